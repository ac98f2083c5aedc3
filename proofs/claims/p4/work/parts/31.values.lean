/-! Values, safe: written by wip/gen/cls.py -/
def tV (kl ks a _b : Nat) : Prop := a = kl ∨ a = ks
theorem vh_1 {n : Nat} {i : Int32} (hn : n ≤ 1000) (h : ¬ (vh n i).toInt = 0) : 0 ≤ i.toInt ∧ i.toInt < (n : Int) := by
  unfold vh at h
  by_cases h1 : i < 0
  · rw [if_pos h1] at h; exact absurd rfl h
  · by_cases h2 : nI n ≤ i
    · rw [if_neg h1, if_pos h2] at h; exact absurd rfl h
    · rw [Int32.lt_iff_toInt_lt] at h1
      rw [Int32.le_iff_toInt_le, nI_toInt (by omega)] at h2
      have h0 : (0 : Int32).toInt = 0 := rfl
      omega
def dgt (ch : Int32) : Int32 := if ch < 48 then 0 else if 57 < ch then 0 else 1
theorem dgt_b (ch : Int32) : dgt ch = 0 ∨ dgt ch = 1 := by
  unfold dgt
  by_cases h1 : ch < 48
  · rw [if_pos h1]; exact Or.inl rfl
  · by_cases h2 : 57 < ch
    · rw [if_neg h1, if_pos h2]; exact Or.inl rfl
    · rw [if_neg h1, if_neg h2]; exact Or.inr rfl

set_option maxHeartbeats 8000000 in
set_option maxRecDepth 100000 in
theorem s_Vl_append (l : Launch) (D : va_G) (ad : Nat → Nat) (cA : Nat → ClassId) (M : ux_M) (hI : IvX M) (k kl ks n : Nat) (hV : vV k kl ks n) (i ch : Int32) : Met l y_Vl_append w_Vl_append ({ frames := 0, cells := 0, slots := 0, locals := 0 }) (va_Pc [.ref (ad k), .int i, .int ch] (ux_B D shX KX ad cA M)) (va_Qi (fun r M1 => IvX M1 ∧ (∀ a b, ¬ (tV kl ks) a b → M1 a b = M a b) ∧ (r = 0 ∨ r = 1)) (ux_E D shX KX ad cA) (ux_A KX ad)) 0 0 (ux_A KX ad) := by
  refine Met.ofW (cc := b_Vl_append) (maxL := 3) (ret := (some .boolean)) (by decide) rfl ?_
  intro p e s m args below meth c s₁ B hml hv
  obtain ⟨rfl, hP, hK, hi, hN⟩ := hv
  have hx := B.exec
  have hb := B.bytes
  have hr := B.returns
  have hts := atoms_spec (ws := w_Vl_append) B.pre
  have hown : s.vm.findClass R_Vl = some m.cls := findClass_of_methodNamed B.named
  have hlocks := B.notSynchronized
  have hT : ∀ w ∈ tb, w.before _ s = true := fun w h => hts w (List.mem_cons_of_mem _ h)
  have hS : va_S (ux_A KX ad) s.heap s.heap [] := va_S.rf
  have hl := lv_entry ([.ref (ad k), .int i, .int ch]) (n := 3) (Nat.le_of_ble_eq_true rfl)
  rw [lg_entry_eq]
  generalize (lg_sl ([.ref (ad k), .int i, .int ch]) ++ List.replicate (3 - (lg_sl ([.ref (ad k), .int i, .int ch])).length) Slot.unset).toArray = ls at hl ⊢
  have hl : lv_has ls 3 [(0, .ref (ad k)), (1, .int i), (2, .int ch)] := hl
  have hF : ∀ a b, ¬ (tV kl ks) a b → M a b = M a b := fun _ _ _ => rfl
  have hU := hV.1
  obtain ⟨hk, hkl, hks, hs, hsl, hss, hn⟩ := hV.1
  obtain ⟨hch, hpl, hps, hpc, hne⟩ := hV.2
  refine lv_iload_n hx hb d_Vl_append_0 rfl (lv_at hl 1 rfl) ?_
  refine lv_if_lt hx hb d_Vl_append_1 rfl (fun h1 => ?_) (fun h1 => ?_)
  · have g1 : i.toInt < 0 := Int32.lt_iff_toInt_lt.mp h1
    have w1 := ti_lo i
    refine lv_iconst (v := 0) hx hb d_Vl_append_33 (by decide) ?_
    exact W.zret (v := 0) hx hb hr (rfl) (fun t ht hW => ⟨⟨0, M, rfl, ⟨hI, hF, Or.inl rfl⟩, by unfold ux_E; rw [ht]; exact hP⟩, hS.F ht⟩) hS.2.2 d_Vl_append_34
  · have g1 : ¬ (i.toInt < 0) := fun q => h1 (Int32.lt_iff_toInt_lt.mpr q)
    have u1 := ti_hi i
    refine lv_iload_n hx hb d_Vl_append_4 rfl (lv_at hl 1 rfl) ?_
    refine lv_aload_n hx hb d_Vl_append_5 rfl (lv_at hl 0 rfl) ?_
    refine ux_get (C := R_Vl) (T := F_Vl) (N := 2) hx hb hT in_Vl hown hK hP hk hs rfl 1 (by decide) (hT _ fl_Vl_15) rfl d_Vl_append_6 ?_
    refine ux_alen hx hb hK hP hks hss rfl d_Vl_append_9 ?_
    have b2 : (nI n).toInt = n := nI_toInt (by omega)
    refine lv_icmp_ge hx hb d_Vl_append_10 rfl (fun h3 => ?_) (fun h3 => ?_)
    · have g3 : (nI n).toInt ≤ i.toInt := Int32.le_iff_toInt_le.mp h3
      have u3 := ti_hi i
      have w3 := ti_lo (nI n)
      refine lv_iconst (v := 0) hx hb d_Vl_append_33 (by decide) ?_
      exact W.zret (v := 0) hx hb hr (rfl) (fun t ht hW => ⟨⟨0, M, rfl, ⟨hI, hF, Or.inl rfl⟩, by unfold ux_E; rw [ht]; exact hP⟩, hS.F ht⟩) hS.2.2 d_Vl_append_34
    · have g3 : ¬ ((nI n).toInt ≤ i.toInt) := fun q => h3 (Int32.le_iff_toInt_le.mpr q)
      have u3 := ti_hi (nI n)
      have w3 := ti_lo i
      refine lv_aload_n hx hb d_Vl_append_13 rfl (lv_at hl 0 rfl) ?_
      refine ux_get (C := R_Vl) (T := F_Vl) (N := 2) hx hb hT in_Vl hown hK hP hk hs rfl 1 (by decide) (hT _ fl_Vl_15) rfl d_Vl_append_14 ?_
      refine lv_iload_n hx hb d_Vl_append_17 rfl (lv_at hl 1 rfl) ?_
      refine ux_iald hx hb hK hP hks hss ((vi (show 0 ≤ i.toInt by omega) (show i.toInt < ((n : Nat) : Int) by omega))) d_Vl_append_18 ?_
      refine lv_if_lt hx hb d_Vl_append_19 rfl (fun h4 => ?_) (fun h4 => ?_)
      · have g4 : (M ks i.toNatClampNeg).toInt < 0 := Int32.lt_iff_toInt_lt.mp h4
        have w4 := ti_lo (M ks i.toNatClampNeg)
        refine lv_iconst (v := 0) hx hb d_Vl_append_33 (by decide) ?_
        exact W.zret (v := 0) hx hb hr (rfl) (fun t ht hW => ⟨⟨0, M, rfl, ⟨hI, hF, Or.inl rfl⟩, by unfold ux_E; rw [ht]; exact hP⟩, hS.F ht⟩) hS.2.2 d_Vl_append_34
      · have g4 : ¬ ((M ks i.toNatClampNeg).toInt < 0) := fun q => h4 (Int32.lt_iff_toInt_lt.mpr q)
        have u4 := ti_hi (M ks i.toNatClampNeg)
        refine lv_aload_n hx hb d_Vl_append_22 rfl (lv_at hl 0 rfl) ?_
        refine ux_get (C := R_Vl) (T := F_Vl) (N := 2) hx hb hT in_Vl hown hK hP hk hs rfl 1 (by decide) (hT _ fl_Vl_15) rfl d_Vl_append_23 ?_
        refine lv_iload_n hx hb d_Vl_append_26 rfl (lv_at hl 1 rfl) ?_
        refine ux_iald hx hb hK hP hks hss ((vi (show 0 ≤ i.toInt by omega) (show i.toInt < ((n : Nat) : Int) by omega))) d_Vl_append_27 ?_
        refine lv_bipush (v := 20) hx hb d_Vl_append_28 (by decide) ?_
        refine lv_icmp_lt hx hb d_Vl_append_30 rfl (fun h5 => ?_) (fun h5 => ?_)
        · have g5 : (M ks i.toNatClampNeg).toInt < 20 := Int32.lt_iff_toInt_lt.mp h5
          have w5 := ti_lo (M ks i.toNatClampNeg)
          refine lv_aload_n hx hb d_Vl_append_35 rfl (lv_at hl 0 rfl) ?_
          refine ux_get (C := R_Vl) (T := F_Vl) (N := 2) hx hb hT in_Vl hown hK hP hk hs rfl 0 (by decide) (hT _ fl_Vl_9) rfl d_Vl_append_36 ?_
          refine lv_iload_n hx hb d_Vl_append_39 rfl (lv_at hl 1 rfl) ?_
          refine lv_bipush (v := 20) hx hb d_Vl_append_40 (by decide) ?_
          refine lv_imul hx hb d_Vl_append_42 ?_
          refine lv_topi (fun x6 ex6 => ?_)
          try have fx6 : x6.toInt = i.toInt * 20 := by rw [ex6]; exact ti_mul (by (try rw [show (20 : Int32).toInt = 20 from rfl]); omega) (by (try rw [show (20 : Int32).toInt = 20 from rfl]); omega)
          refine lv_aload_n hx hb d_Vl_append_43 rfl (lv_at hl 0 rfl) ?_
          refine ux_get (C := R_Vl) (T := F_Vl) (N := 2) hx hb hT in_Vl hown hK hP hk hs rfl 1 (by decide) (hT _ fl_Vl_15) rfl d_Vl_append_44 ?_
          refine lv_iload_n hx hb d_Vl_append_47 rfl (lv_at hl 1 rfl) ?_
          refine ux_iald hx hb hK hP hks hss ((vi (show 0 ≤ i.toInt by omega) (show i.toInt < ((n : Nat) : Int) by omega))) d_Vl_append_48 ?_
          refine lv_iadd hx hb d_Vl_append_49 ?_
          refine lv_topi (fun x7 ex7 => ?_)
          try have fx7 : x7.toInt = x6.toInt + (M ks i.toNatClampNeg).toInt := by rw [ex7]; exact ti_add (by omega) (by omega)
          refine lv_iload_n hx hb d_Vl_append_50 rfl (lv_at hl 2 rfl) ?_
          refine lv_i2c hx hb d_Vl_append_51 rfl ?_
          refine lv_topi (fun x8 ex8 => ?_)
          have fx8 : 0 ≤ x8.toInt ∧ x8.toInt ≤ 65535 := by rw [ex8]; exact ti_i2c _
          refine ux_cast hx hb hK hi hP hS hkl hsl ((vi (show 0 ≤ x7.toInt by omega) (show x7.toInt < ((20 * n : Nat) : Int) by omega))) d_Vl_append_52 (fun H locs hP hS => ?_)
          have b9 := nar_c x8
          have hI := IvX_ch (k := kl) (j := x7.toNatClampNeg) (v := vp_nar .char x8) hI (hpl _) (by omega)
          have hF := fr_wr (k := kl) (j := x7.toNatClampNeg) (v := vp_nar .char x8) hF (by unfold tV; omega)
          generalize eM10 : ux_wr M kl x7.toNatClampNeg (vp_nar .char x8) = M10 at hP hI hF
          refine lv_aload_n hx hb d_Vl_append_53 rfl (lv_at hl 0 rfl) ?_
          refine ux_get (C := R_Vl) (T := F_Vl) (N := 2) hx hb hT in_Vl hown hK hP hk hs rfl 1 (by decide) (hT _ fl_Vl_15) rfl d_Vl_append_54 ?_
          refine lv_iload_n hx hb d_Vl_append_57 rfl (lv_at hl 1 rfl) ?_
          refine lv_dup2_11 hx hb d_Vl_append_58 rfl rfl ?_
          refine ux_iald hx hb hK hP hks hss ((vi (show 0 ≤ i.toInt by omega) (show i.toInt < ((n : Nat) : Int) by omega))) d_Vl_append_59 ?_
          refine lv_iconst (v := 1) hx hb d_Vl_append_60 (by decide) ?_
          refine lv_iadd hx hb d_Vl_append_61 ?_
          refine lv_topi (fun x11 ex11 => ?_)
          try have fx11 : x11.toInt = (M10 ks i.toNatClampNeg).toInt + 1 := by rw [ex11]; exact ti_add (by (try rw [show (1 : Int32).toInt = 1 from rfl]); omega) (by (try rw [show (1 : Int32).toInt = 1 from rfl]); omega)
          refine ux_iast hx hb hK hi hP hS hks hss ((vi (show 0 ≤ i.toInt by omega) (show i.toInt < ((n : Nat) : Int) by omega))) d_Vl_append_62 (fun H locs hP hS => ?_)
          have hI := IvX_free (k := ks) (j := i.toNatClampNeg) (v := x11) hI (hps _) hpc
          have hF := fr_wr (k := ks) (j := i.toNatClampNeg) (v := x11) hF (by unfold tV; omega)
          generalize eM12 : ux_wr M10 ks i.toNatClampNeg x11 = M12 at hP hI hF
          refine lv_iconst (v := 1) hx hb d_Vl_append_63 (by decide) ?_
          exact W.zret (v := 1) hx hb hr (rfl) (fun t ht hW => ⟨⟨1, M12, rfl, ⟨hI, hF, Or.inr rfl⟩, by unfold ux_E; rw [ht]; exact hP⟩, hS.F ht⟩) hS.2.2 d_Vl_append_64
        · have g5 : ¬ ((M ks i.toNatClampNeg).toInt < 20) := fun q => h5 (Int32.lt_iff_toInt_lt.mpr q)
          have u5 := ti_hi (M ks i.toNatClampNeg)
          refine lv_iconst (v := 0) hx hb d_Vl_append_33 (by decide) ?_
          exact W.zret (v := 0) hx hb hr (rfl) (fun t ht hW => ⟨⟨0, M, rfl, ⟨hI, hF, Or.inl rfl⟩, by unfold ux_E; rw [ht]; exact hP⟩, hS.F ht⟩) hS.2.2 d_Vl_append_34

set_option maxHeartbeats 8000000 in
set_option maxRecDepth 100000 in
theorem s_Vl_appendValue (l : Launch) (D : va_G) (ad : Nat → Nat) (cA : Nat → ClassId) (M : ux_M) (hI : IvX M) (k kl ks n : Nat) (hV : vV k kl ks n) (k2 kl2 ks2 n2 : Nat) (hV2 : vV k2 kl2 ks2 n2) (i j : Int32) : Met l y_Vl_appendValue w_Vl_appendValue ({ frames := 1, cells := 0, slots := 0, locals := 22 }) (va_Pc [.ref (ad k), .int i, .ref (ad k2), .int j] (ux_B D shX KX ad cA M)) (va_Qi (fun r M1 => IvX M1 ∧ (∀ a b, ¬ (tV kl ks) a b → M1 a b = M a b) ∧ (r = 0 ∨ r = 1)) (ux_E D shX KX ad cA) (ux_A KX ad)) 0 0 (ux_A KX ad) := by
  refine Met.ofW (cc := b_Vl_appendValue) (maxL := 7) (ret := (some .boolean)) (by decide) rfl ?_
  intro p e s m args below meth c s₁ B hml hv
  obtain ⟨rfl, hP, hK, hi, hN⟩ := hv
  have hx := B.exec
  have hb := B.bytes
  have hr := B.returns
  have hts := atoms_spec (ws := w_Vl_appendValue) B.pre
  have hown : s.vm.findClass R_Vl = some m.cls := findClass_of_methodNamed B.named
  have hlocks := B.notSynchronized
  have hT : ∀ w ∈ tb, w.before _ s = true := fun w h => hts w (List.mem_cons_of_mem _ h)
  have hS : va_S (ux_A KX ad) s.heap s.heap [] := va_S.rf
  have hl := lv_entry ([.ref (ad k), .int i, .ref (ad k2), .int j]) (n := 7) (Nat.le_of_ble_eq_true rfl)
  rw [lg_entry_eq]
  generalize (lg_sl ([.ref (ad k), .int i, .ref (ad k2), .int j]) ++ List.replicate (7 - (lg_sl ([.ref (ad k), .int i, .ref (ad k2), .int j])).length) Slot.unset).toArray = ls at hl ⊢
  have hl : lv_has ls 7 [(0, .ref (ad k)), (1, .int i), (2, .ref (ad k2)), (3, .int j)] := hl
  have hF : ∀ a b, ¬ (tV kl ks) a b → M a b = M a b := fun _ _ _ => rfl
  have hU := hV.1
  obtain ⟨hk, hkl, hks, hs, hsl, hss, hn⟩ := hV.1
  obtain ⟨hch, hpl, hps, hpc, hne⟩ := hV.2
  have hU2 := hV2.1
  obtain ⟨hk2, hkl2, hks2, hs2, hsl2, hss2, hn2⟩ := hV2.1
  obtain ⟨hch2, hpl2, hps2, hpc2, hne2⟩ := hV2.2
  have cut13 : ∀ (nn : Nat) (i_4 i_5 i_6 : Int32) (Mc13 : ux_M) (H : Heap) (locs : List Loc) (ls : Array Slot), (i_4.toInt - i_6.toInt).toNat = nn → (i_5 = 0 ∨ i_5 = 1) → (0 ≤ i_6.toInt) → va_P D classes (ux_w shX KX ad cA Mc13) H → IvX Mc13 → (∀ a b, ¬ (tV kl ks) a b → Mc13 a b = M a b) → va_S (ux_A KX ad) s.heap H locs → lv_has ls 7 [(0, .ref (ad k)), (1, .int i), (2, .ref (ad k2)), (3, .int j), (4, .int i_4), (5, .int i_5), (6, .int i_6)] → W p l e (headSpec w_Vl_appendValue ({ frames := 1, cells := 0, slots := 0, locals := 22 })).room s m (([.ref (ad k), .int i, .ref (ad k2), .int j] : List Value).toArray) below meth c H locs 0 0 (MQ below (va_Qi (fun r M1 => IvX M1 ∧ (∀ a b, ¬ (tV kl ks) a b → M1 a b = M a b) ∧ (r = 0 ∨ r = 1)) (ux_E D shX KX ad cA) (ux_A KX ad)) (([.ref (ad k), .int i, .ref (ad k2), .int j] : List Value).toArray) s 0 0 (ux_A KX ad)) (F0 m 13 ls []) := by
    intro nn
    induction nn using Nat.strongRecOn with
    | ind nn ih13 =>
      intro i_4 i_5 i_6 Mc13 H locs ls hn c13_0 c13_1 hP hI hF hS hl
      refine lv_iload hx hb d_Vl_appendValue_13 (lv_at hl 6 rfl) ?_
      refine lv_iload hx hb d_Vl_appendValue_15 (lv_at hl 4 rfl) ?_
      refine lv_icmp_ge hx hb d_Vl_appendValue_17 rfl (fun h1 => ?_) (fun h1 => ?_)
      · have g1 : i_4.toInt ≤ i_6.toInt := Int32.le_iff_toInt_le.mp h1
        have u1 := ti_hi i_6
        have w1 := ti_lo i_4
        refine lv_iload hx hb d_Vl_appendValue_45 (lv_at hl 5 rfl) ?_
        exact W.zret (v := i_5) hx hb hr (nb_n (by first | assumption | omega)) (fun t ht hW => ⟨⟨i_5, Mc13, rfl, ⟨hI, hF, (by first | assumption | omega)⟩, by unfold ux_E; rw [ht]; exact hP⟩, hS.F ht⟩) hS.2.2 d_Vl_appendValue_47
      · have g1 : ¬ (i_4.toInt ≤ i_6.toInt) := fun q => h1 (Int32.le_iff_toInt_le.mpr q)
        have u1 := ti_hi i_4
        have w1 := ti_lo i_6
        refine lv_iload hx hb d_Vl_appendValue_20 (lv_at hl 5 rfl) ?_
        refine lv_if_eq hx hb d_Vl_appendValue_22 rfl (fun h2 => ?_) (fun h2 => ?_)
        · have g2 : i_5.toInt = 0 := congrArg Int32.toInt h2
          refine lv_iload hx hb d_Vl_appendValue_45 (lv_at hl 5 rfl) ?_
          exact W.zret (v := i_5) hx hb hr (nb_n (by first | assumption | omega)) (fun t ht hW => ⟨⟨i_5, Mc13, rfl, ⟨hI, hF, (by first | assumption | omega)⟩, by unfold ux_E; rw [ht]; exact hP⟩, hS.F ht⟩) hS.2.2 d_Vl_appendValue_47
        · have g2 : ¬ (i_5.toInt = 0) := fun q => h2 (Int32.toInt_inj.mp q)
          refine lv_aload_n hx hb d_Vl_appendValue_25 rfl (lv_at hl 0 rfl) ?_
          refine lv_iload_n hx hb d_Vl_appendValue_26 rfl (lv_at hl 1 rfl) ?_
          refine lv_aload_n hx hb d_Vl_appendValue_27 rfl (lv_at hl 2 rfl) ?_
          refine lv_iload_n hx hb d_Vl_appendValue_28 rfl (lv_at hl 3 rfl) ?_
          refine lv_iload hx hb d_Vl_appendValue_29 (lv_at hl 6 rfl) ?_
          refine ux_calli (va_runV ⟨hx, hb, hml, hown, hts⟩ (c_Vl_letterOf l D shX KX ad cA Mc13 k2 kl2 ks2 n2 hU2 j i_6) (cwV 2 hts (tb_goodV ml_Vl_29 im_Vl_letterOf se_Vl_letterOf ii_Vl kt_Vl_letterOf) rfl rfl rfl (by decide +kernel) ⟨Nat.le_of_ble_eq_true rfl, Nat.le_of_ble_eq_true rfl⟩) (ux_preV hk2 hs2 rfl hP hK hi hN) rfl rfl hl.1 rfl (lv_room (Nat.le_of_ble_eq_true rfl)) d_Vl_appendValue_31 ⟨Nat.zero_le _, Nat.zero_le _⟩) hS (fun r3 M4 H locs q5 hP hS => ?_)
          obtain ⟨q5m, q5e⟩ := q5
          rw [q5m] at hP
          subst q5e
          refine ux_calli (va_runV ⟨hx, hb, hml, hown, hts⟩ (s_Vl_append l D ad cA Mc13 hI k kl ks n hV i (vt Mc13 kl2 ks2 n2 j i_6)) (cwV 2 hts (tb_goodV ml_Vl_33 im_Vl_append se_Vl_append ii_Vl kt_Vl_append) rfl rfl rfl (by decide +kernel) ⟨Nat.le_of_ble_eq_true rfl, Nat.le_of_ble_eq_true rfl⟩) (ux_preV hk hs rfl hP hK hi hN) rfl rfl hl.1 rfl (lv_room (Nat.le_of_ble_eq_true rfl)) d_Vl_appendValue_34 ⟨Nat.zero_le _, Nat.zero_le _⟩) hS (fun r6 M7 H locs q8 hP hS => ?_)
          obtain ⟨hI, fq8, q8p⟩ := q8
          have hF := fr_call hF fq8 (fun a b q => by unfold tV at q; unfold tV; omega)
          refine lv_istore hx hb d_Vl_appendValue_37 hl (by decide) rfl (fun ls hl => ?_)
          have hl : lv_has ls 7 [(5, .int r6), (0, .ref (ad k)), (1, .int i), (2, .ref (ad k2)), (3, .int j), (4, .int i_4), (6, .int i_6)] := hl
          obtain ⟨x9, ex9⟩ : ∃ z : Int32, z = i_6 + 1 := ⟨_, rfl⟩
          refine lv_iinc (k := 6) (v := x9) hx hb d_Vl_appendValue_39 hl rfl ex9.symm (by decide) rfl (fun ls hl => ?_)
          have hl : lv_has ls 7 [(6, .int x9), (5, .int r6), (0, .ref (ad k)), (1, .int i), (2, .ref (ad k2)), (3, .int j), (4, .int i_4)] := hl
          try have fx9 : x9.toInt = i_6.toInt + 1 := by rw [ex9]; exact ti_add (by (try rw [show (1 : Int32).toInt = 1 from rfl]); omega) (by (try rw [show (1 : Int32).toInt = 1 from rfl]); omega)
          refine lv_goto hx hb d_Vl_appendValue_42 rfl ?_
          exact ih13 ((i_4.toInt - x9.toInt).toNat) (by omega) i_4 r6 x9 M7 _ _ ls rfl (show r6 = 0 ∨ r6 = 1 from by first | omega | assumption | exact Or.inl rfl | exact Or.inr rfl | rfl | decide) (show 0 ≤ x9.toInt from by first | omega | assumption | exact Or.inl rfl | exact Or.inr rfl | rfl | decide) hP hI hF hS (lv_sub hl [2, 3, 4, 5, 6, 1, 0] rfl)
  refine lv_aload_n hx hb d_Vl_appendValue_0 rfl (lv_at hl 2 rfl) ?_
  refine lv_iload_n hx hb d_Vl_appendValue_1 rfl (lv_at hl 3 rfl) ?_
  refine ux_calli (va_runV ⟨hx, hb, hml, hown, hts⟩ (c_Vl_sizeOf l D shX KX ad cA M k2 kl2 ks2 n2 hU2 j) (cwV 1 hts (tb_goodV ml_Vl_25 im_Vl_sizeOf se_Vl_sizeOf ii_Vl kt_Vl_sizeOf) rfl rfl rfl (by decide +kernel) ⟨Nat.le_of_ble_eq_true rfl, Nat.le_of_ble_eq_true rfl⟩) (ux_preV hk2 hs2 rfl hP hK hi hN) rfl rfl hl.1 rfl (lv_room (Nat.le_of_ble_eq_true rfl)) d_Vl_appendValue_2 ⟨Nat.zero_le _, Nat.zero_le _⟩) hS (fun r10 M11 H locs q12 hP hS => ?_)
  obtain ⟨q12m, q12e⟩ := q12
  rw [q12m] at hP
  subst q12e
  refine lv_istore hx hb d_Vl_appendValue_5 hl (by decide) rfl (fun ls hl => ?_)
  have hl : lv_has ls 7 [(4, .int (vz M ks2 n2 j)), (0, .ref (ad k)), (1, .int i), (2, .ref (ad k2)), (3, .int j)] := hl
  refine lv_iconst (v := 1) hx hb d_Vl_appendValue_7 (by decide) ?_
  refine lv_istore hx hb d_Vl_appendValue_8 hl (by decide) rfl (fun ls hl => ?_)
  have hl : lv_has ls 7 [(5, .int 1), (4, .int (vz M ks2 n2 j)), (0, .ref (ad k)), (1, .int i), (2, .ref (ad k2)), (3, .int j)] := hl
  refine lv_iconst (v := 0) hx hb d_Vl_appendValue_10 (by decide) ?_
  refine lv_istore hx hb d_Vl_appendValue_11 hl (by decide) rfl (fun ls hl => ?_)
  have hl : lv_has ls 7 [(6, .int 0), (5, .int 1), (4, .int (vz M ks2 n2 j)), (0, .ref (ad k)), (1, .int i), (2, .ref (ad k2)), (3, .int j)] := hl
  exact cut13 (((vz M ks2 n2 j).toInt - 0).toNat) (vz M ks2 n2 j) 1 0 M _ _ ls rfl (show (1 : Int32) = 0 ∨ (1 : Int32) = 1 from by first | omega | assumption | exact Or.inl rfl | exact Or.inr rfl | rfl | decide) (show 0 ≤ 0 from by first | omega | assumption | exact Or.inl rfl | exact Or.inr rfl | rfl | decide) hP hI hF hS (lv_sub hl [3, 4, 5, 6, 2, 1, 0] rfl)

set_option maxHeartbeats 8000000 in
set_option maxRecDepth 100000 in
theorem s_Vl_copy (l : Launch) (D : va_G) (ad : Nat → Nat) (cA : Nat → ClassId) (M : ux_M) (hI : IvX M) (k kl ks n : Nat) (hV : vV k kl ks n) (k2 kl2 ks2 n2 : Nat) (hV2 : vV k2 kl2 ks2 n2) (i j : Int32) : Met l y_Vl_copy w_Vl_copy ({ frames := 1, cells := 0, slots := 0, locals := 21 }) (va_Pc [.ref (ad k), .int i, .ref (ad k2), .int j] (ux_B D shX KX ad cA M)) (va_Qv (fun M1 => IvX M1 ∧ (∀ a b, ¬ (tV kl ks) a b → M1 a b = M a b) ∧ (True)) (ux_E D shX KX ad cA) (ux_A KX ad)) 0 0 (ux_A KX ad) := by
  refine Met.ofW (cc := b_Vl_copy) (maxL := 4) (ret := none) (by decide) rfl ?_
  intro p e s m args below meth c s₁ B hml hv
  obtain ⟨rfl, hP, hK, hi, hN⟩ := hv
  have hx := B.exec
  have hb := B.bytes
  have hr := B.returns
  have hts := atoms_spec (ws := w_Vl_copy) B.pre
  have hown : s.vm.findClass R_Vl = some m.cls := findClass_of_methodNamed B.named
  have hlocks := B.notSynchronized
  have hT : ∀ w ∈ tb, w.before _ s = true := fun w h => hts w (List.mem_cons_of_mem _ h)
  have hS : va_S (ux_A KX ad) s.heap s.heap [] := va_S.rf
  have hl := lv_entry ([.ref (ad k), .int i, .ref (ad k2), .int j]) (n := 4) (Nat.le_of_ble_eq_true rfl)
  rw [lg_entry_eq]
  generalize (lg_sl ([.ref (ad k), .int i, .ref (ad k2), .int j]) ++ List.replicate (4 - (lg_sl ([.ref (ad k), .int i, .ref (ad k2), .int j])).length) Slot.unset).toArray = ls at hl ⊢
  have hl : lv_has ls 4 [(0, .ref (ad k)), (1, .int i), (2, .ref (ad k2)), (3, .int j)] := hl
  have hF : ∀ a b, ¬ (tV kl ks) a b → M a b = M a b := fun _ _ _ => rfl
  have hU := hV.1
  obtain ⟨hk, hkl, hks, hs, hsl, hss, hn⟩ := hV.1
  obtain ⟨hch, hpl, hps, hpc, hne⟩ := hV.2
  have hU2 := hV2.1
  obtain ⟨hk2, hkl2, hks2, hs2, hsl2, hss2, hn2⟩ := hV2.1
  obtain ⟨hch2, hpl2, hps2, hpc2, hne2⟩ := hV2.2
  refine lv_aload_n hx hb d_Vl_copy_0 rfl (lv_at hl 0 rfl) ?_
  refine lv_iload_n hx hb d_Vl_copy_1 rfl (lv_at hl 1 rfl) ?_
  refine ux_calli (va_runV ⟨hx, hb, hml, hown, hts⟩ (c_Vl_holds l D shX KX ad cA M k kl ks n hU i) (cwV 1 hts (tb_goodV ml_Vl_37 im_Vl_holds se_Vl_holds ii_Vl kt_Vl_holds) rfl rfl rfl (by decide +kernel) ⟨Nat.le_of_ble_eq_true rfl, Nat.le_of_ble_eq_true rfl⟩) (ux_preV hk hs rfl hP hK hi hN) rfl rfl hl.1 rfl (lv_room (Nat.le_of_ble_eq_true rfl)) d_Vl_copy_2 ⟨Nat.zero_le _, Nat.zero_le _⟩) hS (fun r1 M2 H locs q3 hP hS => ?_)
  obtain ⟨q3m, q3e⟩ := q3
  rw [q3m] at hP
  subst q3e
  refine lv_if_eq hx hb d_Vl_copy_5 rfl (fun h4 => ?_) (fun h4 => ?_)
  · have g4 : (vh n i).toInt = 0 := congrArg Int32.toInt h4
    exact W.vret hx hb hr (fun t ht hW => ⟨⟨M, rfl, ⟨hI, hF, trivial⟩, by unfold ux_E; rw [ht]; exact hP⟩, hS.F ht⟩) hS.2.2 d_Vl_copy_49
  · have g4 : ¬ ((vh n i).toInt = 0) := fun q => h4 (Int32.toInt_inj.mp q)
    refine lv_aload_n hx hb d_Vl_copy_8 rfl (lv_at hl 2 rfl) ?_
    refine lv_iload_n hx hb d_Vl_copy_9 rfl (lv_at hl 3 rfl) ?_
    refine ux_calli (va_runV ⟨hx, hb, hml, hown, hts⟩ (c_Vl_holds l D shX KX ad cA M k2 kl2 ks2 n2 hU2 j) (cwV 1 hts (tb_goodV ml_Vl_37 im_Vl_holds se_Vl_holds ii_Vl kt_Vl_holds) rfl rfl rfl (by decide +kernel) ⟨Nat.le_of_ble_eq_true rfl, Nat.le_of_ble_eq_true rfl⟩) (ux_preV hk2 hs2 rfl hP hK hi hN) rfl rfl hl.1 rfl (lv_room (Nat.le_of_ble_eq_true rfl)) d_Vl_copy_10 ⟨Nat.zero_le _, Nat.zero_le _⟩) hS (fun r5 M6 H locs q7 hP hS => ?_)
    obtain ⟨q7m, q7e⟩ := q7
    rw [q7m] at hP
    subst q7e
    refine lv_if_eq hx hb d_Vl_copy_13 rfl (fun h8 => ?_) (fun h8 => ?_)
    · have g8 : (vh n2 j).toInt = 0 := congrArg Int32.toInt h8
      exact W.vret hx hb hr (fun t ht hW => ⟨⟨M, rfl, ⟨hI, hF, trivial⟩, by unfold ux_E; rw [ht]; exact hP⟩, hS.F ht⟩) hS.2.2 d_Vl_copy_49
    · have g8 : ¬ ((vh n2 j).toInt = 0) := fun q => h8 (Int32.toInt_inj.mp q)
      have hh1 := vh_1 (i := i) hn (by assumption)
      have hh2 := vh_1 (i := j) hn2 (by assumption)
      refine lv_aload_n hx hb d_Vl_copy_16 rfl (lv_at hl 0 rfl) ?_
      refine ux_get (C := R_Vl) (T := F_Vl) (N := 2) hx hb hT in_Vl hown hK hP hk hs rfl 1 (by decide) (hT _ fl_Vl_15) rfl d_Vl_copy_17 ?_
      refine lv_iload_n hx hb d_Vl_copy_20 rfl (lv_at hl 1 rfl) ?_
      refine lv_aload_n hx hb d_Vl_copy_21 rfl (lv_at hl 2 rfl) ?_
      refine ux_get (C := R_Vl) (T := F_Vl) (N := 2) hx hb hT in_Vl hown hK hP hk2 hs2 rfl 1 (by decide) (hT _ fl_Vl_15) rfl d_Vl_copy_22 ?_
      refine lv_iload_n hx hb d_Vl_copy_25 rfl (lv_at hl 3 rfl) ?_
      refine ux_iald hx hb hK hP hks2 hss2 ((vi (show 0 ≤ j.toInt by omega) (show j.toInt < ((n2 : Nat) : Int) by omega))) d_Vl_copy_26 ?_
      refine ux_iast hx hb hK hi hP hS hks hss ((vi (show 0 ≤ i.toInt by omega) (show i.toInt < ((n : Nat) : Int) by omega))) d_Vl_copy_27 (fun H locs hP hS => ?_)
      have hI := IvX_free (k := ks) (j := i.toNatClampNeg) (v := M ks2 j.toNatClampNeg) hI (hps _) hpc
      have hF := fr_wr (k := ks) (j := i.toNatClampNeg) (v := M ks2 j.toNatClampNeg) hF (by unfold tV; omega)
      generalize eM9 : ux_wr M ks i.toNatClampNeg (M ks2 j.toNatClampNeg) = M9 at hP hI hF
      refine lv_aload_n hx hb d_Vl_copy_28 rfl (lv_at hl 2 rfl) ?_
      refine ux_get (C := R_Vl) (T := F_Vl) (N := 2) hx hb hT in_Vl hown hK hP hk2 hs2 rfl 0 (by decide) (hT _ fl_Vl_9) rfl d_Vl_copy_29 ?_
      refine lv_iload_n hx hb d_Vl_copy_32 rfl (lv_at hl 3 rfl) ?_
      refine lv_bipush (v := 20) hx hb d_Vl_copy_33 (by decide) ?_
      refine lv_imul hx hb d_Vl_copy_35 ?_
      refine lv_topi (fun x10 ex10 => ?_)
      try have fx10 : x10.toInt = j.toInt * 20 := by rw [ex10]; exact ti_mul (by (try rw [show (20 : Int32).toInt = 20 from rfl]); omega) (by (try rw [show (20 : Int32).toInt = 20 from rfl]); omega)
      refine lv_aload_n hx hb d_Vl_copy_36 rfl (lv_at hl 0 rfl) ?_
      refine ux_get (C := R_Vl) (T := F_Vl) (N := 2) hx hb hT in_Vl hown hK hP hk hs rfl 0 (by decide) (hT _ fl_Vl_9) rfl d_Vl_copy_37 ?_
      refine lv_iload_n hx hb d_Vl_copy_40 rfl (lv_at hl 1 rfl) ?_
      refine lv_bipush (v := 20) hx hb d_Vl_copy_41 (by decide) ?_
      refine lv_imul hx hb d_Vl_copy_43 ?_
      refine lv_topi (fun x11 ex11 => ?_)
      try have fx11 : x11.toInt = i.toInt * 20 := by rw [ex11]; exact ti_mul (by (try rw [show (20 : Int32).toInt = 20 from rfl]); omega) (by (try rw [show (20 : Int32).toInt = 20 from rfl]); omega)
      refine lv_bipush (v := 20) hx hb d_Vl_copy_44 (by decide) ?_
      refine ux_copy (ty := .char) hx hb (by rw [hml]; exact hl.1.symm) hown (hT _ ml_Vl_41) (hT _ tw_415) (hT _ tw_414) (hT _ ii_Sy) hK hi hP hS hkl2 hkl hsl2 hsl rfl rfl (show 0 ≤ x10.toInt by omega) (show 0 ≤ x11.toInt by omega) (show 0 ≤ (20 : Int32).toInt by decide) (by (try rw [show (20 : Int32).toInt = 20 from rfl]); omega) (by (try rw [show (20 : Int32).toInt = 20 from rfl]); omega) (fun j => ch_f (ivch hI hch2 j).1 (ivch hI hch2 j).2) (Nat.le_of_ble_eq_true rfl) (Nat.le_of_ble_eq_true rfl) d_Vl_copy_46 (fun H locs hP hS => ?_)
      have hI := IvX_cp (k0 := kl2) (k1 := kl) (sp := x10.toNatClampNeg) (dp := x11.toNatClampNeg) (n := (20 : Int32).toNatClampNeg) hI (hpl) (fun _ => hch2)
      have hF := fr_cp (k0 := kl2) (k1 := kl) (sp := x10.toNatClampNeg) (dp := x11.toNatClampNeg) (n := (20 : Int32).toNatClampNeg) hF (fun b => by unfold tV; omega)
      generalize eM12 : ux_cp M9 kl2 kl x10.toNatClampNeg x11.toNatClampNeg (20 : Int32).toNatClampNeg = M12 at hP hI hF
      exact W.vret hx hb hr (fun t ht hW => ⟨⟨M12, rfl, ⟨hI, hF, trivial⟩, by unfold ux_E; rw [ht]; exact hP⟩, hS.F ht⟩) hS.2.2 d_Vl_copy_49

set_option maxHeartbeats 8000000 in
set_option maxRecDepth 100000 in
theorem s_Vl_copyStretch (l : Launch) (D : va_G) (ad : Nat → Nat) (cA : Nat → ClassId) (M : ux_M) (hI : IvX M) (k kl ks n : Nat) (hV : vV k kl ks n) (i a b : Int32) (ha : 0 ≤ a.toInt) (ha2 : a.toInt ≤ 1000) (hb2 : 0 ≤ b.toInt) (hb3 : b.toInt ≤ 1000) : Met l y_Vl_copyStretch w_Vl_copyStretch ({ frames := 1, cells := 0, slots := 0, locals := 21 }) (va_Pc [.ref (ad k), .int i, .ref (ad 1), .int a, .int b] (ux_B D shX KX ad cA M)) (va_Qv (fun M1 => IvX M1 ∧ (∀ a b, ¬ (tV kl ks) a b → M1 a b = M a b) ∧ (True)) (ux_E D shX KX ad cA) (ux_A KX ad)) 0 0 (ux_A KX ad) := by
  refine Met.ofW (cc := b_Vl_copyStretch) (maxL := 6) (ret := none) (by decide) rfl ?_
  intro p e s m args below meth c s₁ B hml hv
  obtain ⟨rfl, hP, hK, hi, hN⟩ := hv
  have hx := B.exec
  have hb := B.bytes
  have hr := B.returns
  have hts := atoms_spec (ws := w_Vl_copyStretch) B.pre
  have hown : s.vm.findClass R_Vl = some m.cls := findClass_of_methodNamed B.named
  have hlocks := B.notSynchronized
  have hT : ∀ w ∈ tb, w.before _ s = true := fun w h => hts w (List.mem_cons_of_mem _ h)
  have hS : va_S (ux_A KX ad) s.heap s.heap [] := va_S.rf
  have hl := lv_entry ([.ref (ad k), .int i, .ref (ad 1), .int a, .int b]) (n := 6) (Nat.le_of_ble_eq_true rfl)
  rw [lg_entry_eq]
  generalize (lg_sl ([.ref (ad k), .int i, .ref (ad 1), .int a, .int b]) ++ List.replicate (6 - (lg_sl ([.ref (ad k), .int i, .ref (ad 1), .int a, .int b])).length) Slot.unset).toArray = ls at hl ⊢
  have hl : lv_has ls 6 [(0, .ref (ad k)), (1, .int i), (2, .ref (ad 1)), (3, .int a), (4, .int b)] := hl
  have hF : ∀ a b, ¬ (tV kl ks) a b → M a b = M a b := fun _ _ _ => rfl
  have hU := hV.1
  obtain ⟨hk, hkl, hks, hs, hsl, hss, hn⟩ := hV.1
  obtain ⟨hch, hpl, hps, hpc, hne⟩ := hV.2
  refine lv_iload hx hb d_Vl_copyStretch_0 (lv_at hl 4 rfl) ?_
  refine lv_iload_n hx hb d_Vl_copyStretch_2 rfl (lv_at hl 3 rfl) ?_
  refine lv_isub hx hb d_Vl_copyStretch_3 ?_
  refine lv_topi (fun x1 ex1 => ?_)
  try have fx1 : x1.toInt = b.toInt - a.toInt := by rw [ex1]; exact ti_sub (by omega) (by omega)
  refine lv_istore hx hb d_Vl_copyStretch_4 hl (by decide) rfl (fun ls hl => ?_)
  have hl : lv_has ls 6 [(5, .int x1), (0, .ref (ad k)), (1, .int i), (2, .ref (ad 1)), (3, .int a), (4, .int b)] := hl
  refine lv_aload_n hx hb d_Vl_copyStretch_6 rfl (lv_at hl 1 rfl) ?_
  refine lv_iload_n hx hb d_Vl_copyStretch_7 rfl (lv_at hl 2 rfl) ?_
  refine ux_calli (va_runV ⟨hx, hb, hml, hown, hts⟩ (c_Vl_holds l D shX KX ad cA M k kl ks n hU i) (cwV 1 hts (tb_goodV ml_Vl_37 im_Vl_holds se_Vl_holds ii_Vl kt_Vl_holds) rfl rfl rfl (by decide +kernel) ⟨Nat.le_of_ble_eq_true rfl, Nat.le_of_ble_eq_true rfl⟩) (ux_preV hk hs rfl hP hK hi hN) rfl rfl hl.1 rfl (lv_room (Nat.le_of_ble_eq_true rfl)) d_Vl_copyStretch_8 ⟨Nat.zero_le _, Nat.zero_le _⟩) hS (fun r2 M3 H locs q4 hP hS => ?_)
  obtain ⟨q4m, q4e⟩ := q4
  rw [q4m] at hP
  subst q4e
  refine lv_if_eq hx hb d_Vl_copyStretch_11 rfl (fun h5 => ?_) (fun h5 => ?_)
  · have g5 : (vh n i).toInt = 0 := congrArg Int32.toInt h5
    exact W.vret hx hb hr (fun t ht hW => ⟨⟨M, rfl, ⟨hI, hF, trivial⟩, by unfold ux_E; rw [ht]; exact hP⟩, hS.F ht⟩) hS.2.2 d_Vl_copyStretch_30
  · have g5 : ¬ ((vh n i).toInt = 0) := fun q => h5 (Int32.toInt_inj.mp q)
    have hh1 := vh_1 (i := i) hn (by assumption)
    refine lv_iload_n hx hb d_Vl_copyStretch_14 rfl (lv_at hl 4 rfl) ?_
    refine lv_if_lt hx hb d_Vl_copyStretch_15 rfl (fun h6 => ?_) (fun h6 => ?_)
    · have g6 : a.toInt < 0 := Int32.lt_iff_toInt_lt.mp h6
      have w6 := ti_lo a
      exact W.vret hx hb hr (fun t ht hW => ⟨⟨M, rfl, ⟨hI, hF, trivial⟩, by unfold ux_E; rw [ht]; exact hP⟩, hS.F ht⟩) hS.2.2 d_Vl_copyStretch_30
    · have g6 : ¬ (a.toInt < 0) := fun q => h6 (Int32.lt_iff_toInt_lt.mpr q)
      have u6 := ti_hi a
      refine lv_iload hx hb d_Vl_copyStretch_18 (lv_at hl 0 rfl) ?_
      refine lv_if_lt hx hb d_Vl_copyStretch_20 rfl (fun h7 => ?_) (fun h7 => ?_)
      · have g7 : x1.toInt < 0 := Int32.lt_iff_toInt_lt.mp h7
        have w7 := ti_lo x1
        exact W.vret hx hb hr (fun t ht hW => ⟨⟨M, rfl, ⟨hI, hF, trivial⟩, by unfold ux_E; rw [ht]; exact hP⟩, hS.F ht⟩) hS.2.2 d_Vl_copyStretch_30
      · have g7 : ¬ (x1.toInt < 0) := fun q => h7 (Int32.lt_iff_toInt_lt.mpr q)
        have u7 := ti_hi x1
        refine lv_iload hx hb d_Vl_copyStretch_23 (lv_at hl 5 rfl) ?_
        refine lv_aload_n hx hb d_Vl_copyStretch_25 rfl (lv_at hl 3 rfl) ?_
        refine ux_alen hx hb hK hP (by decide) rfl rfl d_Vl_copyStretch_26 ?_
        refine lv_topi (fun z8 hz8 => ?_)
        rw [show nI 200 = 200 from rfl] at hz8
        subst hz8
        refine lv_icmp_le hx hb d_Vl_copyStretch_27 rfl (fun h9 => ?_) (fun h9 => ?_)
        · have g9 : b.toInt ≤ 200 := Int32.le_iff_toInt_le.mp h9
          have w9 := ti_lo b
          refine lv_aload_n hx hb d_Vl_copyStretch_31 rfl (lv_at hl 1 rfl) ?_
          refine ux_get (C := R_Vl) (T := F_Vl) (N := 2) hx hb hT in_Vl hown hK hP hk hs rfl 1 (by decide) (hT _ fl_Vl_15) rfl d_Vl_copyStretch_32 ?_
          refine lv_iload_n hx hb d_Vl_copyStretch_35 rfl (lv_at hl 2 rfl) ?_
          refine lv_iload hx hb d_Vl_copyStretch_36 (lv_at hl 0 rfl) ?_
          refine ux_iast hx hb hK hi hP hS hks hss ((vi (show 0 ≤ i.toInt by omega) (show i.toInt < ((n : Nat) : Int) by omega))) d_Vl_copyStretch_38 (fun H locs hP hS => ?_)
          have hI := IvX_free (k := ks) (j := i.toNatClampNeg) (v := x1) hI (hps _) hpc
          have hF := fr_wr (k := ks) (j := i.toNatClampNeg) (v := x1) hF (by unfold tV; omega)
          generalize eM10 : ux_wr M ks i.toNatClampNeg x1 = M10 at hP hI hF
          refine lv_iload hx hb d_Vl_copyStretch_39 (lv_at hl 0 rfl) ?_
          refine lv_bipush (v := 20) hx hb d_Vl_copyStretch_41 (by decide) ?_
          refine lv_icmp_gt hx hb d_Vl_copyStretch_43 rfl (fun h11 => ?_) (fun h11 => ?_)
          · have g11 : 20 < x1.toInt := Int32.lt_iff_toInt_lt.mp h11
            have u11 := ti_hi x1
            exact W.vret hx hb hr (fun t ht hW => ⟨⟨M10, rfl, ⟨hI, hF, trivial⟩, by unfold ux_E; rw [ht]; exact hP⟩, hS.F ht⟩) hS.2.2 d_Vl_copyStretch_61
          · have g11 : ¬ (20 < x1.toInt) := fun q => h11 (Int32.lt_iff_toInt_lt.mpr q)
            have w11 := ti_lo x1
            refine lv_aload_n hx hb d_Vl_copyStretch_46 rfl (lv_at hl 3 rfl) ?_
            refine lv_iload_n hx hb d_Vl_copyStretch_47 rfl (lv_at hl 4 rfl) ?_
            refine lv_aload_n hx hb d_Vl_copyStretch_48 rfl (lv_at hl 1 rfl) ?_
            refine ux_get (C := R_Vl) (T := F_Vl) (N := 2) hx hb hT in_Vl hown hK hP hk hs rfl 0 (by decide) (hT _ fl_Vl_9) rfl d_Vl_copyStretch_49 ?_
            refine lv_iload_n hx hb d_Vl_copyStretch_52 rfl (lv_at hl 2 rfl) ?_
            refine lv_bipush (v := 20) hx hb d_Vl_copyStretch_53 (by decide) ?_
            refine lv_imul hx hb d_Vl_copyStretch_55 ?_
            refine lv_topi (fun x12 ex12 => ?_)
            try have fx12 : x12.toInt = i.toInt * 20 := by rw [ex12]; exact ti_mul (by (try rw [show (20 : Int32).toInt = 20 from rfl]); omega) (by (try rw [show (20 : Int32).toInt = 20 from rfl]); omega)
            refine lv_iload hx hb d_Vl_copyStretch_56 (lv_at hl 0 rfl) ?_
            refine ux_copy (ty := .char) hx hb (by rw [hml]; exact hl.1.symm) hown (hT _ ml_Vl_41) (hT _ tw_415) (hT _ tw_414) (hT _ ii_Sy) hK hi hP hS (by decide) hkl rfl hsl rfl rfl (show 0 ≤ a.toInt by omega) (show 0 ≤ x12.toInt by omega) (show 0 ≤ x1.toInt by omega) (by omega) (by omega) (fun j => ch_f (ivch hI (by unfold pch; omega) j).1 (ivch hI (by unfold pch; omega) j).2) (Nat.le_of_ble_eq_true rfl) (Nat.le_of_ble_eq_true rfl) d_Vl_copyStretch_58 (fun H locs hP hS => ?_)
            have hI := IvX_cp (k0 := 1) (k1 := kl) (sp := a.toNatClampNeg) (dp := x12.toNatClampNeg) (n := x1.toNatClampNeg) hI (hpl) (fun _ => by unfold pch; omega)
            have hF := fr_cp (k0 := 1) (k1 := kl) (sp := a.toNatClampNeg) (dp := x12.toNatClampNeg) (n := x1.toNatClampNeg) hF (fun b => by unfold tV; omega)
            generalize eM13 : ux_cp M10 1 kl a.toNatClampNeg x12.toNatClampNeg x1.toNatClampNeg = M13 at hP hI hF
            exact W.vret hx hb hr (fun t ht hW => ⟨⟨M13, rfl, ⟨hI, hF, trivial⟩, by unfold ux_E; rw [ht]; exact hP⟩, hS.F ht⟩) hS.2.2 d_Vl_copyStretch_61
        · have g9 : ¬ (b.toInt ≤ 200) := fun q => h9 (Int32.le_iff_toInt_le.mpr q)
          have u9 := ti_hi b
          exact W.vret hx hb hr (fun t ht hW => ⟨⟨M, rfl, ⟨hI, hF, trivial⟩, by unfold ux_E; rw [ht]; exact hP⟩, hS.F ht⟩) hS.2.2 d_Vl_copyStretch_30

set_option maxHeartbeats 8000000 in
set_option maxRecDepth 100000 in
theorem s_Vl_dropFirst (l : Launch) (D : va_G) (ad : Nat → Nat) (cA : Nat → ClassId) (M : ux_M) (hI : IvX M) (k kl ks n : Nat) (hV : vV k kl ks n) (i many : Int32) : Met l y_Vl_dropFirst w_Vl_dropFirst ({ frames := 1, cells := 0, slots := 0, locals := 21 }) (va_Pc [.ref (ad k), .int i, .int many] (ux_B D shX KX ad cA M)) (va_Qv (fun M1 => IvX M1 ∧ (∀ a b, ¬ (tV kl ks) a b → M1 a b = M a b) ∧ (True)) (ux_E D shX KX ad cA) (ux_A KX ad)) 0 0 (ux_A KX ad) := by
  refine Met.ofW (cc := b_Vl_dropFirst) (maxL := 4) (ret := none) (by decide) rfl ?_
  intro p e s m args below meth c s₁ B hml hv
  obtain ⟨rfl, hP, hK, hi, hN⟩ := hv
  have hx := B.exec
  have hb := B.bytes
  have hr := B.returns
  have hts := atoms_spec (ws := w_Vl_dropFirst) B.pre
  have hown : s.vm.findClass R_Vl = some m.cls := findClass_of_methodNamed B.named
  have hlocks := B.notSynchronized
  have hT : ∀ w ∈ tb, w.before _ s = true := fun w h => hts w (List.mem_cons_of_mem _ h)
  have hS : va_S (ux_A KX ad) s.heap s.heap [] := va_S.rf
  have hl := lv_entry ([.ref (ad k), .int i, .int many]) (n := 4) (Nat.le_of_ble_eq_true rfl)
  rw [lg_entry_eq]
  generalize (lg_sl ([.ref (ad k), .int i, .int many]) ++ List.replicate (4 - (lg_sl ([.ref (ad k), .int i, .int many])).length) Slot.unset).toArray = ls at hl ⊢
  have hl : lv_has ls 4 [(0, .ref (ad k)), (1, .int i), (2, .int many)] := hl
  have hF : ∀ a b, ¬ (tV kl ks) a b → M a b = M a b := fun _ _ _ => rfl
  have hU := hV.1
  obtain ⟨hk, hkl, hks, hs, hsl, hss, hn⟩ := hV.1
  obtain ⟨hch, hpl, hps, hpc, hne⟩ := hV.2
  refine lv_aload_n hx hb d_Vl_dropFirst_0 rfl (lv_at hl 0 rfl) ?_
  refine lv_iload_n hx hb d_Vl_dropFirst_1 rfl (lv_at hl 1 rfl) ?_
  refine ux_calli (va_runV ⟨hx, hb, hml, hown, hts⟩ (c_Vl_holds l D shX KX ad cA M k kl ks n hU i) (cwV 1 hts (tb_goodV ml_Vl_37 im_Vl_holds se_Vl_holds ii_Vl kt_Vl_holds) rfl rfl rfl (by decide +kernel) ⟨Nat.le_of_ble_eq_true rfl, Nat.le_of_ble_eq_true rfl⟩) (ux_preV hk hs rfl hP hK hi hN) rfl rfl hl.1 rfl (lv_room (Nat.le_of_ble_eq_true rfl)) d_Vl_dropFirst_2 ⟨Nat.zero_le _, Nat.zero_le _⟩) hS (fun r1 M2 H locs q3 hP hS => ?_)
  obtain ⟨q3m, q3e⟩ := q3
  rw [q3m] at hP
  subst q3e
  refine lv_if_eq hx hb d_Vl_dropFirst_5 rfl (fun h4 => ?_) (fun h4 => ?_)
  · have g4 : (vh n i).toInt = 0 := congrArg Int32.toInt h4
    exact W.vret hx hb hr (fun t ht hW => ⟨⟨M, rfl, ⟨hI, hF, trivial⟩, by unfold ux_E; rw [ht]; exact hP⟩, hS.F ht⟩) hS.2.2 d_Vl_dropFirst_33
  · have g4 : ¬ ((vh n i).toInt = 0) := fun q => h4 (Int32.toInt_inj.mp q)
    have hh1 := vh_1 (i := i) hn (by assumption)
    refine lv_iload_n hx hb d_Vl_dropFirst_8 rfl (lv_at hl 2 rfl) ?_
    refine lv_if_lt hx hb d_Vl_dropFirst_9 rfl (fun h5 => ?_) (fun h5 => ?_)
    · have g5 : many.toInt < 0 := Int32.lt_iff_toInt_lt.mp h5
      have w5 := ti_lo many
      exact W.vret hx hb hr (fun t ht hW => ⟨⟨M, rfl, ⟨hI, hF, trivial⟩, by unfold ux_E; rw [ht]; exact hP⟩, hS.F ht⟩) hS.2.2 d_Vl_dropFirst_33
    · have g5 : ¬ (many.toInt < 0) := fun q => h5 (Int32.lt_iff_toInt_lt.mpr q)
      have u5 := ti_hi many
      refine lv_iload_n hx hb d_Vl_dropFirst_12 rfl (lv_at hl 2 rfl) ?_
      refine lv_aload_n hx hb d_Vl_dropFirst_13 rfl (lv_at hl 0 rfl) ?_
      refine ux_get (C := R_Vl) (T := F_Vl) (N := 2) hx hb hT in_Vl hown hK hP hk hs rfl 1 (by decide) (hT _ fl_Vl_15) rfl d_Vl_dropFirst_14 ?_
      refine lv_iload_n hx hb d_Vl_dropFirst_17 rfl (lv_at hl 1 rfl) ?_
      refine ux_iald hx hb hK hP hks hss ((vi (show 0 ≤ i.toInt by omega) (show i.toInt < ((n : Nat) : Int) by omega))) d_Vl_dropFirst_18 ?_
      refine lv_icmp_gt hx hb d_Vl_dropFirst_19 rfl (fun h6 => ?_) (fun h6 => ?_)
      · have g6 : (M ks i.toNatClampNeg).toInt < many.toInt := Int32.lt_iff_toInt_lt.mp h6
        have u6 := ti_hi many
        have w6 := ti_lo (M ks i.toNatClampNeg)
        exact W.vret hx hb hr (fun t ht hW => ⟨⟨M, rfl, ⟨hI, hF, trivial⟩, by unfold ux_E; rw [ht]; exact hP⟩, hS.F ht⟩) hS.2.2 d_Vl_dropFirst_33
      · have g6 : ¬ ((M ks i.toNatClampNeg).toInt < many.toInt) := fun q => h6 (Int32.lt_iff_toInt_lt.mpr q)
        have u6 := ti_hi (M ks i.toNatClampNeg)
        have w6 := ti_lo many
        refine lv_aload_n hx hb d_Vl_dropFirst_22 rfl (lv_at hl 0 rfl) ?_
        refine ux_get (C := R_Vl) (T := F_Vl) (N := 2) hx hb hT in_Vl hown hK hP hk hs rfl 1 (by decide) (hT _ fl_Vl_15) rfl d_Vl_dropFirst_23 ?_
        refine lv_iload_n hx hb d_Vl_dropFirst_26 rfl (lv_at hl 1 rfl) ?_
        refine ux_iald hx hb hK hP hks hss ((vi (show 0 ≤ i.toInt by omega) (show i.toInt < ((n : Nat) : Int) by omega))) d_Vl_dropFirst_27 ?_
        refine lv_bipush (v := 20) hx hb d_Vl_dropFirst_28 (by decide) ?_
        refine lv_icmp_le hx hb d_Vl_dropFirst_30 rfl (fun h7 => ?_) (fun h7 => ?_)
        · have g7 : (M ks i.toNatClampNeg).toInt ≤ 20 := Int32.le_iff_toInt_le.mp h7
          have w7 := ti_lo (M ks i.toNatClampNeg)
          refine lv_iload_n hx hb d_Vl_dropFirst_34 rfl (lv_at hl 1 rfl) ?_
          refine lv_bipush (v := 20) hx hb d_Vl_dropFirst_35 (by decide) ?_
          refine lv_imul hx hb d_Vl_dropFirst_37 ?_
          refine lv_topi (fun x8 ex8 => ?_)
          try have fx8 : x8.toInt = i.toInt * 20 := by rw [ex8]; exact ti_mul (by (try rw [show (20 : Int32).toInt = 20 from rfl]); omega) (by (try rw [show (20 : Int32).toInt = 20 from rfl]); omega)
          refine lv_istore_n hx hb d_Vl_dropFirst_38 rfl hl (by decide) rfl (fun ls hl => ?_)
          have hl : lv_has ls 4 [(3, .int x8), (0, .ref (ad k)), (1, .int i), (2, .int many)] := hl
          refine lv_aload_n hx hb d_Vl_dropFirst_39 rfl (lv_at hl 1 rfl) ?_
          refine ux_get (C := R_Vl) (T := F_Vl) (N := 2) hx hb hT in_Vl hown hK hP hk hs rfl 0 (by decide) (hT _ fl_Vl_9) rfl d_Vl_dropFirst_40 ?_
          refine lv_iload_n hx hb d_Vl_dropFirst_43 rfl (lv_at hl 0 rfl) ?_
          refine lv_iload_n hx hb d_Vl_dropFirst_44 rfl (lv_at hl 3 rfl) ?_
          refine lv_iadd hx hb d_Vl_dropFirst_45 ?_
          refine lv_topi (fun x9 ex9 => ?_)
          try have fx9 : x9.toInt = x8.toInt + many.toInt := by rw [ex9]; exact ti_add (by omega) (by omega)
          refine lv_aload_n hx hb d_Vl_dropFirst_46 rfl (lv_at hl 1 rfl) ?_
          refine ux_get (C := R_Vl) (T := F_Vl) (N := 2) hx hb hT in_Vl hown hK hP hk hs rfl 0 (by decide) (hT _ fl_Vl_9) rfl d_Vl_dropFirst_47 ?_
          refine lv_iload_n hx hb d_Vl_dropFirst_50 rfl (lv_at hl 0 rfl) ?_
          refine lv_aload_n hx hb d_Vl_dropFirst_51 rfl (lv_at hl 1 rfl) ?_
          refine ux_get (C := R_Vl) (T := F_Vl) (N := 2) hx hb hT in_Vl hown hK hP hk hs rfl 1 (by decide) (hT _ fl_Vl_15) rfl d_Vl_dropFirst_52 ?_
          refine lv_iload_n hx hb d_Vl_dropFirst_55 rfl (lv_at hl 2 rfl) ?_
          refine ux_iald hx hb hK hP hks hss ((vi (show 0 ≤ i.toInt by omega) (show i.toInt < ((n : Nat) : Int) by omega))) d_Vl_dropFirst_56 ?_
          refine lv_iload_n hx hb d_Vl_dropFirst_57 rfl (lv_at hl 3 rfl) ?_
          refine lv_isub hx hb d_Vl_dropFirst_58 ?_
          refine lv_topi (fun x10 ex10 => ?_)
          try have fx10 : x10.toInt = (M ks i.toNatClampNeg).toInt - many.toInt := by rw [ex10]; exact ti_sub (by omega) (by omega)
          refine ux_copy (ty := .char) hx hb (by rw [hml]; exact hl.1.symm) hown (hT _ ml_Vl_41) (hT _ tw_415) (hT _ tw_414) (hT _ ii_Sy) hK hi hP hS hkl hkl hsl hsl rfl rfl (show 0 ≤ x9.toInt by omega) (show 0 ≤ x8.toInt by omega) (show 0 ≤ x10.toInt by omega) (by omega) (by omega) (fun j => ch_f (ivch hI hch j).1 (ivch hI hch j).2) (Nat.le_of_ble_eq_true rfl) (Nat.le_of_ble_eq_true rfl) d_Vl_dropFirst_59 (fun H locs hP hS => ?_)
          have hI := IvX_cp (k0 := kl) (k1 := kl) (sp := x9.toNatClampNeg) (dp := x8.toNatClampNeg) (n := x10.toNatClampNeg) hI (hpl) (fun _ => hch)
          have hF := fr_cp (k0 := kl) (k1 := kl) (sp := x9.toNatClampNeg) (dp := x8.toNatClampNeg) (n := x10.toNatClampNeg) hF (fun b => by unfold tV; omega)
          generalize eM11 : ux_cp M kl kl x9.toNatClampNeg x8.toNatClampNeg x10.toNatClampNeg = M11 at hP hI hF
          refine lv_aload_n hx hb d_Vl_dropFirst_62 rfl (lv_at hl 1 rfl) ?_
          refine ux_get (C := R_Vl) (T := F_Vl) (N := 2) hx hb hT in_Vl hown hK hP hk hs rfl 1 (by decide) (hT _ fl_Vl_15) rfl d_Vl_dropFirst_63 ?_
          refine lv_iload_n hx hb d_Vl_dropFirst_66 rfl (lv_at hl 2 rfl) ?_
          refine lv_dup2_11 hx hb d_Vl_dropFirst_67 rfl rfl ?_
          refine ux_iald hx hb hK hP hks hss ((vi (show 0 ≤ i.toInt by omega) (show i.toInt < ((n : Nat) : Int) by omega))) d_Vl_dropFirst_68 ?_
          refine lv_iload_n hx hb d_Vl_dropFirst_69 rfl (lv_at hl 3 rfl) ?_
          refine lv_isub hx hb d_Vl_dropFirst_70 ?_
          refine lv_topi (fun x12 ex12 => ?_)
          try have fx12 : x12.toInt = (M11 ks i.toNatClampNeg).toInt - many.toInt := by rw [ex12]; exact ti_sub (by omega) (by omega)
          refine ux_iast hx hb hK hi hP hS hks hss ((vi (show 0 ≤ i.toInt by omega) (show i.toInt < ((n : Nat) : Int) by omega))) d_Vl_dropFirst_71 (fun H locs hP hS => ?_)
          have hI := IvX_free (k := ks) (j := i.toNatClampNeg) (v := x12) hI (hps _) hpc
          have hF := fr_wr (k := ks) (j := i.toNatClampNeg) (v := x12) hF (by unfold tV; omega)
          generalize eM13 : ux_wr M11 ks i.toNatClampNeg x12 = M13 at hP hI hF
          exact W.vret hx hb hr (fun t ht hW => ⟨⟨M13, rfl, ⟨hI, hF, trivial⟩, by unfold ux_E; rw [ht]; exact hP⟩, hS.F ht⟩) hS.2.2 d_Vl_dropFirst_72
        · have g7 : ¬ ((M ks i.toNatClampNeg).toInt ≤ 20) := fun q => h7 (Int32.le_iff_toInt_le.mpr q)
          have u7 := ti_hi (M ks i.toNatClampNeg)
          exact W.vret hx hb hr (fun t ht hW => ⟨⟨M, rfl, ⟨hI, hF, trivial⟩, by unfold ux_E; rw [ht]; exact hP⟩, hS.F ht⟩) hS.2.2 d_Vl_dropFirst_33
