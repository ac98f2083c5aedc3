/-! Values and numbers, safe: written by wip/gen/cls.py -/
theorem vmax_f (x y : Int32) : x.toInt ≤ (vmax x y).toInt ∧ y.toInt ≤ (vmax x y).toInt ∧ ((vmax x y).toInt = x.toInt ∨ (vmax x y).toInt = y.toInt) := by
  unfold vmax
  by_cases h : x < y
  · rw [if_pos h]; rw [Int32.lt_iff_toInt_lt] at h; omega
  · rw [if_neg h]; rw [Int32.lt_iff_toInt_lt] at h; omega
theorem vmin_f (x y : Int32) : (vmin x y).toInt ≤ x.toInt ∧ (vmin x y).toInt ≤ y.toInt ∧ ((vmin x y).toInt = x.toInt ∨ (vmin x y).toInt = y.toInt) := by
  unfold vmin
  by_cases h : y < x
  · rw [if_pos h]; rw [Int32.lt_iff_toInt_lt] at h; omega
  · rw [if_neg h]; rw [Int32.lt_iff_toInt_lt] at h; omega
def wu (x : Int32) (u : Int64) : Prop := ∃ e : Nat, e < 10 ∧ x = nI (e + 1) ∧ u = Int64.ofNat (10 ^ e)
theorem wu_0 : wu 1 1 := ⟨0, by decide, by decide, by decide⟩
theorem wu_n {x : Int32} {u : Int64} (h : wu x u) : ¬ u = 0 := by
  obtain ⟨e, he, -, rfl⟩ := h
  have : ∀ e, e < 10 → ¬ Int64.ofNat (10 ^ e) = 0 := by decide +kernel
  exact this e he
theorem wu_s {x : Int32} {u : Int64} (h : wu x u) (hx : ¬ 10 ≤ x) : wu (x + 1) (u * 10) := by
  obtain ⟨e, he, rfl, rfl⟩ := h
  have k : ∀ e, e < 10 → ¬ (10 : Int32) ≤ nI (e + 1) → e + 1 < 10 := by decide +kernel
  have k2 : ∀ e, e < 10 → nI (e + 1) + 1 = nI (e + 1 + 1) := by decide +kernel
  have k3 : ∀ e, e < 9 → Int64.ofNat (10 ^ e) * 10 = Int64.ofNat (10 ^ (e + 1)) := by decide +kernel
  have h1 := k e he hx
  exact ⟨e + 1, h1, k2 e he, k3 e (by omega)⟩
theorem lc_ne {u : Int64} (h : ¬ lg_cmp u 0 ≤ 0) : ¬ u = 0 := fun e => h (by subst e; decide)
theorem wu_b {x : Int32} {u : Int64} (h : wu x u) : 0 ≤ x.toInt ∧ x.toInt ≤ 10 := by
  obtain ⟨e, he, rfl, -⟩ := h
  have k : ∀ e, e < 10 → 0 ≤ (nI (e + 1)).toInt ∧ (nI (e + 1)).toInt ≤ 10 := by decide +kernel
  exact k e he

set_option maxHeartbeats 8000000 in
set_option maxRecDepth 100000 in
theorem s_PS_isDigit (l : Launch) (D : va_G) (ad : Nat → Nat) (cA : Nat → ClassId) (M : ux_M) (hI : IvX M) (ch : Int32) : Met l y_PS_isDigit w_PS_isDigit ({ frames := 0, cells := 0, slots := 0, locals := 0 }) (va_Pc [.int ch] (ux_B D shX KX ad cA M)) (va_Qi (fun r M1 => IvX M1 ∧ (∀ a b, ¬ tN a b → M1 a b = M a b) ∧ (r = dgt ch)) (ux_E D shX KX ad cA) (ux_A KX ad)) 0 0 (ux_A KX ad) := by
  refine Met.ofW (cc := b_PS_isDigit) (maxL := 1) (ret := (some .boolean)) (by decide) rfl ?_
  intro p e s m args below meth c s₁ B hml hv
  obtain ⟨rfl, hP, hK, hi, hN⟩ := hv
  have hx := B.exec
  have hb := B.bytes
  have hr := B.returns
  have hts := atoms_spec (ws := w_PS_isDigit) B.pre
  have hown : s.vm.findClass R_PS = some m.cls := findClass_of_methodNamed B.named
  have hlocks := B.notSynchronized
  have hT : ∀ w ∈ tb, w.before _ s = true := fun w h => hts w (List.mem_cons_of_mem _ h)
  have hS : va_S (ux_A KX ad) s.heap s.heap [] := va_S.rf
  have hl := lv_entry ([.int ch]) (n := 1) (Nat.le_of_ble_eq_true rfl)
  rw [lg_entry_eq]
  generalize (lg_sl ([.int ch]) ++ List.replicate (1 - (lg_sl ([.int ch])).length) Slot.unset).toArray = ls at hl ⊢
  have hl : lv_has ls 1 [(0, .int ch)] := hl
  have hF : ∀ a b, ¬ tN a b → M a b = M a b := fun _ _ _ => rfl
  refine lv_iload_n hx hb d_PS_isDigit_0 rfl (lv_at hl 0 rfl) ?_
  refine lv_bipush (v := 48) hx hb d_PS_isDigit_1 (by decide) ?_
  refine lv_icmp_lt hx hb d_PS_isDigit_3 rfl (fun h1 => ?_) (fun h1 => ?_)
  · have g1 : ch.toInt < 48 := Int32.lt_iff_toInt_lt.mp h1
    have w1 := ti_lo ch
    refine lv_iconst (v := 0) hx hb d_PS_isDigit_16 (by decide) ?_
    exact W.zret (v := 0) hx hb hr (rfl) (fun t ht hW => ⟨⟨0, M, rfl, ⟨hI, hF, (by unfold dgt; first | rw [if_pos (by assumption)] | rw [if_neg (by assumption), if_pos (by assumption)] | rw [if_neg (by assumption), if_neg (by assumption)])⟩, by unfold ux_E; rw [ht]; exact hP⟩, hS.F ht⟩) hS.2.2 d_PS_isDigit_17
  · have g1 : ¬ (ch.toInt < 48) := fun q => h1 (Int32.lt_iff_toInt_lt.mpr q)
    have u1 := ti_hi ch
    refine lv_iload_n hx hb d_PS_isDigit_6 rfl (lv_at hl 0 rfl) ?_
    refine lv_bipush (v := 57) hx hb d_PS_isDigit_7 (by decide) ?_
    refine lv_icmp_gt hx hb d_PS_isDigit_9 rfl (fun h2 => ?_) (fun h2 => ?_)
    · have g2 : 57 < ch.toInt := Int32.lt_iff_toInt_lt.mp h2
      have u2 := ti_hi ch
      refine lv_iconst (v := 0) hx hb d_PS_isDigit_16 (by decide) ?_
      exact W.zret (v := 0) hx hb hr (rfl) (fun t ht hW => ⟨⟨0, M, rfl, ⟨hI, hF, (by unfold dgt; first | rw [if_pos (by assumption)] | rw [if_neg (by assumption), if_pos (by assumption)] | rw [if_neg (by assumption), if_neg (by assumption)])⟩, by unfold ux_E; rw [ht]; exact hP⟩, hS.F ht⟩) hS.2.2 d_PS_isDigit_17
    · have g2 : ¬ (57 < ch.toInt) := fun q => h2 (Int32.lt_iff_toInt_lt.mpr q)
      have w2 := ti_lo ch
      refine lv_iconst (v := 1) hx hb d_PS_isDigit_12 (by decide) ?_
      refine lv_goto hx hb d_PS_isDigit_13 rfl ?_
      exact W.zret (v := 1) hx hb hr (rfl) (fun t ht hW => ⟨⟨1, M, rfl, ⟨hI, hF, (by unfold dgt; first | rw [if_pos (by assumption)] | rw [if_neg (by assumption), if_pos (by assumption)] | rw [if_neg (by assumption), if_neg (by assumption)])⟩, by unfold ux_E; rw [ht]; exact hP⟩, hS.F ht⟩) hS.2.2 d_PS_isDigit_17

def tV1 (ks a _b : Nat) : Prop := a = ks
theorem vem_off {M : ux_M} {ks n : Nat} {i : Int32} : ∀ a b, ¬ tV1 ks a b → vem M ks n i a b = M a b := by
  intro a b h
  unfold vem
  by_cases h1 : i < 0
  · rw [if_pos h1]
  · by_cases h2 : nI n ≤ i
    · rw [if_neg h1, if_pos h2]
    · rw [if_neg h1, if_neg h2]
      exact ux_wr_off (Or.inl h)
theorem vem_I {M : ux_M} {ks n : Nat} {i : Int32} (hI : IvX M) (hp : ∀ b, ¬ ppn ks b) (hc : ¬ pch ks) : IvX (vem M ks n i) := by
  unfold vem
  by_cases h1 : i < 0
  · rw [if_pos h1]; exact hI
  · by_cases h2 : nI n ≤ i
    · rw [if_neg h1, if_pos h2]; exact hI
    · rw [if_neg h1, if_neg h2]; exact IvX_free hI (hp _) hc

set_option maxHeartbeats 8000000 in
set_option maxRecDepth 100000 in
theorem s_Vl_isNumber (l : Launch) (D : va_G) (ad : Nat → Nat) (cA : Nat → ClassId) (M : ux_M) (hI : IvX M) (k kl ks n : Nat) (hV : vV k kl ks n) (i : Int32) : Met l y_Vl_isNumber w_Vl_isNumber ({ frames := 1, cells := 0, slots := 0, locals := 22 }) (va_Pc [.ref (ad k), .int i] (ux_B D shX KX ad cA M)) (va_Qi (fun r M1 => IvX M1 ∧ (∀ a b, ¬ tN a b → M1 a b = M a b) ∧ (r = 0 ∨ r = 1)) (ux_E D shX KX ad cA) (ux_A KX ad)) 0 0 (ux_A KX ad) := by
  refine Met.ofW (cc := b_Vl_isNumber) (maxL := 6) (ret := (some .boolean)) (by decide) rfl ?_
  intro p e s m args below meth c s₁ B hml hv
  obtain ⟨rfl, hP, hK, hi, hN⟩ := hv
  have hx := B.exec
  have hb := B.bytes
  have hr := B.returns
  have hts := atoms_spec (ws := w_Vl_isNumber) B.pre
  have hown : s.vm.findClass R_Vl = some m.cls := findClass_of_methodNamed B.named
  have hlocks := B.notSynchronized
  have hT : ∀ w ∈ tb, w.before _ s = true := fun w h => hts w (List.mem_cons_of_mem _ h)
  have hS : va_S (ux_A KX ad) s.heap s.heap [] := va_S.rf
  have hl := lv_entry ([.ref (ad k), .int i]) (n := 6) (Nat.le_of_ble_eq_true rfl)
  rw [lg_entry_eq]
  generalize (lg_sl ([.ref (ad k), .int i]) ++ List.replicate (6 - (lg_sl ([.ref (ad k), .int i])).length) Slot.unset).toArray = ls at hl ⊢
  have hl : lv_has ls 6 [(0, .ref (ad k)), (1, .int i)] := hl
  have hF : ∀ a b, ¬ tN a b → M a b = M a b := fun _ _ _ => rfl
  have hU := hV.1
  obtain ⟨hk, hkl, hks, hs, hsl, hss, hn⟩ := hV.1
  obtain ⟨hch, hpl, hps, hpc, hne⟩ := hV.2
  have cut46 : ∀ (nn : Nat) (i_2 i_4 i_5 : Int32) (Mc46 : ux_M) (H : Heap) (locs : List Loc) (ls : Array Slot), (i_2.toInt - i_5.toInt).toNat = nn → (i_4 = 0 ∨ i_4 = 1) → (0 ≤ i_5.toInt) → va_P D classes (ux_w shX KX ad cA Mc46) H → IvX Mc46 → (∀ a b, ¬ tN a b → Mc46 a b = M a b) → va_S (ux_A KX ad) s.heap H locs → lv_has ls 6 [(0, .ref (ad k)), (1, .int i), (2, .int i_2), (4, .int i_4), (5, .int i_5)] → W p l e (headSpec w_Vl_isNumber ({ frames := 1, cells := 0, slots := 0, locals := 22 })).room s m (([.ref (ad k), .int i] : List Value).toArray) below meth c H locs 0 0 (MQ below (va_Qi (fun r M1 => IvX M1 ∧ (∀ a b, ¬ tN a b → M1 a b = M a b) ∧ (r = 0 ∨ r = 1)) (ux_E D shX KX ad cA) (ux_A KX ad)) (([.ref (ad k), .int i] : List Value).toArray) s 0 0 (ux_A KX ad)) (F0 m 46 ls []) := by
    intro nn
    induction nn using Nat.strongRecOn with
    | ind nn ih46 =>
      intro i_2 i_4 i_5 Mc46 H locs ls hn c46_0 c46_1 hP hI hF hS hl
      refine lv_iload hx hb d_Vl_isNumber_46 (lv_at hl 4 rfl) ?_
      refine lv_iload_n hx hb d_Vl_isNumber_48 rfl (lv_at hl 2 rfl) ?_
      refine lv_icmp_ge hx hb d_Vl_isNumber_49 rfl (fun h1 => ?_) (fun h1 => ?_)
      · have g1 : i_2.toInt ≤ i_5.toInt := Int32.le_iff_toInt_le.mp h1
        have u1 := ti_hi i_5
        have w1 := ti_lo i_2
        refine lv_iload hx hb d_Vl_isNumber_75 (lv_at hl 3 rfl) ?_
        exact W.zret (v := i_4) hx hb hr (nb_n (by first | assumption | omega)) (fun t ht hW => ⟨⟨i_4, Mc46, rfl, ⟨hI, hF, (by first | assumption | omega)⟩, by unfold ux_E; rw [ht]; exact hP⟩, hS.F ht⟩) hS.2.2 d_Vl_isNumber_77
      · have g1 : ¬ (i_2.toInt ≤ i_5.toInt) := fun q => h1 (Int32.le_iff_toInt_le.mpr q)
        have u1 := ti_hi i_2
        have w1 := ti_lo i_5
        refine lv_iload hx hb d_Vl_isNumber_52 (lv_at hl 3 rfl) ?_
        refine lv_if_eq hx hb d_Vl_isNumber_54 rfl (fun h2 => ?_) (fun h2 => ?_)
        · have g2 : i_4.toInt = 0 := congrArg Int32.toInt h2
          refine lv_iload hx hb d_Vl_isNumber_75 (lv_at hl 3 rfl) ?_
          exact W.zret (v := i_4) hx hb hr (nb_n (by first | assumption | omega)) (fun t ht hW => ⟨⟨i_4, Mc46, rfl, ⟨hI, hF, (by first | assumption | omega)⟩, by unfold ux_E; rw [ht]; exact hP⟩, hS.F ht⟩) hS.2.2 d_Vl_isNumber_77
        · have g2 : ¬ (i_4.toInt = 0) := fun q => h2 (Int32.toInt_inj.mp q)
          refine lv_aload_n hx hb d_Vl_isNumber_57 rfl (lv_at hl 0 rfl) ?_
          refine lv_iload_n hx hb d_Vl_isNumber_58 rfl (lv_at hl 1 rfl) ?_
          refine lv_iload hx hb d_Vl_isNumber_59 (lv_at hl 4 rfl) ?_
          refine ux_calli (va_runV ⟨hx, hb, hml, hown, hts⟩ (c_Vl_letterOf l D shX KX ad cA Mc46 k kl ks n hU i i_5) (cwV 2 hts (tb_goodV ml_Vl_29 im_Vl_letterOf se_Vl_letterOf ii_Vl kt_Vl_letterOf) rfl rfl rfl (by decide +kernel) ⟨Nat.le_of_ble_eq_true rfl, Nat.le_of_ble_eq_true rfl⟩) (ux_preV hk hs rfl hP hK hi hN) rfl rfl hl.1 rfl (lv_room (Nat.le_of_ble_eq_true rfl)) d_Vl_isNumber_61 ⟨Nat.zero_le _, Nat.zero_le _⟩) hS (fun r3 M4 H locs q5 hP hS => ?_)
          obtain ⟨q5m, q5e⟩ := q5
          rw [q5m] at hP
          subst q5e
          refine ux_calli (va_runSN ⟨hx, hb, hml, hown, hts⟩ (s_PS_isDigit l D ad cA Mc46 hI (vt Mc46 kl ks n i i_5)) ⟨va_cnB 1 hts (tb_good _ _ kt_PS_isDigit) rfl rfl rfl (hN _ nm_Vl_55) (hT _ ii_PS) (by decide +kernel) ⟨Nat.le_of_ble_eq_true rfl, Nat.le_of_ble_eq_true rfl⟩, hT _ sm_PS_isDigit, trivial⟩ (ux_pre hP hK hi hN) rfl rfl hl.1 rfl (lv_room (Nat.le_of_ble_eq_true rfl)) d_Vl_isNumber_64 ⟨Nat.zero_le _, Nat.zero_le _⟩) hS (fun r6 M7 H locs q8 hP hS => ?_)
          obtain ⟨hI, fq8, q8p⟩ := q8
          rw [tN_eq fq8] at hP hI
          subst q8p
          have b9 := dgt_b (vt Mc46 kl ks n i i_5)
          refine lv_istore hx hb d_Vl_isNumber_67 hl (by decide) rfl (fun ls hl => ?_)
          have hl : lv_has ls 6 [(4, .int (dgt (vt Mc46 kl ks n i i_5))), (0, .ref (ad k)), (1, .int i), (2, .int i_2), (5, .int i_5)] := hl
          obtain ⟨x10, ex10⟩ : ∃ z : Int32, z = i_5 + 1 := ⟨_, rfl⟩
          refine lv_iinc (k := 4) (v := x10) hx hb d_Vl_isNumber_69 hl rfl ex10.symm (by decide) rfl (fun ls hl => ?_)
          have hl : lv_has ls 6 [(5, .int x10), (4, .int (dgt (vt Mc46 kl ks n i i_5))), (0, .ref (ad k)), (1, .int i), (2, .int i_2)] := hl
          try have fx10 : x10.toInt = i_5.toInt + 1 := by rw [ex10]; exact ti_add (by (try rw [show (1 : Int32).toInt = 1 from rfl]); omega) (by (try rw [show (1 : Int32).toInt = 1 from rfl]); omega)
          refine lv_goto hx hb d_Vl_isNumber_72 rfl ?_
          exact ih46 ((i_2.toInt - x10.toInt).toNat) (by omega) i_2 (dgt (vt Mc46 kl ks n i i_5)) x10 Mc46 _ _ ls rfl (show (dgt (vt Mc46 kl ks n i i_5)) = 0 ∨ (dgt (vt Mc46 kl ks n i i_5)) = 1 from by first | omega | assumption | exact Or.inl rfl | exact Or.inr rfl | rfl | decide) (show 0 ≤ x10.toInt from by first | omega | assumption | exact Or.inl rfl | exact Or.inr rfl | rfl | decide) hP hI hF hS (lv_sub hl [2, 3, 4, 1, 0] rfl)
  refine lv_aload_n hx hb d_Vl_isNumber_0 rfl (lv_at hl 0 rfl) ?_
  refine lv_iload_n hx hb d_Vl_isNumber_1 rfl (lv_at hl 1 rfl) ?_
  refine ux_calli (va_runV ⟨hx, hb, hml, hown, hts⟩ (c_Vl_sizeOf l D shX KX ad cA M k kl ks n hU i) (cwV 1 hts (tb_goodV ml_Vl_25 im_Vl_sizeOf se_Vl_sizeOf ii_Vl kt_Vl_sizeOf) rfl rfl rfl (by decide +kernel) ⟨Nat.le_of_ble_eq_true rfl, Nat.le_of_ble_eq_true rfl⟩) (ux_preV hk hs rfl hP hK hi hN) rfl rfl hl.1 rfl (lv_room (Nat.le_of_ble_eq_true rfl)) d_Vl_isNumber_2 ⟨Nat.zero_le _, Nat.zero_le _⟩) hS (fun r11 M12 H locs q13 hP hS => ?_)
  obtain ⟨q13m, q13e⟩ := q13
  rw [q13m] at hP
  subst q13e
  refine lv_istore_n hx hb d_Vl_isNumber_5 rfl hl (by decide) rfl (fun ls hl => ?_)
  have hl : lv_has ls 6 [(2, .int (vz M ks n i)), (0, .ref (ad k)), (1, .int i)] := hl
  refine lv_aload_n hx hb d_Vl_isNumber_6 rfl (lv_at hl 1 rfl) ?_
  refine lv_iload_n hx hb d_Vl_isNumber_7 rfl (lv_at hl 2 rfl) ?_
  refine lv_iconst (v := 0) hx hb d_Vl_isNumber_8 (by decide) ?_
  refine ux_calli (va_runV ⟨hx, hb, hml, hown, hts⟩ (c_Vl_letterOf l D shX KX ad cA M k kl ks n hU i 0) (cwV 2 hts (tb_goodV ml_Vl_29 im_Vl_letterOf se_Vl_letterOf ii_Vl kt_Vl_letterOf) rfl rfl rfl (by decide +kernel) ⟨Nat.le_of_ble_eq_true rfl, Nat.le_of_ble_eq_true rfl⟩) (ux_preV hk hs rfl hP hK hi hN) rfl rfl hl.1 rfl (lv_room (Nat.le_of_ble_eq_true rfl)) d_Vl_isNumber_9 ⟨Nat.zero_le _, Nat.zero_le _⟩) hS (fun r14 M15 H locs q16 hP hS => ?_)
  obtain ⟨q16m, q16e⟩ := q16
  rw [q16m] at hP
  subst q16e
  refine lv_bipush (v := 45) hx hb d_Vl_isNumber_12 (by decide) ?_
  refine lv_icmp_ne hx hb d_Vl_isNumber_14 rfl (fun h17 => ?_) (fun h17 => ?_)
  · have g17 : ¬ ((vt M kl ks n i 0).toInt = 45) := fun q => h17 (Int32.toInt_inj.mp q)
    refine lv_iconst (v := 0) hx hb d_Vl_isNumber_21 (by decide) ?_
    refine lv_istore_n hx hb d_Vl_isNumber_22 rfl hl (by decide) rfl (fun ls hl => ?_)
    have hl : lv_has ls 6 [(3, .int 0), (2, .int (vz M ks n i)), (0, .ref (ad k)), (1, .int i)] := hl
    refine lv_iload_n hx hb d_Vl_isNumber_23 rfl (lv_at hl 1 rfl) ?_
    refine lv_iload_n hx hb d_Vl_isNumber_24 rfl (lv_at hl 0 rfl) ?_
    refine lv_icmp_le hx hb d_Vl_isNumber_25 rfl (fun h18 => ?_) (fun h18 => ?_)
    · have g18 : (vz M ks n i).toInt ≤ 0 := Int32.le_iff_toInt_le.mp h18
      have w18 := ti_lo (vz M ks n i)
      refine lv_iconst (v := 0) hx hb d_Vl_isNumber_40 (by decide) ?_
      refine lv_istore hx hb d_Vl_isNumber_41 hl (by decide) rfl (fun ls hl => ?_)
      have hl : lv_has ls 6 [(4, .int 0), (3, .int 0), (2, .int (vz M ks n i)), (0, .ref (ad k)), (1, .int i)] := hl
      refine lv_iload_n hx hb d_Vl_isNumber_43 rfl (lv_at hl 1 rfl) ?_
      refine lv_istore hx hb d_Vl_isNumber_44 hl (by decide) rfl (fun ls hl => ?_)
      have hl : lv_has ls 6 [(5, .int 0), (4, .int 0), (3, .int 0), (2, .int (vz M ks n i)), (0, .ref (ad k)), (1, .int i)] := hl
      exact cut46 (((vz M ks n i).toInt - 0).toNat) (vz M ks n i) 0 0 M _ _ ls rfl (show (0 : Int32) = 0 ∨ (0 : Int32) = 1 from by first | omega | assumption | exact Or.inl rfl | exact Or.inr rfl | rfl | decide) (show 0 ≤ 0 from by first | omega | assumption | exact Or.inl rfl | exact Or.inr rfl | rfl | decide) hP hI hF hS (lv_sub hl [4, 5, 3, 1, 0] rfl)
    · have g18 : ¬ ((vz M ks n i).toInt ≤ 0) := fun q => h18 (Int32.le_iff_toInt_le.mpr q)
      have u18 := ti_hi (vz M ks n i)
      refine lv_iload_n hx hb d_Vl_isNumber_28 rfl (lv_at hl 1 rfl) ?_
      refine lv_iload_n hx hb d_Vl_isNumber_29 rfl (lv_at hl 0 rfl) ?_
      refine lv_isub hx hb d_Vl_isNumber_30 ?_
      refine lv_topi (fun x19 ex19 => ?_)
      try have fx19 : x19.toInt = (vz M ks n i).toInt - 0 := by rw [ex19]; exact ti_sub (by (try rw [show (0 : Int32).toInt = 0 from rfl]); omega) (by (try rw [show (0 : Int32).toInt = 0 from rfl]); omega)
      refine lv_bipush (v := 10) hx hb d_Vl_isNumber_31 (by decide) ?_
      refine lv_icmp_gt hx hb d_Vl_isNumber_33 rfl (fun h20 => ?_) (fun h20 => ?_)
      · have g20 : 10 < x19.toInt := Int32.lt_iff_toInt_lt.mp h20
        have u20 := ti_hi x19
        refine lv_iconst (v := 0) hx hb d_Vl_isNumber_40 (by decide) ?_
        refine lv_istore hx hb d_Vl_isNumber_41 hl (by decide) rfl (fun ls hl => ?_)
        have hl : lv_has ls 6 [(4, .int 0), (3, .int 0), (2, .int (vz M ks n i)), (0, .ref (ad k)), (1, .int i)] := hl
        refine lv_iload_n hx hb d_Vl_isNumber_43 rfl (lv_at hl 1 rfl) ?_
        refine lv_istore hx hb d_Vl_isNumber_44 hl (by decide) rfl (fun ls hl => ?_)
        have hl : lv_has ls 6 [(5, .int 0), (4, .int 0), (3, .int 0), (2, .int (vz M ks n i)), (0, .ref (ad k)), (1, .int i)] := hl
        exact cut46 (((vz M ks n i).toInt - 0).toNat) (vz M ks n i) 0 0 M _ _ ls rfl (show (0 : Int32) = 0 ∨ (0 : Int32) = 1 from by first | omega | assumption | exact Or.inl rfl | exact Or.inr rfl | rfl | decide) (show 0 ≤ 0 from by first | omega | assumption | exact Or.inl rfl | exact Or.inr rfl | rfl | decide) hP hI hF hS (lv_sub hl [4, 5, 3, 1, 0] rfl)
      · have g20 : ¬ (10 < x19.toInt) := fun q => h20 (Int32.lt_iff_toInt_lt.mpr q)
        have w20 := ti_lo x19
        refine lv_iconst (v := 1) hx hb d_Vl_isNumber_36 (by decide) ?_
        refine lv_goto hx hb d_Vl_isNumber_37 rfl ?_
        refine lv_istore hx hb d_Vl_isNumber_41 hl (by decide) rfl (fun ls hl => ?_)
        have hl : lv_has ls 6 [(4, .int 1), (3, .int 0), (2, .int (vz M ks n i)), (0, .ref (ad k)), (1, .int i)] := hl
        refine lv_iload_n hx hb d_Vl_isNumber_43 rfl (lv_at hl 1 rfl) ?_
        refine lv_istore hx hb d_Vl_isNumber_44 hl (by decide) rfl (fun ls hl => ?_)
        have hl : lv_has ls 6 [(5, .int 0), (4, .int 1), (3, .int 0), (2, .int (vz M ks n i)), (0, .ref (ad k)), (1, .int i)] := hl
        exact cut46 (((vz M ks n i).toInt - 0).toNat) (vz M ks n i) 1 0 M _ _ ls rfl (show (1 : Int32) = 0 ∨ (1 : Int32) = 1 from by first | omega | assumption | exact Or.inl rfl | exact Or.inr rfl | rfl | decide) (show 0 ≤ 0 from by first | omega | assumption | exact Or.inl rfl | exact Or.inr rfl | rfl | decide) hP hI hF hS (lv_sub hl [4, 5, 3, 1, 0] rfl)
  · have g17 : (vt M kl ks n i 0).toInt = 45 := congrArg Int32.toInt h17
    refine lv_iconst (v := 1) hx hb d_Vl_isNumber_17 (by decide) ?_
    refine lv_goto hx hb d_Vl_isNumber_18 rfl ?_
    refine lv_istore_n hx hb d_Vl_isNumber_22 rfl hl (by decide) rfl (fun ls hl => ?_)
    have hl : lv_has ls 6 [(3, .int 1), (2, .int (vz M ks n i)), (0, .ref (ad k)), (1, .int i)] := hl
    refine lv_iload_n hx hb d_Vl_isNumber_23 rfl (lv_at hl 1 rfl) ?_
    refine lv_iload_n hx hb d_Vl_isNumber_24 rfl (lv_at hl 0 rfl) ?_
    refine lv_icmp_le hx hb d_Vl_isNumber_25 rfl (fun h21 => ?_) (fun h21 => ?_)
    · have g21 : (vz M ks n i).toInt ≤ 1 := Int32.le_iff_toInt_le.mp h21
      have w21 := ti_lo (vz M ks n i)
      refine lv_iconst (v := 0) hx hb d_Vl_isNumber_40 (by decide) ?_
      refine lv_istore hx hb d_Vl_isNumber_41 hl (by decide) rfl (fun ls hl => ?_)
      have hl : lv_has ls 6 [(4, .int 0), (3, .int 1), (2, .int (vz M ks n i)), (0, .ref (ad k)), (1, .int i)] := hl
      refine lv_iload_n hx hb d_Vl_isNumber_43 rfl (lv_at hl 1 rfl) ?_
      refine lv_istore hx hb d_Vl_isNumber_44 hl (by decide) rfl (fun ls hl => ?_)
      have hl : lv_has ls 6 [(5, .int 1), (4, .int 0), (3, .int 1), (2, .int (vz M ks n i)), (0, .ref (ad k)), (1, .int i)] := hl
      exact cut46 (((vz M ks n i).toInt - 1).toNat) (vz M ks n i) 0 1 M _ _ ls rfl (show (0 : Int32) = 0 ∨ (0 : Int32) = 1 from by first | omega | assumption | exact Or.inl rfl | exact Or.inr rfl | rfl | decide) (show 0 ≤ 1 from by first | omega | assumption | exact Or.inl rfl | exact Or.inr rfl | rfl | decide) hP hI hF hS (lv_sub hl [4, 5, 3, 1, 0] rfl)
    · have g21 : ¬ ((vz M ks n i).toInt ≤ 1) := fun q => h21 (Int32.le_iff_toInt_le.mpr q)
      have u21 := ti_hi (vz M ks n i)
      refine lv_iload_n hx hb d_Vl_isNumber_28 rfl (lv_at hl 1 rfl) ?_
      refine lv_iload_n hx hb d_Vl_isNumber_29 rfl (lv_at hl 0 rfl) ?_
      refine lv_isub hx hb d_Vl_isNumber_30 ?_
      refine lv_topi (fun x22 ex22 => ?_)
      try have fx22 : x22.toInt = (vz M ks n i).toInt - 1 := by rw [ex22]; exact ti_sub (by (try rw [show (1 : Int32).toInt = 1 from rfl]); omega) (by (try rw [show (1 : Int32).toInt = 1 from rfl]); omega)
      refine lv_bipush (v := 10) hx hb d_Vl_isNumber_31 (by decide) ?_
      refine lv_icmp_gt hx hb d_Vl_isNumber_33 rfl (fun h23 => ?_) (fun h23 => ?_)
      · have g23 : 10 < x22.toInt := Int32.lt_iff_toInt_lt.mp h23
        have u23 := ti_hi x22
        refine lv_iconst (v := 0) hx hb d_Vl_isNumber_40 (by decide) ?_
        refine lv_istore hx hb d_Vl_isNumber_41 hl (by decide) rfl (fun ls hl => ?_)
        have hl : lv_has ls 6 [(4, .int 0), (3, .int 1), (2, .int (vz M ks n i)), (0, .ref (ad k)), (1, .int i)] := hl
        refine lv_iload_n hx hb d_Vl_isNumber_43 rfl (lv_at hl 1 rfl) ?_
        refine lv_istore hx hb d_Vl_isNumber_44 hl (by decide) rfl (fun ls hl => ?_)
        have hl : lv_has ls 6 [(5, .int 1), (4, .int 0), (3, .int 1), (2, .int (vz M ks n i)), (0, .ref (ad k)), (1, .int i)] := hl
        exact cut46 (((vz M ks n i).toInt - 1).toNat) (vz M ks n i) 0 1 M _ _ ls rfl (show (0 : Int32) = 0 ∨ (0 : Int32) = 1 from by first | omega | assumption | exact Or.inl rfl | exact Or.inr rfl | rfl | decide) (show 0 ≤ 1 from by first | omega | assumption | exact Or.inl rfl | exact Or.inr rfl | rfl | decide) hP hI hF hS (lv_sub hl [4, 5, 3, 1, 0] rfl)
      · have g23 : ¬ (10 < x22.toInt) := fun q => h23 (Int32.lt_iff_toInt_lt.mpr q)
        have w23 := ti_lo x22
        refine lv_iconst (v := 1) hx hb d_Vl_isNumber_36 (by decide) ?_
        refine lv_goto hx hb d_Vl_isNumber_37 rfl ?_
        refine lv_istore hx hb d_Vl_isNumber_41 hl (by decide) rfl (fun ls hl => ?_)
        have hl : lv_has ls 6 [(4, .int 1), (3, .int 1), (2, .int (vz M ks n i)), (0, .ref (ad k)), (1, .int i)] := hl
        refine lv_iload_n hx hb d_Vl_isNumber_43 rfl (lv_at hl 1 rfl) ?_
        refine lv_istore hx hb d_Vl_isNumber_44 hl (by decide) rfl (fun ls hl => ?_)
        have hl : lv_has ls 6 [(5, .int 1), (4, .int 1), (3, .int 1), (2, .int (vz M ks n i)), (0, .ref (ad k)), (1, .int i)] := hl
        exact cut46 (((vz M ks n i).toInt - 1).toNat) (vz M ks n i) 1 1 M _ _ ls rfl (show (1 : Int32) = 0 ∨ (1 : Int32) = 1 from by first | omega | assumption | exact Or.inl rfl | exact Or.inr rfl | rfl | decide) (show 0 ≤ 1 from by first | omega | assumption | exact Or.inl rfl | exact Or.inr rfl | rfl | decide) hP hI hF hS (lv_sub hl [4, 5, 3, 1, 0] rfl)

set_option maxHeartbeats 8000000 in
set_option maxRecDepth 100000 in
theorem s_Vl_numberOf (l : Launch) (D : va_G) (ad : Nat → Nat) (cA : Nat → ClassId) (M : ux_M) (hI : IvX M) (k kl ks n : Nat) (hV : vV k kl ks n) (i : Int32) : Met l y_Vl_numberOf w_Vl_numberOf ({ frames := 1, cells := 0, slots := 0, locals := 22 }) (va_Pc [.ref (ad k), .int i] (ux_B D shX KX ad cA M)) (va_Qi (fun r M1 => IvX M1 ∧ (∀ a b, ¬ tN a b → M1 a b = M a b) ∧ (True)) (ux_E D shX KX ad cA) (ux_A KX ad)) 0 0 (ux_A KX ad) := by
  refine Met.ofW (cc := b_Vl_numberOf) (maxL := 6) (ret := (some .int)) (by decide) rfl ?_
  intro p e s m args below meth c s₁ B hml hv
  obtain ⟨rfl, hP, hK, hi, hN⟩ := hv
  have hx := B.exec
  have hb := B.bytes
  have hr := B.returns
  have hts := atoms_spec (ws := w_Vl_numberOf) B.pre
  have hown : s.vm.findClass R_Vl = some m.cls := findClass_of_methodNamed B.named
  have hlocks := B.notSynchronized
  have hT : ∀ w ∈ tb, w.before _ s = true := fun w h => hts w (List.mem_cons_of_mem _ h)
  have hS : va_S (ux_A KX ad) s.heap s.heap [] := va_S.rf
  have hl := lv_entry ([.ref (ad k), .int i]) (n := 6) (Nat.le_of_ble_eq_true rfl)
  rw [lg_entry_eq]
  generalize (lg_sl ([.ref (ad k), .int i]) ++ List.replicate (6 - (lg_sl ([.ref (ad k), .int i])).length) Slot.unset).toArray = ls at hl ⊢
  have hl : lv_has ls 6 [(0, .ref (ad k)), (1, .int i)] := hl
  have hF : ∀ a b, ¬ tN a b → M a b = M a b := fun _ _ _ => rfl
  have hU := hV.1
  obtain ⟨hk, hkl, hks, hs, hsl, hss, hn⟩ := hV.1
  obtain ⟨hch, hpl, hps, hpc, hne⟩ := hV.2
  have cut42 : ∀ (nn : Nat) (i_2 i_3 i_4 i_5 : Int32) (Mc42 : ux_M) (H : Heap) (locs : List Loc) (ls : Array Slot), (i_2.toInt - i_5.toInt).toNat = nn → (0 ≤ i_5.toInt) → va_P D classes (ux_w shX KX ad cA Mc42) H → IvX Mc42 → (∀ a b, ¬ tN a b → Mc42 a b = M a b) → va_S (ux_A KX ad) s.heap H locs → lv_has ls 6 [(0, .ref (ad k)), (1, .int i), (2, .int i_2), (3, .int i_3), (4, .int i_4), (5, .int i_5)] → W p l e (headSpec w_Vl_numberOf ({ frames := 1, cells := 0, slots := 0, locals := 22 })).room s m (([.ref (ad k), .int i] : List Value).toArray) below meth c H locs 0 0 (MQ below (va_Qi (fun r M1 => IvX M1 ∧ (∀ a b, ¬ tN a b → M1 a b = M a b) ∧ (True)) (ux_E D shX KX ad cA) (ux_A KX ad)) (([.ref (ad k), .int i] : List Value).toArray) s 0 0 (ux_A KX ad)) (F0 m 42 ls []) := by
    intro nn
    induction nn using Nat.strongRecOn with
    | ind nn ih42 =>
      intro i_2 i_3 i_4 i_5 Mc42 H locs ls hn c42_0 hP hI hF hS hl
      refine lv_iload hx hb d_Vl_numberOf_42 (lv_at hl 5 rfl) ?_
      refine lv_iload_n hx hb d_Vl_numberOf_44 rfl (lv_at hl 2 rfl) ?_
      refine lv_icmp_ge hx hb d_Vl_numberOf_45 rfl (fun h1 => ?_) (fun h1 => ?_)
      · have g1 : i_2.toInt ≤ i_5.toInt := Int32.le_iff_toInt_le.mp h1
        have u1 := ti_hi i_5
        have w1 := ti_lo i_2
        refine lv_iload_n hx hb d_Vl_numberOf_72 rfl (lv_at hl 3 rfl) ?_
        refine lv_if_eq hx hb d_Vl_numberOf_73 rfl (fun h2 => ?_) (fun h2 => ?_)
        · have g2 : i_3.toInt = 0 := congrArg Int32.toInt h2
          refine lv_iload hx hb d_Vl_numberOf_82 (lv_at hl 4 rfl) ?_
          exact W.iret (v := i_4) hx hb hr (fun t ht hW => ⟨⟨i_4, Mc42, rfl, ⟨hI, hF, trivial⟩, by unfold ux_E; rw [ht]; exact hP⟩, hS.F ht⟩) hS.2.2 d_Vl_numberOf_84
        · have g2 : ¬ (i_3.toInt = 0) := fun q => h2 (Int32.toInt_inj.mp q)
          refine lv_iload hx hb d_Vl_numberOf_76 (lv_at hl 4 rfl) ?_
          refine lv_ineg hx hb d_Vl_numberOf_78 ?_
          refine lv_topi (fun x3 ex3 => ?_)
          try have fx3 : x3.toInt = - i_4.toInt := by rw [ex3]; exact ti_neg (by omega)
          refine lv_goto hx hb d_Vl_numberOf_79 rfl ?_
          exact W.iret (v := x3) hx hb hr (fun t ht hW => ⟨⟨x3, Mc42, rfl, ⟨hI, hF, trivial⟩, by unfold ux_E; rw [ht]; exact hP⟩, hS.F ht⟩) hS.2.2 d_Vl_numberOf_84
      · have g1 : ¬ (i_2.toInt ≤ i_5.toInt) := fun q => h1 (Int32.le_iff_toInt_le.mpr q)
        have u1 := ti_hi i_2
        have w1 := ti_lo i_5
        refine lv_iload hx hb d_Vl_numberOf_48 (lv_at hl 4 rfl) ?_
        refine lv_bipush (v := 10) hx hb d_Vl_numberOf_50 (by decide) ?_
        refine lv_imul hx hb d_Vl_numberOf_52 ?_
        refine lv_topi (fun x4 ex4 => ?_)
        try have fx4 : x4.toInt = i_4.toInt * 10 := by rw [ex4]; exact ti_mul (by (try rw [show (10 : Int32).toInt = 10 from rfl]); omega) (by (try rw [show (10 : Int32).toInt = 10 from rfl]); omega)
        refine lv_aload_n hx hb d_Vl_numberOf_53 rfl (lv_at hl 0 rfl) ?_
        refine lv_iload_n hx hb d_Vl_numberOf_54 rfl (lv_at hl 1 rfl) ?_
        refine lv_iload hx hb d_Vl_numberOf_55 (lv_at hl 5 rfl) ?_
        refine ux_calli (va_runV ⟨hx, hb, hml, hown, hts⟩ (c_Vl_letterOf l D shX KX ad cA Mc42 k kl ks n hU i i_5) (cwV 2 hts (tb_goodV ml_Vl_29 im_Vl_letterOf se_Vl_letterOf ii_Vl kt_Vl_letterOf) rfl rfl rfl (by decide +kernel) ⟨Nat.le_of_ble_eq_true rfl, Nat.le_of_ble_eq_true rfl⟩) (ux_preV hk hs rfl hP hK hi hN) rfl rfl hl.1 rfl (lv_room (Nat.le_of_ble_eq_true rfl)) d_Vl_numberOf_57 ⟨Nat.zero_le _, Nat.zero_le _⟩) hS (fun r5 M6 H locs q7 hP hS => ?_)
        obtain ⟨q7m, q7e⟩ := q7
        rw [q7m] at hP
        subst q7e
        refine lv_bipush (v := 48) hx hb d_Vl_numberOf_60 (by decide) ?_
        refine lv_isub hx hb d_Vl_numberOf_62 ?_
        refine lv_topi (fun x8 ex8 => ?_)
        try have fx8 : x8.toInt = (vt Mc42 kl ks n i i_5).toInt - 48 := by rw [ex8]; exact ti_sub (by (try rw [show (48 : Int32).toInt = 48 from rfl]); omega) (by (try rw [show (48 : Int32).toInt = 48 from rfl]); omega)
        refine lv_iadd hx hb d_Vl_numberOf_63 ?_
        refine lv_topi (fun x9 ex9 => ?_)
        try have fx9 : x9.toInt = x4.toInt + x8.toInt := by rw [ex9]; exact ti_add (by omega) (by omega)
        refine lv_istore hx hb d_Vl_numberOf_64 hl (by decide) rfl (fun ls hl => ?_)
        have hl : lv_has ls 6 [(4, .int x9), (0, .ref (ad k)), (1, .int i), (2, .int i_2), (3, .int i_3), (5, .int i_5)] := hl
        obtain ⟨x10, ex10⟩ : ∃ z : Int32, z = i_5 + 1 := ⟨_, rfl⟩
        refine lv_iinc (k := 5) (v := x10) hx hb d_Vl_numberOf_66 hl rfl ex10.symm (by decide) rfl (fun ls hl => ?_)
        have hl : lv_has ls 6 [(5, .int x10), (4, .int x9), (0, .ref (ad k)), (1, .int i), (2, .int i_2), (3, .int i_3)] := hl
        try have fx10 : x10.toInt = i_5.toInt + 1 := by rw [ex10]; exact ti_add (by (try rw [show (1 : Int32).toInt = 1 from rfl]); omega) (by (try rw [show (1 : Int32).toInt = 1 from rfl]); omega)
        refine lv_goto hx hb d_Vl_numberOf_69 rfl ?_
        exact ih42 ((i_2.toInt - x10.toInt).toNat) (by omega) i_2 i_3 x9 x10 Mc42 _ _ ls rfl (show 0 ≤ x10.toInt from by first | omega | assumption | exact Or.inl rfl | exact Or.inr rfl | rfl | decide) hP hI hF hS (lv_sub hl [2, 3, 4, 5, 1, 0] rfl)
  refine lv_aload_n hx hb d_Vl_numberOf_0 rfl (lv_at hl 0 rfl) ?_
  refine lv_iload_n hx hb d_Vl_numberOf_1 rfl (lv_at hl 1 rfl) ?_
  refine ux_calli (va_runV ⟨hx, hb, hml, hown, hts⟩ (c_Vl_sizeOf l D shX KX ad cA M k kl ks n hU i) (cwV 1 hts (tb_goodV ml_Vl_25 im_Vl_sizeOf se_Vl_sizeOf ii_Vl kt_Vl_sizeOf) rfl rfl rfl (by decide +kernel) ⟨Nat.le_of_ble_eq_true rfl, Nat.le_of_ble_eq_true rfl⟩) (ux_preV hk hs rfl hP hK hi hN) rfl rfl hl.1 rfl (lv_room (Nat.le_of_ble_eq_true rfl)) d_Vl_numberOf_2 ⟨Nat.zero_le _, Nat.zero_le _⟩) hS (fun r11 M12 H locs q13 hP hS => ?_)
  obtain ⟨q13m, q13e⟩ := q13
  rw [q13m] at hP
  subst q13e
  refine lv_bipush (v := 20) hx hb d_Vl_numberOf_5 (by decide) ?_
  refine va_mmin hx hb (by rw [hml]; exact hl.1.symm) hown (hT _ ml_Vl_58) (hT _ sm_Ma_min) (hT _ ii_Ma) (hT _ kt_Ma_min) (Nat.le_of_ble_eq_true rfl) (Nat.le_of_ble_eq_true rfl) (Nat.zero_le _) (Nat.zero_le _) d_Vl_numberOf_7 ?_
  have b14 := vmin_f (vz M ks n i) 20
  rw [show (20 : Int32).toInt = 20 from rfl] at b14
  refine lv_topi (fun x15 ex15 => ?_)
  rw [show vmin (vz M ks n i) 20 = x15 from ex15.symm] at b14
  refine lv_istore_n hx hb d_Vl_numberOf_10 rfl hl (by decide) rfl (fun ls hl => ?_)
  have hl : lv_has ls 6 [(2, .int x15), (0, .ref (ad k)), (1, .int i)] := hl
  refine lv_aload_n hx hb d_Vl_numberOf_11 rfl (lv_at hl 1 rfl) ?_
  refine lv_iload_n hx hb d_Vl_numberOf_12 rfl (lv_at hl 2 rfl) ?_
  refine lv_iconst (v := 0) hx hb d_Vl_numberOf_13 (by decide) ?_
  refine ux_calli (va_runV ⟨hx, hb, hml, hown, hts⟩ (c_Vl_letterOf l D shX KX ad cA M k kl ks n hU i 0) (cwV 2 hts (tb_goodV ml_Vl_29 im_Vl_letterOf se_Vl_letterOf ii_Vl kt_Vl_letterOf) rfl rfl rfl (by decide +kernel) ⟨Nat.le_of_ble_eq_true rfl, Nat.le_of_ble_eq_true rfl⟩) (ux_preV hk hs rfl hP hK hi hN) rfl rfl hl.1 rfl (lv_room (Nat.le_of_ble_eq_true rfl)) d_Vl_numberOf_14 ⟨Nat.zero_le _, Nat.zero_le _⟩) hS (fun r16 M17 H locs q18 hP hS => ?_)
  obtain ⟨q18m, q18e⟩ := q18
  rw [q18m] at hP
  subst q18e
  refine lv_bipush (v := 45) hx hb d_Vl_numberOf_17 (by decide) ?_
  refine lv_icmp_ne hx hb d_Vl_numberOf_19 rfl (fun h19 => ?_) (fun h19 => ?_)
  · have g19 : ¬ ((vt M kl ks n i 0).toInt = 45) := fun q => h19 (Int32.toInt_inj.mp q)
    refine lv_iconst (v := 0) hx hb d_Vl_numberOf_26 (by decide) ?_
    refine lv_istore_n hx hb d_Vl_numberOf_27 rfl hl (by decide) rfl (fun ls hl => ?_)
    have hl : lv_has ls 6 [(3, .int 0), (2, .int x15), (0, .ref (ad k)), (1, .int i)] := hl
    refine lv_iconst (v := 0) hx hb d_Vl_numberOf_28 (by decide) ?_
    refine lv_istore hx hb d_Vl_numberOf_29 hl (by decide) rfl (fun ls hl => ?_)
    have hl : lv_has ls 6 [(4, .int 0), (3, .int 0), (2, .int x15), (0, .ref (ad k)), (1, .int i)] := hl
    refine lv_iload_n hx hb d_Vl_numberOf_31 rfl (lv_at hl 1 rfl) ?_
    refine lv_if_eq hx hb d_Vl_numberOf_32 rfl (fun _ => ?_) (fun hz => absurd (by decide) hz)
    refine lv_iconst (v := 0) hx hb d_Vl_numberOf_39 (by decide) ?_
    refine lv_istore hx hb d_Vl_numberOf_40 hl (by decide) rfl (fun ls hl => ?_)
    have hl : lv_has ls 6 [(5, .int 0), (4, .int 0), (3, .int 0), (2, .int x15), (0, .ref (ad k)), (1, .int i)] := hl
    exact cut42 ((x15.toInt - 0).toNat) x15 0 0 0 M _ _ ls rfl (show 0 ≤ 0 from by first | omega | assumption | exact Or.inl rfl | exact Or.inr rfl | rfl | decide) hP hI hF hS (lv_sub hl [4, 5, 3, 2, 1, 0] rfl)
  · have g19 : (vt M kl ks n i 0).toInt = 45 := congrArg Int32.toInt h19
    refine lv_iconst (v := 1) hx hb d_Vl_numberOf_22 (by decide) ?_
    refine lv_goto hx hb d_Vl_numberOf_23 rfl ?_
    refine lv_istore_n hx hb d_Vl_numberOf_27 rfl hl (by decide) rfl (fun ls hl => ?_)
    have hl : lv_has ls 6 [(3, .int 1), (2, .int x15), (0, .ref (ad k)), (1, .int i)] := hl
    refine lv_iconst (v := 0) hx hb d_Vl_numberOf_28 (by decide) ?_
    refine lv_istore hx hb d_Vl_numberOf_29 hl (by decide) rfl (fun ls hl => ?_)
    have hl : lv_has ls 6 [(4, .int 0), (3, .int 1), (2, .int x15), (0, .ref (ad k)), (1, .int i)] := hl
    refine lv_iload_n hx hb d_Vl_numberOf_31 rfl (lv_at hl 1 rfl) ?_
    refine lv_if_eq hx hb d_Vl_numberOf_32 rfl (fun hz => absurd hz (by decide)) (fun _ => ?_)
    refine lv_iconst (v := 1) hx hb d_Vl_numberOf_35 (by decide) ?_
    refine lv_goto hx hb d_Vl_numberOf_36 rfl ?_
    refine lv_istore hx hb d_Vl_numberOf_40 hl (by decide) rfl (fun ls hl => ?_)
    have hl : lv_has ls 6 [(5, .int 1), (4, .int 0), (3, .int 1), (2, .int x15), (0, .ref (ad k)), (1, .int i)] := hl
    exact cut42 ((x15.toInt - 1).toNat) x15 1 0 1 M _ _ ls rfl (show 0 ≤ 1 from by first | omega | assumption | exact Or.inl rfl | exact Or.inr rfl | rfl | decide) hP hI hF hS (lv_sub hl [4, 5, 3, 2, 1, 0] rfl)

set_option maxHeartbeats 8000000 in
set_option maxRecDepth 100000 in
theorem s_Vl_placesOf (l : Launch) (D : va_G) (ad : Nat → Nat) (cA : Nat → ClassId) (M : ux_M) (hI : IvX M) (k kl ks n : Nat) (hV : vV k kl ks n) (i ch all : Int32) : Met l y_Vl_placesOf w_Vl_placesOf ({ frames := 1, cells := 0, slots := 0, locals := 22 }) (va_Pc [.ref (ad k), .int i, .int ch, .int all] (ux_B D shX KX ad cA M)) (va_Qi (fun r M1 => IvX M1 ∧ (∀ a b, ¬ tN a b → M1 a b = M a b) ∧ (True)) (ux_E D shX KX ad cA) (ux_A KX ad)) 0 0 (ux_A KX ad) := by
  refine Met.ofW (cc := b_Vl_placesOf) (maxL := 6) (ret := (some .int)) (by decide) rfl ?_
  intro p e s m args below meth c s₁ B hml hv
  obtain ⟨rfl, hP, hK, hi, hN⟩ := hv
  have hx := B.exec
  have hb := B.bytes
  have hr := B.returns
  have hts := atoms_spec (ws := w_Vl_placesOf) B.pre
  have hown : s.vm.findClass R_Vl = some m.cls := findClass_of_methodNamed B.named
  have hlocks := B.notSynchronized
  have hT : ∀ w ∈ tb, w.before _ s = true := fun w h => hts w (List.mem_cons_of_mem _ h)
  have hS : va_S (ux_A KX ad) s.heap s.heap [] := va_S.rf
  have hl := lv_entry ([.ref (ad k), .int i, .int ch, .int all]) (n := 6) (Nat.le_of_ble_eq_true rfl)
  rw [lg_entry_eq]
  generalize (lg_sl ([.ref (ad k), .int i, .int ch, .int all]) ++ List.replicate (6 - (lg_sl ([.ref (ad k), .int i, .int ch, .int all])).length) Slot.unset).toArray = ls at hl ⊢
  have hl : lv_has ls 6 [(0, .ref (ad k)), (1, .int i), (2, .int ch), (3, .int all)] := hl
  have hF : ∀ a b, ¬ tN a b → M a b = M a b := fun _ _ _ => rfl
  have hU := hV.1
  obtain ⟨hk, hkl, hks, hs, hsl, hss, hn⟩ := hV.1
  obtain ⟨hch, hpl, hps, hpc, hne⟩ := hV.2
  have cut6 : ∀ (nn : Nat) (i_4 i_5 : Int32) (Mc6 : ux_M) (H : Heap) (locs : List Loc) (ls : Array Slot), (all.toInt - i_5.toInt).toNat = nn → (0 ≤ i_5.toInt) → va_P D classes (ux_w shX KX ad cA Mc6) H → IvX Mc6 → (∀ a b, ¬ tN a b → Mc6 a b = M a b) → va_S (ux_A KX ad) s.heap H locs → lv_has ls 6 [(0, .ref (ad k)), (1, .int i), (2, .int ch), (3, .int all), (4, .int i_4), (5, .int i_5)] → W p l e (headSpec w_Vl_placesOf ({ frames := 1, cells := 0, slots := 0, locals := 22 })).room s m (([.ref (ad k), .int i, .int ch, .int all] : List Value).toArray) below meth c H locs 0 0 (MQ below (va_Qi (fun r M1 => IvX M1 ∧ (∀ a b, ¬ tN a b → M1 a b = M a b) ∧ (True)) (ux_E D shX KX ad cA) (ux_A KX ad)) (([.ref (ad k), .int i, .int ch, .int all] : List Value).toArray) s 0 0 (ux_A KX ad)) (F0 m 6 ls []) := by
    intro nn
    induction nn using Nat.strongRecOn with
    | ind nn ih6 =>
      intro i_4 i_5 Mc6 H locs ls hn c6_0 hP hI hF hS hl
      refine lv_iload hx hb d_Vl_placesOf_6 (lv_at hl 5 rfl) ?_
      refine lv_iload_n hx hb d_Vl_placesOf_8 rfl (lv_at hl 3 rfl) ?_
      refine lv_icmp_ge hx hb d_Vl_placesOf_9 rfl (fun h1 => ?_) (fun h1 => ?_)
      · have g1 : all.toInt ≤ i_5.toInt := Int32.le_iff_toInt_le.mp h1
        have u1 := ti_hi i_5
        have w1 := ti_lo all
        refine lv_iload hx hb d_Vl_placesOf_38 (lv_at hl 4 rfl) ?_
        exact W.iret (v := i_4) hx hb hr (fun t ht hW => ⟨⟨i_4, Mc6, rfl, ⟨hI, hF, trivial⟩, by unfold ux_E; rw [ht]; exact hP⟩, hS.F ht⟩) hS.2.2 d_Vl_placesOf_40
      · have g1 : ¬ (all.toInt ≤ i_5.toInt) := fun q => h1 (Int32.le_iff_toInt_le.mpr q)
        have u1 := ti_hi all
        have w1 := ti_lo i_5
        refine lv_aload_n hx hb d_Vl_placesOf_12 rfl (lv_at hl 0 rfl) ?_
        refine lv_iload_n hx hb d_Vl_placesOf_13 rfl (lv_at hl 1 rfl) ?_
        refine lv_iload hx hb d_Vl_placesOf_14 (lv_at hl 5 rfl) ?_
        refine ux_calli (va_runV ⟨hx, hb, hml, hown, hts⟩ (c_Vl_letterOf l D shX KX ad cA Mc6 k kl ks n hU i i_5) (cwV 2 hts (tb_goodV ml_Vl_29 im_Vl_letterOf se_Vl_letterOf ii_Vl kt_Vl_letterOf) rfl rfl rfl (by decide +kernel) ⟨Nat.le_of_ble_eq_true rfl, Nat.le_of_ble_eq_true rfl⟩) (ux_preV hk hs rfl hP hK hi hN) rfl rfl hl.1 rfl (lv_room (Nat.le_of_ble_eq_true rfl)) d_Vl_placesOf_16 ⟨Nat.zero_le _, Nat.zero_le _⟩) hS (fun r2 M3 H locs q4 hP hS => ?_)
        obtain ⟨q4m, q4e⟩ := q4
        rw [q4m] at hP
        subst q4e
        refine lv_iload_n hx hb d_Vl_placesOf_19 rfl (lv_at hl 2 rfl) ?_
        refine lv_icmp_ne hx hb d_Vl_placesOf_20 rfl (fun h5 => ?_) (fun h5 => ?_)
        · have g5 : ¬ ((vt Mc6 kl ks n i i_5).toInt = ch.toInt) := fun q => h5 (Int32.toInt_inj.mp q)
          obtain ⟨x6, ex6⟩ : ∃ z : Int32, z = i_5 + 1 := ⟨_, rfl⟩
          refine lv_iinc (k := 5) (v := x6) hx hb d_Vl_placesOf_32 hl rfl ex6.symm (by decide) rfl (fun ls hl => ?_)
          have hl : lv_has ls 6 [(5, .int x6), (0, .ref (ad k)), (1, .int i), (2, .int ch), (3, .int all), (4, .int i_4)] := hl
          try have fx6 : x6.toInt = i_5.toInt + 1 := by rw [ex6]; exact ti_add (by (try rw [show (1 : Int32).toInt = 1 from rfl]); omega) (by (try rw [show (1 : Int32).toInt = 1 from rfl]); omega)
          refine lv_goto hx hb d_Vl_placesOf_35 rfl ?_
          exact ih6 ((all.toInt - x6.toInt).toNat) (by omega) i_4 x6 Mc6 _ _ ls rfl (show 0 ≤ x6.toInt from by first | omega | assumption | exact Or.inl rfl | exact Or.inr rfl | rfl | decide) hP hI hF hS (lv_sub hl [1, 2, 3, 4, 5, 0] rfl)
        · have g5 : (vt Mc6 kl ks n i i_5).toInt = ch.toInt := congrArg Int32.toInt h5
          refine lv_iload hx hb d_Vl_placesOf_23 (lv_at hl 4 rfl) ?_
          refine lv_iconst (v := 1) hx hb d_Vl_placesOf_25 (by decide) ?_
          refine lv_iload hx hb d_Vl_placesOf_26 (lv_at hl 5 rfl) ?_
          refine lv_ishl hx hb d_Vl_placesOf_28 ?_
          refine lv_topi (fun x7 ex7 => ?_)
          refine lv_ior hx hb d_Vl_placesOf_29 ?_
          refine lv_topi (fun x8 ex8 => ?_)
          refine lv_istore hx hb d_Vl_placesOf_30 hl (by decide) rfl (fun ls hl => ?_)
          have hl : lv_has ls 6 [(4, .int x8), (0, .ref (ad k)), (1, .int i), (2, .int ch), (3, .int all), (5, .int i_5)] := hl
          obtain ⟨x9, ex9⟩ : ∃ z : Int32, z = i_5 + 1 := ⟨_, rfl⟩
          refine lv_iinc (k := 5) (v := x9) hx hb d_Vl_placesOf_32 hl rfl ex9.symm (by decide) rfl (fun ls hl => ?_)
          have hl : lv_has ls 6 [(5, .int x9), (4, .int x8), (0, .ref (ad k)), (1, .int i), (2, .int ch), (3, .int all)] := hl
          try have fx9 : x9.toInt = i_5.toInt + 1 := by rw [ex9]; exact ti_add (by (try rw [show (1 : Int32).toInt = 1 from rfl]); omega) (by (try rw [show (1 : Int32).toInt = 1 from rfl]); omega)
          refine lv_goto hx hb d_Vl_placesOf_35 rfl ?_
          exact ih6 ((all.toInt - x9.toInt).toNat) (by omega) x8 x9 Mc6 _ _ ls rfl (show 0 ≤ x9.toInt from by first | omega | assumption | exact Or.inl rfl | exact Or.inr rfl | rfl | decide) hP hI hF hS (lv_sub hl [2, 3, 4, 5, 1, 0] rfl)
  refine lv_iconst (v := 0) hx hb d_Vl_placesOf_0 (by decide) ?_
  refine lv_istore hx hb d_Vl_placesOf_1 hl (by decide) rfl (fun ls hl => ?_)
  have hl : lv_has ls 6 [(4, .int 0), (0, .ref (ad k)), (1, .int i), (2, .int ch), (3, .int all)] := hl
  refine lv_iconst (v := 0) hx hb d_Vl_placesOf_3 (by decide) ?_
  refine lv_istore hx hb d_Vl_placesOf_4 hl (by decide) rfl (fun ls hl => ?_)
  have hl : lv_has ls 6 [(5, .int 0), (4, .int 0), (0, .ref (ad k)), (1, .int i), (2, .int ch), (3, .int all)] := hl
  exact cut6 ((all.toInt - 0).toNat) 0 0 M _ _ ls rfl (show 0 ≤ 0 from by first | omega | assumption | exact Or.inl rfl | exact Or.inr rfl | rfl | decide) hP hI hF hS (lv_sub hl [2, 3, 4, 5, 1, 0] rfl)

set_option maxHeartbeats 8000000 in
set_option maxRecDepth 100000 in
theorem s_Vl_fittingBeginnings (l : Launch) (D : va_G) (ad : Nat → Nat) (cA : Nat → ClassId) (M : ux_M) (hI : IvX M) (k kl ks n : Nat) (hV : vV k kl ks n) (k2 kl2 ks2 n2 : Nat) (hV2 : vV k2 kl2 ks2 n2) (i j : Int32) : Met l y_Vl_fittingBeginnings w_Vl_fittingBeginnings ({ frames := 2, cells := 0, slots := 0, locals := 47 }) (va_Pc [.ref (ad k), .int i, .ref (ad k2), .int j] (ux_B D shX KX ad cA M)) (va_Qi (fun r M1 => IvX M1 ∧ (∀ a b, ¬ tN a b → M1 a b = M a b) ∧ (True)) (ux_E D shX KX ad cA) (ux_A KX ad)) 0 0 (ux_A KX ad) := by
  refine Met.ofW (cc := b_Vl_fittingBeginnings) (maxL := 10) (ret := (some .int)) (by decide) rfl ?_
  intro p e s m args below meth c s₁ B hml hv
  obtain ⟨rfl, hP, hK, hi, hN⟩ := hv
  have hx := B.exec
  have hb := B.bytes
  have hr := B.returns
  have hts := atoms_spec (ws := w_Vl_fittingBeginnings) B.pre
  have hown : s.vm.findClass R_Vl = some m.cls := findClass_of_methodNamed B.named
  have hlocks := B.notSynchronized
  have hT : ∀ w ∈ tb, w.before _ s = true := fun w h => hts w (List.mem_cons_of_mem _ h)
  have hS : va_S (ux_A KX ad) s.heap s.heap [] := va_S.rf
  have hl := lv_entry ([.ref (ad k), .int i, .ref (ad k2), .int j]) (n := 10) (Nat.le_of_ble_eq_true rfl)
  rw [lg_entry_eq]
  generalize (lg_sl ([.ref (ad k), .int i, .ref (ad k2), .int j]) ++ List.replicate (10 - (lg_sl ([.ref (ad k), .int i, .ref (ad k2), .int j])).length) Slot.unset).toArray = ls at hl ⊢
  have hl : lv_has ls 10 [(0, .ref (ad k)), (1, .int i), (2, .ref (ad k2)), (3, .int j)] := hl
  have hF : ∀ a b, ¬ tN a b → M a b = M a b := fun _ _ _ => rfl
  have hU := hV.1
  obtain ⟨hk, hkl, hks, hs, hsl, hss, hn⟩ := hV.1
  obtain ⟨hch, hpl, hps, hpc, hne⟩ := hV.2
  have hU2 := hV2.1
  obtain ⟨hk2, hkl2, hks2, hs2, hsl2, hss2, hn2⟩ := hV2.1
  obtain ⟨hch2, hpl2, hps2, hpc2, hne2⟩ := hV2.2
  have cut44 : ∀ (nn : Nat) (i_4 i_5 i_6 i_7 i_8 : Int32) (Mc44 : ux_M) (H : Heap) (locs : List Loc) (ls : Array Slot), (i_7.toInt - i_8.toInt).toNat = nn → (0 ≤ i_8.toInt) → va_P D classes (ux_w shX KX ad cA Mc44) H → IvX Mc44 → (∀ a b, ¬ tN a b → Mc44 a b = M a b) → va_S (ux_A KX ad) s.heap H locs → lv_has ls 10 [(0, .ref (ad k)), (1, .int i), (2, .ref (ad k2)), (3, .int j), (4, .int i_4), (5, .int i_5), (6, .int i_6), (7, .int i_7), (8, .int i_8)] → W p l e (headSpec w_Vl_fittingBeginnings ({ frames := 2, cells := 0, slots := 0, locals := 47 })).room s m (([.ref (ad k), .int i, .ref (ad k2), .int j] : List Value).toArray) below meth c H locs 0 0 (MQ below (va_Qi (fun r M1 => IvX M1 ∧ (∀ a b, ¬ tN a b → M1 a b = M a b) ∧ (True)) (ux_E D shX KX ad cA) (ux_A KX ad)) (([.ref (ad k), .int i, .ref (ad k2), .int j] : List Value).toArray) s 0 0 (ux_A KX ad)) (F0 m 44 ls []) := by
    intro nn
    induction nn using Nat.strongRecOn with
    | ind nn ih44 =>
      intro i_4 i_5 i_6 i_7 i_8 Mc44 H locs ls hn c44_0 hP hI hF hS hl
      refine lv_iload hx hb d_Vl_fittingBeginnings_44 (lv_at hl 8 rfl) ?_
      refine lv_iload hx hb d_Vl_fittingBeginnings_46 (lv_at hl 7 rfl) ?_
      refine lv_icmp_ge hx hb d_Vl_fittingBeginnings_48 rfl (fun h1 => ?_) (fun h1 => ?_)
      · have g1 : i_7.toInt ≤ i_8.toInt := Int32.le_iff_toInt_le.mp h1
        have u1 := ti_hi i_8
        have w1 := ti_lo i_7
        refine lv_iload hx hb d_Vl_fittingBeginnings_120 (lv_at hl 6 rfl) ?_
        exact W.iret (v := i_6) hx hb hr (fun t ht hW => ⟨⟨i_6, Mc44, rfl, ⟨hI, hF, trivial⟩, by unfold ux_E; rw [ht]; exact hP⟩, hS.F ht⟩) hS.2.2 d_Vl_fittingBeginnings_122
      · have g1 : ¬ (i_7.toInt ≤ i_8.toInt) := fun q => h1 (Int32.le_iff_toInt_le.mpr q)
        have u1 := ti_hi i_7
        have w1 := ti_lo i_8
        refine lv_aload_n hx hb d_Vl_fittingBeginnings_51 rfl (lv_at hl 2 rfl) ?_
        refine lv_iload_n hx hb d_Vl_fittingBeginnings_52 rfl (lv_at hl 3 rfl) ?_
        refine lv_iload hx hb d_Vl_fittingBeginnings_53 (lv_at hl 8 rfl) ?_
        refine ux_calli (va_runV ⟨hx, hb, hml, hown, hts⟩ (c_Vl_letterOf l D shX KX ad cA Mc44 k2 kl2 ks2 n2 hU2 j i_8) (cwV 2 hts (tb_goodV ml_Vl_29 im_Vl_letterOf se_Vl_letterOf ii_Vl kt_Vl_letterOf) rfl rfl rfl (by decide +kernel) ⟨Nat.le_of_ble_eq_true rfl, Nat.le_of_ble_eq_true rfl⟩) (ux_preV hk2 hs2 rfl hP hK hi hN) rfl rfl hl.1 rfl (lv_room (Nat.le_of_ble_eq_true rfl)) d_Vl_fittingBeginnings_55 ⟨Nat.zero_le _, Nat.zero_le _⟩) hS (fun r2 M3 H locs q4 hP hS => ?_)
        obtain ⟨q4m, q4e⟩ := q4
        rw [q4m] at hP
        subst q4e
        refine lv_istore hx hb d_Vl_fittingBeginnings_58 hl (by decide) rfl (fun ls hl => ?_)
        have hl : lv_has ls 10 [(9, .int (vt Mc44 kl2 ks2 n2 j i_8)), (0, .ref (ad k)), (1, .int i), (2, .ref (ad k2)), (3, .int j), (4, .int i_4), (5, .int i_5), (6, .int i_6), (7, .int i_7), (8, .int i_8)] := hl
        refine lv_iload hx hb d_Vl_fittingBeginnings_60 (lv_at hl 0 rfl) ?_
        refine lv_bipush (v := 42) hx hb d_Vl_fittingBeginnings_62 (by decide) ?_
        refine lv_icmp_ne hx hb d_Vl_fittingBeginnings_64 rfl (fun h5 => ?_) (fun h5 => ?_)
        · have g5 : ¬ ((vt Mc44 kl2 ks2 n2 j i_8).toInt = 42) := fun q => h5 (Int32.toInt_inj.mp q)
          refine lv_iload hx hb d_Vl_fittingBeginnings_79 (lv_at hl 0 rfl) ?_
          refine lv_bipush (v := 63) hx hb d_Vl_fittingBeginnings_81 (by decide) ?_
          refine lv_icmp_ne hx hb d_Vl_fittingBeginnings_83 rfl (fun h6 => ?_) (fun h6 => ?_)
          · have g6 : ¬ ((vt Mc44 kl2 ks2 n2 j i_8).toInt = 63) := fun q => h6 (Int32.toInt_inj.mp q)
            refine lv_iload hx hb d_Vl_fittingBeginnings_91 (lv_at hl 7 rfl) ?_
            refine lv_aload_n hx hb d_Vl_fittingBeginnings_93 rfl (lv_at hl 1 rfl) ?_
            refine lv_iload_n hx hb d_Vl_fittingBeginnings_94 rfl (lv_at hl 2 rfl) ?_
            refine lv_iload hx hb d_Vl_fittingBeginnings_95 (lv_at hl 0 rfl) ?_
            refine lv_iload hx hb d_Vl_fittingBeginnings_97 (lv_at hl 5 rfl) ?_
            refine ux_calli (va_runV ⟨hx, hb, hml, hown, hts⟩ (s_Vl_placesOf l D ad cA Mc44 hI k kl ks n hV i (vt Mc44 kl2 ks2 n2 j i_8) i_4) (cwV 3 hts (tb_goodV ml_Vl_66 im_Vl_placesOf se_Vl_placesOf ii_Vl kt_Vl_placesOf) rfl rfl rfl (by decide +kernel) ⟨Nat.le_of_ble_eq_true rfl, Nat.le_of_ble_eq_true rfl⟩) (ux_preV hk hs rfl hP hK hi hN) rfl rfl hl.1 rfl (lv_room (Nat.le_of_ble_eq_true rfl)) d_Vl_fittingBeginnings_99 ⟨Nat.zero_le _, Nat.zero_le _⟩) hS (fun r7 M8 H locs q9 hP hS => ?_)
            obtain ⟨hI, fq9, q9p⟩ := q9
            rw [tN_eq fq9] at hP hI
            refine lv_iand hx hb d_Vl_fittingBeginnings_102 ?_
            refine lv_topi (fun x10 ex10 => ?_)
            refine lv_iconst (v := 1) hx hb d_Vl_fittingBeginnings_103 (by decide) ?_
            refine lv_ishl hx hb d_Vl_fittingBeginnings_104 ?_
            refine lv_topi (fun x11 ex11 => ?_)
            refine lv_istore hx hb d_Vl_fittingBeginnings_105 hl (by decide) rfl (fun ls hl => ?_)
            have hl : lv_has ls 10 [(6, .int x11), (9, .int (vt Mc44 kl2 ks2 n2 j i_8)), (0, .ref (ad k)), (1, .int i), (2, .ref (ad k2)), (3, .int j), (4, .int i_4), (5, .int i_5), (7, .int i_7), (8, .int i_8)] := hl
            refine lv_iload hx hb d_Vl_fittingBeginnings_107 (lv_at hl 0 rfl) ?_
            refine lv_iload hx hb d_Vl_fittingBeginnings_109 (lv_at hl 7 rfl) ?_
            refine lv_iand hx hb d_Vl_fittingBeginnings_111 ?_
            refine lv_topi (fun x12 ex12 => ?_)
            refine lv_istore hx hb d_Vl_fittingBeginnings_112 hl (by decide) rfl (fun ls hl => ?_)
            have hl : lv_has ls 10 [(6, .int x12), (9, .int (vt Mc44 kl2 ks2 n2 j i_8)), (0, .ref (ad k)), (1, .int i), (2, .ref (ad k2)), (3, .int j), (4, .int i_4), (5, .int i_5), (7, .int i_7), (8, .int i_8)] := hl
            obtain ⟨x13, ex13⟩ : ∃ z : Int32, z = i_8 + 1 := ⟨_, rfl⟩
            refine lv_iinc (k := 9) (v := x13) hx hb d_Vl_fittingBeginnings_114 hl rfl ex13.symm (by decide) rfl (fun ls hl => ?_)
            have hl : lv_has ls 10 [(8, .int x13), (6, .int x12), (9, .int (vt Mc44 kl2 ks2 n2 j i_8)), (0, .ref (ad k)), (1, .int i), (2, .ref (ad k2)), (3, .int j), (4, .int i_4), (5, .int i_5), (7, .int i_7)] := hl
            try have fx13 : x13.toInt = i_8.toInt + 1 := by rw [ex13]; exact ti_add (by (try rw [show (1 : Int32).toInt = 1 from rfl]); omega) (by (try rw [show (1 : Int32).toInt = 1 from rfl]); omega)
            refine lv_goto hx hb d_Vl_fittingBeginnings_117 rfl ?_
            exact ih44 ((i_7.toInt - x13.toInt).toNat) (by omega) i_4 i_5 x12 i_7 x13 Mc44 _ _ ls rfl (show 0 ≤ x13.toInt from by first | omega | assumption | exact Or.inl rfl | exact Or.inr rfl | rfl | decide) hP hI hF hS (lv_sub hl [3, 4, 5, 6, 7, 8, 1, 9, 0] rfl)
          · have g6 : (vt Mc44 kl2 ks2 n2 j i_8).toInt = 63 := congrArg Int32.toInt h6
            refine lv_iload hx hb d_Vl_fittingBeginnings_86 (lv_at hl 7 rfl) ?_
            refine lv_goto hx hb d_Vl_fittingBeginnings_88 rfl ?_
            refine lv_iconst (v := 1) hx hb d_Vl_fittingBeginnings_103 (by decide) ?_
            refine lv_ishl hx hb d_Vl_fittingBeginnings_104 ?_
            refine lv_topi (fun x14 ex14 => ?_)
            refine lv_istore hx hb d_Vl_fittingBeginnings_105 hl (by decide) rfl (fun ls hl => ?_)
            have hl : lv_has ls 10 [(6, .int x14), (9, .int (vt Mc44 kl2 ks2 n2 j i_8)), (0, .ref (ad k)), (1, .int i), (2, .ref (ad k2)), (3, .int j), (4, .int i_4), (5, .int i_5), (7, .int i_7), (8, .int i_8)] := hl
            refine lv_iload hx hb d_Vl_fittingBeginnings_107 (lv_at hl 0 rfl) ?_
            refine lv_iload hx hb d_Vl_fittingBeginnings_109 (lv_at hl 7 rfl) ?_
            refine lv_iand hx hb d_Vl_fittingBeginnings_111 ?_
            refine lv_topi (fun x15 ex15 => ?_)
            refine lv_istore hx hb d_Vl_fittingBeginnings_112 hl (by decide) rfl (fun ls hl => ?_)
            have hl : lv_has ls 10 [(6, .int x15), (9, .int (vt Mc44 kl2 ks2 n2 j i_8)), (0, .ref (ad k)), (1, .int i), (2, .ref (ad k2)), (3, .int j), (4, .int i_4), (5, .int i_5), (7, .int i_7), (8, .int i_8)] := hl
            obtain ⟨x16, ex16⟩ : ∃ z : Int32, z = i_8 + 1 := ⟨_, rfl⟩
            refine lv_iinc (k := 9) (v := x16) hx hb d_Vl_fittingBeginnings_114 hl rfl ex16.symm (by decide) rfl (fun ls hl => ?_)
            have hl : lv_has ls 10 [(8, .int x16), (6, .int x15), (9, .int (vt Mc44 kl2 ks2 n2 j i_8)), (0, .ref (ad k)), (1, .int i), (2, .ref (ad k2)), (3, .int j), (4, .int i_4), (5, .int i_5), (7, .int i_7)] := hl
            try have fx16 : x16.toInt = i_8.toInt + 1 := by rw [ex16]; exact ti_add (by (try rw [show (1 : Int32).toInt = 1 from rfl]); omega) (by (try rw [show (1 : Int32).toInt = 1 from rfl]); omega)
            refine lv_goto hx hb d_Vl_fittingBeginnings_117 rfl ?_
            exact ih44 ((i_7.toInt - x16.toInt).toNat) (by omega) i_4 i_5 x15 i_7 x16 Mc44 _ _ ls rfl (show 0 ≤ x16.toInt from by first | omega | assumption | exact Or.inl rfl | exact Or.inr rfl | rfl | decide) hP hI hF hS (lv_sub hl [3, 4, 5, 6, 7, 8, 1, 9, 0] rfl)
        · have g5 : (vt Mc44 kl2 ks2 n2 j i_8).toInt = 42 := congrArg Int32.toInt h5
          refine lv_iload hx hb d_Vl_fittingBeginnings_67 (lv_at hl 7 rfl) ?_
          refine lv_iload hx hb d_Vl_fittingBeginnings_69 (lv_at hl 7 rfl) ?_
          refine lv_ineg hx hb d_Vl_fittingBeginnings_71 ?_
          refine lv_topi (fun x17 ex17 => ?_)
          try have fx17 : x17.toInt = - i_6.toInt := by rw [ex17]; exact ti_neg (by omega)
          refine lv_iand hx hb d_Vl_fittingBeginnings_72 ?_
          refine lv_topi (fun x18 ex18 => ?_)
          refine lv_ineg hx hb d_Vl_fittingBeginnings_73 ?_
          refine lv_topi (fun x19 ex19 => ?_)
          try have fx19 : x19.toInt = - x18.toInt := by rw [ex19]; exact ti_neg (by omega)
          refine lv_istore hx hb d_Vl_fittingBeginnings_74 hl (by decide) rfl (fun ls hl => ?_)
          have hl : lv_has ls 10 [(6, .int x19), (9, .int (vt Mc44 kl2 ks2 n2 j i_8)), (0, .ref (ad k)), (1, .int i), (2, .ref (ad k2)), (3, .int j), (4, .int i_4), (5, .int i_5), (7, .int i_7), (8, .int i_8)] := hl
          refine lv_goto hx hb d_Vl_fittingBeginnings_76 rfl ?_
          refine lv_iload hx hb d_Vl_fittingBeginnings_107 (lv_at hl 0 rfl) ?_
          refine lv_iload hx hb d_Vl_fittingBeginnings_109 (lv_at hl 7 rfl) ?_
          refine lv_iand hx hb d_Vl_fittingBeginnings_111 ?_
          refine lv_topi (fun x20 ex20 => ?_)
          refine lv_istore hx hb d_Vl_fittingBeginnings_112 hl (by decide) rfl (fun ls hl => ?_)
          have hl : lv_has ls 10 [(6, .int x20), (9, .int (vt Mc44 kl2 ks2 n2 j i_8)), (0, .ref (ad k)), (1, .int i), (2, .ref (ad k2)), (3, .int j), (4, .int i_4), (5, .int i_5), (7, .int i_7), (8, .int i_8)] := hl
          obtain ⟨x21, ex21⟩ : ∃ z : Int32, z = i_8 + 1 := ⟨_, rfl⟩
          refine lv_iinc (k := 9) (v := x21) hx hb d_Vl_fittingBeginnings_114 hl rfl ex21.symm (by decide) rfl (fun ls hl => ?_)
          have hl : lv_has ls 10 [(8, .int x21), (6, .int x20), (9, .int (vt Mc44 kl2 ks2 n2 j i_8)), (0, .ref (ad k)), (1, .int i), (2, .ref (ad k2)), (3, .int j), (4, .int i_4), (5, .int i_5), (7, .int i_7)] := hl
          try have fx21 : x21.toInt = i_8.toInt + 1 := by rw [ex21]; exact ti_add (by (try rw [show (1 : Int32).toInt = 1 from rfl]); omega) (by (try rw [show (1 : Int32).toInt = 1 from rfl]); omega)
          refine lv_goto hx hb d_Vl_fittingBeginnings_117 rfl ?_
          exact ih44 ((i_7.toInt - x21.toInt).toNat) (by omega) i_4 i_5 x20 i_7 x21 Mc44 _ _ ls rfl (show 0 ≤ x21.toInt from by first | omega | assumption | exact Or.inl rfl | exact Or.inr rfl | rfl | decide) hP hI hF hS (lv_sub hl [3, 4, 5, 6, 7, 8, 1, 9, 0] rfl)
  refine lv_aload_n hx hb d_Vl_fittingBeginnings_0 rfl (lv_at hl 0 rfl) ?_
  refine lv_iload_n hx hb d_Vl_fittingBeginnings_1 rfl (lv_at hl 1 rfl) ?_
  refine ux_calli (va_runV ⟨hx, hb, hml, hown, hts⟩ (c_Vl_sizeOf l D shX KX ad cA M k kl ks n hU i) (cwV 1 hts (tb_goodV ml_Vl_25 im_Vl_sizeOf se_Vl_sizeOf ii_Vl kt_Vl_sizeOf) rfl rfl rfl (by decide +kernel) ⟨Nat.le_of_ble_eq_true rfl, Nat.le_of_ble_eq_true rfl⟩) (ux_preV hk hs rfl hP hK hi hN) rfl rfl hl.1 rfl (lv_room (Nat.le_of_ble_eq_true rfl)) d_Vl_fittingBeginnings_2 ⟨Nat.zero_le _, Nat.zero_le _⟩) hS (fun r22 M23 H locs q24 hP hS => ?_)
  obtain ⟨q24m, q24e⟩ := q24
  rw [q24m] at hP
  subst q24e
  refine lv_iconst (v := 0) hx hb d_Vl_fittingBeginnings_5 (by decide) ?_
  refine va_mmax hx hb (by rw [hml]; exact hl.1.symm) hown (hT _ ml_Vl_63) (hT _ sm_Ma_max) (hT _ ii_Ma) (hT _ kt_Ma_max) (Nat.le_of_ble_eq_true rfl) (Nat.le_of_ble_eq_true rfl) (Nat.zero_le _) (Nat.zero_le _) d_Vl_fittingBeginnings_6 ?_
  have b25 := vmax_f (vz M ks n i) 0
  rw [show (0 : Int32).toInt = 0 from rfl] at b25
  refine lv_topi (fun x26 ex26 => ?_)
  rw [show vmax (vz M ks n i) 0 = x26 from ex26.symm] at b25
  refine lv_bipush (v := 20) hx hb d_Vl_fittingBeginnings_9 (by decide) ?_
  refine va_mmin hx hb (by rw [hml]; exact hl.1.symm) hown (hT _ ml_Vl_58) (hT _ sm_Ma_min) (hT _ ii_Ma) (hT _ kt_Ma_min) (Nat.le_of_ble_eq_true rfl) (Nat.le_of_ble_eq_true rfl) (Nat.zero_le _) (Nat.zero_le _) d_Vl_fittingBeginnings_11 ?_
  have b27 := vmin_f x26 20
  rw [show (20 : Int32).toInt = 20 from rfl] at b27
  refine lv_topi (fun x28 ex28 => ?_)
  rw [show vmin x26 20 = x28 from ex28.symm] at b27
  refine lv_istore hx hb d_Vl_fittingBeginnings_14 hl (by decide) rfl (fun ls hl => ?_)
  have hl : lv_has ls 10 [(4, .int x28), (0, .ref (ad k)), (1, .int i), (2, .ref (ad k2)), (3, .int j)] := hl
  refine lv_iconst (v := 1) hx hb d_Vl_fittingBeginnings_16 (by decide) ?_
  refine lv_iload hx hb d_Vl_fittingBeginnings_17 (lv_at hl 0 rfl) ?_
  refine lv_iconst (v := 1) hx hb d_Vl_fittingBeginnings_19 (by decide) ?_
  refine lv_iadd hx hb d_Vl_fittingBeginnings_20 ?_
  refine lv_topi (fun x29 ex29 => ?_)
  try have fx29 : x29.toInt = x28.toInt + 1 := by rw [ex29]; exact ti_add (by (try rw [show (1 : Int32).toInt = 1 from rfl]); omega) (by (try rw [show (1 : Int32).toInt = 1 from rfl]); omega)
  refine lv_ishl hx hb d_Vl_fittingBeginnings_21 ?_
  refine lv_topi (fun x30 ex30 => ?_)
  refine lv_iconst (v := 1) hx hb d_Vl_fittingBeginnings_22 (by decide) ?_
  refine lv_isub hx hb d_Vl_fittingBeginnings_23 ?_
  refine lv_topi (fun x31 ex31 => ?_)
  try have fx31 : x31.toInt = x30.toInt - 1 := by rw [ex31]; exact ti_sub (by (try rw [show (1 : Int32).toInt = 1 from rfl]); omega) (by (try rw [show (1 : Int32).toInt = 1 from rfl]); omega)
  refine lv_istore hx hb d_Vl_fittingBeginnings_24 hl (by decide) rfl (fun ls hl => ?_)
  have hl : lv_has ls 10 [(5, .int x31), (4, .int x28), (0, .ref (ad k)), (1, .int i), (2, .ref (ad k2)), (3, .int j)] := hl
  refine lv_iconst (v := 1) hx hb d_Vl_fittingBeginnings_26 (by decide) ?_
  refine lv_istore hx hb d_Vl_fittingBeginnings_27 hl (by decide) rfl (fun ls hl => ?_)
  have hl : lv_has ls 10 [(6, .int 1), (5, .int x31), (4, .int x28), (0, .ref (ad k)), (1, .int i), (2, .ref (ad k2)), (3, .int j)] := hl
  refine lv_aload_n hx hb d_Vl_fittingBeginnings_29 rfl (lv_at hl 5 rfl) ?_
  refine lv_iload_n hx hb d_Vl_fittingBeginnings_30 rfl (lv_at hl 6 rfl) ?_
  refine ux_calli (va_runV ⟨hx, hb, hml, hown, hts⟩ (c_Vl_sizeOf l D shX KX ad cA M k2 kl2 ks2 n2 hU2 j) (cwV 1 hts (tb_goodV ml_Vl_25 im_Vl_sizeOf se_Vl_sizeOf ii_Vl kt_Vl_sizeOf) rfl rfl rfl (by decide +kernel) ⟨Nat.le_of_ble_eq_true rfl, Nat.le_of_ble_eq_true rfl⟩) (ux_preV hk2 hs2 rfl hP hK hi hN) rfl rfl hl.1 rfl (lv_room (Nat.le_of_ble_eq_true rfl)) d_Vl_fittingBeginnings_31 ⟨Nat.zero_le _, Nat.zero_le _⟩) hS (fun r32 M33 H locs q34 hP hS => ?_)
  obtain ⟨q34m, q34e⟩ := q34
  rw [q34m] at hP
  subst q34e
  refine lv_bipush (v := 20) hx hb d_Vl_fittingBeginnings_34 (by decide) ?_
  refine va_mmin hx hb (by rw [hml]; exact hl.1.symm) hown (hT _ ml_Vl_58) (hT _ sm_Ma_min) (hT _ ii_Ma) (hT _ kt_Ma_min) (Nat.le_of_ble_eq_true rfl) (Nat.le_of_ble_eq_true rfl) (Nat.zero_le _) (Nat.zero_le _) d_Vl_fittingBeginnings_36 ?_
  have b35 := vmin_f (vz M ks2 n2 j) 20
  rw [show (20 : Int32).toInt = 20 from rfl] at b35
  refine lv_topi (fun x36 ex36 => ?_)
  rw [show vmin (vz M ks2 n2 j) 20 = x36 from ex36.symm] at b35
  refine lv_istore hx hb d_Vl_fittingBeginnings_39 hl (by decide) rfl (fun ls hl => ?_)
  have hl : lv_has ls 10 [(7, .int x36), (6, .int 1), (5, .int x31), (4, .int x28), (0, .ref (ad k)), (1, .int i), (2, .ref (ad k2)), (3, .int j)] := hl
  refine lv_iconst (v := 0) hx hb d_Vl_fittingBeginnings_41 (by decide) ?_
  refine lv_istore hx hb d_Vl_fittingBeginnings_42 hl (by decide) rfl (fun ls hl => ?_)
  have hl : lv_has ls 10 [(8, .int 0), (7, .int x36), (6, .int 1), (5, .int x31), (4, .int x28), (0, .ref (ad k)), (1, .int i), (2, .ref (ad k2)), (3, .int j)] := hl
  exact cut44 ((x36.toInt - 0).toNat) x28 x31 1 x36 0 M _ _ ls rfl (show 0 ≤ 0 from by first | omega | assumption | exact Or.inl rfl | exact Or.inr rfl | rfl | decide) hP hI hF hS (lv_sub hl [5, 6, 7, 8, 4, 3, 2, 1, 0] rfl)

set_option maxHeartbeats 8000000 in
set_option maxRecDepth 100000 in
theorem s_Vl_writeNumber (l : Launch) (D : va_G) (ad : Nat → Nat) (cA : Nat → ClassId) (M : ux_M) (hI : IvX M) (k kl ks n : Nat) (hV : vV k kl ks n) (i num : Int32) : Met l y_Vl_writeNumber w_Vl_writeNumber ({ frames := 1, cells := 0, slots := 0, locals := 22 }) (va_Pc [.ref (ad k), .int i, .int num] (ux_B D shX KX ad cA M)) (va_Qv (fun M1 => IvX M1 ∧ (∀ a b, ¬ (tV kl ks) a b → M1 a b = M a b) ∧ (True)) (ux_E D shX KX ad cA) (ux_A KX ad)) 0 0 (ux_A KX ad) := by
  refine Met.ofW (cc := b_Vl_writeNumber) (maxL := 8) (ret := none) (by decide) rfl ?_
  intro p e s m args below meth c s₁ B hml hv
  obtain ⟨rfl, hP, hK, hi, hN⟩ := hv
  have hx := B.exec
  have hb := B.bytes
  have hr := B.returns
  have hts := atoms_spec (ws := w_Vl_writeNumber) B.pre
  have hown : s.vm.findClass R_Vl = some m.cls := findClass_of_methodNamed B.named
  have hlocks := B.notSynchronized
  have hT : ∀ w ∈ tb, w.before _ s = true := fun w h => hts w (List.mem_cons_of_mem _ h)
  have hS : va_S (ux_A KX ad) s.heap s.heap [] := va_S.rf
  have hl := lv_entry ([.ref (ad k), .int i, .int num]) (n := 8) (Nat.le_of_ble_eq_true rfl)
  rw [lg_entry_eq]
  generalize (lg_sl ([.ref (ad k), .int i, .int num]) ++ List.replicate (8 - (lg_sl ([.ref (ad k), .int i, .int num])).length) Slot.unset).toArray = ls at hl ⊢
  have hl : lv_has ls 8 [(0, .ref (ad k)), (1, .int i), (2, .int num)] := hl
  have hF : ∀ a b, ¬ (tV kl ks) a b → M a b = M a b := fun _ _ _ => rfl
  have hU := hV.1
  obtain ⟨hk, hkl, hks, hs, hsl, hss, hn⟩ := hV.1
  obtain ⟨hch, hpl, hps, hpc, hne⟩ := hV.2
  have cut66 : ∀ (nn : Nat) (y7 : Int32) (v3 v5 : Int64) (Mc66 : ux_M) (H : Heap) (locs : List Loc) (ls : Array Slot), ((10 : Int) - y7.toInt).toNat = nn → (0 ≤ y7.toInt) → va_P D classes (ux_w shX KX ad cA Mc66) H → IvX Mc66 → (∀ a b, ¬ (tV kl ks) a b → Mc66 a b = M a b) → va_S (ux_A KX ad) s.heap H locs → lv_has ls 8 [(0, .ref (ad k)), (1, .int i), (3, .long v3), (5, .long v5), (7, .int y7)] → W p l e (headSpec w_Vl_writeNumber ({ frames := 1, cells := 0, slots := 0, locals := 22 })).room s m (([.ref (ad k), .int i, .int num] : List Value).toArray) below meth c H locs 0 0 (MQ below (va_Qv (fun M1 => IvX M1 ∧ (∀ a b, ¬ (tV kl ks) a b → M1 a b = M a b) ∧ (True)) (ux_E D shX KX ad cA) (ux_A KX ad)) (([.ref (ad k), .int i, .int num] : List Value).toArray) s 0 0 (ux_A KX ad)) (F0 m 66 ls []) := by
    intro nn
    induction nn using Nat.strongRecOn with
    | ind nn ih66 =>
      intro y7 v3 v5 Mc66 H locs ls hn c66_0 hP hI hF hS hl
      refine lv_iload hx hb d_Vl_writeNumber_66 (lv_at hl 4 rfl) ?_
      refine lv_bipush (v := 10) hx hb d_Vl_writeNumber_68 (by decide) ?_
      refine lv_icmp_ge hx hb d_Vl_writeNumber_70 rfl (fun h1 => ?_) (fun h1 => ?_)
      · have g1 : 10 ≤ y7.toInt := Int32.le_iff_toInt_le.mp h1
        have u1 := ti_hi y7
        exact W.vret hx hb hr (fun t ht hW => ⟨⟨Mc66, rfl, ⟨hI, hF, trivial⟩, by unfold ux_E; rw [ht]; exact hP⟩, hS.F ht⟩) hS.2.2 d_Vl_writeNumber_113
      · have g1 : ¬ (10 ≤ y7.toInt) := fun q => h1 (Int32.le_iff_toInt_le.mpr q)
        have w1 := ti_lo y7
        refine lv_lload hx hb d_Vl_writeNumber_73 (lv_at hl 3 rfl) ?_
        refine lv_lconst (v := 0) hx hb d_Vl_writeNumber_75 (by decide) ?_
        refine W.lcmp hx hb d_Vl_writeNumber_76 ?_
        refine lv_if_le hx hb d_Vl_writeNumber_77 rfl (fun h2 => ?_) (fun h2 => ?_)
        · have g2 : (lg_cmp v5 0).toInt ≤ 0 := Int32.le_iff_toInt_le.mp h2
          have w2 := ti_lo (lg_cmp v5 0)
          exact W.vret hx hb hr (fun t ht hW => ⟨⟨Mc66, rfl, ⟨hI, hF, trivial⟩, by unfold ux_E; rw [ht]; exact hP⟩, hS.F ht⟩) hS.2.2 d_Vl_writeNumber_113
        · have g2 : ¬ ((lg_cmp v5 0).toInt ≤ 0) := fun q => h2 (Int32.le_iff_toInt_le.mpr q)
          have u2 := ti_hi (lg_cmp v5 0)
          have hu := lc_ne (by assumption)
          refine lv_aload_n hx hb d_Vl_writeNumber_80 rfl (lv_at hl 0 rfl) ?_
          refine lv_iload_n hx hb d_Vl_writeNumber_81 rfl (lv_at hl 1 rfl) ?_
          refine lv_ldc2 (v := 48) hx hb hown (hT _ co_Vl_53) d_Vl_writeNumber_82 ?_
          refine lv_lload_n hx hb d_Vl_writeNumber_85 rfl (lv_at hl 2 rfl) ?_
          refine lv_lload hx hb d_Vl_writeNumber_86 (lv_at hl 3 rfl) ?_
          refine lv_ldiv hx hb d_Vl_writeNumber_88 (by first | assumption | decide) ?_
          refine lv_topl (fun x3 ex3 => ?_)
          refine lv_ldc2 (v := 10) hx hb hown (hT _ co_Vl_51) d_Vl_writeNumber_89 ?_
          refine lv_lrem hx hb d_Vl_writeNumber_92 (by first | assumption | decide) ?_
          refine lv_topl (fun x4 ex4 => ?_)
          refine lv_ladd hx hb d_Vl_writeNumber_93 ?_
          refine lv_topl (fun x5 ex5 => ?_)
          refine lv_l2i hx hb d_Vl_writeNumber_94 rfl ?_
          refine lv_topi (fun x6 ex6 => ?_)
          refine ux_calli (va_runV ⟨hx, hb, hml, hown, hts⟩ (s_Vl_append l D ad cA Mc66 hI k kl ks n hV i x6) (cwV 2 hts (tb_goodV ml_Vl_33 im_Vl_append se_Vl_append ii_Vl kt_Vl_append) rfl rfl rfl (by decide +kernel) ⟨Nat.le_of_ble_eq_true rfl, Nat.le_of_ble_eq_true rfl⟩) (ux_preV hk hs rfl hP hK hi hN) rfl rfl hl.1 rfl (lv_room (Nat.le_of_ble_eq_true rfl)) d_Vl_writeNumber_95 ⟨Nat.zero_le _, Nat.zero_le _⟩) hS (fun r7 M8 H locs q9 hP hS => ?_)
          obtain ⟨hI, fq9, q9p⟩ := q9
          have hF := fr_call hF fq9 (fun a b q => by unfold tV at q; unfold tV; omega)
          refine lv_pop hx hb d_Vl_writeNumber_98 rfl ?_
          refine lv_lload hx hb d_Vl_writeNumber_99 (lv_at hl 3 rfl) ?_
          refine lv_ldc2 (v := 10) hx hb hown (hT _ co_Vl_51) d_Vl_writeNumber_101 ?_
          refine lv_ldiv hx hb d_Vl_writeNumber_104 (by first | assumption | decide) ?_
          refine lv_topl (fun x10 ex10 => ?_)
          refine lv_lstore hx hb d_Vl_writeNumber_105 hl (by decide) rfl (fun ls hl => ?_)
          have hl : lv_has ls 8 [(5, .long x10), (0, .ref (ad k)), (1, .int i), (3, .long v3), (7, .int y7)] := hl
          obtain ⟨x11, ex11⟩ : ∃ z : Int32, z = y7 + 1 := ⟨_, rfl⟩
          refine lv_iinc (k := 4) (v := x11) hx hb d_Vl_writeNumber_107 hl rfl ex11.symm (by decide) rfl (fun ls hl => ?_)
          have hl : lv_has ls 8 [(7, .int x11), (5, .long x10), (0, .ref (ad k)), (1, .int i), (3, .long v3)] := hl
          try have fx11 : x11.toInt = y7.toInt + 1 := by rw [ex11]; exact ti_add (by (try rw [show (1 : Int32).toInt = 1 from rfl]); omega) (by (try rw [show (1 : Int32).toInt = 1 from rfl]); omega)
          refine lv_goto hx hb d_Vl_writeNumber_110 rfl ?_
          exact ih66 (((10 : Int) - x11.toInt).toNat) (by omega) x11 v3 x10 M8 _ _ ls rfl (show 0 ≤ x11.toInt from by first | omega | assumption | exact Or.inl rfl | exact Or.inr rfl | rfl | decide) hP hI hF hS (lv_sub hl [2, 3, 4, 1, 0] rfl)
  have cut31 : ∀ (nn : Nat) (i_7 : Int32) (u3 u5 : Int64) (Mc31 : ux_M) (H : Heap) (locs : List Loc) (ls : Array Slot), ((10 : Int) - i_7.toInt).toNat = nn → (wu i_7 u5) → va_P D classes (ux_w shX KX ad cA Mc31) H → IvX Mc31 → (∀ a b, ¬ (tV kl ks) a b → Mc31 a b = M a b) → va_S (ux_A KX ad) s.heap H locs → lv_has ls 8 [(0, .ref (ad k)), (1, .int i), (3, .long u3), (5, .long u5), (7, .int i_7)] → W p l e (headSpec w_Vl_writeNumber ({ frames := 1, cells := 0, slots := 0, locals := 22 })).room s m (([.ref (ad k), .int i, .int num] : List Value).toArray) below meth c H locs 0 0 (MQ below (va_Qv (fun M1 => IvX M1 ∧ (∀ a b, ¬ (tV kl ks) a b → M1 a b = M a b) ∧ (True)) (ux_E D shX KX ad cA) (ux_A KX ad)) (([.ref (ad k), .int i, .int num] : List Value).toArray) s 0 0 (ux_A KX ad)) (F0 m 31 ls []) := by
    intro nn
    induction nn using Nat.strongRecOn with
    | ind nn ih31 =>
      intro i_7 u3 u5 Mc31 H locs ls hn c31_0 hP hI hF hS hl
      have hu := wu_n c31_0
      have hub := wu_b c31_0
      refine lv_iload hx hb d_Vl_writeNumber_31 (lv_at hl 4 rfl) ?_
      refine lv_bipush (v := 10) hx hb d_Vl_writeNumber_33 (by decide) ?_
      refine lv_icmp_ge hx hb d_Vl_writeNumber_35 rfl (fun h12 => ?_) (fun h12 => ?_)
      · have g12 : 10 ≤ i_7.toInt := Int32.le_iff_toInt_le.mp h12
        have u12 := ti_hi i_7
        refine lv_iconst (v := 0) hx hb d_Vl_writeNumber_63 (by decide) ?_
        refine lv_istore hx hb d_Vl_writeNumber_64 hl (by decide) rfl (fun ls hl => ?_)
        have hl : lv_has ls 8 [(7, .int 0), (0, .ref (ad k)), (1, .int i), (3, .long u3), (5, .long u5)] := hl
        exact cut66 (((10 : Int) - 0).toNat) 0 u3 u5 Mc31 _ _ ls rfl (show 0 ≤ 0 from by first | omega | assumption | exact Or.inl rfl | exact Or.inr rfl | rfl | decide) hP hI hF hS (lv_sub hl [1, 2, 3, 4, 0] rfl)
      · have g12 : ¬ (10 ≤ i_7.toInt) := fun q => h12 (Int32.le_iff_toInt_le.mpr q)
        have w12 := ti_lo i_7
        refine lv_lload_n hx hb d_Vl_writeNumber_38 rfl (lv_at hl 2 rfl) ?_
        refine lv_lload hx hb d_Vl_writeNumber_39 (lv_at hl 3 rfl) ?_
        refine lv_ldiv hx hb d_Vl_writeNumber_41 (by first | assumption | decide) ?_
        refine lv_topl (fun x13 ex13 => ?_)
        refine lv_ldc2 (v := 10) hx hb hown (hT _ co_Vl_51) d_Vl_writeNumber_42 ?_
        refine W.lcmp hx hb d_Vl_writeNumber_45 ?_
        refine lv_if_lt hx hb d_Vl_writeNumber_46 rfl (fun h14 => ?_) (fun h14 => ?_)
        · have g14 : (lg_cmp x13 10).toInt < 0 := Int32.lt_iff_toInt_lt.mp h14
          have w14 := ti_lo (lg_cmp x13 10)
          refine lv_iconst (v := 0) hx hb d_Vl_writeNumber_63 (by decide) ?_
          refine lv_istore hx hb d_Vl_writeNumber_64 hl (by decide) rfl (fun ls hl => ?_)
          have hl : lv_has ls 8 [(7, .int 0), (0, .ref (ad k)), (1, .int i), (3, .long u3), (5, .long u5)] := hl
          exact cut66 (((10 : Int) - 0).toNat) 0 u3 u5 Mc31 _ _ ls rfl (show 0 ≤ 0 from by first | omega | assumption | exact Or.inl rfl | exact Or.inr rfl | rfl | decide) hP hI hF hS (lv_sub hl [1, 2, 3, 4, 0] rfl)
        · have g14 : ¬ ((lg_cmp x13 10).toInt < 0) := fun q => h14 (Int32.lt_iff_toInt_lt.mpr q)
          have u14 := ti_hi (lg_cmp x13 10)
          refine lv_lload hx hb d_Vl_writeNumber_49 (lv_at hl 3 rfl) ?_
          refine lv_ldc2 (v := 10) hx hb hown (hT _ co_Vl_51) d_Vl_writeNumber_51 ?_
          refine lv_lmul hx hb d_Vl_writeNumber_54 ?_
          refine lv_topl (fun x15 ex15 => ?_)
          refine lv_lstore hx hb d_Vl_writeNumber_55 hl (by decide) rfl (fun ls hl => ?_)
          have hl : lv_has ls 8 [(5, .long x15), (0, .ref (ad k)), (1, .int i), (3, .long u3), (7, .int i_7)] := hl
          obtain ⟨x16, ex16⟩ : ∃ z : Int32, z = i_7 + 1 := ⟨_, rfl⟩
          refine lv_iinc (k := 4) (v := x16) hx hb d_Vl_writeNumber_57 hl rfl ex16.symm (by decide) rfl (fun ls hl => ?_)
          have hl : lv_has ls 8 [(7, .int x16), (5, .long x15), (0, .ref (ad k)), (1, .int i), (3, .long u3)] := hl
          try have fx16 : x16.toInt = i_7.toInt + 1 := by rw [ex16]; exact ti_add (by (try rw [show (1 : Int32).toInt = 1 from rfl]); omega) (by (try rw [show (1 : Int32).toInt = 1 from rfl]); omega)
          refine lv_goto hx hb d_Vl_writeNumber_60 rfl ?_
          exact ih31 (((10 : Int) - x16.toInt).toNat) (by omega) x16 u3 x15 Mc31 _ _ ls rfl (show wu x16 x15 from by first | exact wu_0 | (subst_vars; exact wu_s (by assumption) (by assumption))) hP hI hF hS (lv_sub hl [2, 3, 4, 1, 0] rfl)
  refine lv_aload_n hx hb d_Vl_writeNumber_0 rfl (lv_at hl 0 rfl) ?_
  refine lv_iload_n hx hb d_Vl_writeNumber_1 rfl (lv_at hl 1 rfl) ?_
  refine ux_callv (va_runV ⟨hx, hb, hml, hown, hts⟩ (c_Vl_empty l D shX KX ad cA M k kl ks n hU i) (cwV 1 hts (tb_goodV ml_Vl_47 im_Vl_empty se_Vl_empty ii_Vl kt_Vl_empty) rfl rfl rfl (by decide +kernel) ⟨Nat.le_of_ble_eq_true rfl, Nat.le_of_ble_eq_true rfl⟩) (ux_preV hk hs rfl hP hK hi hN) rfl rfl hl.1 rfl (lv_room (Nat.le_of_ble_eq_true rfl)) d_Vl_writeNumber_2 ⟨Nat.zero_le _, Nat.zero_le _⟩) hS (fun M17 H locs q18 hP hS => ?_)
  have fq18 := vem_off (M := M) (ks := ks) (n := n) (i := i)
  rw [← q18] at fq18
  have hI : IvX M17 := by rw [q18]; exact vem_I hI hps hpc
  have hF := fr_call hF fq18 (fun a b q => by unfold tV1 at q; unfold tV; omega)
  refine lv_iload_n hx hb d_Vl_writeNumber_5 rfl (lv_at hl 2 rfl) ?_
  refine lv_i2l hx hb d_Vl_writeNumber_6 rfl ?_
  refine lv_topl (fun x19 ex19 => ?_)
  refine lv_lstore_n hx hb d_Vl_writeNumber_7 rfl hl (by decide) rfl (fun ls hl => ?_)
  have hl : lv_has ls 8 [(3, .long x19), (0, .ref (ad k)), (1, .int i), (2, .int num)] := hl
  refine lv_lload_n hx hb d_Vl_writeNumber_8 rfl (lv_at hl 0 rfl) ?_
  refine lv_lconst (v := 0) hx hb d_Vl_writeNumber_9 (by decide) ?_
  refine W.lcmp hx hb d_Vl_writeNumber_10 ?_
  refine lv_if_ge hx hb d_Vl_writeNumber_11 rfl (fun h20 => ?_) (fun h20 => ?_)
  · have g20 : 0 ≤ (lg_cmp x19 0).toInt := Int32.le_iff_toInt_le.mp h20
    have u20 := ti_hi (lg_cmp x19 0)
    refine lv_lconst (v := 1) hx hb d_Vl_writeNumber_25 (by decide) ?_
    refine lv_lstore hx hb d_Vl_writeNumber_26 hl (by decide) rfl (fun ls hl => ?_)
    have hl : lv_has ls 8 [(5, .long 1), (3, .long x19), (0, .ref (ad k)), (1, .int i), (2, .int num)] := hl
    refine lv_iconst (v := 1) hx hb d_Vl_writeNumber_28 (by decide) ?_
    refine lv_istore hx hb d_Vl_writeNumber_29 hl (by decide) rfl (fun ls hl => ?_)
    have hl : lv_has ls 8 [(7, .int 1), (5, .long 1), (3, .long x19), (0, .ref (ad k)), (1, .int i), (2, .int num)] := hl
    exact cut31 (((10 : Int) - 1).toNat) 1 x19 1 M17 _ _ ls rfl (show wu (1 : Int32) (1 : Int64) from by first | exact wu_0 | (subst_vars; exact wu_s (by assumption) (by assumption))) hP hI hF hS (lv_sub hl [3, 4, 2, 1, 0] rfl)
  · have g20 : ¬ (0 ≤ (lg_cmp x19 0).toInt) := fun q => h20 (Int32.le_iff_toInt_le.mpr q)
    have w20 := ti_lo (lg_cmp x19 0)
    refine lv_aload_n hx hb d_Vl_writeNumber_14 rfl (lv_at hl 1 rfl) ?_
    refine lv_iload_n hx hb d_Vl_writeNumber_15 rfl (lv_at hl 2 rfl) ?_
    refine lv_bipush (v := 45) hx hb d_Vl_writeNumber_16 (by decide) ?_
    refine ux_calli (va_runV ⟨hx, hb, hml, hown, hts⟩ (s_Vl_append l D ad cA M17 hI k kl ks n hV i 45) (cwV 2 hts (tb_goodV ml_Vl_33 im_Vl_append se_Vl_append ii_Vl kt_Vl_append) rfl rfl rfl (by decide +kernel) ⟨Nat.le_of_ble_eq_true rfl, Nat.le_of_ble_eq_true rfl⟩) (ux_preV hk hs rfl hP hK hi hN) rfl rfl hl.1 rfl (lv_room (Nat.le_of_ble_eq_true rfl)) d_Vl_writeNumber_18 ⟨Nat.zero_le _, Nat.zero_le _⟩) hS (fun r21 M22 H locs q23 hP hS => ?_)
    obtain ⟨hI, fq23, q23p⟩ := q23
    have hF := fr_call hF fq23 (fun a b q => by unfold tV at q; unfold tV; omega)
    refine lv_pop hx hb d_Vl_writeNumber_21 rfl ?_
    refine lv_lload_n hx hb d_Vl_writeNumber_22 rfl (lv_at hl 0 rfl) ?_
    refine lv_lneg hx hb d_Vl_writeNumber_23 ?_
    refine lv_topl (fun x24 ex24 => ?_)
    refine lv_lstore_n hx hb d_Vl_writeNumber_24 rfl hl (by decide) rfl (fun ls hl => ?_)
    have hl : lv_has ls 8 [(3, .long x24), (0, .ref (ad k)), (1, .int i), (2, .int num)] := hl
    refine lv_lconst (v := 1) hx hb d_Vl_writeNumber_25 (by decide) ?_
    refine lv_lstore hx hb d_Vl_writeNumber_26 hl (by decide) rfl (fun ls hl => ?_)
    have hl : lv_has ls 8 [(5, .long 1), (3, .long x24), (0, .ref (ad k)), (1, .int i), (2, .int num)] := hl
    refine lv_iconst (v := 1) hx hb d_Vl_writeNumber_28 (by decide) ?_
    refine lv_istore hx hb d_Vl_writeNumber_29 hl (by decide) rfl (fun ls hl => ?_)
    have hl : lv_has ls 8 [(7, .int 1), (5, .long 1), (3, .long x24), (0, .ref (ad k)), (1, .int i), (2, .int num)] := hl
    exact cut31 (((10 : Int) - 1).toNat) 1 x24 1 M22 _ _ ls rfl (show wu (1 : Int32) (1 : Int64) from by first | exact wu_0 | (subst_vars; exact wu_s (by assumption) (by assumption))) hP hI hF hS (lv_sub hl [3, 4, 2, 1, 0] rfl)
