/-! The reference, safe: fuel, counts, digits, forms; written by wip/gen/ref.py -/
def mDg (a b : Nat) : Prop := a = 0 ∧ b = 35
def mFi (a b : Nat) : Prop := (a = 0 ∧ (b = 35 ∨ b = 25 ∨ b = 23 ∨ b = 24)) ∨ a = 21
def okf (M : ux_M) (i : Nat) (f : Int32) : Prop := (f.toInt = 118 → nmK M i 97) ∧ (f.toInt = 112 → nmK M i 65) ∧ (f.toInt = 120 → (M 19 i).toInt ≤ 20)
theorem nmK_eq {M M1 : ux_M} {i : Nat} {f : Int32} (h : ∀ a b, ¬ mDg a b → M1 a b = M a b) (q : nmK M1 i f) : nmK M i f := by
  have e : ∀ a b, a ≠ 0 → M1 a b = M a b := fun a b ha => h a b (by unfold mDg; omega)
  unfold nmK chv at q ⊢
  rw [e _ _ (by decide), e _ _ (by decide), e _ _ (by decide), e _ _ (by decide), e _ _ (by decide)] at q
  exact q

set_option maxHeartbeats 1600000 in
set_option maxRecDepth 100000 in
theorem s_Md_assign (l : Launch) (D : va_G) (ad : Nat → Nat) (cA : Nat → ClassId) (A TB : Nat) (hA : A ≤ 100000000) (hB : TB ≤ 2000000000) (M : ux_M) (hI : IvM A TB M) (L : Nat) (hL : L ≤ 7) (hlv : M 0 10 = nI L) (v : Nat) (hv : v ≤ 207) (w : Nat) (hw : w ≤ 8) (hlen : (M 19 (8 * L + w)).toInt ≤ 20) : Met l y_Md_assign w_Md_assign ({ frames := 2, cells := 0, slots := 0, locals := 44 }) (va_Pc [.ref (ad 0), .int (nI v), .int (nI w)] (ux_B D shM KM ad cA M)) (va_Qv (fun M1 => IvM A TB M1 ∧ (∀ a b, ¬ mSt a b → M1 a b = M a b) ∧ (True)) (ux_E D shM KM ad cA) (ux_A KM ad)) 0 0 (ux_A KM ad) := by
  refine Met.ofW (cc := b_Md_assign) (maxL := 5) (ret := none) (by decide) rfl ?_
  intro p e s m args below meth c s₁ B hml hv
  obtain ⟨rfl, hP, hK, hi, hN⟩ := hv
  have hx := B.exec
  have hb := B.bytes
  have hr := B.returns
  have hts := atoms_spec (ws := w_Md_assign) B.pre
  have hown : s.vm.findClass R_Md = some m.cls := findClass_of_methodNamed B.named
  have hlocks := B.notSynchronized
  have hT : ∀ w ∈ tb, w.before _ s = true := fun w h => hts w (List.mem_cons_of_mem _ h)
  have hS : va_S (ux_A KM ad) s.heap s.heap [] := va_S.rf
  have hl := lv_entry ([.ref (ad 0), .int (nI v), .int (nI w)]) (n := 5) (Nat.le_of_ble_eq_true rfl)
  rw [lg_entry_eq]
  generalize (lg_sl ([.ref (ad 0), .int (nI v), .int (nI w)]) ++ List.replicate (5 - (lg_sl ([.ref (ad 0), .int (nI v), .int (nI w)])).length) Slot.unset).toArray = ls at hl ⊢
  have hl : lv_has ls 5 [(0, .ref (ad 0)), (1, .int (nI v)), (2, .int (nI w))] := hl
  have hF : ∀ a b, ¬ mSt a b → M a b = M a b := fun _ _ _ => rfl
  refine lv_aload_n hx hb d_Md_assign_0 rfl (lv_at hl 0 rfl) ?_
  refine lv_iload_n hx hb d_Md_assign_1 rfl (lv_at hl 2 rfl) ?_
  refine ux_calli (va_runV ⟨hx, hb, hml, hown, hts⟩ (s_Md_sizeOf l D ad cA A TB hA hB  M hI L hL (hlv) w (by omega)) (cwV 1 hts (tb_goodV ml_Md_159 im_Md_sizeOf se_Md_sizeOf ii_Md kt_Md_sizeOf) rfl rfl rfl (by decide +kernel) ⟨Nat.le_of_ble_eq_true rfl, Nat.le_of_ble_eq_true rfl⟩) (ux_preV (by decide) rfl rfl hP hK hi hN) rfl rfl hl.1 rfl (lv_room (Nat.le_of_ble_eq_true rfl)) d_Md_assign_2 ⟨Nat.zero_le _, Nat.zero_le _⟩) hS (fun r1 M2 H locs q3 hP hS => ?_)
  obtain ⟨hI, fq3, q3p⟩ := q3
  rw [tN_eq fq3] at hP hI
  obtain ⟨c4, hc4, ec4⟩ := nat_of (x := M 19 (8 * L + w)) (n := 200) (hI.1 _ _).1 (hI.1 _ _).2
  rw [ec4] at q3p
  subst q3p
  have tc4 : (M 19 (8 * L + w)).toInt = (c4 : Int) := by rw [ec4]; exact nI_toInt (by omega)
  refine lv_istore_n hx hb d_Md_assign_5 rfl hl (by decide) rfl (fun ls hl => ?_)
  have hl : lv_has ls 5 [(3, .int (nI c4)), (0, .ref (ad 0)), (1, .int (nI v)), (2, .int (nI w))] := hl
  refine lv_aload_n hx hb d_Md_assign_6 rfl (lv_at hl 1 rfl) ?_
  refine ux_get (C := R_Md) (T := F_Md) (N := 50) hx hb hT in_Md hown hK hP (by decide) rfl rfl 3 (by decide) (hT _ fl_Md_13) rfl d_Md_assign_7 ?_
  refine lv_iload_n hx hb d_Md_assign_10 rfl (lv_at hl 2 rfl) ?_
  refine lv_iload_n hx hb d_Md_assign_11 rfl (lv_at hl 0 rfl) ?_
  refine ux_iast hx hb hK hi hP hS (by decide) rfl (vp_in_nI (show v < 208 by omega) (by decide)) d_Md_assign_12 (fun H locs hP hS => ?_)
  rw [nI_clamp (n := v) (by omega)] at hP
  have hI := IvM_wr (k := 2) (j := v) (v := nI c4) hI (show (-1 : Int) ≤ (nI c4 : Int32).toInt from (by rw [nI_toInt (n := c4) (by omega)]; omega)) (show (nI c4 : Int32).toInt ≤ (20 : Int) from (by rw [nI_toInt (n := c4) (by omega)]; omega)) (by unfold okW; omega)
  have hF := fr_wr (k := 2) (j := v) (v := nI c4) hF (by unfold mSt; omega)
  generalize eM5 : ux_wr M 2 v (nI c4) = M5 at hP hI hF
  have tM5 : (M5 2 v).toInt = ((c4 : Nat) : Int) := by rw [wr_at eM5]; exact nI_toInt (by omega)
  have cut16 : ∀ (nn : Nat) (k3 k4 : Nat) (Mc16 : ux_M) (H : Heap) (locs : List Loc) (ls : Array Slot), 20 - k4 = nn → (k4 ≤ 20) → (k3 ≤ 20) → ((k3 : Int) ≤ (M 19 (8 * L + w)).toInt) → va_P D classes (ux_w shM KM ad cA Mc16) H → IvM A TB Mc16 → (∀ a b, ¬ mSt a b → Mc16 a b = M a b) → va_S (ux_A KM ad) s.heap H locs → lv_has ls 5 [(0, .ref (ad 0)), (1, .int (nI v)), (2, .int (nI w)), (3, .int (nI k3)), (4, .int (nI k4))] → W p l e (headSpec w_Md_assign ({ frames := 2, cells := 0, slots := 0, locals := 44 })).room s m (([.ref (ad 0), .int (nI v), .int (nI w)] : List Value).toArray) below meth c H locs 0 0 (MQ below (va_Qv (fun M1 => IvM A TB M1 ∧ (∀ a b, ¬ mSt a b → M1 a b = M a b) ∧ (True)) (ux_E D shM KM ad cA) (ux_A KM ad)) (([.ref (ad 0), .int (nI v), .int (nI w)] : List Value).toArray) s 0 0 (ux_A KM ad)) (F0 m 16 ls []) := by
    intro nn
    induction nn using Nat.strongRecOn with
    | ind nn ih16 =>
      intro k3 k4 Mc16 H locs ls hn c16_0 c16_1 c16_2 hP hI hF hS hl
      refine lv_iload hx hb d_Md_assign_16 (lv_at hl 4 rfl) ?_
      refine lv_iload_n hx hb d_Md_assign_18 rfl (lv_at hl 3 rfl) ?_
      refine lv_icmp_ge hx hb d_Md_assign_19 rfl (fun h6 => ?_) (fun h6 => ?_)
      · have g6 : ((k3 : Nat) : Int) ≤ ((k4 : Nat) : Int) := by have q := Int32.le_iff_toInt_le.mp h6; rw [nI_toInt (n := k3) (by omega), nI_toInt (n := k4) (by omega)] at q; exact q
        exact W.vret hx hb hr (fun t ht hW => ⟨⟨Mc16, rfl, ⟨hI, hF, trivial⟩, by unfold ux_E; rw [ht]; exact hP⟩, hS.F ht⟩) hS.2.2 d_Md_assign_47
      · have g6 : ¬ (((k3 : Nat) : Int) ≤ ((k4 : Nat) : Int)) := fun q => h6 (Int32.le_iff_toInt_le.mpr (by rw [nI_toInt (n := k3) (by omega), nI_toInt (n := k4) (by omega)]; exact q))
        have k7 := congrArg Int32.toInt (show Mc16 19 (8 * L + w) = M 19 (8 * L + w) from hF _ _ (by unfold mSt; omega))
        refine lv_aload_n hx hb d_Md_assign_22 rfl (lv_at hl 0 rfl) ?_
        refine ux_get (C := R_Md) (T := F_Md) (N := 50) hx hb hT in_Md hown hK hP (by decide) rfl rfl 4 (by decide) (hT _ fl_Md_17) rfl d_Md_assign_23 ?_
        refine lv_bipush (v := 20) hx hb d_Md_assign_26 (by decide) ?_
        refine lv_iload_n hx hb d_Md_assign_28 rfl (lv_at hl 1 rfl) ?_
        refine lv_imul hx hb d_Md_assign_29 ?_
        refine lv_topi (fun z8 hz8 => ?_)
        rw [show (20 : Int32) * (nI v) = nI (20 * v) from pk_mul 20 v] at hz8
        rw [hz8]
        refine lv_iload hx hb d_Md_assign_30 (lv_at hl 4 rfl) ?_
        refine lv_iadd hx hb d_Md_assign_32 ?_
        refine lv_topi (fun z9 hz9 => ?_)
        rw [show (nI (20 * v)) + (nI k4) = nI ((20 * v) + k4) from nI_add (20 * v) k4] at hz9
        rw [hz9]
        refine lv_aload_n hx hb d_Md_assign_33 rfl (lv_at hl 0 rfl) ?_
        refine lv_iload_n hx hb d_Md_assign_34 rfl (lv_at hl 2 rfl) ?_
        refine lv_iload hx hb d_Md_assign_35 (lv_at hl 4 rfl) ?_
        refine ux_calli (va_runV ⟨hx, hb, hml, hown, hts⟩ (s_Md_charOf l D ad cA A TB hA hB  Mc16 hI L hL ((hF _ _ (by unfold mSt; omega)).trans hlv) w k4 (by omega) (by omega)) (cwV 2 hts (tb_goodV ml_Md_162 im_Md_charOf se_Md_charOf ii_Md kt_Md_charOf) rfl rfl rfl (by decide +kernel) ⟨Nat.le_of_ble_eq_true rfl, Nat.le_of_ble_eq_true rfl⟩) (ux_preV (by decide) rfl rfl hP hK hi hN) rfl rfl hl.1 rfl (lv_room (Nat.le_of_ble_eq_true rfl)) d_Md_assign_37 ⟨Nat.zero_le _, Nat.zero_le _⟩) hS (fun r10 M11 H locs q12 hP hS => ?_)
        obtain ⟨hI, fq12, q12p⟩ := q12
        rw [tN_eq fq12] at hP hI
        obtain ⟨c13, hc13, ec13⟩ := nat_of (x := r10) (n := 65535) q12p.1.1 q12p.1.2
        have vc13 := q12p.2
        subst ec13
        have tc13 : (nI c13).toInt = (c13 : Int) := nI_toInt (by omega)
        refine ux_cast hx hb hK hi hP hS (by decide) rfl (vp_in_nI (show (20 * v) + k4 < 4160 by omega) (by decide)) d_Md_assign_40 (fun H locs hP hS => ?_)
        have b14 := nar_c (nI c13)
        rw [nI_clamp (n := (20 * v) + k4) (by omega)] at hP
        have hI := IvM_wr (k := 3) (j := (20 * v) + k4) (v := vp_nar .char (nI c13)) hI (show (0 : Int) ≤ (vp_nar .char (nI c13) : Int32).toInt from (by omega)) (show (vp_nar .char (nI c13) : Int32).toInt ≤ (65535 : Int) from (by omega)) (by unfold okW; omega)
        have hF := fr_wr (k := 3) (j := (20 * v) + k4) (v := vp_nar .char (nI c13)) hF (by unfold mSt; omega)
        generalize eM15 : ux_wr Mc16 3 ((20 * v) + k4) (vp_nar .char (nI c13)) = M15 at hP hI hF
        have tM15 : (M15 3 ((20 * v) + k4)).toInt = (vp_nar .char (nI c13)).toInt := by rw [wr_at eM15]
        refine lv_iinc (k := 4) (v := nI (k4 + 1)) hx hb d_Md_assign_41 hl rfl (nI_add k4 1) (by decide) rfl (fun ls hl => ?_)
        have hl : lv_has ls 5 [(4, .int (nI (k4 + 1))), (0, .ref (ad 0)), (1, .int (nI v)), (2, .int (nI w)), (3, .int (nI k3))] := hl
        refine lv_goto hx hb d_Md_assign_44 rfl ?_
        exact ih16 (20 - (k4 + 1)) (by omega) k3 (k4 + 1) M15 _ _ ls rfl (show (k4 + 1) ≤ 20 from by first | omega | assumption | exact Or.inl rfl | exact Or.inr rfl | rfl | decide) (show k3 ≤ 20 from by first | omega | assumption | exact Or.inl rfl | exact Or.inr rfl | rfl | decide) (show (k3 : Int) ≤ (M 19 (8 * L + w)).toInt from by first | omega | assumption | exact Or.inl rfl | exact Or.inr rfl | rfl | decide) hP hI hF hS (lv_sub hl [1, 2, 3, 4, 0] rfl)
  refine lv_iconst (v := 0) hx hb d_Md_assign_13 (by decide) ?_
  refine lv_istore hx hb d_Md_assign_14 hl (by decide) rfl (fun ls hl => ?_)
  have hl : lv_has ls 5 [(4, .int 0), (3, .int (nI c4)), (0, .ref (ad 0)), (1, .int (nI v)), (2, .int (nI w))] := hl
  exact cut16 (20 - 0) c4 0 M5 _ _ ls rfl (show 0 ≤ 20 from by first | omega | assumption | exact Or.inl rfl | exact Or.inr rfl | rfl | decide) (show c4 ≤ 20 from by first | omega | assumption | exact Or.inl rfl | exact Or.inr rfl | rfl | decide) (show (c4 : Int) ≤ (M 19 (8 * L + w)).toInt from by first | omega | assumption | exact Or.inl rfl | exact Or.inr rfl | rfl | decide) hP hI hF hS (lv_sub hl [2, 3, 4, 1, 0] rfl)

set_option maxHeartbeats 1600000 in
set_option maxRecDepth 100000 in
theorem s_Md_note (l : Launch) (D : va_G) (ad : Nat → Nat) (cA : Nat → ClassId) (A TB : Nat) (hA : A ≤ 100000000) (hB : TB ≤ 2000000000) (M : ux_M) (hI : IvM A TB M) (ch : Int32) (hsl : (M 0 48).toInt + 40 * ((M 0 27).toInt - (M 0 28).toInt) + 1 ≤ (TB : Int)) : Met l y_Md_note w_Md_note ({ frames := 0, cells := 0, slots := 0, locals := 0 }) (va_Pc [.ref (ad 0), .int ch] (ux_B D shM KM ad cA M)) (va_Qv (fun M1 => IvM A TB M1 ∧ (∀ a b, ¬ mNo a b → M1 a b = M a b) ∧ ((M1 0 48).toInt = (M 0 48).toInt + 1)) (ux_E D shM KM ad cA) (ux_A KM ad)) 0 0 (ux_A KM ad) := by
  refine Met.ofW (cc := b_Md_note) (maxL := 2) (ret := none) (by decide) rfl ?_
  intro p e s m args below meth c s₁ B hml hv
  obtain ⟨rfl, hP, hK, hi, hN⟩ := hv
  have hx := B.exec
  have hb := B.bytes
  have hr := B.returns
  have hts := atoms_spec (ws := w_Md_note) B.pre
  have hown : s.vm.findClass R_Md = some m.cls := findClass_of_methodNamed B.named
  have hlocks := B.notSynchronized
  have hT : ∀ w ∈ tb, w.before _ s = true := fun w h => hts w (List.mem_cons_of_mem _ h)
  have hS : va_S (ux_A KM ad) s.heap s.heap [] := va_S.rf
  have hl := lv_entry ([.ref (ad 0), .int ch]) (n := 2) (Nat.le_of_ble_eq_true rfl)
  rw [lg_entry_eq]
  generalize (lg_sl ([.ref (ad 0), .int ch]) ++ List.replicate (2 - (lg_sl ([.ref (ad 0), .int ch])).length) Slot.unset).toArray = ls at hl ⊢
  have hl : lv_has ls 2 [(0, .ref (ad 0)), (1, .int ch)] := hl
  have hF : ∀ a b, ¬ mNo a b → M a b = M a b := fun _ _ _ => rfl
  have hft := hI.2.2
  unfold Ft at hft
  refine lv_aload_n hx hb d_Md_note_0 rfl (lv_at hl 0 rfl) ?_
  refine ux_get (C := R_Md) (T := F_Md) (N := 50) hx hb hT in_Md hown hK hP (by decide) rfl rfl 49 (by decide) (hT _ fl_Md_109) rfl d_Md_note_1 ?_
  refine lv_aload_n hx hb d_Md_note_4 rfl (lv_at hl 0 rfl) ?_
  refine ux_get (C := R_Md) (T := F_Md) (N := 50) hx hb hT in_Md hown hK hP (by decide) rfl rfl 48 (by decide) (hT _ fl_Md_370) rfl d_Md_note_5 ?_
  have b1 : (0 : Int) ≤ (M 0 48).toInt ∧ (M 0 48).toInt ≤ 2147483647 := hI.1 0 48
  refine lv_bipush (v := 40) hx hb d_Md_note_8 (by decide) ?_
  refine lv_irem hx hb d_Md_note_10 ((by decide)) ?_
  refine lv_topi (fun x2 ex2 => ?_)
  have hm := fm_m (M 0 48)
  rw [← ex2] at hm
  refine lv_iload_n hx hb d_Md_note_11 rfl (lv_at hl 1 rfl) ?_
  refine ux_iast hx hb hK hi hP hS (by decide) rfl ((vi (show 0 ≤ x2.toInt by omega) (show x2.toInt < ((40 : Nat) : Int) by omega))) d_Md_note_12 (fun H locs hP hS => ?_)
  have hI := IvM_free (k := 32) (j := x2.toNatClampNeg) (v := ch) hI rfl rfl (by unfold okW; omega)
  have hF := fr_wr (k := 32) (j := x2.toNatClampNeg) (v := ch) hF (by unfold mNo; omega)
  generalize eM3 : ux_wr M 32 x2.toNatClampNeg ch = M3 at hP hI hF
  refine lv_aload_n hx hb d_Md_note_13 rfl (lv_at hl 0 rfl) ?_
  refine lv_dup hx hb d_Md_note_14 rfl ?_
  refine ux_get (C := R_Md) (T := F_Md) (N := 50) hx hb hT in_Md hown hK hP (by decide) rfl rfl 48 (by decide) (hT _ fl_Md_370) rfl d_Md_note_15 ?_
  refine lv_topi (fun z4 hz4 => ?_)
  rw [show M3 0 48 = M 0 48 from wr_off eM3 (by omega)] at hz4
  rw [hz4]
  refine lv_iconst (v := 1) hx hb d_Md_note_18 (by decide) ?_
  refine lv_iadd hx hb d_Md_note_19 ?_
  refine lv_topi (fun x5 ex5 => ?_)
  try have fx5 : x5.toInt = (M 0 48).toInt + 1 := by rw [ex5, ti_add (by (try rw [show (1 : Int32).toInt = 1 from rfl]); omega) (by (try rw [show (1 : Int32).toInt = 1 from rfl]); omega)]; (try rw [show (1 : Int32).toInt = 1 from rfl]); first | done | rfl | omega
  have k6 := congrArg Int32.toInt (show M3 0 (48) = M 0 (48) from wr_off eM3 (by omega))
  have k7 := congrArg Int32.toInt (show M3 0 (27) = M 0 (27) from wr_off eM3 (by omega))
  have k8 := congrArg Int32.toInt (show M3 0 (28) = M 0 (28) from wr_off eM3 (by omega))
  refine ux_put (C := R_Md) (T := F_Md) (N := 50) hx hb hT in_Md t_Md t_Md_ok n_Md hown hK hi hP hS (by decide) rfl rfl 48 (by decide) (hT _ fl_Md_370) rfl (rfl) (rfl) rfl d_Md_note_20 (fun H locs hP hS => ?_)
  have hI := IvM_talked (v := x5) hI (by omega) (by omega)
  have hF := fr_wr (k := 0) (j := 48) (v := x5) hF (by unfold mNo; omega)
  generalize eM9 : ux_wr M3 0 48 x5 = M9 at hP hI hF
  have tM9 : (M9 0 48).toInt = x5.toInt := by rw [wr_at eM9]
  exact W.vret hx hb hr (fun t ht hW => ⟨⟨M9, rfl, ⟨hI, hF, (by first | omega | assumption)⟩, by unfold ux_E; rw [ht]; exact hP⟩, hS.F ht⟩) hS.2.2 d_Md_note_23

set_option maxHeartbeats 1600000 in
set_option maxRecDepth 100000 in
theorem s_Md_spend (l : Launch) (D : va_G) (ad : Nat → Nat) (cA : Nat → ClassId) (A TB : Nat) (hA : A ≤ 100000000) (hB : TB ≤ 2000000000) (M : ux_M) (hI : IvM A TB M)  : Met l y_Md_spend w_Md_spend ({ frames := 1, cells := 0, slots := 0, locals := 21 }) (va_Pc [.ref (ad 0)] (ux_B D shM KM ad cA M)) (va_Qi (fun r M1 => IvM A TB M1 ∧ (∀ a b, ¬ mSp a b → M1 a b = M a b) ∧ ((r = 0 ∨ r = 1) ∧ (r = 1 → (∀ a b, ¬ (a = 0 ∧ b = 28) → M1 a b = M a b) ∧ (M1 0 28).toInt = (M 0 28).toInt + 1) ∧ (r = 0 → M1 0 23 = 1 ∧ M1 0 24 = 5))) (ux_E D shM KM ad cA) (ux_A KM ad)) 0 0 (ux_A KM ad) := by
  refine Met.ofW (cc := b_Md_spend) (maxL := 1) (ret := (some .boolean)) (by decide) rfl ?_
  intro p e s m args below meth c s₁ B hml hv
  obtain ⟨rfl, hP, hK, hi, hN⟩ := hv
  have hx := B.exec
  have hb := B.bytes
  have hr := B.returns
  have hts := atoms_spec (ws := w_Md_spend) B.pre
  have hown : s.vm.findClass R_Md = some m.cls := findClass_of_methodNamed B.named
  have hlocks := B.notSynchronized
  have hT : ∀ w ∈ tb, w.before _ s = true := fun w h => hts w (List.mem_cons_of_mem _ h)
  have hS : va_S (ux_A KM ad) s.heap s.heap [] := va_S.rf
  have hl := lv_entry ([.ref (ad 0)]) (n := 1) (Nat.le_of_ble_eq_true rfl)
  rw [lg_entry_eq]
  generalize (lg_sl ([.ref (ad 0)]) ++ List.replicate (1 - (lg_sl ([.ref (ad 0)])).length) Slot.unset).toArray = ls at hl ⊢
  have hl : lv_has ls 1 [(0, .ref (ad 0))] := hl
  have hF : ∀ a b, ¬ mSp a b → M a b = M a b := fun _ _ _ => rfl
  have hft := hI.2.2
  unfold Ft at hft
  refine lv_aload_n hx hb d_Md_spend_0 rfl (lv_at hl 0 rfl) ?_
  refine ux_get (C := R_Md) (T := F_Md) (N := 50) hx hb hT in_Md hown hK hP (by decide) rfl rfl 27 (by decide) (hT _ fl_Md_229) rfl d_Md_spend_1 ?_
  refine lv_topi (fun z2 hz2 => ?_)
  obtain ⟨c1, hc1, ec1⟩ := nat_of (x := M 0 27) (n := 100) (hI.1 0 27).1 (hI.1 0 27).2
  rw [ec1] at hz2
  rw [hz2]
  have tc1 : (M 0 27).toInt = (c1 : Int) := by rw [ec1]; exact nI_toInt (by omega)
  refine lv_aload_n hx hb d_Md_spend_4 rfl (lv_at hl 0 rfl) ?_
  refine ux_get (C := R_Md) (T := F_Md) (N := 50) hx hb hT in_Md hown hK hP (by decide) rfl rfl 28 (by decide) (hT _ fl_Md_232) rfl d_Md_spend_5 ?_
  refine lv_topi (fun z4 hz4 => ?_)
  obtain ⟨c3, hc3, ec3⟩ := nat_of (x := M 0 28) (n := 100) (hI.1 0 28).1 (hI.1 0 28).2
  rw [ec3] at hz4
  rw [hz4]
  have tc3 : (M 0 28).toInt = (c3 : Int) := by rw [ec3]; exact nI_toInt (by omega)
  refine lv_icmp_ne hx hb d_Md_spend_8 rfl (fun h5 => ?_) (fun h5 => ?_)
  · have g5 : ¬ (((c1 : Nat) : Int) = ((c3 : Nat) : Int)) := fun q => h5 (Int32.toInt_inj.mp (by rw [nI_toInt (n := c1) (by omega), nI_toInt (n := c3) (by omega)]; exact q))
    refine lv_aload_n hx hb d_Md_spend_22 rfl (lv_at hl 0 rfl) ?_
    refine lv_dup hx hb d_Md_spend_23 rfl ?_
    refine ux_get (C := R_Md) (T := F_Md) (N := 50) hx hb hT in_Md hown hK hP (by decide) rfl rfl 28 (by decide) (hT _ fl_Md_232) rfl d_Md_spend_24 ?_
    refine lv_topi (fun z6 hz6 => ?_)
    rw [show M 0 28 = nI c3 from ec3] at hz6
    rw [hz6]
    refine lv_iconst (v := 1) hx hb d_Md_spend_27 (by decide) ?_
    refine lv_iadd hx hb d_Md_spend_28 ?_
    refine lv_topi (fun z7 hz7 => ?_)
    rw [show (nI c3) + (1 : Int32) = nI (c3 + 1) from nI_add c3 1] at hz7
    rw [hz7]
    refine ux_put (C := R_Md) (T := F_Md) (N := 50) hx hb hT in_Md t_Md t_Md_ok n_Md hown hK hi hP hS (by decide) rfl rfl 28 (by decide) (hT _ fl_Md_232) rfl (rfl) (rfl) rfl d_Md_spend_29 (fun H locs hP hS => ?_)
    have hI := IvM_used (v := nI (c3 + 1)) hI (by rw [nI_toInt (n := c3 + 1) (by omega)]; omega) (by rw [nI_toInt (n := c3 + 1) (by omega)]; omega) (by rw [nI_toInt (n := c3 + 1) (by omega)]; omega) (by rw [nI_toInt (n := c3 + 1) (by omega)]; omega)
    have hF := fr_wr (k := 0) (j := 28) (v := nI (c3 + 1)) hF (by unfold mSp; omega)
    generalize eM8 : ux_wr M 0 28 (nI (c3 + 1)) = M8 at hP hI hF
    have tM8 : (M8 0 28).toInt = ((c3 + 1 : Nat) : Int) := by rw [wr_at eM8]; exact nI_toInt (by omega)
    refine lv_iconst (v := 1) hx hb d_Md_spend_32 (by decide) ?_
    exact W.zret (v := 1) hx hb hr (rfl) (fun t ht hW => ⟨⟨1, M8, rfl, ⟨hI, hF, ⟨Or.inr rfl, fun _ => ⟨fun a b q => wr_off eM8 (by omega), by omega⟩, fun q => absurd q (by decide)⟩⟩, by unfold ux_E; rw [ht]; exact hP⟩, hS.F ht⟩) hS.2.2 d_Md_spend_33
  · have g5 : ((c1 : Nat) : Int) = ((c3 : Nat) : Int) := by have q := congrArg Int32.toInt h5; rw [nI_toInt (n := c1) (by omega), nI_toInt (n := c3) (by omega)] at q; exact q
    refine lv_aload_n hx hb d_Md_spend_11 rfl (lv_at hl 0 rfl) ?_
    refine ux_callv (va_runV ⟨hx, hb, hml, hown, hts⟩ (s_Md_nothing l D ad cA A TB hA hB  M hI ) (cwV 0 hts (tb_goodV ml_Md_138 im_Md_nothing se_Md_nothing ii_Md kt_Md_nothing) rfl rfl rfl (by decide +kernel) ⟨Nat.le_of_ble_eq_true rfl, Nat.le_of_ble_eq_true rfl⟩) (ux_preV (by decide) rfl rfl hP hK hi hN) rfl rfl hl.1 rfl (lv_room (Nat.le_of_ble_eq_true rfl)) d_Md_spend_12 ⟨Nat.zero_le _, Nat.zero_le _⟩) hS (fun M10 H locs q11 hP hS => ?_)
    obtain ⟨hI, fq11, q11p⟩ := q11
    have hF := fr_call hF fq11 (fun a b q => by unfold mRe at q; unfold mSp; omega)
    refine lv_aload_n hx hb d_Md_spend_15 rfl (lv_at hl 0 rfl) ?_
    refine lv_iconst (v := 5) hx hb d_Md_spend_16 (by decide) ?_
    refine ux_callv (va_runV ⟨hx, hb, hml, hown, hts⟩ (s_Md_done l D ad cA A TB hA hB  M10 hI 5) (cwV 1 hts (tb_goodV ml_Md_235 im_Md_done se_Md_done ii_Md kt_Md_done) rfl rfl rfl (by decide +kernel) ⟨Nat.le_of_ble_eq_true rfl, Nat.le_of_ble_eq_true rfl⟩) (ux_preV (by decide) rfl rfl hP hK hi hN) rfl rfl hl.1 rfl (lv_room (Nat.le_of_ble_eq_true rfl)) d_Md_spend_17 ⟨Nat.zero_le _, Nat.zero_le _⟩) hS (fun M13 H locs q14 hP hS => ?_)
    obtain ⟨hI, fq14, q14p⟩ := q14
    have hF := fr_call hF fq14 (fun a b q => by unfold mDn at q; unfold mSp; omega)
    refine lv_iconst (v := 0) hx hb d_Md_spend_20 (by decide) ?_
    exact W.zret (v := 0) hx hb hr (rfl) (fun t ht hW => ⟨⟨0, M13, rfl, ⟨hI, hF, ⟨Or.inl rfl, fun q => absurd q (by decide), fun _ => by assumption⟩⟩, by unfold ux_E; rw [ht]; exact hP⟩, hS.F ht⟩) hS.2.2 d_Md_spend_21

set_option maxHeartbeats 1600000 in
set_option maxRecDepth 100000 in
theorem s_Md_words (l : Launch) (D : va_G) (ad : Nat → Nat) (cA : Nat → ClassId) (A TB : Nat) (hA : A ≤ 100000000) (hB : TB ≤ 2000000000) (M : ux_M) (hI : IvM A TB M) (L : Nat) (hL : L ≤ 7) (hlv : M 0 10 = nI L) (lo1 hi1 : Int32) : Met l y_Md_words w_Md_words ({ frames := 2, cells := 0, slots := 0, locals := 42 }) (va_Pc [.ref (ad 0), .int lo1, .int hi1] (ux_B D shM KM ad cA M)) (va_Qi (fun r M1 => IvM A TB M1 ∧ (∀ a b, ¬ mEr a b → M1 a b = M a b) ∧ ((r = 0 ∨ r = 1) ∧ (r = 1 → (∀ a b, M1 a b = M a b) ∧ lo1.toInt ≤ (M 14 L).toInt - 1 ∧ (M 14 L).toInt - 1 ≤ hi1.toInt) ∧ (r = 0 → M1 0 23 = 1 ∧ M1 0 24 = 1))) (ux_E D shM KM ad cA) (ux_A KM ad)) 0 0 (ux_A KM ad) := by
  refine Met.ofW (cc := b_Md_words) (maxL := 4) (ret := (some .boolean)) (by decide) rfl ?_
  intro p e s m args below meth c s₁ B hml hv
  obtain ⟨rfl, hP, hK, hi, hN⟩ := hv
  have hx := B.exec
  have hb := B.bytes
  have hr := B.returns
  have hts := atoms_spec (ws := w_Md_words) B.pre
  have hown : s.vm.findClass R_Md = some m.cls := findClass_of_methodNamed B.named
  have hlocks := B.notSynchronized
  have hT : ∀ w ∈ tb, w.before _ s = true := fun w h => hts w (List.mem_cons_of_mem _ h)
  have hS : va_S (ux_A KM ad) s.heap s.heap [] := va_S.rf
  have hl := lv_entry ([.ref (ad 0), .int lo1, .int hi1]) (n := 4) (Nat.le_of_ble_eq_true rfl)
  rw [lg_entry_eq]
  generalize (lg_sl ([.ref (ad 0), .int lo1, .int hi1]) ++ List.replicate (4 - (lg_sl ([.ref (ad 0), .int lo1, .int hi1])).length) Slot.unset).toArray = ls at hl ⊢
  have hl : lv_has ls 4 [(0, .ref (ad 0)), (1, .int lo1), (2, .int hi1)] := hl
  have hF : ∀ a b, ¬ mEr a b → M a b = M a b := fun _ _ _ => rfl
  refine lv_aload_n hx hb d_Md_words_0 rfl (lv_at hl 0 rfl) ?_
  refine ux_get (C := R_Md) (T := F_Md) (N := 50) hx hb hT in_Md hown hK hP (by decide) rfl rfl 16 (by decide) (hT _ fl_Md_55) rfl d_Md_words_1 ?_
  refine lv_aload_n hx hb d_Md_words_4 rfl (lv_at hl 0 rfl) ?_
  refine ux_get (C := R_Md) (T := F_Md) (N := 50) hx hb hT in_Md hown hK hP (by decide) rfl rfl 10 (by decide) (hT _ fl_Md_36) rfl d_Md_words_5 ?_
  refine lv_topi (fun z1 hz1 => ?_)
  rw [show M 0 10 = nI L from hlv] at hz1
  rw [hz1]
  refine ux_iald hx hb hK hP (by decide) rfl (vp_in_nI (show L < 8 by omega) (by decide)) d_Md_words_8 ?_
  rw [nI_clamp (n := L) (by omega)]
  refine lv_topi (fun z3 hz3 => ?_)
  obtain ⟨c2, hc2, ec2⟩ := nat_of (x := M 14 L) (n := 8) (hI.1 14 L).1 (hI.1 14 L).2
  rw [ec2] at hz3
  rw [hz3]
  have tc2 : (M 14 L).toInt = (c2 : Int) := by rw [ec2]; exact nI_toInt (by omega)
  refine lv_iconst (v := 1) hx hb d_Md_words_9 (by decide) ?_
  refine lv_isub hx hb d_Md_words_10 ?_
  refine lv_topi (fun x4 ex4 => ?_)
  try have fx4 : x4.toInt = ((c2 : Nat) : Int) - 1 := by rw [ex4, ti_sub (by (rw [nI_toInt (n := c2) (by omega)]); (try rw [show (1 : Int32).toInt = 1 from rfl]); omega) (by (rw [nI_toInt (n := c2) (by omega)]); (try rw [show (1 : Int32).toInt = 1 from rfl]); omega)]; (rw [nI_toInt (n := c2) (by omega)]); (try rw [show (1 : Int32).toInt = 1 from rfl]); first | done | rfl | omega
  refine lv_istore_n hx hb d_Md_words_11 rfl hl (by decide) rfl (fun ls hl => ?_)
  have hl : lv_has ls 4 [(3, .int x4), (0, .ref (ad 0)), (1, .int lo1), (2, .int hi1)] := hl
  refine lv_iload_n hx hb d_Md_words_12 rfl (lv_at hl 0 rfl) ?_
  refine lv_iload_n hx hb d_Md_words_13 rfl (lv_at hl 2 rfl) ?_
  refine lv_icmp_lt hx hb d_Md_words_14 rfl (fun h5 => ?_) (fun h5 => ?_)
  · have g5 : x4.toInt < lo1.toInt := Int32.lt_iff_toInt_lt.mp h5
    have u5 := ti_hi lo1
    have w5 := ti_lo x4
    refine lv_aload_n hx hb d_Md_words_24 rfl (lv_at hl 1 rfl) ?_
    refine lv_iconst (v := 3) hx hb d_Md_words_25 (by decide) ?_
    refine ux_callv (va_runV ⟨hx, hb, hml, hown, hts⟩ (s_Md_error l D ad cA A TB hA hB  M hI 3) (cwV 1 hts (tb_goodV ml_Md_166 im_Md_error se_Md_error ii_Md kt_Md_error) rfl rfl rfl (by decide +kernel) ⟨Nat.le_of_ble_eq_true rfl, Nat.le_of_ble_eq_true rfl⟩) (ux_preV (by decide) rfl rfl hP hK hi hN) rfl rfl hl.1 rfl (lv_room (Nat.le_of_ble_eq_true rfl)) d_Md_words_26 ⟨Nat.zero_le _, Nat.zero_le _⟩) hS (fun M7 H locs q8 hP hS => ?_)
    obtain ⟨hI, fq8, q8p⟩ := q8
    have hF := fr_call hF fq8 (fun a b q => by unfold mEr at q; unfold mEr; omega)
    refine lv_iconst (v := 0) hx hb d_Md_words_29 (by decide) ?_
    exact W.zret (v := 0) hx hb hr (rfl) (fun t ht hW => ⟨⟨0, M7, rfl, ⟨hI, hF, ⟨Or.inl rfl, fun q => absurd q (by decide), fun _ => by assumption⟩⟩, by unfold ux_E; rw [ht]; exact hP⟩, hS.F ht⟩) hS.2.2 d_Md_words_30
  · have g5 : ¬ (x4.toInt < lo1.toInt) := fun q => h5 (Int32.lt_iff_toInt_lt.mpr q)
    have u5 := ti_hi x4
    have w5 := ti_lo lo1
    refine lv_iload_n hx hb d_Md_words_17 rfl (lv_at hl 0 rfl) ?_
    refine lv_iload_n hx hb d_Md_words_18 rfl (lv_at hl 3 rfl) ?_
    refine lv_icmp_gt hx hb d_Md_words_19 rfl (fun h9 => ?_) (fun h9 => ?_)
    · have g9 : hi1.toInt < x4.toInt := Int32.lt_iff_toInt_lt.mp h9
      have u9 := ti_hi x4
      have w9 := ti_lo hi1
      refine lv_aload_n hx hb d_Md_words_24 rfl (lv_at hl 1 rfl) ?_
      refine lv_iconst (v := 3) hx hb d_Md_words_25 (by decide) ?_
      refine ux_callv (va_runV ⟨hx, hb, hml, hown, hts⟩ (s_Md_error l D ad cA A TB hA hB  M hI 3) (cwV 1 hts (tb_goodV ml_Md_166 im_Md_error se_Md_error ii_Md kt_Md_error) rfl rfl rfl (by decide +kernel) ⟨Nat.le_of_ble_eq_true rfl, Nat.le_of_ble_eq_true rfl⟩) (ux_preV (by decide) rfl rfl hP hK hi hN) rfl rfl hl.1 rfl (lv_room (Nat.le_of_ble_eq_true rfl)) d_Md_words_26 ⟨Nat.zero_le _, Nat.zero_le _⟩) hS (fun M11 H locs q12 hP hS => ?_)
      obtain ⟨hI, fq12, q12p⟩ := q12
      have hF := fr_call hF fq12 (fun a b q => by unfold mEr at q; unfold mEr; omega)
      refine lv_iconst (v := 0) hx hb d_Md_words_29 (by decide) ?_
      exact W.zret (v := 0) hx hb hr (rfl) (fun t ht hW => ⟨⟨0, M11, rfl, ⟨hI, hF, ⟨Or.inl rfl, fun q => absurd q (by decide), fun _ => by assumption⟩⟩, by unfold ux_E; rw [ht]; exact hP⟩, hS.F ht⟩) hS.2.2 d_Md_words_30
    · have g9 : ¬ (hi1.toInt < x4.toInt) := fun q => h9 (Int32.lt_iff_toInt_lt.mpr q)
      have u9 := ti_hi hi1
      have w9 := ti_lo x4
      refine lv_iconst (v := 1) hx hb d_Md_words_22 (by decide) ?_
      exact W.zret (v := 1) hx hb hr (rfl) (fun t ht hW => ⟨⟨1, M, rfl, ⟨hI, hF, ⟨Or.inr rfl, fun _ => ⟨fun _ _ => rfl, by omega, by omega⟩, fun q => absurd q (by decide)⟩⟩, by unfold ux_E; rw [ht]; exact hP⟩, hS.F ht⟩) hS.2.2 d_Md_words_23

set_option maxHeartbeats 1600000 in
set_option maxRecDepth 100000 in
theorem s_Md_digitAt_w (l : Launch) (D : va_G) (ad : Nat → Nat) (cA : Nat → ClassId) (A TB : Nat) (hA : A ≤ 100000000) (hB : TB ≤ 2000000000) (M : ux_M) (hI : IvM A TB M) (L : Nat) (hL : L ≤ 7) (hlv : M 0 10 = nI L) (w k : Nat) (hw : w ≤ 8) (hk : (k : Int) < (M 19 (8 * L + w)).toInt) : Met l y_Md_digitAt w_Md_digitAt ({ frames := 2, cells := 0, slots := 0, locals := 44 }) (va_Pc [.ref (ad 0), .int (-1), .int (nI w), .int (nI k)] (ux_B D shM KM ad cA M)) (va_Qi (fun r M1 => IvM A TB M1 ∧ (∀ a b, ¬ tN a b → M1 a b = M a b) ∧ (0 ≤ r.toInt ∧ r.toInt ≤ 65535)) (ux_E D shM KM ad cA) (ux_A KM ad)) 0 0 (ux_A KM ad) := by
  refine Met.ofW (cc := b_Md_digitAt) (maxL := 4) (ret := (some .char)) (by decide) rfl ?_
  intro p e s m args below meth c s₁ B hml hv
  obtain ⟨rfl, hP, hK, hi, hN⟩ := hv
  have hx := B.exec
  have hb := B.bytes
  have hr := B.returns
  have hts := atoms_spec (ws := w_Md_digitAt) B.pre
  have hown : s.vm.findClass R_Md = some m.cls := findClass_of_methodNamed B.named
  have hlocks := B.notSynchronized
  have hT : ∀ w ∈ tb, w.before _ s = true := fun w h => hts w (List.mem_cons_of_mem _ h)
  have hS : va_S (ux_A KM ad) s.heap s.heap [] := va_S.rf
  have hl := lv_entry ([.ref (ad 0), .int (-1), .int (nI w), .int (nI k)]) (n := 4) (Nat.le_of_ble_eq_true rfl)
  rw [lg_entry_eq]
  generalize (lg_sl ([.ref (ad 0), .int (-1), .int (nI w), .int (nI k)]) ++ List.replicate (4 - (lg_sl ([.ref (ad 0), .int (-1), .int (nI w), .int (nI k)])).length) Slot.unset).toArray = ls at hl ⊢
  have hl : lv_has ls 4 [(0, .ref (ad 0)), (1, .int (-1)), (2, .int (nI w)), (3, .int (nI k))] := hl
  have hF : ∀ a b, ¬ tN a b → M a b = M a b := fun _ _ _ => rfl
  refine lv_iload_n hx hb d_Md_digitAt_0 rfl (lv_at hl 1 rfl) ?_
  refine lv_if_ge hx hb d_Md_digitAt_1 rfl (fun hz => absurd hz (by decide)) (fun _ => ?_)
  refine lv_aload_n hx hb d_Md_digitAt_4 rfl (lv_at hl 0 rfl) ?_
  refine lv_iload_n hx hb d_Md_digitAt_5 rfl (lv_at hl 2 rfl) ?_
  refine lv_iload_n hx hb d_Md_digitAt_6 rfl (lv_at hl 3 rfl) ?_
  refine ux_calli (va_runV ⟨hx, hb, hml, hown, hts⟩ (s_Md_charOf l D ad cA A TB hA hB  M hI L hL (hlv) w k (by omega) (by omega)) (cwV 2 hts (tb_goodV ml_Md_162 im_Md_charOf se_Md_charOf ii_Md kt_Md_charOf) rfl rfl rfl (by decide +kernel) ⟨Nat.le_of_ble_eq_true rfl, Nat.le_of_ble_eq_true rfl⟩) (ux_preV (by decide) rfl rfl hP hK hi hN) rfl rfl hl.1 rfl (lv_room (Nat.le_of_ble_eq_true rfl)) d_Md_digitAt_7 ⟨Nat.zero_le _, Nat.zero_le _⟩) hS (fun r1 M2 H locs q3 hP hS => ?_)
  obtain ⟨hI, fq3, q3p⟩ := q3
  rw [tN_eq fq3] at hP hI
  obtain ⟨c4, hc4, ec4⟩ := nat_of (x := r1) (n := 65535) q3p.1.1 q3p.1.2
  have vc4 := q3p.2
  subst ec4
  have tc4 : (nI c4).toInt = (c4 : Int) := nI_toInt (by omega)
  refine lv_goto hx hb d_Md_digitAt_10 rfl ?_
  exact W.zret (v := nI c4) hx hb hr (nc_I (by omega)) (fun t ht hW => ⟨⟨nI c4, M, rfl, ⟨hI, hF, (by rw [nI_toInt (n := c4) (by omega)]; omega)⟩, by unfold ux_E; rw [ht]; exact hP⟩, hS.F ht⟩) hS.2.2 d_Md_digitAt_24

set_option maxHeartbeats 1600000 in
set_option maxRecDepth 100000 in
theorem s_Md_digitAt_v (l : Launch) (D : va_G) (ad : Nat → Nat) (cA : Nat → ClassId) (A TB : Nat) (hA : A ≤ 100000000) (hB : TB ≤ 2000000000) (M : ux_M) (hI : IvM A TB M) (v k : Nat) (w1 : Int32) (hv : v ≤ 207) (hk : k < 20) : Met l y_Md_digitAt w_Md_digitAt ({ frames := 0, cells := 0, slots := 0, locals := 0 }) (va_Pc [.ref (ad 0), .int (nI v), .int w1, .int (nI k)] (ux_B D shM KM ad cA M)) (va_Qi (fun r M1 => IvM A TB M1 ∧ (∀ a b, ¬ tN a b → M1 a b = M a b) ∧ (0 ≤ r.toInt ∧ r.toInt ≤ 65535)) (ux_E D shM KM ad cA) (ux_A KM ad)) 0 0 (ux_A KM ad) := by
  refine Met.ofW (cc := b_Md_digitAt) (maxL := 4) (ret := (some .char)) (by decide) rfl ?_
  intro p e s m args below meth c s₁ B hml hv
  obtain ⟨rfl, hP, hK, hi, hN⟩ := hv
  have hx := B.exec
  have hb := B.bytes
  have hr := B.returns
  have hts := atoms_spec (ws := w_Md_digitAt) B.pre
  have hown : s.vm.findClass R_Md = some m.cls := findClass_of_methodNamed B.named
  have hlocks := B.notSynchronized
  have hT : ∀ w ∈ tb, w.before _ s = true := fun w h => hts w (List.mem_cons_of_mem _ h)
  have hS : va_S (ux_A KM ad) s.heap s.heap [] := va_S.rf
  have hl := lv_entry ([.ref (ad 0), .int (nI v), .int w1, .int (nI k)]) (n := 4) (Nat.le_of_ble_eq_true rfl)
  rw [lg_entry_eq]
  generalize (lg_sl ([.ref (ad 0), .int (nI v), .int w1, .int (nI k)]) ++ List.replicate (4 - (lg_sl ([.ref (ad 0), .int (nI v), .int w1, .int (nI k)])).length) Slot.unset).toArray = ls at hl ⊢
  have hl : lv_has ls 4 [(0, .ref (ad 0)), (1, .int (nI v)), (2, .int w1), (3, .int (nI k))] := hl
  have hF : ∀ a b, ¬ tN a b → M a b = M a b := fun _ _ _ => rfl
  refine lv_iload_n hx hb d_Md_digitAt_0 rfl (lv_at hl 1 rfl) ?_
  refine lv_if_ge hx hb d_Md_digitAt_1 rfl (fun h1 => ?_) (fun h1 => ?_)
  · have g1 : 0 ≤ ((v : Nat) : Int) := by have q := Int32.le_iff_toInt_le.mp h1; rw [nI_toInt (n := v) (by omega)] at q; exact q
    refine lv_aload_n hx hb d_Md_digitAt_13 rfl (lv_at hl 0 rfl) ?_
    refine ux_get (C := R_Md) (T := F_Md) (N := 50) hx hb hT in_Md hown hK hP (by decide) rfl rfl 4 (by decide) (hT _ fl_Md_17) rfl d_Md_digitAt_14 ?_
    refine lv_bipush (v := 20) hx hb d_Md_digitAt_17 (by decide) ?_
    refine lv_iload_n hx hb d_Md_digitAt_19 rfl (lv_at hl 1 rfl) ?_
    refine lv_imul hx hb d_Md_digitAt_20 ?_
    refine lv_topi (fun z2 hz2 => ?_)
    rw [show (20 : Int32) * (nI v) = nI (20 * v) from pk_mul 20 v] at hz2
    rw [hz2]
    refine lv_iload_n hx hb d_Md_digitAt_21 rfl (lv_at hl 3 rfl) ?_
    refine lv_iadd hx hb d_Md_digitAt_22 ?_
    refine lv_topi (fun z3 hz3 => ?_)
    rw [show (nI (20 * v)) + (nI k) = nI ((20 * v) + k) from nI_add (20 * v) k] at hz3
    rw [hz3]
    refine ux_cald hx hb hK hP (by decide) rfl (vp_in_nI (show (20 * v) + k < 4160 by omega) (by decide)) d_Md_digitAt_23 ?_
    rw [nI_clamp (n := (20 * v) + k) (by omega)]
    refine lv_topi (fun z5 hz5 => ?_)
    obtain ⟨c4, hc4, ec4⟩ := nat_of (x := M 3 ((20 * v) + k)) (n := 65535) (hI.1 3 ((20 * v) + k)).1 (hI.1 3 ((20 * v) + k)).2
    rw [ec4] at hz5
    rw [hz5]
    have tc4 : (M 3 ((20 * v) + k)).toInt = (c4 : Int) := by rw [ec4]; exact nI_toInt (by omega)
    exact W.zret (v := nI c4) hx hb hr (nc_I (by omega)) (fun t ht hW => ⟨⟨nI c4, M, rfl, ⟨hI, hF, (by rw [nI_toInt (n := c4) (by omega)]; omega)⟩, by unfold ux_E; rw [ht]; exact hP⟩, hS.F ht⟩) hS.2.2 d_Md_digitAt_24
  · have g1 : ¬ (0 ≤ ((v : Nat) : Int)) := fun q => h1 (Int32.le_iff_toInt_le.mpr (by rw [nI_toInt (n := v) (by omega)]; exact q))
    exfalso; omega

set_option maxHeartbeats 1600000 in
set_option maxRecDepth 100000 in
theorem s_Md_digits_w (l : Launch) (D : va_G) (ad : Nat → Nat) (cA : Nat → ClassId) (A TB : Nat) (hA : A ≤ 100000000) (hB : TB ≤ 2000000000) (M : ux_M) (hI : IvM A TB M) (L : Nat) (hL : L ≤ 7) (hlv : M 0 10 = nI L) (w : Nat) (hw : w ≤ 8) : Met l y_Md_digits w_Md_digits ({ frames := 3, cells := 0, slots := 0, locals := 67 }) (va_Pc [.ref (ad 0), .int (-1), .int (nI w)] (ux_B D shM KM ad cA M)) (va_Qi (fun r M1 => IvM A TB M1 ∧ (∀ a b, ¬ mDg a b → M1 a b = M a b) ∧ (r = 0 ∨ r = 1)) (ux_E D shM KM ad cA) (ux_A KM ad)) 0 0 (ux_A KM ad) := by
  refine Met.ofW (cc := b_Md_digits) (maxL := 9) (ret := (some .boolean)) (by decide) rfl ?_
  intro p e s m args below meth c s₁ B hml hv
  obtain ⟨rfl, hP, hK, hi, hN⟩ := hv
  have hx := B.exec
  have hb := B.bytes
  have hr := B.returns
  have hts := atoms_spec (ws := w_Md_digits) B.pre
  have hown : s.vm.findClass R_Md = some m.cls := findClass_of_methodNamed B.named
  have hlocks := B.notSynchronized
  have hT : ∀ w ∈ tb, w.before _ s = true := fun w h => hts w (List.mem_cons_of_mem _ h)
  have hS : va_S (ux_A KM ad) s.heap s.heap [] := va_S.rf
  have hl := lv_entry ([.ref (ad 0), .int (-1), .int (nI w)]) (n := 9) (Nat.le_of_ble_eq_true rfl)
  rw [lg_entry_eq]
  generalize (lg_sl ([.ref (ad 0), .int (-1), .int (nI w)]) ++ List.replicate (9 - (lg_sl ([.ref (ad 0), .int (-1), .int (nI w)])).length) Slot.unset).toArray = ls at hl ⊢
  have hl : lv_has ls 9 [(0, .ref (ad 0)), (1, .int (-1)), (2, .int (nI w))] := hl
  have hF : ∀ a b, ¬ mDg a b → M a b = M a b := fun _ _ _ => rfl
  have cut80 : ∀ (nn : Nat) (i_4 i_6 : Int32) (k3 k7 : Nat) (Mc80 : ux_M) (H : Heap) (locs : List Loc) (ls : Array Slot), k3 - k7 = nn → ((k3 : Int) ≤ (M 19 (8 * L + w)).toInt) → (k3 ≤ 200) → (k7 ≤ 200) → va_P D classes (ux_w shM KM ad cA Mc80) H → IvM A TB Mc80 → (∀ a b, ¬ mDg a b → Mc80 a b = M a b) → va_S (ux_A KM ad) s.heap H locs → lv_has ls 9 [(0, .ref (ad 0)), (1, .int (-1)), (2, .int (nI w)), (3, .int (nI k3)), (4, .int i_4), (6, .int i_6), (7, .int (nI k7))] → W p l e (headSpec w_Md_digits ({ frames := 3, cells := 0, slots := 0, locals := 67 })).room s m (([.ref (ad 0), .int (-1), .int (nI w)] : List Value).toArray) below meth c H locs 0 0 (MQ below (va_Qi (fun r M1 => IvM A TB M1 ∧ (∀ a b, ¬ mDg a b → M1 a b = M a b) ∧ (r = 0 ∨ r = 1)) (ux_E D shM KM ad cA) (ux_A KM ad)) (([.ref (ad 0), .int (-1), .int (nI w)] : List Value).toArray) s 0 0 (ux_A KM ad)) (F0 m 80 ls []) := by
    intro nn
    induction nn using Nat.strongRecOn with
    | ind nn ih80 =>
      intro i_4 i_6 k3 k7 Mc80 H locs ls hn c80_0 c80_1 c80_2 hP hI hF hS hl
      refine lv_iload hx hb d_Md_digits_80 (lv_at hl 6 rfl) ?_
      refine lv_iload_n hx hb d_Md_digits_82 rfl (lv_at hl 3 rfl) ?_
      refine lv_icmp_ge hx hb d_Md_digits_83 rfl (fun h1 => ?_) (fun h1 => ?_)
      · have g1 : ((k3 : Nat) : Int) ≤ ((k7 : Nat) : Int) := by have q := Int32.le_iff_toInt_le.mp h1; rw [nI_toInt (n := k3) (by omega), nI_toInt (n := k7) (by omega)] at q; exact q
        refine lv_aload_n hx hb d_Md_digits_131 rfl (lv_at hl 0 rfl) ?_
        refine lv_iload hx hb d_Md_digits_132 (lv_at hl 4 rfl) ?_
        refine lv_if_eq hx hb d_Md_digits_134 rfl (fun h2 => ?_) (fun h2 => ?_)
        · have g2 : i_4.toInt = 0 := congrArg Int32.toInt h2
          refine lv_iload hx hb d_Md_digits_143 (lv_at hl 5 rfl) ?_
          refine ux_put (C := R_Md) (T := F_Md) (N := 50) hx hb hT in_Md t_Md t_Md_ok n_Md hown hK hi hP hS (by decide) rfl rfl 35 (by decide) (hT _ fl_Md_316) rfl (rfl) (rfl) rfl d_Md_digits_145 (fun H locs hP hS => ?_)
          have hI := IvM_free (k := 0) (j := 35) (v := i_6) hI rfl rfl (by unfold okW; omega)
          have hF := fr_wr (k := 0) (j := 35) (v := i_6) hF (by unfold mDg; omega)
          generalize eM3 : ux_wr Mc80 0 35 i_6 = M3 at hP hI hF
          refine lv_iconst (v := 1) hx hb d_Md_digits_148 (by decide) ?_
          exact W.zret (v := 1) hx hb hr (rfl) (fun t ht hW => ⟨⟨1, M3, rfl, ⟨hI, hF, Or.inr rfl⟩, by unfold ux_E; rw [ht]; exact hP⟩, hS.F ht⟩) hS.2.2 d_Md_digits_149
        · have g2 : ¬ (i_4.toInt = 0) := fun q => h2 (Int32.toInt_inj.mp q)
          refine lv_iload hx hb d_Md_digits_137 (lv_at hl 5 rfl) ?_
          refine lv_ineg hx hb d_Md_digits_139 ?_
          refine lv_topi (fun x4 ex4 => ?_)
          try have fx4 : x4.toInt = - i_6.toInt := by rw [ex4]; exact ti_neg (by omega)
          refine lv_goto hx hb d_Md_digits_140 rfl ?_
          refine ux_put (C := R_Md) (T := F_Md) (N := 50) hx hb hT in_Md t_Md t_Md_ok n_Md hown hK hi hP hS (by decide) rfl rfl 35 (by decide) (hT _ fl_Md_316) rfl (rfl) (rfl) rfl d_Md_digits_145 (fun H locs hP hS => ?_)
          have hI := IvM_free (k := 0) (j := 35) (v := x4) hI rfl rfl (by unfold okW; omega)
          have hF := fr_wr (k := 0) (j := 35) (v := x4) hF (by unfold mDg; omega)
          generalize eM5 : ux_wr Mc80 0 35 x4 = M5 at hP hI hF
          refine lv_iconst (v := 1) hx hb d_Md_digits_148 (by decide) ?_
          exact W.zret (v := 1) hx hb hr (rfl) (fun t ht hW => ⟨⟨1, M5, rfl, ⟨hI, hF, Or.inr rfl⟩, by unfold ux_E; rw [ht]; exact hP⟩, hS.F ht⟩) hS.2.2 d_Md_digits_149
      · have g1 : ¬ (((k3 : Nat) : Int) ≤ ((k7 : Nat) : Int)) := fun q => h1 (Int32.le_iff_toInt_le.mpr (by rw [nI_toInt (n := k3) (by omega), nI_toInt (n := k7) (by omega)]; exact q))
        have k6 := congrArg Int32.toInt (show Mc80 19 (8 * L + w) = M 19 (8 * L + w) from hF _ _ (by unfold mDg; omega))
        refine lv_aload_n hx hb d_Md_digits_86 rfl (lv_at hl 0 rfl) ?_
        refine lv_iload_n hx hb d_Md_digits_87 rfl (lv_at hl 1 rfl) ?_
        refine lv_iload_n hx hb d_Md_digits_88 rfl (lv_at hl 2 rfl) ?_
        refine lv_iload hx hb d_Md_digits_89 (lv_at hl 6 rfl) ?_
        refine ux_calli (va_runV ⟨hx, hb, hml, hown, hts⟩ (s_Md_digitAt_w l D ad cA A TB hA hB  Mc80 hI L hL ((hF _ _ (by unfold mDg; omega)).trans hlv) w k7 (by omega) (by omega)) (cwV 3 hts (tb_goodV ml_Md_312 im_Md_digitAt se_Md_digitAt ii_Md kt_Md_digitAt) rfl rfl rfl (by decide +kernel) ⟨Nat.le_of_ble_eq_true rfl, Nat.le_of_ble_eq_true rfl⟩) (ux_preV (by decide) rfl rfl hP hK hi hN) rfl rfl hl.1 rfl (lv_room (Nat.le_of_ble_eq_true rfl)) d_Md_digits_91 ⟨Nat.zero_le _, Nat.zero_le _⟩) hS (fun r7 M8 H locs q9 hP hS => ?_)
        obtain ⟨hI, fq9, q9p⟩ := q9
        rw [tN_eq fq9] at hP hI
        refine lv_istore hx hb d_Md_digits_94 hl (by decide) rfl (fun ls hl => ?_)
        have hl : lv_has ls 9 [(8, .int r7), (0, .ref (ad 0)), (1, .int (-1)), (2, .int (nI w)), (3, .int (nI k3)), (4, .int i_4), (6, .int i_6), (7, .int (nI k7))] := hl
        refine lv_iload hx hb d_Md_digits_96 (lv_at hl 0 rfl) ?_
        refine lv_bipush (v := 48) hx hb d_Md_digits_98 (by decide) ?_
        refine lv_icmp_lt hx hb d_Md_digits_100 rfl (fun h10 => ?_) (fun h10 => ?_)
        · have g10 : r7.toInt < 48 := Int32.lt_iff_toInt_lt.mp h10
          have w10 := ti_lo r7
          refine lv_iconst (v := 0) hx hb d_Md_digits_110 (by decide) ?_
          exact W.zret (v := 0) hx hb hr (rfl) (fun t ht hW => ⟨⟨0, Mc80, rfl, ⟨hI, hF, Or.inl rfl⟩, by unfold ux_E; rw [ht]; exact hP⟩, hS.F ht⟩) hS.2.2 d_Md_digits_111
        · have g10 : ¬ (r7.toInt < 48) := fun q => h10 (Int32.lt_iff_toInt_lt.mpr q)
          have u10 := ti_hi r7
          refine lv_iload hx hb d_Md_digits_103 (lv_at hl 0 rfl) ?_
          refine lv_bipush (v := 57) hx hb d_Md_digits_105 (by decide) ?_
          refine lv_icmp_le hx hb d_Md_digits_107 rfl (fun h11 => ?_) (fun h11 => ?_)
          · have g11 : r7.toInt ≤ 57 := Int32.le_iff_toInt_le.mp h11
            have w11 := ti_lo r7
            refine lv_bipush (v := 10) hx hb d_Md_digits_112 (by decide) ?_
            refine lv_iload hx hb d_Md_digits_114 (lv_at hl 6 rfl) ?_
            refine lv_imul hx hb d_Md_digits_116 ?_
            refine lv_topi (fun x12 ex12 => ?_)
            try have fx12 : x12.toInt = 10 * i_6.toInt := by rw [ex12, ti_mul (by (try rw [show (10 : Int32).toInt = 10 from rfl]); omega) (by (try rw [show (10 : Int32).toInt = 10 from rfl]); omega)]; (try rw [show (10 : Int32).toInt = 10 from rfl]); first | done | rfl | omega
            refine lv_iload hx hb d_Md_digits_117 (lv_at hl 0 rfl) ?_
            refine lv_iadd hx hb d_Md_digits_119 ?_
            refine lv_topi (fun x13 ex13 => ?_)
            try have fx13 : x13.toInt = x12.toInt + r7.toInt := by rw [ex13, ti_add (by omega) (by omega)]; first | done | rfl
            refine lv_bipush (v := 48) hx hb d_Md_digits_120 (by decide) ?_
            refine lv_isub hx hb d_Md_digits_122 ?_
            refine lv_topi (fun x14 ex14 => ?_)
            try have fx14 : x14.toInt = x13.toInt - 48 := by rw [ex14, ti_sub (by (try rw [show (48 : Int32).toInt = 48 from rfl]); omega) (by (try rw [show (48 : Int32).toInt = 48 from rfl]); omega)]; (try rw [show (48 : Int32).toInt = 48 from rfl]); first | done | rfl | omega
            refine lv_istore hx hb d_Md_digits_123 hl (by decide) rfl (fun ls hl => ?_)
            have hl : lv_has ls 9 [(6, .int x14), (8, .int r7), (0, .ref (ad 0)), (1, .int (-1)), (2, .int (nI w)), (3, .int (nI k3)), (4, .int i_4), (7, .int (nI k7))] := hl
            refine lv_iinc (k := 7) (v := nI (k7 + 1)) hx hb d_Md_digits_125 hl rfl (nI_add k7 1) (by decide) rfl (fun ls hl => ?_)
            have hl : lv_has ls 9 [(7, .int (nI (k7 + 1))), (6, .int x14), (8, .int r7), (0, .ref (ad 0)), (1, .int (-1)), (2, .int (nI w)), (3, .int (nI k3)), (4, .int i_4)] := hl
            refine lv_goto hx hb d_Md_digits_128 rfl ?_
            exact ih80 (k3 - (k7 + 1)) (by omega) i_4 x14 k3 (k7 + 1) Mc80 _ _ ls rfl (show (k3 : Int) ≤ (M 19 (8 * L + w)).toInt from by first | omega | assumption | exact Or.inl rfl | exact Or.inr rfl | rfl | decide) (show k3 ≤ 200 from by first | omega | assumption | exact Or.inl rfl | exact Or.inr rfl | rfl | decide) (show (k7 + 1) ≤ 200 from by first | omega | assumption | exact Or.inl rfl | exact Or.inr rfl | rfl | decide) hP hI hF hS (lv_sub hl [3, 4, 5, 6, 7, 1, 0] rfl)
          · have g11 : ¬ (r7.toInt ≤ 57) := fun q => h11 (Int32.le_iff_toInt_le.mpr q)
            have u11 := ti_hi r7
            refine lv_iconst (v := 0) hx hb d_Md_digits_110 (by decide) ?_
            exact W.zret (v := 0) hx hb hr (rfl) (fun t ht hW => ⟨⟨0, Mc80, rfl, ⟨hI, hF, Or.inl rfl⟩, by unfold ux_E; rw [ht]; exact hP⟩, hS.F ht⟩) hS.2.2 d_Md_digits_111
  refine lv_iload_n hx hb d_Md_digits_0 rfl (lv_at hl 1 rfl) ?_
  refine lv_if_ge hx hb d_Md_digits_1 rfl (fun hz => absurd hz (by decide)) (fun _ => ?_)
  refine lv_aload_n hx hb d_Md_digits_4 rfl (lv_at hl 0 rfl) ?_
  refine lv_iload_n hx hb d_Md_digits_5 rfl (lv_at hl 2 rfl) ?_
  refine ux_calli (va_runV ⟨hx, hb, hml, hown, hts⟩ (s_Md_sizeOf l D ad cA A TB hA hB  M hI L hL (hlv) w (by omega)) (cwV 1 hts (tb_goodV ml_Md_159 im_Md_sizeOf se_Md_sizeOf ii_Md kt_Md_sizeOf) rfl rfl rfl (by decide +kernel) ⟨Nat.le_of_ble_eq_true rfl, Nat.le_of_ble_eq_true rfl⟩) (ux_preV (by decide) rfl rfl hP hK hi hN) rfl rfl hl.1 rfl (lv_room (Nat.le_of_ble_eq_true rfl)) d_Md_digits_6 ⟨Nat.zero_le _, Nat.zero_le _⟩) hS (fun r15 M16 H locs q17 hP hS => ?_)
  obtain ⟨hI, fq17, q17p⟩ := q17
  rw [tN_eq fq17] at hP hI
  obtain ⟨c18, hc18, ec18⟩ := nat_of (x := M 19 (8 * L + w)) (n := 200) (hI.1 _ _).1 (hI.1 _ _).2
  rw [ec18] at q17p
  subst q17p
  have tc18 : (M 19 (8 * L + w)).toInt = (c18 : Int) := by rw [ec18]; exact nI_toInt (by omega)
  refine lv_goto hx hb d_Md_digits_9 rfl ?_
  refine lv_istore_n hx hb d_Md_digits_18 rfl hl (by decide) rfl (fun ls hl => ?_)
  have hl : lv_has ls 9 [(3, .int (nI c18)), (0, .ref (ad 0)), (1, .int (-1)), (2, .int (nI w))] := hl
  refine lv_iload_n hx hb d_Md_digits_19 rfl (lv_at hl 0 rfl) ?_
  refine lv_if_le hx hb d_Md_digits_20 rfl (fun h19 => ?_) (fun h19 => ?_)
  · have g19 : ((c18 : Nat) : Int) ≤ 0 := by have q := Int32.le_iff_toInt_le.mp h19; rw [nI_toInt (n := c18) (by omega)] at q; exact q
    refine lv_iconst (v := 0) hx hb d_Md_digits_39 (by decide) ?_
    refine lv_istore hx hb d_Md_digits_40 hl (by decide) rfl (fun ls hl => ?_)
    have hl : lv_has ls 9 [(4, .int 0), (3, .int (nI c18)), (0, .ref (ad 0)), (1, .int (-1)), (2, .int (nI w))] := hl
    refine lv_iload hx hb d_Md_digits_42 (lv_at hl 0 rfl) ?_
    refine lv_if_eq hx hb d_Md_digits_44 rfl (fun _ => ?_) (fun hz => absurd (by decide) hz)
    refine lv_iconst (v := 0) hx hb d_Md_digits_51 (by decide) ?_
    refine lv_istore hx hb d_Md_digits_52 hl (by decide) rfl (fun ls hl => ?_)
    have hl : lv_has ls 9 [(5, .int 0), (4, .int 0), (3, .int (nI c18)), (0, .ref (ad 0)), (1, .int (-1)), (2, .int (nI w))] := hl
    refine lv_iload_n hx hb d_Md_digits_54 rfl (lv_at hl 2 rfl) ?_
    refine lv_iload hx hb d_Md_digits_55 (lv_at hl 0 rfl) ?_
    refine lv_isub hx hb d_Md_digits_57 ?_
    refine lv_topi (fun x20 ex20 => ?_)
    try have fx20 : x20.toInt = ((c18 : Nat) : Int) - 0 := by rw [ex20, ti_sub (by (rw [nI_toInt (n := c18) (by omega)]); (try rw [show (0 : Int32).toInt = 0 from rfl]); omega) (by (rw [nI_toInt (n := c18) (by omega)]); (try rw [show (0 : Int32).toInt = 0 from rfl]); omega)]; (rw [nI_toInt (n := c18) (by omega)]); (try rw [show (0 : Int32).toInt = 0 from rfl]); first | done | rfl | omega
    refine lv_iconst (v := 1) hx hb d_Md_digits_58 (by decide) ?_
    refine lv_icmp_lt hx hb d_Md_digits_59 rfl (fun h21 => ?_) (fun h21 => ?_)
    · have g21 : x20.toInt < 1 := Int32.lt_iff_toInt_lt.mp h21
      have w21 := ti_lo x20
      refine lv_iconst (v := 0) hx hb d_Md_digits_71 (by decide) ?_
      exact W.zret (v := 0) hx hb hr (rfl) (fun t ht hW => ⟨⟨0, M, rfl, ⟨hI, hF, Or.inl rfl⟩, by unfold ux_E; rw [ht]; exact hP⟩, hS.F ht⟩) hS.2.2 d_Md_digits_72
    · have g21 : ¬ (x20.toInt < 1) := fun q => h21 (Int32.lt_iff_toInt_lt.mpr q)
      have u21 := ti_hi x20
      refine lv_iload_n hx hb d_Md_digits_62 rfl (lv_at hl 2 rfl) ?_
      refine lv_iload hx hb d_Md_digits_63 (lv_at hl 0 rfl) ?_
      refine lv_isub hx hb d_Md_digits_65 ?_
      refine lv_topi (fun x22 ex22 => ?_)
      try have fx22 : x22.toInt = ((c18 : Nat) : Int) - 0 := by rw [ex22, ti_sub (by (rw [nI_toInt (n := c18) (by omega)]); (try rw [show (0 : Int32).toInt = 0 from rfl]); omega) (by (rw [nI_toInt (n := c18) (by omega)]); (try rw [show (0 : Int32).toInt = 0 from rfl]); omega)]; (rw [nI_toInt (n := c18) (by omega)]); (try rw [show (0 : Int32).toInt = 0 from rfl]); first | done | rfl | omega
      refine lv_bipush (v := 10) hx hb d_Md_digits_66 (by decide) ?_
      refine lv_icmp_le hx hb d_Md_digits_68 rfl (fun h23 => ?_) (fun h23 => ?_)
      · have g23 : x22.toInt ≤ 10 := Int32.le_iff_toInt_le.mp h23
        have w23 := ti_lo x22
        refine lv_iconst (v := 0) hx hb d_Md_digits_73 (by decide) ?_
        refine lv_istore hx hb d_Md_digits_74 hl (by decide) rfl (fun ls hl => ?_)
        have hl : lv_has ls 9 [(6, .int 0), (5, .int 0), (4, .int 0), (3, .int (nI c18)), (0, .ref (ad 0)), (1, .int (-1)), (2, .int (nI w))] := hl
        refine lv_iload hx hb d_Md_digits_76 (lv_at hl 1 rfl) ?_
        refine lv_istore hx hb d_Md_digits_78 hl (by decide) rfl (fun ls hl => ?_)
        have hl : lv_has ls 9 [(7, .int 0), (6, .int 0), (5, .int 0), (4, .int 0), (3, .int (nI c18)), (0, .ref (ad 0)), (1, .int (-1)), (2, .int (nI w))] := hl
        exact cut80 (c18 - 0) 0 0 c18 0 M _ _ ls rfl (show (c18 : Int) ≤ (M 19 (8 * L + w)).toInt from by first | omega | assumption | exact Or.inl rfl | exact Or.inr rfl | rfl | decide) (show c18 ≤ 200 from by first | omega | assumption | exact Or.inl rfl | exact Or.inr rfl | rfl | decide) (show 0 ≤ 200 from by first | omega | assumption | exact Or.inl rfl | exact Or.inr rfl | rfl | decide) hP hI hF hS (lv_sub hl [5, 6, 7, 4, 3, 1, 0] rfl)
      · have g23 : ¬ (x22.toInt ≤ 10) := fun q => h23 (Int32.le_iff_toInt_le.mpr q)
        have u23 := ti_hi x22
        refine lv_iconst (v := 0) hx hb d_Md_digits_71 (by decide) ?_
        exact W.zret (v := 0) hx hb hr (rfl) (fun t ht hW => ⟨⟨0, M, rfl, ⟨hI, hF, Or.inl rfl⟩, by unfold ux_E; rw [ht]; exact hP⟩, hS.F ht⟩) hS.2.2 d_Md_digits_72
  · have g19 : ¬ (((c18 : Nat) : Int) ≤ 0) := fun q => h19 (Int32.le_iff_toInt_le.mpr (by rw [nI_toInt (n := c18) (by omega)]; exact q))
    refine lv_aload_n hx hb d_Md_digits_23 rfl (lv_at hl 1 rfl) ?_
    refine lv_iload_n hx hb d_Md_digits_24 rfl (lv_at hl 2 rfl) ?_
    refine lv_iload_n hx hb d_Md_digits_25 rfl (lv_at hl 3 rfl) ?_
    refine lv_iconst (v := 0) hx hb d_Md_digits_26 (by decide) ?_
    refine ux_calli (va_runV ⟨hx, hb, hml, hown, hts⟩ (s_Md_digitAt_w l D ad cA A TB hA hB  M hI L hL (hlv) w 0 (by omega) (by omega)) (cwV 3 hts (tb_goodV ml_Md_312 im_Md_digitAt se_Md_digitAt ii_Md kt_Md_digitAt) rfl rfl rfl (by decide +kernel) ⟨Nat.le_of_ble_eq_true rfl, Nat.le_of_ble_eq_true rfl⟩) (ux_preV (by decide) rfl rfl hP hK hi hN) rfl rfl hl.1 rfl (lv_room (Nat.le_of_ble_eq_true rfl)) d_Md_digits_27 ⟨Nat.zero_le _, Nat.zero_le _⟩) hS (fun r24 M25 H locs q26 hP hS => ?_)
    obtain ⟨hI, fq26, q26p⟩ := q26
    rw [tN_eq fq26] at hP hI
    refine lv_bipush (v := 45) hx hb d_Md_digits_30 (by decide) ?_
    refine lv_icmp_ne hx hb d_Md_digits_32 rfl (fun h27 => ?_) (fun h27 => ?_)
    · have g27 : ¬ (r24.toInt = 45) := fun q => h27 (Int32.toInt_inj.mp q)
      refine lv_iconst (v := 0) hx hb d_Md_digits_39 (by decide) ?_
      refine lv_istore hx hb d_Md_digits_40 hl (by decide) rfl (fun ls hl => ?_)
      have hl : lv_has ls 9 [(4, .int 0), (3, .int (nI c18)), (0, .ref (ad 0)), (1, .int (-1)), (2, .int (nI w))] := hl
      refine lv_iload hx hb d_Md_digits_42 (lv_at hl 0 rfl) ?_
      refine lv_if_eq hx hb d_Md_digits_44 rfl (fun _ => ?_) (fun hz => absurd (by decide) hz)
      refine lv_iconst (v := 0) hx hb d_Md_digits_51 (by decide) ?_
      refine lv_istore hx hb d_Md_digits_52 hl (by decide) rfl (fun ls hl => ?_)
      have hl : lv_has ls 9 [(5, .int 0), (4, .int 0), (3, .int (nI c18)), (0, .ref (ad 0)), (1, .int (-1)), (2, .int (nI w))] := hl
      refine lv_iload_n hx hb d_Md_digits_54 rfl (lv_at hl 2 rfl) ?_
      refine lv_iload hx hb d_Md_digits_55 (lv_at hl 0 rfl) ?_
      refine lv_isub hx hb d_Md_digits_57 ?_
      refine lv_topi (fun x28 ex28 => ?_)
      try have fx28 : x28.toInt = ((c18 : Nat) : Int) - 0 := by rw [ex28, ti_sub (by (rw [nI_toInt (n := c18) (by omega)]); (try rw [show (0 : Int32).toInt = 0 from rfl]); omega) (by (rw [nI_toInt (n := c18) (by omega)]); (try rw [show (0 : Int32).toInt = 0 from rfl]); omega)]; (rw [nI_toInt (n := c18) (by omega)]); (try rw [show (0 : Int32).toInt = 0 from rfl]); first | done | rfl | omega
      refine lv_iconst (v := 1) hx hb d_Md_digits_58 (by decide) ?_
      refine lv_icmp_lt hx hb d_Md_digits_59 rfl (fun h29 => ?_) (fun h29 => ?_)
      · have g29 : x28.toInt < 1 := Int32.lt_iff_toInt_lt.mp h29
        have w29 := ti_lo x28
        refine lv_iconst (v := 0) hx hb d_Md_digits_71 (by decide) ?_
        exact W.zret (v := 0) hx hb hr (rfl) (fun t ht hW => ⟨⟨0, M, rfl, ⟨hI, hF, Or.inl rfl⟩, by unfold ux_E; rw [ht]; exact hP⟩, hS.F ht⟩) hS.2.2 d_Md_digits_72
      · have g29 : ¬ (x28.toInt < 1) := fun q => h29 (Int32.lt_iff_toInt_lt.mpr q)
        have u29 := ti_hi x28
        refine lv_iload_n hx hb d_Md_digits_62 rfl (lv_at hl 2 rfl) ?_
        refine lv_iload hx hb d_Md_digits_63 (lv_at hl 0 rfl) ?_
        refine lv_isub hx hb d_Md_digits_65 ?_
        refine lv_topi (fun x30 ex30 => ?_)
        try have fx30 : x30.toInt = ((c18 : Nat) : Int) - 0 := by rw [ex30, ti_sub (by (rw [nI_toInt (n := c18) (by omega)]); (try rw [show (0 : Int32).toInt = 0 from rfl]); omega) (by (rw [nI_toInt (n := c18) (by omega)]); (try rw [show (0 : Int32).toInt = 0 from rfl]); omega)]; (rw [nI_toInt (n := c18) (by omega)]); (try rw [show (0 : Int32).toInt = 0 from rfl]); first | done | rfl | omega
        refine lv_bipush (v := 10) hx hb d_Md_digits_66 (by decide) ?_
        refine lv_icmp_le hx hb d_Md_digits_68 rfl (fun h31 => ?_) (fun h31 => ?_)
        · have g31 : x30.toInt ≤ 10 := Int32.le_iff_toInt_le.mp h31
          have w31 := ti_lo x30
          refine lv_iconst (v := 0) hx hb d_Md_digits_73 (by decide) ?_
          refine lv_istore hx hb d_Md_digits_74 hl (by decide) rfl (fun ls hl => ?_)
          have hl : lv_has ls 9 [(6, .int 0), (5, .int 0), (4, .int 0), (3, .int (nI c18)), (0, .ref (ad 0)), (1, .int (-1)), (2, .int (nI w))] := hl
          refine lv_iload hx hb d_Md_digits_76 (lv_at hl 1 rfl) ?_
          refine lv_istore hx hb d_Md_digits_78 hl (by decide) rfl (fun ls hl => ?_)
          have hl : lv_has ls 9 [(7, .int 0), (6, .int 0), (5, .int 0), (4, .int 0), (3, .int (nI c18)), (0, .ref (ad 0)), (1, .int (-1)), (2, .int (nI w))] := hl
          exact cut80 (c18 - 0) 0 0 c18 0 M _ _ ls rfl (show (c18 : Int) ≤ (M 19 (8 * L + w)).toInt from by first | omega | assumption | exact Or.inl rfl | exact Or.inr rfl | rfl | decide) (show c18 ≤ 200 from by first | omega | assumption | exact Or.inl rfl | exact Or.inr rfl | rfl | decide) (show 0 ≤ 200 from by first | omega | assumption | exact Or.inl rfl | exact Or.inr rfl | rfl | decide) hP hI hF hS (lv_sub hl [5, 6, 7, 4, 3, 1, 0] rfl)
        · have g31 : ¬ (x30.toInt ≤ 10) := fun q => h31 (Int32.le_iff_toInt_le.mpr q)
          have u31 := ti_hi x30
          refine lv_iconst (v := 0) hx hb d_Md_digits_71 (by decide) ?_
          exact W.zret (v := 0) hx hb hr (rfl) (fun t ht hW => ⟨⟨0, M, rfl, ⟨hI, hF, Or.inl rfl⟩, by unfold ux_E; rw [ht]; exact hP⟩, hS.F ht⟩) hS.2.2 d_Md_digits_72
    · have g27 : r24.toInt = 45 := congrArg Int32.toInt h27
      refine lv_iconst (v := 1) hx hb d_Md_digits_35 (by decide) ?_
      refine lv_goto hx hb d_Md_digits_36 rfl ?_
      refine lv_istore hx hb d_Md_digits_40 hl (by decide) rfl (fun ls hl => ?_)
      have hl : lv_has ls 9 [(4, .int 1), (3, .int (nI c18)), (0, .ref (ad 0)), (1, .int (-1)), (2, .int (nI w))] := hl
      refine lv_iload hx hb d_Md_digits_42 (lv_at hl 0 rfl) ?_
      refine lv_if_eq hx hb d_Md_digits_44 rfl (fun hz => absurd hz (by decide)) (fun _ => ?_)
      refine lv_iconst (v := 1) hx hb d_Md_digits_47 (by decide) ?_
      refine lv_goto hx hb d_Md_digits_48 rfl ?_
      refine lv_istore hx hb d_Md_digits_52 hl (by decide) rfl (fun ls hl => ?_)
      have hl : lv_has ls 9 [(5, .int 1), (4, .int 1), (3, .int (nI c18)), (0, .ref (ad 0)), (1, .int (-1)), (2, .int (nI w))] := hl
      refine lv_iload_n hx hb d_Md_digits_54 rfl (lv_at hl 2 rfl) ?_
      refine lv_iload hx hb d_Md_digits_55 (lv_at hl 0 rfl) ?_
      refine lv_isub hx hb d_Md_digits_57 ?_
      refine lv_topi (fun x32 ex32 => ?_)
      try have fx32 : x32.toInt = ((c18 : Nat) : Int) - 1 := by rw [ex32, ti_sub (by (rw [nI_toInt (n := c18) (by omega)]); (try rw [show (1 : Int32).toInt = 1 from rfl]); omega) (by (rw [nI_toInt (n := c18) (by omega)]); (try rw [show (1 : Int32).toInt = 1 from rfl]); omega)]; (rw [nI_toInt (n := c18) (by omega)]); (try rw [show (1 : Int32).toInt = 1 from rfl]); first | done | rfl | omega
      refine lv_iconst (v := 1) hx hb d_Md_digits_58 (by decide) ?_
      refine lv_icmp_lt hx hb d_Md_digits_59 rfl (fun h33 => ?_) (fun h33 => ?_)
      · have g33 : x32.toInt < 1 := Int32.lt_iff_toInt_lt.mp h33
        have w33 := ti_lo x32
        refine lv_iconst (v := 0) hx hb d_Md_digits_71 (by decide) ?_
        exact W.zret (v := 0) hx hb hr (rfl) (fun t ht hW => ⟨⟨0, M, rfl, ⟨hI, hF, Or.inl rfl⟩, by unfold ux_E; rw [ht]; exact hP⟩, hS.F ht⟩) hS.2.2 d_Md_digits_72
      · have g33 : ¬ (x32.toInt < 1) := fun q => h33 (Int32.lt_iff_toInt_lt.mpr q)
        have u33 := ti_hi x32
        refine lv_iload_n hx hb d_Md_digits_62 rfl (lv_at hl 2 rfl) ?_
        refine lv_iload hx hb d_Md_digits_63 (lv_at hl 0 rfl) ?_
        refine lv_isub hx hb d_Md_digits_65 ?_
        refine lv_topi (fun x34 ex34 => ?_)
        try have fx34 : x34.toInt = ((c18 : Nat) : Int) - 1 := by rw [ex34, ti_sub (by (rw [nI_toInt (n := c18) (by omega)]); (try rw [show (1 : Int32).toInt = 1 from rfl]); omega) (by (rw [nI_toInt (n := c18) (by omega)]); (try rw [show (1 : Int32).toInt = 1 from rfl]); omega)]; (rw [nI_toInt (n := c18) (by omega)]); (try rw [show (1 : Int32).toInt = 1 from rfl]); first | done | rfl | omega
        refine lv_bipush (v := 10) hx hb d_Md_digits_66 (by decide) ?_
        refine lv_icmp_le hx hb d_Md_digits_68 rfl (fun h35 => ?_) (fun h35 => ?_)
        · have g35 : x34.toInt ≤ 10 := Int32.le_iff_toInt_le.mp h35
          have w35 := ti_lo x34
          refine lv_iconst (v := 0) hx hb d_Md_digits_73 (by decide) ?_
          refine lv_istore hx hb d_Md_digits_74 hl (by decide) rfl (fun ls hl => ?_)
          have hl : lv_has ls 9 [(6, .int 0), (5, .int 1), (4, .int 1), (3, .int (nI c18)), (0, .ref (ad 0)), (1, .int (-1)), (2, .int (nI w))] := hl
          refine lv_iload hx hb d_Md_digits_76 (lv_at hl 1 rfl) ?_
          refine lv_istore hx hb d_Md_digits_78 hl (by decide) rfl (fun ls hl => ?_)
          have hl : lv_has ls 9 [(7, .int 1), (6, .int 0), (5, .int 1), (4, .int 1), (3, .int (nI c18)), (0, .ref (ad 0)), (1, .int (-1)), (2, .int (nI w))] := hl
          exact cut80 (c18 - 1) 1 0 c18 1 M _ _ ls rfl (show (c18 : Int) ≤ (M 19 (8 * L + w)).toInt from by first | omega | assumption | exact Or.inl rfl | exact Or.inr rfl | rfl | decide) (show c18 ≤ 200 from by first | omega | assumption | exact Or.inl rfl | exact Or.inr rfl | rfl | decide) (show 1 ≤ 200 from by first | omega | assumption | exact Or.inl rfl | exact Or.inr rfl | rfl | decide) hP hI hF hS (lv_sub hl [5, 6, 7, 4, 3, 1, 0] rfl)
        · have g35 : ¬ (x34.toInt ≤ 10) := fun q => h35 (Int32.le_iff_toInt_le.mpr q)
          have u35 := ti_hi x34
          refine lv_iconst (v := 0) hx hb d_Md_digits_71 (by decide) ?_
          exact W.zret (v := 0) hx hb hr (rfl) (fun t ht hW => ⟨⟨0, M, rfl, ⟨hI, hF, Or.inl rfl⟩, by unfold ux_E; rw [ht]; exact hP⟩, hS.F ht⟩) hS.2.2 d_Md_digits_72

set_option maxHeartbeats 1600000 in
set_option maxRecDepth 100000 in
theorem s_Md_digits_v (l : Launch) (D : va_G) (ad : Nat → Nat) (cA : Nat → ClassId) (A TB : Nat) (hA : A ≤ 100000000) (hB : TB ≤ 2000000000) (M : ux_M) (hI : IvM A TB M) (v : Nat) (w1 : Int32) (hv : v ≤ 207) : Met l y_Md_digits w_Md_digits ({ frames := 1, cells := 0, slots := 0, locals := 23 }) (va_Pc [.ref (ad 0), .int (nI v), .int w1] (ux_B D shM KM ad cA M)) (va_Qi (fun r M1 => IvM A TB M1 ∧ (∀ a b, ¬ mDg a b → M1 a b = M a b) ∧ (r = 0 ∨ r = 1)) (ux_E D shM KM ad cA) (ux_A KM ad)) 0 0 (ux_A KM ad) := by
  refine Met.ofW (cc := b_Md_digits) (maxL := 9) (ret := (some .boolean)) (by decide) rfl ?_
  intro p e s m args below meth c s₁ B hml hv
  obtain ⟨rfl, hP, hK, hi, hN⟩ := hv
  have hx := B.exec
  have hb := B.bytes
  have hr := B.returns
  have hts := atoms_spec (ws := w_Md_digits) B.pre
  have hown : s.vm.findClass R_Md = some m.cls := findClass_of_methodNamed B.named
  have hlocks := B.notSynchronized
  have hT : ∀ w ∈ tb, w.before _ s = true := fun w h => hts w (List.mem_cons_of_mem _ h)
  have hS : va_S (ux_A KM ad) s.heap s.heap [] := va_S.rf
  have hl := lv_entry ([.ref (ad 0), .int (nI v), .int w1]) (n := 9) (Nat.le_of_ble_eq_true rfl)
  rw [lg_entry_eq]
  generalize (lg_sl ([.ref (ad 0), .int (nI v), .int w1]) ++ List.replicate (9 - (lg_sl ([.ref (ad 0), .int (nI v), .int w1])).length) Slot.unset).toArray = ls at hl ⊢
  have hl : lv_has ls 9 [(0, .ref (ad 0)), (1, .int (nI v)), (2, .int w1)] := hl
  have hF : ∀ a b, ¬ mDg a b → M a b = M a b := fun _ _ _ => rfl
  have cut80 : ∀ (nn : Nat) (i_3 i_4 i_6 : Int32) (k7 : Nat) (Mc80 : ux_M) (H : Heap) (locs : List Loc) (ls : Array Slot), 20 - k7 = nn → (i_3.toInt ≤ 20) → (k7 ≤ 20) → va_P D classes (ux_w shM KM ad cA Mc80) H → IvM A TB Mc80 → (∀ a b, ¬ mDg a b → Mc80 a b = M a b) → va_S (ux_A KM ad) s.heap H locs → lv_has ls 9 [(0, .ref (ad 0)), (1, .int (nI v)), (2, .int w1), (3, .int i_3), (4, .int i_4), (6, .int i_6), (7, .int (nI k7))] → W p l e (headSpec w_Md_digits ({ frames := 1, cells := 0, slots := 0, locals := 23 })).room s m (([.ref (ad 0), .int (nI v), .int w1] : List Value).toArray) below meth c H locs 0 0 (MQ below (va_Qi (fun r M1 => IvM A TB M1 ∧ (∀ a b, ¬ mDg a b → M1 a b = M a b) ∧ (r = 0 ∨ r = 1)) (ux_E D shM KM ad cA) (ux_A KM ad)) (([.ref (ad 0), .int (nI v), .int w1] : List Value).toArray) s 0 0 (ux_A KM ad)) (F0 m 80 ls []) := by
    intro nn
    induction nn using Nat.strongRecOn with
    | ind nn ih80 =>
      intro i_3 i_4 i_6 k7 Mc80 H locs ls hn c80_0 c80_1 hP hI hF hS hl
      refine lv_iload hx hb d_Md_digits_80 (lv_at hl 6 rfl) ?_
      refine lv_iload_n hx hb d_Md_digits_82 rfl (lv_at hl 3 rfl) ?_
      refine lv_icmp_ge hx hb d_Md_digits_83 rfl (fun h1 => ?_) (fun h1 => ?_)
      · have g1 : i_3.toInt ≤ ((k7 : Nat) : Int) := by have q := Int32.le_iff_toInt_le.mp h1; rw [nI_toInt (n := k7) (by omega)] at q; exact q
        have w1 := ti_lo i_3
        refine lv_aload_n hx hb d_Md_digits_131 rfl (lv_at hl 0 rfl) ?_
        refine lv_iload hx hb d_Md_digits_132 (lv_at hl 4 rfl) ?_
        refine lv_if_eq hx hb d_Md_digits_134 rfl (fun h2 => ?_) (fun h2 => ?_)
        · have g2 : i_4.toInt = 0 := congrArg Int32.toInt h2
          refine lv_iload hx hb d_Md_digits_143 (lv_at hl 5 rfl) ?_
          refine ux_put (C := R_Md) (T := F_Md) (N := 50) hx hb hT in_Md t_Md t_Md_ok n_Md hown hK hi hP hS (by decide) rfl rfl 35 (by decide) (hT _ fl_Md_316) rfl (rfl) (rfl) rfl d_Md_digits_145 (fun H locs hP hS => ?_)
          have hI := IvM_free (k := 0) (j := 35) (v := i_6) hI rfl rfl (by unfold okW; omega)
          have hF := fr_wr (k := 0) (j := 35) (v := i_6) hF (by unfold mDg; omega)
          generalize eM3 : ux_wr Mc80 0 35 i_6 = M3 at hP hI hF
          refine lv_iconst (v := 1) hx hb d_Md_digits_148 (by decide) ?_
          exact W.zret (v := 1) hx hb hr (rfl) (fun t ht hW => ⟨⟨1, M3, rfl, ⟨hI, hF, Or.inr rfl⟩, by unfold ux_E; rw [ht]; exact hP⟩, hS.F ht⟩) hS.2.2 d_Md_digits_149
        · have g2 : ¬ (i_4.toInt = 0) := fun q => h2 (Int32.toInt_inj.mp q)
          refine lv_iload hx hb d_Md_digits_137 (lv_at hl 5 rfl) ?_
          refine lv_ineg hx hb d_Md_digits_139 ?_
          refine lv_topi (fun x4 ex4 => ?_)
          try have fx4 : x4.toInt = - i_6.toInt := by rw [ex4]; exact ti_neg (by omega)
          refine lv_goto hx hb d_Md_digits_140 rfl ?_
          refine ux_put (C := R_Md) (T := F_Md) (N := 50) hx hb hT in_Md t_Md t_Md_ok n_Md hown hK hi hP hS (by decide) rfl rfl 35 (by decide) (hT _ fl_Md_316) rfl (rfl) (rfl) rfl d_Md_digits_145 (fun H locs hP hS => ?_)
          have hI := IvM_free (k := 0) (j := 35) (v := x4) hI rfl rfl (by unfold okW; omega)
          have hF := fr_wr (k := 0) (j := 35) (v := x4) hF (by unfold mDg; omega)
          generalize eM5 : ux_wr Mc80 0 35 x4 = M5 at hP hI hF
          refine lv_iconst (v := 1) hx hb d_Md_digits_148 (by decide) ?_
          exact W.zret (v := 1) hx hb hr (rfl) (fun t ht hW => ⟨⟨1, M5, rfl, ⟨hI, hF, Or.inr rfl⟩, by unfold ux_E; rw [ht]; exact hP⟩, hS.F ht⟩) hS.2.2 d_Md_digits_149
      · have g1 : ¬ (i_3.toInt ≤ ((k7 : Nat) : Int)) := fun q => h1 (Int32.le_iff_toInt_le.mpr (by rw [nI_toInt (n := k7) (by omega)]; exact q))
        have u1 := ti_hi i_3
        refine lv_aload_n hx hb d_Md_digits_86 rfl (lv_at hl 0 rfl) ?_
        refine lv_iload_n hx hb d_Md_digits_87 rfl (lv_at hl 1 rfl) ?_
        refine lv_iload_n hx hb d_Md_digits_88 rfl (lv_at hl 2 rfl) ?_
        refine lv_iload hx hb d_Md_digits_89 (lv_at hl 6 rfl) ?_
        refine ux_calli (va_runV ⟨hx, hb, hml, hown, hts⟩ (s_Md_digitAt_v l D ad cA A TB hA hB  Mc80 hI v k7 w1 (by omega) (by omega)) (cwV 3 hts (tb_goodV ml_Md_312 im_Md_digitAt se_Md_digitAt ii_Md kt_Md_digitAt) rfl rfl rfl (by decide +kernel) ⟨Nat.le_of_ble_eq_true rfl, Nat.le_of_ble_eq_true rfl⟩) (ux_preV (by decide) rfl rfl hP hK hi hN) rfl rfl hl.1 rfl (lv_room (Nat.le_of_ble_eq_true rfl)) d_Md_digits_91 ⟨Nat.zero_le _, Nat.zero_le _⟩) hS (fun r6 M7 H locs q8 hP hS => ?_)
        obtain ⟨hI, fq8, q8p⟩ := q8
        rw [tN_eq fq8] at hP hI
        refine lv_istore hx hb d_Md_digits_94 hl (by decide) rfl (fun ls hl => ?_)
        have hl : lv_has ls 9 [(8, .int r6), (0, .ref (ad 0)), (1, .int (nI v)), (2, .int w1), (3, .int i_3), (4, .int i_4), (6, .int i_6), (7, .int (nI k7))] := hl
        refine lv_iload hx hb d_Md_digits_96 (lv_at hl 0 rfl) ?_
        refine lv_bipush (v := 48) hx hb d_Md_digits_98 (by decide) ?_
        refine lv_icmp_lt hx hb d_Md_digits_100 rfl (fun h9 => ?_) (fun h9 => ?_)
        · have g9 : r6.toInt < 48 := Int32.lt_iff_toInt_lt.mp h9
          have w9 := ti_lo r6
          refine lv_iconst (v := 0) hx hb d_Md_digits_110 (by decide) ?_
          exact W.zret (v := 0) hx hb hr (rfl) (fun t ht hW => ⟨⟨0, Mc80, rfl, ⟨hI, hF, Or.inl rfl⟩, by unfold ux_E; rw [ht]; exact hP⟩, hS.F ht⟩) hS.2.2 d_Md_digits_111
        · have g9 : ¬ (r6.toInt < 48) := fun q => h9 (Int32.lt_iff_toInt_lt.mpr q)
          have u9 := ti_hi r6
          refine lv_iload hx hb d_Md_digits_103 (lv_at hl 0 rfl) ?_
          refine lv_bipush (v := 57) hx hb d_Md_digits_105 (by decide) ?_
          refine lv_icmp_le hx hb d_Md_digits_107 rfl (fun h10 => ?_) (fun h10 => ?_)
          · have g10 : r6.toInt ≤ 57 := Int32.le_iff_toInt_le.mp h10
            have w10 := ti_lo r6
            refine lv_bipush (v := 10) hx hb d_Md_digits_112 (by decide) ?_
            refine lv_iload hx hb d_Md_digits_114 (lv_at hl 6 rfl) ?_
            refine lv_imul hx hb d_Md_digits_116 ?_
            refine lv_topi (fun x11 ex11 => ?_)
            try have fx11 : x11.toInt = 10 * i_6.toInt := by rw [ex11, ti_mul (by (try rw [show (10 : Int32).toInt = 10 from rfl]); omega) (by (try rw [show (10 : Int32).toInt = 10 from rfl]); omega)]; (try rw [show (10 : Int32).toInt = 10 from rfl]); first | done | rfl | omega
            refine lv_iload hx hb d_Md_digits_117 (lv_at hl 0 rfl) ?_
            refine lv_iadd hx hb d_Md_digits_119 ?_
            refine lv_topi (fun x12 ex12 => ?_)
            try have fx12 : x12.toInt = x11.toInt + r6.toInt := by rw [ex12, ti_add (by omega) (by omega)]; first | done | rfl
            refine lv_bipush (v := 48) hx hb d_Md_digits_120 (by decide) ?_
            refine lv_isub hx hb d_Md_digits_122 ?_
            refine lv_topi (fun x13 ex13 => ?_)
            try have fx13 : x13.toInt = x12.toInt - 48 := by rw [ex13, ti_sub (by (try rw [show (48 : Int32).toInt = 48 from rfl]); omega) (by (try rw [show (48 : Int32).toInt = 48 from rfl]); omega)]; (try rw [show (48 : Int32).toInt = 48 from rfl]); first | done | rfl | omega
            refine lv_istore hx hb d_Md_digits_123 hl (by decide) rfl (fun ls hl => ?_)
            have hl : lv_has ls 9 [(6, .int x13), (8, .int r6), (0, .ref (ad 0)), (1, .int (nI v)), (2, .int w1), (3, .int i_3), (4, .int i_4), (7, .int (nI k7))] := hl
            refine lv_iinc (k := 7) (v := nI (k7 + 1)) hx hb d_Md_digits_125 hl rfl (nI_add k7 1) (by decide) rfl (fun ls hl => ?_)
            have hl : lv_has ls 9 [(7, .int (nI (k7 + 1))), (6, .int x13), (8, .int r6), (0, .ref (ad 0)), (1, .int (nI v)), (2, .int w1), (3, .int i_3), (4, .int i_4)] := hl
            refine lv_goto hx hb d_Md_digits_128 rfl ?_
            exact ih80 (20 - (k7 + 1)) (by omega) i_3 i_4 x13 (k7 + 1) Mc80 _ _ ls rfl (show i_3.toInt ≤ 20 from by first | omega | assumption | exact Or.inl rfl | exact Or.inr rfl | rfl | decide) (show (k7 + 1) ≤ 20 from by first | omega | assumption | exact Or.inl rfl | exact Or.inr rfl | rfl | decide) hP hI hF hS (lv_sub hl [3, 4, 5, 6, 7, 1, 0] rfl)
          · have g10 : ¬ (r6.toInt ≤ 57) := fun q => h10 (Int32.le_iff_toInt_le.mpr q)
            have u10 := ti_hi r6
            refine lv_iconst (v := 0) hx hb d_Md_digits_110 (by decide) ?_
            exact W.zret (v := 0) hx hb hr (rfl) (fun t ht hW => ⟨⟨0, Mc80, rfl, ⟨hI, hF, Or.inl rfl⟩, by unfold ux_E; rw [ht]; exact hP⟩, hS.F ht⟩) hS.2.2 d_Md_digits_111
  refine lv_iload_n hx hb d_Md_digits_0 rfl (lv_at hl 1 rfl) ?_
  refine lv_if_ge hx hb d_Md_digits_1 rfl (fun h14 => ?_) (fun h14 => ?_)
  · have g14 : 0 ≤ ((v : Nat) : Int) := by have q := Int32.le_iff_toInt_le.mp h14; rw [nI_toInt (n := v) (by omega)] at q; exact q
    refine lv_aload_n hx hb d_Md_digits_12 rfl (lv_at hl 0 rfl) ?_
    refine ux_get (C := R_Md) (T := F_Md) (N := 50) hx hb hT in_Md hown hK hP (by decide) rfl rfl 3 (by decide) (hT _ fl_Md_13) rfl d_Md_digits_13 ?_
    refine lv_iload_n hx hb d_Md_digits_16 rfl (lv_at hl 1 rfl) ?_
    refine ux_iald hx hb hK hP (by decide) rfl (vp_in_nI (show v < 208 by omega) (by decide)) d_Md_digits_17 ?_
    rw [nI_clamp (n := v) (by omega)]
    have b15 : (-1 : Int) ≤ (M 2 v).toInt ∧ (M 2 v).toInt ≤ 20 := hI.1 2 v
    refine lv_istore_n hx hb d_Md_digits_18 rfl hl (by decide) rfl (fun ls hl => ?_)
    have hl : lv_has ls 9 [(3, .int (M 2 v)), (0, .ref (ad 0)), (1, .int (nI v)), (2, .int w1)] := hl
    refine lv_iload_n hx hb d_Md_digits_19 rfl (lv_at hl 0 rfl) ?_
    refine lv_if_le hx hb d_Md_digits_20 rfl (fun h16 => ?_) (fun h16 => ?_)
    · have g16 : (M 2 v).toInt ≤ 0 := Int32.le_iff_toInt_le.mp h16
      have w16 := ti_lo (M 2 v)
      refine lv_iconst (v := 0) hx hb d_Md_digits_39 (by decide) ?_
      refine lv_istore hx hb d_Md_digits_40 hl (by decide) rfl (fun ls hl => ?_)
      have hl : lv_has ls 9 [(4, .int 0), (3, .int (M 2 v)), (0, .ref (ad 0)), (1, .int (nI v)), (2, .int w1)] := hl
      refine lv_iload hx hb d_Md_digits_42 (lv_at hl 0 rfl) ?_
      refine lv_if_eq hx hb d_Md_digits_44 rfl (fun _ => ?_) (fun hz => absurd (by decide) hz)
      refine lv_iconst (v := 0) hx hb d_Md_digits_51 (by decide) ?_
      refine lv_istore hx hb d_Md_digits_52 hl (by decide) rfl (fun ls hl => ?_)
      have hl : lv_has ls 9 [(5, .int 0), (4, .int 0), (3, .int (M 2 v)), (0, .ref (ad 0)), (1, .int (nI v)), (2, .int w1)] := hl
      refine lv_iload_n hx hb d_Md_digits_54 rfl (lv_at hl 2 rfl) ?_
      refine lv_iload hx hb d_Md_digits_55 (lv_at hl 0 rfl) ?_
      refine lv_isub hx hb d_Md_digits_57 ?_
      refine lv_topi (fun x17 ex17 => ?_)
      try have fx17 : x17.toInt = (M 2 v).toInt - 0 := by rw [ex17, ti_sub (by (try rw [show (0 : Int32).toInt = 0 from rfl]); omega) (by (try rw [show (0 : Int32).toInt = 0 from rfl]); omega)]; (try rw [show (0 : Int32).toInt = 0 from rfl]); first | done | rfl | omega
      refine lv_iconst (v := 1) hx hb d_Md_digits_58 (by decide) ?_
      refine lv_icmp_lt hx hb d_Md_digits_59 rfl (fun h18 => ?_) (fun h18 => ?_)
      · have g18 : x17.toInt < 1 := Int32.lt_iff_toInt_lt.mp h18
        have w18 := ti_lo x17
        refine lv_iconst (v := 0) hx hb d_Md_digits_71 (by decide) ?_
        exact W.zret (v := 0) hx hb hr (rfl) (fun t ht hW => ⟨⟨0, M, rfl, ⟨hI, hF, Or.inl rfl⟩, by unfold ux_E; rw [ht]; exact hP⟩, hS.F ht⟩) hS.2.2 d_Md_digits_72
      · have g18 : ¬ (x17.toInt < 1) := fun q => h18 (Int32.lt_iff_toInt_lt.mpr q)
        have u18 := ti_hi x17
        refine lv_iload_n hx hb d_Md_digits_62 rfl (lv_at hl 2 rfl) ?_
        refine lv_iload hx hb d_Md_digits_63 (lv_at hl 0 rfl) ?_
        refine lv_isub hx hb d_Md_digits_65 ?_
        refine lv_topi (fun x19 ex19 => ?_)
        try have fx19 : x19.toInt = (M 2 v).toInt - 0 := by rw [ex19, ti_sub (by (try rw [show (0 : Int32).toInt = 0 from rfl]); omega) (by (try rw [show (0 : Int32).toInt = 0 from rfl]); omega)]; (try rw [show (0 : Int32).toInt = 0 from rfl]); first | done | rfl | omega
        refine lv_bipush (v := 10) hx hb d_Md_digits_66 (by decide) ?_
        refine lv_icmp_le hx hb d_Md_digits_68 rfl (fun h20 => ?_) (fun h20 => ?_)
        · have g20 : x19.toInt ≤ 10 := Int32.le_iff_toInt_le.mp h20
          have w20 := ti_lo x19
          refine lv_iconst (v := 0) hx hb d_Md_digits_73 (by decide) ?_
          refine lv_istore hx hb d_Md_digits_74 hl (by decide) rfl (fun ls hl => ?_)
          have hl : lv_has ls 9 [(6, .int 0), (5, .int 0), (4, .int 0), (3, .int (M 2 v)), (0, .ref (ad 0)), (1, .int (nI v)), (2, .int w1)] := hl
          refine lv_iload hx hb d_Md_digits_76 (lv_at hl 1 rfl) ?_
          refine lv_istore hx hb d_Md_digits_78 hl (by decide) rfl (fun ls hl => ?_)
          have hl : lv_has ls 9 [(7, .int 0), (6, .int 0), (5, .int 0), (4, .int 0), (3, .int (M 2 v)), (0, .ref (ad 0)), (1, .int (nI v)), (2, .int w1)] := hl
          exact cut80 (20 - 0) (M 2 v) 0 0 0 M _ _ ls rfl (show (M 2 v).toInt ≤ 20 from by first | omega | assumption | exact Or.inl rfl | exact Or.inr rfl | rfl | decide) (show 0 ≤ 20 from by first | omega | assumption | exact Or.inl rfl | exact Or.inr rfl | rfl | decide) hP hI hF hS (lv_sub hl [5, 6, 7, 4, 3, 1, 0] rfl)
        · have g20 : ¬ (x19.toInt ≤ 10) := fun q => h20 (Int32.le_iff_toInt_le.mpr q)
          have u20 := ti_hi x19
          refine lv_iconst (v := 0) hx hb d_Md_digits_71 (by decide) ?_
          exact W.zret (v := 0) hx hb hr (rfl) (fun t ht hW => ⟨⟨0, M, rfl, ⟨hI, hF, Or.inl rfl⟩, by unfold ux_E; rw [ht]; exact hP⟩, hS.F ht⟩) hS.2.2 d_Md_digits_72
    · have g16 : ¬ ((M 2 v).toInt ≤ 0) := fun q => h16 (Int32.le_iff_toInt_le.mpr q)
      have u16 := ti_hi (M 2 v)
      refine lv_aload_n hx hb d_Md_digits_23 rfl (lv_at hl 1 rfl) ?_
      refine lv_iload_n hx hb d_Md_digits_24 rfl (lv_at hl 2 rfl) ?_
      refine lv_iload_n hx hb d_Md_digits_25 rfl (lv_at hl 3 rfl) ?_
      refine lv_iconst (v := 0) hx hb d_Md_digits_26 (by decide) ?_
      refine ux_calli (va_runV ⟨hx, hb, hml, hown, hts⟩ (s_Md_digitAt_v l D ad cA A TB hA hB  M hI v 0 w1 (by omega) (by omega)) (cwV 3 hts (tb_goodV ml_Md_312 im_Md_digitAt se_Md_digitAt ii_Md kt_Md_digitAt) rfl rfl rfl (by decide +kernel) ⟨Nat.le_of_ble_eq_true rfl, Nat.le_of_ble_eq_true rfl⟩) (ux_preV (by decide) rfl rfl hP hK hi hN) rfl rfl hl.1 rfl (lv_room (Nat.le_of_ble_eq_true rfl)) d_Md_digits_27 ⟨Nat.zero_le _, Nat.zero_le _⟩) hS (fun r21 M22 H locs q23 hP hS => ?_)
      obtain ⟨hI, fq23, q23p⟩ := q23
      rw [tN_eq fq23] at hP hI
      refine lv_bipush (v := 45) hx hb d_Md_digits_30 (by decide) ?_
      refine lv_icmp_ne hx hb d_Md_digits_32 rfl (fun h24 => ?_) (fun h24 => ?_)
      · have g24 : ¬ (r21.toInt = 45) := fun q => h24 (Int32.toInt_inj.mp q)
        refine lv_iconst (v := 0) hx hb d_Md_digits_39 (by decide) ?_
        refine lv_istore hx hb d_Md_digits_40 hl (by decide) rfl (fun ls hl => ?_)
        have hl : lv_has ls 9 [(4, .int 0), (3, .int (M 2 v)), (0, .ref (ad 0)), (1, .int (nI v)), (2, .int w1)] := hl
        refine lv_iload hx hb d_Md_digits_42 (lv_at hl 0 rfl) ?_
        refine lv_if_eq hx hb d_Md_digits_44 rfl (fun _ => ?_) (fun hz => absurd (by decide) hz)
        refine lv_iconst (v := 0) hx hb d_Md_digits_51 (by decide) ?_
        refine lv_istore hx hb d_Md_digits_52 hl (by decide) rfl (fun ls hl => ?_)
        have hl : lv_has ls 9 [(5, .int 0), (4, .int 0), (3, .int (M 2 v)), (0, .ref (ad 0)), (1, .int (nI v)), (2, .int w1)] := hl
        refine lv_iload_n hx hb d_Md_digits_54 rfl (lv_at hl 2 rfl) ?_
        refine lv_iload hx hb d_Md_digits_55 (lv_at hl 0 rfl) ?_
        refine lv_isub hx hb d_Md_digits_57 ?_
        refine lv_topi (fun x25 ex25 => ?_)
        try have fx25 : x25.toInt = (M 2 v).toInt - 0 := by rw [ex25, ti_sub (by (try rw [show (0 : Int32).toInt = 0 from rfl]); omega) (by (try rw [show (0 : Int32).toInt = 0 from rfl]); omega)]; (try rw [show (0 : Int32).toInt = 0 from rfl]); first | done | rfl | omega
        refine lv_iconst (v := 1) hx hb d_Md_digits_58 (by decide) ?_
        refine lv_icmp_lt hx hb d_Md_digits_59 rfl (fun h26 => ?_) (fun h26 => ?_)
        · have g26 : x25.toInt < 1 := Int32.lt_iff_toInt_lt.mp h26
          have w26 := ti_lo x25
          refine lv_iconst (v := 0) hx hb d_Md_digits_71 (by decide) ?_
          exact W.zret (v := 0) hx hb hr (rfl) (fun t ht hW => ⟨⟨0, M, rfl, ⟨hI, hF, Or.inl rfl⟩, by unfold ux_E; rw [ht]; exact hP⟩, hS.F ht⟩) hS.2.2 d_Md_digits_72
        · have g26 : ¬ (x25.toInt < 1) := fun q => h26 (Int32.lt_iff_toInt_lt.mpr q)
          have u26 := ti_hi x25
          refine lv_iload_n hx hb d_Md_digits_62 rfl (lv_at hl 2 rfl) ?_
          refine lv_iload hx hb d_Md_digits_63 (lv_at hl 0 rfl) ?_
          refine lv_isub hx hb d_Md_digits_65 ?_
          refine lv_topi (fun x27 ex27 => ?_)
          try have fx27 : x27.toInt = (M 2 v).toInt - 0 := by rw [ex27, ti_sub (by (try rw [show (0 : Int32).toInt = 0 from rfl]); omega) (by (try rw [show (0 : Int32).toInt = 0 from rfl]); omega)]; (try rw [show (0 : Int32).toInt = 0 from rfl]); first | done | rfl | omega
          refine lv_bipush (v := 10) hx hb d_Md_digits_66 (by decide) ?_
          refine lv_icmp_le hx hb d_Md_digits_68 rfl (fun h28 => ?_) (fun h28 => ?_)
          · have g28 : x27.toInt ≤ 10 := Int32.le_iff_toInt_le.mp h28
            have w28 := ti_lo x27
            refine lv_iconst (v := 0) hx hb d_Md_digits_73 (by decide) ?_
            refine lv_istore hx hb d_Md_digits_74 hl (by decide) rfl (fun ls hl => ?_)
            have hl : lv_has ls 9 [(6, .int 0), (5, .int 0), (4, .int 0), (3, .int (M 2 v)), (0, .ref (ad 0)), (1, .int (nI v)), (2, .int w1)] := hl
            refine lv_iload hx hb d_Md_digits_76 (lv_at hl 1 rfl) ?_
            refine lv_istore hx hb d_Md_digits_78 hl (by decide) rfl (fun ls hl => ?_)
            have hl : lv_has ls 9 [(7, .int 0), (6, .int 0), (5, .int 0), (4, .int 0), (3, .int (M 2 v)), (0, .ref (ad 0)), (1, .int (nI v)), (2, .int w1)] := hl
            exact cut80 (20 - 0) (M 2 v) 0 0 0 M _ _ ls rfl (show (M 2 v).toInt ≤ 20 from by first | omega | assumption | exact Or.inl rfl | exact Or.inr rfl | rfl | decide) (show 0 ≤ 20 from by first | omega | assumption | exact Or.inl rfl | exact Or.inr rfl | rfl | decide) hP hI hF hS (lv_sub hl [5, 6, 7, 4, 3, 1, 0] rfl)
          · have g28 : ¬ (x27.toInt ≤ 10) := fun q => h28 (Int32.le_iff_toInt_le.mpr q)
            have u28 := ti_hi x27
            refine lv_iconst (v := 0) hx hb d_Md_digits_71 (by decide) ?_
            exact W.zret (v := 0) hx hb hr (rfl) (fun t ht hW => ⟨⟨0, M, rfl, ⟨hI, hF, Or.inl rfl⟩, by unfold ux_E; rw [ht]; exact hP⟩, hS.F ht⟩) hS.2.2 d_Md_digits_72
      · have g24 : r21.toInt = 45 := congrArg Int32.toInt h24
        refine lv_iconst (v := 1) hx hb d_Md_digits_35 (by decide) ?_
        refine lv_goto hx hb d_Md_digits_36 rfl ?_
        refine lv_istore hx hb d_Md_digits_40 hl (by decide) rfl (fun ls hl => ?_)
        have hl : lv_has ls 9 [(4, .int 1), (3, .int (M 2 v)), (0, .ref (ad 0)), (1, .int (nI v)), (2, .int w1)] := hl
        refine lv_iload hx hb d_Md_digits_42 (lv_at hl 0 rfl) ?_
        refine lv_if_eq hx hb d_Md_digits_44 rfl (fun hz => absurd hz (by decide)) (fun _ => ?_)
        refine lv_iconst (v := 1) hx hb d_Md_digits_47 (by decide) ?_
        refine lv_goto hx hb d_Md_digits_48 rfl ?_
        refine lv_istore hx hb d_Md_digits_52 hl (by decide) rfl (fun ls hl => ?_)
        have hl : lv_has ls 9 [(5, .int 1), (4, .int 1), (3, .int (M 2 v)), (0, .ref (ad 0)), (1, .int (nI v)), (2, .int w1)] := hl
        refine lv_iload_n hx hb d_Md_digits_54 rfl (lv_at hl 2 rfl) ?_
        refine lv_iload hx hb d_Md_digits_55 (lv_at hl 0 rfl) ?_
        refine lv_isub hx hb d_Md_digits_57 ?_
        refine lv_topi (fun x29 ex29 => ?_)
        try have fx29 : x29.toInt = (M 2 v).toInt - 1 := by rw [ex29, ti_sub (by (try rw [show (1 : Int32).toInt = 1 from rfl]); omega) (by (try rw [show (1 : Int32).toInt = 1 from rfl]); omega)]; (try rw [show (1 : Int32).toInt = 1 from rfl]); first | done | rfl | omega
        refine lv_iconst (v := 1) hx hb d_Md_digits_58 (by decide) ?_
        refine lv_icmp_lt hx hb d_Md_digits_59 rfl (fun h30 => ?_) (fun h30 => ?_)
        · have g30 : x29.toInt < 1 := Int32.lt_iff_toInt_lt.mp h30
          have w30 := ti_lo x29
          refine lv_iconst (v := 0) hx hb d_Md_digits_71 (by decide) ?_
          exact W.zret (v := 0) hx hb hr (rfl) (fun t ht hW => ⟨⟨0, M, rfl, ⟨hI, hF, Or.inl rfl⟩, by unfold ux_E; rw [ht]; exact hP⟩, hS.F ht⟩) hS.2.2 d_Md_digits_72
        · have g30 : ¬ (x29.toInt < 1) := fun q => h30 (Int32.lt_iff_toInt_lt.mpr q)
          have u30 := ti_hi x29
          refine lv_iload_n hx hb d_Md_digits_62 rfl (lv_at hl 2 rfl) ?_
          refine lv_iload hx hb d_Md_digits_63 (lv_at hl 0 rfl) ?_
          refine lv_isub hx hb d_Md_digits_65 ?_
          refine lv_topi (fun x31 ex31 => ?_)
          try have fx31 : x31.toInt = (M 2 v).toInt - 1 := by rw [ex31, ti_sub (by (try rw [show (1 : Int32).toInt = 1 from rfl]); omega) (by (try rw [show (1 : Int32).toInt = 1 from rfl]); omega)]; (try rw [show (1 : Int32).toInt = 1 from rfl]); first | done | rfl | omega
          refine lv_bipush (v := 10) hx hb d_Md_digits_66 (by decide) ?_
          refine lv_icmp_le hx hb d_Md_digits_68 rfl (fun h32 => ?_) (fun h32 => ?_)
          · have g32 : x31.toInt ≤ 10 := Int32.le_iff_toInt_le.mp h32
            have w32 := ti_lo x31
            refine lv_iconst (v := 0) hx hb d_Md_digits_73 (by decide) ?_
            refine lv_istore hx hb d_Md_digits_74 hl (by decide) rfl (fun ls hl => ?_)
            have hl : lv_has ls 9 [(6, .int 0), (5, .int 1), (4, .int 1), (3, .int (M 2 v)), (0, .ref (ad 0)), (1, .int (nI v)), (2, .int w1)] := hl
            refine lv_iload hx hb d_Md_digits_76 (lv_at hl 1 rfl) ?_
            refine lv_istore hx hb d_Md_digits_78 hl (by decide) rfl (fun ls hl => ?_)
            have hl : lv_has ls 9 [(7, .int 1), (6, .int 0), (5, .int 1), (4, .int 1), (3, .int (M 2 v)), (0, .ref (ad 0)), (1, .int (nI v)), (2, .int w1)] := hl
            exact cut80 (20 - 1) (M 2 v) 1 0 1 M _ _ ls rfl (show (M 2 v).toInt ≤ 20 from by first | omega | assumption | exact Or.inl rfl | exact Or.inr rfl | rfl | decide) (show 1 ≤ 20 from by first | omega | assumption | exact Or.inl rfl | exact Or.inr rfl | rfl | decide) hP hI hF hS (lv_sub hl [5, 6, 7, 4, 3, 1, 0] rfl)
          · have g32 : ¬ (x31.toInt ≤ 10) := fun q => h32 (Int32.le_iff_toInt_le.mpr q)
            have u32 := ti_hi x31
            refine lv_iconst (v := 0) hx hb d_Md_digits_71 (by decide) ?_
            exact W.zret (v := 0) hx hb hr (rfl) (fun t ht hW => ⟨⟨0, M, rfl, ⟨hI, hF, Or.inl rfl⟩, by unfold ux_E; rw [ht]; exact hP⟩, hS.F ht⟩) hS.2.2 d_Md_digits_72
  · have g14 : ¬ (0 ≤ ((v : Nat) : Int)) := fun q => h14 (Int32.le_iff_toInt_le.mpr (by rw [nI_toInt (n := v) (by omega)]; exact q))
    exfalso; omega
