/-! The reference, safe: results and variables; written by wip/gen/ref.py -/
def mSt (a _b : Nat) : Prop := a = 2 ∨ a = 3
def mNo (a b : Nat) : Prop := (a = 0 ∧ b = 48) ∨ a = 32
def mSp (a b : Nat) : Prop := (a = 0 ∧ (b = 25 ∨ b = 23 ∨ b = 24 ∨ b = 28)) ∨ a = 21

set_option maxHeartbeats 1600000 in
set_option maxRecDepth 100000 in
theorem s_Md_store (l : Launch) (D : va_G) (ad : Nat → Nat) (cA : Nat → ClassId) (A TB : Nat) (hA : A ≤ 100000000) (hB : TB ≤ 2000000000) (M : ux_M) (hI : IvM A TB M) (v : Nat) (hv : v ≤ 207) : Met l y_Md_store w_Md_store ({ frames := 0, cells := 0, slots := 0, locals := 0 }) (va_Pc [.ref (ad 0), .int (nI v)] (ux_B D shM KM ad cA M)) (va_Qv (fun M1 => IvM A TB M1 ∧ (∀ a b, ¬ mSt a b → M1 a b = M a b) ∧ (True)) (ux_E D shM KM ad cA) (ux_A KM ad)) 0 0 (ux_A KM ad) := by
  refine Met.ofW (cc := b_Md_store) (maxL := 3) (ret := none) (by decide) rfl ?_
  intro p e s m args below meth c s₁ B hml hv
  obtain ⟨rfl, hP, hK, hi, hN⟩ := hv
  have hx := B.exec
  have hb := B.bytes
  have hr := B.returns
  have hts := atoms_spec (ws := w_Md_store) B.pre
  have hown : s.vm.findClass R_Md = some m.cls := findClass_of_methodNamed B.named
  have hlocks := B.notSynchronized
  have hT : ∀ w ∈ tb, w.before _ s = true := fun w h => hts w (List.mem_cons_of_mem _ h)
  have hS : va_S (ux_A KM ad) s.heap s.heap [] := va_S.rf
  have hl := lv_entry ([.ref (ad 0), .int (nI v)]) (n := 3) (Nat.le_of_ble_eq_true rfl)
  rw [lg_entry_eq]
  generalize (lg_sl ([.ref (ad 0), .int (nI v)]) ++ List.replicate (3 - (lg_sl ([.ref (ad 0), .int (nI v)])).length) Slot.unset).toArray = ls at hl ⊢
  have hl : lv_has ls 3 [(0, .ref (ad 0)), (1, .int (nI v))] := hl
  have hF : ∀ a b, ¬ mSt a b → M a b = M a b := fun _ _ _ => rfl
  have cut12 : ∀ (nn : Nat) (k2 : Nat) (Mc12 : ux_M) (H : Heap) (locs : List Loc) (ls : Array Slot), 20 - k2 = nn → (k2 ≤ 20) → va_P D classes (ux_w shM KM ad cA Mc12) H → IvM A TB Mc12 → (∀ a b, ¬ mSt a b → Mc12 a b = M a b) → va_S (ux_A KM ad) s.heap H locs → lv_has ls 3 [(0, .ref (ad 0)), (1, .int (nI v)), (2, .int (nI k2))] → W p l e (headSpec w_Md_store ({ frames := 0, cells := 0, slots := 0, locals := 0 })).room s m (([.ref (ad 0), .int (nI v)] : List Value).toArray) below meth c H locs 0 0 (MQ below (va_Qv (fun M1 => IvM A TB M1 ∧ (∀ a b, ¬ mSt a b → M1 a b = M a b) ∧ (True)) (ux_E D shM KM ad cA) (ux_A KM ad)) (([.ref (ad 0), .int (nI v)] : List Value).toArray) s 0 0 (ux_A KM ad)) (F0 m 12 ls []) := by
    intro nn
    induction nn using Nat.strongRecOn with
    | ind nn ih12 =>
      intro k2 Mc12 H locs ls hn c12_0 hP hI hF hS hl
      refine lv_iload_n hx hb d_Md_store_12 rfl (lv_at hl 2 rfl) ?_
      refine lv_aload_n hx hb d_Md_store_13 rfl (lv_at hl 0 rfl) ?_
      refine ux_get (C := R_Md) (T := F_Md) (N := 50) hx hb hT in_Md hown hK hP (by decide) rfl rfl 25 (by decide) (hT _ fl_Md_135) rfl d_Md_store_14 ?_
      refine lv_topi (fun z2 hz2 => ?_)
      obtain ⟨c1, hc1, ec1⟩ := nat_of (x := Mc12 0 25) (n := 20) (hI.1 0 25).1 (hI.1 0 25).2
      rw [ec1] at hz2
      rw [hz2]
      have tc1 : (Mc12 0 25).toInt = (c1 : Int) := by rw [ec1]; exact nI_toInt (by omega)
      refine lv_icmp_ge hx hb d_Md_store_17 rfl (fun h3 => ?_) (fun h3 => ?_)
      · have g3 : ((c1 : Nat) : Int) ≤ ((k2 : Nat) : Int) := by have q := Int32.le_iff_toInt_le.mp h3; rw [nI_toInt (n := c1) (by omega), nI_toInt (n := k2) (by omega)] at q; exact q
        exact W.vret hx hb hr (fun t ht hW => ⟨⟨Mc12, rfl, ⟨hI, hF, trivial⟩, by unfold ux_E; rw [ht]; exact hP⟩, hS.F ht⟩) hS.2.2 d_Md_store_43
      · have g3 : ¬ (((c1 : Nat) : Int) ≤ ((k2 : Nat) : Int)) := fun q => h3 (Int32.le_iff_toInt_le.mpr (by rw [nI_toInt (n := c1) (by omega), nI_toInt (n := k2) (by omega)]; exact q))
        refine lv_aload_n hx hb d_Md_store_20 rfl (lv_at hl 0 rfl) ?_
        refine ux_get (C := R_Md) (T := F_Md) (N := 50) hx hb hT in_Md hown hK hP (by decide) rfl rfl 4 (by decide) (hT _ fl_Md_17) rfl d_Md_store_21 ?_
        refine lv_bipush (v := 20) hx hb d_Md_store_24 (by decide) ?_
        refine lv_iload_n hx hb d_Md_store_26 rfl (lv_at hl 1 rfl) ?_
        refine lv_imul hx hb d_Md_store_27 ?_
        refine lv_topi (fun z4 hz4 => ?_)
        rw [show (20 : Int32) * (nI v) = nI (20 * v) from pk_mul 20 v] at hz4
        rw [hz4]
        refine lv_iload_n hx hb d_Md_store_28 rfl (lv_at hl 2 rfl) ?_
        refine lv_iadd hx hb d_Md_store_29 ?_
        refine lv_topi (fun z5 hz5 => ?_)
        rw [show (nI (20 * v)) + (nI k2) = nI ((20 * v) + k2) from nI_add (20 * v) k2] at hz5
        rw [hz5]
        refine lv_aload_n hx hb d_Md_store_30 rfl (lv_at hl 0 rfl) ?_
        refine ux_get (C := R_Md) (T := F_Md) (N := 50) hx hb hT in_Md hown hK hP (by decide) rfl rfl 26 (by decide) (hT _ fl_Md_76) rfl d_Md_store_31 ?_
        refine lv_iload_n hx hb d_Md_store_34 rfl (lv_at hl 2 rfl) ?_
        refine ux_cald hx hb hK hP (by decide) rfl (vp_in_nI (show k2 < 20 by omega) (by decide)) d_Md_store_35 ?_
        rw [nI_clamp (n := k2) (by omega)]
        refine lv_topi (fun z7 hz7 => ?_)
        obtain ⟨c6, hc6, ec6⟩ := nat_of (x := Mc12 21 k2) (n := 65535) (hI.1 21 k2).1 (hI.1 21 k2).2
        rw [ec6] at hz7
        rw [hz7]
        have tc6 : (Mc12 21 k2).toInt = (c6 : Int) := by rw [ec6]; exact nI_toInt (by omega)
        refine ux_cast hx hb hK hi hP hS (by decide) rfl (vp_in_nI (show (20 * v) + k2 < 4160 by omega) (by decide)) d_Md_store_36 (fun H locs hP hS => ?_)
        have b8 := nar_c (nI c6)
        rw [nI_clamp (n := (20 * v) + k2) (by omega)] at hP
        have hI := IvM_wr (k := 3) (j := (20 * v) + k2) (v := vp_nar .char (nI c6)) hI (show (0 : Int) ≤ (vp_nar .char (nI c6) : Int32).toInt from (by omega)) (show (vp_nar .char (nI c6) : Int32).toInt ≤ (65535 : Int) from (by omega)) (by unfold okW; omega)
        have hF := fr_wr (k := 3) (j := (20 * v) + k2) (v := vp_nar .char (nI c6)) hF (by unfold mSt; omega)
        generalize eM9 : ux_wr Mc12 3 ((20 * v) + k2) (vp_nar .char (nI c6)) = M9 at hP hI hF
        have tM9 : (M9 3 ((20 * v) + k2)).toInt = (vp_nar .char (nI c6)).toInt := by rw [wr_at eM9]
        refine lv_iinc (k := 2) (v := nI (k2 + 1)) hx hb d_Md_store_37 hl rfl (nI_add k2 1) (by decide) rfl (fun ls hl => ?_)
        have hl : lv_has ls 3 [(2, .int (nI (k2 + 1))), (0, .ref (ad 0)), (1, .int (nI v))] := hl
        refine lv_goto hx hb d_Md_store_40 rfl ?_
        exact ih12 (20 - (k2 + 1)) (by omega) (k2 + 1) M9 _ _ ls rfl (show (k2 + 1) ≤ 20 from by first | omega | assumption | exact Or.inl rfl | exact Or.inr rfl | rfl | decide) hP hI hF hS (lv_sub hl [1, 2, 0] rfl)
  refine lv_aload_n hx hb d_Md_store_0 rfl (lv_at hl 0 rfl) ?_
  refine ux_get (C := R_Md) (T := F_Md) (N := 50) hx hb hT in_Md hown hK hP (by decide) rfl rfl 3 (by decide) (hT _ fl_Md_13) rfl d_Md_store_1 ?_
  refine lv_iload_n hx hb d_Md_store_4 rfl (lv_at hl 1 rfl) ?_
  refine lv_aload_n hx hb d_Md_store_5 rfl (lv_at hl 0 rfl) ?_
  refine ux_get (C := R_Md) (T := F_Md) (N := 50) hx hb hT in_Md hown hK hP (by decide) rfl rfl 25 (by decide) (hT _ fl_Md_135) rfl d_Md_store_6 ?_
  refine lv_topi (fun z11 hz11 => ?_)
  obtain ⟨c10, hc10, ec10⟩ := nat_of (x := M 0 25) (n := 20) (hI.1 0 25).1 (hI.1 0 25).2
  rw [ec10] at hz11
  rw [hz11]
  have tc10 : (M 0 25).toInt = (c10 : Int) := by rw [ec10]; exact nI_toInt (by omega)
  refine ux_iast hx hb hK hi hP hS (by decide) rfl (vp_in_nI (show v < 208 by omega) (by decide)) d_Md_store_9 (fun H locs hP hS => ?_)
  rw [nI_clamp (n := v) (by omega)] at hP
  have hI := IvM_wr (k := 2) (j := v) (v := nI c10) hI (show (-1 : Int) ≤ (nI c10 : Int32).toInt from (by rw [nI_toInt (n := c10) (by omega)]; omega)) (show (nI c10 : Int32).toInt ≤ (20 : Int) from (by rw [nI_toInt (n := c10) (by omega)]; omega)) (by unfold okW; omega)
  have hF := fr_wr (k := 2) (j := v) (v := nI c10) hF (by unfold mSt; omega)
  generalize eM12 : ux_wr M 2 v (nI c10) = M12 at hP hI hF
  have tM12 : (M12 2 v).toInt = ((c10 : Nat) : Int) := by rw [wr_at eM12]; exact nI_toInt (by omega)
  refine lv_iconst (v := 0) hx hb d_Md_store_10 (by decide) ?_
  refine lv_istore_n hx hb d_Md_store_11 rfl hl (by decide) rfl (fun ls hl => ?_)
  have hl : lv_has ls 3 [(2, .int 0), (0, .ref (ad 0)), (1, .int (nI v))] := hl
  exact cut12 (20 - 0) 0 M12 _ _ ls rfl (show 0 ≤ 20 from by first | omega | assumption | exact Or.inl rfl | exact Or.inr rfl | rfl | decide) hP hI hF hS (lv_sub hl [1, 2, 0] rfl)

set_option maxHeartbeats 1600000 in
set_option maxRecDepth 100000 in
theorem s_Md_recall (l : Launch) (D : va_G) (ad : Nat → Nat) (cA : Nat → ClassId) (A TB : Nat) (hA : A ≤ 100000000) (hB : TB ≤ 2000000000) (M : ux_M) (hI : IvM A TB M) (v : Nat) (hv : v ≤ 207) : Met l y_Md_recall w_Md_recall ({ frames := 1, cells := 0, slots := 0, locals := 21 }) (va_Pc [.ref (ad 0), .int (nI v)] (ux_B D shM KM ad cA M)) (va_Qv (fun M1 => IvM A TB M1 ∧ (∀ a b, ¬ mRe a b → M1 a b = M a b) ∧ (True)) (ux_E D shM KM ad cA) (ux_A KM ad)) 0 0 (ux_A KM ad) := by
  refine Met.ofW (cc := b_Md_recall) (maxL := 3) (ret := none) (by decide) rfl ?_
  intro p e s m args below meth c s₁ B hml hv
  obtain ⟨rfl, hP, hK, hi, hN⟩ := hv
  have hx := B.exec
  have hb := B.bytes
  have hr := B.returns
  have hts := atoms_spec (ws := w_Md_recall) B.pre
  have hown : s.vm.findClass R_Md = some m.cls := findClass_of_methodNamed B.named
  have hlocks := B.notSynchronized
  have hT : ∀ w ∈ tb, w.before _ s = true := fun w h => hts w (List.mem_cons_of_mem _ h)
  have hS : va_S (ux_A KM ad) s.heap s.heap [] := va_S.rf
  have hl := lv_entry ([.ref (ad 0), .int (nI v)]) (n := 3) (Nat.le_of_ble_eq_true rfl)
  rw [lg_entry_eq]
  generalize (lg_sl ([.ref (ad 0), .int (nI v)]) ++ List.replicate (3 - (lg_sl ([.ref (ad 0), .int (nI v)])).length) Slot.unset).toArray = ls at hl ⊢
  have hl : lv_has ls 3 [(0, .ref (ad 0)), (1, .int (nI v))] := hl
  have hF : ∀ a b, ¬ mRe a b → M a b = M a b := fun _ _ _ => rfl
  have cut6 : ∀ (nn : Nat) (k2 : Nat) (Mc6 : ux_M) (H : Heap) (locs : List Loc) (ls : Array Slot), 20 - k2 = nn → (k2 ≤ 20) → ((Mc6 0 25).toInt = (k2 : Int)) → va_P D classes (ux_w shM KM ad cA Mc6) H → IvM A TB Mc6 → (∀ a b, ¬ mRe a b → Mc6 a b = M a b) → va_S (ux_A KM ad) s.heap H locs → lv_has ls 3 [(0, .ref (ad 0)), (1, .int (nI v)), (2, .int (nI k2))] → W p l e (headSpec w_Md_recall ({ frames := 1, cells := 0, slots := 0, locals := 21 })).room s m (([.ref (ad 0), .int (nI v)] : List Value).toArray) below meth c H locs 0 0 (MQ below (va_Qv (fun M1 => IvM A TB M1 ∧ (∀ a b, ¬ mRe a b → M1 a b = M a b) ∧ (True)) (ux_E D shM KM ad cA) (ux_A KM ad)) (([.ref (ad 0), .int (nI v)] : List Value).toArray) s 0 0 (ux_A KM ad)) (F0 m 6 ls []) := by
    intro nn
    induction nn using Nat.strongRecOn with
    | ind nn ih6 =>
      intro k2 Mc6 H locs ls hn c6_0 c6_1 hP hI hF hS hl
      refine lv_iload_n hx hb d_Md_recall_6 rfl (lv_at hl 2 rfl) ?_
      refine lv_aload_n hx hb d_Md_recall_7 rfl (lv_at hl 0 rfl) ?_
      refine ux_get (C := R_Md) (T := F_Md) (N := 50) hx hb hT in_Md hown hK hP (by decide) rfl rfl 3 (by decide) (hT _ fl_Md_13) rfl d_Md_recall_8 ?_
      refine lv_iload_n hx hb d_Md_recall_11 rfl (lv_at hl 1 rfl) ?_
      refine ux_iald hx hb hK hP (by decide) rfl (vp_in_nI (show v < 208 by omega) (by decide)) d_Md_recall_12 ?_
      rw [nI_clamp (n := v) (by omega)]
      have b1 : (-1 : Int) ≤ (Mc6 2 v).toInt ∧ (Mc6 2 v).toInt ≤ 20 := hI.1 2 v
      refine lv_icmp_ge hx hb d_Md_recall_13 rfl (fun h2 => ?_) (fun h2 => ?_)
      · have g2 : (Mc6 2 v).toInt ≤ ((k2 : Nat) : Int) := by have q := Int32.le_iff_toInt_le.mp h2; rw [nI_toInt (n := k2) (by omega)] at q; exact q
        have w2 := ti_lo (Mc6 2 v)
        exact W.vret hx hb hr (fun t ht hW => ⟨⟨Mc6, rfl, ⟨hI, hF, trivial⟩, by unfold ux_E; rw [ht]; exact hP⟩, hS.F ht⟩) hS.2.2 d_Md_recall_37
      · have g2 : ¬ ((Mc6 2 v).toInt ≤ ((k2 : Nat) : Int)) := fun q => h2 (Int32.le_iff_toInt_le.mpr (by rw [nI_toInt (n := k2) (by omega)]; exact q))
        have u2 := ti_hi (Mc6 2 v)
        refine lv_aload_n hx hb d_Md_recall_16 rfl (lv_at hl 0 rfl) ?_
        refine lv_aload_n hx hb d_Md_recall_17 rfl (lv_at hl 0 rfl) ?_
        refine ux_get (C := R_Md) (T := F_Md) (N := 50) hx hb hT in_Md hown hK hP (by decide) rfl rfl 4 (by decide) (hT _ fl_Md_17) rfl d_Md_recall_18 ?_
        refine lv_bipush (v := 20) hx hb d_Md_recall_21 (by decide) ?_
        refine lv_iload_n hx hb d_Md_recall_23 rfl (lv_at hl 1 rfl) ?_
        refine lv_imul hx hb d_Md_recall_24 ?_
        refine lv_topi (fun z3 hz3 => ?_)
        rw [show (20 : Int32) * (nI v) = nI (20 * v) from pk_mul 20 v] at hz3
        rw [hz3]
        refine lv_iload_n hx hb d_Md_recall_25 rfl (lv_at hl 2 rfl) ?_
        refine lv_iadd hx hb d_Md_recall_26 ?_
        refine lv_topi (fun z4 hz4 => ?_)
        rw [show (nI (20 * v)) + (nI k2) = nI ((20 * v) + k2) from nI_add (20 * v) k2] at hz4
        rw [hz4]
        refine ux_cald hx hb hK hP (by decide) rfl (vp_in_nI (show (20 * v) + k2 < 4160 by omega) (by decide)) d_Md_recall_27 ?_
        rw [nI_clamp (n := (20 * v) + k2) (by omega)]
        refine lv_topi (fun z6 hz6 => ?_)
        obtain ⟨c5, hc5, ec5⟩ := nat_of (x := Mc6 3 ((20 * v) + k2)) (n := 65535) (hI.1 3 ((20 * v) + k2)).1 (hI.1 3 ((20 * v) + k2)).2
        rw [ec5] at hz6
        rw [hz6]
        have tc5 : (Mc6 3 ((20 * v) + k2)).toInt = (c5 : Int) := by rw [ec5]; exact nI_toInt (by omega)
        refine ux_callv (va_runV ⟨hx, hb, hml, hown, hts⟩ (s_Md_say l D ad cA A TB hA hB  Mc6 hI (nI c5) (by omega)) (cwV 1 hts (tb_goodV ml_Md_143 im_Md_say se_Md_say ii_Md kt_Md_say) rfl rfl rfl (by decide +kernel) ⟨Nat.le_of_ble_eq_true rfl, Nat.le_of_ble_eq_true rfl⟩) (ux_preV (by decide) rfl rfl hP hK hi hN) rfl rfl hl.1 rfl (lv_room (Nat.le_of_ble_eq_true rfl)) d_Md_recall_28 ⟨Nat.zero_le _, Nat.zero_le _⟩) hS (fun M8 H locs q9 hP hS => ?_)
        obtain ⟨hI, fq9, q9p⟩ := q9
        have hF := fr_call hF fq9 (fun a b q => by unfold mRe at q; unfold mRe; omega)
        refine lv_iinc (k := 2) (v := nI (k2 + 1)) hx hb d_Md_recall_31 hl rfl (nI_add k2 1) (by decide) rfl (fun ls hl => ?_)
        have hl : lv_has ls 3 [(2, .int (nI (k2 + 1))), (0, .ref (ad 0)), (1, .int (nI v))] := hl
        refine lv_goto hx hb d_Md_recall_34 rfl ?_
        exact ih6 (20 - (k2 + 1)) (by omega) (k2 + 1) M8 _ _ ls rfl (show (k2 + 1) ≤ 20 from by first | omega | assumption | exact Or.inl rfl | exact Or.inr rfl | rfl | decide) (show (M8 0 25).toInt = ((k2 + 1) : Int) from by first | omega | assumption | exact Or.inl rfl | exact Or.inr rfl | rfl | decide) hP hI hF hS (lv_sub hl [1, 2, 0] rfl)
  refine lv_aload_n hx hb d_Md_recall_0 rfl (lv_at hl 0 rfl) ?_
  refine ux_callv (va_runV ⟨hx, hb, hml, hown, hts⟩ (s_Md_nothing l D ad cA A TB hA hB  M hI ) (cwV 0 hts (tb_goodV ml_Md_138 im_Md_nothing se_Md_nothing ii_Md kt_Md_nothing) rfl rfl rfl (by decide +kernel) ⟨Nat.le_of_ble_eq_true rfl, Nat.le_of_ble_eq_true rfl⟩) (ux_preV (by decide) rfl rfl hP hK hi hN) rfl rfl hl.1 rfl (lv_room (Nat.le_of_ble_eq_true rfl)) d_Md_recall_1 ⟨Nat.zero_le _, Nat.zero_le _⟩) hS (fun M11 H locs q12 hP hS => ?_)
  obtain ⟨hI, fq12, q12p⟩ := q12
  have hF := fr_call hF fq12 (fun a b q => by unfold mRe at q; unfold mRe; omega)
  refine lv_iconst (v := 0) hx hb d_Md_recall_4 (by decide) ?_
  refine lv_istore_n hx hb d_Md_recall_5 rfl hl (by decide) rfl (fun ls hl => ?_)
  have hl : lv_has ls 3 [(2, .int 0), (0, .ref (ad 0)), (1, .int (nI v))] := hl
  exact cut6 (20 - 0) 0 M11 _ _ ls rfl (show 0 ≤ 20 from by first | omega | assumption | exact Or.inl rfl | exact Or.inr rfl | rfl | decide) (show (M11 0 25).toInt = (0 : Int) from by first | omega | assumption | exact Or.inl rfl | exact Or.inr rfl | rfl | decide) hP hI hF hS (lv_sub hl [1, 2, 0] rfl)

set_option maxHeartbeats 1600000 in
set_option maxRecDepth 100000 in
theorem s_Md_take (l : Launch) (D : va_G) (ad : Nat → Nat) (cA : Nat → ClassId) (A TB : Nat) (hA : A ≤ 100000000) (hB : TB ≤ 2000000000) (M : ux_M) (hI : IvM A TB M) (L : Nat) (hL : L ≤ 7) (hlv : M 0 10 = nI L) (w : Nat) (hw : w ≤ 8) (hlen : (M 19 (8 * L + w)).toInt ≤ 20) : Met l y_Md_take w_Md_take ({ frames := 2, cells := 0, slots := 0, locals := 44 }) (va_Pc [.ref (ad 0), .int (nI w)] (ux_B D shM KM ad cA M)) (va_Qv (fun M1 => IvM A TB M1 ∧ (∀ a b, ¬ mRe a b → M1 a b = M a b) ∧ (True)) (ux_E D shM KM ad cA) (ux_A KM ad)) 0 0 (ux_A KM ad) := by
  refine Met.ofW (cc := b_Md_take) (maxL := 4) (ret := none) (by decide) rfl ?_
  intro p e s m args below meth c s₁ B hml hv
  obtain ⟨rfl, hP, hK, hi, hN⟩ := hv
  have hx := B.exec
  have hb := B.bytes
  have hr := B.returns
  have hts := atoms_spec (ws := w_Md_take) B.pre
  have hown : s.vm.findClass R_Md = some m.cls := findClass_of_methodNamed B.named
  have hlocks := B.notSynchronized
  have hT : ∀ w ∈ tb, w.before _ s = true := fun w h => hts w (List.mem_cons_of_mem _ h)
  have hS : va_S (ux_A KM ad) s.heap s.heap [] := va_S.rf
  have hl := lv_entry ([.ref (ad 0), .int (nI w)]) (n := 4) (Nat.le_of_ble_eq_true rfl)
  rw [lg_entry_eq]
  generalize (lg_sl ([.ref (ad 0), .int (nI w)]) ++ List.replicate (4 - (lg_sl ([.ref (ad 0), .int (nI w)])).length) Slot.unset).toArray = ls at hl ⊢
  have hl : lv_has ls 4 [(0, .ref (ad 0)), (1, .int (nI w))] := hl
  have hF : ∀ a b, ¬ mRe a b → M a b = M a b := fun _ _ _ => rfl
  refine lv_aload_n hx hb d_Md_take_0 rfl (lv_at hl 0 rfl) ?_
  refine ux_callv (va_runV ⟨hx, hb, hml, hown, hts⟩ (s_Md_nothing l D ad cA A TB hA hB  M hI ) (cwV 0 hts (tb_goodV ml_Md_138 im_Md_nothing se_Md_nothing ii_Md kt_Md_nothing) rfl rfl rfl (by decide +kernel) ⟨Nat.le_of_ble_eq_true rfl, Nat.le_of_ble_eq_true rfl⟩) (ux_preV (by decide) rfl rfl hP hK hi hN) rfl rfl hl.1 rfl (lv_room (Nat.le_of_ble_eq_true rfl)) d_Md_take_1 ⟨Nat.zero_le _, Nat.zero_le _⟩) hS (fun M2 H locs q3 hP hS => ?_)
  obtain ⟨hI, fq3, q3p⟩ := q3
  have hF := fr_call hF fq3 (fun a b q => by unfold mRe at q; unfold mRe; omega)
  refine lv_aload_n hx hb d_Md_take_4 rfl (lv_at hl 0 rfl) ?_
  refine lv_iload_n hx hb d_Md_take_5 rfl (lv_at hl 1 rfl) ?_
  refine ux_calli (va_runV ⟨hx, hb, hml, hown, hts⟩ (s_Md_sizeOf l D ad cA A TB hA hB  M2 hI L hL ((fq3 _ _ (by unfold mRe; omega)).trans (hlv)) w (by omega)) (cwV 1 hts (tb_goodV ml_Md_159 im_Md_sizeOf se_Md_sizeOf ii_Md kt_Md_sizeOf) rfl rfl rfl (by decide +kernel) ⟨Nat.le_of_ble_eq_true rfl, Nat.le_of_ble_eq_true rfl⟩) (ux_preV (by decide) rfl rfl hP hK hi hN) rfl rfl hl.1 rfl (lv_room (Nat.le_of_ble_eq_true rfl)) d_Md_take_6 ⟨Nat.zero_le _, Nat.zero_le _⟩) hS (fun r4 M5 H locs q6 hP hS => ?_)
  obtain ⟨hI, fq6, q6p⟩ := q6
  rw [tN_eq fq6] at hP hI
  obtain ⟨c7, hc7, ec7⟩ := nat_of (x := M2 19 (8 * L + w)) (n := 200) (hI.1 _ _).1 (hI.1 _ _).2
  rw [ec7] at q6p
  subst q6p
  have tc7 : (M2 19 (8 * L + w)).toInt = (c7 : Int) := by rw [ec7]; exact nI_toInt (by omega)
  refine lv_istore_n hx hb d_Md_take_9 rfl hl (by decide) rfl (fun ls hl => ?_)
  have hl : lv_has ls 4 [(2, .int (nI c7)), (0, .ref (ad 0)), (1, .int (nI w))] := hl
  have cut12 : ∀ (nn : Nat) (k1 k2 : Nat) (Mc12 : ux_M) (H : Heap) (locs : List Loc) (ls : Array Slot), 20 - k2 = nn → (k2 ≤ 20) → (k1 ≤ 20) → ((k1 : Int) ≤ (M 19 (8 * L + w)).toInt) → ((Mc12 0 25).toInt = (k2 : Int)) → va_P D classes (ux_w shM KM ad cA Mc12) H → IvM A TB Mc12 → (∀ a b, ¬ mRe a b → Mc12 a b = M a b) → va_S (ux_A KM ad) s.heap H locs → lv_has ls 4 [(0, .ref (ad 0)), (1, .int (nI w)), (2, .int (nI k1)), (3, .int (nI k2))] → W p l e (headSpec w_Md_take ({ frames := 2, cells := 0, slots := 0, locals := 44 })).room s m (([.ref (ad 0), .int (nI w)] : List Value).toArray) below meth c H locs 0 0 (MQ below (va_Qv (fun M1 => IvM A TB M1 ∧ (∀ a b, ¬ mRe a b → M1 a b = M a b) ∧ (True)) (ux_E D shM KM ad cA) (ux_A KM ad)) (([.ref (ad 0), .int (nI w)] : List Value).toArray) s 0 0 (ux_A KM ad)) (F0 m 12 ls []) := by
    intro nn
    induction nn using Nat.strongRecOn with
    | ind nn ih12 =>
      intro k1 k2 Mc12 H locs ls hn c12_0 c12_1 c12_2 c12_3 hP hI hF hS hl
      refine lv_iload_n hx hb d_Md_take_12 rfl (lv_at hl 3 rfl) ?_
      refine lv_iload_n hx hb d_Md_take_13 rfl (lv_at hl 2 rfl) ?_
      refine lv_icmp_ge hx hb d_Md_take_14 rfl (fun h8 => ?_) (fun h8 => ?_)
      · have g8 : ((k1 : Nat) : Int) ≤ ((k2 : Nat) : Int) := by have q := Int32.le_iff_toInt_le.mp h8; rw [nI_toInt (n := k1) (by omega), nI_toInt (n := k2) (by omega)] at q; exact q
        exact W.vret hx hb hr (fun t ht hW => ⟨⟨Mc12, rfl, ⟨hI, hF, trivial⟩, by unfold ux_E; rw [ht]; exact hP⟩, hS.F ht⟩) hS.2.2 d_Md_take_33
      · have g8 : ¬ (((k1 : Nat) : Int) ≤ ((k2 : Nat) : Int)) := fun q => h8 (Int32.le_iff_toInt_le.mpr (by rw [nI_toInt (n := k1) (by omega), nI_toInt (n := k2) (by omega)]; exact q))
        have hl12 : Mc12 0 10 = nI L := (hF _ _ (by unfold mRe; omega)).trans hlv
        have hn12 : (Mc12 19 (8 * L + w)).toInt = (M 19 (8 * L + w)).toInt := congrArg Int32.toInt (hF _ _ (by unfold mRe; omega))
        refine lv_aload_n hx hb d_Md_take_17 rfl (lv_at hl 0 rfl) ?_
        refine lv_aload_n hx hb d_Md_take_18 rfl (lv_at hl 0 rfl) ?_
        refine lv_iload_n hx hb d_Md_take_19 rfl (lv_at hl 1 rfl) ?_
        refine lv_iload_n hx hb d_Md_take_20 rfl (lv_at hl 3 rfl) ?_
        refine ux_calli (va_runV ⟨hx, hb, hml, hown, hts⟩ (s_Md_charOf l D ad cA A TB hA hB  Mc12 hI L hL ((hF _ _ (by unfold mRe; omega)).trans hlv) w k2 (by omega) (by omega)) (cwV 2 hts (tb_goodV ml_Md_162 im_Md_charOf se_Md_charOf ii_Md kt_Md_charOf) rfl rfl rfl (by decide +kernel) ⟨Nat.le_of_ble_eq_true rfl, Nat.le_of_ble_eq_true rfl⟩) (ux_preV (by decide) rfl rfl hP hK hi hN) rfl rfl hl.1 rfl (lv_room (Nat.le_of_ble_eq_true rfl)) d_Md_take_21 ⟨Nat.zero_le _, Nat.zero_le _⟩) hS (fun r9 M10 H locs q11 hP hS => ?_)
        obtain ⟨hI, fq11, q11p⟩ := q11
        rw [tN_eq fq11] at hP hI
        obtain ⟨c12, hc12, ec12⟩ := nat_of (x := r9) (n := 65535) q11p.1.1 q11p.1.2
        have vc12 := q11p.2
        subst ec12
        have tc12 : (nI c12).toInt = (c12 : Int) := nI_toInt (by omega)
        refine ux_callv (va_runV ⟨hx, hb, hml, hown, hts⟩ (s_Md_say l D ad cA A TB hA hB  Mc12 hI (nI c12) (by omega)) (cwV 1 hts (tb_goodV ml_Md_143 im_Md_say se_Md_say ii_Md kt_Md_say) rfl rfl rfl (by decide +kernel) ⟨Nat.le_of_ble_eq_true rfl, Nat.le_of_ble_eq_true rfl⟩) (ux_preV (by decide) rfl rfl hP hK hi hN) rfl rfl hl.1 rfl (lv_room (Nat.le_of_ble_eq_true rfl)) d_Md_take_24 ⟨Nat.zero_le _, Nat.zero_le _⟩) hS (fun M14 H locs q15 hP hS => ?_)
        obtain ⟨hI, fq15, q15p⟩ := q15
        have hF := fr_call hF fq15 (fun a b q => by unfold mRe at q; unfold mRe; omega)
        refine lv_iinc (k := 3) (v := nI (k2 + 1)) hx hb d_Md_take_27 hl rfl (nI_add k2 1) (by decide) rfl (fun ls hl => ?_)
        have hl : lv_has ls 4 [(3, .int (nI (k2 + 1))), (0, .ref (ad 0)), (1, .int (nI w)), (2, .int (nI k1))] := hl
        refine lv_goto hx hb d_Md_take_30 rfl ?_
        exact ih12 (20 - (k2 + 1)) (by omega) k1 (k2 + 1) M14 _ _ ls rfl (show (k2 + 1) ≤ 20 from by first | omega | assumption | exact Or.inl rfl | exact Or.inr rfl | rfl | decide) (show k1 ≤ 20 from by first | omega | assumption | exact Or.inl rfl | exact Or.inr rfl | rfl | decide) (show (k1 : Int) ≤ (M 19 (8 * L + w)).toInt from by first | omega | assumption | exact Or.inl rfl | exact Or.inr rfl | rfl | decide) (show (M14 0 25).toInt = ((k2 + 1) : Int) from by first | omega | assumption | exact Or.inl rfl | exact Or.inr rfl | rfl | decide) hP hI hF hS (lv_sub hl [1, 2, 3, 0] rfl)
  have k16 := congrArg Int32.toInt (show M2 19 (8 * L + w) = M 19 (8 * L + w) from hF _ _ (by unfold mRe; omega))
  refine lv_iconst (v := 0) hx hb d_Md_take_10 (by decide) ?_
  refine lv_istore_n hx hb d_Md_take_11 rfl hl (by decide) rfl (fun ls hl => ?_)
  have hl : lv_has ls 4 [(3, .int 0), (2, .int (nI c7)), (0, .ref (ad 0)), (1, .int (nI w))] := hl
  exact cut12 (20 - 0) c7 0 M2 _ _ ls rfl (show 0 ≤ 20 from by first | omega | assumption | exact Or.inl rfl | exact Or.inr rfl | rfl | decide) (show c7 ≤ 20 from by first | omega | assumption | exact Or.inl rfl | exact Or.inr rfl | rfl | decide) (show (c7 : Int) ≤ (M 19 (8 * L + w)).toInt from by first | omega | assumption | exact Or.inl rfl | exact Or.inr rfl | rfl | decide) (show (M2 0 25).toInt = (0 : Int) from by first | omega | assumption | exact Or.inl rfl | exact Or.inr rfl | rfl | decide) hP hI hF hS (lv_sub hl [2, 3, 1, 0] rfl)
