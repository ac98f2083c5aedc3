/-! The reference, safe: words, letters; written by wip/gen/ref.py -/
def chv (M : ux_M) (i k : Nat) : Int32 := if M 17 i = 0 then M 20 (20 * i + k) else M 1 ((M 18 i).toNatClampNeg + k)

set_option maxHeartbeats 1600000 in
set_option maxRecDepth 100000 in
theorem s_Md_sizeOf (l : Launch) (D : va_G) (ad : Nat → Nat) (cA : Nat → ClassId) (A TB : Nat) (hA : A ≤ 100000000) (hB : TB ≤ 2000000000) (M : ux_M) (hI : IvM A TB M) (L : Nat) (hL : L ≤ 7) (hlv : M 0 10 = nI L) (w : Nat) (hw : w ≤ 8) : Met l y_Md_sizeOf w_Md_sizeOf ({ frames := 1, cells := 0, slots := 0, locals := 21 }) (va_Pc [.ref (ad 0), .int (nI w)] (ux_B D shM KM ad cA M)) (va_Qi (fun r M1 => IvM A TB M1 ∧ (∀ a b, ¬ tN a b → M1 a b = M a b) ∧ (r = M 19 (8 * L + w))) (ux_E D shM KM ad cA) (ux_A KM ad)) 0 0 (ux_A KM ad) := by
  refine Met.ofW (cc := b_Md_sizeOf) (maxL := 2) (ret := (some .int)) (by decide) rfl ?_
  intro p e s m args below meth c s₁ B hml hv
  obtain ⟨rfl, hP, hK, hi, hN⟩ := hv
  have hx := B.exec
  have hb := B.bytes
  have hr := B.returns
  have hts := atoms_spec (ws := w_Md_sizeOf) B.pre
  have hown : s.vm.findClass R_Md = some m.cls := findClass_of_methodNamed B.named
  have hlocks := B.notSynchronized
  have hT : ∀ w ∈ tb, w.before _ s = true := fun w h => hts w (List.mem_cons_of_mem _ h)
  have hS : va_S (ux_A KM ad) s.heap s.heap [] := va_S.rf
  have hl := lv_entry ([.ref (ad 0), .int (nI w)]) (n := 2) (Nat.le_of_ble_eq_true rfl)
  rw [lg_entry_eq]
  generalize (lg_sl ([.ref (ad 0), .int (nI w)]) ++ List.replicate (2 - (lg_sl ([.ref (ad 0), .int (nI w)])).length) Slot.unset).toArray = ls at hl ⊢
  have hl : lv_has ls 2 [(0, .ref (ad 0)), (1, .int (nI w))] := hl
  have hF : ∀ a b, ¬ tN a b → M a b = M a b := fun _ _ _ => rfl
  refine lv_aload_n hx hb d_Md_sizeOf_0 rfl (lv_at hl 0 rfl) ?_
  refine ux_get (C := R_Md) (T := F_Md) (N := 50) hx hb hT in_Md hown hK hP (by decide) rfl rfl 21 (by decide) (hT _ fl_Md_70) rfl d_Md_sizeOf_1 ?_
  refine lv_aload_n hx hb d_Md_sizeOf_4 rfl (lv_at hl 0 rfl) ?_
  refine lv_iload_n hx hb d_Md_sizeOf_5 rfl (lv_at hl 1 rfl) ?_
  refine ux_calli (va_runV ⟨hx, hb, hml, hown, hts⟩ (s_Md_word l D ad cA A TB hA hB  M hI L hL (hlv) w) (cwV 1 hts (tb_goodV ml_Md_155 im_Md_word se_Md_word ii_Md kt_Md_word) rfl rfl rfl (by decide +kernel) ⟨Nat.le_of_ble_eq_true rfl, Nat.le_of_ble_eq_true rfl⟩) (ux_preV (by decide) rfl rfl hP hK hi hN) rfl rfl hl.1 rfl (lv_room (Nat.le_of_ble_eq_true rfl)) d_Md_sizeOf_6 ⟨Nat.zero_le _, Nat.zero_le _⟩) hS (fun r1 M2 H locs q3 hP hS => ?_)
  obtain ⟨hI, fq3, q3p⟩ := q3
  rw [tN_eq fq3] at hP hI
  subst q3p
  refine ux_iald hx hb hK hP (by decide) rfl (vp_in_nI (show 8 * L + w < 65 by omega) (by decide)) d_Md_sizeOf_9 ?_
  rw [nI_clamp (n := 8 * L + w) (by omega)]
  refine lv_topi (fun z5 hz5 => ?_)
  obtain ⟨c4, hc4, ec4⟩ := nat_of (x := M 19 (8 * L + w)) (n := 200) (hI.1 19 (8 * L + w)).1 (hI.1 19 (8 * L + w)).2
  rw [ec4] at hz5
  rw [hz5]
  have tc4 : (M 19 (8 * L + w)).toInt = (c4 : Int) := by rw [ec4]; exact nI_toInt (by omega)
  exact W.iret (v := nI c4) hx hb hr (fun t ht hW => ⟨⟨nI c4, M, rfl, ⟨hI, hF, (ec4).symm⟩, by unfold ux_E; rw [ht]; exact hP⟩, hS.F ht⟩) hS.2.2 d_Md_sizeOf_10

set_option maxHeartbeats 1600000 in
set_option maxRecDepth 100000 in
theorem s_Md_charOf (l : Launch) (D : va_G) (ad : Nat → Nat) (cA : Nat → ClassId) (A TB : Nat) (hA : A ≤ 100000000) (hB : TB ≤ 2000000000) (M : ux_M) (hI : IvM A TB M) (L : Nat) (hL : L ≤ 7) (hlv : M 0 10 = nI L) (w k : Nat) (hw : w ≤ 8) (hk : (k : Int) < (M 19 (8 * L + w)).toInt) : Met l y_Md_charOf w_Md_charOf ({ frames := 1, cells := 0, slots := 0, locals := 21 }) (va_Pc [.ref (ad 0), .int (nI w), .int (nI k)] (ux_B D shM KM ad cA M)) (va_Qi (fun r M1 => IvM A TB M1 ∧ (∀ a b, ¬ tN a b → M1 a b = M a b) ∧ ((0 ≤ r.toInt ∧ r.toInt ≤ 65535) ∧ r = chv M (8 * L + w) k)) (ux_E D shM KM ad cA) (ux_A KM ad)) 0 0 (ux_A KM ad) := by
  refine Met.ofW (cc := b_Md_charOf) (maxL := 4) (ret := (some .char)) (by decide) rfl ?_
  intro p e s m args below meth c s₁ B hml hv
  obtain ⟨rfl, hP, hK, hi, hN⟩ := hv
  have hx := B.exec
  have hb := B.bytes
  have hr := B.returns
  have hts := atoms_spec (ws := w_Md_charOf) B.pre
  have hown : s.vm.findClass R_Md = some m.cls := findClass_of_methodNamed B.named
  have hlocks := B.notSynchronized
  have hT : ∀ w ∈ tb, w.before _ s = true := fun w h => hts w (List.mem_cons_of_mem _ h)
  have hS : va_S (ux_A KM ad) s.heap s.heap [] := va_S.rf
  have hl := lv_entry ([.ref (ad 0), .int (nI w), .int (nI k)]) (n := 4) (Nat.le_of_ble_eq_true rfl)
  rw [lg_entry_eq]
  generalize (lg_sl ([.ref (ad 0), .int (nI w), .int (nI k)]) ++ List.replicate (4 - (lg_sl ([.ref (ad 0), .int (nI w), .int (nI k)])).length) Slot.unset).toArray = ls at hl ⊢
  have hl : lv_has ls 4 [(0, .ref (ad 0)), (1, .int (nI w)), (2, .int (nI k))] := hl
  have hF : ∀ a b, ¬ tN a b → M a b = M a b := fun _ _ _ => rfl
  refine lv_aload_n hx hb d_Md_charOf_0 rfl (lv_at hl 0 rfl) ?_
  refine lv_iload_n hx hb d_Md_charOf_1 rfl (lv_at hl 1 rfl) ?_
  refine ux_calli (va_runV ⟨hx, hb, hml, hown, hts⟩ (s_Md_word l D ad cA A TB hA hB  M hI L hL (hlv) w) (cwV 1 hts (tb_goodV ml_Md_155 im_Md_word se_Md_word ii_Md kt_Md_word) rfl rfl rfl (by decide +kernel) ⟨Nat.le_of_ble_eq_true rfl, Nat.le_of_ble_eq_true rfl⟩) (ux_preV (by decide) rfl rfl hP hK hi hN) rfl rfl hl.1 rfl (lv_room (Nat.le_of_ble_eq_true rfl)) d_Md_charOf_2 ⟨Nat.zero_le _, Nat.zero_le _⟩) hS (fun r1 M2 H locs q3 hP hS => ?_)
  obtain ⟨hI, fq3, q3p⟩ := q3
  rw [tN_eq fq3] at hP hI
  subst q3p
  refine lv_istore_n hx hb d_Md_charOf_5 rfl hl (by decide) rfl (fun ls hl => ?_)
  have hl : lv_has ls 4 [(3, .int (nI (8 * L + w))), (0, .ref (ad 0)), (1, .int (nI w)), (2, .int (nI k))] := hl
  refine lv_aload_n hx hb d_Md_charOf_6 rfl (lv_at hl 1 rfl) ?_
  refine ux_get (C := R_Md) (T := F_Md) (N := 50) hx hb hT in_Md hown hK hP (by decide) rfl rfl 19 (by decide) (hT _ fl_Md_64) rfl d_Md_charOf_7 ?_
  refine lv_iload_n hx hb d_Md_charOf_10 rfl (lv_at hl 0 rfl) ?_
  refine ux_zald hx hb hK hP (by decide) rfl (vp_in_nI (show 8 * L + w < 65 by omega) (by decide)) d_Md_charOf_11 ?_
  rw [nI_clamp (n := 8 * L + w) (by omega)]
  refine lv_if_eq hx hb d_Md_charOf_12 rfl (fun h4 => ?_) (fun h4 => ?_)
  · have g4 : (M 17 (8 * L + w)).toInt = 0 := congrArg Int32.toInt h4
    have hwd := (hI.2.1 (8 * L + w) (by omega)).1 (by assumption)
    refine lv_aload_n hx hb d_Md_charOf_31 rfl (lv_at hl 1 rfl) ?_
    refine ux_get (C := R_Md) (T := F_Md) (N := 50) hx hb hT in_Md hown hK hP (by decide) rfl rfl 22 (by decide) (hT _ fl_Md_73) rfl d_Md_charOf_32 ?_
    refine lv_bipush (v := 20) hx hb d_Md_charOf_35 (by decide) ?_
    refine lv_iload_n hx hb d_Md_charOf_37 rfl (lv_at hl 0 rfl) ?_
    refine lv_imul hx hb d_Md_charOf_38 ?_
    refine lv_topi (fun z5 hz5 => ?_)
    rw [show (20 : Int32) * (nI (8 * L + w)) = nI (20 * (8 * L + w)) from pk_mul 20 (8 * L + w)] at hz5
    rw [hz5]
    refine lv_iload_n hx hb d_Md_charOf_39 rfl (lv_at hl 3 rfl) ?_
    refine lv_iadd hx hb d_Md_charOf_40 ?_
    refine lv_topi (fun z6 hz6 => ?_)
    rw [show (nI (20 * (8 * L + w))) + (nI k) = nI ((20 * (8 * L + w)) + k) from nI_add (20 * (8 * L + w)) k] at hz6
    rw [hz6]
    refine ux_cald hx hb hK hP (by decide) rfl (vp_in_nI (show (20 * (8 * L + w)) + k < 1300 by omega) (by decide)) d_Md_charOf_41 ?_
    rw [nI_clamp (n := (20 * (8 * L + w)) + k) (by omega)]
    refine lv_topi (fun z8 hz8 => ?_)
    obtain ⟨c7, hc7, ec7⟩ := nat_of (x := M 20 ((20 * (8 * L + w)) + k)) (n := 65535) (hI.1 20 ((20 * (8 * L + w)) + k)).1 (hI.1 20 ((20 * (8 * L + w)) + k)).2
    rw [ec7] at hz8
    rw [hz8]
    have tc7 : (M 20 ((20 * (8 * L + w)) + k)).toInt = (c7 : Int) := by rw [ec7]; exact nI_toInt (by omega)
    exact W.zret (v := nI c7) hx hb hr (nc_I (by omega)) (fun t ht hW => ⟨⟨nI c7, M, rfl, ⟨hI, hF, ⟨by rw [nI_toInt (n := c7) (by omega)]; omega, by unfold chv; (first | rw [if_pos (by assumption)] | rw [if_neg (by assumption)]); first | exact (ec7).symm | (rw [ec9, nI_clamp (by omega)]; exact (ec7).symm)⟩⟩, by unfold ux_E; rw [ht]; exact hP⟩, hS.F ht⟩) hS.2.2 d_Md_charOf_42
  · have g4 : ¬ ((M 17 (8 * L + w)).toInt = 0) := fun q => h4 (Int32.toInt_inj.mp q)
    have hwd := (hI.2.1 (8 * L + w) (by omega)).2 (by assumption)
    refine lv_aload_n hx hb d_Md_charOf_15 rfl (lv_at hl 1 rfl) ?_
    refine ux_get (C := R_Md) (T := F_Md) (N := 50) hx hb hT in_Md hown hK hP (by decide) rfl rfl 0 (by decide) (hT _ fl_Md_7) rfl d_Md_charOf_16 ?_
    refine lv_aload_n hx hb d_Md_charOf_19 rfl (lv_at hl 1 rfl) ?_
    refine ux_get (C := R_Md) (T := F_Md) (N := 50) hx hb hT in_Md hown hK hP (by decide) rfl rfl 20 (by decide) (hT _ fl_Md_67) rfl d_Md_charOf_20 ?_
    refine lv_iload_n hx hb d_Md_charOf_23 rfl (lv_at hl 0 rfl) ?_
    refine ux_iald hx hb hK hP (by decide) rfl (vp_in_nI (show 8 * L + w < 65 by omega) (by decide)) d_Md_charOf_24 ?_
    rw [nI_clamp (n := 8 * L + w) (by omega)]
    refine lv_topi (fun z10 hz10 => ?_)
    obtain ⟨c9, hc9, ec9⟩ := nat_of (x := M 18 (8 * L + w)) (n := 200) (hI.1 18 (8 * L + w)).1 (hI.1 18 (8 * L + w)).2
    rw [ec9] at hz10
    rw [hz10]
    have tc9 : (M 18 (8 * L + w)).toInt = (c9 : Int) := by rw [ec9]; exact nI_toInt (by omega)
    refine lv_iload_n hx hb d_Md_charOf_25 rfl (lv_at hl 3 rfl) ?_
    refine lv_iadd hx hb d_Md_charOf_26 ?_
    refine lv_topi (fun z11 hz11 => ?_)
    rw [show (nI c9) + (nI k) = nI (c9 + k) from nI_add c9 k] at hz11
    rw [hz11]
    refine ux_cald hx hb hK hP (by decide) rfl (vp_in_nI (show c9 + k < 200 by omega) (by decide)) d_Md_charOf_27 ?_
    rw [nI_clamp (n := c9 + k) (by omega)]
    refine lv_topi (fun z13 hz13 => ?_)
    obtain ⟨c12, hc12, ec12⟩ := nat_of (x := M 1 (c9 + k)) (n := 65535) (hI.1 1 (c9 + k)).1 (hI.1 1 (c9 + k)).2
    rw [ec12] at hz13
    rw [hz13]
    have tc12 : (M 1 (c9 + k)).toInt = (c12 : Int) := by rw [ec12]; exact nI_toInt (by omega)
    refine lv_goto hx hb d_Md_charOf_28 rfl ?_
    exact W.zret (v := nI c12) hx hb hr (nc_I (by omega)) (fun t ht hW => ⟨⟨nI c12, M, rfl, ⟨hI, hF, ⟨by rw [nI_toInt (n := c12) (by omega)]; omega, by unfold chv; (first | rw [if_pos (by assumption)] | rw [if_neg (by assumption)]); first | exact (ec12).symm | (rw [ec9, nI_clamp (by omega)]; exact (ec12).symm)⟩⟩, by unfold ux_E; rw [ht]; exact hP⟩, hS.F ht⟩) hS.2.2 d_Md_charOf_42
