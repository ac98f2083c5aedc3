/-! The reference, safe: scripts entered; written by wip/gen/ref.py -/
theorem nmK_cong {M M1 : ux_M} {i : Nat} {f : Int32} (h : ∀ a b, (a = 1 ∨ a = 17 ∨ a = 18 ∨ a = 19 ∨ a = 20) → M1 a b = M a b) (q : nmK M i f) : nmK M1 i f := by
  unfold nmK chv at q ⊢
  rw [h 17 i (by decide), h 20 _ (by decide), h 18 i (by decide), h 1 _ (by decide), h 19 i (by decide)]
  exact q

set_option maxHeartbeats 1600000 in
set_option maxRecDepth 100000 in
theorem s_Md_enter (l : Launch) (D : va_G) (ad : Nat → Nat) (cA : Nat → ClassId) (A TB : Nat) (hA : A ≤ 100000000) (hB : TB ≤ 2000000000) (M : ux_M) (hI : IvM A TB M) (L : Nat) (hL : L ≤ 7) (hlv : M 0 10 = nI L) (lo1 hi1 : Nat) (hlo : lo1 ≤ A) (hhi : hi1 ≤ 200) (rs : Int32) (hcg : rs.toInt = 5 → (M 14 L).toInt = 3 → nmK M (8 * L + 2) 97) : Met l y_Md_enter w_Md_enter ({ frames := 4, cells := 0, slots := 0, locals := 87 }) (va_Pc [.ref (ad 0), .int (nI lo1), .int (nI hi1), .int rs] (ux_B D shM KM ad cA M)) (va_Qi (fun r M1 => IvM A TB M1 ∧ (∀ a b, ¬ (mEn L) a b → M1 a b = M a b) ∧ ((r = 1 ∧ L ≤ 6 ∧ M1 0 10 = nI (L + 1) ∧ M1 0 23 = 0 ∧ M1 11 (L + 1) = rs ∧ M1 13 (L + 1) = 0 ∧ M1 14 (L + 1) = 0 ∧ M1 9 (L + 1) = nI lo1 ∧ (∀ a b, ¬ mE1 L a b → M1 a b = M a b)) ∨ (r = 0 ∧ M1 0 23 = 1 ∧ (M1 0 24 = 1 ∨ (M1 0 24 = 0 ∧ rs.toInt = 5)) ∧ (∀ a b, ¬ mE0 a b → M1 a b = M a b)))) (ux_E D shM KM ad cA) (ux_A KM ad)) 0 0 (ux_A KM ad) := by
  refine Met.ofW (cc := b_Md_enter) (maxL := 5) (ret := (some .boolean)) (by decide) rfl ?_
  intro p e s m args below meth c s₁ B hml hv
  obtain ⟨rfl, hP, hK, hi, hN⟩ := hv
  have hx := B.exec
  have hb := B.bytes
  have hr := B.returns
  have hts := atoms_spec (ws := w_Md_enter) B.pre
  have hown : s.vm.findClass R_Md = some m.cls := findClass_of_methodNamed B.named
  have hlocks := B.notSynchronized
  have hT : ∀ w ∈ tb, w.before _ s = true := fun w h => hts w (List.mem_cons_of_mem _ h)
  have hS : va_S (ux_A KM ad) s.heap s.heap [] := va_S.rf
  have hl := lv_entry ([.ref (ad 0), .int (nI lo1), .int (nI hi1), .int rs]) (n := 5) (Nat.le_of_ble_eq_true rfl)
  rw [lg_entry_eq]
  generalize (lg_sl ([.ref (ad 0), .int (nI lo1), .int (nI hi1), .int rs]) ++ List.replicate (5 - (lg_sl ([.ref (ad 0), .int (nI lo1), .int (nI hi1), .int rs])).length) Slot.unset).toArray = ls at hl ⊢
  have hl : lv_has ls 5 [(0, .ref (ad 0)), (1, .int (nI lo1)), (2, .int (nI hi1)), (3, .int rs)] := hl
  have hF : ∀ a b, ¬ (mEn L) a b → M a b = M a b := fun _ _ _ => rfl
  refine lv_aload_n hx hb d_Md_enter_0 rfl (lv_at hl 0 rfl) ?_
  refine ux_get (C := R_Md) (T := F_Md) (N := 50) hx hb hT in_Md hown hK hP (by decide) rfl rfl 10 (by decide) (hT _ fl_Md_36) rfl d_Md_enter_1 ?_
  refine lv_topi (fun z1 hz1 => ?_)
  rw [show M 0 10 = nI L from hlv] at hz1
  rw [hz1]
  refine lv_bipush (v := 7) hx hb d_Md_enter_4 (by decide) ?_
  refine lv_icmp_lt hx hb d_Md_enter_6 rfl (fun h2 => ?_) (fun h2 => ?_)
  · have g2 : ((L : Nat) : Int) < 7 := by have q := Int32.lt_iff_toInt_lt.mp h2; rw [nI_toInt (n := L) (by omega)] at q; exact q
    refine lv_aload_n hx hb d_Md_enter_26 rfl (lv_at hl 0 rfl) ?_
    refine ux_get (C := R_Md) (T := F_Md) (N := 50) hx hb hT in_Md hown hK hP (by decide) rfl rfl 10 (by decide) (hT _ fl_Md_36) rfl d_Md_enter_27 ?_
    refine lv_topi (fun z3 hz3 => ?_)
    rw [show M 0 10 = nI L from hlv] at hz3
    rw [hz3]
    refine lv_if_ge hx hb d_Md_enter_30 rfl (fun h4 => ?_) (fun h4 => ?_)
    · have g4 : 0 ≤ ((L : Nat) : Int) := by have q := Int32.le_iff_toInt_le.mp h4; rw [nI_toInt (n := L) (by omega)] at q; exact q
      refine lv_aload_n hx hb d_Md_enter_37 rfl (lv_at hl 0 rfl) ?_
      refine ux_get (C := R_Md) (T := F_Md) (N := 50) hx hb hT in_Md hown hK hP (by decide) rfl rfl 14 (by decide) (hT _ fl_Md_49) rfl d_Md_enter_38 ?_
      refine lv_aload_n hx hb d_Md_enter_41 rfl (lv_at hl 0 rfl) ?_
      refine ux_get (C := R_Md) (T := F_Md) (N := 50) hx hb hT in_Md hown hK hP (by decide) rfl rfl 10 (by decide) (hT _ fl_Md_36) rfl d_Md_enter_42 ?_
      refine lv_topi (fun z5 hz5 => ?_)
      rw [show M 0 10 = nI L from hlv] at hz5
      rw [hz5]
      refine ux_iald hx hb hK hP (by decide) rfl (vp_in_nI (show L < 8 by omega) (by decide)) d_Md_enter_45 ?_
      rw [nI_clamp (n := L) (by omega)]
      refine lv_topi (fun z7 hz7 => ?_)
      obtain ⟨c6, hc6, ec6⟩ := nat_of (x := M 12 L) (n := 7) (hI.1 12 L).1 (hI.1 12 L).2
      rw [ec6] at hz7
      rw [hz7]
      have tc6 : (M 12 L).toInt = (c6 : Int) := by rw [ec6]; exact nI_toInt (by omega)
      refine lv_istore hx hb d_Md_enter_46 hl (by decide) rfl (fun ls hl => ?_)
      have hl : lv_has ls 5 [(4, .int (nI c6)), (0, .ref (ad 0)), (1, .int (nI lo1)), (2, .int (nI hi1)), (3, .int rs)] := hl
      refine lv_aload_n hx hb d_Md_enter_48 rfl (lv_at hl 1 rfl) ?_
      refine lv_dup hx hb d_Md_enter_49 rfl ?_
      refine ux_get (C := R_Md) (T := F_Md) (N := 50) hx hb hT in_Md hown hK hP (by decide) rfl rfl 10 (by decide) (hT _ fl_Md_36) rfl d_Md_enter_50 ?_
      refine lv_topi (fun z8 hz8 => ?_)
      rw [show M 0 10 = nI L from hlv] at hz8
      rw [hz8]
      refine lv_iconst (v := 1) hx hb d_Md_enter_53 (by decide) ?_
      refine lv_iadd hx hb d_Md_enter_54 ?_
      refine lv_topi (fun z9 hz9 => ?_)
      rw [show (nI L) + (1 : Int32) = nI (L + 1) from nI_add L 1] at hz9
      rw [hz9]
      refine ux_put (C := R_Md) (T := F_Md) (N := 50) hx hb hT in_Md t_Md t_Md_ok n_Md hown hK hi hP hS (by decide) rfl rfl 10 (by decide) (hT _ fl_Md_36) rfl (rfl) (rfl) rfl d_Md_enter_55 (fun H locs hP hS => ?_)
      have hI := IvM_wr (k := 0) (j := 10) (v := nI (L + 1)) hI (show (-1 : Int) ≤ (nI (L + 1) : Int32).toInt from (by rw [nI_toInt (n := L + 1) (by omega)]; omega)) (show (nI (L + 1) : Int32).toInt ≤ (7 : Int) from (by rw [nI_toInt (n := L + 1) (by omega)]; omega)) (by unfold okW; omega)
      have hF := fr_wr (k := 0) (j := 10) (v := nI (L + 1)) hF (by unfold mEn; omega)
      generalize eM10 : ux_wr M 0 10 (nI (L + 1)) = M10 at hP hI hF
      have tM10 : (M10 0 10).toInt = ((L + 1 : Nat) : Int) := by rw [wr_at eM10]; exact nI_toInt (by omega)
      refine lv_aload_n hx hb d_Md_enter_58 rfl (lv_at hl 1 rfl) ?_
      refine ux_get (C := R_Md) (T := F_Md) (N := 50) hx hb hT in_Md hown hK hP (by decide) rfl rfl 11 (by decide) (hT _ fl_Md_40) rfl d_Md_enter_59 ?_
      refine lv_aload_n hx hb d_Md_enter_62 rfl (lv_at hl 1 rfl) ?_
      refine ux_get (C := R_Md) (T := F_Md) (N := 50) hx hb hT in_Md hown hK hP (by decide) rfl rfl 10 (by decide) (hT _ fl_Md_36) rfl d_Md_enter_63 ?_
      refine lv_topi (fun z11 hz11 => ?_)
      rw [show M10 0 10 = nI (L + 1) from wr_at eM10] at hz11
      rw [hz11]
      refine lv_iload_n hx hb d_Md_enter_66 rfl (lv_at hl 2 rfl) ?_
      refine ux_iast hx hb hK hi hP hS (by decide) rfl (vp_in_nI (show L + 1 < 8 by omega) (by decide)) d_Md_enter_67 (fun H locs hP hS => ?_)
      rw [nI_clamp (n := L + 1) (by omega)] at hP
      have hI := IvM_wr (k := 9) (j := L + 1) (v := nI lo1) hI (show (0 : Int) ≤ (nI lo1 : Int32).toInt from (by rw [nI_toInt (n := lo1) (by omega)]; omega)) (show (nI lo1 : Int32).toInt ≤ (A : Int) from (by rw [nI_toInt (n := lo1) (by omega)]; omega)) (by unfold okW; omega)
      have hF := fr_wr (k := 9) (j := L + 1) (v := nI lo1) hF (by unfold mEn; omega)
      generalize eM12 : ux_wr M10 9 (L + 1) (nI lo1) = M12 at hP hI hF
      have tM12 : (M12 9 (L + 1)).toInt = ((lo1 : Nat) : Int) := by rw [wr_at eM12]; exact nI_toInt (by omega)
      refine lv_aload_n hx hb d_Md_enter_68 rfl (lv_at hl 1 rfl) ?_
      refine ux_get (C := R_Md) (T := F_Md) (N := 50) hx hb hT in_Md hown hK hP (by decide) rfl rfl 12 (by decide) (hT _ fl_Md_43) rfl d_Md_enter_69 ?_
      refine lv_aload_n hx hb d_Md_enter_72 rfl (lv_at hl 1 rfl) ?_
      refine ux_get (C := R_Md) (T := F_Md) (N := 50) hx hb hT in_Md hown hK hP (by decide) rfl rfl 10 (by decide) (hT _ fl_Md_36) rfl d_Md_enter_73 ?_
      refine lv_topi (fun z13 hz13 => ?_)
      rw [show M12 0 10 = nI (L + 1) from (wr_off eM12 (by omega)).trans (wr_at eM10)] at hz13
      rw [hz13]
      refine lv_iload_n hx hb d_Md_enter_76 rfl (lv_at hl 3 rfl) ?_
      refine ux_iast hx hb hK hi hP hS (by decide) rfl (vp_in_nI (show L + 1 < 8 by omega) (by decide)) d_Md_enter_77 (fun H locs hP hS => ?_)
      rw [nI_clamp (n := L + 1) (by omega)] at hP
      have hI := IvM_wr (k := 10) (j := L + 1) (v := nI hi1) hI (show (0 : Int) ≤ (nI hi1 : Int32).toInt from (by rw [nI_toInt (n := hi1) (by omega)]; omega)) (show (nI hi1 : Int32).toInt ≤ (200 : Int) from (by rw [nI_toInt (n := hi1) (by omega)]; omega)) (by unfold okW; omega)
      have hF := fr_wr (k := 10) (j := L + 1) (v := nI hi1) hF (by unfold mEn; omega)
      generalize eM14 : ux_wr M12 10 (L + 1) (nI hi1) = M14 at hP hI hF
      have tM14 : (M14 10 (L + 1)).toInt = ((hi1 : Nat) : Int) := by rw [wr_at eM14]; exact nI_toInt (by omega)
      refine lv_aload_n hx hb d_Md_enter_78 rfl (lv_at hl 1 rfl) ?_
      refine ux_get (C := R_Md) (T := F_Md) (N := 50) hx hb hT in_Md hown hK hP (by decide) rfl rfl 13 (by decide) (hT _ fl_Md_46) rfl d_Md_enter_79 ?_
      refine lv_aload_n hx hb d_Md_enter_82 rfl (lv_at hl 1 rfl) ?_
      refine ux_get (C := R_Md) (T := F_Md) (N := 50) hx hb hT in_Md hown hK hP (by decide) rfl rfl 10 (by decide) (hT _ fl_Md_36) rfl d_Md_enter_83 ?_
      refine lv_topi (fun z15 hz15 => ?_)
      rw [show M14 0 10 = nI (L + 1) from (wr_off eM14 (by omega)).trans ((wr_off eM12 (by omega)).trans (wr_at eM10))] at hz15
      rw [hz15]
      refine lv_iload_n hx hb d_Md_enter_86 rfl (lv_at hl 4 rfl) ?_
      refine ux_iast hx hb hK hi hP hS (by decide) rfl (vp_in_nI (show L + 1 < 8 by omega) (by decide)) d_Md_enter_87 (fun H locs hP hS => ?_)
      rw [nI_clamp (n := L + 1) (by omega)] at hP
      have hI := IvM_free (k := 11) (j := L + 1) (v := rs) hI rfl rfl (by unfold okW; omega)
      have hF := fr_wr (k := 11) (j := L + 1) (v := rs) hF (by unfold mEn; omega)
      generalize eM16 : ux_wr M14 11 (L + 1) rs = M16 at hP hI hF
      refine lv_aload_n hx hb d_Md_enter_88 rfl (lv_at hl 1 rfl) ?_
      refine ux_get (C := R_Md) (T := F_Md) (N := 50) hx hb hT in_Md hown hK hP (by decide) rfl rfl 14 (by decide) (hT _ fl_Md_49) rfl d_Md_enter_89 ?_
      refine lv_aload_n hx hb d_Md_enter_92 rfl (lv_at hl 1 rfl) ?_
      refine ux_get (C := R_Md) (T := F_Md) (N := 50) hx hb hT in_Md hown hK hP (by decide) rfl rfl 10 (by decide) (hT _ fl_Md_36) rfl d_Md_enter_93 ?_
      refine lv_topi (fun z17 hz17 => ?_)
      rw [show M16 0 10 = nI (L + 1) from (wr_off eM16 (by omega)).trans ((wr_off eM14 (by omega)).trans ((wr_off eM12 (by omega)).trans (wr_at eM10)))] at hz17
      rw [hz17]
      refine lv_iload hx hb d_Md_enter_96 (lv_at hl 0 rfl) ?_
      refine ux_iast hx hb hK hi hP hS (by decide) rfl (vp_in_nI (show L + 1 < 8 by omega) (by decide)) d_Md_enter_98 (fun H locs hP hS => ?_)
      rw [nI_clamp (n := L + 1) (by omega)] at hP
      have hI := IvM_wr (k := 12) (j := L + 1) (v := nI c6) hI (show (0 : Int) ≤ (nI c6 : Int32).toInt from (by rw [nI_toInt (n := c6) (by omega)]; omega)) (show (nI c6 : Int32).toInt ≤ (7 : Int) from (by rw [nI_toInt (n := c6) (by omega)]; omega)) (by unfold okW; omega)
      have hF := fr_wr (k := 12) (j := L + 1) (v := nI c6) hF (by unfold mEn; omega)
      generalize eM18 : ux_wr M16 12 (L + 1) (nI c6) = M18 at hP hI hF
      have tM18 : (M18 12 (L + 1)).toInt = ((c6 : Nat) : Int) := by rw [wr_at eM18]; exact nI_toInt (by omega)
      refine lv_aload_n hx hb d_Md_enter_99 rfl (lv_at hl 1 rfl) ?_
      refine ux_get (C := R_Md) (T := F_Md) (N := 50) hx hb hT in_Md hown hK hP (by decide) rfl rfl 15 (by decide) (hT _ fl_Md_52) rfl d_Md_enter_100 ?_
      refine lv_aload_n hx hb d_Md_enter_103 rfl (lv_at hl 1 rfl) ?_
      refine ux_get (C := R_Md) (T := F_Md) (N := 50) hx hb hT in_Md hown hK hP (by decide) rfl rfl 10 (by decide) (hT _ fl_Md_36) rfl d_Md_enter_104 ?_
      refine lv_topi (fun z19 hz19 => ?_)
      rw [show M18 0 10 = nI (L + 1) from (wr_off eM18 (by omega)).trans ((wr_off eM16 (by omega)).trans ((wr_off eM14 (by omega)).trans ((wr_off eM12 (by omega)).trans (wr_at eM10))))] at hz19
      rw [hz19]
      refine lv_iconst (v := 0) hx hb d_Md_enter_107 (by decide) ?_
      refine ux_iast hx hb hK hi hP hS (by decide) rfl (vp_in_nI (show L + 1 < 8 by omega) (by decide)) d_Md_enter_108 (fun H locs hP hS => ?_)
      rw [nI_clamp (n := L + 1) (by omega)] at hP
      have hI := IvM_free (k := 13) (j := L + 1) (v := 0) hI rfl rfl (by unfold okW; omega)
      have hF := fr_wr (k := 13) (j := L + 1) (v := 0) hF (by unfold mEn; omega)
      generalize eM20 : ux_wr M18 13 (L + 1) 0 = M20 at hP hI hF
      refine lv_aload_n hx hb d_Md_enter_109 rfl (lv_at hl 1 rfl) ?_
      refine ux_get (C := R_Md) (T := F_Md) (N := 50) hx hb hT in_Md hown hK hP (by decide) rfl rfl 16 (by decide) (hT _ fl_Md_55) rfl d_Md_enter_110 ?_
      refine lv_aload_n hx hb d_Md_enter_113 rfl (lv_at hl 1 rfl) ?_
      refine ux_get (C := R_Md) (T := F_Md) (N := 50) hx hb hT in_Md hown hK hP (by decide) rfl rfl 10 (by decide) (hT _ fl_Md_36) rfl d_Md_enter_114 ?_
      refine lv_topi (fun z21 hz21 => ?_)
      rw [show M20 0 10 = nI (L + 1) from (wr_off eM20 (by omega)).trans ((wr_off eM18 (by omega)).trans ((wr_off eM16 (by omega)).trans ((wr_off eM14 (by omega)).trans ((wr_off eM12 (by omega)).trans (wr_at eM10)))))] at hz21
      rw [hz21]
      refine lv_iconst (v := 0) hx hb d_Md_enter_117 (by decide) ?_
      refine ux_iast hx hb hK hi hP hS (by decide) rfl (vp_in_nI (show L + 1 < 8 by omega) (by decide)) d_Md_enter_118 (fun H locs hP hS => ?_)
      rw [nI_clamp (n := L + 1) (by omega)] at hP
      have hI := IvM_wr (k := 14) (j := L + 1) (v := 0) hI (show (0 : Int) ≤ (0 : Int32).toInt from (by decide)) (show (0 : Int32).toInt ≤ (8 : Int) from (by first | decide | (show (0 : Int) ≤ _; omega))) (by unfold okW; omega)
      have hF := fr_wr (k := 14) (j := L + 1) (v := 0) hF (by unfold mEn; omega)
      generalize eM22 : ux_wr M20 14 (L + 1) 0 = M22 at hP hI hF
      have tM22 : (M22 14 (L + 1)).toInt = 0 := by rw [wr_at eM22]; rfl
      refine lv_aload_n hx hb d_Md_enter_119 rfl (lv_at hl 1 rfl) ?_
      refine ux_get (C := R_Md) (T := F_Md) (N := 50) hx hb hT in_Md hown hK hP (by decide) rfl rfl 17 (by decide) (hT _ fl_Md_58) rfl d_Md_enter_120 ?_
      refine lv_aload_n hx hb d_Md_enter_123 rfl (lv_at hl 1 rfl) ?_
      refine ux_get (C := R_Md) (T := F_Md) (N := 50) hx hb hT in_Md hown hK hP (by decide) rfl rfl 10 (by decide) (hT _ fl_Md_36) rfl d_Md_enter_124 ?_
      refine lv_topi (fun z23 hz23 => ?_)
      rw [show M22 0 10 = nI (L + 1) from (wr_off eM22 (by omega)).trans ((wr_off eM20 (by omega)).trans ((wr_off eM18 (by omega)).trans ((wr_off eM16 (by omega)).trans ((wr_off eM14 (by omega)).trans ((wr_off eM12 (by omega)).trans (wr_at eM10))))))] at hz23
      rw [hz23]
      refine lv_iconst (v := 0) hx hb d_Md_enter_127 (by decide) ?_
      refine ux_iast hx hb hK hi hP hS (by decide) rfl (vp_in_nI (show L + 1 < 8 by omega) (by decide)) d_Md_enter_128 (fun H locs hP hS => ?_)
      rw [nI_clamp (n := L + 1) (by omega)] at hP
      have hI := IvM_wr (k := 15) (j := L + 1) (v := 0) hI (show (0 : Int) ≤ (0 : Int32).toInt from (by decide)) (show (0 : Int32).toInt ≤ (20 : Int) from (by first | decide | (show (0 : Int) ≤ _; omega))) (by unfold okW; omega)
      have hF := fr_wr (k := 15) (j := L + 1) (v := 0) hF (by unfold mEn; omega)
      generalize eM24 : ux_wr M22 15 (L + 1) 0 = M24 at hP hI hF
      have tM24 : (M24 15 (L + 1)).toInt = 0 := by rw [wr_at eM24]; rfl
      refine lv_aload_n hx hb d_Md_enter_129 rfl (lv_at hl 1 rfl) ?_
      refine lv_iconst (v := 0) hx hb d_Md_enter_130 (by decide) ?_
      refine ux_put (C := R_Md) (T := F_Md) (N := 50) hx hb hT in_Md t_Md t_Md_ok n_Md hown hK hi hP hS (by decide) rfl rfl 23 (by decide) (hT _ fl_Md_152) rfl (rfl) (rfl) rfl d_Md_enter_131 (fun H locs hP hS => ?_)
      have hI := IvM_free (k := 0) (j := 23) (v := 0) hI rfl rfl (by unfold okW; omega)
      have hF := fr_wr (k := 0) (j := 23) (v := 0) hF (by unfold mEn; omega)
      generalize eM25 : ux_wr M24 0 23 0 = M25 at hP hI hF
      refine lv_iconst (v := 1) hx hb d_Md_enter_134 (by decide) ?_
      exact W.zret (v := 1) hx hb hr (rfl) (fun t ht hW => ⟨⟨1, M25, rfl, ⟨hI, hF, Or.inl ⟨rfl, by omega, (wr_off eM25 (by omega)).trans ((wr_off eM24 (by omega)).trans ((wr_off eM22 (by omega)).trans ((wr_off eM20 (by omega)).trans ((wr_off eM18 (by omega)).trans ((wr_off eM16 (by omega)).trans ((wr_off eM14 (by omega)).trans ((wr_off eM12 (by omega)).trans (wr_at eM10)))))))), wr_at eM25, (wr_off eM25 (by omega)).trans ((wr_off eM24 (by omega)).trans ((wr_off eM22 (by omega)).trans ((wr_off eM20 (by omega)).trans ((wr_off eM18 (by omega)).trans (wr_at eM16))))), (wr_off eM25 (by omega)).trans ((wr_off eM24 (by omega)).trans ((wr_off eM22 (by omega)).trans (wr_at eM20))), (wr_off eM25 (by omega)).trans ((wr_off eM24 (by omega)).trans (wr_at eM22)), (wr_off eM25 (by omega)).trans ((wr_off eM24 (by omega)).trans ((wr_off eM22 (by omega)).trans ((wr_off eM20 (by omega)).trans ((wr_off eM18 (by omega)).trans ((wr_off eM16 (by omega)).trans ((wr_off eM14 (by omega)).trans (wr_at eM12))))))), fun a b q => (wr_off eM25 (by unfold mE1 at q; omega)).trans ((wr_off eM24 (by unfold mE1 at q; omega)).trans ((wr_off eM22 (by unfold mE1 at q; omega)).trans ((wr_off eM20 (by unfold mE1 at q; omega)).trans ((wr_off eM18 (by unfold mE1 at q; omega)).trans ((wr_off eM16 (by unfold mE1 at q; omega)).trans ((wr_off eM14 (by unfold mE1 at q; omega)).trans ((wr_off eM12 (by unfold mE1 at q; omega)).trans (wr_off eM10 (by unfold mE1 at q; omega)))))))))⟩⟩, by unfold ux_E; rw [ht]; exact hP⟩, hS.F ht⟩) hS.2.2 d_Md_enter_135
    · have g4 : ¬ (0 ≤ ((L : Nat) : Int)) := fun q => h4 (Int32.le_iff_toInt_le.mpr (by rw [nI_toInt (n := L) (by omega)]; exact q))
      exfalso; omega
  · have g2 : ¬ (((L : Nat) : Int) < 7) := fun q => h2 (Int32.lt_iff_toInt_lt.mpr (by rw [nI_toInt (n := L) (by omega)]; exact q))
    refine lv_aload_n hx hb d_Md_enter_9 rfl (lv_at hl 0 rfl) ?_
    refine lv_bipush (v := 8) hx hb d_Md_enter_10 (by decide) ?_
    refine ux_callv (va_runV ⟨hx, hb, hml, hown, hts⟩ (s_Md_error l D ad cA A TB hA hB  M hI 8) (cwV 1 hts (tb_goodV ml_Md_166 im_Md_error se_Md_error ii_Md kt_Md_error) rfl rfl rfl (by decide +kernel) ⟨Nat.le_of_ble_eq_true rfl, Nat.le_of_ble_eq_true rfl⟩) (ux_preV (by decide) rfl rfl hP hK hi hN) rfl rfl hl.1 rfl (lv_room (Nat.le_of_ble_eq_true rfl)) d_Md_enter_12 ⟨Nat.zero_le _, Nat.zero_le _⟩) hS (fun M27 H locs q28 hP hS => ?_)
    obtain ⟨hI, fq28, q28p⟩ := q28
    have hF := fr_call hF fq28 (fun a b q => by unfold mEr at q; unfold mEn; omega)
    refine lv_iload_n hx hb d_Md_enter_15 rfl (lv_at hl 3 rfl) ?_
    refine lv_iconst (v := 5) hx hb d_Md_enter_16 (by decide) ?_
    refine lv_icmp_ne hx hb d_Md_enter_17 rfl (fun h29 => ?_) (fun h29 => ?_)
    · have g29 : ¬ (rs.toInt = 5) := fun q => h29 (Int32.toInt_inj.mp q)
      refine lv_iconst (v := 0) hx hb d_Md_enter_24 (by decide) ?_
      exact W.zret (v := 0) hx hb hr (rfl) (fun t ht hW => ⟨⟨0, M27, rfl, ⟨hI, hF, Or.inr ⟨rfl, (And.left (by assumption)), Or.inl (And.right (by assumption)), fun a b q => fq28 a b (by unfold mE0 at q; unfold mEr; omega)⟩⟩, by unfold ux_E; rw [ht]; exact hP⟩, hS.F ht⟩) hS.2.2 d_Md_enter_25
    · have g29 : rs.toInt = 5 := congrArg Int32.toInt h29
      refine lv_aload_n hx hb d_Md_enter_20 rfl (lv_at hl 0 rfl) ?_
      refine ux_callv (va_runV ⟨hx, hb, hml, hown, hts⟩ (s_Md_caught l D ad cA A TB hA hB  M27 hI L hL ((fq28 _ _ (by unfold mEr; omega)).trans (hlv)) (fun z => nmK_cong (fun a b q => fq28 a b (by unfold mEr; omega)) (hcg (by omega) ((congrArg Int32.toInt (fq28 14 L (by unfold mEr; omega))).symm.trans z)))) (cwV 0 hts (tb_goodV ml_Md_170 im_Md_caught se_Md_caught ii_Md kt_Md_caught) rfl rfl rfl (by decide +kernel) ⟨Nat.le_of_ble_eq_true rfl, Nat.le_of_ble_eq_true rfl⟩) (ux_preV (by decide) rfl rfl hP hK hi hN) rfl rfl hl.1 rfl (lv_room (Nat.le_of_ble_eq_true rfl)) d_Md_enter_21 ⟨Nat.zero_le _, Nat.zero_le _⟩) hS (fun M31 H locs q32 hP hS => ?_)
      obtain ⟨hI, fq32, q32p⟩ := q32
      have hF := fr_call hF fq32 (fun a b q => by unfold mCa at q; unfold mEn; omega)
      refine lv_iconst (v := 0) hx hb d_Md_enter_24 (by decide) ?_
      exact W.zret (v := 0) hx hb hr (rfl) (fun t ht hW => ⟨⟨0, M31, rfl, ⟨hI, hF, Or.inr ⟨rfl, (fq32 _ _ (by unfold mCa; omega)).trans q28p.1, Or.inr ⟨by assumption, by omega⟩, fun a b q => (fq32 a b (by unfold mE0 at q; unfold mCa; omega)).trans (fq28 a b (by unfold mE0 at q; unfold mEr; omega))⟩⟩, by unfold ux_E; rw [ht]; exact hP⟩, hS.F ht⟩) hS.2.2 d_Md_enter_25
