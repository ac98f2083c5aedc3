/-! The reference, safe: a run; written by wip/gen/ref.py -/
theorem IvM_fuel {A B B1 : Nat} {M M2 : ux_M} {f : Int32} (hI : IvM A B M) (e : ux_wr M 0 27 f = M2) (h1 : 1 ≤ f.toInt) (h2 : f.toInt ≤ 100) (hB1 : B + 4000 ≤ B1) : IvM A B1 (ux_wr M2 0 28 0) := by
  subst e
  refine ⟨IvM_at (IvM_at hI.1 (show (0 : Int) ≤ f.toInt by omega) (show f.toInt ≤ (100 : Int) from h2)) (show (0 : Int) ≤ 0 from Int.le_refl 0) (show (0 : Int) ≤ 100 by decide), fun i hi => ?_, ?_⟩
  · rw [ux_wr_off (by omega), ux_wr_off (by omega), ux_wr_off (by omega), ux_wr_off (by omega), ux_wr_off (by omega), ux_wr_off (by omega)]
    exact hI.2.1 i hi
  · have h := hI.2.2
    unfold Ft at h ⊢
    rw [ux_wr_at, ux_wr_off (by omega), ux_wr_at, ux_wr_off (by omega), ux_wr_off (by omega), show (0 : Int32).toInt = 0 from rfl]
    omega
theorem IvM_monoB {A B B1 : Nat} {M : ux_M} (hI : IvM A B M) (h : B ≤ B1) : IvM A B1 M := by
  refine ⟨hI.1, hI.2.1, ?_⟩
  have h2 := hI.2.2
  unfold Ft at h2 ⊢
  omega
def mRun (a b : Nat) : Prop := (a = 0 ∧ b ≠ 1 ∧ b ≠ 39) ∨ (2 ≤ a ∧ a ≤ 25) ∨ 30 ≤ a
def mEn0 (a b : Nat) : Prop := (a = 0 ∧ (b = 10 ∨ b = 23)) ∨ ((a = 9 ∨ a = 10 ∨ a = 11 ∨ a = 12 ∨ a = 13 ∨ a = 14 ∨ a = 15) ∧ b = 0)
def rnM (M : ux_M) (f : Int32) : Int32 := if 1 ≤ f.toInt ∧ f.toInt ≤ 100 then 1 else M 0 2

set_option maxHeartbeats 1600000 in
set_option maxRecDepth 100000 in
theorem s_Md_outside (l : Launch) (D : va_G) (ad : Nat → Nat) (cA : Nat → ClassId) (A TB : Nat) (hA : A ≤ 100000000) (hB : TB ≤ 2000000000) (M : ux_M) (hI : IvM A TB M) (v1 lo1 hi1 : Int32) : Met l y_Md_outside w_Md_outside ({ frames := 0, cells := 0, slots := 0, locals := 0 }) (va_Pc [.int v1, .int lo1, .int hi1] (ux_B D shM KM ad cA M)) (va_Qi (fun r M1 => IvM A TB M1 ∧ (∀ a b, ¬ tN a b → M1 a b = M a b) ∧ ((r = 0 ∧ lo1.toInt ≤ v1.toInt ∧ v1.toInt ≤ hi1.toInt) ∨ (r = 1 ∧ ¬ (lo1.toInt ≤ v1.toInt ∧ v1.toInt ≤ hi1.toInt)))) (ux_E D shM KM ad cA) (ux_A KM ad)) 0 0 (ux_A KM ad) := by
  refine Met.ofW (cc := b_Md_outside) (maxL := 3) (ret := (some .boolean)) (by decide) rfl ?_
  intro p e s m args below meth c s₁ B hml hv
  obtain ⟨rfl, hP, hK, hi, hN⟩ := hv
  have hx := B.exec
  have hb := B.bytes
  have hr := B.returns
  have hts := atoms_spec (ws := w_Md_outside) B.pre
  have hown : s.vm.findClass R_Md = some m.cls := findClass_of_methodNamed B.named
  have hlocks := B.notSynchronized
  have hT : ∀ w ∈ tb, w.before _ s = true := fun w h => hts w (List.mem_cons_of_mem _ h)
  have hS : va_S (ux_A KM ad) s.heap s.heap [] := va_S.rf
  have hl := lv_entry ([.int v1, .int lo1, .int hi1]) (n := 3) (Nat.le_of_ble_eq_true rfl)
  rw [lg_entry_eq]
  generalize (lg_sl ([.int v1, .int lo1, .int hi1]) ++ List.replicate (3 - (lg_sl ([.int v1, .int lo1, .int hi1])).length) Slot.unset).toArray = ls at hl ⊢
  have hl : lv_has ls 3 [(0, .int v1), (1, .int lo1), (2, .int hi1)] := hl
  have hF : ∀ a b, ¬ tN a b → M a b = M a b := fun _ _ _ => rfl
  refine lv_iload_n hx hb d_Md_outside_0 rfl (lv_at hl 0 rfl) ?_
  refine lv_iload_n hx hb d_Md_outside_1 rfl (lv_at hl 1 rfl) ?_
  refine lv_icmp_lt hx hb d_Md_outside_2 rfl (fun h1 => ?_) (fun h1 => ?_)
  · have g1 : v1.toInt < lo1.toInt := Int32.lt_iff_toInt_lt.mp h1
    have u1 := ti_hi lo1
    have w1 := ti_lo v1
    refine lv_iconst (v := 1) hx hb d_Md_outside_10 (by decide) ?_
    refine lv_goto hx hb d_Md_outside_11 rfl ?_
    exact W.zret (v := 1) hx hb hr (rfl) (fun t ht hW => ⟨⟨1, M, rfl, ⟨hI, hF, Or.inr ⟨rfl, by omega⟩⟩, by unfold ux_E; rw [ht]; exact hP⟩, hS.F ht⟩) hS.2.2 d_Md_outside_15
  · have g1 : ¬ (v1.toInt < lo1.toInt) := fun q => h1 (Int32.lt_iff_toInt_lt.mpr q)
    have u1 := ti_hi v1
    have w1 := ti_lo lo1
    refine lv_iload_n hx hb d_Md_outside_5 rfl (lv_at hl 0 rfl) ?_
    refine lv_iload_n hx hb d_Md_outside_6 rfl (lv_at hl 2 rfl) ?_
    refine lv_icmp_le hx hb d_Md_outside_7 rfl (fun h2 => ?_) (fun h2 => ?_)
    · have g2 : v1.toInt ≤ hi1.toInt := Int32.le_iff_toInt_le.mp h2
      have u2 := ti_hi hi1
      have w2 := ti_lo v1
      refine lv_iconst (v := 0) hx hb d_Md_outside_14 (by decide) ?_
      exact W.zret (v := 0) hx hb hr (rfl) (fun t ht hW => ⟨⟨0, M, rfl, ⟨hI, hF, Or.inl ⟨rfl, by omega⟩⟩, by unfold ux_E; rw [ht]; exact hP⟩, hS.F ht⟩) hS.2.2 d_Md_outside_15
    · have g2 : ¬ (v1.toInt ≤ hi1.toInt) := fun q => h2 (Int32.le_iff_toInt_le.mpr q)
      have u2 := ti_hi v1
      have w2 := ti_lo hi1
      refine lv_iconst (v := 1) hx hb d_Md_outside_10 (by decide) ?_
      refine lv_goto hx hb d_Md_outside_11 rfl ?_
      exact W.zret (v := 1) hx hb hr (rfl) (fun t ht hW => ⟨⟨1, M, rfl, ⟨hI, hF, Or.inr ⟨rfl, by omega⟩⟩, by unfold ux_E; rw [ht]; exact hP⟩, hS.F ht⟩) hS.2.2 d_Md_outside_15

set_option maxHeartbeats 1600000 in
set_option maxRecDepth 100000 in
theorem s_Md_enter0 (l : Launch) (D : va_G) (ad : Nat → Nat) (cA : Nat → ClassId) (A TB : Nat) (hA : A ≤ 100000000) (hB : TB ≤ 2000000000) (M : ux_M) (hI : IvM A TB M) (hlv : M 0 10 = -1) (hi1 : Nat) (hhi : hi1 ≤ 200) : Met l y_Md_enter w_Md_enter ({ frames := 2, cells := 0, slots := 0, locals := 42 }) (va_Pc [.ref (ad 0), .int 0, .int (nI hi1), .int 0] (ux_B D shM KM ad cA M)) (va_Qi (fun r M1 => IvM A TB M1 ∧ (∀ a b, ¬ mEn0 a b → M1 a b = M a b) ∧ (r = 1 ∧ M1 0 10 = 0 ∧ M1 0 23 = 0 ∧ M1 13 0 = 0 ∧ M1 9 0 = 0)) (ux_E D shM KM ad cA) (ux_A KM ad)) 0 0 (ux_A KM ad) := by
  refine Met.ofW (cc := b_Md_enter) (maxL := 5) (ret := (some .boolean)) (by decide) rfl ?_
  intro p e s m args below meth c s₁ B hml hv
  obtain ⟨rfl, hP, hK, hi, hN⟩ := hv
  have hx := B.exec
  have hb := B.bytes
  have hr := B.returns
  have hts := atoms_spec (ws := w_Md_enter) B.pre
  have hown : s.vm.findClass R_Md = some m.cls := findClass_of_methodNamed B.named
  have hlocks := B.notSynchronized
  have hT : ∀ w ∈ tb, w.before _ s = true := fun w h => hts w (List.mem_cons_of_mem _ h)
  have hS : va_S (ux_A KM ad) s.heap s.heap [] := va_S.rf
  have hl := lv_entry ([.ref (ad 0), .int 0, .int (nI hi1), .int 0]) (n := 5) (Nat.le_of_ble_eq_true rfl)
  rw [lg_entry_eq]
  generalize (lg_sl ([.ref (ad 0), .int 0, .int (nI hi1), .int 0]) ++ List.replicate (5 - (lg_sl ([.ref (ad 0), .int 0, .int (nI hi1), .int 0])).length) Slot.unset).toArray = ls at hl ⊢
  have hl : lv_has ls 5 [(0, .ref (ad 0)), (1, .int 0), (2, .int (nI hi1)), (3, .int 0)] := hl
  have hF : ∀ a b, ¬ mEn0 a b → M a b = M a b := fun _ _ _ => rfl
  refine lv_aload_n hx hb d_Md_enter_0 rfl (lv_at hl 0 rfl) ?_
  refine ux_get (C := R_Md) (T := F_Md) (N := 50) hx hb hT in_Md hown hK hP (by decide) rfl rfl 10 (by decide) (hT _ fl_Md_36) rfl d_Md_enter_1 ?_
  refine lv_topi (fun z1 hz1 => ?_)
  rw [show M 0 10 = -1 from hlv] at hz1
  rw [hz1]
  refine lv_bipush (v := 7) hx hb d_Md_enter_4 (by decide) ?_
  refine lv_icmp_lt hx hb d_Md_enter_6 rfl (fun _ => ?_) (fun hz => absurd (by decide) hz)
  refine lv_aload_n hx hb d_Md_enter_26 rfl (lv_at hl 0 rfl) ?_
  refine ux_get (C := R_Md) (T := F_Md) (N := 50) hx hb hT in_Md hown hK hP (by decide) rfl rfl 10 (by decide) (hT _ fl_Md_36) rfl d_Md_enter_27 ?_
  refine lv_topi (fun z2 hz2 => ?_)
  rw [show M 0 10 = -1 from hlv] at hz2
  rw [hz2]
  refine lv_if_ge hx hb d_Md_enter_30 rfl (fun hz => absurd hz (by decide)) (fun _ => ?_)
  refine lv_iconst (v := 0) hx hb d_Md_enter_33 (by decide) ?_
  refine lv_goto hx hb d_Md_enter_34 rfl ?_
  refine lv_istore hx hb d_Md_enter_46 hl (by decide) rfl (fun ls hl => ?_)
  have hl : lv_has ls 5 [(4, .int 0), (0, .ref (ad 0)), (1, .int 0), (2, .int (nI hi1)), (3, .int 0)] := hl
  refine lv_aload_n hx hb d_Md_enter_48 rfl (lv_at hl 1 rfl) ?_
  refine lv_dup hx hb d_Md_enter_49 rfl ?_
  refine ux_get (C := R_Md) (T := F_Md) (N := 50) hx hb hT in_Md hown hK hP (by decide) rfl rfl 10 (by decide) (hT _ fl_Md_36) rfl d_Md_enter_50 ?_
  refine lv_topi (fun z3 hz3 => ?_)
  rw [show M 0 10 = -1 from hlv] at hz3
  rw [hz3]
  refine lv_iconst (v := 1) hx hb d_Md_enter_53 (by decide) ?_
  refine lv_iadd hx hb d_Md_enter_54 ?_
  refine lv_topi (fun z4 hz4 => ?_)
  rw [show (-1 : Int32) + (1 : Int32) = 0 from rfl] at hz4
  rw [hz4]
  refine ux_put (C := R_Md) (T := F_Md) (N := 50) hx hb hT in_Md t_Md t_Md_ok n_Md hown hK hi hP hS (by decide) rfl rfl 10 (by decide) (hT _ fl_Md_36) rfl (rfl) (rfl) rfl d_Md_enter_55 (fun H locs hP hS => ?_)
  have hI := IvM_wr (k := 0) (j := 10) (v := 0) hI (show (-1 : Int) ≤ (0 : Int32).toInt from (by decide)) (show (0 : Int32).toInt ≤ (7 : Int) from (by first | decide | (show (0 : Int) ≤ _; omega))) (by unfold okW; omega)
  have hF := fr_wr (k := 0) (j := 10) (v := 0) hF (by unfold mEn0; omega)
  generalize eM5 : ux_wr M 0 10 0 = M5 at hP hI hF
  have tM5 : (M5 0 10).toInt = 0 := by rw [wr_at eM5]; rfl
  refine lv_aload_n hx hb d_Md_enter_58 rfl (lv_at hl 1 rfl) ?_
  refine ux_get (C := R_Md) (T := F_Md) (N := 50) hx hb hT in_Md hown hK hP (by decide) rfl rfl 11 (by decide) (hT _ fl_Md_40) rfl d_Md_enter_59 ?_
  refine lv_aload_n hx hb d_Md_enter_62 rfl (lv_at hl 1 rfl) ?_
  refine ux_get (C := R_Md) (T := F_Md) (N := 50) hx hb hT in_Md hown hK hP (by decide) rfl rfl 10 (by decide) (hT _ fl_Md_36) rfl d_Md_enter_63 ?_
  refine lv_topi (fun z6 hz6 => ?_)
  rw [show M5 0 10 = 0 from wr_at eM5] at hz6
  rw [hz6]
  refine lv_iload_n hx hb d_Md_enter_66 rfl (lv_at hl 2 rfl) ?_
  refine ux_iast hx hb hK hi hP hS (by decide) rfl (vi (by decide) (by decide)) d_Md_enter_67 (fun H locs hP hS => ?_)
  rw [show (0 : Int32).toNatClampNeg = 0 from rfl] at hP
  have hI := IvM_wr (k := 9) (j := 0) (v := 0) hI (show (0 : Int) ≤ (0 : Int32).toInt from (by decide)) (show (0 : Int32).toInt ≤ (A : Int) from (by first | decide | (show (0 : Int) ≤ _; omega))) (by unfold okW; omega)
  have hF := fr_wr (k := 9) (j := 0) (v := 0) hF (by unfold mEn0; omega)
  generalize eM7 : ux_wr M5 9 0 0 = M7 at hP hI hF
  have tM7 : (M7 9 0).toInt = 0 := by rw [wr_at eM7]; rfl
  refine lv_aload_n hx hb d_Md_enter_68 rfl (lv_at hl 1 rfl) ?_
  refine ux_get (C := R_Md) (T := F_Md) (N := 50) hx hb hT in_Md hown hK hP (by decide) rfl rfl 12 (by decide) (hT _ fl_Md_43) rfl d_Md_enter_69 ?_
  refine lv_aload_n hx hb d_Md_enter_72 rfl (lv_at hl 1 rfl) ?_
  refine ux_get (C := R_Md) (T := F_Md) (N := 50) hx hb hT in_Md hown hK hP (by decide) rfl rfl 10 (by decide) (hT _ fl_Md_36) rfl d_Md_enter_73 ?_
  refine lv_topi (fun z8 hz8 => ?_)
  rw [show M7 0 10 = 0 from (wr_off eM7 (by omega)).trans (wr_at eM5)] at hz8
  rw [hz8]
  refine lv_iload_n hx hb d_Md_enter_76 rfl (lv_at hl 3 rfl) ?_
  refine ux_iast hx hb hK hi hP hS (by decide) rfl (vi (by decide) (by decide)) d_Md_enter_77 (fun H locs hP hS => ?_)
  rw [show (0 : Int32).toNatClampNeg = 0 from rfl] at hP
  have hI := IvM_wr (k := 10) (j := 0) (v := nI hi1) hI (show (0 : Int) ≤ (nI hi1 : Int32).toInt from (by rw [nI_toInt (n := hi1) (by omega)]; omega)) (show (nI hi1 : Int32).toInt ≤ (200 : Int) from (by rw [nI_toInt (n := hi1) (by omega)]; omega)) (by unfold okW; omega)
  have hF := fr_wr (k := 10) (j := 0) (v := nI hi1) hF (by unfold mEn0; omega)
  generalize eM9 : ux_wr M7 10 0 (nI hi1) = M9 at hP hI hF
  have tM9 : (M9 10 0).toInt = ((hi1 : Nat) : Int) := by rw [wr_at eM9]; exact nI_toInt (by omega)
  refine lv_aload_n hx hb d_Md_enter_78 rfl (lv_at hl 1 rfl) ?_
  refine ux_get (C := R_Md) (T := F_Md) (N := 50) hx hb hT in_Md hown hK hP (by decide) rfl rfl 13 (by decide) (hT _ fl_Md_46) rfl d_Md_enter_79 ?_
  refine lv_aload_n hx hb d_Md_enter_82 rfl (lv_at hl 1 rfl) ?_
  refine ux_get (C := R_Md) (T := F_Md) (N := 50) hx hb hT in_Md hown hK hP (by decide) rfl rfl 10 (by decide) (hT _ fl_Md_36) rfl d_Md_enter_83 ?_
  refine lv_topi (fun z10 hz10 => ?_)
  rw [show M9 0 10 = 0 from (wr_off eM9 (by omega)).trans ((wr_off eM7 (by omega)).trans (wr_at eM5))] at hz10
  rw [hz10]
  refine lv_iload_n hx hb d_Md_enter_86 rfl (lv_at hl 4 rfl) ?_
  refine ux_iast hx hb hK hi hP hS (by decide) rfl (vi (by decide) (by decide)) d_Md_enter_87 (fun H locs hP hS => ?_)
  rw [show (0 : Int32).toNatClampNeg = 0 from rfl] at hP
  have hI := IvM_free (k := 11) (j := 0) (v := 0) hI rfl rfl (by unfold okW; omega)
  have hF := fr_wr (k := 11) (j := 0) (v := 0) hF (by unfold mEn0; omega)
  generalize eM11 : ux_wr M9 11 0 0 = M11 at hP hI hF
  refine lv_aload_n hx hb d_Md_enter_88 rfl (lv_at hl 1 rfl) ?_
  refine ux_get (C := R_Md) (T := F_Md) (N := 50) hx hb hT in_Md hown hK hP (by decide) rfl rfl 14 (by decide) (hT _ fl_Md_49) rfl d_Md_enter_89 ?_
  refine lv_aload_n hx hb d_Md_enter_92 rfl (lv_at hl 1 rfl) ?_
  refine ux_get (C := R_Md) (T := F_Md) (N := 50) hx hb hT in_Md hown hK hP (by decide) rfl rfl 10 (by decide) (hT _ fl_Md_36) rfl d_Md_enter_93 ?_
  refine lv_topi (fun z12 hz12 => ?_)
  rw [show M11 0 10 = 0 from (wr_off eM11 (by omega)).trans ((wr_off eM9 (by omega)).trans ((wr_off eM7 (by omega)).trans (wr_at eM5)))] at hz12
  rw [hz12]
  refine lv_iload hx hb d_Md_enter_96 (lv_at hl 0 rfl) ?_
  refine ux_iast hx hb hK hi hP hS (by decide) rfl (vi (by decide) (by decide)) d_Md_enter_98 (fun H locs hP hS => ?_)
  rw [show (0 : Int32).toNatClampNeg = 0 from rfl] at hP
  have hI := IvM_wr (k := 12) (j := 0) (v := 0) hI (show (0 : Int) ≤ (0 : Int32).toInt from (by decide)) (show (0 : Int32).toInt ≤ (7 : Int) from (by first | decide | (show (0 : Int) ≤ _; omega))) (by unfold okW; omega)
  have hF := fr_wr (k := 12) (j := 0) (v := 0) hF (by unfold mEn0; omega)
  generalize eM13 : ux_wr M11 12 0 0 = M13 at hP hI hF
  have tM13 : (M13 12 0).toInt = 0 := by rw [wr_at eM13]; rfl
  refine lv_aload_n hx hb d_Md_enter_99 rfl (lv_at hl 1 rfl) ?_
  refine ux_get (C := R_Md) (T := F_Md) (N := 50) hx hb hT in_Md hown hK hP (by decide) rfl rfl 15 (by decide) (hT _ fl_Md_52) rfl d_Md_enter_100 ?_
  refine lv_aload_n hx hb d_Md_enter_103 rfl (lv_at hl 1 rfl) ?_
  refine ux_get (C := R_Md) (T := F_Md) (N := 50) hx hb hT in_Md hown hK hP (by decide) rfl rfl 10 (by decide) (hT _ fl_Md_36) rfl d_Md_enter_104 ?_
  refine lv_topi (fun z14 hz14 => ?_)
  rw [show M13 0 10 = 0 from (wr_off eM13 (by omega)).trans ((wr_off eM11 (by omega)).trans ((wr_off eM9 (by omega)).trans ((wr_off eM7 (by omega)).trans (wr_at eM5))))] at hz14
  rw [hz14]
  refine lv_iconst (v := 0) hx hb d_Md_enter_107 (by decide) ?_
  refine ux_iast hx hb hK hi hP hS (by decide) rfl (vi (by decide) (by decide)) d_Md_enter_108 (fun H locs hP hS => ?_)
  rw [show (0 : Int32).toNatClampNeg = 0 from rfl] at hP
  have hI := IvM_free (k := 13) (j := 0) (v := 0) hI rfl rfl (by unfold okW; omega)
  have hF := fr_wr (k := 13) (j := 0) (v := 0) hF (by unfold mEn0; omega)
  generalize eM15 : ux_wr M13 13 0 0 = M15 at hP hI hF
  refine lv_aload_n hx hb d_Md_enter_109 rfl (lv_at hl 1 rfl) ?_
  refine ux_get (C := R_Md) (T := F_Md) (N := 50) hx hb hT in_Md hown hK hP (by decide) rfl rfl 16 (by decide) (hT _ fl_Md_55) rfl d_Md_enter_110 ?_
  refine lv_aload_n hx hb d_Md_enter_113 rfl (lv_at hl 1 rfl) ?_
  refine ux_get (C := R_Md) (T := F_Md) (N := 50) hx hb hT in_Md hown hK hP (by decide) rfl rfl 10 (by decide) (hT _ fl_Md_36) rfl d_Md_enter_114 ?_
  refine lv_topi (fun z16 hz16 => ?_)
  rw [show M15 0 10 = 0 from (wr_off eM15 (by omega)).trans ((wr_off eM13 (by omega)).trans ((wr_off eM11 (by omega)).trans ((wr_off eM9 (by omega)).trans ((wr_off eM7 (by omega)).trans (wr_at eM5)))))] at hz16
  rw [hz16]
  refine lv_iconst (v := 0) hx hb d_Md_enter_117 (by decide) ?_
  refine ux_iast hx hb hK hi hP hS (by decide) rfl (vi (by decide) (by decide)) d_Md_enter_118 (fun H locs hP hS => ?_)
  rw [show (0 : Int32).toNatClampNeg = 0 from rfl] at hP
  have hI := IvM_wr (k := 14) (j := 0) (v := 0) hI (show (0 : Int) ≤ (0 : Int32).toInt from (by decide)) (show (0 : Int32).toInt ≤ (8 : Int) from (by first | decide | (show (0 : Int) ≤ _; omega))) (by unfold okW; omega)
  have hF := fr_wr (k := 14) (j := 0) (v := 0) hF (by unfold mEn0; omega)
  generalize eM17 : ux_wr M15 14 0 0 = M17 at hP hI hF
  have tM17 : (M17 14 0).toInt = 0 := by rw [wr_at eM17]; rfl
  refine lv_aload_n hx hb d_Md_enter_119 rfl (lv_at hl 1 rfl) ?_
  refine ux_get (C := R_Md) (T := F_Md) (N := 50) hx hb hT in_Md hown hK hP (by decide) rfl rfl 17 (by decide) (hT _ fl_Md_58) rfl d_Md_enter_120 ?_
  refine lv_aload_n hx hb d_Md_enter_123 rfl (lv_at hl 1 rfl) ?_
  refine ux_get (C := R_Md) (T := F_Md) (N := 50) hx hb hT in_Md hown hK hP (by decide) rfl rfl 10 (by decide) (hT _ fl_Md_36) rfl d_Md_enter_124 ?_
  refine lv_topi (fun z18 hz18 => ?_)
  rw [show M17 0 10 = 0 from (wr_off eM17 (by omega)).trans ((wr_off eM15 (by omega)).trans ((wr_off eM13 (by omega)).trans ((wr_off eM11 (by omega)).trans ((wr_off eM9 (by omega)).trans ((wr_off eM7 (by omega)).trans (wr_at eM5))))))] at hz18
  rw [hz18]
  refine lv_iconst (v := 0) hx hb d_Md_enter_127 (by decide) ?_
  refine ux_iast hx hb hK hi hP hS (by decide) rfl (vi (by decide) (by decide)) d_Md_enter_128 (fun H locs hP hS => ?_)
  rw [show (0 : Int32).toNatClampNeg = 0 from rfl] at hP
  have hI := IvM_wr (k := 15) (j := 0) (v := 0) hI (show (0 : Int) ≤ (0 : Int32).toInt from (by decide)) (show (0 : Int32).toInt ≤ (20 : Int) from (by first | decide | (show (0 : Int) ≤ _; omega))) (by unfold okW; omega)
  have hF := fr_wr (k := 15) (j := 0) (v := 0) hF (by unfold mEn0; omega)
  generalize eM19 : ux_wr M17 15 0 0 = M19 at hP hI hF
  have tM19 : (M19 15 0).toInt = 0 := by rw [wr_at eM19]; rfl
  refine lv_aload_n hx hb d_Md_enter_129 rfl (lv_at hl 1 rfl) ?_
  refine lv_iconst (v := 0) hx hb d_Md_enter_130 (by decide) ?_
  refine ux_put (C := R_Md) (T := F_Md) (N := 50) hx hb hT in_Md t_Md t_Md_ok n_Md hown hK hi hP hS (by decide) rfl rfl 23 (by decide) (hT _ fl_Md_152) rfl (rfl) (rfl) rfl d_Md_enter_131 (fun H locs hP hS => ?_)
  have hI := IvM_free (k := 0) (j := 23) (v := 0) hI rfl rfl (by unfold okW; omega)
  have hF := fr_wr (k := 0) (j := 23) (v := 0) hF (by unfold mEn0; omega)
  generalize eM20 : ux_wr M19 0 23 0 = M20 at hP hI hF
  refine lv_iconst (v := 1) hx hb d_Md_enter_134 (by decide) ?_
  exact W.zret (v := 1) hx hb hr (rfl) (fun t ht hW => ⟨⟨1, M20, rfl, ⟨hI, hF, ⟨rfl, (wr_off eM20 (by omega)).trans ((wr_off eM19 (by omega)).trans ((wr_off eM17 (by omega)).trans ((wr_off eM15 (by omega)).trans ((wr_off eM13 (by omega)).trans ((wr_off eM11 (by omega)).trans ((wr_off eM9 (by omega)).trans ((wr_off eM7 (by omega)).trans (wr_at eM5)))))))), wr_at eM20, (wr_off eM20 (by omega)).trans ((wr_off eM19 (by omega)).trans ((wr_off eM17 (by omega)).trans (wr_at eM15))), (wr_off eM20 (by omega)).trans ((wr_off eM19 (by omega)).trans ((wr_off eM17 (by omega)).trans ((wr_off eM15 (by omega)).trans ((wr_off eM13 (by omega)).trans ((wr_off eM11 (by omega)).trans ((wr_off eM9 (by omega)).trans (wr_at eM7)))))))⟩⟩, by unfold ux_E; rw [ht]; exact hP⟩, hS.F ht⟩) hS.2.2 d_Md_enter_135
