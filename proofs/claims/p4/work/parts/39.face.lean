/-! The class's face, safe: written by wip/gen/cls.py -/
def tRun (a b : Nat) : Prop := ¬ (a = 14 ∧ b = 1) ∧ ¬ (a = 2 ∧ b = 4)

def rnd (M : ux_M) (f : Int32) : Int32 := if f < 1 then M 14 2 else if f ≤ 100 then 1 else M 14 2

set_option maxHeartbeats 1600000 in
set_option maxRecDepth 100000 in
theorem s_PS_run (l : Launch) (D : va_G) (ad : Nat → Nat) (cA : Nat → ClassId) (M : ux_M) (hI : IvX M) (adK adV : Nat → Nat) (fm : Value) (f : Int32) : Met l y_PS_run w_PS_run ({ frames := 80, cells := 0, slots := 0, locals := 3100 }) (va_Pc [.ref (ad 0), .int f] (ux_BZ D ad cA M adK adV fm)) (va_Qi (fun r M1 => IvX M1 ∧ (∀ a b, ¬ tRun a b → M1 a b = M a b) ∧ (M1 14 2 = rnd M f)) (ux_E D shX KX ad cA) (ux_A KX ad)) 0 0 (ux_A KX ad) := by
  refine Met.ofW (cc := b_PS_run) (maxL := 2) (ret := (some .int)) (by decide) rfl ?_
  intro p e s m args below meth c s₁ B hml hv
  obtain ⟨rfl, ⟨hP, hK, hi, hN⟩, hZ⟩ := hv
  have hx := B.exec
  have hb := B.bytes
  have hr := B.returns
  have hts := atoms_spec (ws := w_PS_run) B.pre
  have hown : s.vm.findClass R_PS = some m.cls := findClass_of_methodNamed B.named
  have hlocks := B.notSynchronized
  have hT : ∀ w ∈ tb, w.before _ s = true := fun w h => hts w (List.mem_cons_of_mem _ h)
  have hS : va_S (ux_A KX ad) s.heap s.heap [] := va_S.rf
  have hl := lv_entry ([.ref (ad 0), .int f]) (n := 2) (Nat.le_of_ble_eq_true rfl)
  rw [lg_entry_eq]
  generalize (lg_sl ([.ref (ad 0), .int f]) ++ List.replicate (2 - (lg_sl ([.ref (ad 0), .int f])).length) Slot.unset).toArray = ls at hl ⊢
  have hl : lv_has ls 2 [(0, .ref (ad 0)), (1, .int f)] := hl
  have hF : ∀ a b, ¬ tRun a b → M a b = M a b := fun _ _ _ => rfl
  refine lv_iload_n hx hb d_PS_run_0 rfl (lv_at hl 1 rfl) ?_
  refine lv_iconst (v := 1) hx hb d_PS_run_1 (by decide) ?_
  refine lv_icmp_lt hx hb d_PS_run_2 rfl (fun h1 => ?_) (fun h1 => ?_)
  · have g1 : f.toInt < 1 := Int32.lt_iff_toInt_lt.mp h1
    have w1 := ti_lo f
    refine lv_iconst (v := (-1)) hx hb d_PS_run_11 (by decide) ?_
    exact W.iret (v := -1) hx hb hr (fun t ht hW => ⟨⟨-1, M, rfl, ⟨hI, hF, (by unfold rnd; first | rw [if_pos (by assumption)] | rw [if_neg (by assumption), if_neg (by assumption)])⟩, by unfold ux_E; rw [ht]; exact hP⟩, hS.F ht⟩) hS.2.2 d_PS_run_12
  · have g1 : ¬ (f.toInt < 1) := fun q => h1 (Int32.lt_iff_toInt_lt.mpr q)
    have u1 := ti_hi f
    refine lv_iload_n hx hb d_PS_run_5 rfl (lv_at hl 1 rfl) ?_
    refine lv_bipush (v := 100) hx hb d_PS_run_6 (by decide) ?_
    refine lv_icmp_le hx hb d_PS_run_8 rfl (fun h2 => ?_) (fun h2 => ?_)
    · have g2 : f.toInt ≤ 100 := Int32.le_iff_toInt_le.mp h2
      have w2 := ti_lo f
      refine lv_aload_n hx hb d_PS_run_13 rfl (lv_at hl 0 rfl) ?_
      refine ux_get (C := R_PS) (T := F_PS) (N := 3) hx hb hT in_PS hown hK hP (by decide) rfl rfl 0 (by decide) (hT _ fl_PS_10) rfl d_PS_run_14 ?_
      refine lv_iconst (v := 1) hx hb d_PS_run_17 (by decide) ?_
      refine ux_putN (C := R_Tx) (T := F_Tx) (N := 3) hx hb hT in_Tx t_Tx t_Tx_ok n_Tx hown hK hi hP hS (by decide) rfl rfl 2 (by decide) (hN _ nf_PS_36) rfl (rfl) (rfl) rfl d_PS_run_18 (fun H locs hP hS => ?_)
      have hI := IvX_free (k := 14) (j := 2) (v := 1) hI (by unfold ppn; omega) (by unfold pch; omega)
      have hF := fr_wr (k := 14) (j := 2) (v := 1) hF (by unfold tRun; omega)
      generalize eM3 : ux_wr M 14 2 1 = M3 at hP hI hF
      refine lv_aload_n hx hb d_PS_run_21 rfl (lv_at hl 0 rfl) ?_
      refine ux_get (C := R_PS) (T := F_PS) (N := 3) hx hb hT in_PS hown hK hP (by decide) rfl rfl 2 (by decide) (hT _ fl_PS_28) rfl d_PS_run_22 ?_
      refine lv_iload_n hx hb d_PS_run_25 rfl (lv_at hl 1 rfl) ?_
      refine ux_putN (C := R_Rn) (T := F_Rn) (N := 9) hx hb hT in_Rn t_Rn t_Rn_ok n_Rn hown hK hi hP hS (by decide) rfl rfl 7 (by decide) (hN _ nf_PS_80) rfl (rfl) (rfl) rfl d_PS_run_26 (fun H locs hP hS => ?_)
      have hI := IvX_free (k := 13) (j := 7) (v := f) hI (by unfold ppn; omega) (by unfold pch; omega)
      have hF := fr_wr (k := 13) (j := 7) (v := f) hF (by unfold tRun; omega)
      generalize eM4 : ux_wr M3 13 7 f = M4 at hP hI hF
      refine lv_aload_n hx hb d_PS_run_29 rfl (lv_at hl 0 rfl) ?_
      refine ux_get (C := R_PS) (T := F_PS) (N := 3) hx hb hT in_PS hown hK hP (by decide) rfl rfl 2 (by decide) (hT _ fl_PS_28) rfl d_PS_run_30 ?_
      refine lv_iload_n hx hb d_PS_run_33 rfl (lv_at hl 1 rfl) ?_
      refine ux_putN (C := R_Rn) (T := F_Rn) (N := 9) hx hb hT in_Rn t_Rn t_Rn_ok n_Rn hown hK hi hP hS (by decide) rfl rfl 8 (by decide) (hN _ nf_PS_83) rfl (rfl) (rfl) rfl d_PS_run_34 (fun H locs hP hS => ?_)
      have hI := IvX_free (k := 13) (j := 8) (v := f) hI (by unfold ppn; omega) (by unfold pch; omega)
      have hF := fr_wr (k := 13) (j := 8) (v := f) hF (by unfold tRun; omega)
      generalize eM5 : ux_wr M4 13 8 f = M5 at hP hI hF
      refine lv_aload_n hx hb d_PS_run_37 rfl (lv_at hl 0 rfl) ?_
      refine ux_get (C := R_PS) (T := F_PS) (N := 3) hx hb hT in_PS hown hK hP (by decide) rfl rfl 2 (by decide) (hT _ fl_PS_28) rfl d_PS_run_38 ?_
      refine lv_aload_n hx hb d_PS_run_41 rfl (lv_at hl 0 rfl) ?_
      refine ux_get (C := R_PS) (T := F_PS) (N := 3) hx hb hT in_PS hown hK hP (by decide) rfl rfl 2 (by decide) (hT _ fl_PS_28) rfl d_PS_run_42 ?_
      refine lv_iconst (v := 0) hx hb d_PS_run_45 (by decide) ?_
      refine lv_aload_n hx hb d_PS_run_46 rfl (lv_at hl 0 rfl) ?_
      refine ux_get (C := R_PS) (T := F_PS) (N := 3) hx hb hT in_PS hown hK hP (by decide) rfl rfl 0 (by decide) (hT _ fl_PS_10) rfl d_PS_run_47 ?_
      refine ux_getN (C := R_Tx) (T := F_Tx) (N := 3) hx hb hT in_Tx hown hK hP (by decide) rfl rfl 1 (by decide) (hN _ nf_PS_40) rfl d_PS_run_50 ?_
      have b6 := iv0 (M := M5) (a := 14) (b := 1) hI (by unfold p0; omega)
      have b7 := iv200 (M := M5) (a := 14) (b := 1) hI (by unfold p200; omega)
      refine lv_iconst (v := 0) hx hb d_PS_run_53 (by decide) ?_
      refine lv_iconst (v := 0) hx hb d_PS_run_54 (by decide) ?_
      refine lv_iconst (v := 0) hx hb d_PS_run_55 (by decide) ?_
      refine ux_calli (va_runVN ⟨hx, hb, hml, hown, hts⟩ (RS_d l D ad cA adK adV fm 8 0 rfl M5 hI 0 (M5 14 1) 0 0 (Or.inl rfl)) ⟨va_cnB 5 hts (tb_good _ _ kt_Rn_runScript) rfl rfl rfl (hN _ nm_PS_86) (hT _ ii_Rn) (by decide +kernel) ⟨show 76 + 1 ≤ 80 by omega, show 8 + (9 + 11) + (3000) ≤ 3100 by omega⟩, hT _ im_Rn_runScript, hT _ se_Rn_runScript⟩ (ux_preVZ (by decide) rfl rfl hP hK hi hN hZ hS) rfl rfl hl.1 rfl (lv_room (Nat.le_of_ble_eq_true rfl)) d_PS_run_56 ⟨Nat.zero_le _, Nat.zero_le _⟩) hS (fun r8 M9 H locs q10 hP hS => ?_)
      obtain ⟨hI, fq10, q10p⟩ := q10
      have hF := fr_call hF fq10 (fun a b q => by unfold tR at q; unfold tRun; omega)
      refine ux_calli (va_runVN ⟨hx, hb, hml, hown, hts⟩ (s_Rn_leave l D ad cA M9 hI r8) ⟨va_cnB 1 hts (tb_good _ _ kt_Rn_leave) rfl rfl rfl (hN _ nm_PS_90) (hT _ ii_Rn) (by decide +kernel) ⟨show 2 + 1 ≤ 80 by omega, show 8 + (2 + 11) + (43) ≤ 3100 by omega⟩, hT _ im_Rn_leave, hT _ se_Rn_leave⟩ (ux_preV (by decide) rfl rfl hP hK hi hN) rfl rfl hl.1 rfl (lv_room (Nat.le_of_ble_eq_true rfl)) d_PS_run_59 ⟨Nat.zero_le _, Nat.zero_le _⟩) hS (fun r11 M12 H locs q13 hP hS => ?_)
      obtain ⟨hI, fq13, q13p⟩ := q13
      have hF := fr_call hF fq13 (fun a b q => by unfold tV at q; unfold tRun; omega)
      exact W.iret (v := r11) hx hb hr (fun t ht hW => ⟨⟨r11, M12, rfl, ⟨hI, hF, (by unfold rnd; rw [if_neg (by assumption), if_pos (by assumption)]; exact (fq13 _ _ (by unfold tV; omega)).trans ((fq10 _ _ (by unfold tR; omega)).trans ((wr_off eM5 (by omega)).trans ((wr_off eM4 (by omega)).trans (wr_at eM3)))))⟩, by unfold ux_E; rw [ht]; exact hP⟩, hS.F ht⟩) hS.2.2 d_PS_run_62
    · have g2 : ¬ (f.toInt ≤ 100) := fun q => h2 (Int32.le_iff_toInt_le.mpr q)
      have u2 := ti_hi f
      refine lv_iconst (v := (-1)) hx hb d_PS_run_11 (by decide) ?_
      exact W.iret (v := -1) hx hb hr (fun t ht hW => ⟨⟨-1, M, rfl, ⟨hI, hF, (by unfold rnd; first | rw [if_pos (by assumption)] | rw [if_neg (by assumption), if_neg (by assumption)])⟩, by unfold ux_E; rw [ht]; exact hP⟩, hS.F ht⟩) hS.2.2 d_PS_run_12

set_option maxHeartbeats 1600000 in
set_option maxRecDepth 100000 in
theorem s_Lg_beforeLatest (l : Launch) (D : va_G) (ad : Nat → Nat) (cA : Nat → ClassId) (M : ux_M) (hI : IvX M) (k : Int32) : Met l y_Lg_beforeLatest w_Lg_beforeLatest ({ frames := 2, cells := 0, slots := 0, locals := 42 }) (va_Pc [.ref (ad 11), .int k] (ux_B D shX KX ad cA M)) (va_Qi (fun r M1 => IvX M1 ∧ (∀ a b, ¬ tN a b → M1 a b = M a b) ∧ (True)) (ux_E D shX KX ad cA) (ux_A KX ad)) 0 0 (ux_A KX ad) := by
  refine Met.ofW (cc := b_Lg_beforeLatest) (maxL := 2) (ret := (some .int)) (by decide) rfl ?_
  intro p e s m args below meth c s₁ B hml hv
  obtain ⟨rfl, hP, hK, hi, hN⟩ := hv
  have hx := B.exec
  have hb := B.bytes
  have hr := B.returns
  have hts := atoms_spec (ws := w_Lg_beforeLatest) B.pre
  have hown : s.vm.findClass R_Lg = some m.cls := findClass_of_methodNamed B.named
  have hlocks := B.notSynchronized
  have hT : ∀ w ∈ tb, w.before _ s = true := fun w h => hts w (List.mem_cons_of_mem _ h)
  have hS : va_S (ux_A KX ad) s.heap s.heap [] := va_S.rf
  have hl := lv_entry ([.ref (ad 11), .int k]) (n := 2) (Nat.le_of_ble_eq_true rfl)
  rw [lg_entry_eq]
  generalize (lg_sl ([.ref (ad 11), .int k]) ++ List.replicate (2 - (lg_sl ([.ref (ad 11), .int k])).length) Slot.unset).toArray = ls at hl ⊢
  have hl : lv_has ls 2 [(0, .ref (ad 11)), (1, .int k)] := hl
  have hF : ∀ a b, ¬ tN a b → M a b = M a b := fun _ _ _ => rfl
  refine lv_iload_n hx hb d_Lg_beforeLatest_0 rfl (lv_at hl 1 rfl) ?_
  refine lv_if_lt hx hb d_Lg_beforeLatest_1 rfl (fun h1 => ?_) (fun h1 => ?_)
  · have g1 : k.toInt < 0 := Int32.lt_iff_toInt_lt.mp h1
    have w1 := ti_lo k
    refine lv_iconst (v := 0) hx hb d_Lg_beforeLatest_18 (by decide) ?_
    exact W.iret (v := 0) hx hb hr (fun t ht hW => ⟨⟨0, M, rfl, ⟨hI, hF, trivial⟩, by unfold ux_E; rw [ht]; exact hP⟩, hS.F ht⟩) hS.2.2 d_Lg_beforeLatest_19
  · have g1 : ¬ (k.toInt < 0) := fun q => h1 (Int32.lt_iff_toInt_lt.mpr q)
    have u1 := ti_hi k
    refine lv_iload_n hx hb d_Lg_beforeLatest_4 rfl (lv_at hl 1 rfl) ?_
    refine lv_bipush (v := 40) hx hb d_Lg_beforeLatest_5 (by decide) ?_
    refine lv_icmp_ge hx hb d_Lg_beforeLatest_7 rfl (fun h2 => ?_) (fun h2 => ?_)
    · have g2 : 40 ≤ k.toInt := Int32.le_iff_toInt_le.mp h2
      have u2 := ti_hi k
      refine lv_iconst (v := 0) hx hb d_Lg_beforeLatest_18 (by decide) ?_
      exact W.iret (v := 0) hx hb hr (fun t ht hW => ⟨⟨0, M, rfl, ⟨hI, hF, trivial⟩, by unfold ux_E; rw [ht]; exact hP⟩, hS.F ht⟩) hS.2.2 d_Lg_beforeLatest_19
    · have g2 : ¬ (40 ≤ k.toInt) := fun q => h2 (Int32.le_iff_toInt_le.mpr q)
      have w2 := ti_lo k
      refine lv_iload_n hx hb d_Lg_beforeLatest_10 rfl (lv_at hl 1 rfl) ?_
      refine lv_aload_n hx hb d_Lg_beforeLatest_11 rfl (lv_at hl 0 rfl) ?_
      refine ux_get (C := R_Lg) (T := F_Lg) (N := 2) hx hb hT in_Lg hown hK hP (by decide) rfl rfl 1 (by decide) (hT _ fl_Lg_15) rfl d_Lg_beforeLatest_12 ?_
      refine lv_icmp_lt hx hb d_Lg_beforeLatest_15 rfl (fun h3 => ?_) (fun h3 => ?_)
      · have g3 : k.toInt < (M 11 1).toInt := Int32.lt_iff_toInt_lt.mp h3
        have u3 := ti_hi (M 11 1)
        have w3 := ti_lo k
        refine lv_aload_n hx hb d_Lg_beforeLatest_20 rfl (lv_at hl 0 rfl) ?_
        refine ux_get (C := R_Lg) (T := F_Lg) (N := 2) hx hb hT in_Lg hown hK hP (by decide) rfl rfl 0 (by decide) (hT _ fl_Lg_9) rfl d_Lg_beforeLatest_21 ?_
        refine lv_aload_n hx hb d_Lg_beforeLatest_24 rfl (lv_at hl 0 rfl) ?_
        refine ux_get (C := R_Lg) (T := F_Lg) (N := 2) hx hb hT in_Lg hown hK hP (by decide) rfl rfl 1 (by decide) (hT _ fl_Lg_15) rfl d_Lg_beforeLatest_25 ?_
        refine lv_iconst (v := 1) hx hb d_Lg_beforeLatest_28 (by decide) ?_
        refine lv_isub hx hb d_Lg_beforeLatest_29 ?_
        refine lv_topi (fun x4 ex4 => ?_)
        try have fx4 : x4.toInt = (M 11 1).toInt - 1 := by rw [ex4]; exact ti_sub (by (try rw [show (1 : Int32).toInt = 1 from rfl]); omega) (by (try rw [show (1 : Int32).toInt = 1 from rfl]); omega)
        refine lv_iload_n hx hb d_Lg_beforeLatest_30 rfl (lv_at hl 1 rfl) ?_
        refine lv_isub hx hb d_Lg_beforeLatest_31 ?_
        refine lv_topi (fun x5 ex5 => ?_)
        try have fx5 : x5.toInt = x4.toInt - k.toInt := by rw [ex5]; exact ti_sub (by omega) (by omega)
        refine ux_calli (va_runS ⟨hx, hb, hml, hown, hts⟩ (s_Lg_placeOf l D ad cA M hI x5) (va_cwS 1 hts (tb_goodST ml_Lg_19 sm_Lg_placeOf ii_Lg kt_Lg_placeOf) rfl rfl rfl (by decide +kernel) ⟨Nat.le_of_ble_eq_true rfl, Nat.le_of_ble_eq_true rfl⟩) (ux_pre hP hK hi hN) rfl rfl hl.1 rfl (lv_room (Nat.le_of_ble_eq_true rfl)) d_Lg_beforeLatest_32 ⟨Nat.zero_le _, Nat.zero_le _⟩) hS (fun r6 M7 H locs q8 hP hS => ?_)
        obtain ⟨hI, fq8, q8p⟩ := q8
        rw [tN_eq fq8] at hP hI
        refine ux_iald hx hb hK hP (by decide) rfl ((vi (show 0 ≤ r6.toInt by omega) (show r6.toInt < ((40 : Nat) : Int) by omega))) d_Lg_beforeLatest_35 ?_
        exact W.iret (v := M 12 r6.toNatClampNeg) hx hb hr (fun t ht hW => ⟨⟨M 12 r6.toNatClampNeg, M, rfl, ⟨hI, hF, trivial⟩, by unfold ux_E; rw [ht]; exact hP⟩, hS.F ht⟩) hS.2.2 d_Lg_beforeLatest_36
      · have g3 : ¬ (k.toInt < (M 11 1).toInt) := fun q => h3 (Int32.lt_iff_toInt_lt.mpr q)
        have u3 := ti_hi k
        have w3 := ti_lo (M 11 1)
        refine lv_iconst (v := 0) hx hb d_Lg_beforeLatest_18 (by decide) ?_
        exact W.iret (v := 0) hx hb hr (fun t ht hW => ⟨⟨0, M, rfl, ⟨hI, hF, trivial⟩, by unfold ux_E; rw [ht]; exact hP⟩, hS.F ht⟩) hS.2.2 d_Lg_beforeLatest_19

set_option maxHeartbeats 1600000 in
set_option maxRecDepth 100000 in
theorem s_PS_talked (l : Launch) (D : va_G) (ad : Nat → Nat) (cA : Nat → ClassId) (M : ux_M) (hI : IvX M) (k : Int32) : Met l y_PS_talked w_PS_talked ({ frames := 3, cells := 0, slots := 0, locals := 63 }) (va_Pc [.ref (ad 0), .int k] (ux_B D shX KX ad cA M)) (va_Qi (fun r M1 => IvX M1 ∧ (∀ a b, ¬ tN a b → M1 a b = M a b) ∧ (True)) (ux_E D shX KX ad cA) (ux_A KX ad)) 0 0 (ux_A KX ad) := by
  refine Met.ofW (cc := b_PS_talked) (maxL := 2) (ret := (some .int)) (by decide) rfl ?_
  intro p e s m args below meth c s₁ B hml hv
  obtain ⟨rfl, hP, hK, hi, hN⟩ := hv
  have hx := B.exec
  have hb := B.bytes
  have hr := B.returns
  have hts := atoms_spec (ws := w_PS_talked) B.pre
  have hown : s.vm.findClass R_PS = some m.cls := findClass_of_methodNamed B.named
  have hlocks := B.notSynchronized
  have hT : ∀ w ∈ tb, w.before _ s = true := fun w h => hts w (List.mem_cons_of_mem _ h)
  have hS : va_S (ux_A KX ad) s.heap s.heap [] := va_S.rf
  have hl := lv_entry ([.ref (ad 0), .int k]) (n := 2) (Nat.le_of_ble_eq_true rfl)
  rw [lg_entry_eq]
  generalize (lg_sl ([.ref (ad 0), .int k]) ++ List.replicate (2 - (lg_sl ([.ref (ad 0), .int k])).length) Slot.unset).toArray = ls at hl ⊢
  have hl : lv_has ls 2 [(0, .ref (ad 0)), (1, .int k)] := hl
  have hF : ∀ a b, ¬ tN a b → M a b = M a b := fun _ _ _ => rfl
  refine lv_aload_n hx hb d_PS_talked_0 rfl (lv_at hl 0 rfl) ?_
  refine ux_get (C := R_PS) (T := F_PS) (N := 3) hx hb hT in_PS hown hK hP (by decide) rfl rfl 1 (by decide) (hT _ fl_PS_19) rfl d_PS_talked_1 ?_
  refine ux_getN (C := R_Pe) (T := F_Pe) (N := 10) hx hb hT in_Pe hown hK hP (by decide) rfl rfl 9 (by decide) (hN _ nf_PS_123) rfl d_PS_talked_4 ?_
  refine lv_iload_n hx hb d_PS_talked_7 rfl (lv_at hl 1 rfl) ?_
  refine ux_calli (va_runV ⟨hx, hb, hml, hown, hts⟩ (s_Lg_beforeLatest l D ad cA M hI k) (cwV 1 hts (tb_goodV ml_PS_130 im_Lg_beforeLatest se_Lg_beforeLatest ii_Lg kt_Lg_beforeLatest) rfl rfl rfl (by decide +kernel) ⟨Nat.le_of_ble_eq_true rfl, Nat.le_of_ble_eq_true rfl⟩) (ux_preV (by decide) rfl rfl hP hK hi hN) rfl rfl hl.1 rfl (lv_room (Nat.le_of_ble_eq_true rfl)) d_PS_talked_8 ⟨Nat.zero_le _, Nat.zero_le _⟩) hS (fun r1 M2 H locs q3 hP hS => ?_)
  obtain ⟨hI, fq3, q3p⟩ := q3
  rw [tN_eq fq3] at hP hI
  exact W.iret (v := r1) hx hb hr (fun t ht hW => ⟨⟨r1, M, rfl, ⟨hI, hF, trivial⟩, by unfold ux_E; rw [ht]; exact hP⟩, hS.F ht⟩) hS.2.2 d_PS_talked_11

theorem IvX_put {M : ux_M} (hI : IvX M) (ch : Int32) : IvX (mput M ch) := by
  have h0 := iv0 (a := 14) (b := 1) hI (by unfold p0; omega)
  unfold mput
  by_cases h : (¬ pr ch = 0 ∨ ch = 10) ∧ M 14 2 = 0 ∧ M 14 1 < 200
  · rw [if_pos h]
    have h1 : (M 14 1).toInt < 200 := Int32.lt_iff_toInt_lt.mp h.2.2
    have h2 : (M 14 1 + 1).toInt = (M 14 1).toInt + 1 := ti_add (by rw [show (1 : Int32).toInt = 1 from rfl]; omega) (by rw [show (1 : Int32).toInt = 1 from rfl]; omega)
    exact IvX_wr (IvX_ch hI (by unfold ppn; omega) (nar_c _)) (fun _ => by omega) (fun q => by unfold p8 at q; omega) (fun q => by unfold p20 at q; omega) (fun q => by unfold p40 at q; omega) (fun _ => by omega) (fun q => by unfold pch at q; omega)
  · rw [if_neg h]; exact hI
theorem IvX_lit {M : ux_M} {k j : Nat} (hI : IvX M) (h : ¬ pch k) : IvX (ux_wr M k j 0) := IvX_wr hI (fun _ => by decide) (fun _ => by decide) (fun _ => by decide) (fun _ => by decide) (fun _ => by decide) (fun q => absurd q h)
theorem IvX_msa {M : ux_M} (hI : IvX M) : IvX (msa M) := vem_I (IvX_lit (IvX_lit (IvX_lit hI (by unfold pch; omega)) (by unfold pch; omega)) (by unfold pch; omega)) (fun b => by unfold ppn; omega) (by unfold pch; omega)
theorem IvX_mar {M : ux_M} (hI : IvX M) (a b d f : Int32) : IvX (mar M a b d f) := by
  have h0 := iv0 (a := 2) (b := 4) hI (by unfold p0; omega)
  unfold mar
  by_cases h : M 2 4 < 20
  · rw [if_pos h]
    have h1 : (M 2 4).toInt < 20 := Int32.lt_iff_toInt_lt.mp h
    have h2 : (M 2 4 + 1).toInt = (M 2 4).toInt + 1 := ti_add (by rw [show (1 : Int32).toInt = 1 from rfl]; omega) (by rw [show (1 : Int32).toInt = 1 from rfl]; omega)
    exact IvX_wr (IvX_free (IvX_free (IvX_free (IvX_free hI (by unfold ppn; omega) (by unfold pch; omega)) (by unfold ppn; omega) (by unfold pch; omega)) (by unfold ppn; omega) (by unfold pch; omega)) (by unfold ppn; omega) (by unfold pch; omega)) (fun _ => by omega) (fun q => by unfold p8 at q; omega) (fun _ => by omega) (fun q => by unfold p40 at q; omega) (fun q => by unfold p200 at q; omega) (fun q => by unfold pch at q; omega)
  · rw [if_neg h]; exact hI
