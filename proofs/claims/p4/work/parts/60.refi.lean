/-! The reference, safe: the levels of a run; written by wip/gen/ref.py -/
def mRd (L a b : Nat) : Prop := (a = 0 ∧ b ≠ 1 ∧ b ≠ 2 ∧ b ≠ 27 ∧ b ≠ 39) ∨ (2 ≤ a ∧ a ≤ 8) ∨ (9 ≤ a ∧ a ≤ 15 ∧ (b = L + 1 ∨ (b = L ∧ a ≠ 11))) ∨ a = 16 ∨ (17 ≤ a ∧ a ≤ 19 ∧ 8 * L ≤ b) ∨ (a = 20 ∧ 160 * L ≤ b) ∨ (21 ≤ a ∧ a ≤ 25) ∨ 30 ≤ a
def OpW (M : ux_M) (i : Nat) : Prop := ∃ cw : Nat, M 14 i = nI cw ∧ cw ≤ 7 ∧ M 17 (8 * i + cw) = 0
def JmT (M : ux_M) (i : Nat) : Prop := ¬ M 13 i = 0 → OpW M i
def JmU (M : ux_M) (i : Nat) : Prop := (M 11 (i + 1) = 1 ↔ ¬ M 13 i = 0) ∧ (M 11 (i + 1) = 3 → ¬ M 17 (8 * i + 1) = 0 ∧ ¬ M 17 (8 * i + 2) = 0) ∧ (M 11 (i + 1) = 5 → (M 14 i).toInt = 3 → nmK M (8 * i + 2) 97)
def Nx (Z : Nat) (M1 : ux_M) (L : Nat) : Prop := JmT M1 L ∧ (M1 9 L).toInt ≤ (Z : Int) + 2 ∧ ((M1 0 10 = nI L ∧ (M1 0 23 = 1 → M1 0 24 = 0 → M1 13 L = 0)) ∨ (L ≤ 6 ∧ M1 0 10 = nI (L + 1) ∧ M1 0 23 = 0 ∧ JmU M1 L ∧ JmT M1 (L + 1) ∧ (M1 9 (L + 1)).toInt ≤ (Z : Int) + 2))
theorem Nx_0 {Z L : Nat} {M1 : ux_M} (hl : M1 0 10 = nI L) (hm : M1 13 L = 0) (ha : (M1 9 L).toInt ≤ (Z : Int) + 2) : Nx Z M1 L := ⟨fun q => absurd hm q, ha, Or.inl ⟨hl, fun _ _ => hm⟩⟩
theorem Nx_1 {Z L : Nat} {M1 : ux_M} (hl : M1 0 10 = nI L) (hw : OpW M1 L) (hs : M1 0 23 = 1 → M1 0 24 = 1) (ha : (M1 9 L).toInt ≤ (Z : Int) + 2) : Nx Z M1 L := ⟨fun _ => hw, ha, Or.inl ⟨hl, fun q z => absurd ((hs q).symm.trans z) (by decide)⟩⟩
theorem OutS_Nx {Z L : Nat} {M M1 : ux_M} (hF : ∀ a b, ¬ mCm L a b → M1 a b = M a b) (hm : M 13 L = 0) (hz : (M 9 L).toInt ≤ (Z : Int) + 2) (hz2 : 200 ≤ Z) (q : OutS M M1 L) : Nx Z M1 L := by
  have hm1 : M1 13 L = 0 := (hF 13 L (by unfold mCm; omega)).trans hm
  have ha1 : (M1 9 L).toInt ≤ (Z : Int) + 2 := by rw [hF 9 L (by unfold mCm; omega)]; exact hz
  rcases q with ⟨q, _⟩ | ⟨h1, h2, h3, h4, h5, h6, u1, u2, u3⟩
  · exact Nx_0 q hm1 ha1
  · refine ⟨fun q => absurd hm1 q, ha1, Or.inr ⟨h1, h2, h3, ⟨⟨fun q => absurd q u1, fun q => absurd hm1 q⟩, fun z => ?_, fun z z2 => ?_⟩, fun q => absurd h4 q, by omega⟩⟩
    · rw [hF 17 (8 * L + 1) (by unfold mCm; omega), hF 17 (8 * L + 2) (by unfold mCm; omega)]
      exact u2 z
    · exact nmK_cong (fun a b q => hF a b (by unfold mCm; omega)) (u3 z (by rw [← hF 14 L (by unfold mCm; omega)]; exact z2))
theorem IvM_two {A B : Nat} {M M2 : ux_M} {j : Nat} {b : Int32} (hI : IvM A B M) (e : ux_wr M 17 j b = M2) : IvM A B (ux_wr M2 19 j 0) := by
  subst e
  refine ⟨IvM_at (IvM_at hI.1 (ti_lo b) (ti_hi b)) (show (0 : Int) ≤ 0 from Int.le_refl 0) (show (0 : Int) ≤ 200 by decide), fun i hi => ?_, ?_⟩
  · by_cases h : i = j
    · subst h
      rw [ux_wr_at]
      refine ⟨fun _ => by decide, fun _ => ?_⟩
      rw [ux_wr_off (by omega), ux_wr_off (by omega), show (0 : Int32).toInt = 0 from rfl]
      have h := (hI.1 18 i).2
      have h2 : hiM A 18 i = 200 := rfl
      omega
    · rw [ux_wr_off (by omega), ux_wr_off (by omega), ux_wr_off (by omega), ux_wr_off (by omega), ux_wr_off (by omega), ux_wr_off (by omega)]
      exact hI.2.1 i hi
  · have h := hI.2.2
    unfold Ft at h ⊢
    rw [ux_wr_off (by omega), ux_wr_off (by omega), ux_wr_off (by omega), ux_wr_off (by omega), ux_wr_off (by omega), ux_wr_off (by omega)]
    exact h
def mWe (L a b : Nat) : Prop := (a = 0 ∧ (b = 25 ∨ b = 23 ∨ b = 24)) ∨ a = 21 ∨ ((a = 14 ∨ a = 13) ∧ b = L)
def mPi (L i a b : Nat) : Prop := (a = 19 ∧ b = i) ∨ (a = 20 ∧ 20 * i ≤ b) ∨ (a = 0 ∧ (b = 25 ∨ b = 23 ∨ b = 24)) ∨ a = 21 ∨ (a = 9 ∧ b = L)

set_option maxHeartbeats 1600000 in
set_option maxRecDepth 100000 in
theorem s_Md_wordEnds (l : Launch) (D : va_G) (ad : Nat → Nat) (cA : Nat → ClassId) (A TB : Nat) (hA : A ≤ 100000000) (hB : TB ≤ 2000000000) (M : ux_M) (hI : IvM A TB M) (L : Nat) (hL : L ≤ 7) (hlv : M 0 10 = nI L) (cw : Nat) (hcw : M 14 L = nI cw) (hc7 : cw ≤ 7) (cl : Int32) : Met l y_Md_wordEnds w_Md_wordEnds ({ frames := 3, cells := 0, slots := 0, locals := 60 }) (va_Pc [.ref (ad 0), .int cl] (ux_B D shM KM ad cA M)) (va_Qv (fun M1 => IvM A TB M1 ∧ (∀ a b, ¬ (mWe L) a b → M1 a b = M a b) ∧ ((M1 0 23 = 1 ∧ M1 0 24 = 1 ∧ M1 13 L = M 13 L ∧ M1 14 L = M 14 L) ∨ (M1 13 L = 0 ∧ M1 0 23 = M 0 23 ∧ M1 0 24 = M 0 24))) (ux_E D shM KM ad cA) (ux_A KM ad)) 0 0 (ux_A KM ad) := by
  refine Met.ofW (cc := b_Md_wordEnds) (maxL := 2) (ret := none) (by decide) rfl ?_
  intro p e s m args below meth c s₁ B hml hv
  obtain ⟨rfl, hP, hK, hi, hN⟩ := hv
  have hx := B.exec
  have hb := B.bytes
  have hr := B.returns
  have hts := atoms_spec (ws := w_Md_wordEnds) B.pre
  have hown : s.vm.findClass R_Md = some m.cls := findClass_of_methodNamed B.named
  have hlocks := B.notSynchronized
  have hT : ∀ w ∈ tb, w.before _ s = true := fun w h => hts w (List.mem_cons_of_mem _ h)
  have hS : va_S (ux_A KM ad) s.heap s.heap [] := va_S.rf
  have hl := lv_entry ([.ref (ad 0), .int cl]) (n := 2) (Nat.le_of_ble_eq_true rfl)
  rw [lg_entry_eq]
  generalize (lg_sl ([.ref (ad 0), .int cl]) ++ List.replicate (2 - (lg_sl ([.ref (ad 0), .int cl])).length) Slot.unset).toArray = ls at hl ⊢
  have hl : lv_has ls 2 [(0, .ref (ad 0)), (1, .int cl)] := hl
  have hF : ∀ a b, ¬ (mWe L) a b → M a b = M a b := fun _ _ _ => rfl
  refine lv_iload_n hx hb d_Md_wordEnds_0 rfl (lv_at hl 1 rfl) ?_
  refine lv_if_eq hx hb d_Md_wordEnds_1 rfl (fun h1 => ?_) (fun h1 => ?_)
  · have g1 : cl.toInt = 0 := congrArg Int32.toInt h1
    refine lv_aload_n hx hb d_Md_wordEnds_26 rfl (lv_at hl 0 rfl) ?_
    refine ux_get (C := R_Md) (T := F_Md) (N := 50) hx hb hT in_Md hown hK hP (by decide) rfl rfl 16 (by decide) (hT _ fl_Md_55) rfl d_Md_wordEnds_27 ?_
    refine lv_aload_n hx hb d_Md_wordEnds_30 rfl (lv_at hl 0 rfl) ?_
    refine ux_get (C := R_Md) (T := F_Md) (N := 50) hx hb hT in_Md hown hK hP (by decide) rfl rfl 10 (by decide) (hT _ fl_Md_36) rfl d_Md_wordEnds_31 ?_
    refine lv_topi (fun z2 hz2 => ?_)
    rw [show M 0 10 = nI L from hlv] at hz2
    rw [hz2]
    refine lv_dup2_11 hx hb d_Md_wordEnds_34 rfl rfl ?_
    refine ux_iald hx hb hK hP (by decide) rfl (vp_in_nI (show L < 8 by omega) (by decide)) d_Md_wordEnds_35 ?_
    rw [nI_clamp (n := L) (by omega)]
    refine lv_topi (fun z3 hz3 => ?_)
    rw [show M 14 L = nI cw from hcw] at hz3
    rw [hz3]
    refine lv_iconst (v := 1) hx hb d_Md_wordEnds_36 (by decide) ?_
    refine lv_iadd hx hb d_Md_wordEnds_37 ?_
    refine lv_topi (fun z4 hz4 => ?_)
    rw [show (nI cw) + (1 : Int32) = nI (cw + 1) from nI_add cw 1] at hz4
    rw [hz4]
    refine ux_iast hx hb hK hi hP hS (by decide) rfl (vp_in_nI (show L < 8 by omega) (by decide)) d_Md_wordEnds_38 (fun H locs hP hS => ?_)
    rw [nI_clamp (n := L) (by omega)] at hP
    have hI := IvM_wr (k := 14) (j := L) (v := nI (cw + 1)) hI (show (0 : Int) ≤ (nI (cw + 1) : Int32).toInt from (by rw [nI_toInt (n := cw + 1) (by omega)]; omega)) (show (nI (cw + 1) : Int32).toInt ≤ (8 : Int) from (by rw [nI_toInt (n := cw + 1) (by omega)]; omega)) (by unfold okW; omega)
    have hF := fr_wr (k := 14) (j := L) (v := nI (cw + 1)) hF (by unfold mWe; omega)
    generalize eM5 : ux_wr M 14 L (nI (cw + 1)) = M5 at hP hI hF
    have tM5 : (M5 14 L).toInt = ((cw + 1 : Nat) : Int) := by rw [wr_at eM5]; exact nI_toInt (by omega)
    refine lv_aload_n hx hb d_Md_wordEnds_39 rfl (lv_at hl 0 rfl) ?_
    refine ux_get (C := R_Md) (T := F_Md) (N := 50) hx hb hT in_Md hown hK hP (by decide) rfl rfl 15 (by decide) (hT _ fl_Md_52) rfl d_Md_wordEnds_40 ?_
    refine lv_aload_n hx hb d_Md_wordEnds_43 rfl (lv_at hl 0 rfl) ?_
    refine ux_get (C := R_Md) (T := F_Md) (N := 50) hx hb hT in_Md hown hK hP (by decide) rfl rfl 10 (by decide) (hT _ fl_Md_36) rfl d_Md_wordEnds_44 ?_
    refine lv_topi (fun z6 hz6 => ?_)
    rw [show M5 0 10 = nI L from (wr_off eM5 (by omega)).trans (hlv)] at hz6
    rw [hz6]
    refine lv_iconst (v := 0) hx hb d_Md_wordEnds_47 (by decide) ?_
    refine ux_iast hx hb hK hi hP hS (by decide) rfl (vp_in_nI (show L < 8 by omega) (by decide)) d_Md_wordEnds_48 (fun H locs hP hS => ?_)
    rw [nI_clamp (n := L) (by omega)] at hP
    have hI := IvM_free (k := 13) (j := L) (v := 0) hI rfl rfl (by unfold okW; omega)
    have hF := fr_wr (k := 13) (j := L) (v := 0) hF (by unfold mWe; omega)
    generalize eM7 : ux_wr M5 13 L 0 = M7 at hP hI hF
    exact W.vret hx hb hr (fun t ht hW => ⟨⟨M7, rfl, ⟨hI, hF, Or.inr ⟨wr_at eM7, (wr_off eM7 (by omega)).trans (wr_off eM5 (by omega)), (wr_off eM7 (by omega)).trans (wr_off eM5 (by omega))⟩⟩, by unfold ux_E; rw [ht]; exact hP⟩, hS.F ht⟩) hS.2.2 d_Md_wordEnds_49
  · have g1 : ¬ (cl.toInt = 0) := fun q => h1 (Int32.toInt_inj.mp q)
    refine lv_aload_n hx hb d_Md_wordEnds_4 rfl (lv_at hl 0 rfl) ?_
    refine ux_calli (va_runV ⟨hx, hb, hml, hown, hts⟩ (s_Md_closes l D ad cA A TB hA hB  M hI L hL (hlv)) (cwV 0 hts (tb_goodV ml_Md_190 im_Md_closes se_Md_closes ii_Md kt_Md_closes) rfl rfl rfl (by decide +kernel) ⟨Nat.le_of_ble_eq_true rfl, Nat.le_of_ble_eq_true rfl⟩) (ux_preV (by decide) rfl rfl hP hK hi hN) rfl rfl hl.1 rfl (lv_room (Nat.le_of_ble_eq_true rfl)) d_Md_wordEnds_5 ⟨Nat.zero_le _, Nat.zero_le _⟩) hS (fun r8 M9 H locs q10 hP hS => ?_)
    obtain ⟨hI, fq10, q10p⟩ := q10
    rw [tN_eq fq10] at hP hI
    have q10i : (r8.toInt = 0 ∧ (M 9 L).toInt < (M 10 L).toInt) ∨ r8.toInt = 1 := by rcases q10p.1 with q | q <;> rw [q] <;> first | exact Or.inl ⟨rfl, q10p.2 q⟩ | exact Or.inr rfl
    have q10j : (M 10 L).toInt ≤ 200 := (hI.1 10 L).2
    refine lv_if_ne hx hb d_Md_wordEnds_8 rfl (fun h11 => ?_) (fun h11 => ?_)
    · have g11 : ¬ (r8.toInt = 0) := fun q => h11 (Int32.toInt_inj.mp q)
      refine lv_aload_n hx hb d_Md_wordEnds_26 rfl (lv_at hl 0 rfl) ?_
      refine ux_get (C := R_Md) (T := F_Md) (N := 50) hx hb hT in_Md hown hK hP (by decide) rfl rfl 16 (by decide) (hT _ fl_Md_55) rfl d_Md_wordEnds_27 ?_
      refine lv_aload_n hx hb d_Md_wordEnds_30 rfl (lv_at hl 0 rfl) ?_
      refine ux_get (C := R_Md) (T := F_Md) (N := 50) hx hb hT in_Md hown hK hP (by decide) rfl rfl 10 (by decide) (hT _ fl_Md_36) rfl d_Md_wordEnds_31 ?_
      refine lv_topi (fun z12 hz12 => ?_)
      rw [show M 0 10 = nI L from hlv] at hz12
      rw [hz12]
      refine lv_dup2_11 hx hb d_Md_wordEnds_34 rfl rfl ?_
      refine ux_iald hx hb hK hP (by decide) rfl (vp_in_nI (show L < 8 by omega) (by decide)) d_Md_wordEnds_35 ?_
      rw [nI_clamp (n := L) (by omega)]
      refine lv_topi (fun z13 hz13 => ?_)
      rw [show M 14 L = nI cw from hcw] at hz13
      rw [hz13]
      refine lv_iconst (v := 1) hx hb d_Md_wordEnds_36 (by decide) ?_
      refine lv_iadd hx hb d_Md_wordEnds_37 ?_
      refine lv_topi (fun z14 hz14 => ?_)
      rw [show (nI cw) + (1 : Int32) = nI (cw + 1) from nI_add cw 1] at hz14
      rw [hz14]
      refine ux_iast hx hb hK hi hP hS (by decide) rfl (vp_in_nI (show L < 8 by omega) (by decide)) d_Md_wordEnds_38 (fun H locs hP hS => ?_)
      rw [nI_clamp (n := L) (by omega)] at hP
      have hI := IvM_wr (k := 14) (j := L) (v := nI (cw + 1)) hI (show (0 : Int) ≤ (nI (cw + 1) : Int32).toInt from (by rw [nI_toInt (n := cw + 1) (by omega)]; omega)) (show (nI (cw + 1) : Int32).toInt ≤ (8 : Int) from (by rw [nI_toInt (n := cw + 1) (by omega)]; omega)) (by unfold okW; omega)
      have hF := fr_wr (k := 14) (j := L) (v := nI (cw + 1)) hF (by unfold mWe; omega)
      generalize eM15 : ux_wr M 14 L (nI (cw + 1)) = M15 at hP hI hF
      have tM15 : (M15 14 L).toInt = ((cw + 1 : Nat) : Int) := by rw [wr_at eM15]; exact nI_toInt (by omega)
      refine lv_aload_n hx hb d_Md_wordEnds_39 rfl (lv_at hl 0 rfl) ?_
      refine ux_get (C := R_Md) (T := F_Md) (N := 50) hx hb hT in_Md hown hK hP (by decide) rfl rfl 15 (by decide) (hT _ fl_Md_52) rfl d_Md_wordEnds_40 ?_
      refine lv_aload_n hx hb d_Md_wordEnds_43 rfl (lv_at hl 0 rfl) ?_
      refine ux_get (C := R_Md) (T := F_Md) (N := 50) hx hb hT in_Md hown hK hP (by decide) rfl rfl 10 (by decide) (hT _ fl_Md_36) rfl d_Md_wordEnds_44 ?_
      refine lv_topi (fun z16 hz16 => ?_)
      rw [show M15 0 10 = nI L from (wr_off eM15 (by omega)).trans (hlv)] at hz16
      rw [hz16]
      refine lv_iconst (v := 0) hx hb d_Md_wordEnds_47 (by decide) ?_
      refine ux_iast hx hb hK hi hP hS (by decide) rfl (vp_in_nI (show L < 8 by omega) (by decide)) d_Md_wordEnds_48 (fun H locs hP hS => ?_)
      rw [nI_clamp (n := L) (by omega)] at hP
      have hI := IvM_free (k := 13) (j := L) (v := 0) hI rfl rfl (by unfold okW; omega)
      have hF := fr_wr (k := 13) (j := L) (v := 0) hF (by unfold mWe; omega)
      generalize eM17 : ux_wr M15 13 L 0 = M17 at hP hI hF
      exact W.vret hx hb hr (fun t ht hW => ⟨⟨M17, rfl, ⟨hI, hF, Or.inr ⟨wr_at eM17, (wr_off eM17 (by omega)).trans (wr_off eM15 (by omega)), (wr_off eM17 (by omega)).trans (wr_off eM15 (by omega))⟩⟩, by unfold ux_E; rw [ht]; exact hP⟩, hS.F ht⟩) hS.2.2 d_Md_wordEnds_49
    · have g11 : r8.toInt = 0 := congrArg Int32.toInt h11
      refine lv_aload_n hx hb d_Md_wordEnds_11 rfl (lv_at hl 0 rfl) ?_
      refine ux_calli (va_runV ⟨hx, hb, hml, hown, hts⟩ (s_Md_here l D ad cA A TB hA hB  M hI L hL (hlv)) (cwV 0 hts (tb_goodV ml_Md_180 im_Md_here se_Md_here ii_Md kt_Md_here) rfl rfl rfl (by decide +kernel) ⟨Nat.le_of_ble_eq_true rfl, Nat.le_of_ble_eq_true rfl⟩) (ux_preV (by decide) rfl rfl hP hK hi hN) rfl rfl hl.1 rfl (lv_room (Nat.le_of_ble_eq_true rfl)) d_Md_wordEnds_12 ⟨Nat.zero_le _, Nat.zero_le _⟩) hS (fun r18 M19 H locs q20 hP hS => ?_)
      obtain ⟨hI, fq20, q20p⟩ := q20
      rw [tN_eq fq20] at hP hI
      obtain ⟨c21, hc21, ec21⟩ := nat_of (x := r18) (n := 65535) (q20p).1 (q20p).2
      subst ec21
      refine lv_bipush (v := 32) hx hb d_Md_wordEnds_15 (by decide) ?_
      refine lv_icmp_eq hx hb d_Md_wordEnds_17 rfl (fun h22 => ?_) (fun h22 => ?_)
      · have g22 : ((c21 : Nat) : Int) = 32 := by have q := congrArg Int32.toInt h22; rw [nI_toInt (n := c21) (by omega)] at q; exact q
        refine lv_aload_n hx hb d_Md_wordEnds_26 rfl (lv_at hl 0 rfl) ?_
        refine ux_get (C := R_Md) (T := F_Md) (N := 50) hx hb hT in_Md hown hK hP (by decide) rfl rfl 16 (by decide) (hT _ fl_Md_55) rfl d_Md_wordEnds_27 ?_
        refine lv_aload_n hx hb d_Md_wordEnds_30 rfl (lv_at hl 0 rfl) ?_
        refine ux_get (C := R_Md) (T := F_Md) (N := 50) hx hb hT in_Md hown hK hP (by decide) rfl rfl 10 (by decide) (hT _ fl_Md_36) rfl d_Md_wordEnds_31 ?_
        refine lv_topi (fun z23 hz23 => ?_)
        rw [show M 0 10 = nI L from hlv] at hz23
        rw [hz23]
        refine lv_dup2_11 hx hb d_Md_wordEnds_34 rfl rfl ?_
        refine ux_iald hx hb hK hP (by decide) rfl (vp_in_nI (show L < 8 by omega) (by decide)) d_Md_wordEnds_35 ?_
        rw [nI_clamp (n := L) (by omega)]
        refine lv_topi (fun z24 hz24 => ?_)
        rw [show M 14 L = nI cw from hcw] at hz24
        rw [hz24]
        refine lv_iconst (v := 1) hx hb d_Md_wordEnds_36 (by decide) ?_
        refine lv_iadd hx hb d_Md_wordEnds_37 ?_
        refine lv_topi (fun z25 hz25 => ?_)
        rw [show (nI cw) + (1 : Int32) = nI (cw + 1) from nI_add cw 1] at hz25
        rw [hz25]
        refine ux_iast hx hb hK hi hP hS (by decide) rfl (vp_in_nI (show L < 8 by omega) (by decide)) d_Md_wordEnds_38 (fun H locs hP hS => ?_)
        rw [nI_clamp (n := L) (by omega)] at hP
        have hI := IvM_wr (k := 14) (j := L) (v := nI (cw + 1)) hI (show (0 : Int) ≤ (nI (cw + 1) : Int32).toInt from (by rw [nI_toInt (n := cw + 1) (by omega)]; omega)) (show (nI (cw + 1) : Int32).toInt ≤ (8 : Int) from (by rw [nI_toInt (n := cw + 1) (by omega)]; omega)) (by unfold okW; omega)
        have hF := fr_wr (k := 14) (j := L) (v := nI (cw + 1)) hF (by unfold mWe; omega)
        generalize eM26 : ux_wr M 14 L (nI (cw + 1)) = M26 at hP hI hF
        have tM26 : (M26 14 L).toInt = ((cw + 1 : Nat) : Int) := by rw [wr_at eM26]; exact nI_toInt (by omega)
        refine lv_aload_n hx hb d_Md_wordEnds_39 rfl (lv_at hl 0 rfl) ?_
        refine ux_get (C := R_Md) (T := F_Md) (N := 50) hx hb hT in_Md hown hK hP (by decide) rfl rfl 15 (by decide) (hT _ fl_Md_52) rfl d_Md_wordEnds_40 ?_
        refine lv_aload_n hx hb d_Md_wordEnds_43 rfl (lv_at hl 0 rfl) ?_
        refine ux_get (C := R_Md) (T := F_Md) (N := 50) hx hb hT in_Md hown hK hP (by decide) rfl rfl 10 (by decide) (hT _ fl_Md_36) rfl d_Md_wordEnds_44 ?_
        refine lv_topi (fun z27 hz27 => ?_)
        rw [show M26 0 10 = nI L from (wr_off eM26 (by omega)).trans (hlv)] at hz27
        rw [hz27]
        refine lv_iconst (v := 0) hx hb d_Md_wordEnds_47 (by decide) ?_
        refine ux_iast hx hb hK hi hP hS (by decide) rfl (vp_in_nI (show L < 8 by omega) (by decide)) d_Md_wordEnds_48 (fun H locs hP hS => ?_)
        rw [nI_clamp (n := L) (by omega)] at hP
        have hI := IvM_free (k := 13) (j := L) (v := 0) hI rfl rfl (by unfold okW; omega)
        have hF := fr_wr (k := 13) (j := L) (v := 0) hF (by unfold mWe; omega)
        generalize eM28 : ux_wr M26 13 L 0 = M28 at hP hI hF
        exact W.vret hx hb hr (fun t ht hW => ⟨⟨M28, rfl, ⟨hI, hF, Or.inr ⟨wr_at eM28, (wr_off eM28 (by omega)).trans (wr_off eM26 (by omega)), (wr_off eM28 (by omega)).trans (wr_off eM26 (by omega))⟩⟩, by unfold ux_E; rw [ht]; exact hP⟩, hS.F ht⟩) hS.2.2 d_Md_wordEnds_49
      · have g22 : ¬ (((c21 : Nat) : Int) = 32) := fun q => h22 (Int32.toInt_inj.mp (by rw [nI_toInt (n := c21) (by omega)]; exact q))
        refine lv_aload_n hx hb d_Md_wordEnds_20 rfl (lv_at hl 0 rfl) ?_
        refine lv_iconst (v := 1) hx hb d_Md_wordEnds_21 (by decide) ?_
        refine ux_callv (va_runV ⟨hx, hb, hml, hown, hts⟩ (s_Md_error l D ad cA A TB hA hB  M hI 1) (cwV 1 hts (tb_goodV ml_Md_166 im_Md_error se_Md_error ii_Md kt_Md_error) rfl rfl rfl (by decide +kernel) ⟨Nat.le_of_ble_eq_true rfl, Nat.le_of_ble_eq_true rfl⟩) (ux_preV (by decide) rfl rfl hP hK hi hN) rfl rfl hl.1 rfl (lv_room (Nat.le_of_ble_eq_true rfl)) d_Md_wordEnds_22 ⟨Nat.zero_le _, Nat.zero_le _⟩) hS (fun M30 H locs q31 hP hS => ?_)
        obtain ⟨hI, fq31, q31p⟩ := q31
        have hF := fr_call hF fq31 (fun a b q => by unfold mEr at q; unfold mWe; omega)
        exact W.vret hx hb hr (fun t ht hW => ⟨⟨M30, rfl, ⟨hI, hF, Or.inl ⟨q31p.1, q31p.2, fq31 _ _ (by unfold mEr; omega), fq31 _ _ (by unfold mEr; omega)⟩⟩, by unfold ux_E; rw [ht]; exact hP⟩, hS.F ht⟩) hS.2.2 d_Md_wordEnds_25
