/-! The reference, safe: commands and scripts ended; written by wip/gen/ref.py -/
def Jm (Z : Nat) (M : ux_M) (L : Nat) : Prop := (∀ i, i ≤ L → JmT M i ∧ (M 9 i).toInt ≤ (Z : Int)) ∧ (∀ i, i < L → JmU M i) ∧ (M 0 23 = 1 → M 0 24 = 0 → M 13 L = 0)
def RunJ (Z : Nat) (M : ux_M) : Prop := M 0 10 = -1 ∨ ∃ L, L ≤ 7 ∧ M 0 10 = nI L ∧ Jm Z M L
theorem nmK_at {M M1 : ux_M} {i : Nat} {f : Int32} (h1 : M1 19 i = M 19 i) (h2 : M1 17 i = M 17 i) (h3 : M1 18 i = M 18 i) (h4 : M1 20 (20 * i + 0) = M 20 (20 * i + 0)) (h5 : ∀ b, M1 1 b = M 1 b) (q : nmK M i f) : nmK M1 i f := by
  unfold nmK chv at q ⊢
  rw [h1, h2, h3, h4, h5]
  exact q
theorem Nx_low {L i : Nat} {M M1 : ux_M} (hF : ∀ a b, ¬ mRd L a b → M1 a b = M a b) (hi : i < L) (h1 : JmT M i) (h3 : JmU M i) : JmT M1 i ∧ JmU M1 i := by
  have e1 : M1 14 i = M 14 i := hF _ _ (by unfold mRd; omega)
  have e2 : M1 13 i = M 13 i := hF _ _ (by unfold mRd; omega)
  have e3 : M1 11 (i + 1) = M 11 (i + 1) := hF _ _ (by unfold mRd; omega)
  have e4 : ∀ w, w ≤ 7 → M1 17 (8 * i + w) = M 17 (8 * i + w) := fun w hw => hF _ _ (by unfold mRd; omega)
  refine ⟨fun q => ?_, ?_⟩
  · obtain ⟨cw, a, b, c⟩ := h1 (by rw [← e2]; exact q)
    exact ⟨cw, e1.trans a, b, (e4 cw b).trans c⟩
  · unfold JmU
    rw [e1, e2, e3, e4 1 (by omega), e4 2 (by omega)]
    exact ⟨h3.1, h3.2.1, fun z z2 => nmK_at (hF _ _ (by unfold mRd; omega)) (e4 2 (by omega)) (hF _ _ (by unfold mRd; omega)) (hF _ _ (by unfold mRd; omega)) (fun b => hF _ _ (by unfold mRd; omega)) (h3.2.2 z z2)⟩
theorem Nx_Jm {Z L : Nat} {M M1 : ux_M} (hF : ∀ a b, ¬ mRd L a b → M1 a b = M a b) (hL : L ≤ 7) (h1 : ∀ i, i < L → JmT M i) (h2 : ∀ i, i < L → (M 9 i).toInt ≤ (Z : Int)) (h3 : ∀ i, i < L → JmU M i) (q : Nx Z M1 L) : RunJ (Z + 2) M1 := by
  have l1 : ∀ i, i < L → JmT M1 i ∧ JmU M1 i := fun i hi => Nx_low hF hi (h1 i hi) (h3 i hi)
  have l2 : ∀ i, i < L → (M1 9 i).toInt ≤ ((Z + 2 : Nat) : Int) := fun i hi => by
    have e : M1 9 i = M 9 i := hF _ _ (by unfold mRd; omega)
    rw [e]
    have := h2 i hi
    omega
  obtain ⟨t1, t2, t3 | ⟨u1, u2, u3, u4, u5, u6⟩⟩ := q
  · refine Or.inr ⟨L, hL, t3.1, fun i hi => ?_, fun i hi => (l1 i hi).2, t3.2⟩
    by_cases e : i = L
    · subst e; exact ⟨t1, by omega⟩
    · exact ⟨(l1 i (by omega)).1, l2 i (by omega)⟩
  · refine Or.inr ⟨L + 1, by omega, u2, fun i hi => ?_, fun i hi => ?_, fun z => absurd (u3.symm.trans z) (by decide)⟩
    · by_cases e : i = L + 1
      · subst e; exact ⟨u5, by omega⟩
      · by_cases e2 : i = L
        · subst e2; exact ⟨t1, by omega⟩
        · exact ⟨(l1 i (by omega)).1, l2 i (by omega)⟩
    · by_cases e2 : i = L
      · subst e2; exact u4
      · exact (l1 i (by omega)).2
theorem RunJ_mono {Z Z1 : Nat} {M : ux_M} (h : RunJ Z M) (hz : Z ≤ Z1) : RunJ Z1 M := by
  rcases h with h | ⟨L, a, b, j1, j2, j3⟩
  · exact Or.inl h
  · exact Or.inr ⟨L, a, b, fun i hi => ⟨(j1 i hi).1, by have := (j1 i hi).2; omega⟩, j2, j3⟩
def mS0 (a b : Nat) : Prop := a = 0 ∧ b = 10

set_option maxHeartbeats 1600000 in
set_option maxRecDepth 100000 in
theorem s_Md_commandEnded (l : Launch) (D : va_G) (ad : Nat → Nat) (cA : Nat → ClassId) (A TB : Nat) (hA : A ≤ 100000000) (hB : TB ≤ 2000000000) (M : ux_M) (hI : IvM A TB M) (L : Nat) (hL : L ≤ 7) (hlv : M 0 10 = nI L) (Z an : Nat) (han : M 9 L = nI an) (hz : an ≤ Z) (hzA : Z + 2 ≤ A) (hjt : JmT M L) (hc0 : M 0 24 = 0 → M 13 L = 0) : Met l y_Md_commandEnded w_Md_commandEnded ({ frames := 0, cells := 0, slots := 0, locals := 0 }) (va_Pc [.ref (ad 0)] (ux_B D shM KM ad cA M)) (va_Qv (fun M1 => IvM A TB M1 ∧ (∀ a b, ¬ (mRd L) a b → M1 a b = M a b) ∧ (Nx Z M1 L)) (ux_E D shM KM ad cA) (ux_A KM ad)) 0 0 (ux_A KM ad) := by
  refine Met.ofW (cc := b_Md_commandEnded) (maxL := 2) (ret := none) (by decide) rfl ?_
  intro p e s m args below meth c s₁ B hml hv
  obtain ⟨rfl, hP, hK, hi, hN⟩ := hv
  have hx := B.exec
  have hb := B.bytes
  have hr := B.returns
  have hts := atoms_spec (ws := w_Md_commandEnded) B.pre
  have hown : s.vm.findClass R_Md = some m.cls := findClass_of_methodNamed B.named
  have hlocks := B.notSynchronized
  have hT : ∀ w ∈ tb, w.before _ s = true := fun w h => hts w (List.mem_cons_of_mem _ h)
  have hS : va_S (ux_A KM ad) s.heap s.heap [] := va_S.rf
  have hl := lv_entry ([.ref (ad 0)]) (n := 2) (Nat.le_of_ble_eq_true rfl)
  rw [lg_entry_eq]
  generalize (lg_sl ([.ref (ad 0)]) ++ List.replicate (2 - (lg_sl ([.ref (ad 0)])).length) Slot.unset).toArray = ls at hl ⊢
  have hl : lv_has ls 2 [(0, .ref (ad 0))] := hl
  have hF : ∀ a b, ¬ (mRd L) a b → M a b = M a b := fun _ _ _ => rfl
  refine lv_aload_n hx hb d_Md_commandEnded_0 rfl (lv_at hl 0 rfl) ?_
  refine ux_get (C := R_Md) (T := F_Md) (N := 50) hx hb hT in_Md hown hK hP (by decide) rfl rfl 24 (by decide) (hT _ fl_Md_149) rfl d_Md_commandEnded_1 ?_
  refine lv_if_eq hx hb d_Md_commandEnded_4 rfl (fun h1 => ?_) (fun h1 => ?_)
  · have g1 : (M 0 24).toInt = 0 := congrArg Int32.toInt h1
    have hm0 : M 13 L = 0 := hc0 (by assumption)
    refine lv_aload_n hx hb d_Md_commandEnded_13 rfl (lv_at hl 0 rfl) ?_
    have cut28 : ∀ (nn : Nat) (k1 : Nat) (Mc28 : ux_M) (H : Heap) (locs : List Loc) (ls : Array Slot), 20 - k1 = nn → (k1 ≤ 20) → (Mc28 0 10 = nI L) → (Mc28 13 L = 0) → (Mc28 9 L = nI an) → va_P D classes (ux_w shM KM ad cA Mc28) H → IvM A TB Mc28 → (∀ a b, ¬ (mRd L) a b → Mc28 a b = M a b) → va_S (ux_A KM ad) s.heap H locs → lv_has ls 2 [(0, .ref (ad 0)), (1, .int (nI k1))] → W p l e (headSpec w_Md_commandEnded ({ frames := 0, cells := 0, slots := 0, locals := 0 })).room s m (([.ref (ad 0)] : List Value).toArray) below meth c H locs 0 0 (MQ below (va_Qv (fun M1 => IvM A TB M1 ∧ (∀ a b, ¬ (mRd L) a b → M1 a b = M a b) ∧ (Nx Z M1 L)) (ux_E D shM KM ad cA) (ux_A KM ad)) (([.ref (ad 0)] : List Value).toArray) s 0 0 (ux_A KM ad)) (F0 m 28 ls []) := by
      intro nn
      induction nn using Nat.strongRecOn with
      | ind nn ih28 =>
        intro k1 Mc28 H locs ls hn c28_0 c28_1 c28_2 c28_3 hP hI hF hS hl
        refine lv_iload_n hx hb d_Md_commandEnded_28 rfl (lv_at hl 1 rfl) ?_
        refine lv_aload_n hx hb d_Md_commandEnded_29 rfl (lv_at hl 0 rfl) ?_
        refine ux_get (C := R_Md) (T := F_Md) (N := 50) hx hb hT in_Md hown hK hP (by decide) rfl rfl 25 (by decide) (hT _ fl_Md_135) rfl d_Md_commandEnded_30 ?_
        refine lv_topi (fun z3 hz3 => ?_)
        obtain ⟨c2, hc2, ec2⟩ := nat_of (x := Mc28 0 25) (n := 20) (hI.1 0 25).1 (hI.1 0 25).2
        rw [ec2] at hz3
        rw [hz3]
        have tc2 : (Mc28 0 25).toInt = (c2 : Int) := by rw [ec2]; exact nI_toInt (by omega)
        refine lv_icmp_ge hx hb d_Md_commandEnded_33 rfl (fun h4 => ?_) (fun h4 => ?_)
        · have g4 : ((c2 : Nat) : Int) ≤ ((k1 : Nat) : Int) := by have q := Int32.le_iff_toInt_le.mp h4; rw [nI_toInt (n := c2) (by omega), nI_toInt (n := k1) (by omega)] at q; exact q
          refine lv_aload_n hx hb d_Md_commandEnded_62 rfl (lv_at hl 0 rfl) ?_
          refine ux_get (C := R_Md) (T := F_Md) (N := 50) hx hb hT in_Md hown hK hP (by decide) rfl rfl 16 (by decide) (hT _ fl_Md_55) rfl d_Md_commandEnded_63 ?_
          refine lv_aload_n hx hb d_Md_commandEnded_66 rfl (lv_at hl 0 rfl) ?_
          refine ux_get (C := R_Md) (T := F_Md) (N := 50) hx hb hT in_Md hown hK hP (by decide) rfl rfl 10 (by decide) (hT _ fl_Md_36) rfl d_Md_commandEnded_67 ?_
          refine lv_topi (fun z5 hz5 => ?_)
          rw [show Mc28 0 10 = nI L from c28_1] at hz5
          rw [hz5]
          refine lv_iconst (v := 0) hx hb d_Md_commandEnded_70 (by decide) ?_
          refine ux_iast hx hb hK hi hP hS (by decide) rfl (vp_in_nI (show L < 8 by omega) (by decide)) d_Md_commandEnded_71 (fun H locs hP hS => ?_)
          rw [nI_clamp (n := L) (by omega)] at hP
          have hI := IvM_wr (k := 14) (j := L) (v := 0) hI (show (0 : Int) ≤ (0 : Int32).toInt from (by decide)) (show (0 : Int32).toInt ≤ (8 : Int) from (by first | decide | (show (0 : Int) ≤ _; omega))) (by unfold okW; omega)
          have hF := fr_wr (k := 14) (j := L) (v := 0) hF (by unfold mRd; omega)
          generalize eM6 : ux_wr Mc28 14 L 0 = M6 at hP hI hF
          have tM6 : (M6 14 L).toInt = 0 := by rw [wr_at eM6]; rfl
          refine lv_aload_n hx hb d_Md_commandEnded_72 rfl (lv_at hl 0 rfl) ?_
          refine lv_iconst (v := 0) hx hb d_Md_commandEnded_73 (by decide) ?_
          refine ux_put (C := R_Md) (T := F_Md) (N := 50) hx hb hT in_Md t_Md t_Md_ok n_Md hown hK hi hP hS (by decide) rfl rfl 23 (by decide) (hT _ fl_Md_152) rfl (rfl) (rfl) rfl d_Md_commandEnded_74 (fun H locs hP hS => ?_)
          have hI := IvM_free (k := 0) (j := 23) (v := 0) hI rfl rfl (by unfold okW; omega)
          have hF := fr_wr (k := 0) (j := 23) (v := 0) hF (by unfold mRd; omega)
          generalize eM7 : ux_wr M6 0 23 0 = M7 at hP hI hF
          exact W.vret hx hb hr (fun t ht hW => ⟨⟨M7, rfl, ⟨hI, hF, (Nx_0 ((wr_off eM7 (by omega)).trans ((wr_off eM6 (by omega)).trans (c28_1))) ((wr_off eM7 (by omega)).trans ((wr_off eM6 (by omega)).trans (c28_2))) (by rw [(wr_off eM7 (by omega)).trans ((wr_off eM6 (by omega)).trans (c28_3)), nI_toInt (n := an) (by omega)]; omega))⟩, by unfold ux_E; rw [ht]; exact hP⟩, hS.F ht⟩) hS.2.2 d_Md_commandEnded_77
        · have g4 : ¬ (((c2 : Nat) : Int) ≤ ((k1 : Nat) : Int)) := fun q => h4 (Int32.le_iff_toInt_le.mpr (by rw [nI_toInt (n := c2) (by omega), nI_toInt (n := k1) (by omega)]; exact q))
          refine lv_aload_n hx hb d_Md_commandEnded_36 rfl (lv_at hl 0 rfl) ?_
          refine ux_get (C := R_Md) (T := F_Md) (N := 50) hx hb hT in_Md hown hK hP (by decide) rfl rfl 18 (by decide) (hT _ fl_Md_61) rfl d_Md_commandEnded_37 ?_
          refine lv_bipush (v := 20) hx hb d_Md_commandEnded_40 (by decide) ?_
          refine lv_aload_n hx hb d_Md_commandEnded_42 rfl (lv_at hl 0 rfl) ?_
          refine ux_get (C := R_Md) (T := F_Md) (N := 50) hx hb hT in_Md hown hK hP (by decide) rfl rfl 10 (by decide) (hT _ fl_Md_36) rfl d_Md_commandEnded_43 ?_
          refine lv_topi (fun z8 hz8 => ?_)
          rw [show Mc28 0 10 = nI L from c28_1] at hz8
          rw [hz8]
          refine lv_imul hx hb d_Md_commandEnded_46 ?_
          refine lv_topi (fun z9 hz9 => ?_)
          rw [show (20 : Int32) * (nI L) = nI (20 * L) from pk_mul 20 L] at hz9
          rw [hz9]
          refine lv_iload_n hx hb d_Md_commandEnded_47 rfl (lv_at hl 1 rfl) ?_
          refine lv_iadd hx hb d_Md_commandEnded_48 ?_
          refine lv_topi (fun z10 hz10 => ?_)
          rw [show (nI (20 * L)) + (nI k1) = nI ((20 * L) + k1) from nI_add (20 * L) k1] at hz10
          rw [hz10]
          refine lv_aload_n hx hb d_Md_commandEnded_49 rfl (lv_at hl 0 rfl) ?_
          refine ux_get (C := R_Md) (T := F_Md) (N := 50) hx hb hT in_Md hown hK hP (by decide) rfl rfl 26 (by decide) (hT _ fl_Md_76) rfl d_Md_commandEnded_50 ?_
          refine lv_iload_n hx hb d_Md_commandEnded_53 rfl (lv_at hl 1 rfl) ?_
          refine ux_cald hx hb hK hP (by decide) rfl (vp_in_nI (show k1 < 20 by omega) (by decide)) d_Md_commandEnded_54 ?_
          rw [nI_clamp (n := k1) (by omega)]
          refine lv_topi (fun z12 hz12 => ?_)
          obtain ⟨c11, hc11, ec11⟩ := nat_of (x := Mc28 21 k1) (n := 65535) (hI.1 21 k1).1 (hI.1 21 k1).2
          rw [ec11] at hz12
          rw [hz12]
          have tc11 : (Mc28 21 k1).toInt = (c11 : Int) := by rw [ec11]; exact nI_toInt (by omega)
          refine ux_cast hx hb hK hi hP hS (by decide) rfl (vp_in_nI (show (20 * L) + k1 < 160 by omega) (by decide)) d_Md_commandEnded_55 (fun H locs hP hS => ?_)
          have b13 := nar_c (nI c11)
          rw [nI_clamp (n := (20 * L) + k1) (by omega)] at hP
          have hI := IvM_wr (k := 16) (j := (20 * L) + k1) (v := vp_nar .char (nI c11)) hI (show (0 : Int) ≤ (vp_nar .char (nI c11) : Int32).toInt from (by omega)) (show (vp_nar .char (nI c11) : Int32).toInt ≤ (65535 : Int) from (by omega)) (by unfold okW; omega)
          have hF := fr_wr (k := 16) (j := (20 * L) + k1) (v := vp_nar .char (nI c11)) hF (by unfold mRd; omega)
          generalize eM14 : ux_wr Mc28 16 ((20 * L) + k1) (vp_nar .char (nI c11)) = M14 at hP hI hF
          have tM14 : (M14 16 ((20 * L) + k1)).toInt = (vp_nar .char (nI c11)).toInt := by rw [wr_at eM14]
          refine lv_iinc (k := 1) (v := nI (k1 + 1)) hx hb d_Md_commandEnded_56 hl rfl (nI_add k1 1) (by decide) rfl (fun ls hl => ?_)
          have hl : lv_has ls 2 [(1, .int (nI (k1 + 1))), (0, .ref (ad 0))] := hl
          refine lv_goto hx hb d_Md_commandEnded_59 rfl ?_
          exact ih28 (20 - (k1 + 1)) (by omega) (k1 + 1) M14 _ _ ls rfl (show (k1 + 1) ≤ 20 from by first | omega | assumption | exact Or.inl rfl | exact Or.inr rfl | rfl | decide) (show M14 0 10 = nI L from by first | exact ((wr_off eM14 (by omega)).trans (c28_1))) (show M14 13 L = 0 from by first | exact (wr_off eM14 (by omega)).trans (c28_2)) (show M14 9 L = nI an from by first | exact (wr_off eM14 (by omega)).trans (c28_3)) hP hI hF hS (lv_sub hl [1, 0] rfl)
    refine ux_get (C := R_Md) (T := F_Md) (N := 50) hx hb hT in_Md hown hK hP (by decide) rfl rfl 17 (by decide) (hT _ fl_Md_58) rfl d_Md_commandEnded_14 ?_
    refine lv_aload_n hx hb d_Md_commandEnded_17 rfl (lv_at hl 0 rfl) ?_
    refine ux_get (C := R_Md) (T := F_Md) (N := 50) hx hb hT in_Md hown hK hP (by decide) rfl rfl 10 (by decide) (hT _ fl_Md_36) rfl d_Md_commandEnded_18 ?_
    refine lv_topi (fun z15 hz15 => ?_)
    rw [show M 0 10 = nI L from hlv] at hz15
    rw [hz15]
    refine lv_aload_n hx hb d_Md_commandEnded_21 rfl (lv_at hl 0 rfl) ?_
    refine ux_get (C := R_Md) (T := F_Md) (N := 50) hx hb hT in_Md hown hK hP (by decide) rfl rfl 25 (by decide) (hT _ fl_Md_135) rfl d_Md_commandEnded_22 ?_
    refine lv_topi (fun z17 hz17 => ?_)
    obtain ⟨c16, hc16, ec16⟩ := nat_of (x := M 0 25) (n := 20) (hI.1 0 25).1 (hI.1 0 25).2
    rw [ec16] at hz17
    rw [hz17]
    have tc16 : (M 0 25).toInt = (c16 : Int) := by rw [ec16]; exact nI_toInt (by omega)
    refine ux_iast hx hb hK hi hP hS (by decide) rfl (vp_in_nI (show L < 8 by omega) (by decide)) d_Md_commandEnded_25 (fun H locs hP hS => ?_)
    rw [nI_clamp (n := L) (by omega)] at hP
    have hI := IvM_wr (k := 15) (j := L) (v := nI c16) hI (show (0 : Int) ≤ (nI c16 : Int32).toInt from (by rw [nI_toInt (n := c16) (by omega)]; omega)) (show (nI c16 : Int32).toInt ≤ (20 : Int) from (by rw [nI_toInt (n := c16) (by omega)]; omega)) (by unfold okW; omega)
    have hF := fr_wr (k := 15) (j := L) (v := nI c16) hF (by unfold mRd; omega)
    generalize eM18 : ux_wr M 15 L (nI c16) = M18 at hP hI hF
    have tM18 : (M18 15 L).toInt = ((c16 : Nat) : Int) := by rw [wr_at eM18]; exact nI_toInt (by omega)
    refine lv_iconst (v := 0) hx hb d_Md_commandEnded_26 (by decide) ?_
    refine lv_istore_n hx hb d_Md_commandEnded_27 rfl hl (by decide) rfl (fun ls hl => ?_)
    have hl : lv_has ls 2 [(1, .int 0), (0, .ref (ad 0))] := hl
    exact cut28 (20 - 0) 0 M18 _ _ ls rfl (show 0 ≤ 20 from by first | omega | assumption | exact Or.inl rfl | exact Or.inr rfl | rfl | decide) (show M18 0 10 = nI L from by first | exact ((wr_off eM18 (by omega)).trans (hlv))) (show M18 13 L = 0 from by first | exact (wr_off eM18 (by omega)).trans hm0) (show M18 9 L = nI an from by first | exact (wr_off eM18 (by omega)).trans (han)) hP hI hF hS (lv_sub hl [1, 0] rfl)
  · have g1 : ¬ ((M 0 24).toInt = 0) := fun q => h1 (Int32.toInt_inj.mp q)
    refine lv_aload_n hx hb d_Md_commandEnded_7 rfl (lv_at hl 0 rfl) ?_
    refine lv_iconst (v := 2) hx hb d_Md_commandEnded_8 (by decide) ?_
    refine ux_put (C := R_Md) (T := F_Md) (N := 50) hx hb hT in_Md t_Md t_Md_ok n_Md hown hK hi hP hS (by decide) rfl rfl 23 (by decide) (hT _ fl_Md_152) rfl (rfl) (rfl) rfl d_Md_commandEnded_9 (fun H locs hP hS => ?_)
    have hI := IvM_free (k := 0) (j := 23) (v := 2) hI rfl rfl (by unfold okW; omega)
    have hF := fr_wr (k := 0) (j := 23) (v := 2) hF (by unfold mRd; omega)
    generalize eM19 : ux_wr M 0 23 2 = M19 at hP hI hF
    exact W.vret hx hb hr (fun t ht hW => ⟨⟨M19, rfl, ⟨hI, hF, ⟨fun z => OpW_cong (wr_off eM19 (by omega)) (fun b => wr_off eM19 (by omega)) (hjt (fun y => z ((wr_off eM19 (by omega)).trans y))), (by rw [(wr_off eM19 (by omega)).trans (han), nI_toInt (n := an) (by omega)]; omega), Or.inl ⟨((wr_off eM19 (by omega)).trans (hlv)), fun z => absurd ((wr_at eM19).symm.trans z) (by decide)⟩⟩⟩, by unfold ux_E; rw [ht]; exact hP⟩, hS.F ht⟩) hS.2.2 d_Md_commandEnded_12

set_option maxHeartbeats 1600000 in
set_option maxRecDepth 100000 in
theorem s_Md_scriptEnded_0 (l : Launch) (D : va_G) (ad : Nat → Nat) (cA : Nat → ClassId) (A TB : Nat) (hA : A ≤ 100000000) (hB : TB ≤ 2000000000) (M : ux_M) (hI : IvM A TB M) (hlv : M 0 10 = 0) : Met l y_Md_scriptEnded w_Md_scriptEnded ({ frames := 0, cells := 0, slots := 0, locals := 0 }) (va_Pc [.ref (ad 0)] (ux_B D shM KM ad cA M)) (va_Qv (fun M1 => IvM A TB M1 ∧ (∀ a b, ¬ mS0 a b → M1 a b = M a b) ∧ (M1 0 10 = -1)) (ux_E D shM KM ad cA) (ux_A KM ad)) 0 0 (ux_A KM ad) := by
  refine Met.ofW (cc := b_Md_scriptEnded) (maxL := 4) (ret := none) (by decide) rfl ?_
  intro p e s m args below meth c s₁ B hml hv
  obtain ⟨rfl, hP, hK, hi, hN⟩ := hv
  have hx := B.exec
  have hb := B.bytes
  have hr := B.returns
  have hts := atoms_spec (ws := w_Md_scriptEnded) B.pre
  have hown : s.vm.findClass R_Md = some m.cls := findClass_of_methodNamed B.named
  have hlocks := B.notSynchronized
  have hT : ∀ w ∈ tb, w.before _ s = true := fun w h => hts w (List.mem_cons_of_mem _ h)
  have hS : va_S (ux_A KM ad) s.heap s.heap [] := va_S.rf
  have hl := lv_entry ([.ref (ad 0)]) (n := 4) (Nat.le_of_ble_eq_true rfl)
  rw [lg_entry_eq]
  generalize (lg_sl ([.ref (ad 0)]) ++ List.replicate (4 - (lg_sl ([.ref (ad 0)])).length) Slot.unset).toArray = ls at hl ⊢
  have hl : lv_has ls 4 [(0, .ref (ad 0))] := hl
  have hF : ∀ a b, ¬ mS0 a b → M a b = M a b := fun _ _ _ => rfl
  refine lv_aload_n hx hb d_Md_scriptEnded_0 rfl (lv_at hl 0 rfl) ?_
  refine ux_get (C := R_Md) (T := F_Md) (N := 50) hx hb hT in_Md hown hK hP (by decide) rfl rfl 13 (by decide) (hT _ fl_Md_46) rfl d_Md_scriptEnded_1 ?_
  refine lv_aload_n hx hb d_Md_scriptEnded_4 rfl (lv_at hl 0 rfl) ?_
  refine ux_get (C := R_Md) (T := F_Md) (N := 50) hx hb hT in_Md hown hK hP (by decide) rfl rfl 10 (by decide) (hT _ fl_Md_36) rfl d_Md_scriptEnded_5 ?_
  refine lv_topi (fun z1 hz1 => ?_)
  rw [show M 0 10 = 0 from hlv] at hz1
  rw [hz1]
  refine ux_iald hx hb hK hP (by decide) rfl (vi (by decide) (by decide)) d_Md_scriptEnded_8 ?_
  rw [show (0 : Int32).toNatClampNeg = 0 from rfl]
  refine lv_istore_n hx hb d_Md_scriptEnded_9 rfl hl (by decide) rfl (fun ls hl => ?_)
  have hl : lv_has ls 4 [(1, .int (M 11 0)), (0, .ref (ad 0))] := hl
  refine lv_aload_n hx hb d_Md_scriptEnded_10 rfl (lv_at hl 1 rfl) ?_
  refine ux_get (C := R_Md) (T := F_Md) (N := 50) hx hb hT in_Md hown hK hP (by decide) rfl rfl 11 (by decide) (hT _ fl_Md_40) rfl d_Md_scriptEnded_11 ?_
  refine lv_aload_n hx hb d_Md_scriptEnded_14 rfl (lv_at hl 1 rfl) ?_
  refine ux_get (C := R_Md) (T := F_Md) (N := 50) hx hb hT in_Md hown hK hP (by decide) rfl rfl 10 (by decide) (hT _ fl_Md_36) rfl d_Md_scriptEnded_15 ?_
  refine lv_topi (fun z2 hz2 => ?_)
  rw [show M 0 10 = 0 from hlv] at hz2
  rw [hz2]
  refine ux_iald hx hb hK hP (by decide) rfl (vi (by decide) (by decide)) d_Md_scriptEnded_18 ?_
  rw [show (0 : Int32).toNatClampNeg = 0 from rfl]
  refine lv_topi (fun z4 hz4 => ?_)
  obtain ⟨c3, hc3, ec3⟩ := nat_of (x := M 9 0) (n := A) (hI.1 9 0).1 (hI.1 9 0).2
  rw [ec3] at hz4
  rw [hz4]
  have tc3 : (M 9 0).toInt = (c3 : Int) := by rw [ec3]; exact nI_toInt (by omega)
  refine lv_istore_n hx hb d_Md_scriptEnded_19 rfl hl (by decide) rfl (fun ls hl => ?_)
  have hl : lv_has ls 4 [(2, .int (nI c3)), (1, .int (M 11 0)), (0, .ref (ad 0))] := hl
  refine lv_aload_n hx hb d_Md_scriptEnded_20 rfl (lv_at hl 2 rfl) ?_
  refine lv_dup hx hb d_Md_scriptEnded_21 rfl ?_
  refine ux_get (C := R_Md) (T := F_Md) (N := 50) hx hb hT in_Md hown hK hP (by decide) rfl rfl 10 (by decide) (hT _ fl_Md_36) rfl d_Md_scriptEnded_22 ?_
  refine lv_topi (fun z5 hz5 => ?_)
  rw [show M 0 10 = 0 from hlv] at hz5
  rw [hz5]
  refine lv_iconst (v := 1) hx hb d_Md_scriptEnded_25 (by decide) ?_
  refine lv_isub hx hb d_Md_scriptEnded_26 ?_
  refine lv_topi (fun z6 hz6 => ?_)
  rw [show (0 : Int32) - (1 : Int32) = -1 from rfl] at hz6
  rw [hz6]
  refine ux_put (C := R_Md) (T := F_Md) (N := 50) hx hb hT in_Md t_Md t_Md_ok n_Md hown hK hi hP hS (by decide) rfl rfl 10 (by decide) (hT _ fl_Md_36) rfl (rfl) (rfl) rfl d_Md_scriptEnded_27 (fun H locs hP hS => ?_)
  have hI := IvM_wr (k := 0) (j := 10) (v := -1) hI (show (-1 : Int) ≤ (-1 : Int32).toInt from (by decide)) (show (-1 : Int32).toInt ≤ (7 : Int) from (by first | decide | (show (-1 : Int) ≤ _; omega))) (by unfold okW; omega)
  have hF := fr_wr (k := 0) (j := 10) (v := -1) hF (by unfold mS0; omega)
  generalize eM7 : ux_wr M 0 10 (-1) = M7 at hP hI hF
  have tM7 : (M7 0 10).toInt = (-1) := by rw [wr_at eM7]; rfl
  refine lv_aload_n hx hb d_Md_scriptEnded_30 rfl (lv_at hl 2 rfl) ?_
  refine ux_get (C := R_Md) (T := F_Md) (N := 50) hx hb hT in_Md hown hK hP (by decide) rfl rfl 10 (by decide) (hT _ fl_Md_36) rfl d_Md_scriptEnded_31 ?_
  refine lv_topi (fun z8 hz8 => ?_)
  rw [show M7 0 10 = -1 from wr_at eM7] at hz8
  rw [hz8]
  refine lv_if_ge hx hb d_Md_scriptEnded_34 rfl (fun hz => absurd hz (by decide)) (fun _ => ?_)
  exact W.vret hx hb hr (fun t ht hW => ⟨⟨M7, rfl, ⟨hI, hF, wr_at eM7⟩, by unfold ux_E; rw [ht]; exact hP⟩, hS.F ht⟩) hS.2.2 d_Md_scriptEnded_37

set_option maxHeartbeats 1600000 in
set_option maxRecDepth 100000 in
theorem s_Md_scriptEnded_s (l : Launch) (D : va_G) (ad : Nat → Nat) (cA : Nat → ClassId) (A TB : Nat) (hA : A ≤ 100000000) (hB : TB ≤ 2000000000) (M : ux_M) (hI : IvM A TB M) (L : Nat) (hL : L ≤ 7) (hL6 : L ≤ 6) (hlv : M 0 10 = nI (L + 1)) (Z an : Nat) (han : M 9 L = nI an) (hz : an ≤ Z) (hzA : Z + 2 ≤ A) (ap : Nat) (hap : M 9 (L + 1) = nI ap) (hap2 : ap ≤ Z) (hz2 : 200 ≤ Z) (hjt : JmT M L) (hju : JmU M L) (hsg : ¬ M 0 23 = 1) : Met l y_Md_scriptEnded w_Md_scriptEnded ({ frames := 7, cells := 0, slots := 0, locals := 155 }) (va_Pc [.ref (ad 0)] (ux_B D shM KM ad cA M)) (va_Qv (fun M1 => IvM A TB M1 ∧ (∀ a b, ¬ (mRd L) a b → M1 a b = M a b) ∧ (Nx Z M1 L)) (ux_E D shM KM ad cA) (ux_A KM ad)) 0 0 (ux_A KM ad) := by
  refine Met.ofW (cc := b_Md_scriptEnded) (maxL := 4) (ret := none) (by decide) rfl ?_
  intro p e s m args below meth c s₁ B hml hv
  obtain ⟨rfl, hP, hK, hi, hN⟩ := hv
  have hx := B.exec
  have hb := B.bytes
  have hr := B.returns
  have hts := atoms_spec (ws := w_Md_scriptEnded) B.pre
  have hown : s.vm.findClass R_Md = some m.cls := findClass_of_methodNamed B.named
  have hlocks := B.notSynchronized
  have hT : ∀ w ∈ tb, w.before _ s = true := fun w h => hts w (List.mem_cons_of_mem _ h)
  have hS : va_S (ux_A KM ad) s.heap s.heap [] := va_S.rf
  have hl := lv_entry ([.ref (ad 0)]) (n := 4) (Nat.le_of_ble_eq_true rfl)
  rw [lg_entry_eq]
  generalize (lg_sl ([.ref (ad 0)]) ++ List.replicate (4 - (lg_sl ([.ref (ad 0)])).length) Slot.unset).toArray = ls at hl ⊢
  have hl : lv_has ls 4 [(0, .ref (ad 0))] := hl
  have hF : ∀ a b, ¬ (mRd L) a b → M a b = M a b := fun _ _ _ => rfl
  have hA2 : 200 ≤ A := by omega
  refine lv_aload_n hx hb d_Md_scriptEnded_0 rfl (lv_at hl 0 rfl) ?_
  refine ux_get (C := R_Md) (T := F_Md) (N := 50) hx hb hT in_Md hown hK hP (by decide) rfl rfl 13 (by decide) (hT _ fl_Md_46) rfl d_Md_scriptEnded_1 ?_
  refine lv_aload_n hx hb d_Md_scriptEnded_4 rfl (lv_at hl 0 rfl) ?_
  refine ux_get (C := R_Md) (T := F_Md) (N := 50) hx hb hT in_Md hown hK hP (by decide) rfl rfl 10 (by decide) (hT _ fl_Md_36) rfl d_Md_scriptEnded_5 ?_
  refine lv_topi (fun z1 hz1 => ?_)
  rw [show M 0 10 = nI (L + 1) from hlv] at hz1
  rw [hz1]
  refine ux_iald hx hb hK hP (by decide) rfl (vp_in_nI (show L + 1 < 8 by omega) (by decide)) d_Md_scriptEnded_8 ?_
  rw [nI_clamp (n := L + 1) (by omega)]
  refine lv_istore_n hx hb d_Md_scriptEnded_9 rfl hl (by decide) rfl (fun ls hl => ?_)
  have hl : lv_has ls 4 [(1, .int (M 11 (L + 1))), (0, .ref (ad 0))] := hl
  refine lv_aload_n hx hb d_Md_scriptEnded_10 rfl (lv_at hl 1 rfl) ?_
  refine ux_get (C := R_Md) (T := F_Md) (N := 50) hx hb hT in_Md hown hK hP (by decide) rfl rfl 11 (by decide) (hT _ fl_Md_40) rfl d_Md_scriptEnded_11 ?_
  refine lv_aload_n hx hb d_Md_scriptEnded_14 rfl (lv_at hl 1 rfl) ?_
  refine ux_get (C := R_Md) (T := F_Md) (N := 50) hx hb hT in_Md hown hK hP (by decide) rfl rfl 10 (by decide) (hT _ fl_Md_36) rfl d_Md_scriptEnded_15 ?_
  refine lv_topi (fun z2 hz2 => ?_)
  rw [show M 0 10 = nI (L + 1) from hlv] at hz2
  rw [hz2]
  refine ux_iald hx hb hK hP (by decide) rfl (vp_in_nI (show L + 1 < 8 by omega) (by decide)) d_Md_scriptEnded_18 ?_
  rw [nI_clamp (n := L + 1) (by omega)]
  refine lv_topi (fun z3 hz3 => ?_)
  rw [show M 9 (L + 1) = nI ap from hap] at hz3
  rw [hz3]
  refine lv_istore_n hx hb d_Md_scriptEnded_19 rfl hl (by decide) rfl (fun ls hl => ?_)
  have hl : lv_has ls 4 [(2, .int (nI ap)), (1, .int (M 11 (L + 1))), (0, .ref (ad 0))] := hl
  refine lv_aload_n hx hb d_Md_scriptEnded_20 rfl (lv_at hl 2 rfl) ?_
  refine lv_dup hx hb d_Md_scriptEnded_21 rfl ?_
  refine ux_get (C := R_Md) (T := F_Md) (N := 50) hx hb hT in_Md hown hK hP (by decide) rfl rfl 10 (by decide) (hT _ fl_Md_36) rfl d_Md_scriptEnded_22 ?_
  refine lv_topi (fun z4 hz4 => ?_)
  rw [show M 0 10 = nI (L + 1) from hlv] at hz4
  rw [hz4]
  refine lv_iconst (v := 1) hx hb d_Md_scriptEnded_25 (by decide) ?_
  refine lv_isub hx hb d_Md_scriptEnded_26 ?_
  refine lv_topi (fun z5 hz5 => ?_)
  rw [show (nI (L + 1)) - (1 : Int32) = nI L from (pk_sub (a := L + 1) (b := 1) (by omega)).trans (congrArg nI (show (L + 1) - 1 = L by omega))] at hz5
  rw [hz5]
  refine ux_put (C := R_Md) (T := F_Md) (N := 50) hx hb hT in_Md t_Md t_Md_ok n_Md hown hK hi hP hS (by decide) rfl rfl 10 (by decide) (hT _ fl_Md_36) rfl (rfl) (rfl) rfl d_Md_scriptEnded_27 (fun H locs hP hS => ?_)
  have hI := IvM_wr (k := 0) (j := 10) (v := nI L) hI (show (-1 : Int) ≤ (nI L : Int32).toInt from (by rw [nI_toInt (n := L) (by omega)]; omega)) (show (nI L : Int32).toInt ≤ (7 : Int) from (by rw [nI_toInt (n := L) (by omega)]; omega)) (by unfold okW; omega)
  have hF := fr_wr (k := 0) (j := 10) (v := nI L) hF (by unfold mRd; omega)
  generalize eM6 : ux_wr M 0 10 (nI L) = M6 at hP hI hF
  have tM6 : (M6 0 10).toInt = ((L : Nat) : Int) := by rw [wr_at eM6]; exact nI_toInt (by omega)
  refine lv_aload_n hx hb d_Md_scriptEnded_30 rfl (lv_at hl 2 rfl) ?_
  refine ux_get (C := R_Md) (T := F_Md) (N := 50) hx hb hT in_Md hown hK hP (by decide) rfl rfl 10 (by decide) (hT _ fl_Md_36) rfl d_Md_scriptEnded_31 ?_
  refine lv_topi (fun z7 hz7 => ?_)
  rw [show M6 0 10 = nI L from wr_at eM6] at hz7
  rw [hz7]
  refine lv_if_ge hx hb d_Md_scriptEnded_34 rfl (fun h8 => ?_) (fun h8 => ?_)
  · have g8 : 0 ≤ ((L : Nat) : Int) := by have q := Int32.le_iff_toInt_le.mp h8; rw [nI_toInt (n := L) (by omega)] at q; exact q
    refine lv_iload_n hx hb d_Md_scriptEnded_38 rfl (lv_at hl 1 rfl) ?_
    refine lv_iconst (v := 1) hx hb d_Md_scriptEnded_39 (by decide) ?_
    refine lv_icmp_ne hx hb d_Md_scriptEnded_40 rfl (fun h9 => ?_) (fun h9 => ?_)
    · have g9 : ¬ ((M 11 (L + 1)).toInt = 1) := fun q => h9 (Int32.toInt_inj.mp q)
      have hm0 : M 13 L = 0 := Decidable.byContradiction (fun q => absurd (hju.1.mpr q) (by assumption))
      refine lv_aload_n hx hb d_Md_scriptEnded_101 rfl (lv_at hl 2 rfl) ?_
      refine lv_iconst (v := 1) hx hb d_Md_scriptEnded_102 (by decide) ?_
      refine ux_put (C := R_Md) (T := F_Md) (N := 50) hx hb hT in_Md t_Md t_Md_ok n_Md hown hK hi hP hS (by decide) rfl rfl 23 (by decide) (hT _ fl_Md_152) rfl (rfl) (rfl) rfl d_Md_scriptEnded_103 (fun H locs hP hS => ?_)
      have hI := IvM_free (k := 0) (j := 23) (v := 1) hI rfl rfl (by unfold okW; omega)
      have hF := fr_wr (k := 0) (j := 23) (v := 1) hF (by unfold mRd; omega)
      generalize eM10 : ux_wr M6 0 23 1 = M10 at hP hI hF
      refine lv_iload_n hx hb d_Md_scriptEnded_106 rfl (lv_at hl 1 rfl) ?_
      refine lv_iconst (v := 3) hx hb d_Md_scriptEnded_107 (by decide) ?_
      refine lv_icmp_ne hx hb d_Md_scriptEnded_108 rfl (fun h11 => ?_) (fun h11 => ?_)
      · have g11 : ¬ ((M 11 (L + 1)).toInt = 3) := fun q => h11 (Int32.toInt_inj.mp q)
        refine lv_iload_n hx hb d_Md_scriptEnded_133 rfl (lv_at hl 1 rfl) ?_
        refine lv_iconst (v := 3) hx hb d_Md_scriptEnded_134 (by decide) ?_
        refine lv_icmp_ne hx hb d_Md_scriptEnded_135 rfl (fun h12 => ?_) (fun h12 => ?_)
        · have g12 : ¬ ((M 11 (L + 1)).toInt = 3) := fun q => h12 (Int32.toInt_inj.mp q)
          refine lv_iload_n hx hb d_Md_scriptEnded_158 rfl (lv_at hl 1 rfl) ?_
          refine lv_iconst (v := 4) hx hb d_Md_scriptEnded_159 (by decide) ?_
          refine lv_icmp_ne hx hb d_Md_scriptEnded_160 rfl (fun h13 => ?_) (fun h13 => ?_)
          · have g13 : ¬ ((M 11 (L + 1)).toInt = 4) := fun q => h13 (Int32.toInt_inj.mp q)
            refine lv_iload_n hx hb d_Md_scriptEnded_188 rfl (lv_at hl 1 rfl) ?_
            refine lv_iconst (v := 4) hx hb d_Md_scriptEnded_189 (by decide) ?_
            refine lv_icmp_ne hx hb d_Md_scriptEnded_190 rfl (fun h14 => ?_) (fun h14 => ?_)
            · have g14 : ¬ ((M 11 (L + 1)).toInt = 4) := fun q => h14 (Int32.toInt_inj.mp q)
              refine lv_iload_n hx hb d_Md_scriptEnded_209 rfl (lv_at hl 1 rfl) ?_
              refine lv_iconst (v := 5) hx hb d_Md_scriptEnded_210 (by decide) ?_
              refine lv_icmp_ne hx hb d_Md_scriptEnded_211 rfl (fun h15 => ?_) (fun h15 => ?_)
              · have g15 : ¬ ((M 11 (L + 1)).toInt = 5) := fun q => h15 (Int32.toInt_inj.mp q)
                exact W.vret hx hb hr (fun t ht hW => ⟨⟨M10, rfl, ⟨hI, hF, (Nx_0 ((wr_off eM10 (by omega)).trans (wr_at eM6)) (((wr_off eM10 (by omega)).trans (wr_off eM6 (by omega))).trans hm0) (by rw [(wr_off eM10 (by omega)).trans ((wr_off eM6 (by omega)).trans (han)), nI_toInt (n := an) (by omega)]; omega))⟩, by unfold ux_E; rw [ht]; exact hP⟩, hS.F ht⟩) hS.2.2 d_Md_scriptEnded_226
              · have g15 : (M 11 (L + 1)).toInt = 5 := congrArg Int32.toInt h15
                refine lv_aload_n hx hb d_Md_scriptEnded_214 rfl (lv_at hl 2 rfl) ?_
                refine ux_get (C := R_Md) (T := F_Md) (N := 50) hx hb hT in_Md hown hK hP (by decide) rfl rfl 24 (by decide) (hT _ fl_Md_149) rfl d_Md_scriptEnded_215 ?_
                refine lv_iconst (v := 5) hx hb d_Md_scriptEnded_218 (by decide) ?_
                refine lv_icmp_eq hx hb d_Md_scriptEnded_219 rfl (fun h16 => ?_) (fun h16 => ?_)
                · have g16 : (M10 0 24).toInt = 5 := congrArg Int32.toInt h16
                  exact W.vret hx hb hr (fun t ht hW => ⟨⟨M10, rfl, ⟨hI, hF, (Nx_0 ((wr_off eM10 (by omega)).trans (wr_at eM6)) (((wr_off eM10 (by omega)).trans (wr_off eM6 (by omega))).trans hm0) (by rw [(wr_off eM10 (by omega)).trans ((wr_off eM6 (by omega)).trans (han)), nI_toInt (n := an) (by omega)]; omega))⟩, by unfold ux_E; rw [ht]; exact hP⟩, hS.F ht⟩) hS.2.2 d_Md_scriptEnded_226
                · have g16 : ¬ ((M10 0 24).toInt = 5) := fun q => h16 (Int32.toInt_inj.mp q)
                  refine lv_aload_n hx hb d_Md_scriptEnded_222 rfl (lv_at hl 2 rfl) ?_
                  refine ux_callv (va_runV ⟨hx, hb, hml, hown, hts⟩ (s_Md_caught l D ad cA A TB hA hB  M10 hI L hL ((wr_off eM10 (by omega)).trans (wr_at eM6)) (fun z => nmK_cong (fun a b q => (wr_off eM10 (by omega)).trans (wr_off eM6 (by omega))) (hju.2.2 (by assumption) ((congrArg Int32.toInt ((wr_off eM10 (by omega)).trans (wr_off eM6 (by omega)))).symm.trans z)))) (cwV 0 hts (tb_goodV ml_Md_170 im_Md_caught se_Md_caught ii_Md kt_Md_caught) rfl rfl rfl (by decide +kernel) ⟨Nat.le_of_ble_eq_true rfl, Nat.le_of_ble_eq_true rfl⟩) (ux_preV (by decide) rfl rfl hP hK hi hN) rfl rfl hl.1 rfl (lv_room (Nat.le_of_ble_eq_true rfl)) d_Md_scriptEnded_223 ⟨Nat.zero_le _, Nat.zero_le _⟩) hS (fun M18 H locs q19 hP hS => ?_)
                  obtain ⟨hI, fq19, q19p⟩ := q19
                  have hF := fr_call hF fq19 (fun a b q => by unfold mCa at q; unfold mRd; omega)
                  exact W.vret hx hb hr (fun t ht hW => ⟨⟨M18, rfl, ⟨hI, hF, (Nx_0 ((fq19 _ _ (by unfold mCa; omega)).trans ((wr_off eM10 (by omega)).trans (wr_at eM6))) (((fq19 _ _ (by unfold mCa; omega)).trans ((wr_off eM10 (by omega)).trans (wr_off eM6 (by omega)))).trans hm0) (by rw [(fq19 _ _ (by unfold mCa; omega)).trans ((wr_off eM10 (by omega)).trans ((wr_off eM6 (by omega)).trans (han))), nI_toInt (n := an) (by omega)]; omega))⟩, by unfold ux_E; rw [ht]; exact hP⟩, hS.F ht⟩) hS.2.2 d_Md_scriptEnded_226
            · have g14 : (M 11 (L + 1)).toInt = 4 := congrArg Int32.toInt h14
              refine lv_aload_n hx hb d_Md_scriptEnded_193 rfl (lv_at hl 2 rfl) ?_
              refine ux_get (C := R_Md) (T := F_Md) (N := 50) hx hb hT in_Md hown hK hP (by decide) rfl rfl 24 (by decide) (hT _ fl_Md_149) rfl d_Md_scriptEnded_194 ?_
              refine lv_iconst (v := 2) hx hb d_Md_scriptEnded_197 (by decide) ?_
              refine lv_icmp_ne hx hb d_Md_scriptEnded_198 rfl (fun h20 => ?_) (fun h20 => ?_)
              · have g20 : ¬ ((M10 0 24).toInt = 2) := fun q => h20 (Int32.toInt_inj.mp q)
                refine lv_iload_n hx hb d_Md_scriptEnded_209 rfl (lv_at hl 1 rfl) ?_
                refine lv_iconst (v := 5) hx hb d_Md_scriptEnded_210 (by decide) ?_
                refine lv_icmp_ne hx hb d_Md_scriptEnded_211 rfl (fun h21 => ?_) (fun h21 => ?_)
                · have g21 : ¬ ((M 11 (L + 1)).toInt = 5) := fun q => h21 (Int32.toInt_inj.mp q)
                  exact W.vret hx hb hr (fun t ht hW => ⟨⟨M10, rfl, ⟨hI, hF, (Nx_0 ((wr_off eM10 (by omega)).trans (wr_at eM6)) (((wr_off eM10 (by omega)).trans (wr_off eM6 (by omega))).trans hm0) (by rw [(wr_off eM10 (by omega)).trans ((wr_off eM6 (by omega)).trans (han)), nI_toInt (n := an) (by omega)]; omega))⟩, by unfold ux_E; rw [ht]; exact hP⟩, hS.F ht⟩) hS.2.2 d_Md_scriptEnded_226
                · have g21 : (M 11 (L + 1)).toInt = 5 := congrArg Int32.toInt h21
                  refine lv_aload_n hx hb d_Md_scriptEnded_214 rfl (lv_at hl 2 rfl) ?_
                  refine ux_get (C := R_Md) (T := F_Md) (N := 50) hx hb hT in_Md hown hK hP (by decide) rfl rfl 24 (by decide) (hT _ fl_Md_149) rfl d_Md_scriptEnded_215 ?_
                  refine lv_iconst (v := 5) hx hb d_Md_scriptEnded_218 (by decide) ?_
                  refine lv_icmp_eq hx hb d_Md_scriptEnded_219 rfl (fun h22 => ?_) (fun h22 => ?_)
                  · have g22 : (M10 0 24).toInt = 5 := congrArg Int32.toInt h22
                    exact W.vret hx hb hr (fun t ht hW => ⟨⟨M10, rfl, ⟨hI, hF, (Nx_0 ((wr_off eM10 (by omega)).trans (wr_at eM6)) (((wr_off eM10 (by omega)).trans (wr_off eM6 (by omega))).trans hm0) (by rw [(wr_off eM10 (by omega)).trans ((wr_off eM6 (by omega)).trans (han)), nI_toInt (n := an) (by omega)]; omega))⟩, by unfold ux_E; rw [ht]; exact hP⟩, hS.F ht⟩) hS.2.2 d_Md_scriptEnded_226
                  · have g22 : ¬ ((M10 0 24).toInt = 5) := fun q => h22 (Int32.toInt_inj.mp q)
                    refine lv_aload_n hx hb d_Md_scriptEnded_222 rfl (lv_at hl 2 rfl) ?_
                    refine ux_callv (va_runV ⟨hx, hb, hml, hown, hts⟩ (s_Md_caught l D ad cA A TB hA hB  M10 hI L hL ((wr_off eM10 (by omega)).trans (wr_at eM6)) (fun z => nmK_cong (fun a b q => (wr_off eM10 (by omega)).trans (wr_off eM6 (by omega))) (hju.2.2 (by assumption) ((congrArg Int32.toInt ((wr_off eM10 (by omega)).trans (wr_off eM6 (by omega)))).symm.trans z)))) (cwV 0 hts (tb_goodV ml_Md_170 im_Md_caught se_Md_caught ii_Md kt_Md_caught) rfl rfl rfl (by decide +kernel) ⟨Nat.le_of_ble_eq_true rfl, Nat.le_of_ble_eq_true rfl⟩) (ux_preV (by decide) rfl rfl hP hK hi hN) rfl rfl hl.1 rfl (lv_room (Nat.le_of_ble_eq_true rfl)) d_Md_scriptEnded_223 ⟨Nat.zero_le _, Nat.zero_le _⟩) hS (fun M24 H locs q25 hP hS => ?_)
                    obtain ⟨hI, fq25, q25p⟩ := q25
                    have hF := fr_call hF fq25 (fun a b q => by unfold mCa at q; unfold mRd; omega)
                    exact W.vret hx hb hr (fun t ht hW => ⟨⟨M24, rfl, ⟨hI, hF, (Nx_0 ((fq25 _ _ (by unfold mCa; omega)).trans ((wr_off eM10 (by omega)).trans (wr_at eM6))) (((fq25 _ _ (by unfold mCa; omega)).trans ((wr_off eM10 (by omega)).trans (wr_off eM6 (by omega)))).trans hm0) (by rw [(fq25 _ _ (by unfold mCa; omega)).trans ((wr_off eM10 (by omega)).trans ((wr_off eM6 (by omega)).trans (han))), nI_toInt (n := an) (by omega)]; omega))⟩, by unfold ux_E; rw [ht]; exact hP⟩, hS.F ht⟩) hS.2.2 d_Md_scriptEnded_226
              · have g20 : (M10 0 24).toInt = 2 := congrArg Int32.toInt h20
                refine lv_aload_n hx hb d_Md_scriptEnded_201 rfl (lv_at hl 2 rfl) ?_
                refine lv_iconst (v := 0) hx hb d_Md_scriptEnded_202 (by decide) ?_
                refine ux_put (C := R_Md) (T := F_Md) (N := 50) hx hb hT in_Md t_Md t_Md_ok n_Md hown hK hi hP hS (by decide) rfl rfl 24 (by decide) (hT _ fl_Md_149) rfl (rfl) (rfl) rfl d_Md_scriptEnded_203 (fun H locs hP hS => ?_)
                have hI := IvM_free (k := 0) (j := 24) (v := 0) hI rfl rfl (by unfold okW; omega)
                have hF := fr_wr (k := 0) (j := 24) (v := 0) hF (by unfold mRd; omega)
                generalize eM26 : ux_wr M10 0 24 0 = M26 at hP hI hF
                refine lv_goto hx hb d_Md_scriptEnded_206 rfl ?_
                exact W.vret hx hb hr (fun t ht hW => ⟨⟨M26, rfl, ⟨hI, hF, (Nx_0 ((wr_off eM26 (by omega)).trans ((wr_off eM10 (by omega)).trans (wr_at eM6))) (((wr_off eM26 (by omega)).trans ((wr_off eM10 (by omega)).trans (wr_off eM6 (by omega)))).trans hm0) (by rw [(wr_off eM26 (by omega)).trans ((wr_off eM10 (by omega)).trans ((wr_off eM6 (by omega)).trans (han))), nI_toInt (n := an) (by omega)]; omega))⟩, by unfold ux_E; rw [ht]; exact hP⟩, hS.F ht⟩) hS.2.2 d_Md_scriptEnded_226
          · have g13 : (M 11 (L + 1)).toInt = 4 := congrArg Int32.toInt h13
            refine lv_aload_n hx hb d_Md_scriptEnded_163 rfl (lv_at hl 2 rfl) ?_
            refine ux_get (C := R_Md) (T := F_Md) (N := 50) hx hb hT in_Md hown hK hP (by decide) rfl rfl 24 (by decide) (hT _ fl_Md_149) rfl d_Md_scriptEnded_164 ?_
            refine lv_iconst (v := 3) hx hb d_Md_scriptEnded_167 (by decide) ?_
            refine lv_icmp_eq hx hb d_Md_scriptEnded_168 rfl (fun h27 => ?_) (fun h27 => ?_)
            · have g27 : (M10 0 24).toInt = 3 := congrArg Int32.toInt h27
              refine lv_aload_n hx hb d_Md_scriptEnded_179 rfl (lv_at hl 2 rfl) ?_
              refine lv_bipush (v := 9) hx hb d_Md_scriptEnded_180 (by decide) ?_
              refine ux_callv (va_runV ⟨hx, hb, hml, hown, hts⟩ (s_Md_error l D ad cA A TB hA hB  M10 hI 9) (cwV 1 hts (tb_goodV ml_Md_166 im_Md_error se_Md_error ii_Md kt_Md_error) rfl rfl rfl (by decide +kernel) ⟨Nat.le_of_ble_eq_true rfl, Nat.le_of_ble_eq_true rfl⟩) (ux_preV (by decide) rfl rfl hP hK hi hN) rfl rfl hl.1 rfl (lv_room (Nat.le_of_ble_eq_true rfl)) d_Md_scriptEnded_182 ⟨Nat.zero_le _, Nat.zero_le _⟩) hS (fun M29 H locs q30 hP hS => ?_)
              obtain ⟨hI, fq30, q30p⟩ := q30
              have hF := fr_call hF fq30 (fun a b q => by unfold mEr at q; unfold mRd; omega)
              refine lv_goto hx hb d_Md_scriptEnded_185 rfl ?_
              exact W.vret hx hb hr (fun t ht hW => ⟨⟨M29, rfl, ⟨hI, hF, (Nx_0 ((fq30 _ _ (by unfold mEr; omega)).trans ((wr_off eM10 (by omega)).trans (wr_at eM6))) (((fq30 _ _ (by unfold mEr; omega)).trans ((wr_off eM10 (by omega)).trans (wr_off eM6 (by omega)))).trans hm0) (by rw [(fq30 _ _ (by unfold mEr; omega)).trans ((wr_off eM10 (by omega)).trans ((wr_off eM6 (by omega)).trans (han))), nI_toInt (n := an) (by omega)]; omega))⟩, by unfold ux_E; rw [ht]; exact hP⟩, hS.F ht⟩) hS.2.2 d_Md_scriptEnded_226
            · have g27 : ¬ ((M10 0 24).toInt = 3) := fun q => h27 (Int32.toInt_inj.mp q)
              refine lv_aload_n hx hb d_Md_scriptEnded_171 rfl (lv_at hl 2 rfl) ?_
              refine ux_get (C := R_Md) (T := F_Md) (N := 50) hx hb hT in_Md hown hK hP (by decide) rfl rfl 24 (by decide) (hT _ fl_Md_149) rfl d_Md_scriptEnded_172 ?_
              refine lv_iconst (v := 4) hx hb d_Md_scriptEnded_175 (by decide) ?_
              refine lv_icmp_ne hx hb d_Md_scriptEnded_176 rfl (fun h31 => ?_) (fun h31 => ?_)
              · have g31 : ¬ ((M10 0 24).toInt = 4) := fun q => h31 (Int32.toInt_inj.mp q)
                refine lv_iload_n hx hb d_Md_scriptEnded_188 rfl (lv_at hl 1 rfl) ?_
                refine lv_iconst (v := 4) hx hb d_Md_scriptEnded_189 (by decide) ?_
                refine lv_icmp_ne hx hb d_Md_scriptEnded_190 rfl (fun h32 => ?_) (fun h32 => ?_)
                · have g32 : ¬ ((M 11 (L + 1)).toInt = 4) := fun q => h32 (Int32.toInt_inj.mp q)
                  refine lv_iload_n hx hb d_Md_scriptEnded_209 rfl (lv_at hl 1 rfl) ?_
                  refine lv_iconst (v := 5) hx hb d_Md_scriptEnded_210 (by decide) ?_
                  refine lv_icmp_ne hx hb d_Md_scriptEnded_211 rfl (fun h33 => ?_) (fun h33 => ?_)
                  · have g33 : ¬ ((M 11 (L + 1)).toInt = 5) := fun q => h33 (Int32.toInt_inj.mp q)
                    exact W.vret hx hb hr (fun t ht hW => ⟨⟨M10, rfl, ⟨hI, hF, (Nx_0 ((wr_off eM10 (by omega)).trans (wr_at eM6)) (((wr_off eM10 (by omega)).trans (wr_off eM6 (by omega))).trans hm0) (by rw [(wr_off eM10 (by omega)).trans ((wr_off eM6 (by omega)).trans (han)), nI_toInt (n := an) (by omega)]; omega))⟩, by unfold ux_E; rw [ht]; exact hP⟩, hS.F ht⟩) hS.2.2 d_Md_scriptEnded_226
                  · have g33 : (M 11 (L + 1)).toInt = 5 := congrArg Int32.toInt h33
                    refine lv_aload_n hx hb d_Md_scriptEnded_214 rfl (lv_at hl 2 rfl) ?_
                    refine ux_get (C := R_Md) (T := F_Md) (N := 50) hx hb hT in_Md hown hK hP (by decide) rfl rfl 24 (by decide) (hT _ fl_Md_149) rfl d_Md_scriptEnded_215 ?_
                    refine lv_iconst (v := 5) hx hb d_Md_scriptEnded_218 (by decide) ?_
                    refine lv_icmp_eq hx hb d_Md_scriptEnded_219 rfl (fun h34 => ?_) (fun h34 => ?_)
                    · have g34 : (M10 0 24).toInt = 5 := congrArg Int32.toInt h34
                      exact W.vret hx hb hr (fun t ht hW => ⟨⟨M10, rfl, ⟨hI, hF, (Nx_0 ((wr_off eM10 (by omega)).trans (wr_at eM6)) (((wr_off eM10 (by omega)).trans (wr_off eM6 (by omega))).trans hm0) (by rw [(wr_off eM10 (by omega)).trans ((wr_off eM6 (by omega)).trans (han)), nI_toInt (n := an) (by omega)]; omega))⟩, by unfold ux_E; rw [ht]; exact hP⟩, hS.F ht⟩) hS.2.2 d_Md_scriptEnded_226
                    · have g34 : ¬ ((M10 0 24).toInt = 5) := fun q => h34 (Int32.toInt_inj.mp q)
                      refine lv_aload_n hx hb d_Md_scriptEnded_222 rfl (lv_at hl 2 rfl) ?_
                      refine ux_callv (va_runV ⟨hx, hb, hml, hown, hts⟩ (s_Md_caught l D ad cA A TB hA hB  M10 hI L hL ((wr_off eM10 (by omega)).trans (wr_at eM6)) (fun z => nmK_cong (fun a b q => (wr_off eM10 (by omega)).trans (wr_off eM6 (by omega))) (hju.2.2 (by assumption) ((congrArg Int32.toInt ((wr_off eM10 (by omega)).trans (wr_off eM6 (by omega)))).symm.trans z)))) (cwV 0 hts (tb_goodV ml_Md_170 im_Md_caught se_Md_caught ii_Md kt_Md_caught) rfl rfl rfl (by decide +kernel) ⟨Nat.le_of_ble_eq_true rfl, Nat.le_of_ble_eq_true rfl⟩) (ux_preV (by decide) rfl rfl hP hK hi hN) rfl rfl hl.1 rfl (lv_room (Nat.le_of_ble_eq_true rfl)) d_Md_scriptEnded_223 ⟨Nat.zero_le _, Nat.zero_le _⟩) hS (fun M36 H locs q37 hP hS => ?_)
                      obtain ⟨hI, fq37, q37p⟩ := q37
                      have hF := fr_call hF fq37 (fun a b q => by unfold mCa at q; unfold mRd; omega)
                      exact W.vret hx hb hr (fun t ht hW => ⟨⟨M36, rfl, ⟨hI, hF, (Nx_0 ((fq37 _ _ (by unfold mCa; omega)).trans ((wr_off eM10 (by omega)).trans (wr_at eM6))) (((fq37 _ _ (by unfold mCa; omega)).trans ((wr_off eM10 (by omega)).trans (wr_off eM6 (by omega)))).trans hm0) (by rw [(fq37 _ _ (by unfold mCa; omega)).trans ((wr_off eM10 (by omega)).trans ((wr_off eM6 (by omega)).trans (han))), nI_toInt (n := an) (by omega)]; omega))⟩, by unfold ux_E; rw [ht]; exact hP⟩, hS.F ht⟩) hS.2.2 d_Md_scriptEnded_226
                · have g32 : (M 11 (L + 1)).toInt = 4 := congrArg Int32.toInt h32
                  refine lv_aload_n hx hb d_Md_scriptEnded_193 rfl (lv_at hl 2 rfl) ?_
                  refine ux_get (C := R_Md) (T := F_Md) (N := 50) hx hb hT in_Md hown hK hP (by decide) rfl rfl 24 (by decide) (hT _ fl_Md_149) rfl d_Md_scriptEnded_194 ?_
                  refine lv_iconst (v := 2) hx hb d_Md_scriptEnded_197 (by decide) ?_
                  refine lv_icmp_ne hx hb d_Md_scriptEnded_198 rfl (fun h38 => ?_) (fun h38 => ?_)
                  · have g38 : ¬ ((M10 0 24).toInt = 2) := fun q => h38 (Int32.toInt_inj.mp q)
                    refine lv_iload_n hx hb d_Md_scriptEnded_209 rfl (lv_at hl 1 rfl) ?_
                    refine lv_iconst (v := 5) hx hb d_Md_scriptEnded_210 (by decide) ?_
                    refine lv_icmp_ne hx hb d_Md_scriptEnded_211 rfl (fun h39 => ?_) (fun h39 => ?_)
                    · have g39 : ¬ ((M 11 (L + 1)).toInt = 5) := fun q => h39 (Int32.toInt_inj.mp q)
                      exact W.vret hx hb hr (fun t ht hW => ⟨⟨M10, rfl, ⟨hI, hF, (Nx_0 ((wr_off eM10 (by omega)).trans (wr_at eM6)) (((wr_off eM10 (by omega)).trans (wr_off eM6 (by omega))).trans hm0) (by rw [(wr_off eM10 (by omega)).trans ((wr_off eM6 (by omega)).trans (han)), nI_toInt (n := an) (by omega)]; omega))⟩, by unfold ux_E; rw [ht]; exact hP⟩, hS.F ht⟩) hS.2.2 d_Md_scriptEnded_226
                    · have g39 : (M 11 (L + 1)).toInt = 5 := congrArg Int32.toInt h39
                      refine lv_aload_n hx hb d_Md_scriptEnded_214 rfl (lv_at hl 2 rfl) ?_
                      refine ux_get (C := R_Md) (T := F_Md) (N := 50) hx hb hT in_Md hown hK hP (by decide) rfl rfl 24 (by decide) (hT _ fl_Md_149) rfl d_Md_scriptEnded_215 ?_
                      refine lv_iconst (v := 5) hx hb d_Md_scriptEnded_218 (by decide) ?_
                      refine lv_icmp_eq hx hb d_Md_scriptEnded_219 rfl (fun h40 => ?_) (fun h40 => ?_)
                      · have g40 : (M10 0 24).toInt = 5 := congrArg Int32.toInt h40
                        exact W.vret hx hb hr (fun t ht hW => ⟨⟨M10, rfl, ⟨hI, hF, (Nx_0 ((wr_off eM10 (by omega)).trans (wr_at eM6)) (((wr_off eM10 (by omega)).trans (wr_off eM6 (by omega))).trans hm0) (by rw [(wr_off eM10 (by omega)).trans ((wr_off eM6 (by omega)).trans (han)), nI_toInt (n := an) (by omega)]; omega))⟩, by unfold ux_E; rw [ht]; exact hP⟩, hS.F ht⟩) hS.2.2 d_Md_scriptEnded_226
                      · have g40 : ¬ ((M10 0 24).toInt = 5) := fun q => h40 (Int32.toInt_inj.mp q)
                        refine lv_aload_n hx hb d_Md_scriptEnded_222 rfl (lv_at hl 2 rfl) ?_
                        refine ux_callv (va_runV ⟨hx, hb, hml, hown, hts⟩ (s_Md_caught l D ad cA A TB hA hB  M10 hI L hL ((wr_off eM10 (by omega)).trans (wr_at eM6)) (fun z => nmK_cong (fun a b q => (wr_off eM10 (by omega)).trans (wr_off eM6 (by omega))) (hju.2.2 (by assumption) ((congrArg Int32.toInt ((wr_off eM10 (by omega)).trans (wr_off eM6 (by omega)))).symm.trans z)))) (cwV 0 hts (tb_goodV ml_Md_170 im_Md_caught se_Md_caught ii_Md kt_Md_caught) rfl rfl rfl (by decide +kernel) ⟨Nat.le_of_ble_eq_true rfl, Nat.le_of_ble_eq_true rfl⟩) (ux_preV (by decide) rfl rfl hP hK hi hN) rfl rfl hl.1 rfl (lv_room (Nat.le_of_ble_eq_true rfl)) d_Md_scriptEnded_223 ⟨Nat.zero_le _, Nat.zero_le _⟩) hS (fun M42 H locs q43 hP hS => ?_)
                        obtain ⟨hI, fq43, q43p⟩ := q43
                        have hF := fr_call hF fq43 (fun a b q => by unfold mCa at q; unfold mRd; omega)
                        exact W.vret hx hb hr (fun t ht hW => ⟨⟨M42, rfl, ⟨hI, hF, (Nx_0 ((fq43 _ _ (by unfold mCa; omega)).trans ((wr_off eM10 (by omega)).trans (wr_at eM6))) (((fq43 _ _ (by unfold mCa; omega)).trans ((wr_off eM10 (by omega)).trans (wr_off eM6 (by omega)))).trans hm0) (by rw [(fq43 _ _ (by unfold mCa; omega)).trans ((wr_off eM10 (by omega)).trans ((wr_off eM6 (by omega)).trans (han))), nI_toInt (n := an) (by omega)]; omega))⟩, by unfold ux_E; rw [ht]; exact hP⟩, hS.F ht⟩) hS.2.2 d_Md_scriptEnded_226
                  · have g38 : (M10 0 24).toInt = 2 := congrArg Int32.toInt h38
                    refine lv_aload_n hx hb d_Md_scriptEnded_201 rfl (lv_at hl 2 rfl) ?_
                    refine lv_iconst (v := 0) hx hb d_Md_scriptEnded_202 (by decide) ?_
                    refine ux_put (C := R_Md) (T := F_Md) (N := 50) hx hb hT in_Md t_Md t_Md_ok n_Md hown hK hi hP hS (by decide) rfl rfl 24 (by decide) (hT _ fl_Md_149) rfl (rfl) (rfl) rfl d_Md_scriptEnded_203 (fun H locs hP hS => ?_)
                    have hI := IvM_free (k := 0) (j := 24) (v := 0) hI rfl rfl (by unfold okW; omega)
                    have hF := fr_wr (k := 0) (j := 24) (v := 0) hF (by unfold mRd; omega)
                    generalize eM44 : ux_wr M10 0 24 0 = M44 at hP hI hF
                    refine lv_goto hx hb d_Md_scriptEnded_206 rfl ?_
                    exact W.vret hx hb hr (fun t ht hW => ⟨⟨M44, rfl, ⟨hI, hF, (Nx_0 ((wr_off eM44 (by omega)).trans ((wr_off eM10 (by omega)).trans (wr_at eM6))) (((wr_off eM44 (by omega)).trans ((wr_off eM10 (by omega)).trans (wr_off eM6 (by omega)))).trans hm0) (by rw [(wr_off eM44 (by omega)).trans ((wr_off eM10 (by omega)).trans ((wr_off eM6 (by omega)).trans (han))), nI_toInt (n := an) (by omega)]; omega))⟩, by unfold ux_E; rw [ht]; exact hP⟩, hS.F ht⟩) hS.2.2 d_Md_scriptEnded_226
              · have g31 : (M10 0 24).toInt = 4 := congrArg Int32.toInt h31
                refine lv_aload_n hx hb d_Md_scriptEnded_179 rfl (lv_at hl 2 rfl) ?_
                refine lv_bipush (v := 9) hx hb d_Md_scriptEnded_180 (by decide) ?_
                refine ux_callv (va_runV ⟨hx, hb, hml, hown, hts⟩ (s_Md_error l D ad cA A TB hA hB  M10 hI 9) (cwV 1 hts (tb_goodV ml_Md_166 im_Md_error se_Md_error ii_Md kt_Md_error) rfl rfl rfl (by decide +kernel) ⟨Nat.le_of_ble_eq_true rfl, Nat.le_of_ble_eq_true rfl⟩) (ux_preV (by decide) rfl rfl hP hK hi hN) rfl rfl hl.1 rfl (lv_room (Nat.le_of_ble_eq_true rfl)) d_Md_scriptEnded_182 ⟨Nat.zero_le _, Nat.zero_le _⟩) hS (fun M46 H locs q47 hP hS => ?_)
                obtain ⟨hI, fq47, q47p⟩ := q47
                have hF := fr_call hF fq47 (fun a b q => by unfold mEr at q; unfold mRd; omega)
                refine lv_goto hx hb d_Md_scriptEnded_185 rfl ?_
                exact W.vret hx hb hr (fun t ht hW => ⟨⟨M46, rfl, ⟨hI, hF, (Nx_0 ((fq47 _ _ (by unfold mEr; omega)).trans ((wr_off eM10 (by omega)).trans (wr_at eM6))) (((fq47 _ _ (by unfold mEr; omega)).trans ((wr_off eM10 (by omega)).trans (wr_off eM6 (by omega)))).trans hm0) (by rw [(fq47 _ _ (by unfold mEr; omega)).trans ((wr_off eM10 (by omega)).trans ((wr_off eM6 (by omega)).trans (han))), nI_toInt (n := an) (by omega)]; omega))⟩, by unfold ux_E; rw [ht]; exact hP⟩, hS.F ht⟩) hS.2.2 d_Md_scriptEnded_226
        · have g12 : (M 11 (L + 1)).toInt = 3 := congrArg Int32.toInt h12
          refine lv_aload_n hx hb d_Md_scriptEnded_138 rfl (lv_at hl 2 rfl) ?_
          refine ux_get (C := R_Md) (T := F_Md) (N := 50) hx hb hT in_Md hown hK hP (by decide) rfl rfl 24 (by decide) (hT _ fl_Md_149) rfl d_Md_scriptEnded_139 ?_
          refine lv_iconst (v := 3) hx hb d_Md_scriptEnded_142 (by decide) ?_
          refine lv_icmp_ne hx hb d_Md_scriptEnded_143 rfl (fun h48 => ?_) (fun h48 => ?_)
          · have g48 : ¬ ((M10 0 24).toInt = 3) := fun q => h48 (Int32.toInt_inj.mp q)
            refine lv_iload_n hx hb d_Md_scriptEnded_158 rfl (lv_at hl 1 rfl) ?_
            refine lv_iconst (v := 4) hx hb d_Md_scriptEnded_159 (by decide) ?_
            refine lv_icmp_ne hx hb d_Md_scriptEnded_160 rfl (fun h49 => ?_) (fun h49 => ?_)
            · have g49 : ¬ ((M 11 (L + 1)).toInt = 4) := fun q => h49 (Int32.toInt_inj.mp q)
              refine lv_iload_n hx hb d_Md_scriptEnded_188 rfl (lv_at hl 1 rfl) ?_
              refine lv_iconst (v := 4) hx hb d_Md_scriptEnded_189 (by decide) ?_
              refine lv_icmp_ne hx hb d_Md_scriptEnded_190 rfl (fun h50 => ?_) (fun h50 => ?_)
              · have g50 : ¬ ((M 11 (L + 1)).toInt = 4) := fun q => h50 (Int32.toInt_inj.mp q)
                refine lv_iload_n hx hb d_Md_scriptEnded_209 rfl (lv_at hl 1 rfl) ?_
                refine lv_iconst (v := 5) hx hb d_Md_scriptEnded_210 (by decide) ?_
                refine lv_icmp_ne hx hb d_Md_scriptEnded_211 rfl (fun h51 => ?_) (fun h51 => ?_)
                · have g51 : ¬ ((M 11 (L + 1)).toInt = 5) := fun q => h51 (Int32.toInt_inj.mp q)
                  exact W.vret hx hb hr (fun t ht hW => ⟨⟨M10, rfl, ⟨hI, hF, (Nx_0 ((wr_off eM10 (by omega)).trans (wr_at eM6)) (((wr_off eM10 (by omega)).trans (wr_off eM6 (by omega))).trans hm0) (by rw [(wr_off eM10 (by omega)).trans ((wr_off eM6 (by omega)).trans (han)), nI_toInt (n := an) (by omega)]; omega))⟩, by unfold ux_E; rw [ht]; exact hP⟩, hS.F ht⟩) hS.2.2 d_Md_scriptEnded_226
                · have g51 : (M 11 (L + 1)).toInt = 5 := congrArg Int32.toInt h51
                  refine lv_aload_n hx hb d_Md_scriptEnded_214 rfl (lv_at hl 2 rfl) ?_
                  refine ux_get (C := R_Md) (T := F_Md) (N := 50) hx hb hT in_Md hown hK hP (by decide) rfl rfl 24 (by decide) (hT _ fl_Md_149) rfl d_Md_scriptEnded_215 ?_
                  refine lv_iconst (v := 5) hx hb d_Md_scriptEnded_218 (by decide) ?_
                  refine lv_icmp_eq hx hb d_Md_scriptEnded_219 rfl (fun h52 => ?_) (fun h52 => ?_)
                  · have g52 : (M10 0 24).toInt = 5 := congrArg Int32.toInt h52
                    exact W.vret hx hb hr (fun t ht hW => ⟨⟨M10, rfl, ⟨hI, hF, (Nx_0 ((wr_off eM10 (by omega)).trans (wr_at eM6)) (((wr_off eM10 (by omega)).trans (wr_off eM6 (by omega))).trans hm0) (by rw [(wr_off eM10 (by omega)).trans ((wr_off eM6 (by omega)).trans (han)), nI_toInt (n := an) (by omega)]; omega))⟩, by unfold ux_E; rw [ht]; exact hP⟩, hS.F ht⟩) hS.2.2 d_Md_scriptEnded_226
                  · have g52 : ¬ ((M10 0 24).toInt = 5) := fun q => h52 (Int32.toInt_inj.mp q)
                    refine lv_aload_n hx hb d_Md_scriptEnded_222 rfl (lv_at hl 2 rfl) ?_
                    refine ux_callv (va_runV ⟨hx, hb, hml, hown, hts⟩ (s_Md_caught l D ad cA A TB hA hB  M10 hI L hL ((wr_off eM10 (by omega)).trans (wr_at eM6)) (fun z => nmK_cong (fun a b q => (wr_off eM10 (by omega)).trans (wr_off eM6 (by omega))) (hju.2.2 (by assumption) ((congrArg Int32.toInt ((wr_off eM10 (by omega)).trans (wr_off eM6 (by omega)))).symm.trans z)))) (cwV 0 hts (tb_goodV ml_Md_170 im_Md_caught se_Md_caught ii_Md kt_Md_caught) rfl rfl rfl (by decide +kernel) ⟨Nat.le_of_ble_eq_true rfl, Nat.le_of_ble_eq_true rfl⟩) (ux_preV (by decide) rfl rfl hP hK hi hN) rfl rfl hl.1 rfl (lv_room (Nat.le_of_ble_eq_true rfl)) d_Md_scriptEnded_223 ⟨Nat.zero_le _, Nat.zero_le _⟩) hS (fun M54 H locs q55 hP hS => ?_)
                    obtain ⟨hI, fq55, q55p⟩ := q55
                    have hF := fr_call hF fq55 (fun a b q => by unfold mCa at q; unfold mRd; omega)
                    exact W.vret hx hb hr (fun t ht hW => ⟨⟨M54, rfl, ⟨hI, hF, (Nx_0 ((fq55 _ _ (by unfold mCa; omega)).trans ((wr_off eM10 (by omega)).trans (wr_at eM6))) (((fq55 _ _ (by unfold mCa; omega)).trans ((wr_off eM10 (by omega)).trans (wr_off eM6 (by omega)))).trans hm0) (by rw [(fq55 _ _ (by unfold mCa; omega)).trans ((wr_off eM10 (by omega)).trans ((wr_off eM6 (by omega)).trans (han))), nI_toInt (n := an) (by omega)]; omega))⟩, by unfold ux_E; rw [ht]; exact hP⟩, hS.F ht⟩) hS.2.2 d_Md_scriptEnded_226
              · have g50 : (M 11 (L + 1)).toInt = 4 := congrArg Int32.toInt h50
                refine lv_aload_n hx hb d_Md_scriptEnded_193 rfl (lv_at hl 2 rfl) ?_
                refine ux_get (C := R_Md) (T := F_Md) (N := 50) hx hb hT in_Md hown hK hP (by decide) rfl rfl 24 (by decide) (hT _ fl_Md_149) rfl d_Md_scriptEnded_194 ?_
                refine lv_iconst (v := 2) hx hb d_Md_scriptEnded_197 (by decide) ?_
                refine lv_icmp_ne hx hb d_Md_scriptEnded_198 rfl (fun h56 => ?_) (fun h56 => ?_)
                · have g56 : ¬ ((M10 0 24).toInt = 2) := fun q => h56 (Int32.toInt_inj.mp q)
                  refine lv_iload_n hx hb d_Md_scriptEnded_209 rfl (lv_at hl 1 rfl) ?_
                  refine lv_iconst (v := 5) hx hb d_Md_scriptEnded_210 (by decide) ?_
                  refine lv_icmp_ne hx hb d_Md_scriptEnded_211 rfl (fun h57 => ?_) (fun h57 => ?_)
                  · have g57 : ¬ ((M 11 (L + 1)).toInt = 5) := fun q => h57 (Int32.toInt_inj.mp q)
                    exact W.vret hx hb hr (fun t ht hW => ⟨⟨M10, rfl, ⟨hI, hF, (Nx_0 ((wr_off eM10 (by omega)).trans (wr_at eM6)) (((wr_off eM10 (by omega)).trans (wr_off eM6 (by omega))).trans hm0) (by rw [(wr_off eM10 (by omega)).trans ((wr_off eM6 (by omega)).trans (han)), nI_toInt (n := an) (by omega)]; omega))⟩, by unfold ux_E; rw [ht]; exact hP⟩, hS.F ht⟩) hS.2.2 d_Md_scriptEnded_226
                  · have g57 : (M 11 (L + 1)).toInt = 5 := congrArg Int32.toInt h57
                    refine lv_aload_n hx hb d_Md_scriptEnded_214 rfl (lv_at hl 2 rfl) ?_
                    refine ux_get (C := R_Md) (T := F_Md) (N := 50) hx hb hT in_Md hown hK hP (by decide) rfl rfl 24 (by decide) (hT _ fl_Md_149) rfl d_Md_scriptEnded_215 ?_
                    refine lv_iconst (v := 5) hx hb d_Md_scriptEnded_218 (by decide) ?_
                    refine lv_icmp_eq hx hb d_Md_scriptEnded_219 rfl (fun h58 => ?_) (fun h58 => ?_)
                    · have g58 : (M10 0 24).toInt = 5 := congrArg Int32.toInt h58
                      exact W.vret hx hb hr (fun t ht hW => ⟨⟨M10, rfl, ⟨hI, hF, (Nx_0 ((wr_off eM10 (by omega)).trans (wr_at eM6)) (((wr_off eM10 (by omega)).trans (wr_off eM6 (by omega))).trans hm0) (by rw [(wr_off eM10 (by omega)).trans ((wr_off eM6 (by omega)).trans (han)), nI_toInt (n := an) (by omega)]; omega))⟩, by unfold ux_E; rw [ht]; exact hP⟩, hS.F ht⟩) hS.2.2 d_Md_scriptEnded_226
                    · have g58 : ¬ ((M10 0 24).toInt = 5) := fun q => h58 (Int32.toInt_inj.mp q)
                      refine lv_aload_n hx hb d_Md_scriptEnded_222 rfl (lv_at hl 2 rfl) ?_
                      refine ux_callv (va_runV ⟨hx, hb, hml, hown, hts⟩ (s_Md_caught l D ad cA A TB hA hB  M10 hI L hL ((wr_off eM10 (by omega)).trans (wr_at eM6)) (fun z => nmK_cong (fun a b q => (wr_off eM10 (by omega)).trans (wr_off eM6 (by omega))) (hju.2.2 (by assumption) ((congrArg Int32.toInt ((wr_off eM10 (by omega)).trans (wr_off eM6 (by omega)))).symm.trans z)))) (cwV 0 hts (tb_goodV ml_Md_170 im_Md_caught se_Md_caught ii_Md kt_Md_caught) rfl rfl rfl (by decide +kernel) ⟨Nat.le_of_ble_eq_true rfl, Nat.le_of_ble_eq_true rfl⟩) (ux_preV (by decide) rfl rfl hP hK hi hN) rfl rfl hl.1 rfl (lv_room (Nat.le_of_ble_eq_true rfl)) d_Md_scriptEnded_223 ⟨Nat.zero_le _, Nat.zero_le _⟩) hS (fun M60 H locs q61 hP hS => ?_)
                      obtain ⟨hI, fq61, q61p⟩ := q61
                      have hF := fr_call hF fq61 (fun a b q => by unfold mCa at q; unfold mRd; omega)
                      exact W.vret hx hb hr (fun t ht hW => ⟨⟨M60, rfl, ⟨hI, hF, (Nx_0 ((fq61 _ _ (by unfold mCa; omega)).trans ((wr_off eM10 (by omega)).trans (wr_at eM6))) (((fq61 _ _ (by unfold mCa; omega)).trans ((wr_off eM10 (by omega)).trans (wr_off eM6 (by omega)))).trans hm0) (by rw [(fq61 _ _ (by unfold mCa; omega)).trans ((wr_off eM10 (by omega)).trans ((wr_off eM6 (by omega)).trans (han))), nI_toInt (n := an) (by omega)]; omega))⟩, by unfold ux_E; rw [ht]; exact hP⟩, hS.F ht⟩) hS.2.2 d_Md_scriptEnded_226
                · have g56 : (M10 0 24).toInt = 2 := congrArg Int32.toInt h56
                  refine lv_aload_n hx hb d_Md_scriptEnded_201 rfl (lv_at hl 2 rfl) ?_
                  refine lv_iconst (v := 0) hx hb d_Md_scriptEnded_202 (by decide) ?_
                  refine ux_put (C := R_Md) (T := F_Md) (N := 50) hx hb hT in_Md t_Md t_Md_ok n_Md hown hK hi hP hS (by decide) rfl rfl 24 (by decide) (hT _ fl_Md_149) rfl (rfl) (rfl) rfl d_Md_scriptEnded_203 (fun H locs hP hS => ?_)
                  have hI := IvM_free (k := 0) (j := 24) (v := 0) hI rfl rfl (by unfold okW; omega)
                  have hF := fr_wr (k := 0) (j := 24) (v := 0) hF (by unfold mRd; omega)
                  generalize eM62 : ux_wr M10 0 24 0 = M62 at hP hI hF
                  refine lv_goto hx hb d_Md_scriptEnded_206 rfl ?_
                  exact W.vret hx hb hr (fun t ht hW => ⟨⟨M62, rfl, ⟨hI, hF, (Nx_0 ((wr_off eM62 (by omega)).trans ((wr_off eM10 (by omega)).trans (wr_at eM6))) (((wr_off eM62 (by omega)).trans ((wr_off eM10 (by omega)).trans (wr_off eM6 (by omega)))).trans hm0) (by rw [(wr_off eM62 (by omega)).trans ((wr_off eM10 (by omega)).trans ((wr_off eM6 (by omega)).trans (han))), nI_toInt (n := an) (by omega)]; omega))⟩, by unfold ux_E; rw [ht]; exact hP⟩, hS.F ht⟩) hS.2.2 d_Md_scriptEnded_226
            · have g49 : (M 11 (L + 1)).toInt = 4 := congrArg Int32.toInt h49
              refine lv_aload_n hx hb d_Md_scriptEnded_163 rfl (lv_at hl 2 rfl) ?_
              refine ux_get (C := R_Md) (T := F_Md) (N := 50) hx hb hT in_Md hown hK hP (by decide) rfl rfl 24 (by decide) (hT _ fl_Md_149) rfl d_Md_scriptEnded_164 ?_
              refine lv_iconst (v := 3) hx hb d_Md_scriptEnded_167 (by decide) ?_
              refine lv_icmp_eq hx hb d_Md_scriptEnded_168 rfl (fun h63 => ?_) (fun h63 => ?_)
              · have g63 : (M10 0 24).toInt = 3 := congrArg Int32.toInt h63
                refine lv_aload_n hx hb d_Md_scriptEnded_179 rfl (lv_at hl 2 rfl) ?_
                refine lv_bipush (v := 9) hx hb d_Md_scriptEnded_180 (by decide) ?_
                refine ux_callv (va_runV ⟨hx, hb, hml, hown, hts⟩ (s_Md_error l D ad cA A TB hA hB  M10 hI 9) (cwV 1 hts (tb_goodV ml_Md_166 im_Md_error se_Md_error ii_Md kt_Md_error) rfl rfl rfl (by decide +kernel) ⟨Nat.le_of_ble_eq_true rfl, Nat.le_of_ble_eq_true rfl⟩) (ux_preV (by decide) rfl rfl hP hK hi hN) rfl rfl hl.1 rfl (lv_room (Nat.le_of_ble_eq_true rfl)) d_Md_scriptEnded_182 ⟨Nat.zero_le _, Nat.zero_le _⟩) hS (fun M65 H locs q66 hP hS => ?_)
                obtain ⟨hI, fq66, q66p⟩ := q66
                have hF := fr_call hF fq66 (fun a b q => by unfold mEr at q; unfold mRd; omega)
                refine lv_goto hx hb d_Md_scriptEnded_185 rfl ?_
                exact W.vret hx hb hr (fun t ht hW => ⟨⟨M65, rfl, ⟨hI, hF, (Nx_0 ((fq66 _ _ (by unfold mEr; omega)).trans ((wr_off eM10 (by omega)).trans (wr_at eM6))) (((fq66 _ _ (by unfold mEr; omega)).trans ((wr_off eM10 (by omega)).trans (wr_off eM6 (by omega)))).trans hm0) (by rw [(fq66 _ _ (by unfold mEr; omega)).trans ((wr_off eM10 (by omega)).trans ((wr_off eM6 (by omega)).trans (han))), nI_toInt (n := an) (by omega)]; omega))⟩, by unfold ux_E; rw [ht]; exact hP⟩, hS.F ht⟩) hS.2.2 d_Md_scriptEnded_226
              · have g63 : ¬ ((M10 0 24).toInt = 3) := fun q => h63 (Int32.toInt_inj.mp q)
                refine lv_aload_n hx hb d_Md_scriptEnded_171 rfl (lv_at hl 2 rfl) ?_
                refine ux_get (C := R_Md) (T := F_Md) (N := 50) hx hb hT in_Md hown hK hP (by decide) rfl rfl 24 (by decide) (hT _ fl_Md_149) rfl d_Md_scriptEnded_172 ?_
                refine lv_iconst (v := 4) hx hb d_Md_scriptEnded_175 (by decide) ?_
                refine lv_icmp_ne hx hb d_Md_scriptEnded_176 rfl (fun h67 => ?_) (fun h67 => ?_)
                · have g67 : ¬ ((M10 0 24).toInt = 4) := fun q => h67 (Int32.toInt_inj.mp q)
                  refine lv_iload_n hx hb d_Md_scriptEnded_188 rfl (lv_at hl 1 rfl) ?_
                  refine lv_iconst (v := 4) hx hb d_Md_scriptEnded_189 (by decide) ?_
                  refine lv_icmp_ne hx hb d_Md_scriptEnded_190 rfl (fun h68 => ?_) (fun h68 => ?_)
                  · have g68 : ¬ ((M 11 (L + 1)).toInt = 4) := fun q => h68 (Int32.toInt_inj.mp q)
                    refine lv_iload_n hx hb d_Md_scriptEnded_209 rfl (lv_at hl 1 rfl) ?_
                    refine lv_iconst (v := 5) hx hb d_Md_scriptEnded_210 (by decide) ?_
                    refine lv_icmp_ne hx hb d_Md_scriptEnded_211 rfl (fun h69 => ?_) (fun h69 => ?_)
                    · have g69 : ¬ ((M 11 (L + 1)).toInt = 5) := fun q => h69 (Int32.toInt_inj.mp q)
                      exact W.vret hx hb hr (fun t ht hW => ⟨⟨M10, rfl, ⟨hI, hF, (Nx_0 ((wr_off eM10 (by omega)).trans (wr_at eM6)) (((wr_off eM10 (by omega)).trans (wr_off eM6 (by omega))).trans hm0) (by rw [(wr_off eM10 (by omega)).trans ((wr_off eM6 (by omega)).trans (han)), nI_toInt (n := an) (by omega)]; omega))⟩, by unfold ux_E; rw [ht]; exact hP⟩, hS.F ht⟩) hS.2.2 d_Md_scriptEnded_226
                    · have g69 : (M 11 (L + 1)).toInt = 5 := congrArg Int32.toInt h69
                      refine lv_aload_n hx hb d_Md_scriptEnded_214 rfl (lv_at hl 2 rfl) ?_
                      refine ux_get (C := R_Md) (T := F_Md) (N := 50) hx hb hT in_Md hown hK hP (by decide) rfl rfl 24 (by decide) (hT _ fl_Md_149) rfl d_Md_scriptEnded_215 ?_
                      refine lv_iconst (v := 5) hx hb d_Md_scriptEnded_218 (by decide) ?_
                      refine lv_icmp_eq hx hb d_Md_scriptEnded_219 rfl (fun h70 => ?_) (fun h70 => ?_)
                      · have g70 : (M10 0 24).toInt = 5 := congrArg Int32.toInt h70
                        exact W.vret hx hb hr (fun t ht hW => ⟨⟨M10, rfl, ⟨hI, hF, (Nx_0 ((wr_off eM10 (by omega)).trans (wr_at eM6)) (((wr_off eM10 (by omega)).trans (wr_off eM6 (by omega))).trans hm0) (by rw [(wr_off eM10 (by omega)).trans ((wr_off eM6 (by omega)).trans (han)), nI_toInt (n := an) (by omega)]; omega))⟩, by unfold ux_E; rw [ht]; exact hP⟩, hS.F ht⟩) hS.2.2 d_Md_scriptEnded_226
                      · have g70 : ¬ ((M10 0 24).toInt = 5) := fun q => h70 (Int32.toInt_inj.mp q)
                        refine lv_aload_n hx hb d_Md_scriptEnded_222 rfl (lv_at hl 2 rfl) ?_
                        refine ux_callv (va_runV ⟨hx, hb, hml, hown, hts⟩ (s_Md_caught l D ad cA A TB hA hB  M10 hI L hL ((wr_off eM10 (by omega)).trans (wr_at eM6)) (fun z => nmK_cong (fun a b q => (wr_off eM10 (by omega)).trans (wr_off eM6 (by omega))) (hju.2.2 (by assumption) ((congrArg Int32.toInt ((wr_off eM10 (by omega)).trans (wr_off eM6 (by omega)))).symm.trans z)))) (cwV 0 hts (tb_goodV ml_Md_170 im_Md_caught se_Md_caught ii_Md kt_Md_caught) rfl rfl rfl (by decide +kernel) ⟨Nat.le_of_ble_eq_true rfl, Nat.le_of_ble_eq_true rfl⟩) (ux_preV (by decide) rfl rfl hP hK hi hN) rfl rfl hl.1 rfl (lv_room (Nat.le_of_ble_eq_true rfl)) d_Md_scriptEnded_223 ⟨Nat.zero_le _, Nat.zero_le _⟩) hS (fun M72 H locs q73 hP hS => ?_)
                        obtain ⟨hI, fq73, q73p⟩ := q73
                        have hF := fr_call hF fq73 (fun a b q => by unfold mCa at q; unfold mRd; omega)
                        exact W.vret hx hb hr (fun t ht hW => ⟨⟨M72, rfl, ⟨hI, hF, (Nx_0 ((fq73 _ _ (by unfold mCa; omega)).trans ((wr_off eM10 (by omega)).trans (wr_at eM6))) (((fq73 _ _ (by unfold mCa; omega)).trans ((wr_off eM10 (by omega)).trans (wr_off eM6 (by omega)))).trans hm0) (by rw [(fq73 _ _ (by unfold mCa; omega)).trans ((wr_off eM10 (by omega)).trans ((wr_off eM6 (by omega)).trans (han))), nI_toInt (n := an) (by omega)]; omega))⟩, by unfold ux_E; rw [ht]; exact hP⟩, hS.F ht⟩) hS.2.2 d_Md_scriptEnded_226
                  · have g68 : (M 11 (L + 1)).toInt = 4 := congrArg Int32.toInt h68
                    refine lv_aload_n hx hb d_Md_scriptEnded_193 rfl (lv_at hl 2 rfl) ?_
                    refine ux_get (C := R_Md) (T := F_Md) (N := 50) hx hb hT in_Md hown hK hP (by decide) rfl rfl 24 (by decide) (hT _ fl_Md_149) rfl d_Md_scriptEnded_194 ?_
                    refine lv_iconst (v := 2) hx hb d_Md_scriptEnded_197 (by decide) ?_
                    refine lv_icmp_ne hx hb d_Md_scriptEnded_198 rfl (fun h74 => ?_) (fun h74 => ?_)
                    · have g74 : ¬ ((M10 0 24).toInt = 2) := fun q => h74 (Int32.toInt_inj.mp q)
                      refine lv_iload_n hx hb d_Md_scriptEnded_209 rfl (lv_at hl 1 rfl) ?_
                      refine lv_iconst (v := 5) hx hb d_Md_scriptEnded_210 (by decide) ?_
                      refine lv_icmp_ne hx hb d_Md_scriptEnded_211 rfl (fun h75 => ?_) (fun h75 => ?_)
                      · have g75 : ¬ ((M 11 (L + 1)).toInt = 5) := fun q => h75 (Int32.toInt_inj.mp q)
                        exact W.vret hx hb hr (fun t ht hW => ⟨⟨M10, rfl, ⟨hI, hF, (Nx_0 ((wr_off eM10 (by omega)).trans (wr_at eM6)) (((wr_off eM10 (by omega)).trans (wr_off eM6 (by omega))).trans hm0) (by rw [(wr_off eM10 (by omega)).trans ((wr_off eM6 (by omega)).trans (han)), nI_toInt (n := an) (by omega)]; omega))⟩, by unfold ux_E; rw [ht]; exact hP⟩, hS.F ht⟩) hS.2.2 d_Md_scriptEnded_226
                      · have g75 : (M 11 (L + 1)).toInt = 5 := congrArg Int32.toInt h75
                        refine lv_aload_n hx hb d_Md_scriptEnded_214 rfl (lv_at hl 2 rfl) ?_
                        refine ux_get (C := R_Md) (T := F_Md) (N := 50) hx hb hT in_Md hown hK hP (by decide) rfl rfl 24 (by decide) (hT _ fl_Md_149) rfl d_Md_scriptEnded_215 ?_
                        refine lv_iconst (v := 5) hx hb d_Md_scriptEnded_218 (by decide) ?_
                        refine lv_icmp_eq hx hb d_Md_scriptEnded_219 rfl (fun h76 => ?_) (fun h76 => ?_)
                        · have g76 : (M10 0 24).toInt = 5 := congrArg Int32.toInt h76
                          exact W.vret hx hb hr (fun t ht hW => ⟨⟨M10, rfl, ⟨hI, hF, (Nx_0 ((wr_off eM10 (by omega)).trans (wr_at eM6)) (((wr_off eM10 (by omega)).trans (wr_off eM6 (by omega))).trans hm0) (by rw [(wr_off eM10 (by omega)).trans ((wr_off eM6 (by omega)).trans (han)), nI_toInt (n := an) (by omega)]; omega))⟩, by unfold ux_E; rw [ht]; exact hP⟩, hS.F ht⟩) hS.2.2 d_Md_scriptEnded_226
                        · have g76 : ¬ ((M10 0 24).toInt = 5) := fun q => h76 (Int32.toInt_inj.mp q)
                          refine lv_aload_n hx hb d_Md_scriptEnded_222 rfl (lv_at hl 2 rfl) ?_
                          refine ux_callv (va_runV ⟨hx, hb, hml, hown, hts⟩ (s_Md_caught l D ad cA A TB hA hB  M10 hI L hL ((wr_off eM10 (by omega)).trans (wr_at eM6)) (fun z => nmK_cong (fun a b q => (wr_off eM10 (by omega)).trans (wr_off eM6 (by omega))) (hju.2.2 (by assumption) ((congrArg Int32.toInt ((wr_off eM10 (by omega)).trans (wr_off eM6 (by omega)))).symm.trans z)))) (cwV 0 hts (tb_goodV ml_Md_170 im_Md_caught se_Md_caught ii_Md kt_Md_caught) rfl rfl rfl (by decide +kernel) ⟨Nat.le_of_ble_eq_true rfl, Nat.le_of_ble_eq_true rfl⟩) (ux_preV (by decide) rfl rfl hP hK hi hN) rfl rfl hl.1 rfl (lv_room (Nat.le_of_ble_eq_true rfl)) d_Md_scriptEnded_223 ⟨Nat.zero_le _, Nat.zero_le _⟩) hS (fun M78 H locs q79 hP hS => ?_)
                          obtain ⟨hI, fq79, q79p⟩ := q79
                          have hF := fr_call hF fq79 (fun a b q => by unfold mCa at q; unfold mRd; omega)
                          exact W.vret hx hb hr (fun t ht hW => ⟨⟨M78, rfl, ⟨hI, hF, (Nx_0 ((fq79 _ _ (by unfold mCa; omega)).trans ((wr_off eM10 (by omega)).trans (wr_at eM6))) (((fq79 _ _ (by unfold mCa; omega)).trans ((wr_off eM10 (by omega)).trans (wr_off eM6 (by omega)))).trans hm0) (by rw [(fq79 _ _ (by unfold mCa; omega)).trans ((wr_off eM10 (by omega)).trans ((wr_off eM6 (by omega)).trans (han))), nI_toInt (n := an) (by omega)]; omega))⟩, by unfold ux_E; rw [ht]; exact hP⟩, hS.F ht⟩) hS.2.2 d_Md_scriptEnded_226
                    · have g74 : (M10 0 24).toInt = 2 := congrArg Int32.toInt h74
                      refine lv_aload_n hx hb d_Md_scriptEnded_201 rfl (lv_at hl 2 rfl) ?_
                      refine lv_iconst (v := 0) hx hb d_Md_scriptEnded_202 (by decide) ?_
                      refine ux_put (C := R_Md) (T := F_Md) (N := 50) hx hb hT in_Md t_Md t_Md_ok n_Md hown hK hi hP hS (by decide) rfl rfl 24 (by decide) (hT _ fl_Md_149) rfl (rfl) (rfl) rfl d_Md_scriptEnded_203 (fun H locs hP hS => ?_)
                      have hI := IvM_free (k := 0) (j := 24) (v := 0) hI rfl rfl (by unfold okW; omega)
                      have hF := fr_wr (k := 0) (j := 24) (v := 0) hF (by unfold mRd; omega)
                      generalize eM80 : ux_wr M10 0 24 0 = M80 at hP hI hF
                      refine lv_goto hx hb d_Md_scriptEnded_206 rfl ?_
                      exact W.vret hx hb hr (fun t ht hW => ⟨⟨M80, rfl, ⟨hI, hF, (Nx_0 ((wr_off eM80 (by omega)).trans ((wr_off eM10 (by omega)).trans (wr_at eM6))) (((wr_off eM80 (by omega)).trans ((wr_off eM10 (by omega)).trans (wr_off eM6 (by omega)))).trans hm0) (by rw [(wr_off eM80 (by omega)).trans ((wr_off eM10 (by omega)).trans ((wr_off eM6 (by omega)).trans (han))), nI_toInt (n := an) (by omega)]; omega))⟩, by unfold ux_E; rw [ht]; exact hP⟩, hS.F ht⟩) hS.2.2 d_Md_scriptEnded_226
                · have g67 : (M10 0 24).toInt = 4 := congrArg Int32.toInt h67
                  refine lv_aload_n hx hb d_Md_scriptEnded_179 rfl (lv_at hl 2 rfl) ?_
                  refine lv_bipush (v := 9) hx hb d_Md_scriptEnded_180 (by decide) ?_
                  refine ux_callv (va_runV ⟨hx, hb, hml, hown, hts⟩ (s_Md_error l D ad cA A TB hA hB  M10 hI 9) (cwV 1 hts (tb_goodV ml_Md_166 im_Md_error se_Md_error ii_Md kt_Md_error) rfl rfl rfl (by decide +kernel) ⟨Nat.le_of_ble_eq_true rfl, Nat.le_of_ble_eq_true rfl⟩) (ux_preV (by decide) rfl rfl hP hK hi hN) rfl rfl hl.1 rfl (lv_room (Nat.le_of_ble_eq_true rfl)) d_Md_scriptEnded_182 ⟨Nat.zero_le _, Nat.zero_le _⟩) hS (fun M82 H locs q83 hP hS => ?_)
                  obtain ⟨hI, fq83, q83p⟩ := q83
                  have hF := fr_call hF fq83 (fun a b q => by unfold mEr at q; unfold mRd; omega)
                  refine lv_goto hx hb d_Md_scriptEnded_185 rfl ?_
                  exact W.vret hx hb hr (fun t ht hW => ⟨⟨M82, rfl, ⟨hI, hF, (Nx_0 ((fq83 _ _ (by unfold mEr; omega)).trans ((wr_off eM10 (by omega)).trans (wr_at eM6))) (((fq83 _ _ (by unfold mEr; omega)).trans ((wr_off eM10 (by omega)).trans (wr_off eM6 (by omega)))).trans hm0) (by rw [(fq83 _ _ (by unfold mEr; omega)).trans ((wr_off eM10 (by omega)).trans ((wr_off eM6 (by omega)).trans (han))), nI_toInt (n := an) (by omega)]; omega))⟩, by unfold ux_E; rw [ht]; exact hP⟩, hS.F ht⟩) hS.2.2 d_Md_scriptEnded_226
          · have g48 : (M10 0 24).toInt = 3 := congrArg Int32.toInt h48
            refine lv_aload_n hx hb d_Md_scriptEnded_146 rfl (lv_at hl 2 rfl) ?_
            refine ux_callv (va_runV ⟨hx, hb, hml, hown, hts⟩ (s_Md_nothing l D ad cA A TB hA hB  M10 hI ) (cwV 0 hts (tb_goodV ml_Md_138 im_Md_nothing se_Md_nothing ii_Md kt_Md_nothing) rfl rfl rfl (by decide +kernel) ⟨Nat.le_of_ble_eq_true rfl, Nat.le_of_ble_eq_true rfl⟩) (ux_preV (by decide) rfl rfl hP hK hi hN) rfl rfl hl.1 rfl (lv_room (Nat.le_of_ble_eq_true rfl)) d_Md_scriptEnded_147 ⟨Nat.zero_le _, Nat.zero_le _⟩) hS (fun M85 H locs q86 hP hS => ?_)
            obtain ⟨hI, fq86, q86p⟩ := q86
            have hF := fr_call hF fq86 (fun a b q => by unfold mRe at q; unfold mRd; omega)
            refine lv_aload_n hx hb d_Md_scriptEnded_150 rfl (lv_at hl 2 rfl) ?_
            refine lv_iconst (v := 0) hx hb d_Md_scriptEnded_151 (by decide) ?_
            refine ux_put (C := R_Md) (T := F_Md) (N := 50) hx hb hT in_Md t_Md t_Md_ok n_Md hown hK hi hP hS (by decide) rfl rfl 24 (by decide) (hT _ fl_Md_149) rfl (rfl) (rfl) rfl d_Md_scriptEnded_152 (fun H locs hP hS => ?_)
            have hI := IvM_free (k := 0) (j := 24) (v := 0) hI rfl rfl (by unfold okW; omega)
            have hF := fr_wr (k := 0) (j := 24) (v := 0) hF (by unfold mRd; omega)
            generalize eM87 : ux_wr M85 0 24 0 = M87 at hP hI hF
            refine lv_goto hx hb d_Md_scriptEnded_155 rfl ?_
            exact W.vret hx hb hr (fun t ht hW => ⟨⟨M87, rfl, ⟨hI, hF, (Nx_0 ((wr_off eM87 (by omega)).trans ((fq86 _ _ (by unfold mRe; omega)).trans ((wr_off eM10 (by omega)).trans (wr_at eM6)))) (((wr_off eM87 (by omega)).trans ((fq86 _ _ (by unfold mRe; omega)).trans ((wr_off eM10 (by omega)).trans (wr_off eM6 (by omega))))).trans hm0) (by rw [(wr_off eM87 (by omega)).trans ((fq86 _ _ (by unfold mRe; omega)).trans ((wr_off eM10 (by omega)).trans ((wr_off eM6 (by omega)).trans (han)))), nI_toInt (n := an) (by omega)]; omega))⟩, by unfold ux_E; rw [ht]; exact hP⟩, hS.F ht⟩) hS.2.2 d_Md_scriptEnded_226
      · have g11 : (M 11 (L + 1)).toInt = 3 := congrArg Int32.toInt h11
        refine lv_aload_n hx hb d_Md_scriptEnded_111 rfl (lv_at hl 2 rfl) ?_
        refine ux_get (C := R_Md) (T := F_Md) (N := 50) hx hb hT in_Md hown hK hP (by decide) rfl rfl 24 (by decide) (hT _ fl_Md_149) rfl d_Md_scriptEnded_112 ?_
        refine lv_if_eq hx hb d_Md_scriptEnded_115 rfl (fun h88 => ?_) (fun h88 => ?_)
        · have g88 : (M10 0 24).toInt = 0 := congrArg Int32.toInt h88
          have hb12 := hju.2.1 (by assumption)
          have hbq1 : ¬ M10 17 (8 * L + 1) = 0 := fun q => hb12.1 (((wr_off eM10 (by omega)).trans (wr_off eM6 (by omega))).symm.trans q)
          have hbq2 : ¬ M10 17 (8 * L + 2) = 0 := fun q => hb12.2 (((wr_off eM10 (by omega)).trans (wr_off eM6 (by omega))).symm.trans q)
          refine lv_aload_n hx hb d_Md_scriptEnded_126 rfl (lv_at hl 2 rfl) ?_
          refine ux_callv (va_runV ⟨hx, hb, hml, hown, hts⟩ (s_Md_again l D ad cA A TB hA hB  M10 hI L hL ((wr_off eM10 (by omega)).trans (wr_at eM6)) hA2 (by first | assumption | exact hq1 (by omega)) (by first | assumption | exact hq2 (by omega))) (cwV 0 hts (tb_goodV ml_Md_216 im_Md_again se_Md_again ii_Md kt_Md_again) rfl rfl rfl (by decide +kernel) ⟨Nat.le_of_ble_eq_true rfl, Nat.le_of_ble_eq_true rfl⟩) (ux_preV (by decide) rfl rfl hP hK hi hN) rfl rfl hl.1 rfl (lv_room (Nat.le_of_ble_eq_true rfl)) d_Md_scriptEnded_127 ⟨Nat.zero_le _, Nat.zero_le _⟩) hS (fun M90 H locs q91 hP hS => ?_)
          obtain ⟨hI, fq91, q91p⟩ := q91
          have hF := fr_call hF fq91 (fun a b q => by unfold mCm at q; unfold mRd; omega)
          refine lv_goto hx hb d_Md_scriptEnded_130 rfl ?_
          exact W.vret hx hb hr (fun t ht hW => ⟨⟨M90, rfl, ⟨hI, hF, (OutS_Nx fq91 (((wr_off eM10 (by omega)).trans (wr_off eM6 (by omega))).trans hm0) (by rw [(wr_off eM10 (by omega)).trans ((wr_off eM6 (by omega)).trans (han)), nI_toInt (n := an) (by omega)]; omega) (by omega) q91p)⟩, by unfold ux_E; rw [ht]; exact hP⟩, hS.F ht⟩) hS.2.2 d_Md_scriptEnded_226
        · have g88 : ¬ ((M10 0 24).toInt = 0) := fun q => h88 (Int32.toInt_inj.mp q)
          refine lv_aload_n hx hb d_Md_scriptEnded_118 rfl (lv_at hl 2 rfl) ?_
          refine ux_get (C := R_Md) (T := F_Md) (N := 50) hx hb hT in_Md hown hK hP (by decide) rfl rfl 24 (by decide) (hT _ fl_Md_149) rfl d_Md_scriptEnded_119 ?_
          refine lv_iconst (v := 4) hx hb d_Md_scriptEnded_122 (by decide) ?_
          refine lv_icmp_ne hx hb d_Md_scriptEnded_123 rfl (fun h92 => ?_) (fun h92 => ?_)
          · have g92 : ¬ ((M10 0 24).toInt = 4) := fun q => h92 (Int32.toInt_inj.mp q)
            refine lv_iload_n hx hb d_Md_scriptEnded_133 rfl (lv_at hl 1 rfl) ?_
            refine lv_iconst (v := 3) hx hb d_Md_scriptEnded_134 (by decide) ?_
            refine lv_icmp_ne hx hb d_Md_scriptEnded_135 rfl (fun h93 => ?_) (fun h93 => ?_)
            · have g93 : ¬ ((M 11 (L + 1)).toInt = 3) := fun q => h93 (Int32.toInt_inj.mp q)
              refine lv_iload_n hx hb d_Md_scriptEnded_158 rfl (lv_at hl 1 rfl) ?_
              refine lv_iconst (v := 4) hx hb d_Md_scriptEnded_159 (by decide) ?_
              refine lv_icmp_ne hx hb d_Md_scriptEnded_160 rfl (fun h94 => ?_) (fun h94 => ?_)
              · have g94 : ¬ ((M 11 (L + 1)).toInt = 4) := fun q => h94 (Int32.toInt_inj.mp q)
                refine lv_iload_n hx hb d_Md_scriptEnded_188 rfl (lv_at hl 1 rfl) ?_
                refine lv_iconst (v := 4) hx hb d_Md_scriptEnded_189 (by decide) ?_
                refine lv_icmp_ne hx hb d_Md_scriptEnded_190 rfl (fun h95 => ?_) (fun h95 => ?_)
                · have g95 : ¬ ((M 11 (L + 1)).toInt = 4) := fun q => h95 (Int32.toInt_inj.mp q)
                  refine lv_iload_n hx hb d_Md_scriptEnded_209 rfl (lv_at hl 1 rfl) ?_
                  refine lv_iconst (v := 5) hx hb d_Md_scriptEnded_210 (by decide) ?_
                  refine lv_icmp_ne hx hb d_Md_scriptEnded_211 rfl (fun h96 => ?_) (fun h96 => ?_)
                  · have g96 : ¬ ((M 11 (L + 1)).toInt = 5) := fun q => h96 (Int32.toInt_inj.mp q)
                    exact W.vret hx hb hr (fun t ht hW => ⟨⟨M10, rfl, ⟨hI, hF, (Nx_0 ((wr_off eM10 (by omega)).trans (wr_at eM6)) (((wr_off eM10 (by omega)).trans (wr_off eM6 (by omega))).trans hm0) (by rw [(wr_off eM10 (by omega)).trans ((wr_off eM6 (by omega)).trans (han)), nI_toInt (n := an) (by omega)]; omega))⟩, by unfold ux_E; rw [ht]; exact hP⟩, hS.F ht⟩) hS.2.2 d_Md_scriptEnded_226
                  · have g96 : (M 11 (L + 1)).toInt = 5 := congrArg Int32.toInt h96
                    refine lv_aload_n hx hb d_Md_scriptEnded_214 rfl (lv_at hl 2 rfl) ?_
                    refine ux_get (C := R_Md) (T := F_Md) (N := 50) hx hb hT in_Md hown hK hP (by decide) rfl rfl 24 (by decide) (hT _ fl_Md_149) rfl d_Md_scriptEnded_215 ?_
                    refine lv_iconst (v := 5) hx hb d_Md_scriptEnded_218 (by decide) ?_
                    refine lv_icmp_eq hx hb d_Md_scriptEnded_219 rfl (fun h97 => ?_) (fun h97 => ?_)
                    · have g97 : (M10 0 24).toInt = 5 := congrArg Int32.toInt h97
                      exact W.vret hx hb hr (fun t ht hW => ⟨⟨M10, rfl, ⟨hI, hF, (Nx_0 ((wr_off eM10 (by omega)).trans (wr_at eM6)) (((wr_off eM10 (by omega)).trans (wr_off eM6 (by omega))).trans hm0) (by rw [(wr_off eM10 (by omega)).trans ((wr_off eM6 (by omega)).trans (han)), nI_toInt (n := an) (by omega)]; omega))⟩, by unfold ux_E; rw [ht]; exact hP⟩, hS.F ht⟩) hS.2.2 d_Md_scriptEnded_226
                    · have g97 : ¬ ((M10 0 24).toInt = 5) := fun q => h97 (Int32.toInt_inj.mp q)
                      refine lv_aload_n hx hb d_Md_scriptEnded_222 rfl (lv_at hl 2 rfl) ?_
                      refine ux_callv (va_runV ⟨hx, hb, hml, hown, hts⟩ (s_Md_caught l D ad cA A TB hA hB  M10 hI L hL ((wr_off eM10 (by omega)).trans (wr_at eM6)) (fun z => nmK_cong (fun a b q => (wr_off eM10 (by omega)).trans (wr_off eM6 (by omega))) (hju.2.2 (by assumption) ((congrArg Int32.toInt ((wr_off eM10 (by omega)).trans (wr_off eM6 (by omega)))).symm.trans z)))) (cwV 0 hts (tb_goodV ml_Md_170 im_Md_caught se_Md_caught ii_Md kt_Md_caught) rfl rfl rfl (by decide +kernel) ⟨Nat.le_of_ble_eq_true rfl, Nat.le_of_ble_eq_true rfl⟩) (ux_preV (by decide) rfl rfl hP hK hi hN) rfl rfl hl.1 rfl (lv_room (Nat.le_of_ble_eq_true rfl)) d_Md_scriptEnded_223 ⟨Nat.zero_le _, Nat.zero_le _⟩) hS (fun M99 H locs q100 hP hS => ?_)
                      obtain ⟨hI, fq100, q100p⟩ := q100
                      have hF := fr_call hF fq100 (fun a b q => by unfold mCa at q; unfold mRd; omega)
                      exact W.vret hx hb hr (fun t ht hW => ⟨⟨M99, rfl, ⟨hI, hF, (Nx_0 ((fq100 _ _ (by unfold mCa; omega)).trans ((wr_off eM10 (by omega)).trans (wr_at eM6))) (((fq100 _ _ (by unfold mCa; omega)).trans ((wr_off eM10 (by omega)).trans (wr_off eM6 (by omega)))).trans hm0) (by rw [(fq100 _ _ (by unfold mCa; omega)).trans ((wr_off eM10 (by omega)).trans ((wr_off eM6 (by omega)).trans (han))), nI_toInt (n := an) (by omega)]; omega))⟩, by unfold ux_E; rw [ht]; exact hP⟩, hS.F ht⟩) hS.2.2 d_Md_scriptEnded_226
                · have g95 : (M 11 (L + 1)).toInt = 4 := congrArg Int32.toInt h95
                  refine lv_aload_n hx hb d_Md_scriptEnded_193 rfl (lv_at hl 2 rfl) ?_
                  refine ux_get (C := R_Md) (T := F_Md) (N := 50) hx hb hT in_Md hown hK hP (by decide) rfl rfl 24 (by decide) (hT _ fl_Md_149) rfl d_Md_scriptEnded_194 ?_
                  refine lv_iconst (v := 2) hx hb d_Md_scriptEnded_197 (by decide) ?_
                  refine lv_icmp_ne hx hb d_Md_scriptEnded_198 rfl (fun h101 => ?_) (fun h101 => ?_)
                  · have g101 : ¬ ((M10 0 24).toInt = 2) := fun q => h101 (Int32.toInt_inj.mp q)
                    refine lv_iload_n hx hb d_Md_scriptEnded_209 rfl (lv_at hl 1 rfl) ?_
                    refine lv_iconst (v := 5) hx hb d_Md_scriptEnded_210 (by decide) ?_
                    refine lv_icmp_ne hx hb d_Md_scriptEnded_211 rfl (fun h102 => ?_) (fun h102 => ?_)
                    · have g102 : ¬ ((M 11 (L + 1)).toInt = 5) := fun q => h102 (Int32.toInt_inj.mp q)
                      exact W.vret hx hb hr (fun t ht hW => ⟨⟨M10, rfl, ⟨hI, hF, (Nx_0 ((wr_off eM10 (by omega)).trans (wr_at eM6)) (((wr_off eM10 (by omega)).trans (wr_off eM6 (by omega))).trans hm0) (by rw [(wr_off eM10 (by omega)).trans ((wr_off eM6 (by omega)).trans (han)), nI_toInt (n := an) (by omega)]; omega))⟩, by unfold ux_E; rw [ht]; exact hP⟩, hS.F ht⟩) hS.2.2 d_Md_scriptEnded_226
                    · have g102 : (M 11 (L + 1)).toInt = 5 := congrArg Int32.toInt h102
                      refine lv_aload_n hx hb d_Md_scriptEnded_214 rfl (lv_at hl 2 rfl) ?_
                      refine ux_get (C := R_Md) (T := F_Md) (N := 50) hx hb hT in_Md hown hK hP (by decide) rfl rfl 24 (by decide) (hT _ fl_Md_149) rfl d_Md_scriptEnded_215 ?_
                      refine lv_iconst (v := 5) hx hb d_Md_scriptEnded_218 (by decide) ?_
                      refine lv_icmp_eq hx hb d_Md_scriptEnded_219 rfl (fun h103 => ?_) (fun h103 => ?_)
                      · have g103 : (M10 0 24).toInt = 5 := congrArg Int32.toInt h103
                        exact W.vret hx hb hr (fun t ht hW => ⟨⟨M10, rfl, ⟨hI, hF, (Nx_0 ((wr_off eM10 (by omega)).trans (wr_at eM6)) (((wr_off eM10 (by omega)).trans (wr_off eM6 (by omega))).trans hm0) (by rw [(wr_off eM10 (by omega)).trans ((wr_off eM6 (by omega)).trans (han)), nI_toInt (n := an) (by omega)]; omega))⟩, by unfold ux_E; rw [ht]; exact hP⟩, hS.F ht⟩) hS.2.2 d_Md_scriptEnded_226
                      · have g103 : ¬ ((M10 0 24).toInt = 5) := fun q => h103 (Int32.toInt_inj.mp q)
                        refine lv_aload_n hx hb d_Md_scriptEnded_222 rfl (lv_at hl 2 rfl) ?_
                        refine ux_callv (va_runV ⟨hx, hb, hml, hown, hts⟩ (s_Md_caught l D ad cA A TB hA hB  M10 hI L hL ((wr_off eM10 (by omega)).trans (wr_at eM6)) (fun z => nmK_cong (fun a b q => (wr_off eM10 (by omega)).trans (wr_off eM6 (by omega))) (hju.2.2 (by assumption) ((congrArg Int32.toInt ((wr_off eM10 (by omega)).trans (wr_off eM6 (by omega)))).symm.trans z)))) (cwV 0 hts (tb_goodV ml_Md_170 im_Md_caught se_Md_caught ii_Md kt_Md_caught) rfl rfl rfl (by decide +kernel) ⟨Nat.le_of_ble_eq_true rfl, Nat.le_of_ble_eq_true rfl⟩) (ux_preV (by decide) rfl rfl hP hK hi hN) rfl rfl hl.1 rfl (lv_room (Nat.le_of_ble_eq_true rfl)) d_Md_scriptEnded_223 ⟨Nat.zero_le _, Nat.zero_le _⟩) hS (fun M105 H locs q106 hP hS => ?_)
                        obtain ⟨hI, fq106, q106p⟩ := q106
                        have hF := fr_call hF fq106 (fun a b q => by unfold mCa at q; unfold mRd; omega)
                        exact W.vret hx hb hr (fun t ht hW => ⟨⟨M105, rfl, ⟨hI, hF, (Nx_0 ((fq106 _ _ (by unfold mCa; omega)).trans ((wr_off eM10 (by omega)).trans (wr_at eM6))) (((fq106 _ _ (by unfold mCa; omega)).trans ((wr_off eM10 (by omega)).trans (wr_off eM6 (by omega)))).trans hm0) (by rw [(fq106 _ _ (by unfold mCa; omega)).trans ((wr_off eM10 (by omega)).trans ((wr_off eM6 (by omega)).trans (han))), nI_toInt (n := an) (by omega)]; omega))⟩, by unfold ux_E; rw [ht]; exact hP⟩, hS.F ht⟩) hS.2.2 d_Md_scriptEnded_226
                  · have g101 : (M10 0 24).toInt = 2 := congrArg Int32.toInt h101
                    refine lv_aload_n hx hb d_Md_scriptEnded_201 rfl (lv_at hl 2 rfl) ?_
                    refine lv_iconst (v := 0) hx hb d_Md_scriptEnded_202 (by decide) ?_
                    refine ux_put (C := R_Md) (T := F_Md) (N := 50) hx hb hT in_Md t_Md t_Md_ok n_Md hown hK hi hP hS (by decide) rfl rfl 24 (by decide) (hT _ fl_Md_149) rfl (rfl) (rfl) rfl d_Md_scriptEnded_203 (fun H locs hP hS => ?_)
                    have hI := IvM_free (k := 0) (j := 24) (v := 0) hI rfl rfl (by unfold okW; omega)
                    have hF := fr_wr (k := 0) (j := 24) (v := 0) hF (by unfold mRd; omega)
                    generalize eM107 : ux_wr M10 0 24 0 = M107 at hP hI hF
                    refine lv_goto hx hb d_Md_scriptEnded_206 rfl ?_
                    exact W.vret hx hb hr (fun t ht hW => ⟨⟨M107, rfl, ⟨hI, hF, (Nx_0 ((wr_off eM107 (by omega)).trans ((wr_off eM10 (by omega)).trans (wr_at eM6))) (((wr_off eM107 (by omega)).trans ((wr_off eM10 (by omega)).trans (wr_off eM6 (by omega)))).trans hm0) (by rw [(wr_off eM107 (by omega)).trans ((wr_off eM10 (by omega)).trans ((wr_off eM6 (by omega)).trans (han))), nI_toInt (n := an) (by omega)]; omega))⟩, by unfold ux_E; rw [ht]; exact hP⟩, hS.F ht⟩) hS.2.2 d_Md_scriptEnded_226
              · have g94 : (M 11 (L + 1)).toInt = 4 := congrArg Int32.toInt h94
                refine lv_aload_n hx hb d_Md_scriptEnded_163 rfl (lv_at hl 2 rfl) ?_
                refine ux_get (C := R_Md) (T := F_Md) (N := 50) hx hb hT in_Md hown hK hP (by decide) rfl rfl 24 (by decide) (hT _ fl_Md_149) rfl d_Md_scriptEnded_164 ?_
                refine lv_iconst (v := 3) hx hb d_Md_scriptEnded_167 (by decide) ?_
                refine lv_icmp_eq hx hb d_Md_scriptEnded_168 rfl (fun h108 => ?_) (fun h108 => ?_)
                · have g108 : (M10 0 24).toInt = 3 := congrArg Int32.toInt h108
                  refine lv_aload_n hx hb d_Md_scriptEnded_179 rfl (lv_at hl 2 rfl) ?_
                  refine lv_bipush (v := 9) hx hb d_Md_scriptEnded_180 (by decide) ?_
                  refine ux_callv (va_runV ⟨hx, hb, hml, hown, hts⟩ (s_Md_error l D ad cA A TB hA hB  M10 hI 9) (cwV 1 hts (tb_goodV ml_Md_166 im_Md_error se_Md_error ii_Md kt_Md_error) rfl rfl rfl (by decide +kernel) ⟨Nat.le_of_ble_eq_true rfl, Nat.le_of_ble_eq_true rfl⟩) (ux_preV (by decide) rfl rfl hP hK hi hN) rfl rfl hl.1 rfl (lv_room (Nat.le_of_ble_eq_true rfl)) d_Md_scriptEnded_182 ⟨Nat.zero_le _, Nat.zero_le _⟩) hS (fun M110 H locs q111 hP hS => ?_)
                  obtain ⟨hI, fq111, q111p⟩ := q111
                  have hF := fr_call hF fq111 (fun a b q => by unfold mEr at q; unfold mRd; omega)
                  refine lv_goto hx hb d_Md_scriptEnded_185 rfl ?_
                  exact W.vret hx hb hr (fun t ht hW => ⟨⟨M110, rfl, ⟨hI, hF, (Nx_0 ((fq111 _ _ (by unfold mEr; omega)).trans ((wr_off eM10 (by omega)).trans (wr_at eM6))) (((fq111 _ _ (by unfold mEr; omega)).trans ((wr_off eM10 (by omega)).trans (wr_off eM6 (by omega)))).trans hm0) (by rw [(fq111 _ _ (by unfold mEr; omega)).trans ((wr_off eM10 (by omega)).trans ((wr_off eM6 (by omega)).trans (han))), nI_toInt (n := an) (by omega)]; omega))⟩, by unfold ux_E; rw [ht]; exact hP⟩, hS.F ht⟩) hS.2.2 d_Md_scriptEnded_226
                · have g108 : ¬ ((M10 0 24).toInt = 3) := fun q => h108 (Int32.toInt_inj.mp q)
                  refine lv_aload_n hx hb d_Md_scriptEnded_171 rfl (lv_at hl 2 rfl) ?_
                  refine ux_get (C := R_Md) (T := F_Md) (N := 50) hx hb hT in_Md hown hK hP (by decide) rfl rfl 24 (by decide) (hT _ fl_Md_149) rfl d_Md_scriptEnded_172 ?_
                  refine lv_iconst (v := 4) hx hb d_Md_scriptEnded_175 (by decide) ?_
                  refine lv_icmp_ne hx hb d_Md_scriptEnded_176 rfl (fun h112 => ?_) (fun h112 => ?_)
                  · have g112 : ¬ ((M10 0 24).toInt = 4) := fun q => h112 (Int32.toInt_inj.mp q)
                    refine lv_iload_n hx hb d_Md_scriptEnded_188 rfl (lv_at hl 1 rfl) ?_
                    refine lv_iconst (v := 4) hx hb d_Md_scriptEnded_189 (by decide) ?_
                    refine lv_icmp_ne hx hb d_Md_scriptEnded_190 rfl (fun h113 => ?_) (fun h113 => ?_)
                    · have g113 : ¬ ((M 11 (L + 1)).toInt = 4) := fun q => h113 (Int32.toInt_inj.mp q)
                      refine lv_iload_n hx hb d_Md_scriptEnded_209 rfl (lv_at hl 1 rfl) ?_
                      refine lv_iconst (v := 5) hx hb d_Md_scriptEnded_210 (by decide) ?_
                      refine lv_icmp_ne hx hb d_Md_scriptEnded_211 rfl (fun h114 => ?_) (fun h114 => ?_)
                      · have g114 : ¬ ((M 11 (L + 1)).toInt = 5) := fun q => h114 (Int32.toInt_inj.mp q)
                        exact W.vret hx hb hr (fun t ht hW => ⟨⟨M10, rfl, ⟨hI, hF, (Nx_0 ((wr_off eM10 (by omega)).trans (wr_at eM6)) (((wr_off eM10 (by omega)).trans (wr_off eM6 (by omega))).trans hm0) (by rw [(wr_off eM10 (by omega)).trans ((wr_off eM6 (by omega)).trans (han)), nI_toInt (n := an) (by omega)]; omega))⟩, by unfold ux_E; rw [ht]; exact hP⟩, hS.F ht⟩) hS.2.2 d_Md_scriptEnded_226
                      · have g114 : (M 11 (L + 1)).toInt = 5 := congrArg Int32.toInt h114
                        refine lv_aload_n hx hb d_Md_scriptEnded_214 rfl (lv_at hl 2 rfl) ?_
                        refine ux_get (C := R_Md) (T := F_Md) (N := 50) hx hb hT in_Md hown hK hP (by decide) rfl rfl 24 (by decide) (hT _ fl_Md_149) rfl d_Md_scriptEnded_215 ?_
                        refine lv_iconst (v := 5) hx hb d_Md_scriptEnded_218 (by decide) ?_
                        refine lv_icmp_eq hx hb d_Md_scriptEnded_219 rfl (fun h115 => ?_) (fun h115 => ?_)
                        · have g115 : (M10 0 24).toInt = 5 := congrArg Int32.toInt h115
                          exact W.vret hx hb hr (fun t ht hW => ⟨⟨M10, rfl, ⟨hI, hF, (Nx_0 ((wr_off eM10 (by omega)).trans (wr_at eM6)) (((wr_off eM10 (by omega)).trans (wr_off eM6 (by omega))).trans hm0) (by rw [(wr_off eM10 (by omega)).trans ((wr_off eM6 (by omega)).trans (han)), nI_toInt (n := an) (by omega)]; omega))⟩, by unfold ux_E; rw [ht]; exact hP⟩, hS.F ht⟩) hS.2.2 d_Md_scriptEnded_226
                        · have g115 : ¬ ((M10 0 24).toInt = 5) := fun q => h115 (Int32.toInt_inj.mp q)
                          refine lv_aload_n hx hb d_Md_scriptEnded_222 rfl (lv_at hl 2 rfl) ?_
                          refine ux_callv (va_runV ⟨hx, hb, hml, hown, hts⟩ (s_Md_caught l D ad cA A TB hA hB  M10 hI L hL ((wr_off eM10 (by omega)).trans (wr_at eM6)) (fun z => nmK_cong (fun a b q => (wr_off eM10 (by omega)).trans (wr_off eM6 (by omega))) (hju.2.2 (by assumption) ((congrArg Int32.toInt ((wr_off eM10 (by omega)).trans (wr_off eM6 (by omega)))).symm.trans z)))) (cwV 0 hts (tb_goodV ml_Md_170 im_Md_caught se_Md_caught ii_Md kt_Md_caught) rfl rfl rfl (by decide +kernel) ⟨Nat.le_of_ble_eq_true rfl, Nat.le_of_ble_eq_true rfl⟩) (ux_preV (by decide) rfl rfl hP hK hi hN) rfl rfl hl.1 rfl (lv_room (Nat.le_of_ble_eq_true rfl)) d_Md_scriptEnded_223 ⟨Nat.zero_le _, Nat.zero_le _⟩) hS (fun M117 H locs q118 hP hS => ?_)
                          obtain ⟨hI, fq118, q118p⟩ := q118
                          have hF := fr_call hF fq118 (fun a b q => by unfold mCa at q; unfold mRd; omega)
                          exact W.vret hx hb hr (fun t ht hW => ⟨⟨M117, rfl, ⟨hI, hF, (Nx_0 ((fq118 _ _ (by unfold mCa; omega)).trans ((wr_off eM10 (by omega)).trans (wr_at eM6))) (((fq118 _ _ (by unfold mCa; omega)).trans ((wr_off eM10 (by omega)).trans (wr_off eM6 (by omega)))).trans hm0) (by rw [(fq118 _ _ (by unfold mCa; omega)).trans ((wr_off eM10 (by omega)).trans ((wr_off eM6 (by omega)).trans (han))), nI_toInt (n := an) (by omega)]; omega))⟩, by unfold ux_E; rw [ht]; exact hP⟩, hS.F ht⟩) hS.2.2 d_Md_scriptEnded_226
                    · have g113 : (M 11 (L + 1)).toInt = 4 := congrArg Int32.toInt h113
                      refine lv_aload_n hx hb d_Md_scriptEnded_193 rfl (lv_at hl 2 rfl) ?_
                      refine ux_get (C := R_Md) (T := F_Md) (N := 50) hx hb hT in_Md hown hK hP (by decide) rfl rfl 24 (by decide) (hT _ fl_Md_149) rfl d_Md_scriptEnded_194 ?_
                      refine lv_iconst (v := 2) hx hb d_Md_scriptEnded_197 (by decide) ?_
                      refine lv_icmp_ne hx hb d_Md_scriptEnded_198 rfl (fun h119 => ?_) (fun h119 => ?_)
                      · have g119 : ¬ ((M10 0 24).toInt = 2) := fun q => h119 (Int32.toInt_inj.mp q)
                        refine lv_iload_n hx hb d_Md_scriptEnded_209 rfl (lv_at hl 1 rfl) ?_
                        refine lv_iconst (v := 5) hx hb d_Md_scriptEnded_210 (by decide) ?_
                        refine lv_icmp_ne hx hb d_Md_scriptEnded_211 rfl (fun h120 => ?_) (fun h120 => ?_)
                        · have g120 : ¬ ((M 11 (L + 1)).toInt = 5) := fun q => h120 (Int32.toInt_inj.mp q)
                          exact W.vret hx hb hr (fun t ht hW => ⟨⟨M10, rfl, ⟨hI, hF, (Nx_0 ((wr_off eM10 (by omega)).trans (wr_at eM6)) (((wr_off eM10 (by omega)).trans (wr_off eM6 (by omega))).trans hm0) (by rw [(wr_off eM10 (by omega)).trans ((wr_off eM6 (by omega)).trans (han)), nI_toInt (n := an) (by omega)]; omega))⟩, by unfold ux_E; rw [ht]; exact hP⟩, hS.F ht⟩) hS.2.2 d_Md_scriptEnded_226
                        · have g120 : (M 11 (L + 1)).toInt = 5 := congrArg Int32.toInt h120
                          refine lv_aload_n hx hb d_Md_scriptEnded_214 rfl (lv_at hl 2 rfl) ?_
                          refine ux_get (C := R_Md) (T := F_Md) (N := 50) hx hb hT in_Md hown hK hP (by decide) rfl rfl 24 (by decide) (hT _ fl_Md_149) rfl d_Md_scriptEnded_215 ?_
                          refine lv_iconst (v := 5) hx hb d_Md_scriptEnded_218 (by decide) ?_
                          refine lv_icmp_eq hx hb d_Md_scriptEnded_219 rfl (fun h121 => ?_) (fun h121 => ?_)
                          · have g121 : (M10 0 24).toInt = 5 := congrArg Int32.toInt h121
                            exact W.vret hx hb hr (fun t ht hW => ⟨⟨M10, rfl, ⟨hI, hF, (Nx_0 ((wr_off eM10 (by omega)).trans (wr_at eM6)) (((wr_off eM10 (by omega)).trans (wr_off eM6 (by omega))).trans hm0) (by rw [(wr_off eM10 (by omega)).trans ((wr_off eM6 (by omega)).trans (han)), nI_toInt (n := an) (by omega)]; omega))⟩, by unfold ux_E; rw [ht]; exact hP⟩, hS.F ht⟩) hS.2.2 d_Md_scriptEnded_226
                          · have g121 : ¬ ((M10 0 24).toInt = 5) := fun q => h121 (Int32.toInt_inj.mp q)
                            refine lv_aload_n hx hb d_Md_scriptEnded_222 rfl (lv_at hl 2 rfl) ?_
                            refine ux_callv (va_runV ⟨hx, hb, hml, hown, hts⟩ (s_Md_caught l D ad cA A TB hA hB  M10 hI L hL ((wr_off eM10 (by omega)).trans (wr_at eM6)) (fun z => nmK_cong (fun a b q => (wr_off eM10 (by omega)).trans (wr_off eM6 (by omega))) (hju.2.2 (by assumption) ((congrArg Int32.toInt ((wr_off eM10 (by omega)).trans (wr_off eM6 (by omega)))).symm.trans z)))) (cwV 0 hts (tb_goodV ml_Md_170 im_Md_caught se_Md_caught ii_Md kt_Md_caught) rfl rfl rfl (by decide +kernel) ⟨Nat.le_of_ble_eq_true rfl, Nat.le_of_ble_eq_true rfl⟩) (ux_preV (by decide) rfl rfl hP hK hi hN) rfl rfl hl.1 rfl (lv_room (Nat.le_of_ble_eq_true rfl)) d_Md_scriptEnded_223 ⟨Nat.zero_le _, Nat.zero_le _⟩) hS (fun M123 H locs q124 hP hS => ?_)
                            obtain ⟨hI, fq124, q124p⟩ := q124
                            have hF := fr_call hF fq124 (fun a b q => by unfold mCa at q; unfold mRd; omega)
                            exact W.vret hx hb hr (fun t ht hW => ⟨⟨M123, rfl, ⟨hI, hF, (Nx_0 ((fq124 _ _ (by unfold mCa; omega)).trans ((wr_off eM10 (by omega)).trans (wr_at eM6))) (((fq124 _ _ (by unfold mCa; omega)).trans ((wr_off eM10 (by omega)).trans (wr_off eM6 (by omega)))).trans hm0) (by rw [(fq124 _ _ (by unfold mCa; omega)).trans ((wr_off eM10 (by omega)).trans ((wr_off eM6 (by omega)).trans (han))), nI_toInt (n := an) (by omega)]; omega))⟩, by unfold ux_E; rw [ht]; exact hP⟩, hS.F ht⟩) hS.2.2 d_Md_scriptEnded_226
                      · have g119 : (M10 0 24).toInt = 2 := congrArg Int32.toInt h119
                        refine lv_aload_n hx hb d_Md_scriptEnded_201 rfl (lv_at hl 2 rfl) ?_
                        refine lv_iconst (v := 0) hx hb d_Md_scriptEnded_202 (by decide) ?_
                        refine ux_put (C := R_Md) (T := F_Md) (N := 50) hx hb hT in_Md t_Md t_Md_ok n_Md hown hK hi hP hS (by decide) rfl rfl 24 (by decide) (hT _ fl_Md_149) rfl (rfl) (rfl) rfl d_Md_scriptEnded_203 (fun H locs hP hS => ?_)
                        have hI := IvM_free (k := 0) (j := 24) (v := 0) hI rfl rfl (by unfold okW; omega)
                        have hF := fr_wr (k := 0) (j := 24) (v := 0) hF (by unfold mRd; omega)
                        generalize eM125 : ux_wr M10 0 24 0 = M125 at hP hI hF
                        refine lv_goto hx hb d_Md_scriptEnded_206 rfl ?_
                        exact W.vret hx hb hr (fun t ht hW => ⟨⟨M125, rfl, ⟨hI, hF, (Nx_0 ((wr_off eM125 (by omega)).trans ((wr_off eM10 (by omega)).trans (wr_at eM6))) (((wr_off eM125 (by omega)).trans ((wr_off eM10 (by omega)).trans (wr_off eM6 (by omega)))).trans hm0) (by rw [(wr_off eM125 (by omega)).trans ((wr_off eM10 (by omega)).trans ((wr_off eM6 (by omega)).trans (han))), nI_toInt (n := an) (by omega)]; omega))⟩, by unfold ux_E; rw [ht]; exact hP⟩, hS.F ht⟩) hS.2.2 d_Md_scriptEnded_226
                  · have g112 : (M10 0 24).toInt = 4 := congrArg Int32.toInt h112
                    refine lv_aload_n hx hb d_Md_scriptEnded_179 rfl (lv_at hl 2 rfl) ?_
                    refine lv_bipush (v := 9) hx hb d_Md_scriptEnded_180 (by decide) ?_
                    refine ux_callv (va_runV ⟨hx, hb, hml, hown, hts⟩ (s_Md_error l D ad cA A TB hA hB  M10 hI 9) (cwV 1 hts (tb_goodV ml_Md_166 im_Md_error se_Md_error ii_Md kt_Md_error) rfl rfl rfl (by decide +kernel) ⟨Nat.le_of_ble_eq_true rfl, Nat.le_of_ble_eq_true rfl⟩) (ux_preV (by decide) rfl rfl hP hK hi hN) rfl rfl hl.1 rfl (lv_room (Nat.le_of_ble_eq_true rfl)) d_Md_scriptEnded_182 ⟨Nat.zero_le _, Nat.zero_le _⟩) hS (fun M127 H locs q128 hP hS => ?_)
                    obtain ⟨hI, fq128, q128p⟩ := q128
                    have hF := fr_call hF fq128 (fun a b q => by unfold mEr at q; unfold mRd; omega)
                    refine lv_goto hx hb d_Md_scriptEnded_185 rfl ?_
                    exact W.vret hx hb hr (fun t ht hW => ⟨⟨M127, rfl, ⟨hI, hF, (Nx_0 ((fq128 _ _ (by unfold mEr; omega)).trans ((wr_off eM10 (by omega)).trans (wr_at eM6))) (((fq128 _ _ (by unfold mEr; omega)).trans ((wr_off eM10 (by omega)).trans (wr_off eM6 (by omega)))).trans hm0) (by rw [(fq128 _ _ (by unfold mEr; omega)).trans ((wr_off eM10 (by omega)).trans ((wr_off eM6 (by omega)).trans (han))), nI_toInt (n := an) (by omega)]; omega))⟩, by unfold ux_E; rw [ht]; exact hP⟩, hS.F ht⟩) hS.2.2 d_Md_scriptEnded_226
            · have g93 : (M 11 (L + 1)).toInt = 3 := congrArg Int32.toInt h93
              refine lv_aload_n hx hb d_Md_scriptEnded_138 rfl (lv_at hl 2 rfl) ?_
              refine ux_get (C := R_Md) (T := F_Md) (N := 50) hx hb hT in_Md hown hK hP (by decide) rfl rfl 24 (by decide) (hT _ fl_Md_149) rfl d_Md_scriptEnded_139 ?_
              refine lv_iconst (v := 3) hx hb d_Md_scriptEnded_142 (by decide) ?_
              refine lv_icmp_ne hx hb d_Md_scriptEnded_143 rfl (fun h129 => ?_) (fun h129 => ?_)
              · have g129 : ¬ ((M10 0 24).toInt = 3) := fun q => h129 (Int32.toInt_inj.mp q)
                refine lv_iload_n hx hb d_Md_scriptEnded_158 rfl (lv_at hl 1 rfl) ?_
                refine lv_iconst (v := 4) hx hb d_Md_scriptEnded_159 (by decide) ?_
                refine lv_icmp_ne hx hb d_Md_scriptEnded_160 rfl (fun h130 => ?_) (fun h130 => ?_)
                · have g130 : ¬ ((M 11 (L + 1)).toInt = 4) := fun q => h130 (Int32.toInt_inj.mp q)
                  refine lv_iload_n hx hb d_Md_scriptEnded_188 rfl (lv_at hl 1 rfl) ?_
                  refine lv_iconst (v := 4) hx hb d_Md_scriptEnded_189 (by decide) ?_
                  refine lv_icmp_ne hx hb d_Md_scriptEnded_190 rfl (fun h131 => ?_) (fun h131 => ?_)
                  · have g131 : ¬ ((M 11 (L + 1)).toInt = 4) := fun q => h131 (Int32.toInt_inj.mp q)
                    refine lv_iload_n hx hb d_Md_scriptEnded_209 rfl (lv_at hl 1 rfl) ?_
                    refine lv_iconst (v := 5) hx hb d_Md_scriptEnded_210 (by decide) ?_
                    refine lv_icmp_ne hx hb d_Md_scriptEnded_211 rfl (fun h132 => ?_) (fun h132 => ?_)
                    · have g132 : ¬ ((M 11 (L + 1)).toInt = 5) := fun q => h132 (Int32.toInt_inj.mp q)
                      exact W.vret hx hb hr (fun t ht hW => ⟨⟨M10, rfl, ⟨hI, hF, (Nx_0 ((wr_off eM10 (by omega)).trans (wr_at eM6)) (((wr_off eM10 (by omega)).trans (wr_off eM6 (by omega))).trans hm0) (by rw [(wr_off eM10 (by omega)).trans ((wr_off eM6 (by omega)).trans (han)), nI_toInt (n := an) (by omega)]; omega))⟩, by unfold ux_E; rw [ht]; exact hP⟩, hS.F ht⟩) hS.2.2 d_Md_scriptEnded_226
                    · have g132 : (M 11 (L + 1)).toInt = 5 := congrArg Int32.toInt h132
                      refine lv_aload_n hx hb d_Md_scriptEnded_214 rfl (lv_at hl 2 rfl) ?_
                      refine ux_get (C := R_Md) (T := F_Md) (N := 50) hx hb hT in_Md hown hK hP (by decide) rfl rfl 24 (by decide) (hT _ fl_Md_149) rfl d_Md_scriptEnded_215 ?_
                      refine lv_iconst (v := 5) hx hb d_Md_scriptEnded_218 (by decide) ?_
                      refine lv_icmp_eq hx hb d_Md_scriptEnded_219 rfl (fun h133 => ?_) (fun h133 => ?_)
                      · have g133 : (M10 0 24).toInt = 5 := congrArg Int32.toInt h133
                        exact W.vret hx hb hr (fun t ht hW => ⟨⟨M10, rfl, ⟨hI, hF, (Nx_0 ((wr_off eM10 (by omega)).trans (wr_at eM6)) (((wr_off eM10 (by omega)).trans (wr_off eM6 (by omega))).trans hm0) (by rw [(wr_off eM10 (by omega)).trans ((wr_off eM6 (by omega)).trans (han)), nI_toInt (n := an) (by omega)]; omega))⟩, by unfold ux_E; rw [ht]; exact hP⟩, hS.F ht⟩) hS.2.2 d_Md_scriptEnded_226
                      · have g133 : ¬ ((M10 0 24).toInt = 5) := fun q => h133 (Int32.toInt_inj.mp q)
                        refine lv_aload_n hx hb d_Md_scriptEnded_222 rfl (lv_at hl 2 rfl) ?_
                        refine ux_callv (va_runV ⟨hx, hb, hml, hown, hts⟩ (s_Md_caught l D ad cA A TB hA hB  M10 hI L hL ((wr_off eM10 (by omega)).trans (wr_at eM6)) (fun z => nmK_cong (fun a b q => (wr_off eM10 (by omega)).trans (wr_off eM6 (by omega))) (hju.2.2 (by assumption) ((congrArg Int32.toInt ((wr_off eM10 (by omega)).trans (wr_off eM6 (by omega)))).symm.trans z)))) (cwV 0 hts (tb_goodV ml_Md_170 im_Md_caught se_Md_caught ii_Md kt_Md_caught) rfl rfl rfl (by decide +kernel) ⟨Nat.le_of_ble_eq_true rfl, Nat.le_of_ble_eq_true rfl⟩) (ux_preV (by decide) rfl rfl hP hK hi hN) rfl rfl hl.1 rfl (lv_room (Nat.le_of_ble_eq_true rfl)) d_Md_scriptEnded_223 ⟨Nat.zero_le _, Nat.zero_le _⟩) hS (fun M135 H locs q136 hP hS => ?_)
                        obtain ⟨hI, fq136, q136p⟩ := q136
                        have hF := fr_call hF fq136 (fun a b q => by unfold mCa at q; unfold mRd; omega)
                        exact W.vret hx hb hr (fun t ht hW => ⟨⟨M135, rfl, ⟨hI, hF, (Nx_0 ((fq136 _ _ (by unfold mCa; omega)).trans ((wr_off eM10 (by omega)).trans (wr_at eM6))) (((fq136 _ _ (by unfold mCa; omega)).trans ((wr_off eM10 (by omega)).trans (wr_off eM6 (by omega)))).trans hm0) (by rw [(fq136 _ _ (by unfold mCa; omega)).trans ((wr_off eM10 (by omega)).trans ((wr_off eM6 (by omega)).trans (han))), nI_toInt (n := an) (by omega)]; omega))⟩, by unfold ux_E; rw [ht]; exact hP⟩, hS.F ht⟩) hS.2.2 d_Md_scriptEnded_226
                  · have g131 : (M 11 (L + 1)).toInt = 4 := congrArg Int32.toInt h131
                    refine lv_aload_n hx hb d_Md_scriptEnded_193 rfl (lv_at hl 2 rfl) ?_
                    refine ux_get (C := R_Md) (T := F_Md) (N := 50) hx hb hT in_Md hown hK hP (by decide) rfl rfl 24 (by decide) (hT _ fl_Md_149) rfl d_Md_scriptEnded_194 ?_
                    refine lv_iconst (v := 2) hx hb d_Md_scriptEnded_197 (by decide) ?_
                    refine lv_icmp_ne hx hb d_Md_scriptEnded_198 rfl (fun h137 => ?_) (fun h137 => ?_)
                    · have g137 : ¬ ((M10 0 24).toInt = 2) := fun q => h137 (Int32.toInt_inj.mp q)
                      refine lv_iload_n hx hb d_Md_scriptEnded_209 rfl (lv_at hl 1 rfl) ?_
                      refine lv_iconst (v := 5) hx hb d_Md_scriptEnded_210 (by decide) ?_
                      refine lv_icmp_ne hx hb d_Md_scriptEnded_211 rfl (fun h138 => ?_) (fun h138 => ?_)
                      · have g138 : ¬ ((M 11 (L + 1)).toInt = 5) := fun q => h138 (Int32.toInt_inj.mp q)
                        exact W.vret hx hb hr (fun t ht hW => ⟨⟨M10, rfl, ⟨hI, hF, (Nx_0 ((wr_off eM10 (by omega)).trans (wr_at eM6)) (((wr_off eM10 (by omega)).trans (wr_off eM6 (by omega))).trans hm0) (by rw [(wr_off eM10 (by omega)).trans ((wr_off eM6 (by omega)).trans (han)), nI_toInt (n := an) (by omega)]; omega))⟩, by unfold ux_E; rw [ht]; exact hP⟩, hS.F ht⟩) hS.2.2 d_Md_scriptEnded_226
                      · have g138 : (M 11 (L + 1)).toInt = 5 := congrArg Int32.toInt h138
                        refine lv_aload_n hx hb d_Md_scriptEnded_214 rfl (lv_at hl 2 rfl) ?_
                        refine ux_get (C := R_Md) (T := F_Md) (N := 50) hx hb hT in_Md hown hK hP (by decide) rfl rfl 24 (by decide) (hT _ fl_Md_149) rfl d_Md_scriptEnded_215 ?_
                        refine lv_iconst (v := 5) hx hb d_Md_scriptEnded_218 (by decide) ?_
                        refine lv_icmp_eq hx hb d_Md_scriptEnded_219 rfl (fun h139 => ?_) (fun h139 => ?_)
                        · have g139 : (M10 0 24).toInt = 5 := congrArg Int32.toInt h139
                          exact W.vret hx hb hr (fun t ht hW => ⟨⟨M10, rfl, ⟨hI, hF, (Nx_0 ((wr_off eM10 (by omega)).trans (wr_at eM6)) (((wr_off eM10 (by omega)).trans (wr_off eM6 (by omega))).trans hm0) (by rw [(wr_off eM10 (by omega)).trans ((wr_off eM6 (by omega)).trans (han)), nI_toInt (n := an) (by omega)]; omega))⟩, by unfold ux_E; rw [ht]; exact hP⟩, hS.F ht⟩) hS.2.2 d_Md_scriptEnded_226
                        · have g139 : ¬ ((M10 0 24).toInt = 5) := fun q => h139 (Int32.toInt_inj.mp q)
                          refine lv_aload_n hx hb d_Md_scriptEnded_222 rfl (lv_at hl 2 rfl) ?_
                          refine ux_callv (va_runV ⟨hx, hb, hml, hown, hts⟩ (s_Md_caught l D ad cA A TB hA hB  M10 hI L hL ((wr_off eM10 (by omega)).trans (wr_at eM6)) (fun z => nmK_cong (fun a b q => (wr_off eM10 (by omega)).trans (wr_off eM6 (by omega))) (hju.2.2 (by assumption) ((congrArg Int32.toInt ((wr_off eM10 (by omega)).trans (wr_off eM6 (by omega)))).symm.trans z)))) (cwV 0 hts (tb_goodV ml_Md_170 im_Md_caught se_Md_caught ii_Md kt_Md_caught) rfl rfl rfl (by decide +kernel) ⟨Nat.le_of_ble_eq_true rfl, Nat.le_of_ble_eq_true rfl⟩) (ux_preV (by decide) rfl rfl hP hK hi hN) rfl rfl hl.1 rfl (lv_room (Nat.le_of_ble_eq_true rfl)) d_Md_scriptEnded_223 ⟨Nat.zero_le _, Nat.zero_le _⟩) hS (fun M141 H locs q142 hP hS => ?_)
                          obtain ⟨hI, fq142, q142p⟩ := q142
                          have hF := fr_call hF fq142 (fun a b q => by unfold mCa at q; unfold mRd; omega)
                          exact W.vret hx hb hr (fun t ht hW => ⟨⟨M141, rfl, ⟨hI, hF, (Nx_0 ((fq142 _ _ (by unfold mCa; omega)).trans ((wr_off eM10 (by omega)).trans (wr_at eM6))) (((fq142 _ _ (by unfold mCa; omega)).trans ((wr_off eM10 (by omega)).trans (wr_off eM6 (by omega)))).trans hm0) (by rw [(fq142 _ _ (by unfold mCa; omega)).trans ((wr_off eM10 (by omega)).trans ((wr_off eM6 (by omega)).trans (han))), nI_toInt (n := an) (by omega)]; omega))⟩, by unfold ux_E; rw [ht]; exact hP⟩, hS.F ht⟩) hS.2.2 d_Md_scriptEnded_226
                    · have g137 : (M10 0 24).toInt = 2 := congrArg Int32.toInt h137
                      refine lv_aload_n hx hb d_Md_scriptEnded_201 rfl (lv_at hl 2 rfl) ?_
                      refine lv_iconst (v := 0) hx hb d_Md_scriptEnded_202 (by decide) ?_
                      refine ux_put (C := R_Md) (T := F_Md) (N := 50) hx hb hT in_Md t_Md t_Md_ok n_Md hown hK hi hP hS (by decide) rfl rfl 24 (by decide) (hT _ fl_Md_149) rfl (rfl) (rfl) rfl d_Md_scriptEnded_203 (fun H locs hP hS => ?_)
                      have hI := IvM_free (k := 0) (j := 24) (v := 0) hI rfl rfl (by unfold okW; omega)
                      have hF := fr_wr (k := 0) (j := 24) (v := 0) hF (by unfold mRd; omega)
                      generalize eM143 : ux_wr M10 0 24 0 = M143 at hP hI hF
                      refine lv_goto hx hb d_Md_scriptEnded_206 rfl ?_
                      exact W.vret hx hb hr (fun t ht hW => ⟨⟨M143, rfl, ⟨hI, hF, (Nx_0 ((wr_off eM143 (by omega)).trans ((wr_off eM10 (by omega)).trans (wr_at eM6))) (((wr_off eM143 (by omega)).trans ((wr_off eM10 (by omega)).trans (wr_off eM6 (by omega)))).trans hm0) (by rw [(wr_off eM143 (by omega)).trans ((wr_off eM10 (by omega)).trans ((wr_off eM6 (by omega)).trans (han))), nI_toInt (n := an) (by omega)]; omega))⟩, by unfold ux_E; rw [ht]; exact hP⟩, hS.F ht⟩) hS.2.2 d_Md_scriptEnded_226
                · have g130 : (M 11 (L + 1)).toInt = 4 := congrArg Int32.toInt h130
                  refine lv_aload_n hx hb d_Md_scriptEnded_163 rfl (lv_at hl 2 rfl) ?_
                  refine ux_get (C := R_Md) (T := F_Md) (N := 50) hx hb hT in_Md hown hK hP (by decide) rfl rfl 24 (by decide) (hT _ fl_Md_149) rfl d_Md_scriptEnded_164 ?_
                  refine lv_iconst (v := 3) hx hb d_Md_scriptEnded_167 (by decide) ?_
                  refine lv_icmp_eq hx hb d_Md_scriptEnded_168 rfl (fun h144 => ?_) (fun h144 => ?_)
                  · have g144 : (M10 0 24).toInt = 3 := congrArg Int32.toInt h144
                    refine lv_aload_n hx hb d_Md_scriptEnded_179 rfl (lv_at hl 2 rfl) ?_
                    refine lv_bipush (v := 9) hx hb d_Md_scriptEnded_180 (by decide) ?_
                    refine ux_callv (va_runV ⟨hx, hb, hml, hown, hts⟩ (s_Md_error l D ad cA A TB hA hB  M10 hI 9) (cwV 1 hts (tb_goodV ml_Md_166 im_Md_error se_Md_error ii_Md kt_Md_error) rfl rfl rfl (by decide +kernel) ⟨Nat.le_of_ble_eq_true rfl, Nat.le_of_ble_eq_true rfl⟩) (ux_preV (by decide) rfl rfl hP hK hi hN) rfl rfl hl.1 rfl (lv_room (Nat.le_of_ble_eq_true rfl)) d_Md_scriptEnded_182 ⟨Nat.zero_le _, Nat.zero_le _⟩) hS (fun M146 H locs q147 hP hS => ?_)
                    obtain ⟨hI, fq147, q147p⟩ := q147
                    have hF := fr_call hF fq147 (fun a b q => by unfold mEr at q; unfold mRd; omega)
                    refine lv_goto hx hb d_Md_scriptEnded_185 rfl ?_
                    exact W.vret hx hb hr (fun t ht hW => ⟨⟨M146, rfl, ⟨hI, hF, (Nx_0 ((fq147 _ _ (by unfold mEr; omega)).trans ((wr_off eM10 (by omega)).trans (wr_at eM6))) (((fq147 _ _ (by unfold mEr; omega)).trans ((wr_off eM10 (by omega)).trans (wr_off eM6 (by omega)))).trans hm0) (by rw [(fq147 _ _ (by unfold mEr; omega)).trans ((wr_off eM10 (by omega)).trans ((wr_off eM6 (by omega)).trans (han))), nI_toInt (n := an) (by omega)]; omega))⟩, by unfold ux_E; rw [ht]; exact hP⟩, hS.F ht⟩) hS.2.2 d_Md_scriptEnded_226
                  · have g144 : ¬ ((M10 0 24).toInt = 3) := fun q => h144 (Int32.toInt_inj.mp q)
                    refine lv_aload_n hx hb d_Md_scriptEnded_171 rfl (lv_at hl 2 rfl) ?_
                    refine ux_get (C := R_Md) (T := F_Md) (N := 50) hx hb hT in_Md hown hK hP (by decide) rfl rfl 24 (by decide) (hT _ fl_Md_149) rfl d_Md_scriptEnded_172 ?_
                    refine lv_iconst (v := 4) hx hb d_Md_scriptEnded_175 (by decide) ?_
                    refine lv_icmp_ne hx hb d_Md_scriptEnded_176 rfl (fun h148 => ?_) (fun h148 => ?_)
                    · have g148 : ¬ ((M10 0 24).toInt = 4) := fun q => h148 (Int32.toInt_inj.mp q)
                      refine lv_iload_n hx hb d_Md_scriptEnded_188 rfl (lv_at hl 1 rfl) ?_
                      refine lv_iconst (v := 4) hx hb d_Md_scriptEnded_189 (by decide) ?_
                      refine lv_icmp_ne hx hb d_Md_scriptEnded_190 rfl (fun h149 => ?_) (fun h149 => ?_)
                      · have g149 : ¬ ((M 11 (L + 1)).toInt = 4) := fun q => h149 (Int32.toInt_inj.mp q)
                        refine lv_iload_n hx hb d_Md_scriptEnded_209 rfl (lv_at hl 1 rfl) ?_
                        refine lv_iconst (v := 5) hx hb d_Md_scriptEnded_210 (by decide) ?_
                        refine lv_icmp_ne hx hb d_Md_scriptEnded_211 rfl (fun h150 => ?_) (fun h150 => ?_)
                        · have g150 : ¬ ((M 11 (L + 1)).toInt = 5) := fun q => h150 (Int32.toInt_inj.mp q)
                          exact W.vret hx hb hr (fun t ht hW => ⟨⟨M10, rfl, ⟨hI, hF, (Nx_0 ((wr_off eM10 (by omega)).trans (wr_at eM6)) (((wr_off eM10 (by omega)).trans (wr_off eM6 (by omega))).trans hm0) (by rw [(wr_off eM10 (by omega)).trans ((wr_off eM6 (by omega)).trans (han)), nI_toInt (n := an) (by omega)]; omega))⟩, by unfold ux_E; rw [ht]; exact hP⟩, hS.F ht⟩) hS.2.2 d_Md_scriptEnded_226
                        · have g150 : (M 11 (L + 1)).toInt = 5 := congrArg Int32.toInt h150
                          refine lv_aload_n hx hb d_Md_scriptEnded_214 rfl (lv_at hl 2 rfl) ?_
                          refine ux_get (C := R_Md) (T := F_Md) (N := 50) hx hb hT in_Md hown hK hP (by decide) rfl rfl 24 (by decide) (hT _ fl_Md_149) rfl d_Md_scriptEnded_215 ?_
                          refine lv_iconst (v := 5) hx hb d_Md_scriptEnded_218 (by decide) ?_
                          refine lv_icmp_eq hx hb d_Md_scriptEnded_219 rfl (fun h151 => ?_) (fun h151 => ?_)
                          · have g151 : (M10 0 24).toInt = 5 := congrArg Int32.toInt h151
                            exact W.vret hx hb hr (fun t ht hW => ⟨⟨M10, rfl, ⟨hI, hF, (Nx_0 ((wr_off eM10 (by omega)).trans (wr_at eM6)) (((wr_off eM10 (by omega)).trans (wr_off eM6 (by omega))).trans hm0) (by rw [(wr_off eM10 (by omega)).trans ((wr_off eM6 (by omega)).trans (han)), nI_toInt (n := an) (by omega)]; omega))⟩, by unfold ux_E; rw [ht]; exact hP⟩, hS.F ht⟩) hS.2.2 d_Md_scriptEnded_226
                          · have g151 : ¬ ((M10 0 24).toInt = 5) := fun q => h151 (Int32.toInt_inj.mp q)
                            refine lv_aload_n hx hb d_Md_scriptEnded_222 rfl (lv_at hl 2 rfl) ?_
                            refine ux_callv (va_runV ⟨hx, hb, hml, hown, hts⟩ (s_Md_caught l D ad cA A TB hA hB  M10 hI L hL ((wr_off eM10 (by omega)).trans (wr_at eM6)) (fun z => nmK_cong (fun a b q => (wr_off eM10 (by omega)).trans (wr_off eM6 (by omega))) (hju.2.2 (by assumption) ((congrArg Int32.toInt ((wr_off eM10 (by omega)).trans (wr_off eM6 (by omega)))).symm.trans z)))) (cwV 0 hts (tb_goodV ml_Md_170 im_Md_caught se_Md_caught ii_Md kt_Md_caught) rfl rfl rfl (by decide +kernel) ⟨Nat.le_of_ble_eq_true rfl, Nat.le_of_ble_eq_true rfl⟩) (ux_preV (by decide) rfl rfl hP hK hi hN) rfl rfl hl.1 rfl (lv_room (Nat.le_of_ble_eq_true rfl)) d_Md_scriptEnded_223 ⟨Nat.zero_le _, Nat.zero_le _⟩) hS (fun M153 H locs q154 hP hS => ?_)
                            obtain ⟨hI, fq154, q154p⟩ := q154
                            have hF := fr_call hF fq154 (fun a b q => by unfold mCa at q; unfold mRd; omega)
                            exact W.vret hx hb hr (fun t ht hW => ⟨⟨M153, rfl, ⟨hI, hF, (Nx_0 ((fq154 _ _ (by unfold mCa; omega)).trans ((wr_off eM10 (by omega)).trans (wr_at eM6))) (((fq154 _ _ (by unfold mCa; omega)).trans ((wr_off eM10 (by omega)).trans (wr_off eM6 (by omega)))).trans hm0) (by rw [(fq154 _ _ (by unfold mCa; omega)).trans ((wr_off eM10 (by omega)).trans ((wr_off eM6 (by omega)).trans (han))), nI_toInt (n := an) (by omega)]; omega))⟩, by unfold ux_E; rw [ht]; exact hP⟩, hS.F ht⟩) hS.2.2 d_Md_scriptEnded_226
                      · have g149 : (M 11 (L + 1)).toInt = 4 := congrArg Int32.toInt h149
                        refine lv_aload_n hx hb d_Md_scriptEnded_193 rfl (lv_at hl 2 rfl) ?_
                        refine ux_get (C := R_Md) (T := F_Md) (N := 50) hx hb hT in_Md hown hK hP (by decide) rfl rfl 24 (by decide) (hT _ fl_Md_149) rfl d_Md_scriptEnded_194 ?_
                        refine lv_iconst (v := 2) hx hb d_Md_scriptEnded_197 (by decide) ?_
                        refine lv_icmp_ne hx hb d_Md_scriptEnded_198 rfl (fun h155 => ?_) (fun h155 => ?_)
                        · have g155 : ¬ ((M10 0 24).toInt = 2) := fun q => h155 (Int32.toInt_inj.mp q)
                          refine lv_iload_n hx hb d_Md_scriptEnded_209 rfl (lv_at hl 1 rfl) ?_
                          refine lv_iconst (v := 5) hx hb d_Md_scriptEnded_210 (by decide) ?_
                          refine lv_icmp_ne hx hb d_Md_scriptEnded_211 rfl (fun h156 => ?_) (fun h156 => ?_)
                          · have g156 : ¬ ((M 11 (L + 1)).toInt = 5) := fun q => h156 (Int32.toInt_inj.mp q)
                            exact W.vret hx hb hr (fun t ht hW => ⟨⟨M10, rfl, ⟨hI, hF, (Nx_0 ((wr_off eM10 (by omega)).trans (wr_at eM6)) (((wr_off eM10 (by omega)).trans (wr_off eM6 (by omega))).trans hm0) (by rw [(wr_off eM10 (by omega)).trans ((wr_off eM6 (by omega)).trans (han)), nI_toInt (n := an) (by omega)]; omega))⟩, by unfold ux_E; rw [ht]; exact hP⟩, hS.F ht⟩) hS.2.2 d_Md_scriptEnded_226
                          · have g156 : (M 11 (L + 1)).toInt = 5 := congrArg Int32.toInt h156
                            refine lv_aload_n hx hb d_Md_scriptEnded_214 rfl (lv_at hl 2 rfl) ?_
                            refine ux_get (C := R_Md) (T := F_Md) (N := 50) hx hb hT in_Md hown hK hP (by decide) rfl rfl 24 (by decide) (hT _ fl_Md_149) rfl d_Md_scriptEnded_215 ?_
                            refine lv_iconst (v := 5) hx hb d_Md_scriptEnded_218 (by decide) ?_
                            refine lv_icmp_eq hx hb d_Md_scriptEnded_219 rfl (fun h157 => ?_) (fun h157 => ?_)
                            · have g157 : (M10 0 24).toInt = 5 := congrArg Int32.toInt h157
                              exact W.vret hx hb hr (fun t ht hW => ⟨⟨M10, rfl, ⟨hI, hF, (Nx_0 ((wr_off eM10 (by omega)).trans (wr_at eM6)) (((wr_off eM10 (by omega)).trans (wr_off eM6 (by omega))).trans hm0) (by rw [(wr_off eM10 (by omega)).trans ((wr_off eM6 (by omega)).trans (han)), nI_toInt (n := an) (by omega)]; omega))⟩, by unfold ux_E; rw [ht]; exact hP⟩, hS.F ht⟩) hS.2.2 d_Md_scriptEnded_226
                            · have g157 : ¬ ((M10 0 24).toInt = 5) := fun q => h157 (Int32.toInt_inj.mp q)
                              refine lv_aload_n hx hb d_Md_scriptEnded_222 rfl (lv_at hl 2 rfl) ?_
                              refine ux_callv (va_runV ⟨hx, hb, hml, hown, hts⟩ (s_Md_caught l D ad cA A TB hA hB  M10 hI L hL ((wr_off eM10 (by omega)).trans (wr_at eM6)) (fun z => nmK_cong (fun a b q => (wr_off eM10 (by omega)).trans (wr_off eM6 (by omega))) (hju.2.2 (by assumption) ((congrArg Int32.toInt ((wr_off eM10 (by omega)).trans (wr_off eM6 (by omega)))).symm.trans z)))) (cwV 0 hts (tb_goodV ml_Md_170 im_Md_caught se_Md_caught ii_Md kt_Md_caught) rfl rfl rfl (by decide +kernel) ⟨Nat.le_of_ble_eq_true rfl, Nat.le_of_ble_eq_true rfl⟩) (ux_preV (by decide) rfl rfl hP hK hi hN) rfl rfl hl.1 rfl (lv_room (Nat.le_of_ble_eq_true rfl)) d_Md_scriptEnded_223 ⟨Nat.zero_le _, Nat.zero_le _⟩) hS (fun M159 H locs q160 hP hS => ?_)
                              obtain ⟨hI, fq160, q160p⟩ := q160
                              have hF := fr_call hF fq160 (fun a b q => by unfold mCa at q; unfold mRd; omega)
                              exact W.vret hx hb hr (fun t ht hW => ⟨⟨M159, rfl, ⟨hI, hF, (Nx_0 ((fq160 _ _ (by unfold mCa; omega)).trans ((wr_off eM10 (by omega)).trans (wr_at eM6))) (((fq160 _ _ (by unfold mCa; omega)).trans ((wr_off eM10 (by omega)).trans (wr_off eM6 (by omega)))).trans hm0) (by rw [(fq160 _ _ (by unfold mCa; omega)).trans ((wr_off eM10 (by omega)).trans ((wr_off eM6 (by omega)).trans (han))), nI_toInt (n := an) (by omega)]; omega))⟩, by unfold ux_E; rw [ht]; exact hP⟩, hS.F ht⟩) hS.2.2 d_Md_scriptEnded_226
                        · have g155 : (M10 0 24).toInt = 2 := congrArg Int32.toInt h155
                          refine lv_aload_n hx hb d_Md_scriptEnded_201 rfl (lv_at hl 2 rfl) ?_
                          refine lv_iconst (v := 0) hx hb d_Md_scriptEnded_202 (by decide) ?_
                          refine ux_put (C := R_Md) (T := F_Md) (N := 50) hx hb hT in_Md t_Md t_Md_ok n_Md hown hK hi hP hS (by decide) rfl rfl 24 (by decide) (hT _ fl_Md_149) rfl (rfl) (rfl) rfl d_Md_scriptEnded_203 (fun H locs hP hS => ?_)
                          have hI := IvM_free (k := 0) (j := 24) (v := 0) hI rfl rfl (by unfold okW; omega)
                          have hF := fr_wr (k := 0) (j := 24) (v := 0) hF (by unfold mRd; omega)
                          generalize eM161 : ux_wr M10 0 24 0 = M161 at hP hI hF
                          refine lv_goto hx hb d_Md_scriptEnded_206 rfl ?_
                          exact W.vret hx hb hr (fun t ht hW => ⟨⟨M161, rfl, ⟨hI, hF, (Nx_0 ((wr_off eM161 (by omega)).trans ((wr_off eM10 (by omega)).trans (wr_at eM6))) (((wr_off eM161 (by omega)).trans ((wr_off eM10 (by omega)).trans (wr_off eM6 (by omega)))).trans hm0) (by rw [(wr_off eM161 (by omega)).trans ((wr_off eM10 (by omega)).trans ((wr_off eM6 (by omega)).trans (han))), nI_toInt (n := an) (by omega)]; omega))⟩, by unfold ux_E; rw [ht]; exact hP⟩, hS.F ht⟩) hS.2.2 d_Md_scriptEnded_226
                    · have g148 : (M10 0 24).toInt = 4 := congrArg Int32.toInt h148
                      refine lv_aload_n hx hb d_Md_scriptEnded_179 rfl (lv_at hl 2 rfl) ?_
                      refine lv_bipush (v := 9) hx hb d_Md_scriptEnded_180 (by decide) ?_
                      refine ux_callv (va_runV ⟨hx, hb, hml, hown, hts⟩ (s_Md_error l D ad cA A TB hA hB  M10 hI 9) (cwV 1 hts (tb_goodV ml_Md_166 im_Md_error se_Md_error ii_Md kt_Md_error) rfl rfl rfl (by decide +kernel) ⟨Nat.le_of_ble_eq_true rfl, Nat.le_of_ble_eq_true rfl⟩) (ux_preV (by decide) rfl rfl hP hK hi hN) rfl rfl hl.1 rfl (lv_room (Nat.le_of_ble_eq_true rfl)) d_Md_scriptEnded_182 ⟨Nat.zero_le _, Nat.zero_le _⟩) hS (fun M163 H locs q164 hP hS => ?_)
                      obtain ⟨hI, fq164, q164p⟩ := q164
                      have hF := fr_call hF fq164 (fun a b q => by unfold mEr at q; unfold mRd; omega)
                      refine lv_goto hx hb d_Md_scriptEnded_185 rfl ?_
                      exact W.vret hx hb hr (fun t ht hW => ⟨⟨M163, rfl, ⟨hI, hF, (Nx_0 ((fq164 _ _ (by unfold mEr; omega)).trans ((wr_off eM10 (by omega)).trans (wr_at eM6))) (((fq164 _ _ (by unfold mEr; omega)).trans ((wr_off eM10 (by omega)).trans (wr_off eM6 (by omega)))).trans hm0) (by rw [(fq164 _ _ (by unfold mEr; omega)).trans ((wr_off eM10 (by omega)).trans ((wr_off eM6 (by omega)).trans (han))), nI_toInt (n := an) (by omega)]; omega))⟩, by unfold ux_E; rw [ht]; exact hP⟩, hS.F ht⟩) hS.2.2 d_Md_scriptEnded_226
              · have g129 : (M10 0 24).toInt = 3 := congrArg Int32.toInt h129
                refine lv_aload_n hx hb d_Md_scriptEnded_146 rfl (lv_at hl 2 rfl) ?_
                refine ux_callv (va_runV ⟨hx, hb, hml, hown, hts⟩ (s_Md_nothing l D ad cA A TB hA hB  M10 hI ) (cwV 0 hts (tb_goodV ml_Md_138 im_Md_nothing se_Md_nothing ii_Md kt_Md_nothing) rfl rfl rfl (by decide +kernel) ⟨Nat.le_of_ble_eq_true rfl, Nat.le_of_ble_eq_true rfl⟩) (ux_preV (by decide) rfl rfl hP hK hi hN) rfl rfl hl.1 rfl (lv_room (Nat.le_of_ble_eq_true rfl)) d_Md_scriptEnded_147 ⟨Nat.zero_le _, Nat.zero_le _⟩) hS (fun M166 H locs q167 hP hS => ?_)
                obtain ⟨hI, fq167, q167p⟩ := q167
                have hF := fr_call hF fq167 (fun a b q => by unfold mRe at q; unfold mRd; omega)
                refine lv_aload_n hx hb d_Md_scriptEnded_150 rfl (lv_at hl 2 rfl) ?_
                refine lv_iconst (v := 0) hx hb d_Md_scriptEnded_151 (by decide) ?_
                refine ux_put (C := R_Md) (T := F_Md) (N := 50) hx hb hT in_Md t_Md t_Md_ok n_Md hown hK hi hP hS (by decide) rfl rfl 24 (by decide) (hT _ fl_Md_149) rfl (rfl) (rfl) rfl d_Md_scriptEnded_152 (fun H locs hP hS => ?_)
                have hI := IvM_free (k := 0) (j := 24) (v := 0) hI rfl rfl (by unfold okW; omega)
                have hF := fr_wr (k := 0) (j := 24) (v := 0) hF (by unfold mRd; omega)
                generalize eM168 : ux_wr M166 0 24 0 = M168 at hP hI hF
                refine lv_goto hx hb d_Md_scriptEnded_155 rfl ?_
                exact W.vret hx hb hr (fun t ht hW => ⟨⟨M168, rfl, ⟨hI, hF, (Nx_0 ((wr_off eM168 (by omega)).trans ((fq167 _ _ (by unfold mRe; omega)).trans ((wr_off eM10 (by omega)).trans (wr_at eM6)))) (((wr_off eM168 (by omega)).trans ((fq167 _ _ (by unfold mRe; omega)).trans ((wr_off eM10 (by omega)).trans (wr_off eM6 (by omega))))).trans hm0) (by rw [(wr_off eM168 (by omega)).trans ((fq167 _ _ (by unfold mRe; omega)).trans ((wr_off eM10 (by omega)).trans ((wr_off eM6 (by omega)).trans (han)))), nI_toInt (n := an) (by omega)]; omega))⟩, by unfold ux_E; rw [ht]; exact hP⟩, hS.F ht⟩) hS.2.2 d_Md_scriptEnded_226
          · have g92 : (M10 0 24).toInt = 4 := congrArg Int32.toInt h92
            have hb12 := hju.2.1 (by assumption)
            have hbq1 : ¬ M10 17 (8 * L + 1) = 0 := fun q => hb12.1 (((wr_off eM10 (by omega)).trans (wr_off eM6 (by omega))).symm.trans q)
            have hbq2 : ¬ M10 17 (8 * L + 2) = 0 := fun q => hb12.2 (((wr_off eM10 (by omega)).trans (wr_off eM6 (by omega))).symm.trans q)
            refine lv_aload_n hx hb d_Md_scriptEnded_126 rfl (lv_at hl 2 rfl) ?_
            refine ux_callv (va_runV ⟨hx, hb, hml, hown, hts⟩ (s_Md_again l D ad cA A TB hA hB  M10 hI L hL ((wr_off eM10 (by omega)).trans (wr_at eM6)) hA2 (by first | assumption | exact hq1 (by omega)) (by first | assumption | exact hq2 (by omega))) (cwV 0 hts (tb_goodV ml_Md_216 im_Md_again se_Md_again ii_Md kt_Md_again) rfl rfl rfl (by decide +kernel) ⟨Nat.le_of_ble_eq_true rfl, Nat.le_of_ble_eq_true rfl⟩) (ux_preV (by decide) rfl rfl hP hK hi hN) rfl rfl hl.1 rfl (lv_room (Nat.le_of_ble_eq_true rfl)) d_Md_scriptEnded_127 ⟨Nat.zero_le _, Nat.zero_le _⟩) hS (fun M170 H locs q171 hP hS => ?_)
            obtain ⟨hI, fq171, q171p⟩ := q171
            have hF := fr_call hF fq171 (fun a b q => by unfold mCm at q; unfold mRd; omega)
            refine lv_goto hx hb d_Md_scriptEnded_130 rfl ?_
            exact W.vret hx hb hr (fun t ht hW => ⟨⟨M170, rfl, ⟨hI, hF, (OutS_Nx fq171 (((wr_off eM10 (by omega)).trans (wr_off eM6 (by omega))).trans hm0) (by rw [(wr_off eM10 (by omega)).trans ((wr_off eM6 (by omega)).trans (han)), nI_toInt (n := an) (by omega)]; omega) (by omega) q171p)⟩, by unfold ux_E; rw [ht]; exact hP⟩, hS.F ht⟩) hS.2.2 d_Md_scriptEnded_226
    · have g9 : (M 11 (L + 1)).toInt = 1 := congrArg Int32.toInt h9
      obtain ⟨cw, hcw, hcw7, hob⟩ := hjt (hju.1.mp (by assumption))
      refine lv_aload_n hx hb d_Md_scriptEnded_43 rfl (lv_at hl 2 rfl) ?_
      have cut68 : ∀ (nn : Nat) (k3 : Nat) (Mc68 : ux_M) (H : Heap) (locs : List Loc) (ls : Array Slot), 20 - k3 = nn → (k3 ≤ 20) → (Mc68 0 10 = nI L) → (Mc68 9 L = nI ap) → (Mc68 14 L = nI cw) → (Mc68 17 (8 * L + cw) = 0) → (Mc68 0 23 = 0 ∨ (Mc68 0 23 = 1 ∧ Mc68 0 24 = 1)) → va_P D classes (ux_w shM KM ad cA Mc68) H → IvM A TB Mc68 → (∀ a b, ¬ (mRd L) a b → Mc68 a b = M a b) → va_S (ux_A KM ad) s.heap H locs → lv_has ls 4 [(0, .ref (ad 0)), (3, .int (nI k3))] → W p l e (headSpec w_Md_scriptEnded ({ frames := 7, cells := 0, slots := 0, locals := 155 })).room s m (([.ref (ad 0)] : List Value).toArray) below meth c H locs 0 0 (MQ below (va_Qv (fun M1 => IvM A TB M1 ∧ (∀ a b, ¬ (mRd L) a b → M1 a b = M a b) ∧ (Nx Z M1 L)) (ux_E D shM KM ad cA) (ux_A KM ad)) (([.ref (ad 0)] : List Value).toArray) s 0 0 (ux_A KM ad)) (F0 m 68 ls []) := by
        intro nn
        induction nn using Nat.strongRecOn with
        | ind nn ih68 =>
          intro k3 Mc68 H locs ls hn c68_0 c68_1 c68_2 c68_3 c68_4 c68_5 hP hI hF hS hl
          refine lv_iload_n hx hb d_Md_scriptEnded_68 rfl (lv_at hl 1 rfl) ?_
          refine lv_aload_n hx hb d_Md_scriptEnded_69 rfl (lv_at hl 0 rfl) ?_
          refine ux_get (C := R_Md) (T := F_Md) (N := 50) hx hb hT in_Md hown hK hP (by decide) rfl rfl 25 (by decide) (hT _ fl_Md_135) rfl d_Md_scriptEnded_70 ?_
          refine lv_topi (fun z173 hz173 => ?_)
          obtain ⟨c172, hc172, ec172⟩ := nat_of (x := Mc68 0 25) (n := 20) (hI.1 0 25).1 (hI.1 0 25).2
          rw [ec172] at hz173
          rw [hz173]
          have tc172 : (Mc68 0 25).toInt = (c172 : Int) := by rw [ec172]; exact nI_toInt (by omega)
          refine lv_icmp_ge hx hb d_Md_scriptEnded_73 rfl (fun h174 => ?_) (fun h174 => ?_)
          · have g174 : ((c172 : Nat) : Int) ≤ ((k3 : Nat) : Int) := by have q := Int32.le_iff_toInt_le.mp h174; rw [nI_toInt (n := c172) (by omega), nI_toInt (n := k3) (by omega)] at q; exact q
            exact W.vret hx hb hr (fun t ht hW => ⟨⟨Mc68, rfl, ⟨hI, hF, (Nx_1 (c68_1) ⟨cw, c68_3, by omega, c68_4⟩ (fun z => by rcases c68_5 with y | y; exact absurd (y.symm.trans z) (by decide); exact y.2) (by rw [c68_2, nI_toInt (n := ap) (by omega)]; omega))⟩, by unfold ux_E; rw [ht]; exact hP⟩, hS.F ht⟩) hS.2.2 d_Md_scriptEnded_100
          · have g174 : ¬ (((c172 : Nat) : Int) ≤ ((k3 : Nat) : Int)) := fun q => h174 (Int32.le_iff_toInt_le.mpr (by rw [nI_toInt (n := c172) (by omega), nI_toInt (n := k3) (by omega)]; exact q))
            refine lv_aload_n hx hb d_Md_scriptEnded_76 rfl (lv_at hl 0 rfl) ?_
            refine ux_get (C := R_Md) (T := F_Md) (N := 50) hx hb hT in_Md hown hK hP (by decide) rfl rfl 23 (by decide) (hT _ fl_Md_152) rfl d_Md_scriptEnded_77 ?_
            refine lv_if_ne hx hb d_Md_scriptEnded_80 rfl (fun h175 => ?_) (fun h175 => ?_)
            · have g175 : ¬ ((Mc68 0 23).toInt = 0) := fun q => h175 (Int32.toInt_inj.mp q)
              exact W.vret hx hb hr (fun t ht hW => ⟨⟨Mc68, rfl, ⟨hI, hF, (Nx_1 (c68_1) ⟨cw, c68_3, by omega, c68_4⟩ (fun z => by rcases c68_5 with y | y; exact absurd (y.symm.trans z) (by decide); exact y.2) (by rw [c68_2, nI_toInt (n := ap) (by omega)]; omega))⟩, by unfold ux_E; rw [ht]; exact hP⟩, hS.F ht⟩) hS.2.2 d_Md_scriptEnded_100
            · have g175 : (Mc68 0 23).toInt = 0 := congrArg Int32.toInt h175
              refine lv_aload_n hx hb d_Md_scriptEnded_83 rfl (lv_at hl 0 rfl) ?_
              refine lv_aload_n hx hb d_Md_scriptEnded_84 rfl (lv_at hl 0 rfl) ?_
              refine ux_get (C := R_Md) (T := F_Md) (N := 50) hx hb hT in_Md hown hK hP (by decide) rfl rfl 26 (by decide) (hT _ fl_Md_76) rfl d_Md_scriptEnded_85 ?_
              refine lv_iload_n hx hb d_Md_scriptEnded_88 rfl (lv_at hl 1 rfl) ?_
              refine ux_cald hx hb hK hP (by decide) rfl (vp_in_nI (show k3 < 20 by omega) (by decide)) d_Md_scriptEnded_89 ?_
              rw [nI_clamp (n := k3) (by omega)]
              refine lv_topi (fun z177 hz177 => ?_)
              obtain ⟨c176, hc176, ec176⟩ := nat_of (x := Mc68 21 k3) (n := 65535) (hI.1 21 k3).1 (hI.1 21 k3).2
              rw [ec176] at hz177
              rw [hz177]
              have tc176 : (Mc68 21 k3).toInt = (c176 : Int) := by rw [ec176]; exact nI_toInt (by omega)
              refine ux_calli (va_runV ⟨hx, hb, hml, hown, hts⟩ (s_Md_add l D ad cA A TB hA hB  Mc68 hI L hL (c68_1) cw (c68_3) (by omega) (c68_4) (nI c176)) (cwV 1 hts (tb_goodV ml_Md_209 im_Md_add se_Md_add ii_Md kt_Md_add) rfl rfl rfl (by decide +kernel) ⟨Nat.le_of_ble_eq_true rfl, Nat.le_of_ble_eq_true rfl⟩) (ux_preV (by decide) rfl rfl hP hK hi hN) rfl rfl hl.1 rfl (lv_room (Nat.le_of_ble_eq_true rfl)) d_Md_scriptEnded_90 ⟨Nat.zero_le _, Nat.zero_le _⟩) hS (fun r178 M179 H locs q180 hP hS => ?_)
              obtain ⟨hI, fq180, q180p⟩ := q180
              have hF := fr_call hF fq180 (fun a b q => by unfold mAd at q; unfold mRd; omega)
              have hr_r178 : ¬ r178.toInt = 0 → r178 = 1 := fun z => by rcases q180p.1 with q | q; exact absurd (by rw [q]; rfl) z; exact q
              have hz_r178 : r178.toInt = 0 → r178 = 0 := fun z => by rcases q180p.1 with q | q; exact q; rw [q] at z; exact absurd z (by decide)
              refine lv_pop hx hb d_Md_scriptEnded_93 rfl ?_
              refine lv_iinc (k := 1) (v := nI (k3 + 1)) hx hb d_Md_scriptEnded_94 hl rfl (nI_add k3 1) (by decide) rfl (fun ls hl => ?_)
              have hl : lv_has ls 4 [(3, .int (nI (k3 + 1))), (0, .ref (ad 0))] := hl
              refine lv_goto hx hb d_Md_scriptEnded_97 rfl ?_
              exact ih68 (20 - (k3 + 1)) (by omega) (k3 + 1) M179 _ _ ls rfl (show (k3 + 1) ≤ 20 from by first | omega | assumption | exact Or.inl rfl | exact Or.inr rfl | rfl | decide) (show M179 0 10 = nI L from by first | exact ((fq180 _ _ (by unfold mAd; omega)).trans (c68_1))) (show M179 9 L = nI ap from by first | exact (fq180 _ _ (by unfold mAd; omega)).trans (c68_2)) (show M179 14 L = nI cw from by first | exact (fq180 _ _ (by unfold mAd; omega)).trans (c68_3)) (show M179 17 (8 * L + cw) = 0 from by first | exact (fq180 _ _ (by unfold mAd; omega)).trans (c68_4)) (show M179 0 23 = 0 ∨ (M179 0 23 = 1 ∧ M179 0 24 = 1) from by first | (rcases q180p.1 with q | q; exact Or.inr (q180p.2.1 q); exact Or.inl ((q180p.2.2 q).1.trans (by assumption)))) hP hI hF hS (lv_sub hl [1, 0] rfl)
      refine ux_get (C := R_Md) (T := F_Md) (N := 50) hx hb hT in_Md hown hK hP (by decide) rfl rfl 24 (by decide) (hT _ fl_Md_149) rfl d_Md_scriptEnded_44 ?_
      refine lv_if_eq hx hb d_Md_scriptEnded_47 rfl (fun h181 => ?_) (fun h181 => ?_)
      · have g181 : (M6 0 24).toInt = 0 := congrArg Int32.toInt h181
        refine lv_aload_n hx hb d_Md_scriptEnded_51 rfl (lv_at hl 2 rfl) ?_
        refine ux_get (C := R_Md) (T := F_Md) (N := 50) hx hb hT in_Md hown hK hP (by decide) rfl rfl 11 (by decide) (hT _ fl_Md_40) rfl d_Md_scriptEnded_52 ?_
        refine lv_aload_n hx hb d_Md_scriptEnded_55 rfl (lv_at hl 2 rfl) ?_
        refine ux_get (C := R_Md) (T := F_Md) (N := 50) hx hb hT in_Md hown hK hP (by decide) rfl rfl 10 (by decide) (hT _ fl_Md_36) rfl d_Md_scriptEnded_56 ?_
        refine lv_topi (fun z182 hz182 => ?_)
        rw [show M6 0 10 = nI L from wr_at eM6] at hz182
        rw [hz182]
        refine lv_iload_n hx hb d_Md_scriptEnded_59 rfl (lv_at hl 0 rfl) ?_
        refine ux_iast hx hb hK hi hP hS (by decide) rfl (vp_in_nI (show L < 8 by omega) (by decide)) d_Md_scriptEnded_60 (fun H locs hP hS => ?_)
        rw [nI_clamp (n := L) (by omega)] at hP
        have hI := IvM_wr (k := 9) (j := L) (v := nI ap) hI (show (0 : Int) ≤ (nI ap : Int32).toInt from (by rw [nI_toInt (n := ap) (by omega)]; omega)) (show (nI ap : Int32).toInt ≤ (A : Int) from (by rw [nI_toInt (n := ap) (by omega)]; omega)) (by unfold okW; omega)
        have hF := fr_wr (k := 9) (j := L) (v := nI ap) hF (by unfold mRd; omega)
        generalize eM183 : ux_wr M6 9 L (nI ap) = M183 at hP hI hF
        have tM183 : (M183 9 L).toInt = ((ap : Nat) : Int) := by rw [wr_at eM183]; exact nI_toInt (by omega)
        refine lv_aload_n hx hb d_Md_scriptEnded_61 rfl (lv_at hl 2 rfl) ?_
        refine lv_iconst (v := 0) hx hb d_Md_scriptEnded_62 (by decide) ?_
        refine ux_put (C := R_Md) (T := F_Md) (N := 50) hx hb hT in_Md t_Md t_Md_ok n_Md hown hK hi hP hS (by decide) rfl rfl 23 (by decide) (hT _ fl_Md_152) rfl (rfl) (rfl) rfl d_Md_scriptEnded_63 (fun H locs hP hS => ?_)
        have hI := IvM_free (k := 0) (j := 23) (v := 0) hI rfl rfl (by unfold okW; omega)
        have hF := fr_wr (k := 0) (j := 23) (v := 0) hF (by unfold mRd; omega)
        generalize eM184 : ux_wr M183 0 23 0 = M184 at hP hI hF
        refine lv_iconst (v := 0) hx hb d_Md_scriptEnded_66 (by decide) ?_
        refine lv_istore_n hx hb d_Md_scriptEnded_67 rfl hl (by decide) rfl (fun ls hl => ?_)
        have hl : lv_has ls 4 [(3, .int 0), (2, .int (nI ap)), (1, .int (M 11 (L + 1))), (0, .ref (ad 0))] := hl
        exact cut68 (20 - 0) 0 M184 _ _ ls rfl (show 0 ≤ 20 from by first | omega | assumption | exact Or.inl rfl | exact Or.inr rfl | rfl | decide) (show M184 0 10 = nI L from by first | exact ((wr_off eM184 (by omega)).trans ((wr_off eM183 (by omega)).trans (wr_at eM6)))) (show M184 9 L = nI ap from by first | exact (wr_off eM184 (by omega)).trans (wr_at eM183)) (show M184 14 L = nI cw from by first | exact (wr_off eM184 (by omega)).trans ((wr_off eM183 (by omega)).trans ((wr_off eM6 (by omega)).trans (hcw)))) (show M184 17 (8 * L + cw) = 0 from by first | exact (wr_off eM184 (by omega)).trans ((wr_off eM183 (by omega)).trans ((wr_off eM6 (by omega)).trans (hob)))) (show M184 0 23 = 0 ∨ (M184 0 23 = 1 ∧ M184 0 24 = 1) from by first | exact Or.inl (wr_at eM184)) hP hI hF hS (lv_sub hl [3, 0] rfl)
      · have g181 : ¬ ((M6 0 24).toInt = 0) := fun q => h181 (Int32.toInt_inj.mp q)
        exact W.vret hx hb hr (fun t ht hW => ⟨⟨M6, rfl, ⟨hI, hF, ⟨fun z => OpW_cong (wr_off eM6 (by omega)) (fun b => wr_off eM6 (by omega)) (hjt (fun y => z ((wr_off eM6 (by omega)).trans y))), (by rw [(wr_off eM6 (by omega)).trans (han), nI_toInt (n := an) (by omega)]; omega), Or.inl ⟨(wr_at eM6), fun z => absurd ((wr_off eM6 (by omega)).symm.trans z) hsg⟩⟩⟩, by unfold ux_E; rw [ht]; exact hP⟩, hS.F ht⟩) hS.2.2 d_Md_scriptEnded_50
  · have g8 : ¬ (0 ≤ ((L : Nat) : Int)) := fun q => h8 (Int32.le_iff_toInt_le.mpr (by rw [nI_toInt (n := L) (by omega)]; exact q))
    exact W.vret hx hb hr (fun t ht hW => ⟨⟨M6, rfl, ⟨hI, hF, ⟨fun z => OpW_cong (wr_off eM6 (by omega)) (fun b => wr_off eM6 (by omega)) (hjt (fun y => z ((wr_off eM6 (by omega)).trans y))), (by rw [(wr_off eM6 (by omega)).trans (han), nI_toInt (n := an) (by omega)]; omega), Or.inl ⟨(wr_at eM6), fun z => absurd ((wr_off eM6 (by omega)).symm.trans z) hsg⟩⟩⟩, by unfold ux_E; rw [ht]; exact hP⟩, hS.F ht⟩) hS.2.2 d_Md_scriptEnded_37
