/-! The reference, safe: a word begun; written by wip/gen/ref.py -/
set_option maxHeartbeats 1600000 in
set_option maxRecDepth 100000 in
theorem s_Md_begin (l : Launch) (D : va_G) (ad : Nat → Nat) (cA : Nat → ClassId) (A TB : Nat) (hA : A ≤ 100000000) (hB : TB ≤ 2000000000) (M : ux_M) (hI : IvM A TB M) (L : Nat) (hL : L ≤ 7) (hlv : M 0 10 = nI L) (Z an en cw : Nat) (han : M 9 L = nI an) (hen : M 10 L = nI en) (hcw : M 14 L = nI cw) (hz : an ≤ Z) (hz2 : 200 ≤ Z) (hzA : Z + 2 ≤ A) (hen2 : en ≤ 200) (hc8 : cw ≤ 8) (hsg : M 0 23 = 0) (hm : M 13 L = 0) (hae : an < en) (ch : Int32) : Met l y_Md_begin w_Md_begin ({ frames := 4, cells := 0, slots := 0, locals := 81 }) (va_Pc [.ref (ad 0), .int ch] (ux_B D shM KM ad cA M)) (va_Qv (fun M1 => IvM A TB M1 ∧ (∀ a b, ¬ (mRd L) a b → M1 a b = M a b) ∧ (Nx Z M1 L)) (ux_E D shM KM ad cA) (ux_A KM ad)) 0 0 (ux_A KM ad) := by
  refine Met.ofW (cc := b_Md_begin) (maxL := 5) (ret := none) (by decide) rfl ?_
  intro p e s m args below meth c s₁ B hml hv
  obtain ⟨rfl, hP, hK, hi, hN⟩ := hv
  have hx := B.exec
  have hb := B.bytes
  have hr := B.returns
  have hts := atoms_spec (ws := w_Md_begin) B.pre
  have hown : s.vm.findClass R_Md = some m.cls := findClass_of_methodNamed B.named
  have hlocks := B.notSynchronized
  have hT : ∀ w ∈ tb, w.before _ s = true := fun w h => hts w (List.mem_cons_of_mem _ h)
  have hS : va_S (ux_A KM ad) s.heap s.heap [] := va_S.rf
  have hl := lv_entry ([.ref (ad 0), .int ch]) (n := 5) (Nat.le_of_ble_eq_true rfl)
  rw [lg_entry_eq]
  generalize (lg_sl ([.ref (ad 0), .int ch]) ++ List.replicate (5 - (lg_sl ([.ref (ad 0), .int ch])).length) Slot.unset).toArray = ls at hl ⊢
  have hl : lv_has ls 5 [(0, .ref (ad 0)), (1, .int ch)] := hl
  have hF : ∀ a b, ¬ (mRd L) a b → M a b = M a b := fun _ _ _ => rfl
  have hanI : (M 9 L).toInt = (an : Int) := by rw [han]; exact nI_toInt (by omega)
  have henI : (M 10 L).toInt = (en : Int) := by rw [hen]; exact nI_toInt (by omega)
  have hA2 : 200 ≤ A := by omega
  have hcwI : (M 14 L).toInt = (cw : Int) := by rw [hcw]; exact nI_toInt (by omega)
  refine lv_aload_n hx hb d_Md_begin_0 rfl (lv_at hl 0 rfl) ?_
  refine ux_get (C := R_Md) (T := F_Md) (N := 50) hx hb hT in_Md hown hK hP (by decide) rfl rfl 16 (by decide) (hT _ fl_Md_55) rfl d_Md_begin_1 ?_
  refine lv_aload_n hx hb d_Md_begin_4 rfl (lv_at hl 0 rfl) ?_
  refine ux_get (C := R_Md) (T := F_Md) (N := 50) hx hb hT in_Md hown hK hP (by decide) rfl rfl 10 (by decide) (hT _ fl_Md_36) rfl d_Md_begin_5 ?_
  refine lv_topi (fun z1 hz1 => ?_)
  rw [show M 0 10 = nI L from hlv] at hz1
  rw [hz1]
  refine ux_iald hx hb hK hP (by decide) rfl (vp_in_nI (show L < 8 by omega) (by decide)) d_Md_begin_8 ?_
  rw [nI_clamp (n := L) (by omega)]
  refine lv_topi (fun z2 hz2 => ?_)
  rw [show M 14 L = nI cw from hcw] at hz2
  rw [hz2]
  refine lv_bipush (v := 8) hx hb d_Md_begin_9 (by decide) ?_
  refine lv_icmp_ne hx hb d_Md_begin_11 rfl (fun h3 => ?_) (fun h3 => ?_)
  · have g3 : ¬ (((cw : Nat) : Int) = 8) := fun q => h3 (Int32.toInt_inj.mp (by rw [nI_toInt (n := cw) (by omega)]; exact q))
    refine lv_aload_n hx hb d_Md_begin_20 rfl (lv_at hl 0 rfl) ?_
    refine lv_aload_n hx hb d_Md_begin_21 rfl (lv_at hl 0 rfl) ?_
    refine ux_get (C := R_Md) (T := F_Md) (N := 50) hx hb hT in_Md hown hK hP (by decide) rfl rfl 16 (by decide) (hT _ fl_Md_55) rfl d_Md_begin_22 ?_
    refine lv_aload_n hx hb d_Md_begin_25 rfl (lv_at hl 0 rfl) ?_
    refine ux_get (C := R_Md) (T := F_Md) (N := 50) hx hb hT in_Md hown hK hP (by decide) rfl rfl 10 (by decide) (hT _ fl_Md_36) rfl d_Md_begin_26 ?_
    refine lv_topi (fun z4 hz4 => ?_)
    rw [show M 0 10 = nI L from hlv] at hz4
    rw [hz4]
    refine ux_iald hx hb hK hP (by decide) rfl (vp_in_nI (show L < 8 by omega) (by decide)) d_Md_begin_29 ?_
    rw [nI_clamp (n := L) (by omega)]
    refine lv_topi (fun z5 hz5 => ?_)
    rw [show M 14 L = nI cw from hcw] at hz5
    rw [hz5]
    refine ux_calli (va_runV ⟨hx, hb, hml, hown, hts⟩ (s_Md_word l D ad cA A TB hA hB  M hI L hL (hlv) cw) (cwV 1 hts (tb_goodV ml_Md_155 im_Md_word se_Md_word ii_Md kt_Md_word) rfl rfl rfl (by decide +kernel) ⟨Nat.le_of_ble_eq_true rfl, Nat.le_of_ble_eq_true rfl⟩) (ux_preV (by decide) rfl rfl hP hK hi hN) rfl rfl hl.1 rfl (lv_room (Nat.le_of_ble_eq_true rfl)) d_Md_begin_30 ⟨Nat.zero_le _, Nat.zero_le _⟩) hS (fun r6 M7 H locs q8 hP hS => ?_)
    obtain ⟨hI, fq8, q8p⟩ := q8
    rw [tN_eq fq8] at hP hI
    subst q8p
    refine lv_istore_n hx hb d_Md_begin_33 rfl hl (by decide) rfl (fun ls hl => ?_)
    have hl : lv_has ls 5 [(2, .int (nI (8 * L + cw))), (0, .ref (ad 0)), (1, .int ch)] := hl
    refine lv_aload_n hx hb d_Md_begin_34 rfl (lv_at hl 1 rfl) ?_
    refine ux_get (C := R_Md) (T := F_Md) (N := 50) hx hb hT in_Md hown hK hP (by decide) rfl rfl 19 (by decide) (hT _ fl_Md_64) rfl d_Md_begin_35 ?_
    refine lv_iload_n hx hb d_Md_begin_38 rfl (lv_at hl 0 rfl) ?_
    refine lv_iload_n hx hb d_Md_begin_39 rfl (lv_at hl 2 rfl) ?_
    refine lv_bipush (v := 123) hx hb d_Md_begin_40 (by decide) ?_
    refine lv_icmp_ne hx hb d_Md_begin_42 rfl (fun h9 => ?_) (fun h9 => ?_)
    · have g9 : ¬ (ch.toInt = 123) := fun q => h9 (Int32.toInt_inj.mp q)
      refine lv_iconst (v := 0) hx hb d_Md_begin_49 (by decide) ?_
      refine ux_zast hx hb hK hi hP hS (by decide) rfl (vp_in_nI (show 8 * L + cw < 65 by omega) (by decide)) d_Md_begin_50 (fun H locs hP hS => ?_)
      rw [show vp_nar .boolean 0 = 0 from rfl] at hP
      rw [nI_clamp (n := 8 * L + cw) (by omega)] at hP
      have hIo := hI
      have hI := Eq.refl (ux_wr M 17 (8 * L + cw) 0)
      have hF := fr_wr (k := 17) (j := 8 * L + cw) (v := 0) hF (by unfold mRd; omega)
      generalize eM10 : ux_wr M 17 (8 * L + cw) 0 = M10 at hP hI hF
      refine lv_aload_n hx hb d_Md_begin_51 rfl (lv_at hl 1 rfl) ?_
      refine ux_get (C := R_Md) (T := F_Md) (N := 50) hx hb hT in_Md hown hK hP (by decide) rfl rfl 21 (by decide) (hT _ fl_Md_70) rfl d_Md_begin_52 ?_
      refine lv_iload_n hx hb d_Md_begin_55 rfl (lv_at hl 0 rfl) ?_
      refine lv_iconst (v := 0) hx hb d_Md_begin_56 (by decide) ?_
      refine ux_iast hx hb hK hi hP hS (by decide) rfl (vp_in_nI (show 8 * L + cw < 65 by omega) (by decide)) d_Md_begin_57 (fun H locs hP hS => ?_)
      rw [nI_clamp (n := 8 * L + cw) (by omega)] at hP
      have hI := IvM_two (j := 8 * L + cw) hIo eM10
      have hF := fr_wr (k := 19) (j := 8 * L + cw) (v := 0) hF (by unfold mRd; omega)
      generalize eM11 : ux_wr M10 19 (8 * L + cw) 0 = M11 at hP hI hF
      have tM11 : (M11 19 (8 * L + cw)).toInt = 0 := by rw [wr_at eM11]; rfl
      refine lv_iload_n hx hb d_Md_begin_58 rfl (lv_at hl 2 rfl) ?_
      refine lv_bipush (v := 123) hx hb d_Md_begin_59 (by decide) ?_
      refine lv_icmp_eq hx hb d_Md_begin_61 rfl (fun h12 => ?_) (fun h12 => ?_)
      · have g12 : ch.toInt = 123 := congrArg Int32.toInt h12
        exfalso; omega
      · have g12 : ¬ (ch.toInt = 123) := fun q => h12 (Int32.toInt_inj.mp q)
        refine lv_aload_n hx hb d_Md_begin_64 rfl (lv_at hl 1 rfl) ?_
        refine ux_get (C := R_Md) (T := F_Md) (N := 50) hx hb hT in_Md hown hK hP (by decide) rfl rfl 15 (by decide) (hT _ fl_Md_52) rfl d_Md_begin_65 ?_
        refine lv_aload_n hx hb d_Md_begin_68 rfl (lv_at hl 1 rfl) ?_
        refine ux_get (C := R_Md) (T := F_Md) (N := 50) hx hb hT in_Md hown hK hP (by decide) rfl rfl 10 (by decide) (hT _ fl_Md_36) rfl d_Md_begin_69 ?_
        refine lv_topi (fun z13 hz13 => ?_)
        rw [show M11 0 10 = nI L from (wr_off eM11 (by omega)).trans ((wr_off eM10 (by omega)).trans (hlv))] at hz13
        rw [hz13]
        refine lv_iload_n hx hb d_Md_begin_72 rfl (lv_at hl 2 rfl) ?_
        refine lv_bipush (v := 34) hx hb d_Md_begin_73 (by decide) ?_
        refine lv_icmp_ne hx hb d_Md_begin_75 rfl (fun h14 => ?_) (fun h14 => ?_)
        · have g14 : ¬ (ch.toInt = 34) := fun q => h14 (Int32.toInt_inj.mp q)
          refine lv_iconst (v := 1) hx hb d_Md_begin_82 (by decide) ?_
          refine ux_iast hx hb hK hi hP hS (by decide) rfl (vp_in_nI (show L < 8 by omega) (by decide)) d_Md_begin_83 (fun H locs hP hS => ?_)
          rw [nI_clamp (n := L) (by omega)] at hP
          have hI := IvM_free (k := 13) (j := L) (v := 1) hI rfl rfl (by unfold okW; omega)
          have hF := fr_wr (k := 13) (j := L) (v := 1) hF (by unfold mRd; omega)
          generalize eM15 : ux_wr M11 13 L 1 = M15 at hP hI hF
          refine lv_aload_n hx hb d_Md_begin_84 rfl (lv_at hl 1 rfl) ?_
          refine ux_get (C := R_Md) (T := F_Md) (N := 50) hx hb hT in_Md hown hK hP (by decide) rfl rfl 11 (by decide) (hT _ fl_Md_40) rfl d_Md_begin_85 ?_
          refine lv_aload_n hx hb d_Md_begin_88 rfl (lv_at hl 1 rfl) ?_
          refine ux_get (C := R_Md) (T := F_Md) (N := 50) hx hb hT in_Md hown hK hP (by decide) rfl rfl 10 (by decide) (hT _ fl_Md_36) rfl d_Md_begin_89 ?_
          refine lv_topi (fun z16 hz16 => ?_)
          rw [show M15 0 10 = nI L from (wr_off eM15 (by omega)).trans ((wr_off eM11 (by omega)).trans ((wr_off eM10 (by omega)).trans (hlv)))] at hz16
          rw [hz16]
          refine lv_iload_n hx hb d_Md_begin_92 rfl (lv_at hl 2 rfl) ?_
          refine lv_bipush (v := 34) hx hb d_Md_begin_93 (by decide) ?_
          refine lv_icmp_ne hx hb d_Md_begin_95 rfl (fun h17 => ?_) (fun h17 => ?_)
          · have g17 : ¬ (ch.toInt = 34) := fun q => h17 (Int32.toInt_inj.mp q)
            refine lv_aload_n hx hb d_Md_begin_112 rfl (lv_at hl 1 rfl) ?_
            refine ux_get (C := R_Md) (T := F_Md) (N := 50) hx hb hT in_Md hown hK hP (by decide) rfl rfl 11 (by decide) (hT _ fl_Md_40) rfl d_Md_begin_113 ?_
            refine lv_aload_n hx hb d_Md_begin_116 rfl (lv_at hl 1 rfl) ?_
            refine ux_get (C := R_Md) (T := F_Md) (N := 50) hx hb hT in_Md hown hK hP (by decide) rfl rfl 10 (by decide) (hT _ fl_Md_36) rfl d_Md_begin_117 ?_
            refine lv_topi (fun z18 hz18 => ?_)
            rw [show M15 0 10 = nI L from (wr_off eM15 (by omega)).trans ((wr_off eM11 (by omega)).trans ((wr_off eM10 (by omega)).trans (hlv)))] at hz18
            rw [hz18]
            refine ux_iald hx hb hK hP (by decide) rfl (vp_in_nI (show L < 8 by omega) (by decide)) d_Md_begin_120 ?_
            rw [nI_clamp (n := L) (by omega)]
            refine lv_topi (fun z19 hz19 => ?_)
            rw [show M15 9 L = nI an from (wr_off eM15 (by omega)).trans ((wr_off eM11 (by omega)).trans ((wr_off eM10 (by omega)).trans (han)))] at hz19
            rw [hz19]
            refine ux_iast hx hb hK hi hP hS (by decide) rfl (vp_in_nI (show L < 8 by omega) (by decide)) d_Md_begin_121 (fun H locs hP hS => ?_)
            rw [nI_clamp (n := L) (by omega)] at hP
            have hI := IvM_wr (k := 9) (j := L) (v := nI an) hI (show (0 : Int) ≤ (nI an : Int32).toInt from (by rw [nI_toInt (n := an) (by omega)]; omega)) (show (nI an : Int32).toInt ≤ (A : Int) from (by rw [nI_toInt (n := an) (by omega)]; omega)) (by unfold okW; omega)
            have hF := fr_wr (k := 9) (j := L) (v := nI an) hF (by unfold mRd; omega)
            generalize eM20 : ux_wr M15 9 L (nI an) = M20 at hP hI hF
            have tM20 : (M20 9 L).toInt = ((an : Nat) : Int) := by rw [wr_at eM20]; exact nI_toInt (by omega)
            exact W.vret hx hb hr (fun t ht hW => ⟨⟨M20, rfl, ⟨hI, hF, (Nx_1 ((wr_off eM20 (by omega)).trans ((wr_off eM15 (by omega)).trans ((wr_off eM11 (by omega)).trans ((wr_off eM10 (by omega)).trans (hlv))))) ⟨cw, (wr_off eM20 (by omega)).trans ((wr_off eM15 (by omega)).trans ((wr_off eM11 (by omega)).trans ((wr_off eM10 (by omega)).trans (hcw)))), by omega, (wr_off eM20 (by omega)).trans ((wr_off eM15 (by omega)).trans ((wr_off eM11 (by omega)).trans (wr_at eM10)))⟩ (fun z => absurd (((wr_off eM20 (by omega)).trans ((wr_off eM15 (by omega)).trans ((wr_off eM11 (by omega)).trans ((wr_off eM10 (by omega)).trans (hsg))))).symm.trans z) (by decide)) (by rw [wr_at eM20, nI_toInt (n := an) (by omega)]; omega))⟩, by unfold ux_E; rw [ht]; exact hP⟩, hS.F ht⟩) hS.2.2 d_Md_begin_122
          · have g17 : ch.toInt = 34 := congrArg Int32.toInt h17
            refine lv_aload_n hx hb d_Md_begin_98 rfl (lv_at hl 1 rfl) ?_
            refine ux_get (C := R_Md) (T := F_Md) (N := 50) hx hb hT in_Md hown hK hP (by decide) rfl rfl 11 (by decide) (hT _ fl_Md_40) rfl d_Md_begin_99 ?_
            refine lv_aload_n hx hb d_Md_begin_102 rfl (lv_at hl 1 rfl) ?_
            refine ux_get (C := R_Md) (T := F_Md) (N := 50) hx hb hT in_Md hown hK hP (by decide) rfl rfl 10 (by decide) (hT _ fl_Md_36) rfl d_Md_begin_103 ?_
            refine lv_topi (fun z21 hz21 => ?_)
            rw [show M15 0 10 = nI L from (wr_off eM15 (by omega)).trans ((wr_off eM11 (by omega)).trans ((wr_off eM10 (by omega)).trans (hlv)))] at hz21
            rw [hz21]
            refine ux_iald hx hb hK hP (by decide) rfl (vp_in_nI (show L < 8 by omega) (by decide)) d_Md_begin_106 ?_
            rw [nI_clamp (n := L) (by omega)]
            refine lv_topi (fun z22 hz22 => ?_)
            rw [show M15 9 L = nI an from (wr_off eM15 (by omega)).trans ((wr_off eM11 (by omega)).trans ((wr_off eM10 (by omega)).trans (han)))] at hz22
            rw [hz22]
            refine lv_iconst (v := 1) hx hb d_Md_begin_107 (by decide) ?_
            refine lv_iadd hx hb d_Md_begin_108 ?_
            refine lv_topi (fun z23 hz23 => ?_)
            rw [show (nI an) + (1 : Int32) = nI (an + 1) from nI_add an 1] at hz23
            rw [hz23]
            refine lv_goto hx hb d_Md_begin_109 rfl ?_
            refine ux_iast hx hb hK hi hP hS (by decide) rfl (vp_in_nI (show L < 8 by omega) (by decide)) d_Md_begin_121 (fun H locs hP hS => ?_)
            rw [nI_clamp (n := L) (by omega)] at hP
            have hI := IvM_wr (k := 9) (j := L) (v := nI (an + 1)) hI (show (0 : Int) ≤ (nI (an + 1) : Int32).toInt from (by rw [nI_toInt (n := an + 1) (by omega)]; omega)) (show (nI (an + 1) : Int32).toInt ≤ (A : Int) from (by rw [nI_toInt (n := an + 1) (by omega)]; omega)) (by unfold okW; omega)
            have hF := fr_wr (k := 9) (j := L) (v := nI (an + 1)) hF (by unfold mRd; omega)
            generalize eM24 : ux_wr M15 9 L (nI (an + 1)) = M24 at hP hI hF
            have tM24 : (M24 9 L).toInt = ((an + 1 : Nat) : Int) := by rw [wr_at eM24]; exact nI_toInt (by omega)
            exact W.vret hx hb hr (fun t ht hW => ⟨⟨M24, rfl, ⟨hI, hF, (Nx_1 ((wr_off eM24 (by omega)).trans ((wr_off eM15 (by omega)).trans ((wr_off eM11 (by omega)).trans ((wr_off eM10 (by omega)).trans (hlv))))) ⟨cw, (wr_off eM24 (by omega)).trans ((wr_off eM15 (by omega)).trans ((wr_off eM11 (by omega)).trans ((wr_off eM10 (by omega)).trans (hcw)))), by omega, (wr_off eM24 (by omega)).trans ((wr_off eM15 (by omega)).trans ((wr_off eM11 (by omega)).trans (wr_at eM10)))⟩ (fun z => absurd (((wr_off eM24 (by omega)).trans ((wr_off eM15 (by omega)).trans ((wr_off eM11 (by omega)).trans ((wr_off eM10 (by omega)).trans (hsg))))).symm.trans z) (by decide)) (by rw [wr_at eM24, nI_toInt (n := an + 1) (by omega)]; omega))⟩, by unfold ux_E; rw [ht]; exact hP⟩, hS.F ht⟩) hS.2.2 d_Md_begin_122
        · have g14 : ch.toInt = 34 := congrArg Int32.toInt h14
          refine lv_iconst (v := 2) hx hb d_Md_begin_78 (by decide) ?_
          refine lv_goto hx hb d_Md_begin_79 rfl ?_
          refine ux_iast hx hb hK hi hP hS (by decide) rfl (vp_in_nI (show L < 8 by omega) (by decide)) d_Md_begin_83 (fun H locs hP hS => ?_)
          rw [nI_clamp (n := L) (by omega)] at hP
          have hI := IvM_free (k := 13) (j := L) (v := 2) hI rfl rfl (by unfold okW; omega)
          have hF := fr_wr (k := 13) (j := L) (v := 2) hF (by unfold mRd; omega)
          generalize eM25 : ux_wr M11 13 L 2 = M25 at hP hI hF
          refine lv_aload_n hx hb d_Md_begin_84 rfl (lv_at hl 1 rfl) ?_
          refine ux_get (C := R_Md) (T := F_Md) (N := 50) hx hb hT in_Md hown hK hP (by decide) rfl rfl 11 (by decide) (hT _ fl_Md_40) rfl d_Md_begin_85 ?_
          refine lv_aload_n hx hb d_Md_begin_88 rfl (lv_at hl 1 rfl) ?_
          refine ux_get (C := R_Md) (T := F_Md) (N := 50) hx hb hT in_Md hown hK hP (by decide) rfl rfl 10 (by decide) (hT _ fl_Md_36) rfl d_Md_begin_89 ?_
          refine lv_topi (fun z26 hz26 => ?_)
          rw [show M25 0 10 = nI L from (wr_off eM25 (by omega)).trans ((wr_off eM11 (by omega)).trans ((wr_off eM10 (by omega)).trans (hlv)))] at hz26
          rw [hz26]
          refine lv_iload_n hx hb d_Md_begin_92 rfl (lv_at hl 2 rfl) ?_
          refine lv_bipush (v := 34) hx hb d_Md_begin_93 (by decide) ?_
          refine lv_icmp_ne hx hb d_Md_begin_95 rfl (fun h27 => ?_) (fun h27 => ?_)
          · have g27 : ¬ (ch.toInt = 34) := fun q => h27 (Int32.toInt_inj.mp q)
            refine lv_aload_n hx hb d_Md_begin_112 rfl (lv_at hl 1 rfl) ?_
            refine ux_get (C := R_Md) (T := F_Md) (N := 50) hx hb hT in_Md hown hK hP (by decide) rfl rfl 11 (by decide) (hT _ fl_Md_40) rfl d_Md_begin_113 ?_
            refine lv_aload_n hx hb d_Md_begin_116 rfl (lv_at hl 1 rfl) ?_
            refine ux_get (C := R_Md) (T := F_Md) (N := 50) hx hb hT in_Md hown hK hP (by decide) rfl rfl 10 (by decide) (hT _ fl_Md_36) rfl d_Md_begin_117 ?_
            refine lv_topi (fun z28 hz28 => ?_)
            rw [show M25 0 10 = nI L from (wr_off eM25 (by omega)).trans ((wr_off eM11 (by omega)).trans ((wr_off eM10 (by omega)).trans (hlv)))] at hz28
            rw [hz28]
            refine ux_iald hx hb hK hP (by decide) rfl (vp_in_nI (show L < 8 by omega) (by decide)) d_Md_begin_120 ?_
            rw [nI_clamp (n := L) (by omega)]
            refine lv_topi (fun z29 hz29 => ?_)
            rw [show M25 9 L = nI an from (wr_off eM25 (by omega)).trans ((wr_off eM11 (by omega)).trans ((wr_off eM10 (by omega)).trans (han)))] at hz29
            rw [hz29]
            refine ux_iast hx hb hK hi hP hS (by decide) rfl (vp_in_nI (show L < 8 by omega) (by decide)) d_Md_begin_121 (fun H locs hP hS => ?_)
            rw [nI_clamp (n := L) (by omega)] at hP
            have hI := IvM_wr (k := 9) (j := L) (v := nI an) hI (show (0 : Int) ≤ (nI an : Int32).toInt from (by rw [nI_toInt (n := an) (by omega)]; omega)) (show (nI an : Int32).toInt ≤ (A : Int) from (by rw [nI_toInt (n := an) (by omega)]; omega)) (by unfold okW; omega)
            have hF := fr_wr (k := 9) (j := L) (v := nI an) hF (by unfold mRd; omega)
            generalize eM30 : ux_wr M25 9 L (nI an) = M30 at hP hI hF
            have tM30 : (M30 9 L).toInt = ((an : Nat) : Int) := by rw [wr_at eM30]; exact nI_toInt (by omega)
            exact W.vret hx hb hr (fun t ht hW => ⟨⟨M30, rfl, ⟨hI, hF, (Nx_1 ((wr_off eM30 (by omega)).trans ((wr_off eM25 (by omega)).trans ((wr_off eM11 (by omega)).trans ((wr_off eM10 (by omega)).trans (hlv))))) ⟨cw, (wr_off eM30 (by omega)).trans ((wr_off eM25 (by omega)).trans ((wr_off eM11 (by omega)).trans ((wr_off eM10 (by omega)).trans (hcw)))), by omega, (wr_off eM30 (by omega)).trans ((wr_off eM25 (by omega)).trans ((wr_off eM11 (by omega)).trans (wr_at eM10)))⟩ (fun z => absurd (((wr_off eM30 (by omega)).trans ((wr_off eM25 (by omega)).trans ((wr_off eM11 (by omega)).trans ((wr_off eM10 (by omega)).trans (hsg))))).symm.trans z) (by decide)) (by rw [wr_at eM30, nI_toInt (n := an) (by omega)]; omega))⟩, by unfold ux_E; rw [ht]; exact hP⟩, hS.F ht⟩) hS.2.2 d_Md_begin_122
          · have g27 : ch.toInt = 34 := congrArg Int32.toInt h27
            refine lv_aload_n hx hb d_Md_begin_98 rfl (lv_at hl 1 rfl) ?_
            refine ux_get (C := R_Md) (T := F_Md) (N := 50) hx hb hT in_Md hown hK hP (by decide) rfl rfl 11 (by decide) (hT _ fl_Md_40) rfl d_Md_begin_99 ?_
            refine lv_aload_n hx hb d_Md_begin_102 rfl (lv_at hl 1 rfl) ?_
            refine ux_get (C := R_Md) (T := F_Md) (N := 50) hx hb hT in_Md hown hK hP (by decide) rfl rfl 10 (by decide) (hT _ fl_Md_36) rfl d_Md_begin_103 ?_
            refine lv_topi (fun z31 hz31 => ?_)
            rw [show M25 0 10 = nI L from (wr_off eM25 (by omega)).trans ((wr_off eM11 (by omega)).trans ((wr_off eM10 (by omega)).trans (hlv)))] at hz31
            rw [hz31]
            refine ux_iald hx hb hK hP (by decide) rfl (vp_in_nI (show L < 8 by omega) (by decide)) d_Md_begin_106 ?_
            rw [nI_clamp (n := L) (by omega)]
            refine lv_topi (fun z32 hz32 => ?_)
            rw [show M25 9 L = nI an from (wr_off eM25 (by omega)).trans ((wr_off eM11 (by omega)).trans ((wr_off eM10 (by omega)).trans (han)))] at hz32
            rw [hz32]
            refine lv_iconst (v := 1) hx hb d_Md_begin_107 (by decide) ?_
            refine lv_iadd hx hb d_Md_begin_108 ?_
            refine lv_topi (fun z33 hz33 => ?_)
            rw [show (nI an) + (1 : Int32) = nI (an + 1) from nI_add an 1] at hz33
            rw [hz33]
            refine lv_goto hx hb d_Md_begin_109 rfl ?_
            refine ux_iast hx hb hK hi hP hS (by decide) rfl (vp_in_nI (show L < 8 by omega) (by decide)) d_Md_begin_121 (fun H locs hP hS => ?_)
            rw [nI_clamp (n := L) (by omega)] at hP
            have hI := IvM_wr (k := 9) (j := L) (v := nI (an + 1)) hI (show (0 : Int) ≤ (nI (an + 1) : Int32).toInt from (by rw [nI_toInt (n := an + 1) (by omega)]; omega)) (show (nI (an + 1) : Int32).toInt ≤ (A : Int) from (by rw [nI_toInt (n := an + 1) (by omega)]; omega)) (by unfold okW; omega)
            have hF := fr_wr (k := 9) (j := L) (v := nI (an + 1)) hF (by unfold mRd; omega)
            generalize eM34 : ux_wr M25 9 L (nI (an + 1)) = M34 at hP hI hF
            have tM34 : (M34 9 L).toInt = ((an + 1 : Nat) : Int) := by rw [wr_at eM34]; exact nI_toInt (by omega)
            exact W.vret hx hb hr (fun t ht hW => ⟨⟨M34, rfl, ⟨hI, hF, (Nx_1 ((wr_off eM34 (by omega)).trans ((wr_off eM25 (by omega)).trans ((wr_off eM11 (by omega)).trans ((wr_off eM10 (by omega)).trans (hlv))))) ⟨cw, (wr_off eM34 (by omega)).trans ((wr_off eM25 (by omega)).trans ((wr_off eM11 (by omega)).trans ((wr_off eM10 (by omega)).trans (hcw)))), by omega, (wr_off eM34 (by omega)).trans ((wr_off eM25 (by omega)).trans ((wr_off eM11 (by omega)).trans (wr_at eM10)))⟩ (fun z => absurd (((wr_off eM34 (by omega)).trans ((wr_off eM25 (by omega)).trans ((wr_off eM11 (by omega)).trans ((wr_off eM10 (by omega)).trans (hsg))))).symm.trans z) (by decide)) (by rw [wr_at eM34, nI_toInt (n := an + 1) (by omega)]; omega))⟩, by unfold ux_E; rw [ht]; exact hP⟩, hS.F ht⟩) hS.2.2 d_Md_begin_122
    · have g9 : ch.toInt = 123 := congrArg Int32.toInt h9
      refine lv_iconst (v := 1) hx hb d_Md_begin_45 (by decide) ?_
      refine lv_goto hx hb d_Md_begin_46 rfl ?_
      refine ux_zast hx hb hK hi hP hS (by decide) rfl (vp_in_nI (show 8 * L + cw < 65 by omega) (by decide)) d_Md_begin_50 (fun H locs hP hS => ?_)
      rw [show vp_nar .boolean 1 = 1 from rfl] at hP
      rw [nI_clamp (n := 8 * L + cw) (by omega)] at hP
      have hIo := hI
      have hI := Eq.refl (ux_wr M 17 (8 * L + cw) 1)
      have hF := fr_wr (k := 17) (j := 8 * L + cw) (v := 1) hF (by unfold mRd; omega)
      generalize eM35 : ux_wr M 17 (8 * L + cw) 1 = M35 at hP hI hF
      refine lv_aload_n hx hb d_Md_begin_51 rfl (lv_at hl 1 rfl) ?_
      refine ux_get (C := R_Md) (T := F_Md) (N := 50) hx hb hT in_Md hown hK hP (by decide) rfl rfl 21 (by decide) (hT _ fl_Md_70) rfl d_Md_begin_52 ?_
      refine lv_iload_n hx hb d_Md_begin_55 rfl (lv_at hl 0 rfl) ?_
      refine lv_iconst (v := 0) hx hb d_Md_begin_56 (by decide) ?_
      refine ux_iast hx hb hK hi hP hS (by decide) rfl (vp_in_nI (show 8 * L + cw < 65 by omega) (by decide)) d_Md_begin_57 (fun H locs hP hS => ?_)
      rw [nI_clamp (n := 8 * L + cw) (by omega)] at hP
      have hI := IvM_two (j := 8 * L + cw) hIo eM35
      have hF := fr_wr (k := 19) (j := 8 * L + cw) (v := 0) hF (by unfold mRd; omega)
      generalize eM36 : ux_wr M35 19 (8 * L + cw) 0 = M36 at hP hI hF
      have tM36 : (M36 19 (8 * L + cw)).toInt = 0 := by rw [wr_at eM36]; rfl
      refine lv_iload_n hx hb d_Md_begin_58 rfl (lv_at hl 2 rfl) ?_
      refine lv_bipush (v := 123) hx hb d_Md_begin_59 (by decide) ?_
      refine lv_icmp_eq hx hb d_Md_begin_61 rfl (fun h37 => ?_) (fun h37 => ?_)
      · have g37 : ch.toInt = 123 := congrArg Int32.toInt h37
        refine lv_iconst (v := 1) hx hb d_Md_begin_123 (by decide) ?_
        refine lv_istore_n hx hb d_Md_begin_124 rfl hl (by decide) rfl (fun ls hl => ?_)
        have hl : lv_has ls 5 [(3, .int 1), (2, .int (nI (8 * L + cw))), (0, .ref (ad 0)), (1, .int ch)] := hl
        refine lv_aload_n hx hb d_Md_begin_125 rfl (lv_at hl 2 rfl) ?_
        refine ux_get (C := R_Md) (T := F_Md) (N := 50) hx hb hT in_Md hown hK hP (by decide) rfl rfl 11 (by decide) (hT _ fl_Md_40) rfl d_Md_begin_126 ?_
        refine lv_aload_n hx hb d_Md_begin_129 rfl (lv_at hl 2 rfl) ?_
        refine ux_get (C := R_Md) (T := F_Md) (N := 50) hx hb hT in_Md hown hK hP (by decide) rfl rfl 10 (by decide) (hT _ fl_Md_36) rfl d_Md_begin_130 ?_
        refine lv_topi (fun z38 hz38 => ?_)
        rw [show M36 0 10 = nI L from (wr_off eM36 (by omega)).trans ((wr_off eM35 (by omega)).trans (hlv))] at hz38
        rw [hz38]
        refine ux_iald hx hb hK hP (by decide) rfl (vp_in_nI (show L < 8 by omega) (by decide)) d_Md_begin_133 ?_
        rw [nI_clamp (n := L) (by omega)]
        refine lv_topi (fun z39 hz39 => ?_)
        rw [show M36 9 L = nI an from (wr_off eM36 (by omega)).trans ((wr_off eM35 (by omega)).trans (han))] at hz39
        rw [hz39]
        refine lv_iconst (v := 1) hx hb d_Md_begin_134 (by decide) ?_
        refine lv_iadd hx hb d_Md_begin_135 ?_
        refine lv_topi (fun z40 hz40 => ?_)
        rw [show (nI an) + (1 : Int32) = nI (an + 1) from nI_add an 1] at hz40
        rw [hz40]
        refine lv_istore hx hb d_Md_begin_136 hl (by decide) rfl (fun ls hl => ?_)
        have hl : lv_has ls 5 [(4, .int (nI (an + 1))), (3, .int 1), (2, .int (nI (8 * L + cw))), (0, .ref (ad 0)), (1, .int ch)] := hl
        have cut146 : ∀ (nn : Nat) (i_3 : Int32) (k4 : Nat) (Mc146 : ux_M) (H : Heap) (locs : List Loc) (ls : Array Slot), 200 - k4 = nn → (an + 1 ≤ k4) → (k4 ≤ en) → (i_3.toInt = 1 ∨ an + 2 ≤ k4) → (∀ a b, ¬ ((a = 17 ∨ a = 18 ∨ a = 19) ∧ b = 8 * L + cw) → Mc146 a b = M a b) → (Mc146 17 (8 * L + cw) = 1) → (Mc146 18 (8 * L + cw) = nI (an + 1)) → va_P D classes (ux_w shM KM ad cA Mc146) H → IvM A TB Mc146 → (∀ a b, ¬ (mRd L) a b → Mc146 a b = M a b) → va_S (ux_A KM ad) s.heap H locs → lv_has ls 5 [(0, .ref (ad 0)), (2, .int (nI (8 * L + cw))), (3, .int i_3), (4, .int (nI k4))] → W p l e (headSpec w_Md_begin ({ frames := 4, cells := 0, slots := 0, locals := 81 })).room s m (([.ref (ad 0), .int ch] : List Value).toArray) below meth c H locs 0 0 (MQ below (va_Qv (fun M1 => IvM A TB M1 ∧ (∀ a b, ¬ (mRd L) a b → M1 a b = M a b) ∧ (Nx Z M1 L)) (ux_E D shM KM ad cA) (ux_A KM ad)) (([.ref (ad 0), .int ch] : List Value).toArray) s 0 0 (ux_A KM ad)) (F0 m 146 ls []) := by
          intro nn
          induction nn using Nat.strongRecOn with
          | ind nn ih146 =>
            intro i_3 k4 Mc146 H locs ls hn c146_0 c146_1 c146_2 c146_3 c146_4 c146_5 hP hI hF hS hl
            refine lv_iload hx hb d_Md_begin_146 (lv_at hl 3 rfl) ?_
            refine lv_aload_n hx hb d_Md_begin_148 rfl (lv_at hl 0 rfl) ?_
            refine ux_get (C := R_Md) (T := F_Md) (N := 50) hx hb hT in_Md hown hK hP (by decide) rfl rfl 12 (by decide) (hT _ fl_Md_43) rfl d_Md_begin_149 ?_
            refine lv_aload_n hx hb d_Md_begin_152 rfl (lv_at hl 0 rfl) ?_
            refine ux_get (C := R_Md) (T := F_Md) (N := 50) hx hb hT in_Md hown hK hP (by decide) rfl rfl 10 (by decide) (hT _ fl_Md_36) rfl d_Md_begin_153 ?_
            refine lv_topi (fun z41 hz41 => ?_)
            rw [show Mc146 0 10 = nI L from ((c146_3 _ _ (by omega)).trans hlv)] at hz41
            rw [hz41]
            refine ux_iald hx hb hK hP (by decide) rfl (vp_in_nI (show L < 8 by omega) (by decide)) d_Md_begin_156 ?_
            rw [nI_clamp (n := L) (by omega)]
            refine lv_topi (fun z42 hz42 => ?_)
            rw [show Mc146 10 L = nI en from ((c146_3 _ _ (by omega)).trans hen)] at hz42
            rw [hz42]
            refine lv_icmp_ge hx hb d_Md_begin_157 rfl (fun h43 => ?_) (fun h43 => ?_)
            · have g43 : ((en : Nat) : Int) ≤ ((k4 : Nat) : Int) := by have q := Int32.le_iff_toInt_le.mp h43; rw [nI_toInt (n := en) (by omega), nI_toInt (n := k4) (by omega)] at q; exact q
              refine lv_iload_n hx hb d_Md_begin_208 rfl (lv_at hl 2 rfl) ?_
              refine lv_if_le hx hb d_Md_begin_209 rfl (fun h44 => ?_) (fun h44 => ?_)
              · have g44 : i_3.toInt ≤ 0 := Int32.le_iff_toInt_le.mp h44
                have w44 := ti_lo i_3
                refine lv_aload_n hx hb d_Md_begin_218 rfl (lv_at hl 0 rfl) ?_
                refine ux_get (C := R_Md) (T := F_Md) (N := 50) hx hb hT in_Md hown hK hP (by decide) rfl rfl 21 (by decide) (hT _ fl_Md_70) rfl d_Md_begin_219 ?_
                refine lv_iload_n hx hb d_Md_begin_222 rfl (lv_at hl 1 rfl) ?_
                refine lv_iload hx hb d_Md_begin_223 (lv_at hl 3 rfl) ?_
                refine lv_iconst (v := 1) hx hb d_Md_begin_225 (by decide) ?_
                refine lv_isub hx hb d_Md_begin_226 ?_
                refine lv_topi (fun z45 hz45 => ?_)
                rw [show (nI k4) - (1 : Int32) = nI (k4 - 1) from (pk_sub (a := k4) (b := 1) (by omega)).trans (congrArg nI (show k4 - 1 = k4 - 1 by omega))] at hz45
                rw [hz45]
                refine lv_aload_n hx hb d_Md_begin_227 rfl (lv_at hl 0 rfl) ?_
                refine ux_get (C := R_Md) (T := F_Md) (N := 50) hx hb hT in_Md hown hK hP (by decide) rfl rfl 20 (by decide) (hT _ fl_Md_67) rfl d_Md_begin_228 ?_
                refine lv_iload_n hx hb d_Md_begin_231 rfl (lv_at hl 1 rfl) ?_
                refine ux_iald hx hb hK hP (by decide) rfl (vp_in_nI (show 8 * L + cw < 65 by omega) (by decide)) d_Md_begin_232 ?_
                rw [nI_clamp (n := 8 * L + cw) (by omega)]
                refine lv_topi (fun z46 hz46 => ?_)
                rw [show Mc146 18 (8 * L + cw) = nI (an + 1) from c146_5] at hz46
                rw [hz46]
                refine lv_isub hx hb d_Md_begin_233 ?_
                refine lv_topi (fun z47 hz47 => ?_)
                rw [show (nI (k4 - 1)) - (nI (an + 1)) = nI ((k4 - 1) - (an + 1)) from (pk_sub (a := k4 - 1) (b := an + 1) (by omega)).trans (congrArg nI (show (k4 - 1) - (an + 1) = (k4 - 1) - (an + 1) by omega))] at hz47
                rw [hz47]
                refine ux_iast hx hb hK hi hP hS (by decide) rfl (vp_in_nI (show 8 * L + cw < 65 by omega) (by decide)) d_Md_begin_234 (fun H locs hP hS => ?_)
                rw [nI_clamp (n := 8 * L + cw) (by omega)] at hP
                have hI := IvM_wd (k := 19) (j := 8 * L + cw) (v := nI ((k4 - 1) - (an + 1))) hI (show (0 : Int) ≤ (nI ((k4 - 1) - (an + 1)) : Int32).toInt from (by rw [nI_toInt (n := (k4 - 1) - (an + 1)) (by omega)]; omega)) (show (nI ((k4 - 1) - (an + 1)) : Int32).toInt ≤ (200 : Int) from (by rw [nI_toInt (n := (k4 - 1) - (an + 1)) (by omega)]; omega)) (by decide) (fun _ => ⟨fun q => absurd (c146_4.symm.trans ((ux_wr_off (by omega)).symm.trans q)) (by decide), fun _ => by rw [ux_wr_at, ux_wr_off (by omega), c146_5, nI_toInt (n := (k4 - 1) - (an + 1)) (by omega), nI_toInt (n := an + 1) (by omega)]; omega⟩)
                have hF := fr_wr (k := 19) (j := 8 * L + cw) (v := nI ((k4 - 1) - (an + 1))) hF (by unfold mRd; omega)
                generalize eM48 : ux_wr Mc146 19 (8 * L + cw) (nI ((k4 - 1) - (an + 1))) = M48 at hP hI hF
                have tM48 : (M48 19 (8 * L + cw)).toInt = (((k4 - 1) - (an + 1) : Nat) : Int) := by rw [wr_at eM48]; exact nI_toInt (by omega)
                refine lv_aload_n hx hb d_Md_begin_235 rfl (lv_at hl 0 rfl) ?_
                refine ux_get (C := R_Md) (T := F_Md) (N := 50) hx hb hT in_Md hown hK hP (by decide) rfl rfl 11 (by decide) (hT _ fl_Md_40) rfl d_Md_begin_236 ?_
                refine lv_aload_n hx hb d_Md_begin_239 rfl (lv_at hl 0 rfl) ?_
                refine ux_get (C := R_Md) (T := F_Md) (N := 50) hx hb hT in_Md hown hK hP (by decide) rfl rfl 10 (by decide) (hT _ fl_Md_36) rfl d_Md_begin_240 ?_
                refine lv_topi (fun z49 hz49 => ?_)
                rw [show M48 0 10 = nI L from (wr_off eM48 (by omega)).trans (((c146_3 _ _ (by omega)).trans hlv))] at hz49
                rw [hz49]
                refine lv_iload hx hb d_Md_begin_243 (lv_at hl 3 rfl) ?_
                refine ux_iast hx hb hK hi hP hS (by decide) rfl (vp_in_nI (show L < 8 by omega) (by decide)) d_Md_begin_245 (fun H locs hP hS => ?_)
                rw [nI_clamp (n := L) (by omega)] at hP
                have hI := IvM_wr (k := 9) (j := L) (v := nI k4) hI (show (0 : Int) ≤ (nI k4 : Int32).toInt from (by rw [nI_toInt (n := k4) (by omega)]; omega)) (show (nI k4 : Int32).toInt ≤ (A : Int) from (by rw [nI_toInt (n := k4) (by omega)]; omega)) (by unfold okW; omega)
                have hF := fr_wr (k := 9) (j := L) (v := nI k4) hF (by unfold mRd; omega)
                generalize eM50 : ux_wr M48 9 L (nI k4) = M50 at hP hI hF
                have tM50 : (M50 9 L).toInt = ((k4 : Nat) : Int) := by rw [wr_at eM50]; exact nI_toInt (by omega)
                refine lv_aload_n hx hb d_Md_begin_246 rfl (lv_at hl 0 rfl) ?_
                refine lv_iconst (v := 1) hx hb d_Md_begin_247 (by decide) ?_
                refine ux_callv (va_runV ⟨hx, hb, hml, hown, hts⟩ (s_Md_wordEnds l D ad cA A TB hA hB  M50 hI L hL ((wr_off eM50 (by omega)).trans ((wr_off eM48 (by omega)).trans (((c146_3 _ _ (by omega)).trans hlv)))) cw ((wr_off eM50 (by omega)).trans ((wr_off eM48 (by omega)).trans (((c146_3 _ _ (by omega)).trans hcw)))) (by omega) 1) (cwV 1 hts (tb_goodV ml_Md_199 im_Md_wordEnds se_Md_wordEnds ii_Md kt_Md_wordEnds) rfl rfl rfl (by decide +kernel) ⟨Nat.le_of_ble_eq_true rfl, Nat.le_of_ble_eq_true rfl⟩) (ux_preV (by decide) rfl rfl hP hK hi hN) rfl rfl hl.1 rfl (lv_room (Nat.le_of_ble_eq_true rfl)) d_Md_begin_248 ⟨Nat.zero_le _, Nat.zero_le _⟩) hS (fun M52 H locs q53 hP hS => ?_)
                obtain ⟨hI, fq53, q53p⟩ := q53
                have hF := fr_call hF fq53 (fun a b q => by unfold mWe at q; unfold mRd; omega)
                exact W.vret hx hb hr (fun t ht hW => ⟨⟨M52, rfl, ⟨hI, hF, (by rcases q53p with ⟨a1, a2, a3, a4⟩ | ⟨a1, _⟩; exact Nx_0 ((fq53 _ _ (by unfold mWe; omega)).trans ((wr_off eM50 (by omega)).trans ((wr_off eM48 (by omega)).trans (((c146_3 _ _ (by omega)).trans hlv))))) (a3.trans ((wr_off eM50 (by omega)).trans ((wr_off eM48 (by omega)).trans (((c146_3 _ _ (by omega)).trans hm))))) (by rw [(fq53 _ _ (by unfold mWe; omega)).trans (wr_at eM50), nI_toInt (n := k4) (by omega)]; omega); exact Nx_0 ((fq53 _ _ (by unfold mWe; omega)).trans ((wr_off eM50 (by omega)).trans ((wr_off eM48 (by omega)).trans (((c146_3 _ _ (by omega)).trans hlv))))) a1 (by rw [(fq53 _ _ (by unfold mWe; omega)).trans (wr_at eM50), nI_toInt (n := k4) (by omega)]; omega))⟩, by unfold ux_E; rw [ht]; exact hP⟩, hS.F ht⟩) hS.2.2 d_Md_begin_251
              · have g44 : ¬ (i_3.toInt ≤ 0) := fun q => h44 (Int32.le_iff_toInt_le.mpr q)
                have u44 := ti_hi i_3
                refine lv_aload_n hx hb d_Md_begin_212 rfl (lv_at hl 0 rfl) ?_
                refine lv_iconst (v := 1) hx hb d_Md_begin_213 (by decide) ?_
                refine ux_callv (va_runV ⟨hx, hb, hml, hown, hts⟩ (s_Md_error l D ad cA A TB hA hB  Mc146 hI 1) (cwV 1 hts (tb_goodV ml_Md_166 im_Md_error se_Md_error ii_Md kt_Md_error) rfl rfl rfl (by decide +kernel) ⟨Nat.le_of_ble_eq_true rfl, Nat.le_of_ble_eq_true rfl⟩) (ux_preV (by decide) rfl rfl hP hK hi hN) rfl rfl hl.1 rfl (lv_room (Nat.le_of_ble_eq_true rfl)) d_Md_begin_214 ⟨Nat.zero_le _, Nat.zero_le _⟩) hS (fun M55 H locs q56 hP hS => ?_)
                obtain ⟨hI, fq56, q56p⟩ := q56
                have hF := fr_call hF fq56 (fun a b q => by unfold mEr at q; unfold mRd; omega)
                exact W.vret hx hb hr (fun t ht hW => ⟨⟨M55, rfl, ⟨hI, hF, (Nx_0 ((fq56 _ _ (by unfold mEr; omega)).trans (((c146_3 _ _ (by omega)).trans hlv))) ((fq56 _ _ (by unfold mEr; omega)).trans (((c146_3 _ _ (by omega)).trans hm))) (by rw [(fq56 _ _ (by unfold mEr; omega)).trans (((c146_3 _ _ (by omega)).trans han)), nI_toInt (n := an) (by omega)]; omega))⟩, by unfold ux_E; rw [ht]; exact hP⟩, hS.F ht⟩) hS.2.2 d_Md_begin_217
            · have g43 : ¬ (((en : Nat) : Int) ≤ ((k4 : Nat) : Int)) := fun q => h43 (Int32.le_iff_toInt_le.mpr (by rw [nI_toInt (n := en) (by omega), nI_toInt (n := k4) (by omega)]; exact q))
              refine lv_iload_n hx hb d_Md_begin_160 rfl (lv_at hl 2 rfl) ?_
              refine lv_if_le hx hb d_Md_begin_161 rfl (fun h57 => ?_) (fun h57 => ?_)
              · have g57 : i_3.toInt ≤ 0 := Int32.le_iff_toInt_le.mp h57
                have w57 := ti_lo i_3
                refine lv_iload_n hx hb d_Md_begin_208 rfl (lv_at hl 2 rfl) ?_
                refine lv_if_le hx hb d_Md_begin_209 rfl (fun h58 => ?_) (fun h58 => ?_)
                · have g58 : i_3.toInt ≤ 0 := Int32.le_iff_toInt_le.mp h58
                  have w58 := ti_lo i_3
                  refine lv_aload_n hx hb d_Md_begin_218 rfl (lv_at hl 0 rfl) ?_
                  refine ux_get (C := R_Md) (T := F_Md) (N := 50) hx hb hT in_Md hown hK hP (by decide) rfl rfl 21 (by decide) (hT _ fl_Md_70) rfl d_Md_begin_219 ?_
                  refine lv_iload_n hx hb d_Md_begin_222 rfl (lv_at hl 1 rfl) ?_
                  refine lv_iload hx hb d_Md_begin_223 (lv_at hl 3 rfl) ?_
                  refine lv_iconst (v := 1) hx hb d_Md_begin_225 (by decide) ?_
                  refine lv_isub hx hb d_Md_begin_226 ?_
                  refine lv_topi (fun z59 hz59 => ?_)
                  rw [show (nI k4) - (1 : Int32) = nI (k4 - 1) from (pk_sub (a := k4) (b := 1) (by omega)).trans (congrArg nI (show k4 - 1 = k4 - 1 by omega))] at hz59
                  rw [hz59]
                  refine lv_aload_n hx hb d_Md_begin_227 rfl (lv_at hl 0 rfl) ?_
                  refine ux_get (C := R_Md) (T := F_Md) (N := 50) hx hb hT in_Md hown hK hP (by decide) rfl rfl 20 (by decide) (hT _ fl_Md_67) rfl d_Md_begin_228 ?_
                  refine lv_iload_n hx hb d_Md_begin_231 rfl (lv_at hl 1 rfl) ?_
                  refine ux_iald hx hb hK hP (by decide) rfl (vp_in_nI (show 8 * L + cw < 65 by omega) (by decide)) d_Md_begin_232 ?_
                  rw [nI_clamp (n := 8 * L + cw) (by omega)]
                  refine lv_topi (fun z60 hz60 => ?_)
                  rw [show Mc146 18 (8 * L + cw) = nI (an + 1) from c146_5] at hz60
                  rw [hz60]
                  refine lv_isub hx hb d_Md_begin_233 ?_
                  refine lv_topi (fun z61 hz61 => ?_)
                  rw [show (nI (k4 - 1)) - (nI (an + 1)) = nI ((k4 - 1) - (an + 1)) from (pk_sub (a := k4 - 1) (b := an + 1) (by omega)).trans (congrArg nI (show (k4 - 1) - (an + 1) = (k4 - 1) - (an + 1) by omega))] at hz61
                  rw [hz61]
                  refine ux_iast hx hb hK hi hP hS (by decide) rfl (vp_in_nI (show 8 * L + cw < 65 by omega) (by decide)) d_Md_begin_234 (fun H locs hP hS => ?_)
                  rw [nI_clamp (n := 8 * L + cw) (by omega)] at hP
                  have hI := IvM_wd (k := 19) (j := 8 * L + cw) (v := nI ((k4 - 1) - (an + 1))) hI (show (0 : Int) ≤ (nI ((k4 - 1) - (an + 1)) : Int32).toInt from (by rw [nI_toInt (n := (k4 - 1) - (an + 1)) (by omega)]; omega)) (show (nI ((k4 - 1) - (an + 1)) : Int32).toInt ≤ (200 : Int) from (by rw [nI_toInt (n := (k4 - 1) - (an + 1)) (by omega)]; omega)) (by decide) (fun _ => ⟨fun q => absurd (c146_4.symm.trans ((ux_wr_off (by omega)).symm.trans q)) (by decide), fun _ => by rw [ux_wr_at, ux_wr_off (by omega), c146_5, nI_toInt (n := (k4 - 1) - (an + 1)) (by omega), nI_toInt (n := an + 1) (by omega)]; omega⟩)
                  have hF := fr_wr (k := 19) (j := 8 * L + cw) (v := nI ((k4 - 1) - (an + 1))) hF (by unfold mRd; omega)
                  generalize eM62 : ux_wr Mc146 19 (8 * L + cw) (nI ((k4 - 1) - (an + 1))) = M62 at hP hI hF
                  have tM62 : (M62 19 (8 * L + cw)).toInt = (((k4 - 1) - (an + 1) : Nat) : Int) := by rw [wr_at eM62]; exact nI_toInt (by omega)
                  refine lv_aload_n hx hb d_Md_begin_235 rfl (lv_at hl 0 rfl) ?_
                  refine ux_get (C := R_Md) (T := F_Md) (N := 50) hx hb hT in_Md hown hK hP (by decide) rfl rfl 11 (by decide) (hT _ fl_Md_40) rfl d_Md_begin_236 ?_
                  refine lv_aload_n hx hb d_Md_begin_239 rfl (lv_at hl 0 rfl) ?_
                  refine ux_get (C := R_Md) (T := F_Md) (N := 50) hx hb hT in_Md hown hK hP (by decide) rfl rfl 10 (by decide) (hT _ fl_Md_36) rfl d_Md_begin_240 ?_
                  refine lv_topi (fun z63 hz63 => ?_)
                  rw [show M62 0 10 = nI L from (wr_off eM62 (by omega)).trans (((c146_3 _ _ (by omega)).trans hlv))] at hz63
                  rw [hz63]
                  refine lv_iload hx hb d_Md_begin_243 (lv_at hl 3 rfl) ?_
                  refine ux_iast hx hb hK hi hP hS (by decide) rfl (vp_in_nI (show L < 8 by omega) (by decide)) d_Md_begin_245 (fun H locs hP hS => ?_)
                  rw [nI_clamp (n := L) (by omega)] at hP
                  have hI := IvM_wr (k := 9) (j := L) (v := nI k4) hI (show (0 : Int) ≤ (nI k4 : Int32).toInt from (by rw [nI_toInt (n := k4) (by omega)]; omega)) (show (nI k4 : Int32).toInt ≤ (A : Int) from (by rw [nI_toInt (n := k4) (by omega)]; omega)) (by unfold okW; omega)
                  have hF := fr_wr (k := 9) (j := L) (v := nI k4) hF (by unfold mRd; omega)
                  generalize eM64 : ux_wr M62 9 L (nI k4) = M64 at hP hI hF
                  have tM64 : (M64 9 L).toInt = ((k4 : Nat) : Int) := by rw [wr_at eM64]; exact nI_toInt (by omega)
                  refine lv_aload_n hx hb d_Md_begin_246 rfl (lv_at hl 0 rfl) ?_
                  refine lv_iconst (v := 1) hx hb d_Md_begin_247 (by decide) ?_
                  refine ux_callv (va_runV ⟨hx, hb, hml, hown, hts⟩ (s_Md_wordEnds l D ad cA A TB hA hB  M64 hI L hL ((wr_off eM64 (by omega)).trans ((wr_off eM62 (by omega)).trans (((c146_3 _ _ (by omega)).trans hlv)))) cw ((wr_off eM64 (by omega)).trans ((wr_off eM62 (by omega)).trans (((c146_3 _ _ (by omega)).trans hcw)))) (by omega) 1) (cwV 1 hts (tb_goodV ml_Md_199 im_Md_wordEnds se_Md_wordEnds ii_Md kt_Md_wordEnds) rfl rfl rfl (by decide +kernel) ⟨Nat.le_of_ble_eq_true rfl, Nat.le_of_ble_eq_true rfl⟩) (ux_preV (by decide) rfl rfl hP hK hi hN) rfl rfl hl.1 rfl (lv_room (Nat.le_of_ble_eq_true rfl)) d_Md_begin_248 ⟨Nat.zero_le _, Nat.zero_le _⟩) hS (fun M66 H locs q67 hP hS => ?_)
                  obtain ⟨hI, fq67, q67p⟩ := q67
                  have hF := fr_call hF fq67 (fun a b q => by unfold mWe at q; unfold mRd; omega)
                  exact W.vret hx hb hr (fun t ht hW => ⟨⟨M66, rfl, ⟨hI, hF, (by rcases q67p with ⟨a1, a2, a3, a4⟩ | ⟨a1, _⟩; exact Nx_0 ((fq67 _ _ (by unfold mWe; omega)).trans ((wr_off eM64 (by omega)).trans ((wr_off eM62 (by omega)).trans (((c146_3 _ _ (by omega)).trans hlv))))) (a3.trans ((wr_off eM64 (by omega)).trans ((wr_off eM62 (by omega)).trans (((c146_3 _ _ (by omega)).trans hm))))) (by rw [(fq67 _ _ (by unfold mWe; omega)).trans (wr_at eM64), nI_toInt (n := k4) (by omega)]; omega); exact Nx_0 ((fq67 _ _ (by unfold mWe; omega)).trans ((wr_off eM64 (by omega)).trans ((wr_off eM62 (by omega)).trans (((c146_3 _ _ (by omega)).trans hlv))))) a1 (by rw [(fq67 _ _ (by unfold mWe; omega)).trans (wr_at eM64), nI_toInt (n := k4) (by omega)]; omega))⟩, by unfold ux_E; rw [ht]; exact hP⟩, hS.F ht⟩) hS.2.2 d_Md_begin_251
                · have g58 : ¬ (i_3.toInt ≤ 0) := fun q => h58 (Int32.le_iff_toInt_le.mpr q)
                  have u58 := ti_hi i_3
                  refine lv_aload_n hx hb d_Md_begin_212 rfl (lv_at hl 0 rfl) ?_
                  refine lv_iconst (v := 1) hx hb d_Md_begin_213 (by decide) ?_
                  refine ux_callv (va_runV ⟨hx, hb, hml, hown, hts⟩ (s_Md_error l D ad cA A TB hA hB  Mc146 hI 1) (cwV 1 hts (tb_goodV ml_Md_166 im_Md_error se_Md_error ii_Md kt_Md_error) rfl rfl rfl (by decide +kernel) ⟨Nat.le_of_ble_eq_true rfl, Nat.le_of_ble_eq_true rfl⟩) (ux_preV (by decide) rfl rfl hP hK hi hN) rfl rfl hl.1 rfl (lv_room (Nat.le_of_ble_eq_true rfl)) d_Md_begin_214 ⟨Nat.zero_le _, Nat.zero_le _⟩) hS (fun M69 H locs q70 hP hS => ?_)
                  obtain ⟨hI, fq70, q70p⟩ := q70
                  have hF := fr_call hF fq70 (fun a b q => by unfold mEr at q; unfold mRd; omega)
                  exact W.vret hx hb hr (fun t ht hW => ⟨⟨M69, rfl, ⟨hI, hF, (Nx_0 ((fq70 _ _ (by unfold mEr; omega)).trans (((c146_3 _ _ (by omega)).trans hlv))) ((fq70 _ _ (by unfold mEr; omega)).trans (((c146_3 _ _ (by omega)).trans hm))) (by rw [(fq70 _ _ (by unfold mEr; omega)).trans (((c146_3 _ _ (by omega)).trans han)), nI_toInt (n := an) (by omega)]; omega))⟩, by unfold ux_E; rw [ht]; exact hP⟩, hS.F ht⟩) hS.2.2 d_Md_begin_217
              · have g57 : ¬ (i_3.toInt ≤ 0) := fun q => h57 (Int32.le_iff_toInt_le.mpr q)
                have u57 := ti_hi i_3
                refine lv_aload_n hx hb d_Md_begin_164 rfl (lv_at hl 0 rfl) ?_
                refine ux_get (C := R_Md) (T := F_Md) (N := 50) hx hb hT in_Md hown hK hP (by decide) rfl rfl 0 (by decide) (hT _ fl_Md_7) rfl d_Md_begin_165 ?_
                refine lv_iload hx hb d_Md_begin_168 (lv_at hl 3 rfl) ?_
                refine ux_cald hx hb hK hP (by decide) rfl (vp_in_nI (show k4 < 200 by omega) (by decide)) d_Md_begin_170 ?_
                rw [nI_clamp (n := k4) (by omega)]
                refine lv_topi (fun z72 hz72 => ?_)
                obtain ⟨c71, hc71, ec71⟩ := nat_of (x := Mc146 1 k4) (n := 65535) (hI.1 1 k4).1 (hI.1 1 k4).2
                rw [ec71] at hz72
                rw [hz72]
                have tc71 : (Mc146 1 k4).toInt = (c71 : Int) := by rw [ec71]; exact nI_toInt (by omega)
                refine lv_bipush (v := 123) hx hb d_Md_begin_171 (by decide) ?_
                refine lv_icmp_ne hx hb d_Md_begin_173 rfl (fun h73 => ?_) (fun h73 => ?_)
                · have g73 : ¬ (((c71 : Nat) : Int) = 123) := fun q => h73 (Int32.toInt_inj.mp (by rw [nI_toInt (n := c71) (by omega)]; exact q))
                  refine lv_aload_n hx hb d_Md_begin_182 rfl (lv_at hl 0 rfl) ?_
                  refine ux_get (C := R_Md) (T := F_Md) (N := 50) hx hb hT in_Md hown hK hP (by decide) rfl rfl 0 (by decide) (hT _ fl_Md_7) rfl d_Md_begin_183 ?_
                  refine lv_iload hx hb d_Md_begin_186 (lv_at hl 3 rfl) ?_
                  refine ux_cald hx hb hK hP (by decide) rfl (vp_in_nI (show k4 < 200 by omega) (by decide)) d_Md_begin_188 ?_
                  rw [nI_clamp (n := k4) (by omega)]
                  refine lv_topi (fun z74 hz74 => ?_)
                  rw [show Mc146 1 k4 = nI c71 from ec71] at hz74
                  rw [hz74]
                  refine lv_bipush (v := 125) hx hb d_Md_begin_189 (by decide) ?_
                  refine lv_icmp_ne hx hb d_Md_begin_191 rfl (fun h75 => ?_) (fun h75 => ?_)
                  · have g75 : ¬ (((c71 : Nat) : Int) = 125) := fun q => h75 (Int32.toInt_inj.mp (by rw [nI_toInt (n := c71) (by omega)]; exact q))
                    refine lv_iload_n hx hb d_Md_begin_200 rfl (lv_at hl 2 rfl) ?_
                    refine lv_istore_n hx hb d_Md_begin_201 rfl hl (by decide) rfl (fun ls hl => ?_)
                    have hl : lv_has ls 5 [(3, .int i_3), (0, .ref (ad 0)), (2, .int (nI (8 * L + cw))), (4, .int (nI k4))] := hl
                    refine lv_iinc (k := 3) (v := nI (k4 + 1)) hx hb d_Md_begin_202 hl rfl (nI_add k4 1) (by decide) rfl (fun ls hl => ?_)
                    have hl : lv_has ls 5 [(4, .int (nI (k4 + 1))), (3, .int i_3), (0, .ref (ad 0)), (2, .int (nI (8 * L + cw)))] := hl
                    refine lv_goto hx hb d_Md_begin_205 rfl ?_
                    exact ih146 (200 - (k4 + 1)) (by omega) i_3 (k4 + 1) Mc146 _ _ ls rfl (show an + 1 ≤ (k4 + 1) from by first | omega | assumption | exact Or.inl rfl | exact Or.inr rfl | rfl | decide) (show (k4 + 1) ≤ en from by first | omega | assumption | exact Or.inl rfl | exact Or.inr rfl | rfl | decide) (show i_3.toInt = 1 ∨ an + 2 ≤ (k4 + 1) from by first | omega | assumption | exact Or.inl rfl | exact Or.inr rfl | rfl | decide) (show ∀ a b, ¬ ((a = 17 ∨ a = 18 ∨ a = 19) ∧ b = 8 * L + cw) → Mc146 a b = M a b from by first | exact c146_3) (show Mc146 17 (8 * L + cw) = 1 from by first | exact c146_4) (show Mc146 18 (8 * L + cw) = nI (an + 1) from by first | exact c146_5) hP hI hF hS (lv_sub hl [2, 3, 1, 0] rfl)
                  · have g75 : ((c71 : Nat) : Int) = 125 := by have q := congrArg Int32.toInt h75; rw [nI_toInt (n := c71) (by omega)] at q; exact q
                    refine lv_iload_n hx hb d_Md_begin_194 rfl (lv_at hl 2 rfl) ?_
                    refine lv_iconst (v := 1) hx hb d_Md_begin_195 (by decide) ?_
                    refine lv_isub hx hb d_Md_begin_196 ?_
                    refine lv_topi (fun x76 ex76 => ?_)
                    try have fx76 : x76.toInt = i_3.toInt - 1 := by rw [ex76, ti_sub (by (try rw [show (1 : Int32).toInt = 1 from rfl]); omega) (by (try rw [show (1 : Int32).toInt = 1 from rfl]); omega)]; (try rw [show (1 : Int32).toInt = 1 from rfl]); first | done | rfl | omega
                    refine lv_goto hx hb d_Md_begin_197 rfl ?_
                    refine lv_istore_n hx hb d_Md_begin_201 rfl hl (by decide) rfl (fun ls hl => ?_)
                    have hl : lv_has ls 5 [(3, .int x76), (0, .ref (ad 0)), (2, .int (nI (8 * L + cw))), (4, .int (nI k4))] := hl
                    refine lv_iinc (k := 3) (v := nI (k4 + 1)) hx hb d_Md_begin_202 hl rfl (nI_add k4 1) (by decide) rfl (fun ls hl => ?_)
                    have hl : lv_has ls 5 [(4, .int (nI (k4 + 1))), (3, .int x76), (0, .ref (ad 0)), (2, .int (nI (8 * L + cw)))] := hl
                    refine lv_goto hx hb d_Md_begin_205 rfl ?_
                    exact ih146 (200 - (k4 + 1)) (by omega) x76 (k4 + 1) Mc146 _ _ ls rfl (show an + 1 ≤ (k4 + 1) from by first | omega | assumption | exact Or.inl rfl | exact Or.inr rfl | rfl | decide) (show (k4 + 1) ≤ en from by first | omega | assumption | exact Or.inl rfl | exact Or.inr rfl | rfl | decide) (show x76.toInt = 1 ∨ an + 2 ≤ (k4 + 1) from by first | omega | assumption | exact Or.inl rfl | exact Or.inr rfl | rfl | decide) (show ∀ a b, ¬ ((a = 17 ∨ a = 18 ∨ a = 19) ∧ b = 8 * L + cw) → Mc146 a b = M a b from by first | exact c146_3) (show Mc146 17 (8 * L + cw) = 1 from by first | exact c146_4) (show Mc146 18 (8 * L + cw) = nI (an + 1) from by first | exact c146_5) hP hI hF hS (lv_sub hl [2, 3, 1, 0] rfl)
                · have g73 : ((c71 : Nat) : Int) = 123 := by have q := congrArg Int32.toInt h73; rw [nI_toInt (n := c71) (by omega)] at q; exact q
                  refine lv_iload_n hx hb d_Md_begin_176 rfl (lv_at hl 2 rfl) ?_
                  refine lv_iconst (v := 1) hx hb d_Md_begin_177 (by decide) ?_
                  refine lv_iadd hx hb d_Md_begin_178 ?_
                  refine lv_topi (fun x77 ex77 => ?_)
                  try have fx77 : x77.toInt = i_3.toInt + 1 := by rw [ex77, ti_add (by (try rw [show (1 : Int32).toInt = 1 from rfl]); omega) (by (try rw [show (1 : Int32).toInt = 1 from rfl]); omega)]; (try rw [show (1 : Int32).toInt = 1 from rfl]); first | done | rfl | omega
                  refine lv_goto hx hb d_Md_begin_179 rfl ?_
                  refine lv_istore_n hx hb d_Md_begin_201 rfl hl (by decide) rfl (fun ls hl => ?_)
                  have hl : lv_has ls 5 [(3, .int x77), (0, .ref (ad 0)), (2, .int (nI (8 * L + cw))), (4, .int (nI k4))] := hl
                  refine lv_iinc (k := 3) (v := nI (k4 + 1)) hx hb d_Md_begin_202 hl rfl (nI_add k4 1) (by decide) rfl (fun ls hl => ?_)
                  have hl : lv_has ls 5 [(4, .int (nI (k4 + 1))), (3, .int x77), (0, .ref (ad 0)), (2, .int (nI (8 * L + cw)))] := hl
                  refine lv_goto hx hb d_Md_begin_205 rfl ?_
                  exact ih146 (200 - (k4 + 1)) (by omega) x77 (k4 + 1) Mc146 _ _ ls rfl (show an + 1 ≤ (k4 + 1) from by first | omega | assumption | exact Or.inl rfl | exact Or.inr rfl | rfl | decide) (show (k4 + 1) ≤ en from by first | omega | assumption | exact Or.inl rfl | exact Or.inr rfl | rfl | decide) (show x77.toInt = 1 ∨ an + 2 ≤ (k4 + 1) from by first | omega | assumption | exact Or.inl rfl | exact Or.inr rfl | rfl | decide) (show ∀ a b, ¬ ((a = 17 ∨ a = 18 ∨ a = 19) ∧ b = 8 * L + cw) → Mc146 a b = M a b from by first | exact c146_3) (show Mc146 17 (8 * L + cw) = 1 from by first | exact c146_4) (show Mc146 18 (8 * L + cw) = nI (an + 1) from by first | exact c146_5) hP hI hF hS (lv_sub hl [2, 3, 1, 0] rfl)
        refine lv_aload_n hx hb d_Md_begin_138 rfl (lv_at hl 3 rfl) ?_
        refine ux_get (C := R_Md) (T := F_Md) (N := 50) hx hb hT in_Md hown hK hP (by decide) rfl rfl 20 (by decide) (hT _ fl_Md_67) rfl d_Md_begin_139 ?_
        refine lv_iload_n hx hb d_Md_begin_142 rfl (lv_at hl 2 rfl) ?_
        refine lv_iload hx hb d_Md_begin_143 (lv_at hl 0 rfl) ?_
        refine ux_iast hx hb hK hi hP hS (by decide) rfl (vp_in_nI (show 8 * L + cw < 65 by omega) (by decide)) d_Md_begin_145 (fun H locs hP hS => ?_)
        rw [nI_clamp (n := 8 * L + cw) (by omega)] at hP
        have hI := IvM_wd (k := 18) (j := 8 * L + cw) (v := nI (an + 1)) hI (show (0 : Int) ≤ (nI (an + 1) : Int32).toInt from (by rw [nI_toInt (n := an + 1) (by omega)]; omega)) (show (nI (an + 1) : Int32).toInt ≤ (200 : Int) from (by rw [nI_toInt (n := an + 1) (by omega)]; omega)) (by decide) (fun _ => ⟨fun _ => by rw [ux_wr_off (by omega), wr_at eM36]; decide, fun _ => by rw [ux_wr_at, ux_wr_off (by omega), wr_at eM36, nI_toInt (n := an + 1) (by omega), show (0 : Int32).toInt = 0 from rfl]; omega⟩)
        have hF := fr_wr (k := 18) (j := 8 * L + cw) (v := nI (an + 1)) hF (by unfold mRd; omega)
        generalize eM78 : ux_wr M36 18 (8 * L + cw) (nI (an + 1)) = M78 at hP hI hF
        have tM78 : (M78 18 (8 * L + cw)).toInt = ((an + 1 : Nat) : Int) := by rw [wr_at eM78]; exact nI_toInt (by omega)
        exact cut146 (200 - (an + 1)) 1 (an + 1) M78 _ _ ls rfl (show an + 1 ≤ (an + 1) from by first | omega | assumption | exact Or.inl rfl | exact Or.inr rfl | rfl | decide) (show (an + 1) ≤ en from by first | omega | assumption | exact Or.inl rfl | exact Or.inr rfl | rfl | decide) (show 1 = 1 ∨ an + 2 ≤ (an + 1) from by first | omega | assumption | exact Or.inl rfl | exact Or.inr rfl | rfl | decide) (show ∀ a b, ¬ ((a = 17 ∨ a = 18 ∨ a = 19) ∧ b = 8 * L + cw) → M78 a b = M a b from by first | exact fun a b q => (wr_off eM78 (by omega)).trans ((wr_off eM36 (by omega)).trans (wr_off eM35 (by omega)))) (show M78 17 (8 * L + cw) = 1 from by first | exact (wr_off eM78 (by omega)).trans ((wr_off eM36 (by omega)).trans (wr_at eM35))) (show M78 18 (8 * L + cw) = nI (an + 1) from by first | exact wr_at eM78) hP hI hF hS (lv_sub hl [3, 2, 1, 0] rfl)
      · have g37 : ¬ (ch.toInt = 123) := fun q => h37 (Int32.toInt_inj.mp q)
        exfalso; omega
  · have g3 : ((cw : Nat) : Int) = 8 := by have q := congrArg Int32.toInt h3; rw [nI_toInt (n := cw) (by omega)] at q; exact q
    refine lv_aload_n hx hb d_Md_begin_14 rfl (lv_at hl 0 rfl) ?_
    refine lv_iconst (v := 1) hx hb d_Md_begin_15 (by decide) ?_
    refine ux_callv (va_runV ⟨hx, hb, hml, hown, hts⟩ (s_Md_error l D ad cA A TB hA hB  M hI 1) (cwV 1 hts (tb_goodV ml_Md_166 im_Md_error se_Md_error ii_Md kt_Md_error) rfl rfl rfl (by decide +kernel) ⟨Nat.le_of_ble_eq_true rfl, Nat.le_of_ble_eq_true rfl⟩) (ux_preV (by decide) rfl rfl hP hK hi hN) rfl rfl hl.1 rfl (lv_room (Nat.le_of_ble_eq_true rfl)) d_Md_begin_16 ⟨Nat.zero_le _, Nat.zero_le _⟩) hS (fun M80 H locs q81 hP hS => ?_)
    obtain ⟨hI, fq81, q81p⟩ := q81
    have hF := fr_call hF fq81 (fun a b q => by unfold mEr at q; unfold mRd; omega)
    exact W.vret hx hb hr (fun t ht hW => ⟨⟨M80, rfl, ⟨hI, hF, (Nx_0 ((fq81 _ _ (by unfold mEr; omega)).trans (hlv)) ((fq81 _ _ (by unfold mEr; omega)).trans (hm)) (by rw [(fq81 _ _ (by unfold mEr; omega)).trans (han), nI_toInt (n := an) (by omega)]; omega))⟩, by unfold ux_E; rw [ht]; exact hP⟩, hS.F ht⟩) hS.2.2 d_Md_begin_19
