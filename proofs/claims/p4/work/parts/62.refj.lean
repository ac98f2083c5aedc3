/-! The reference, safe: a word goes on; written by wip/gen/ref.py -/
set_option maxHeartbeats 1600000 in
set_option maxRecDepth 100000 in
theorem s_Md_piece (l : Launch) (D : va_G) (ad : Nat → Nat) (cA : Nat → ClassId) (A TB : Nat) (hA : A ≤ 100000000) (hB : TB ≤ 2000000000) (M : ux_M) (hI : IvM A TB M) (L : Nat) (hL : L ≤ 7) (hlv : M 0 10 = nI L) (cw : Nat) (hcw : M 14 L = nI cw) (hc7 : cw ≤ 7) (hob : M 17 (8 * L + cw) = 0) (an : Nat) (han : M 9 L = nI an) (hanA : an + 2 ≤ A) (hsg : M 0 23 = 0) (ch : Int32) : Met l y_Md_piece w_Md_piece ({ frames := 3, cells := 0, slots := 0, locals := 64 }) (va_Pc [.ref (ad 0), .int ch] (ux_B D shM KM ad cA M)) (va_Qv (fun M1 => IvM A TB M1 ∧ (∀ a b, ¬ (mPi L (8 * L + cw)) a b → M1 a b = M a b) ∧ ((M1 0 23 = 0 ∨ (M1 0 23 = 1 ∧ M1 0 24 = 1)) ∧ (M1 9 L).toInt ≤ (an : Int) + 2)) (ux_E D shM KM ad cA) (ux_A KM ad)) 0 0 (ux_A KM ad) := by
  refine Met.ofW (cc := b_Md_piece) (maxL := 6) (ret := none) (by decide) rfl ?_
  intro p e s m args below meth c s₁ B hml hv
  obtain ⟨rfl, hP, hK, hi, hN⟩ := hv
  have hx := B.exec
  have hb := B.bytes
  have hr := B.returns
  have hts := atoms_spec (ws := w_Md_piece) B.pre
  have hown : s.vm.findClass R_Md = some m.cls := findClass_of_methodNamed B.named
  have hlocks := B.notSynchronized
  have hT : ∀ w ∈ tb, w.before _ s = true := fun w h => hts w (List.mem_cons_of_mem _ h)
  have hS : va_S (ux_A KM ad) s.heap s.heap [] := va_S.rf
  have hl := lv_entry ([.ref (ad 0), .int ch]) (n := 6) (Nat.le_of_ble_eq_true rfl)
  rw [lg_entry_eq]
  generalize (lg_sl ([.ref (ad 0), .int ch]) ++ List.replicate (6 - (lg_sl ([.ref (ad 0), .int ch])).length) Slot.unset).toArray = ls at hl ⊢
  have hl : lv_has ls 6 [(0, .ref (ad 0)), (1, .int ch)] := hl
  have hF : ∀ a b, ¬ (mPi L (8 * L + cw)) a b → M a b = M a b := fun _ _ _ => rfl
  refine lv_aload_n hx hb d_Md_piece_0 rfl (lv_at hl 0 rfl) ?_
  refine ux_calli (va_runV ⟨hx, hb, hml, hown, hts⟩ (s_Md_behind l D ad cA A TB hA hB  M hI L hL (hlv)) (cwV 0 hts (tb_goodV ml_Md_206 im_Md_behind se_Md_behind ii_Md kt_Md_behind) rfl rfl rfl (by decide +kernel) ⟨Nat.le_of_ble_eq_true rfl, Nat.le_of_ble_eq_true rfl⟩) (ux_preV (by decide) rfl rfl hP hK hi hN) rfl rfl hl.1 rfl (lv_room (Nat.le_of_ble_eq_true rfl)) d_Md_piece_1 ⟨Nat.zero_le _, Nat.zero_le _⟩) hS (fun r1 M2 H locs q3 hP hS => ?_)
  obtain ⟨hI, fq3, q3p⟩ := q3
  rw [tN_eq fq3] at hP hI
  obtain ⟨c4, hc4, ec4⟩ := nat_of (x := r1) (n := 65535) (q3p).1 (q3p).2
  subst ec4
  refine lv_istore_n hx hb d_Md_piece_4 rfl hl (by decide) rfl (fun ls hl => ?_)
  have hl : lv_has ls 6 [(2, .int (nI c4)), (0, .ref (ad 0)), (1, .int ch)] := hl
  refine lv_iload_n hx hb d_Md_piece_5 rfl (lv_at hl 2 rfl) ?_
  refine lv_bipush (v := 92) hx hb d_Md_piece_6 (by decide) ?_
  refine lv_icmp_ne hx hb d_Md_piece_8 rfl (fun h5 => ?_) (fun h5 => ?_)
  · have g5 : ¬ (ch.toInt = 92) := fun q => h5 (Int32.toInt_inj.mp q)
    refine lv_iload_n hx hb d_Md_piece_47 rfl (lv_at hl 2 rfl) ?_
    refine lv_bipush (v := 36) hx hb d_Md_piece_48 (by decide) ?_
    refine lv_icmp_ne hx hb d_Md_piece_50 rfl (fun h6 => ?_) (fun h6 => ?_)
    · have g6 : ¬ (ch.toInt = 36) := fun q => h6 (Int32.toInt_inj.mp q)
      refine lv_aload_n hx hb d_Md_piece_168 rfl (lv_at hl 1 rfl) ?_
      refine lv_iload_n hx hb d_Md_piece_169 rfl (lv_at hl 2 rfl) ?_
      refine ux_calli (va_runV ⟨hx, hb, hml, hown, hts⟩ (s_Md_add l D ad cA A TB hA hB  M hI L hL (hlv) cw (hcw) (by omega) (hob) ch) (cwV 1 hts (tb_goodV ml_Md_209 im_Md_add se_Md_add ii_Md kt_Md_add) rfl rfl rfl (by decide +kernel) ⟨Nat.le_of_ble_eq_true rfl, Nat.le_of_ble_eq_true rfl⟩) (ux_preV (by decide) rfl rfl hP hK hi hN) rfl rfl hl.1 rfl (lv_room (Nat.le_of_ble_eq_true rfl)) d_Md_piece_170 ⟨Nat.zero_le _, Nat.zero_le _⟩) hS (fun r7 M8 H locs q9 hP hS => ?_)
      obtain ⟨hI, fq9, q9p⟩ := q9
      have hF := fr_call hF fq9 (fun a b q => by unfold mAd at q; unfold mPi; omega)
      have hr_r7 : ¬ r7.toInt = 0 → r7 = 1 := fun z => by rcases q9p.1 with q | q; exact absurd (by rw [q]; rfl) z; exact q
      have hz_r7 : r7.toInt = 0 → r7 = 0 := fun z => by rcases q9p.1 with q | q; exact q; rw [q] at z; exact absurd z (by decide)
      refine lv_if_eq hx hb d_Md_piece_173 rfl (fun h10 => ?_) (fun h10 => ?_)
      · have g10 : r7.toInt = 0 := congrArg Int32.toInt h10
        exact W.vret hx hb hr (fun t ht hW => ⟨⟨M8, rfl, ⟨hI, hF, ⟨Or.inr (q9p.2.1 (hz_r7 (by omega))), (by rw [(fq9 _ _ (by unfold mAd; omega)).trans (han), nI_toInt (n := an) (by omega)]; omega)⟩⟩, by unfold ux_E; rw [ht]; exact hP⟩, hS.F ht⟩) hS.2.2 d_Md_piece_189
      · have g10 : ¬ (r7.toInt = 0) := fun q => h10 (Int32.toInt_inj.mp q)
        refine lv_aload_n hx hb d_Md_piece_176 rfl (lv_at hl 1 rfl) ?_
        refine ux_get (C := R_Md) (T := F_Md) (N := 50) hx hb hT in_Md hown hK hP (by decide) rfl rfl 11 (by decide) (hT _ fl_Md_40) rfl d_Md_piece_177 ?_
        refine lv_aload_n hx hb d_Md_piece_180 rfl (lv_at hl 1 rfl) ?_
        refine ux_get (C := R_Md) (T := F_Md) (N := 50) hx hb hT in_Md hown hK hP (by decide) rfl rfl 10 (by decide) (hT _ fl_Md_36) rfl d_Md_piece_181 ?_
        refine lv_topi (fun z11 hz11 => ?_)
        rw [show M8 0 10 = nI L from (fq9 _ _ (by unfold mAd; omega)).trans (hlv)] at hz11
        rw [hz11]
        refine lv_dup2_11 hx hb d_Md_piece_184 rfl rfl ?_
        refine ux_iald hx hb hK hP (by decide) rfl (vp_in_nI (show L < 8 by omega) (by decide)) d_Md_piece_185 ?_
        rw [nI_clamp (n := L) (by omega)]
        refine lv_topi (fun z12 hz12 => ?_)
        rw [show M8 9 L = nI an from (fq9 _ _ (by unfold mAd; omega)).trans (han)] at hz12
        rw [hz12]
        refine lv_iconst (v := 1) hx hb d_Md_piece_186 (by decide) ?_
        refine lv_iadd hx hb d_Md_piece_187 ?_
        refine lv_topi (fun z13 hz13 => ?_)
        rw [show (nI an) + (1 : Int32) = nI (an + 1) from nI_add an 1] at hz13
        rw [hz13]
        refine ux_iast hx hb hK hi hP hS (by decide) rfl (vp_in_nI (show L < 8 by omega) (by decide)) d_Md_piece_188 (fun H locs hP hS => ?_)
        rw [nI_clamp (n := L) (by omega)] at hP
        have hI := IvM_wr (k := 9) (j := L) (v := nI (an + 1)) hI (show (0 : Int) ≤ (nI (an + 1) : Int32).toInt from (by rw [nI_toInt (n := an + 1) (by omega)]; omega)) (show (nI (an + 1) : Int32).toInt ≤ (A : Int) from (by rw [nI_toInt (n := an + 1) (by omega)]; omega)) (by unfold okW; omega)
        have hF := fr_wr (k := 9) (j := L) (v := nI (an + 1)) hF (by unfold mPi; omega)
        generalize eM14 : ux_wr M8 9 L (nI (an + 1)) = M14 at hP hI hF
        have tM14 : (M14 9 L).toInt = ((an + 1 : Nat) : Int) := by rw [wr_at eM14]; exact nI_toInt (by omega)
        exact W.vret hx hb hr (fun t ht hW => ⟨⟨M14, rfl, ⟨hI, hF, ⟨Or.inl ((wr_off eM14 (by omega)).trans (((q9p.2.2 (hr_r7 (by omega))).1).trans (hsg))), (by rw [wr_at eM14, nI_toInt (n := an + 1) (by omega)]; omega)⟩⟩, by unfold ux_E; rw [ht]; exact hP⟩, hS.F ht⟩) hS.2.2 d_Md_piece_189
    · have g6 : ch.toInt = 36 := congrArg Int32.toInt h6
      refine lv_iload_n hx hb d_Md_piece_53 rfl (lv_at hl 0 rfl) ?_
      refine lv_bipush (v := 97) hx hb d_Md_piece_54 (by decide) ?_
      refine lv_icmp_lt hx hb d_Md_piece_56 rfl (fun h15 => ?_) (fun h15 => ?_)
      · have g15 : ((c4 : Nat) : Int) < 97 := by have q := Int32.lt_iff_toInt_lt.mp h15; rw [nI_toInt (n := c4) (by omega)] at q; exact q
        refine lv_aload_n hx hb d_Md_piece_168 rfl (lv_at hl 1 rfl) ?_
        refine lv_iload_n hx hb d_Md_piece_169 rfl (lv_at hl 2 rfl) ?_
        refine ux_calli (va_runV ⟨hx, hb, hml, hown, hts⟩ (s_Md_add l D ad cA A TB hA hB  M hI L hL (hlv) cw (hcw) (by omega) (hob) ch) (cwV 1 hts (tb_goodV ml_Md_209 im_Md_add se_Md_add ii_Md kt_Md_add) rfl rfl rfl (by decide +kernel) ⟨Nat.le_of_ble_eq_true rfl, Nat.le_of_ble_eq_true rfl⟩) (ux_preV (by decide) rfl rfl hP hK hi hN) rfl rfl hl.1 rfl (lv_room (Nat.le_of_ble_eq_true rfl)) d_Md_piece_170 ⟨Nat.zero_le _, Nat.zero_le _⟩) hS (fun r16 M17 H locs q18 hP hS => ?_)
        obtain ⟨hI, fq18, q18p⟩ := q18
        have hF := fr_call hF fq18 (fun a b q => by unfold mAd at q; unfold mPi; omega)
        have hr_r16 : ¬ r16.toInt = 0 → r16 = 1 := fun z => by rcases q18p.1 with q | q; exact absurd (by rw [q]; rfl) z; exact q
        have hz_r16 : r16.toInt = 0 → r16 = 0 := fun z => by rcases q18p.1 with q | q; exact q; rw [q] at z; exact absurd z (by decide)
        refine lv_if_eq hx hb d_Md_piece_173 rfl (fun h19 => ?_) (fun h19 => ?_)
        · have g19 : r16.toInt = 0 := congrArg Int32.toInt h19
          exact W.vret hx hb hr (fun t ht hW => ⟨⟨M17, rfl, ⟨hI, hF, ⟨Or.inr (q18p.2.1 (hz_r16 (by omega))), (by rw [(fq18 _ _ (by unfold mAd; omega)).trans (han), nI_toInt (n := an) (by omega)]; omega)⟩⟩, by unfold ux_E; rw [ht]; exact hP⟩, hS.F ht⟩) hS.2.2 d_Md_piece_189
        · have g19 : ¬ (r16.toInt = 0) := fun q => h19 (Int32.toInt_inj.mp q)
          refine lv_aload_n hx hb d_Md_piece_176 rfl (lv_at hl 1 rfl) ?_
          refine ux_get (C := R_Md) (T := F_Md) (N := 50) hx hb hT in_Md hown hK hP (by decide) rfl rfl 11 (by decide) (hT _ fl_Md_40) rfl d_Md_piece_177 ?_
          refine lv_aload_n hx hb d_Md_piece_180 rfl (lv_at hl 1 rfl) ?_
          refine ux_get (C := R_Md) (T := F_Md) (N := 50) hx hb hT in_Md hown hK hP (by decide) rfl rfl 10 (by decide) (hT _ fl_Md_36) rfl d_Md_piece_181 ?_
          refine lv_topi (fun z20 hz20 => ?_)
          rw [show M17 0 10 = nI L from (fq18 _ _ (by unfold mAd; omega)).trans (hlv)] at hz20
          rw [hz20]
          refine lv_dup2_11 hx hb d_Md_piece_184 rfl rfl ?_
          refine ux_iald hx hb hK hP (by decide) rfl (vp_in_nI (show L < 8 by omega) (by decide)) d_Md_piece_185 ?_
          rw [nI_clamp (n := L) (by omega)]
          refine lv_topi (fun z21 hz21 => ?_)
          rw [show M17 9 L = nI an from (fq18 _ _ (by unfold mAd; omega)).trans (han)] at hz21
          rw [hz21]
          refine lv_iconst (v := 1) hx hb d_Md_piece_186 (by decide) ?_
          refine lv_iadd hx hb d_Md_piece_187 ?_
          refine lv_topi (fun z22 hz22 => ?_)
          rw [show (nI an) + (1 : Int32) = nI (an + 1) from nI_add an 1] at hz22
          rw [hz22]
          refine ux_iast hx hb hK hi hP hS (by decide) rfl (vp_in_nI (show L < 8 by omega) (by decide)) d_Md_piece_188 (fun H locs hP hS => ?_)
          rw [nI_clamp (n := L) (by omega)] at hP
          have hI := IvM_wr (k := 9) (j := L) (v := nI (an + 1)) hI (show (0 : Int) ≤ (nI (an + 1) : Int32).toInt from (by rw [nI_toInt (n := an + 1) (by omega)]; omega)) (show (nI (an + 1) : Int32).toInt ≤ (A : Int) from (by rw [nI_toInt (n := an + 1) (by omega)]; omega)) (by unfold okW; omega)
          have hF := fr_wr (k := 9) (j := L) (v := nI (an + 1)) hF (by unfold mPi; omega)
          generalize eM23 : ux_wr M17 9 L (nI (an + 1)) = M23 at hP hI hF
          have tM23 : (M23 9 L).toInt = ((an + 1 : Nat) : Int) := by rw [wr_at eM23]; exact nI_toInt (by omega)
          exact W.vret hx hb hr (fun t ht hW => ⟨⟨M23, rfl, ⟨hI, hF, ⟨Or.inl ((wr_off eM23 (by omega)).trans (((q18p.2.2 (hr_r16 (by omega))).1).trans (hsg))), (by rw [wr_at eM23, nI_toInt (n := an + 1) (by omega)]; omega)⟩⟩, by unfold ux_E; rw [ht]; exact hP⟩, hS.F ht⟩) hS.2.2 d_Md_piece_189
      · have g15 : ¬ (((c4 : Nat) : Int) < 97) := fun q => h15 (Int32.lt_iff_toInt_lt.mpr (by rw [nI_toInt (n := c4) (by omega)]; exact q))
        refine lv_iload_n hx hb d_Md_piece_59 rfl (lv_at hl 0 rfl) ?_
        refine lv_bipush (v := 122) hx hb d_Md_piece_60 (by decide) ?_
        refine lv_icmp_gt hx hb d_Md_piece_62 rfl (fun h24 => ?_) (fun h24 => ?_)
        · have g24 : 122 < ((c4 : Nat) : Int) := by have q := Int32.lt_iff_toInt_lt.mp h24; rw [nI_toInt (n := c4) (by omega)] at q; exact q
          refine lv_aload_n hx hb d_Md_piece_168 rfl (lv_at hl 1 rfl) ?_
          refine lv_iload_n hx hb d_Md_piece_169 rfl (lv_at hl 2 rfl) ?_
          refine ux_calli (va_runV ⟨hx, hb, hml, hown, hts⟩ (s_Md_add l D ad cA A TB hA hB  M hI L hL (hlv) cw (hcw) (by omega) (hob) ch) (cwV 1 hts (tb_goodV ml_Md_209 im_Md_add se_Md_add ii_Md kt_Md_add) rfl rfl rfl (by decide +kernel) ⟨Nat.le_of_ble_eq_true rfl, Nat.le_of_ble_eq_true rfl⟩) (ux_preV (by decide) rfl rfl hP hK hi hN) rfl rfl hl.1 rfl (lv_room (Nat.le_of_ble_eq_true rfl)) d_Md_piece_170 ⟨Nat.zero_le _, Nat.zero_le _⟩) hS (fun r25 M26 H locs q27 hP hS => ?_)
          obtain ⟨hI, fq27, q27p⟩ := q27
          have hF := fr_call hF fq27 (fun a b q => by unfold mAd at q; unfold mPi; omega)
          have hr_r25 : ¬ r25.toInt = 0 → r25 = 1 := fun z => by rcases q27p.1 with q | q; exact absurd (by rw [q]; rfl) z; exact q
          have hz_r25 : r25.toInt = 0 → r25 = 0 := fun z => by rcases q27p.1 with q | q; exact q; rw [q] at z; exact absurd z (by decide)
          refine lv_if_eq hx hb d_Md_piece_173 rfl (fun h28 => ?_) (fun h28 => ?_)
          · have g28 : r25.toInt = 0 := congrArg Int32.toInt h28
            exact W.vret hx hb hr (fun t ht hW => ⟨⟨M26, rfl, ⟨hI, hF, ⟨Or.inr (q27p.2.1 (hz_r25 (by omega))), (by rw [(fq27 _ _ (by unfold mAd; omega)).trans (han), nI_toInt (n := an) (by omega)]; omega)⟩⟩, by unfold ux_E; rw [ht]; exact hP⟩, hS.F ht⟩) hS.2.2 d_Md_piece_189
          · have g28 : ¬ (r25.toInt = 0) := fun q => h28 (Int32.toInt_inj.mp q)
            refine lv_aload_n hx hb d_Md_piece_176 rfl (lv_at hl 1 rfl) ?_
            refine ux_get (C := R_Md) (T := F_Md) (N := 50) hx hb hT in_Md hown hK hP (by decide) rfl rfl 11 (by decide) (hT _ fl_Md_40) rfl d_Md_piece_177 ?_
            refine lv_aload_n hx hb d_Md_piece_180 rfl (lv_at hl 1 rfl) ?_
            refine ux_get (C := R_Md) (T := F_Md) (N := 50) hx hb hT in_Md hown hK hP (by decide) rfl rfl 10 (by decide) (hT _ fl_Md_36) rfl d_Md_piece_181 ?_
            refine lv_topi (fun z29 hz29 => ?_)
            rw [show M26 0 10 = nI L from (fq27 _ _ (by unfold mAd; omega)).trans (hlv)] at hz29
            rw [hz29]
            refine lv_dup2_11 hx hb d_Md_piece_184 rfl rfl ?_
            refine ux_iald hx hb hK hP (by decide) rfl (vp_in_nI (show L < 8 by omega) (by decide)) d_Md_piece_185 ?_
            rw [nI_clamp (n := L) (by omega)]
            refine lv_topi (fun z30 hz30 => ?_)
            rw [show M26 9 L = nI an from (fq27 _ _ (by unfold mAd; omega)).trans (han)] at hz30
            rw [hz30]
            refine lv_iconst (v := 1) hx hb d_Md_piece_186 (by decide) ?_
            refine lv_iadd hx hb d_Md_piece_187 ?_
            refine lv_topi (fun z31 hz31 => ?_)
            rw [show (nI an) + (1 : Int32) = nI (an + 1) from nI_add an 1] at hz31
            rw [hz31]
            refine ux_iast hx hb hK hi hP hS (by decide) rfl (vp_in_nI (show L < 8 by omega) (by decide)) d_Md_piece_188 (fun H locs hP hS => ?_)
            rw [nI_clamp (n := L) (by omega)] at hP
            have hI := IvM_wr (k := 9) (j := L) (v := nI (an + 1)) hI (show (0 : Int) ≤ (nI (an + 1) : Int32).toInt from (by rw [nI_toInt (n := an + 1) (by omega)]; omega)) (show (nI (an + 1) : Int32).toInt ≤ (A : Int) from (by rw [nI_toInt (n := an + 1) (by omega)]; omega)) (by unfold okW; omega)
            have hF := fr_wr (k := 9) (j := L) (v := nI (an + 1)) hF (by unfold mPi; omega)
            generalize eM32 : ux_wr M26 9 L (nI (an + 1)) = M32 at hP hI hF
            have tM32 : (M32 9 L).toInt = ((an + 1 : Nat) : Int) := by rw [wr_at eM32]; exact nI_toInt (by omega)
            exact W.vret hx hb hr (fun t ht hW => ⟨⟨M32, rfl, ⟨hI, hF, ⟨Or.inl ((wr_off eM32 (by omega)).trans (((q27p.2.2 (hr_r25 (by omega))).1).trans (hsg))), (by rw [wr_at eM32, nI_toInt (n := an + 1) (by omega)]; omega)⟩⟩, by unfold ux_E; rw [ht]; exact hP⟩, hS.F ht⟩) hS.2.2 d_Md_piece_189
        · have g24 : ¬ (122 < ((c4 : Nat) : Int)) := fun q => h24 (Int32.lt_iff_toInt_lt.mpr (by rw [nI_toInt (n := c4) (by omega)]; exact q))
          refine lv_aload_n hx hb d_Md_piece_65 rfl (lv_at hl 1 rfl) ?_
          refine lv_iload_n hx hb d_Md_piece_66 rfl (lv_at hl 0 rfl) ?_
          refine lv_bipush (v := 97) hx hb d_Md_piece_67 (by decide) ?_
          refine lv_isub hx hb d_Md_piece_69 ?_
          refine lv_topi (fun x33 ex33 => ?_)
          try have fx33 : x33.toInt = ((c4 : Nat) : Int) - 97 := by rw [ex33, ti_sub (by (rw [nI_toInt (n := c4) (by omega)]); (try rw [show (97 : Int32).toInt = 97 from rfl]); omega) (by (rw [nI_toInt (n := c4) (by omega)]); (try rw [show (97 : Int32).toInt = 97 from rfl]); omega)]; (rw [nI_toInt (n := c4) (by omega)]); (try rw [show (97 : Int32).toInt = 97 from rfl]); first | done | rfl | omega
          obtain ⟨q22, hq22, eq22⟩ := nat_of (x := x33) (n := 25) (by omega) (by omega)
          subst eq22
          refine ux_calli (va_runV ⟨hx, hb, hml, hown, hts⟩ (s_Md_variable l D ad cA A TB hA hB  M hI L hL (hlv) q22 (by omega)) (cwV 1 hts (tb_goodV ml_Md_213 im_Md_variable se_Md_variable ii_Md kt_Md_variable) rfl rfl rfl (by decide +kernel) ⟨Nat.le_of_ble_eq_true rfl, Nat.le_of_ble_eq_true rfl⟩) (ux_preV (by decide) rfl rfl hP hK hi hN) rfl rfl hl.1 rfl (lv_room (Nat.le_of_ble_eq_true rfl)) d_Md_piece_70 ⟨Nat.zero_le _, Nat.zero_le _⟩) hS (fun r34 M35 H locs q36 hP hS => ?_)
          obtain ⟨hI, fq36, q36p⟩ := q36
          rw [tN_eq fq36] at hP hI
          obtain ⟨c37, hc37, ec37⟩ := nat_of (x := r34) (n := 207) (q36p).1 (q36p).2
          subst ec37
          refine lv_istore_n hx hb d_Md_piece_73 rfl hl (by decide) rfl (fun ls hl => ?_)
          have hl : lv_has ls 6 [(3, .int (nI c37)), (2, .int (nI c4)), (0, .ref (ad 0)), (1, .int ch)] := hl
          have cut107 : ∀ (nn : Nat) (i_4 : Int32) (k3 k5 : Nat) (Mc107 : ux_M) (H : Heap) (locs : List Loc) (ls : Array Slot), 20 - k5 = nn → (k3 ≤ 207) → (k5 ≤ 20) → (Mc107 9 L = nI an) → ((i_4 = 1 ∧ Mc107 0 23 = 0) ∨ (i_4 = 0 ∧ Mc107 0 23 = 1 ∧ Mc107 0 24 = 1)) → va_P D classes (ux_w shM KM ad cA Mc107) H → IvM A TB Mc107 → (∀ a b, ¬ (mPi L (8 * L + cw)) a b → Mc107 a b = M a b) → va_S (ux_A KM ad) s.heap H locs → lv_has ls 6 [(0, .ref (ad 0)), (3, .int (nI k3)), (4, .int i_4), (5, .int (nI k5))] → W p l e (headSpec w_Md_piece ({ frames := 3, cells := 0, slots := 0, locals := 64 })).room s m (([.ref (ad 0), .int ch] : List Value).toArray) below meth c H locs 0 0 (MQ below (va_Qv (fun M1 => IvM A TB M1 ∧ (∀ a b, ¬ (mPi L (8 * L + cw)) a b → M1 a b = M a b) ∧ ((M1 0 23 = 0 ∨ (M1 0 23 = 1 ∧ M1 0 24 = 1)) ∧ (M1 9 L).toInt ≤ (an : Int) + 2)) (ux_E D shM KM ad cA) (ux_A KM ad)) (([.ref (ad 0), .int ch] : List Value).toArray) s 0 0 (ux_A KM ad)) (F0 m 107 ls []) := by
            intro nn
            induction nn using Nat.strongRecOn with
            | ind nn ih107 =>
              intro i_4 k3 k5 Mc107 H locs ls hn c107_0 c107_1 c107_2 c107_3 hP hI hF hS hl
              have hk1 : Mc107 14 L = nI cw := (hF _ _ (by unfold mPi; omega)).trans hcw
              have hk2 : Mc107 17 (8 * L + cw) = 0 := (hF _ _ (by unfold mPi; omega)).trans hob
              have hk3 : Mc107 0 10 = nI L := (hF _ _ (by unfold mPi; omega)).trans hlv
              refine lv_iload hx hb d_Md_piece_107 (lv_at hl 3 rfl) ?_
              refine lv_aload_n hx hb d_Md_piece_109 rfl (lv_at hl 0 rfl) ?_
              refine ux_get (C := R_Md) (T := F_Md) (N := 50) hx hb hT in_Md hown hK hP (by decide) rfl rfl 3 (by decide) (hT _ fl_Md_13) rfl d_Md_piece_110 ?_
              refine lv_iload_n hx hb d_Md_piece_113 rfl (lv_at hl 1 rfl) ?_
              refine ux_iald hx hb hK hP (by decide) rfl (vp_in_nI (show k3 < 208 by omega) (by decide)) d_Md_piece_114 ?_
              rw [nI_clamp (n := k3) (by omega)]
              have b38 : (-1 : Int) ≤ (Mc107 2 k3).toInt ∧ (Mc107 2 k3).toInt ≤ 20 := hI.1 2 k3
              refine lv_icmp_ge hx hb d_Md_piece_115 rfl (fun h39 => ?_) (fun h39 => ?_)
              · have g39 : (Mc107 2 k3).toInt ≤ ((k5 : Nat) : Int) := by have q := Int32.le_iff_toInt_le.mp h39; rw [nI_toInt (n := k5) (by omega)] at q; exact q
                have w39 := ti_lo (Mc107 2 k3)
                refine lv_iload hx hb d_Md_piece_147 (lv_at hl 2 rfl) ?_
                refine lv_if_eq hx hb d_Md_piece_149 rfl (fun h40 => ?_) (fun h40 => ?_)
                · have g40 : i_4.toInt = 0 := congrArg Int32.toInt h40
                  refine lv_goto hx hb d_Md_piece_165 rfl ?_
                  exact W.vret hx hb hr (fun t ht hW => ⟨⟨Mc107, rfl, ⟨hI, hF, ⟨Or.inr (by rcases c107_3 with z | z; exact absurd (congrArg Int32.toInt z.1) (by rw [show (1 : Int32).toInt = 1 from rfl]; omega); exact z.2), (by rw [c107_2, nI_toInt (n := an) (by omega)]; omega)⟩⟩, by unfold ux_E; rw [ht]; exact hP⟩, hS.F ht⟩) hS.2.2 d_Md_piece_189
                · have g40 : ¬ (i_4.toInt = 0) := fun q => h40 (Int32.toInt_inj.mp q)
                  refine lv_aload_n hx hb d_Md_piece_152 rfl (lv_at hl 0 rfl) ?_
                  refine ux_get (C := R_Md) (T := F_Md) (N := 50) hx hb hT in_Md hown hK hP (by decide) rfl rfl 11 (by decide) (hT _ fl_Md_40) rfl d_Md_piece_153 ?_
                  refine lv_aload_n hx hb d_Md_piece_156 rfl (lv_at hl 0 rfl) ?_
                  refine ux_get (C := R_Md) (T := F_Md) (N := 50) hx hb hT in_Md hown hK hP (by decide) rfl rfl 10 (by decide) (hT _ fl_Md_36) rfl d_Md_piece_157 ?_
                  refine lv_topi (fun z41 hz41 => ?_)
                  rw [show Mc107 0 10 = nI L from hk3] at hz41
                  rw [hz41]
                  refine lv_dup2_11 hx hb d_Md_piece_160 rfl rfl ?_
                  refine ux_iald hx hb hK hP (by decide) rfl (vp_in_nI (show L < 8 by omega) (by decide)) d_Md_piece_161 ?_
                  rw [nI_clamp (n := L) (by omega)]
                  refine lv_topi (fun z42 hz42 => ?_)
                  rw [show Mc107 9 L = nI an from c107_2] at hz42
                  rw [hz42]
                  refine lv_iconst (v := 2) hx hb d_Md_piece_162 (by decide) ?_
                  refine lv_iadd hx hb d_Md_piece_163 ?_
                  refine lv_topi (fun z43 hz43 => ?_)
                  rw [show (nI an) + (2 : Int32) = nI (an + 2) from nI_add an 2] at hz43
                  rw [hz43]
                  refine ux_iast hx hb hK hi hP hS (by decide) rfl (vp_in_nI (show L < 8 by omega) (by decide)) d_Md_piece_164 (fun H locs hP hS => ?_)
                  rw [nI_clamp (n := L) (by omega)] at hP
                  have hI := IvM_wr (k := 9) (j := L) (v := nI (an + 2)) hI (show (0 : Int) ≤ (nI (an + 2) : Int32).toInt from (by rw [nI_toInt (n := an + 2) (by omega)]; omega)) (show (nI (an + 2) : Int32).toInt ≤ (A : Int) from (by rw [nI_toInt (n := an + 2) (by omega)]; omega)) (by unfold okW; omega)
                  have hF := fr_wr (k := 9) (j := L) (v := nI (an + 2)) hF (by unfold mPi; omega)
                  generalize eM44 : ux_wr Mc107 9 L (nI (an + 2)) = M44 at hP hI hF
                  have tM44 : (M44 9 L).toInt = ((an + 2 : Nat) : Int) := by rw [wr_at eM44]; exact nI_toInt (by omega)
                  refine lv_goto hx hb d_Md_piece_165 rfl ?_
                  exact W.vret hx hb hr (fun t ht hW => ⟨⟨M44, rfl, ⟨hI, hF, ⟨Or.inl ((wr_off eM44 (by omega)).trans (by rcases c107_3 with z | z; exact z.2; exact absurd (congrArg Int32.toInt z.1) (by rw [show (0 : Int32).toInt = 0 from rfl]; omega))), (by rw [wr_at eM44, nI_toInt (n := an + 2) (by omega)]; omega)⟩⟩, by unfold ux_E; rw [ht]; exact hP⟩, hS.F ht⟩) hS.2.2 d_Md_piece_189
              · have g39 : ¬ ((Mc107 2 k3).toInt ≤ ((k5 : Nat) : Int)) := fun q => h39 (Int32.le_iff_toInt_le.mpr (by rw [nI_toInt (n := k5) (by omega)]; exact q))
                have u39 := ti_hi (Mc107 2 k3)
                refine lv_iload hx hb d_Md_piece_118 (lv_at hl 2 rfl) ?_
                refine lv_if_eq hx hb d_Md_piece_120 rfl (fun h45 => ?_) (fun h45 => ?_)
                · have g45 : i_4.toInt = 0 := congrArg Int32.toInt h45
                  refine lv_iload hx hb d_Md_piece_147 (lv_at hl 2 rfl) ?_
                  refine lv_if_eq hx hb d_Md_piece_149 rfl (fun h46 => ?_) (fun h46 => ?_)
                  · have g46 : i_4.toInt = 0 := congrArg Int32.toInt h46
                    refine lv_goto hx hb d_Md_piece_165 rfl ?_
                    exact W.vret hx hb hr (fun t ht hW => ⟨⟨Mc107, rfl, ⟨hI, hF, ⟨Or.inr (by rcases c107_3 with z | z; exact absurd (congrArg Int32.toInt z.1) (by rw [show (1 : Int32).toInt = 1 from rfl]; omega); exact z.2), (by rw [c107_2, nI_toInt (n := an) (by omega)]; omega)⟩⟩, by unfold ux_E; rw [ht]; exact hP⟩, hS.F ht⟩) hS.2.2 d_Md_piece_189
                  · have g46 : ¬ (i_4.toInt = 0) := fun q => h46 (Int32.toInt_inj.mp q)
                    refine lv_aload_n hx hb d_Md_piece_152 rfl (lv_at hl 0 rfl) ?_
                    refine ux_get (C := R_Md) (T := F_Md) (N := 50) hx hb hT in_Md hown hK hP (by decide) rfl rfl 11 (by decide) (hT _ fl_Md_40) rfl d_Md_piece_153 ?_
                    refine lv_aload_n hx hb d_Md_piece_156 rfl (lv_at hl 0 rfl) ?_
                    refine ux_get (C := R_Md) (T := F_Md) (N := 50) hx hb hT in_Md hown hK hP (by decide) rfl rfl 10 (by decide) (hT _ fl_Md_36) rfl d_Md_piece_157 ?_
                    refine lv_topi (fun z47 hz47 => ?_)
                    rw [show Mc107 0 10 = nI L from hk3] at hz47
                    rw [hz47]
                    refine lv_dup2_11 hx hb d_Md_piece_160 rfl rfl ?_
                    refine ux_iald hx hb hK hP (by decide) rfl (vp_in_nI (show L < 8 by omega) (by decide)) d_Md_piece_161 ?_
                    rw [nI_clamp (n := L) (by omega)]
                    refine lv_topi (fun z48 hz48 => ?_)
                    rw [show Mc107 9 L = nI an from c107_2] at hz48
                    rw [hz48]
                    refine lv_iconst (v := 2) hx hb d_Md_piece_162 (by decide) ?_
                    refine lv_iadd hx hb d_Md_piece_163 ?_
                    refine lv_topi (fun z49 hz49 => ?_)
                    rw [show (nI an) + (2 : Int32) = nI (an + 2) from nI_add an 2] at hz49
                    rw [hz49]
                    refine ux_iast hx hb hK hi hP hS (by decide) rfl (vp_in_nI (show L < 8 by omega) (by decide)) d_Md_piece_164 (fun H locs hP hS => ?_)
                    rw [nI_clamp (n := L) (by omega)] at hP
                    have hI := IvM_wr (k := 9) (j := L) (v := nI (an + 2)) hI (show (0 : Int) ≤ (nI (an + 2) : Int32).toInt from (by rw [nI_toInt (n := an + 2) (by omega)]; omega)) (show (nI (an + 2) : Int32).toInt ≤ (A : Int) from (by rw [nI_toInt (n := an + 2) (by omega)]; omega)) (by unfold okW; omega)
                    have hF := fr_wr (k := 9) (j := L) (v := nI (an + 2)) hF (by unfold mPi; omega)
                    generalize eM50 : ux_wr Mc107 9 L (nI (an + 2)) = M50 at hP hI hF
                    have tM50 : (M50 9 L).toInt = ((an + 2 : Nat) : Int) := by rw [wr_at eM50]; exact nI_toInt (by omega)
                    refine lv_goto hx hb d_Md_piece_165 rfl ?_
                    exact W.vret hx hb hr (fun t ht hW => ⟨⟨M50, rfl, ⟨hI, hF, ⟨Or.inl ((wr_off eM50 (by omega)).trans (by rcases c107_3 with z | z; exact z.2; exact absurd (congrArg Int32.toInt z.1) (by rw [show (0 : Int32).toInt = 0 from rfl]; omega))), (by rw [wr_at eM50, nI_toInt (n := an + 2) (by omega)]; omega)⟩⟩, by unfold ux_E; rw [ht]; exact hP⟩, hS.F ht⟩) hS.2.2 d_Md_piece_189
                · have g45 : ¬ (i_4.toInt = 0) := fun q => h45 (Int32.toInt_inj.mp q)
                  have hs7 : Mc107 0 23 = 0 := by rcases c107_3 with z | z; exact z.2; exact absurd (congrArg Int32.toInt z.1) (by rw [show (0 : Int32).toInt = 0 from rfl]; omega)
                  refine lv_aload_n hx hb d_Md_piece_123 rfl (lv_at hl 0 rfl) ?_
                  refine lv_aload_n hx hb d_Md_piece_124 rfl (lv_at hl 0 rfl) ?_
                  refine ux_get (C := R_Md) (T := F_Md) (N := 50) hx hb hT in_Md hown hK hP (by decide) rfl rfl 4 (by decide) (hT _ fl_Md_17) rfl d_Md_piece_125 ?_
                  refine lv_bipush (v := 20) hx hb d_Md_piece_128 (by decide) ?_
                  refine lv_iload_n hx hb d_Md_piece_130 rfl (lv_at hl 1 rfl) ?_
                  refine lv_imul hx hb d_Md_piece_131 ?_
                  refine lv_topi (fun z51 hz51 => ?_)
                  rw [show (20 : Int32) * (nI k3) = nI (20 * k3) from pk_mul 20 k3] at hz51
                  rw [hz51]
                  refine lv_iload hx hb d_Md_piece_132 (lv_at hl 3 rfl) ?_
                  refine lv_iadd hx hb d_Md_piece_134 ?_
                  refine lv_topi (fun z52 hz52 => ?_)
                  rw [show (nI (20 * k3)) + (nI k5) = nI ((20 * k3) + k5) from nI_add (20 * k3) k5] at hz52
                  rw [hz52]
                  refine ux_cald hx hb hK hP (by decide) rfl (vp_in_nI (show (20 * k3) + k5 < 4160 by omega) (by decide)) d_Md_piece_135 ?_
                  rw [nI_clamp (n := (20 * k3) + k5) (by omega)]
                  refine lv_topi (fun z54 hz54 => ?_)
                  obtain ⟨c53, hc53, ec53⟩ := nat_of (x := Mc107 3 ((20 * k3) + k5)) (n := 65535) (hI.1 3 ((20 * k3) + k5)).1 (hI.1 3 ((20 * k3) + k5)).2
                  rw [ec53] at hz54
                  rw [hz54]
                  have tc53 : (Mc107 3 ((20 * k3) + k5)).toInt = (c53 : Int) := by rw [ec53]; exact nI_toInt (by omega)
                  refine ux_calli (va_runV ⟨hx, hb, hml, hown, hts⟩ (s_Md_add l D ad cA A TB hA hB  Mc107 hI L hL ((hF _ _ (by unfold mPi; omega)).trans hlv) cw (hk1) (by omega) (hk2) (nI c53)) (cwV 1 hts (tb_goodV ml_Md_209 im_Md_add se_Md_add ii_Md kt_Md_add) rfl rfl rfl (by decide +kernel) ⟨Nat.le_of_ble_eq_true rfl, Nat.le_of_ble_eq_true rfl⟩) (ux_preV (by decide) rfl rfl hP hK hi hN) rfl rfl hl.1 rfl (lv_room (Nat.le_of_ble_eq_true rfl)) d_Md_piece_136 ⟨Nat.zero_le _, Nat.zero_le _⟩) hS (fun r55 M56 H locs q57 hP hS => ?_)
                  obtain ⟨hI, fq57, q57p⟩ := q57
                  have hF := fr_call hF fq57 (fun a b q => by unfold mAd at q; unfold mPi; omega)
                  have hr_r55 : ¬ r55.toInt = 0 → r55 = 1 := fun z => by rcases q57p.1 with q | q; exact absurd (by rw [q]; rfl) z; exact q
                  have hz_r55 : r55.toInt = 0 → r55 = 0 := fun z => by rcases q57p.1 with q | q; exact q; rw [q] at z; exact absurd z (by decide)
                  refine lv_istore hx hb d_Md_piece_139 hl (by decide) rfl (fun ls hl => ?_)
                  have hl : lv_has ls 6 [(4, .int r55), (0, .ref (ad 0)), (3, .int (nI k3)), (5, .int (nI k5))] := hl
                  refine lv_iinc (k := 3) (v := nI (k5 + 1)) hx hb d_Md_piece_141 hl rfl (nI_add k5 1) (by decide) rfl (fun ls hl => ?_)
                  have hl : lv_has ls 6 [(5, .int (nI (k5 + 1))), (4, .int r55), (0, .ref (ad 0)), (3, .int (nI k3))] := hl
                  refine lv_goto hx hb d_Md_piece_144 rfl ?_
                  exact ih107 (20 - (k5 + 1)) (by omega) r55 k3 (k5 + 1) M56 _ _ ls rfl (show k3 ≤ 207 from by first | omega | assumption | exact Or.inl rfl | exact Or.inr rfl | rfl | decide) (show (k5 + 1) ≤ 20 from by first | omega | assumption | exact Or.inl rfl | exact Or.inr rfl | rfl | decide) (show M56 9 L = nI an from by first | exact (fq57 _ _ (by unfold mAd; omega)).trans (c107_2)) (show (r55 = 1 ∧ M56 0 23 = 0) ∨ (r55 = 0 ∧ M56 0 23 = 1 ∧ M56 0 24 = 1) from by first | (rcases q57p.1 with q | q; exact Or.inr ⟨q, q57p.2.1 q⟩; exact Or.inl ⟨q, (q57p.2.2 q).1.trans hs7⟩)) hP hI hF hS (lv_sub hl [2, 3, 1, 0] rfl)
          refine lv_aload_n hx hb d_Md_piece_74 rfl (lv_at hl 2 rfl) ?_
          refine ux_get (C := R_Md) (T := F_Md) (N := 50) hx hb hT in_Md hown hK hP (by decide) rfl rfl 3 (by decide) (hT _ fl_Md_13) rfl d_Md_piece_75 ?_
          refine lv_iload_n hx hb d_Md_piece_78 rfl (lv_at hl 0 rfl) ?_
          refine ux_iald hx hb hK hP (by decide) rfl (vp_in_nI (show c37 < 208 by omega) (by decide)) d_Md_piece_79 ?_
          rw [nI_clamp (n := c37) (by omega)]
          have b58 : (-1 : Int) ≤ (M 2 c37).toInt ∧ (M 2 c37).toInt ≤ 20 := hI.1 2 c37
          refine lv_if_ge hx hb d_Md_piece_80 rfl (fun h59 => ?_) (fun h59 => ?_)
          · have g59 : 0 ≤ (M 2 c37).toInt := Int32.le_iff_toInt_le.mp h59
            have u59 := ti_hi (M 2 c37)
            refine lv_aload_n hx hb d_Md_piece_88 rfl (lv_at hl 2 rfl) ?_
            refine ux_get (C := R_Md) (T := F_Md) (N := 50) hx hb hT in_Md hown hK hP (by decide) rfl rfl 3 (by decide) (hT _ fl_Md_13) rfl d_Md_piece_89 ?_
            refine lv_iload_n hx hb d_Md_piece_92 rfl (lv_at hl 0 rfl) ?_
            refine ux_iald hx hb hK hP (by decide) rfl (vp_in_nI (show c37 < 208 by omega) (by decide)) d_Md_piece_93 ?_
            rw [nI_clamp (n := c37) (by omega)]
            have b60 : (-1 : Int) ≤ (M 2 c37).toInt ∧ (M 2 c37).toInt ≤ 20 := hI.1 2 c37
            refine lv_if_lt hx hb d_Md_piece_94 rfl (fun h61 => ?_) (fun h61 => ?_)
            · have g61 : (M 2 c37).toInt < 0 := Int32.lt_iff_toInt_lt.mp h61
              have w61 := ti_lo (M 2 c37)
              refine lv_iconst (v := 0) hx hb d_Md_piece_101 (by decide) ?_
              refine lv_istore hx hb d_Md_piece_102 hl (by decide) rfl (fun ls hl => ?_)
              have hl : lv_has ls 6 [(4, .int 0), (3, .int (nI c37)), (2, .int (nI c4)), (0, .ref (ad 0)), (1, .int ch)] := hl
              refine lv_iconst (v := 0) hx hb d_Md_piece_104 (by decide) ?_
              refine lv_istore hx hb d_Md_piece_105 hl (by decide) rfl (fun ls hl => ?_)
              have hl : lv_has ls 6 [(5, .int 0), (4, .int 0), (3, .int (nI c37)), (2, .int (nI c4)), (0, .ref (ad 0)), (1, .int ch)] := hl
              exact cut107 (20 - 0) 0 c37 0 M _ _ ls rfl (show c37 ≤ 207 from by first | omega | assumption | exact Or.inl rfl | exact Or.inr rfl | rfl | decide) (show 0 ≤ 20 from by first | omega | assumption | exact Or.inl rfl | exact Or.inr rfl | rfl | decide) (show M 9 L = nI an from by first | exact han) (show ((0 : Int32) = 1 ∧ M 0 23 = 0) ∨ ((0 : Int32) = 0 ∧ M 0 23 = 1 ∧ M 0 24 = 1) from by first | exact Or.inl ⟨rfl, hsg⟩ | (exfalso; omega)) hP hI hF hS (lv_sub hl [4, 2, 1, 0] rfl)
            · have g61 : ¬ ((M 2 c37).toInt < 0) := fun q => h61 (Int32.lt_iff_toInt_lt.mpr q)
              have u61 := ti_hi (M 2 c37)
              refine lv_iconst (v := 1) hx hb d_Md_piece_97 (by decide) ?_
              refine lv_goto hx hb d_Md_piece_98 rfl ?_
              refine lv_istore hx hb d_Md_piece_102 hl (by decide) rfl (fun ls hl => ?_)
              have hl : lv_has ls 6 [(4, .int 1), (3, .int (nI c37)), (2, .int (nI c4)), (0, .ref (ad 0)), (1, .int ch)] := hl
              refine lv_iconst (v := 0) hx hb d_Md_piece_104 (by decide) ?_
              refine lv_istore hx hb d_Md_piece_105 hl (by decide) rfl (fun ls hl => ?_)
              have hl : lv_has ls 6 [(5, .int 0), (4, .int 1), (3, .int (nI c37)), (2, .int (nI c4)), (0, .ref (ad 0)), (1, .int ch)] := hl
              exact cut107 (20 - 0) 1 c37 0 M _ _ ls rfl (show c37 ≤ 207 from by first | omega | assumption | exact Or.inl rfl | exact Or.inr rfl | rfl | decide) (show 0 ≤ 20 from by first | omega | assumption | exact Or.inl rfl | exact Or.inr rfl | rfl | decide) (show M 9 L = nI an from by first | exact han) (show ((1 : Int32) = 1 ∧ M 0 23 = 0) ∨ ((1 : Int32) = 0 ∧ M 0 23 = 1 ∧ M 0 24 = 1) from by first | exact Or.inl ⟨rfl, hsg⟩ | (exfalso; omega)) hP hI hF hS (lv_sub hl [4, 2, 1, 0] rfl)
          · have g59 : ¬ (0 ≤ (M 2 c37).toInt) := fun q => h59 (Int32.le_iff_toInt_le.mpr q)
            have w59 := ti_lo (M 2 c37)
            refine lv_aload_n hx hb d_Md_piece_83 rfl (lv_at hl 2 rfl) ?_
            refine lv_iconst (v := 4) hx hb d_Md_piece_84 (by decide) ?_
            refine ux_callv (va_runV ⟨hx, hb, hml, hown, hts⟩ (s_Md_error l D ad cA A TB hA hB  M hI 4) (cwV 1 hts (tb_goodV ml_Md_166 im_Md_error se_Md_error ii_Md kt_Md_error) rfl rfl rfl (by decide +kernel) ⟨Nat.le_of_ble_eq_true rfl, Nat.le_of_ble_eq_true rfl⟩) (ux_preV (by decide) rfl rfl hP hK hi hN) rfl rfl hl.1 rfl (lv_room (Nat.le_of_ble_eq_true rfl)) d_Md_piece_85 ⟨Nat.zero_le _, Nat.zero_le _⟩) hS (fun M63 H locs q64 hP hS => ?_)
            obtain ⟨hI, fq64, q64p⟩ := q64
            have hF := fr_call hF fq64 (fun a b q => by unfold mEr at q; unfold mPi; omega)
            refine lv_aload_n hx hb d_Md_piece_88 rfl (lv_at hl 2 rfl) ?_
            refine ux_get (C := R_Md) (T := F_Md) (N := 50) hx hb hT in_Md hown hK hP (by decide) rfl rfl 3 (by decide) (hT _ fl_Md_13) rfl d_Md_piece_89 ?_
            refine lv_iload_n hx hb d_Md_piece_92 rfl (lv_at hl 0 rfl) ?_
            refine ux_iald hx hb hK hP (by decide) rfl (vp_in_nI (show c37 < 208 by omega) (by decide)) d_Md_piece_93 ?_
            rw [nI_clamp (n := c37) (by omega)]
            refine lv_topi (fun z65 hz65 => ?_)
            rw [show M63 2 c37 = M 2 c37 from fq64 _ _ (by unfold mEr; omega)] at hz65
            rw [hz65]
            refine lv_if_lt hx hb d_Md_piece_94 rfl (fun h66 => ?_) (fun h66 => ?_)
            · have g66 : (M 2 c37).toInt < 0 := Int32.lt_iff_toInt_lt.mp h66
              have w66 := ti_lo (M 2 c37)
              refine lv_iconst (v := 0) hx hb d_Md_piece_101 (by decide) ?_
              refine lv_istore hx hb d_Md_piece_102 hl (by decide) rfl (fun ls hl => ?_)
              have hl : lv_has ls 6 [(4, .int 0), (3, .int (nI c37)), (2, .int (nI c4)), (0, .ref (ad 0)), (1, .int ch)] := hl
              refine lv_iconst (v := 0) hx hb d_Md_piece_104 (by decide) ?_
              refine lv_istore hx hb d_Md_piece_105 hl (by decide) rfl (fun ls hl => ?_)
              have hl : lv_has ls 6 [(5, .int 0), (4, .int 0), (3, .int (nI c37)), (2, .int (nI c4)), (0, .ref (ad 0)), (1, .int ch)] := hl
              exact cut107 (20 - 0) 0 c37 0 M63 _ _ ls rfl (show c37 ≤ 207 from by first | omega | assumption | exact Or.inl rfl | exact Or.inr rfl | rfl | decide) (show 0 ≤ 20 from by first | omega | assumption | exact Or.inl rfl | exact Or.inr rfl | rfl | decide) (show M63 9 L = nI an from by first | exact (fq64 _ _ (by unfold mEr; omega)).trans (han)) (show ((0 : Int32) = 1 ∧ M63 0 23 = 0) ∨ ((0 : Int32) = 0 ∧ M63 0 23 = 1 ∧ M63 0 24 = 1) from by first | exact Or.inr ⟨rfl, q64p⟩ | (exfalso; omega)) hP hI hF hS (lv_sub hl [4, 2, 1, 0] rfl)
            · have g66 : ¬ ((M 2 c37).toInt < 0) := fun q => h66 (Int32.lt_iff_toInt_lt.mpr q)
              have u66 := ti_hi (M 2 c37)
              refine lv_iconst (v := 1) hx hb d_Md_piece_97 (by decide) ?_
              refine lv_goto hx hb d_Md_piece_98 rfl ?_
              refine lv_istore hx hb d_Md_piece_102 hl (by decide) rfl (fun ls hl => ?_)
              have hl : lv_has ls 6 [(4, .int 1), (3, .int (nI c37)), (2, .int (nI c4)), (0, .ref (ad 0)), (1, .int ch)] := hl
              refine lv_iconst (v := 0) hx hb d_Md_piece_104 (by decide) ?_
              refine lv_istore hx hb d_Md_piece_105 hl (by decide) rfl (fun ls hl => ?_)
              have hl : lv_has ls 6 [(5, .int 0), (4, .int 1), (3, .int (nI c37)), (2, .int (nI c4)), (0, .ref (ad 0)), (1, .int ch)] := hl
              exact cut107 (20 - 0) 1 c37 0 M63 _ _ ls rfl (show c37 ≤ 207 from by first | omega | assumption | exact Or.inl rfl | exact Or.inr rfl | rfl | decide) (show 0 ≤ 20 from by first | omega | assumption | exact Or.inl rfl | exact Or.inr rfl | rfl | decide) (show M63 9 L = nI an from by first | exact (fq64 _ _ (by unfold mEr; omega)).trans (han)) (show ((1 : Int32) = 1 ∧ M63 0 23 = 0) ∨ ((1 : Int32) = 0 ∧ M63 0 23 = 1 ∧ M63 0 24 = 1) from by first | exact Or.inr ⟨rfl, q64p⟩ | (exfalso; omega)) hP hI hF hS (lv_sub hl [4, 2, 1, 0] rfl)
  · have g5 : ch.toInt = 92 := congrArg Int32.toInt h5
    refine lv_iload_n hx hb d_Md_piece_11 rfl (lv_at hl 0 rfl) ?_
    refine lv_if_ne hx hb d_Md_piece_12 rfl (fun h67 => ?_) (fun h67 => ?_)
    · have g67 : ¬ (((c4 : Nat) : Int) = 0) := fun q => h67 (Int32.toInt_inj.mp (by rw [nI_toInt (n := c4) (by omega)]; exact q))
      refine lv_aload_n hx hb d_Md_piece_23 rfl (lv_at hl 1 rfl) ?_
      refine lv_iload_n hx hb d_Md_piece_24 rfl (lv_at hl 0 rfl) ?_
      refine ux_calli (va_runV ⟨hx, hb, hml, hown, hts⟩ (s_Md_add l D ad cA A TB hA hB  M hI L hL (hlv) cw (hcw) (by omega) (hob) (nI c4)) (cwV 1 hts (tb_goodV ml_Md_209 im_Md_add se_Md_add ii_Md kt_Md_add) rfl rfl rfl (by decide +kernel) ⟨Nat.le_of_ble_eq_true rfl, Nat.le_of_ble_eq_true rfl⟩) (ux_preV (by decide) rfl rfl hP hK hi hN) rfl rfl hl.1 rfl (lv_room (Nat.le_of_ble_eq_true rfl)) d_Md_piece_25 ⟨Nat.zero_le _, Nat.zero_le _⟩) hS (fun r68 M69 H locs q70 hP hS => ?_)
      obtain ⟨hI, fq70, q70p⟩ := q70
      have hF := fr_call hF fq70 (fun a b q => by unfold mAd at q; unfold mPi; omega)
      have hr_r68 : ¬ r68.toInt = 0 → r68 = 1 := fun z => by rcases q70p.1 with q | q; exact absurd (by rw [q]; rfl) z; exact q
      have hz_r68 : r68.toInt = 0 → r68 = 0 := fun z => by rcases q70p.1 with q | q; exact q; rw [q] at z; exact absurd z (by decide)
      refine lv_if_eq hx hb d_Md_piece_28 rfl (fun h71 => ?_) (fun h71 => ?_)
      · have g71 : r68.toInt = 0 := congrArg Int32.toInt h71
        exact W.vret hx hb hr (fun t ht hW => ⟨⟨M69, rfl, ⟨hI, hF, ⟨Or.inr (q70p.2.1 (hz_r68 (by omega))), (by rw [(fq70 _ _ (by unfold mAd; omega)).trans (han), nI_toInt (n := an) (by omega)]; omega)⟩⟩, by unfold ux_E; rw [ht]; exact hP⟩, hS.F ht⟩) hS.2.2 d_Md_piece_189
      · have g71 : ¬ (r68.toInt = 0) := fun q => h71 (Int32.toInt_inj.mp q)
        refine lv_aload_n hx hb d_Md_piece_31 rfl (lv_at hl 1 rfl) ?_
        refine ux_get (C := R_Md) (T := F_Md) (N := 50) hx hb hT in_Md hown hK hP (by decide) rfl rfl 11 (by decide) (hT _ fl_Md_40) rfl d_Md_piece_32 ?_
        refine lv_aload_n hx hb d_Md_piece_35 rfl (lv_at hl 1 rfl) ?_
        refine ux_get (C := R_Md) (T := F_Md) (N := 50) hx hb hT in_Md hown hK hP (by decide) rfl rfl 10 (by decide) (hT _ fl_Md_36) rfl d_Md_piece_36 ?_
        refine lv_topi (fun z72 hz72 => ?_)
        rw [show M69 0 10 = nI L from (fq70 _ _ (by unfold mAd; omega)).trans (hlv)] at hz72
        rw [hz72]
        refine lv_dup2_11 hx hb d_Md_piece_39 rfl rfl ?_
        refine ux_iald hx hb hK hP (by decide) rfl (vp_in_nI (show L < 8 by omega) (by decide)) d_Md_piece_40 ?_
        rw [nI_clamp (n := L) (by omega)]
        refine lv_topi (fun z73 hz73 => ?_)
        rw [show M69 9 L = nI an from (fq70 _ _ (by unfold mAd; omega)).trans (han)] at hz73
        rw [hz73]
        refine lv_iconst (v := 2) hx hb d_Md_piece_41 (by decide) ?_
        refine lv_iadd hx hb d_Md_piece_42 ?_
        refine lv_topi (fun z74 hz74 => ?_)
        rw [show (nI an) + (2 : Int32) = nI (an + 2) from nI_add an 2] at hz74
        rw [hz74]
        refine ux_iast hx hb hK hi hP hS (by decide) rfl (vp_in_nI (show L < 8 by omega) (by decide)) d_Md_piece_43 (fun H locs hP hS => ?_)
        rw [nI_clamp (n := L) (by omega)] at hP
        have hI := IvM_wr (k := 9) (j := L) (v := nI (an + 2)) hI (show (0 : Int) ≤ (nI (an + 2) : Int32).toInt from (by rw [nI_toInt (n := an + 2) (by omega)]; omega)) (show (nI (an + 2) : Int32).toInt ≤ (A : Int) from (by rw [nI_toInt (n := an + 2) (by omega)]; omega)) (by unfold okW; omega)
        have hF := fr_wr (k := 9) (j := L) (v := nI (an + 2)) hF (by unfold mPi; omega)
        generalize eM75 : ux_wr M69 9 L (nI (an + 2)) = M75 at hP hI hF
        have tM75 : (M75 9 L).toInt = ((an + 2 : Nat) : Int) := by rw [wr_at eM75]; exact nI_toInt (by omega)
        refine lv_goto hx hb d_Md_piece_44 rfl ?_
        exact W.vret hx hb hr (fun t ht hW => ⟨⟨M75, rfl, ⟨hI, hF, ⟨Or.inl ((wr_off eM75 (by omega)).trans (((q70p.2.2 (hr_r68 (by omega))).1).trans (hsg))), (by rw [wr_at eM75, nI_toInt (n := an + 2) (by omega)]; omega)⟩⟩, by unfold ux_E; rw [ht]; exact hP⟩, hS.F ht⟩) hS.2.2 d_Md_piece_189
    · have g67 : ((c4 : Nat) : Int) = 0 := by have q := congrArg Int32.toInt h67; rw [nI_toInt (n := c4) (by omega)] at q; exact q
      refine lv_aload_n hx hb d_Md_piece_15 rfl (lv_at hl 1 rfl) ?_
      refine lv_iconst (v := 1) hx hb d_Md_piece_16 (by decide) ?_
      refine ux_callv (va_runV ⟨hx, hb, hml, hown, hts⟩ (s_Md_error l D ad cA A TB hA hB  M hI 1) (cwV 1 hts (tb_goodV ml_Md_166 im_Md_error se_Md_error ii_Md kt_Md_error) rfl rfl rfl (by decide +kernel) ⟨Nat.le_of_ble_eq_true rfl, Nat.le_of_ble_eq_true rfl⟩) (ux_preV (by decide) rfl rfl hP hK hi hN) rfl rfl hl.1 rfl (lv_room (Nat.le_of_ble_eq_true rfl)) d_Md_piece_17 ⟨Nat.zero_le _, Nat.zero_le _⟩) hS (fun M77 H locs q78 hP hS => ?_)
      obtain ⟨hI, fq78, q78p⟩ := q78
      have hF := fr_call hF fq78 (fun a b q => by unfold mEr at q; unfold mPi; omega)
      refine lv_goto hx hb d_Md_piece_20 rfl ?_
      exact W.vret hx hb hr (fun t ht hW => ⟨⟨M77, rfl, ⟨hI, hF, ⟨Or.inr q78p, (by rw [(fq78 _ _ (by unfold mEr; omega)).trans (han), nI_toInt (n := an) (by omega)]; omega)⟩⟩, by unfold ux_E; rw [ht]; exact hP⟩, hS.F ht⟩) hS.2.2 d_Md_piece_189
