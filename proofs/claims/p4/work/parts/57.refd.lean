/-! The reference, safe: commands, continued; written by wip/gen/ref.py -/
set_option maxHeartbeats 1600000 in
set_option maxRecDepth 100000 in
theorem s_Md_match (l : Launch) (D : va_G) (ad : Nat → Nat) (cA : Nat → ClassId) (A TB : Nat) (hA : A ≤ 100000000) (hB : TB ≤ 2000000000) (M : ux_M) (hI : IvM A TB M) (L : Nat) (hL : L ≤ 7) (hlv : M 0 10 = nI L) (hx2 : (M 19 (8 * L + 2)).toInt ≤ 20) : Met l y_Md_match w_Md_match ({ frames := 3, cells := 0, slots := 0, locals := 72 }) (va_Pc [.ref (ad 0)] (ux_B D shM KM ad cA M)) (va_Qv (fun M1 => IvM A TB M1 ∧ (∀ a b, ¬ (mCm L) a b → M1 a b = M a b) ∧ (OutS M M1 L)) (ux_E D shM KM ad cA) (ux_A KM ad)) 0 0 (ux_A KM ad) := by
  refine Met.ofW (cc := b_Md_match) (maxL := 3) (ret := none) (by decide) rfl ?_
  intro p e s m args below meth c s₁ B hml hv
  obtain ⟨rfl, hP, hK, hi, hN⟩ := hv
  have hx := B.exec
  have hb := B.bytes
  have hr := B.returns
  have hts := atoms_spec (ws := w_Md_match) B.pre
  have hown : s.vm.findClass R_Md = some m.cls := findClass_of_methodNamed B.named
  have hlocks := B.notSynchronized
  have hT : ∀ w ∈ tb, w.before _ s = true := fun w h => hts w (List.mem_cons_of_mem _ h)
  have hS : va_S (ux_A KM ad) s.heap s.heap [] := va_S.rf
  have hl := lv_entry ([.ref (ad 0)]) (n := 3) (Nat.le_of_ble_eq_true rfl)
  rw [lg_entry_eq]
  generalize (lg_sl ([.ref (ad 0)]) ++ List.replicate (3 - (lg_sl ([.ref (ad 0)])).length) Slot.unset).toArray = ls at hl ⊢
  have hl : lv_has ls 3 [(0, .ref (ad 0))] := hl
  have hF : ∀ a b, ¬ (mCm L) a b → M a b = M a b := fun _ _ _ => rfl
  have cut8 : ∀ (nn : Nat) (k1 k2 : Nat) (Mc8 : ux_M) (H : Heap) (locs : List Loc) (ls : Array Slot), 20 - k2 = nn → (k1 ≤ 20) → ((k1 : Int) ≤ (M 19 (8 * L + 2)).toInt) → (k2 ≤ 20) → (Mc8 0 10 = nI L) → va_P D classes (ux_w shM KM ad cA Mc8) H → IvM A TB Mc8 → (∀ a b, ¬ (mCm L) a b → Mc8 a b = M a b) → va_S (ux_A KM ad) s.heap H locs → lv_has ls 3 [(0, .ref (ad 0)), (1, .int (nI k1)), (2, .int (nI k2))] → W p l e (headSpec w_Md_match ({ frames := 3, cells := 0, slots := 0, locals := 72 })).room s m (([.ref (ad 0)] : List Value).toArray) below meth c H locs 0 0 (MQ below (va_Qv (fun M1 => IvM A TB M1 ∧ (∀ a b, ¬ (mCm L) a b → M1 a b = M a b) ∧ (OutS M M1 L)) (ux_E D shM KM ad cA) (ux_A KM ad)) (([.ref (ad 0)] : List Value).toArray) s 0 0 (ux_A KM ad)) (F0 m 8 ls []) := by
    intro nn
    induction nn using Nat.strongRecOn with
    | ind nn ih8 =>
      intro k1 k2 Mc8 H locs ls hn c8_0 c8_1 c8_2 c8_3 hP hI hF hS hl
      refine lv_iload_n hx hb d_Md_match_8 rfl (lv_at hl 2 rfl) ?_
      refine lv_iload_n hx hb d_Md_match_9 rfl (lv_at hl 1 rfl) ?_
      refine lv_icmp_ge hx hb d_Md_match_10 rfl (fun h1 => ?_) (fun h1 => ?_)
      · have g1 : ((k1 : Nat) : Int) ≤ ((k2 : Nat) : Int) := by have q := Int32.le_iff_toInt_le.mp h1; rw [nI_toInt (n := k1) (by omega), nI_toInt (n := k2) (by omega)] at q; exact q
        refine lv_aload_n hx hb d_Md_match_31 rfl (lv_at hl 0 rfl) ?_
        refine lv_iconst (v := 1) hx hb d_Md_match_32 (by decide) ?_
        refine lv_iload_n hx hb d_Md_match_33 rfl (lv_at hl 1 rfl) ?_
        refine ux_calli (va_runV ⟨hx, hb, hml, hown, hts⟩ (s_Md_fits l D ad cA A TB hA hB  Mc8 hI L hL (c8_3) 1 k1 (by omega) (by omega)) (cwV 2 hts (tb_goodV ml_Md_325 im_Md_fits se_Md_fits ii_Md kt_Md_fits) rfl rfl rfl (by decide +kernel) ⟨Nat.le_of_ble_eq_true rfl, Nat.le_of_ble_eq_true rfl⟩) (ux_preV (by decide) rfl rfl hP hK hi hN) rfl rfl hl.1 rfl (lv_room (Nat.le_of_ble_eq_true rfl)) d_Md_match_34 ⟨Nat.zero_le _, Nat.zero_le _⟩) hS (fun r2 M3 H locs q4 hP hS => ?_)
        obtain ⟨hI, fq4, q4p⟩ := q4
        have hF := fr_call hF fq4 (fun a b q => by unfold mFt at q; unfold mCm; omega)
        refine lv_istore_n hx hb d_Md_match_37 rfl hl (by decide) rfl (fun ls hl => ?_)
        have hl : lv_has ls 3 [(2, .int r2), (0, .ref (ad 0)), (1, .int (nI k1))] := hl
        refine lv_aload_n hx hb d_Md_match_38 rfl (lv_at hl 1 rfl) ?_
        refine lv_iload_n hx hb d_Md_match_39 rfl (lv_at hl 0 rfl) ?_
        refine lv_if_eq hx hb d_Md_match_40 rfl (fun h5 => ?_) (fun h5 => ?_)
        · have g5 : r2.toInt = 0 := congrArg Int32.toInt h5
          refine lv_iconst (v := 0) hx hb d_Md_match_47 (by decide) ?_
          refine ux_callv (va_runV ⟨hx, hb, hml, hown, hts⟩ (s_Md_number l D ad cA A TB hA hB  M3 hI 0) (cwV 1 hts (tb_goodV ml_Md_226 im_Md_number se_Md_number ii_Md kt_Md_number) rfl rfl rfl (by decide +kernel) ⟨Nat.le_of_ble_eq_true rfl, Nat.le_of_ble_eq_true rfl⟩) (ux_preV (by decide) rfl rfl hP hK hi hN) rfl rfl hl.1 rfl (lv_room (Nat.le_of_ble_eq_true rfl)) d_Md_match_48 ⟨Nat.zero_le _, Nat.zero_le _⟩) hS (fun M7 H locs q8 hP hS => ?_)
          obtain ⟨hI, fq8, q8p⟩ := q8
          have hF := fr_call hF fq8 (fun a b q => by unfold mRe at q; unfold mCm; omega)
          refine lv_aload_n hx hb d_Md_match_51 rfl (lv_at hl 1 rfl) ?_
          refine lv_iconst (v := 0) hx hb d_Md_match_52 (by decide) ?_
          refine ux_callv (va_runV ⟨hx, hb, hml, hown, hts⟩ (s_Md_done l D ad cA A TB hA hB  M7 hI 0) (cwV 1 hts (tb_goodV ml_Md_235 im_Md_done se_Md_done ii_Md kt_Md_done) rfl rfl rfl (by decide +kernel) ⟨Nat.le_of_ble_eq_true rfl, Nat.le_of_ble_eq_true rfl⟩) (ux_preV (by decide) rfl rfl hP hK hi hN) rfl rfl hl.1 rfl (lv_room (Nat.le_of_ble_eq_true rfl)) d_Md_match_53 ⟨Nat.zero_le _, Nat.zero_le _⟩) hS (fun M10 H locs q11 hP hS => ?_)
          obtain ⟨hI, fq11, q11p⟩ := q11
          have hF := fr_call hF fq11 (fun a b q => by unfold mDn at q; unfold mCm; omega)
          exact W.vret hx hb hr (fun t ht hW => ⟨⟨M10, rfl, ⟨hI, hF, Or.inl ⟨((fq11 _ _ (by unfold mDn; omega)).trans ((fq8 _ _ (by unfold mRe; omega)).trans ((fq4 _ _ (by unfold mFt; omega)).trans (c8_3)))), q11p.1⟩⟩, by unfold ux_E; rw [ht]; exact hP⟩, hS.F ht⟩) hS.2.2 d_Md_match_56
        · have g5 : ¬ (r2.toInt = 0) := fun q => h5 (Int32.toInt_inj.mp q)
          refine lv_iconst (v := 1) hx hb d_Md_match_43 (by decide) ?_
          refine lv_goto hx hb d_Md_match_44 rfl ?_
          refine ux_callv (va_runV ⟨hx, hb, hml, hown, hts⟩ (s_Md_number l D ad cA A TB hA hB  M3 hI 1) (cwV 1 hts (tb_goodV ml_Md_226 im_Md_number se_Md_number ii_Md kt_Md_number) rfl rfl rfl (by decide +kernel) ⟨Nat.le_of_ble_eq_true rfl, Nat.le_of_ble_eq_true rfl⟩) (ux_preV (by decide) rfl rfl hP hK hi hN) rfl rfl hl.1 rfl (lv_room (Nat.le_of_ble_eq_true rfl)) d_Md_match_48 ⟨Nat.zero_le _, Nat.zero_le _⟩) hS (fun M13 H locs q14 hP hS => ?_)
          obtain ⟨hI, fq14, q14p⟩ := q14
          have hF := fr_call hF fq14 (fun a b q => by unfold mRe at q; unfold mCm; omega)
          refine lv_aload_n hx hb d_Md_match_51 rfl (lv_at hl 1 rfl) ?_
          refine lv_iconst (v := 0) hx hb d_Md_match_52 (by decide) ?_
          refine ux_callv (va_runV ⟨hx, hb, hml, hown, hts⟩ (s_Md_done l D ad cA A TB hA hB  M13 hI 0) (cwV 1 hts (tb_goodV ml_Md_235 im_Md_done se_Md_done ii_Md kt_Md_done) rfl rfl rfl (by decide +kernel) ⟨Nat.le_of_ble_eq_true rfl, Nat.le_of_ble_eq_true rfl⟩) (ux_preV (by decide) rfl rfl hP hK hi hN) rfl rfl hl.1 rfl (lv_room (Nat.le_of_ble_eq_true rfl)) d_Md_match_53 ⟨Nat.zero_le _, Nat.zero_le _⟩) hS (fun M16 H locs q17 hP hS => ?_)
          obtain ⟨hI, fq17, q17p⟩ := q17
          have hF := fr_call hF fq17 (fun a b q => by unfold mDn at q; unfold mCm; omega)
          exact W.vret hx hb hr (fun t ht hW => ⟨⟨M16, rfl, ⟨hI, hF, Or.inl ⟨((fq17 _ _ (by unfold mDn; omega)).trans ((fq14 _ _ (by unfold mRe; omega)).trans ((fq4 _ _ (by unfold mFt; omega)).trans (c8_3)))), q17p.1⟩⟩, by unfold ux_E; rw [ht]; exact hP⟩, hS.F ht⟩) hS.2.2 d_Md_match_56
      · have g1 : ¬ (((k1 : Nat) : Int) ≤ ((k2 : Nat) : Int)) := fun q => h1 (Int32.le_iff_toInt_le.mpr (by rw [nI_toInt (n := k1) (by omega), nI_toInt (n := k2) (by omega)]; exact q))
        refine lv_aload_n hx hb d_Md_match_13 rfl (lv_at hl 0 rfl) ?_
        refine ux_get (C := R_Md) (T := F_Md) (N := 50) hx hb hT in_Md hown hK hP (by decide) rfl rfl 36 (by decide) (hT _ fl_Md_85) rfl d_Md_match_14 ?_
        refine lv_iload_n hx hb d_Md_match_17 rfl (lv_at hl 2 rfl) ?_
        have k18 := congrArg Int32.toInt (show Mc8 19 (8 * L + 2) = M 19 (8 * L + 2) from hF _ _ (by unfold mCm; omega))
        refine lv_aload_n hx hb d_Md_match_18 rfl (lv_at hl 0 rfl) ?_
        refine lv_iconst (v := 2) hx hb d_Md_match_19 (by decide) ?_
        refine lv_iload_n hx hb d_Md_match_20 rfl (lv_at hl 2 rfl) ?_
        refine ux_calli (va_runV ⟨hx, hb, hml, hown, hts⟩ (s_Md_charOf l D ad cA A TB hA hB  Mc8 hI L hL (c8_3) 2 k2 (by omega) (by omega)) (cwV 2 hts (tb_goodV ml_Md_162 im_Md_charOf se_Md_charOf ii_Md kt_Md_charOf) rfl rfl rfl (by decide +kernel) ⟨Nat.le_of_ble_eq_true rfl, Nat.le_of_ble_eq_true rfl⟩) (ux_preV (by decide) rfl rfl hP hK hi hN) rfl rfl hl.1 rfl (lv_room (Nat.le_of_ble_eq_true rfl)) d_Md_match_21 ⟨Nat.zero_le _, Nat.zero_le _⟩) hS (fun r19 M20 H locs q21 hP hS => ?_)
        obtain ⟨hI, fq21, q21p⟩ := q21
        rw [tN_eq fq21] at hP hI
        obtain ⟨c22, hc22, ec22⟩ := nat_of (x := r19) (n := 65535) q21p.1.1 q21p.1.2
        have vc22 := q21p.2
        subst ec22
        have tc22 : (nI c22).toInt = (c22 : Int) := nI_toInt (by omega)
        refine ux_cast hx hb hK hi hP hS (by decide) rfl (vp_in_nI (show k2 < 20 by omega) (by decide)) d_Md_match_24 (fun H locs hP hS => ?_)
        have b23 := nar_c (nI c22)
        rw [nI_clamp (n := k2) (by omega)] at hP
        have hI := IvM_wr (k := 24) (j := k2) (v := vp_nar .char (nI c22)) hI (show (0 : Int) ≤ (vp_nar .char (nI c22) : Int32).toInt from (by omega)) (show (vp_nar .char (nI c22) : Int32).toInt ≤ (65535 : Int) from (by omega)) (by unfold okW; omega)
        have hF := fr_wr (k := 24) (j := k2) (v := vp_nar .char (nI c22)) hF (by unfold mCm; omega)
        generalize eM24 : ux_wr Mc8 24 k2 (vp_nar .char (nI c22)) = M24 at hP hI hF
        have tM24 : (M24 24 k2).toInt = (vp_nar .char (nI c22)).toInt := by rw [wr_at eM24]
        refine lv_iinc (k := 2) (v := nI (k2 + 1)) hx hb d_Md_match_25 hl rfl (nI_add k2 1) (by decide) rfl (fun ls hl => ?_)
        have hl : lv_has ls 3 [(2, .int (nI (k2 + 1))), (0, .ref (ad 0)), (1, .int (nI k1))] := hl
        refine lv_goto hx hb d_Md_match_28 rfl ?_
        exact ih8 (20 - (k2 + 1)) (by omega) k1 (k2 + 1) M24 _ _ ls rfl (show k1 ≤ 20 from by first | omega | assumption | exact Or.inl rfl | exact Or.inr rfl | rfl | decide) (show (k1 : Int) ≤ (M 19 (8 * L + 2)).toInt from by first | omega | assumption | exact Or.inl rfl | exact Or.inr rfl | rfl | decide) (show (k2 + 1) ≤ 20 from by first | omega | assumption | exact Or.inl rfl | exact Or.inr rfl | rfl | decide) (show M24 0 10 = nI L from by first | exact ((wr_off eM24 (by omega)).trans (c8_3))) hP hI hF hS (lv_sub hl [1, 2, 0] rfl)
  refine lv_aload_n hx hb d_Md_match_0 rfl (lv_at hl 0 rfl) ?_
  refine lv_iconst (v := 2) hx hb d_Md_match_1 (by decide) ?_
  refine ux_calli (va_runV ⟨hx, hb, hml, hown, hts⟩ (s_Md_sizeOf l D ad cA A TB hA hB  M hI L hL (hlv) 2 (by omega)) (cwV 1 hts (tb_goodV ml_Md_159 im_Md_sizeOf se_Md_sizeOf ii_Md kt_Md_sizeOf) rfl rfl rfl (by decide +kernel) ⟨Nat.le_of_ble_eq_true rfl, Nat.le_of_ble_eq_true rfl⟩) (ux_preV (by decide) rfl rfl hP hK hi hN) rfl rfl hl.1 rfl (lv_room (Nat.le_of_ble_eq_true rfl)) d_Md_match_2 ⟨Nat.zero_le _, Nat.zero_le _⟩) hS (fun r25 M26 H locs q27 hP hS => ?_)
  obtain ⟨hI, fq27, q27p⟩ := q27
  rw [tN_eq fq27] at hP hI
  obtain ⟨c28, hc28, ec28⟩ := nat_of (x := M 19 (8 * L + 2)) (n := 200) (hI.1 _ _).1 (hI.1 _ _).2
  rw [ec28] at q27p
  subst q27p
  have tc28 : (M 19 (8 * L + 2)).toInt = (c28 : Int) := by rw [ec28]; exact nI_toInt (by omega)
  refine lv_istore_n hx hb d_Md_match_5 rfl hl (by decide) rfl (fun ls hl => ?_)
  have hl : lv_has ls 3 [(1, .int (nI c28)), (0, .ref (ad 0))] := hl
  refine lv_iconst (v := 0) hx hb d_Md_match_6 (by decide) ?_
  refine lv_istore_n hx hb d_Md_match_7 rfl hl (by decide) rfl (fun ls hl => ?_)
  have hl : lv_has ls 3 [(2, .int 0), (1, .int (nI c28)), (0, .ref (ad 0))] := hl
  exact cut8 (20 - 0) c28 0 M _ _ ls rfl (show c28 ≤ 20 from by first | omega | assumption | exact Or.inl rfl | exact Or.inr rfl | rfl | decide) (show (c28 : Int) ≤ (M 19 (8 * L + 2)).toInt from by first | omega | assumption | exact Or.inl rfl | exact Or.inr rfl | rfl | decide) (show 0 ≤ 20 from by first | omega | assumption | exact Or.inl rfl | exact Or.inr rfl | rfl | decide) (show M 0 10 = nI L from by first | exact (hlv)) hP hI hF hS (lv_sub hl [2, 1, 0] rfl)

set_option maxHeartbeats 1600000 in
set_option maxRecDepth 100000 in
theorem s_Md_choose (l : Launch) (D : va_G) (ad : Nat → Nat) (cA : Nat → ClassId) (A TB : Nat) (hA : A ≤ 100000000) (hB : TB ≤ 2000000000) (M : ux_M) (hI : IvM A TB M) (L : Nat) (hL : L ≤ 7) (hlv : M 0 10 = nI L) (hA2 : 200 ≤ A) (hb1 : ¬ M 17 (8 * L + 1) = 0) (hb2 : ¬ M 17 (8 * L + 2) = 0) (hb3 : (M 14 L).toInt = 4 → ¬ M 17 (8 * L + 3) = 0) : Met l y_Md_choose w_Md_choose ({ frames := 6, cells := 0, slots := 0, locals := 134 }) (va_Pc [.ref (ad 0)] (ux_B D shM KM ad cA M)) (va_Qv (fun M1 => IvM A TB M1 ∧ (∀ a b, ¬ (mCm L) a b → M1 a b = M a b) ∧ (OutS M M1 L)) (ux_E D shM KM ad cA) (ux_A KM ad)) 0 0 (ux_A KM ad) := by
  refine Met.ofW (cc := b_Md_choose) (maxL := 2) (ret := none) (by decide) rfl ?_
  intro p e s m args below meth c s₁ B hml hv
  obtain ⟨rfl, hP, hK, hi, hN⟩ := hv
  have hx := B.exec
  have hb := B.bytes
  have hr := B.returns
  have hts := atoms_spec (ws := w_Md_choose) B.pre
  have hown : s.vm.findClass R_Md = some m.cls := findClass_of_methodNamed B.named
  have hlocks := B.notSynchronized
  have hT : ∀ w ∈ tb, w.before _ s = true := fun w h => hts w (List.mem_cons_of_mem _ h)
  have hS : va_S (ux_A KM ad) s.heap s.heap [] := va_S.rf
  have hl := lv_entry ([.ref (ad 0)]) (n := 2) (Nat.le_of_ble_eq_true rfl)
  rw [lg_entry_eq]
  generalize (lg_sl ([.ref (ad 0)]) ++ List.replicate (2 - (lg_sl ([.ref (ad 0)])).length) Slot.unset).toArray = ls at hl ⊢
  have hl : lv_has ls 2 [(0, .ref (ad 0))] := hl
  have hF : ∀ a b, ¬ (mCm L) a b → M a b = M a b := fun _ _ _ => rfl
  refine lv_aload_n hx hb d_Md_choose_0 rfl (lv_at hl 0 rfl) ?_
  refine lv_iconst (v := 1) hx hb d_Md_choose_1 (by decide) ?_
  refine ux_calli (va_runV ⟨hx, hb, hml, hown, hts⟩ (s_Md_value l D ad cA A TB hA hB  M hI L hL (hlv) 1 (by omega) (by assumption)) (cwV 1 hts (tb_goodV ml_Md_322 im_Md_value se_Md_value ii_Md kt_Md_value) rfl rfl rfl (by decide +kernel) ⟨Nat.le_of_ble_eq_true rfl, Nat.le_of_ble_eq_true rfl⟩) (ux_preV (by decide) rfl rfl hP hK hi hN) rfl rfl hl.1 rfl (lv_room (Nat.le_of_ble_eq_true rfl)) d_Md_choose_2 ⟨Nat.zero_le _, Nat.zero_le _⟩) hS (fun r1 M2 H locs q3 hP hS => ?_)
  obtain ⟨hI, fq3, q3p⟩ := q3
  have hF := fr_call hF fq3 (fun a b q => by unfold mVa at q; unfold mCm; omega)
  refine lv_istore_n hx hb d_Md_choose_5 rfl hl (by decide) rfl (fun ls hl => ?_)
  have hl : lv_has ls 2 [(1, .int r1), (0, .ref (ad 0))] := hl
  refine lv_aload_n hx hb d_Md_choose_6 rfl (lv_at hl 1 rfl) ?_
  refine ux_get (C := R_Md) (T := F_Md) (N := 50) hx hb hT in_Md hown hK hP (by decide) rfl rfl 23 (by decide) (hT _ fl_Md_152) rfl d_Md_choose_7 ?_
  refine lv_iconst (v := 1) hx hb d_Md_choose_10 (by decide) ?_
  refine lv_icmp_ne hx hb d_Md_choose_11 rfl (fun h4 => ?_) (fun h4 => ?_)
  · have g4 : ¬ ((M2 0 23).toInt = 1) := fun q => h4 (Int32.toInt_inj.mp q)
    refine lv_iload_n hx hb d_Md_choose_15 rfl (lv_at hl 0 rfl) ?_
    refine lv_if_eq hx hb d_Md_choose_16 rfl (fun h5 => ?_) (fun h5 => ?_)
    · have g5 : r1.toInt = 0 := congrArg Int32.toInt h5
      refine lv_aload_n hx hb d_Md_choose_29 rfl (lv_at hl 1 rfl) ?_
      refine ux_get (C := R_Md) (T := F_Md) (N := 50) hx hb hT in_Md hown hK hP (by decide) rfl rfl 16 (by decide) (hT _ fl_Md_55) rfl d_Md_choose_30 ?_
      refine lv_aload_n hx hb d_Md_choose_33 rfl (lv_at hl 1 rfl) ?_
      refine ux_get (C := R_Md) (T := F_Md) (N := 50) hx hb hT in_Md hown hK hP (by decide) rfl rfl 10 (by decide) (hT _ fl_Md_36) rfl d_Md_choose_34 ?_
      refine lv_topi (fun z6 hz6 => ?_)
      rw [show M2 0 10 = nI L from (fq3 _ _ (by unfold mVa; omega)).trans (hlv)] at hz6
      rw [hz6]
      refine ux_iald hx hb hK hP (by decide) rfl (vp_in_nI (show L < 8 by omega) (by decide)) d_Md_choose_37 ?_
      rw [nI_clamp (n := L) (by omega)]
      refine lv_topi (fun z8 hz8 => ?_)
      obtain ⟨c7, hc7, ec7⟩ := nat_of (x := M2 14 L) (n := 8) (hI.1 14 L).1 (hI.1 14 L).2
      rw [ec7] at hz8
      rw [hz8]
      have tc7 : (M2 14 L).toInt = (c7 : Int) := by rw [ec7]; exact nI_toInt (by omega)
      refine lv_iconst (v := 4) hx hb d_Md_choose_38 (by decide) ?_
      refine lv_icmp_ne hx hb d_Md_choose_39 rfl (fun h9 => ?_) (fun h9 => ?_)
      · have g9 : ¬ (((c7 : Nat) : Int) = 4) := fun q => h9 (Int32.toInt_inj.mp (by rw [nI_toInt (n := c7) (by omega)]; exact q))
        refine lv_aload_n hx hb d_Md_choose_52 rfl (lv_at hl 1 rfl) ?_
        refine ux_callv (va_runV ⟨hx, hb, hml, hown, hts⟩ (s_Md_nothing l D ad cA A TB hA hB  M2 hI ) (cwV 0 hts (tb_goodV ml_Md_138 im_Md_nothing se_Md_nothing ii_Md kt_Md_nothing) rfl rfl rfl (by decide +kernel) ⟨Nat.le_of_ble_eq_true rfl, Nat.le_of_ble_eq_true rfl⟩) (ux_preV (by decide) rfl rfl hP hK hi hN) rfl rfl hl.1 rfl (lv_room (Nat.le_of_ble_eq_true rfl)) d_Md_choose_53 ⟨Nat.zero_le _, Nat.zero_le _⟩) hS (fun M11 H locs q12 hP hS => ?_)
        obtain ⟨hI, fq12, q12p⟩ := q12
        have hF := fr_call hF fq12 (fun a b q => by unfold mRe at q; unfold mCm; omega)
        refine lv_aload_n hx hb d_Md_choose_56 rfl (lv_at hl 1 rfl) ?_
        refine lv_iconst (v := 0) hx hb d_Md_choose_57 (by decide) ?_
        refine ux_callv (va_runV ⟨hx, hb, hml, hown, hts⟩ (s_Md_done l D ad cA A TB hA hB  M11 hI 0) (cwV 1 hts (tb_goodV ml_Md_235 im_Md_done se_Md_done ii_Md kt_Md_done) rfl rfl rfl (by decide +kernel) ⟨Nat.le_of_ble_eq_true rfl, Nat.le_of_ble_eq_true rfl⟩) (ux_preV (by decide) rfl rfl hP hK hi hN) rfl rfl hl.1 rfl (lv_room (Nat.le_of_ble_eq_true rfl)) d_Md_choose_58 ⟨Nat.zero_le _, Nat.zero_le _⟩) hS (fun M14 H locs q15 hP hS => ?_)
        obtain ⟨hI, fq15, q15p⟩ := q15
        have hF := fr_call hF fq15 (fun a b q => by unfold mDn at q; unfold mCm; omega)
        exact W.vret hx hb hr (fun t ht hW => ⟨⟨M14, rfl, ⟨hI, hF, Or.inl ⟨((fq15 _ _ (by unfold mDn; omega)).trans ((fq12 _ _ (by unfold mRe; omega)).trans ((fq3 _ _ (by unfold mVa; omega)).trans (hlv)))), q15p.1⟩⟩, by unfold ux_E; rw [ht]; exact hP⟩, hS.F ht⟩) hS.2.2 d_Md_choose_61
      · have g9 : ((c7 : Nat) : Int) = 4 := by have q := congrArg Int32.toInt h9; rw [nI_toInt (n := c7) (by omega)] at q; exact q
        have k16 := congrArg Int32.toInt (show M2 14 (L) = M 14 (L) from hF _ _ (by unfold mCm; omega))
        have hbc3 : ¬ M2 17 (8 * L + 3) = 0 := fun q => hb3 (by omega) ((hF _ _ (by unfold mCm; omega)).symm.trans q)
        refine lv_aload_n hx hb d_Md_choose_42 rfl (lv_at hl 1 rfl) ?_
        refine lv_iconst (v := 3) hx hb d_Md_choose_43 (by decide) ?_
        refine lv_iconst (v := 2) hx hb d_Md_choose_44 (by decide) ?_
        refine ux_calli (va_runV ⟨hx, hb, hml, hown, hts⟩ (s_Md_enterWord l D ad cA A TB hA hB  M2 hI L hL ((fq3 _ _ (by unfold mVa; omega)).trans (hlv)) hA2 3 (by omega) (by first | assumption | exact hq3 (by omega) | exact fun q => hb3 ((hF _ _ (by unfold mCm; omega)).symm.trans q)) 2 (by decide) (fun q => absurd q (by decide)) (fun q => absurd q (by decide))) (cwV 2 hts (tb_goodV ml_Md_284 im_Md_enterWord se_Md_enterWord ii_Md kt_Md_enterWord) rfl rfl rfl (by decide +kernel) ⟨Nat.le_of_ble_eq_true rfl, Nat.le_of_ble_eq_true rfl⟩) (ux_preV (by decide) rfl rfl hP hK hi hN) rfl rfl hl.1 rfl (lv_room (Nat.le_of_ble_eq_true rfl)) d_Md_choose_45 ⟨Nat.zero_le _, Nat.zero_le _⟩) hS (fun r17 M18 H locs q19 hP hS => ?_)
        obtain ⟨hI, fq19, q19p⟩ := q19
        have hF := fr_call hF fq19 (fun a b q => q)
        refine lv_pop hx hb d_Md_choose_48 rfl ?_
        refine lv_goto hx hb d_Md_choose_49 rfl ?_
        exact W.vret hx hb hr (fun t ht hW => ⟨⟨M18, rfl, ⟨hI, hF, (OutS_cong (by assumption) q19p.2)⟩, by unfold ux_E; rw [ht]; exact hP⟩, hS.F ht⟩) hS.2.2 d_Md_choose_61
    · have g5 : ¬ (r1.toInt = 0) := fun q => h5 (Int32.toInt_inj.mp q)
      refine lv_aload_n hx hb d_Md_choose_19 rfl (lv_at hl 1 rfl) ?_
      refine lv_iconst (v := 2) hx hb d_Md_choose_20 (by decide) ?_
      refine lv_iconst (v := 2) hx hb d_Md_choose_21 (by decide) ?_
      refine ux_calli (va_runV ⟨hx, hb, hml, hown, hts⟩ (s_Md_enterWord l D ad cA A TB hA hB  M2 hI L hL ((fq3 _ _ (by unfold mVa; omega)).trans (hlv)) hA2 2 (by omega) (by first | assumption | exact hq2 (by omega) | exact fun q => hb2 ((hF _ _ (by unfold mCm; omega)).symm.trans q)) 2 (by decide) (fun q => absurd q (by decide)) (fun q => absurd q (by decide))) (cwV 2 hts (tb_goodV ml_Md_284 im_Md_enterWord se_Md_enterWord ii_Md kt_Md_enterWord) rfl rfl rfl (by decide +kernel) ⟨Nat.le_of_ble_eq_true rfl, Nat.le_of_ble_eq_true rfl⟩) (ux_preV (by decide) rfl rfl hP hK hi hN) rfl rfl hl.1 rfl (lv_room (Nat.le_of_ble_eq_true rfl)) d_Md_choose_22 ⟨Nat.zero_le _, Nat.zero_le _⟩) hS (fun r20 M21 H locs q22 hP hS => ?_)
      obtain ⟨hI, fq22, q22p⟩ := q22
      have hF := fr_call hF fq22 (fun a b q => q)
      refine lv_pop hx hb d_Md_choose_25 rfl ?_
      refine lv_goto hx hb d_Md_choose_26 rfl ?_
      exact W.vret hx hb hr (fun t ht hW => ⟨⟨M21, rfl, ⟨hI, hF, (OutS_cong (by assumption) q22p.2)⟩, by unfold ux_E; rw [ht]; exact hP⟩, hS.F ht⟩) hS.2.2 d_Md_choose_61
  · have g4 : (M2 0 23).toInt = 1 := congrArg Int32.toInt h4
    exact W.vret hx hb hr (fun t ht hW => ⟨⟨M2, rfl, ⟨hI, hF, Or.inl ⟨((fq3 _ _ (by unfold mVa; omega)).trans (hlv)), by assumption⟩⟩, by unfold ux_E; rw [ht]; exact hP⟩, hS.F ht⟩) hS.2.2 d_Md_choose_14

set_option maxHeartbeats 1600000 in
set_option maxRecDepth 100000 in
theorem s_Md_again (l : Launch) (D : va_G) (ad : Nat → Nat) (cA : Nat → ClassId) (A TB : Nat) (hA : A ≤ 100000000) (hB : TB ≤ 2000000000) (M : ux_M) (hI : IvM A TB M) (L : Nat) (hL : L ≤ 7) (hlv : M 0 10 = nI L) (hA2 : 200 ≤ A) (hb1 : ¬ M 17 (8 * L + 1) = 0) (hb2 : ¬ M 17 (8 * L + 2) = 0) : Met l y_Md_again w_Md_again ({ frames := 6, cells := 0, slots := 0, locals := 134 }) (va_Pc [.ref (ad 0)] (ux_B D shM KM ad cA M)) (va_Qv (fun M1 => IvM A TB M1 ∧ (∀ a b, ¬ (mCm L) a b → M1 a b = M a b) ∧ (OutS M M1 L)) (ux_E D shM KM ad cA) (ux_A KM ad)) 0 0 (ux_A KM ad) := by
  refine Met.ofW (cc := b_Md_again) (maxL := 2) (ret := none) (by decide) rfl ?_
  intro p e s m args below meth c s₁ B hml hv
  obtain ⟨rfl, hP, hK, hi, hN⟩ := hv
  have hx := B.exec
  have hb := B.bytes
  have hr := B.returns
  have hts := atoms_spec (ws := w_Md_again) B.pre
  have hown : s.vm.findClass R_Md = some m.cls := findClass_of_methodNamed B.named
  have hlocks := B.notSynchronized
  have hT : ∀ w ∈ tb, w.before _ s = true := fun w h => hts w (List.mem_cons_of_mem _ h)
  have hS : va_S (ux_A KM ad) s.heap s.heap [] := va_S.rf
  have hl := lv_entry ([.ref (ad 0)]) (n := 2) (Nat.le_of_ble_eq_true rfl)
  rw [lg_entry_eq]
  generalize (lg_sl ([.ref (ad 0)]) ++ List.replicate (2 - (lg_sl ([.ref (ad 0)])).length) Slot.unset).toArray = ls at hl ⊢
  have hl : lv_has ls 2 [(0, .ref (ad 0))] := hl
  have hF : ∀ a b, ¬ (mCm L) a b → M a b = M a b := fun _ _ _ => rfl
  refine lv_aload_n hx hb d_Md_again_0 rfl (lv_at hl 0 rfl) ?_
  refine lv_iconst (v := 0) hx hb d_Md_again_1 (by decide) ?_
  refine ux_put (C := R_Md) (T := F_Md) (N := 50) hx hb hT in_Md t_Md t_Md_ok n_Md hown hK hi hP hS (by decide) rfl rfl 23 (by decide) (hT _ fl_Md_152) rfl (rfl) (rfl) rfl d_Md_again_2 (fun H locs hP hS => ?_)
  have hI := IvM_free (k := 0) (j := 23) (v := 0) hI rfl rfl (by unfold okW; omega)
  have hF := fr_wr (k := 0) (j := 23) (v := 0) hF (by unfold mCm; omega)
  generalize eM1 : ux_wr M 0 23 0 = M1 at hP hI hF
  have hbc1 : ¬ M1 17 (8 * L + 1) = 0 := fun q => hb1 ((hF _ _ (by unfold mCm; omega)).symm.trans q)
  refine lv_aload_n hx hb d_Md_again_5 rfl (lv_at hl 0 rfl) ?_
  refine lv_iconst (v := 1) hx hb d_Md_again_6 (by decide) ?_
  refine ux_calli (va_runV ⟨hx, hb, hml, hown, hts⟩ (s_Md_value l D ad cA A TB hA hB  M1 hI L hL ((wr_off eM1 (by omega)).trans (hlv)) 1 (by omega) (by assumption)) (cwV 1 hts (tb_goodV ml_Md_322 im_Md_value se_Md_value ii_Md kt_Md_value) rfl rfl rfl (by decide +kernel) ⟨Nat.le_of_ble_eq_true rfl, Nat.le_of_ble_eq_true rfl⟩) (ux_preV (by decide) rfl rfl hP hK hi hN) rfl rfl hl.1 rfl (lv_room (Nat.le_of_ble_eq_true rfl)) d_Md_again_7 ⟨Nat.zero_le _, Nat.zero_le _⟩) hS (fun r2 M3 H locs q4 hP hS => ?_)
  obtain ⟨hI, fq4, q4p⟩ := q4
  have hF := fr_call hF fq4 (fun a b q => by unfold mVa at q; unfold mCm; omega)
  refine lv_istore_n hx hb d_Md_again_10 rfl hl (by decide) rfl (fun ls hl => ?_)
  have hl : lv_has ls 2 [(1, .int r2), (0, .ref (ad 0))] := hl
  refine lv_aload_n hx hb d_Md_again_11 rfl (lv_at hl 1 rfl) ?_
  refine ux_get (C := R_Md) (T := F_Md) (N := 50) hx hb hT in_Md hown hK hP (by decide) rfl rfl 23 (by decide) (hT _ fl_Md_152) rfl d_Md_again_12 ?_
  refine lv_iconst (v := 1) hx hb d_Md_again_15 (by decide) ?_
  refine lv_icmp_ne hx hb d_Md_again_16 rfl (fun h5 => ?_) (fun h5 => ?_)
  · have g5 : ¬ ((M3 0 23).toInt = 1) := fun q => h5 (Int32.toInt_inj.mp q)
    refine lv_aload_n hx hb d_Md_again_20 rfl (lv_at hl 1 rfl) ?_
    refine ux_callv (va_runV ⟨hx, hb, hml, hown, hts⟩ (s_Md_nothing l D ad cA A TB hA hB  M3 hI ) (cwV 0 hts (tb_goodV ml_Md_138 im_Md_nothing se_Md_nothing ii_Md kt_Md_nothing) rfl rfl rfl (by decide +kernel) ⟨Nat.le_of_ble_eq_true rfl, Nat.le_of_ble_eq_true rfl⟩) (ux_preV (by decide) rfl rfl hP hK hi hN) rfl rfl hl.1 rfl (lv_room (Nat.le_of_ble_eq_true rfl)) d_Md_again_21 ⟨Nat.zero_le _, Nat.zero_le _⟩) hS (fun M7 H locs q8 hP hS => ?_)
    obtain ⟨hI, fq8, q8p⟩ := q8
    have hF := fr_call hF fq8 (fun a b q => by unfold mRe at q; unfold mCm; omega)
    refine lv_iload_n hx hb d_Md_again_24 rfl (lv_at hl 0 rfl) ?_
    refine lv_if_ne hx hb d_Md_again_25 rfl (fun h9 => ?_) (fun h9 => ?_)
    · have g9 : ¬ (r2.toInt = 0) := fun q => h9 (Int32.toInt_inj.mp q)
      refine lv_aload_n hx hb d_Md_again_36 rfl (lv_at hl 1 rfl) ?_
      refine ux_calli (va_runV ⟨hx, hb, hml, hown, hts⟩ (s_Md_spend l D ad cA A TB hA hB  M7 hI ) (cwV 0 hts (tb_goodV ml_Md_246 im_Md_spend se_Md_spend ii_Md kt_Md_spend) rfl rfl rfl (by decide +kernel) ⟨Nat.le_of_ble_eq_true rfl, Nat.le_of_ble_eq_true rfl⟩) (ux_preV (by decide) rfl rfl hP hK hi hN) rfl rfl hl.1 rfl (lv_room (Nat.le_of_ble_eq_true rfl)) d_Md_again_37 ⟨Nat.zero_le _, Nat.zero_le _⟩) hS (fun r10 M11 H locs q12 hP hS => ?_)
      obtain ⟨hI, fq12, q12p⟩ := q12
      have hF := fr_call hF fq12 (fun a b q => by unfold mSp at q; unfold mCm; omega)
      have hr_r10 : ¬ r10.toInt = 0 → r10 = 1 := fun z => by rcases q12p.1 with q | q; exact absurd (by rw [q]; rfl) z; exact q
      have hz_r10 : r10.toInt = 0 → r10 = 0 := fun z => by rcases q12p.1 with q | q; exact q; rw [q] at z; exact absurd z (by decide)
      refine lv_if_eq hx hb d_Md_again_40 rfl (fun h13 => ?_) (fun h13 => ?_)
      · have g13 : r10.toInt = 0 := congrArg Int32.toInt h13
        exact W.vret hx hb hr (fun t ht hW => ⟨⟨M11, rfl, ⟨hI, hF, Or.inl ⟨((fq12 _ _ (by unfold mSp; omega)).trans ((fq8 _ _ (by unfold mRe; omega)).trans ((fq4 _ _ (by unfold mVa; omega)).trans ((wr_off eM1 (by omega)).trans (hlv))))), (q12p.2.2 (hz_r10 (by omega))).1⟩⟩, by unfold ux_E; rw [ht]; exact hP⟩, hS.F ht⟩) hS.2.2 d_Md_again_50
      · have g13 : ¬ (r10.toInt = 0) := fun q => h13 (Int32.toInt_inj.mp q)
        refine lv_aload_n hx hb d_Md_again_43 rfl (lv_at hl 1 rfl) ?_
        refine lv_iconst (v := 2) hx hb d_Md_again_44 (by decide) ?_
        refine lv_iconst (v := 3) hx hb d_Md_again_45 (by decide) ?_
        refine ux_calli (va_runV ⟨hx, hb, hml, hown, hts⟩ (s_Md_enterWord l D ad cA A TB hA hB  M11 hI L hL ((fq12 _ _ (by unfold mSp; omega)).trans ((fq8 _ _ (by unfold mRe; omega)).trans ((fq4 _ _ (by unfold mVa; omega)).trans ((wr_off eM1 (by omega)).trans (hlv))))) hA2 2 (by omega) (by first | assumption | exact hq2 (by omega) | exact fun q => hb2 ((hF _ _ (by unfold mCm; omega)).symm.trans q)) 3 (by decide) (fun _ => ⟨(by first | assumption | exact hq1 (by omega) | exact fun q => hb1 ((hF _ _ (by unfold mCm; omega)).symm.trans q)), (by first | assumption | exact hq2 (by omega) | exact fun q => hb2 ((hF _ _ (by unfold mCm; omega)).symm.trans q))⟩) (fun q => absurd q (by decide))) (cwV 2 hts (tb_goodV ml_Md_284 im_Md_enterWord se_Md_enterWord ii_Md kt_Md_enterWord) rfl rfl rfl (by decide +kernel) ⟨Nat.le_of_ble_eq_true rfl, Nat.le_of_ble_eq_true rfl⟩) (ux_preV (by decide) rfl rfl hP hK hi hN) rfl rfl hl.1 rfl (lv_room (Nat.le_of_ble_eq_true rfl)) d_Md_again_46 ⟨Nat.zero_le _, Nat.zero_le _⟩) hS (fun r14 M15 H locs q16 hP hS => ?_)
        obtain ⟨hI, fq16, q16p⟩ := q16
        have hF := fr_call hF fq16 (fun a b q => q)
        refine lv_pop hx hb d_Md_again_49 rfl ?_
        exact W.vret hx hb hr (fun t ht hW => ⟨⟨M15, rfl, ⟨hI, hF, (OutS_cong (by assumption) q16p.2)⟩, by unfold ux_E; rw [ht]; exact hP⟩, hS.F ht⟩) hS.2.2 d_Md_again_50
    · have g9 : r2.toInt = 0 := congrArg Int32.toInt h9
      refine lv_aload_n hx hb d_Md_again_28 rfl (lv_at hl 1 rfl) ?_
      refine lv_iconst (v := 0) hx hb d_Md_again_29 (by decide) ?_
      refine ux_callv (va_runV ⟨hx, hb, hml, hown, hts⟩ (s_Md_done l D ad cA A TB hA hB  M7 hI 0) (cwV 1 hts (tb_goodV ml_Md_235 im_Md_done se_Md_done ii_Md kt_Md_done) rfl rfl rfl (by decide +kernel) ⟨Nat.le_of_ble_eq_true rfl, Nat.le_of_ble_eq_true rfl⟩) (ux_preV (by decide) rfl rfl hP hK hi hN) rfl rfl hl.1 rfl (lv_room (Nat.le_of_ble_eq_true rfl)) d_Md_again_30 ⟨Nat.zero_le _, Nat.zero_le _⟩) hS (fun M18 H locs q19 hP hS => ?_)
      obtain ⟨hI, fq19, q19p⟩ := q19
      have hF := fr_call hF fq19 (fun a b q => by unfold mDn at q; unfold mCm; omega)
      refine lv_goto hx hb d_Md_again_33 rfl ?_
      exact W.vret hx hb hr (fun t ht hW => ⟨⟨M18, rfl, ⟨hI, hF, Or.inl ⟨((fq19 _ _ (by unfold mDn; omega)).trans ((fq8 _ _ (by unfold mRe; omega)).trans ((fq4 _ _ (by unfold mVa; omega)).trans ((wr_off eM1 (by omega)).trans (hlv))))), q19p.1⟩⟩, by unfold ux_E; rw [ht]; exact hP⟩, hS.F ht⟩) hS.2.2 d_Md_again_50
  · have g5 : (M3 0 23).toInt = 1 := congrArg Int32.toInt h5
    exact W.vret hx hb hr (fun t ht hW => ⟨⟨M3, rfl, ⟨hI, hF, Or.inl ⟨((fq4 _ _ (by unfold mVa; omega)).trans ((wr_off eM1 (by omega)).trans (hlv))), by assumption⟩⟩, by unfold ux_E; rw [ht]; exact hP⟩, hS.F ht⟩) hS.2.2 d_Md_again_19

set_option maxHeartbeats 1600000 in
set_option maxRecDepth 100000 in
theorem s_Md_call (l : Launch) (D : va_G) (ad : Nat → Nat) (cA : Nat → ClassId) (A TB : Nat) (hA : A ≤ 100000000) (hB : TB ≤ 2000000000) (M : ux_M) (hI : IvM A TB M) (L : Nat) (hL : L ≤ 7) (hlv : M 0 10 = nI L) (hA2 : 200 ≤ A) (dp : Nat) (hdp : dp ≤ 25) (hx1 : (M 19 (8 * L + 1)).toInt ≤ 20) : Met l y_Md_call w_Md_call ({ frames := 5, cells := 0, slots := 0, locals := 111 }) (va_Pc [.ref (ad 0), .int (nI dp)] (ux_B D shM KM ad cA M)) (va_Qv (fun M1 => IvM A TB M1 ∧ (∀ a b, ¬ (mCm L) a b → M1 a b = M a b) ∧ (OutS M M1 L)) (ux_E D shM KM ad cA) (ux_A KM ad)) 0 0 (ux_A KM ad) := by
  refine Met.ofW (cc := b_Md_call) (maxL := 3) (ret := none) (by decide) rfl ?_
  intro p e s m args below meth c s₁ B hml hv
  obtain ⟨rfl, hP, hK, hi, hN⟩ := hv
  have hx := B.exec
  have hb := B.bytes
  have hr := B.returns
  have hts := atoms_spec (ws := w_Md_call) B.pre
  have hown : s.vm.findClass R_Md = some m.cls := findClass_of_methodNamed B.named
  have hlocks := B.notSynchronized
  have hT : ∀ w ∈ tb, w.before _ s = true := fun w h => hts w (List.mem_cons_of_mem _ h)
  have hS : va_S (ux_A KM ad) s.heap s.heap [] := va_S.rf
  have hl := lv_entry ([.ref (ad 0), .int (nI dp)]) (n := 3) (Nat.le_of_ble_eq_true rfl)
  rw [lg_entry_eq]
  generalize (lg_sl ([.ref (ad 0), .int (nI dp)]) ++ List.replicate (3 - (lg_sl ([.ref (ad 0), .int (nI dp)])).length) Slot.unset).toArray = ls at hl ⊢
  have hl : lv_has ls 3 [(0, .ref (ad 0)), (1, .int (nI dp))] := hl
  have hF : ∀ a b, ¬ (mCm L) a b → M a b = M a b := fun _ _ _ => rfl
  refine lv_aload_n hx hb d_Md_call_0 rfl (lv_at hl 0 rfl) ?_
  refine lv_iconst (v := 1) hx hb d_Md_call_1 (by decide) ?_
  refine ux_callv (va_runV ⟨hx, hb, hml, hown, hts⟩ (s_Md_take l D ad cA A TB hA hB  M hI L hL (hlv) 1 (by omega) (by omega)) (cwV 1 hts (tb_goodV ml_Md_302 im_Md_take se_Md_take ii_Md kt_Md_take) rfl rfl rfl (by decide +kernel) ⟨Nat.le_of_ble_eq_true rfl, Nat.le_of_ble_eq_true rfl⟩) (ux_preV (by decide) rfl rfl hP hK hi hN) rfl rfl hl.1 rfl (lv_room (Nat.le_of_ble_eq_true rfl)) d_Md_call_2 ⟨Nat.zero_le _, Nat.zero_le _⟩) hS (fun M2 H locs q3 hP hS => ?_)
  obtain ⟨hI, fq3, q3p⟩ := q3
  have hF := fr_call hF fq3 (fun a b q => by unfold mRe at q; unfold mCm; omega)
  refine lv_aload_n hx hb d_Md_call_5 rfl (lv_at hl 0 rfl) ?_
  refine lv_aload_n hx hb d_Md_call_6 rfl (lv_at hl 0 rfl) ?_
  refine ux_get (C := R_Md) (T := F_Md) (N := 50) hx hb hT in_Md hown hK hP (by decide) rfl rfl 7 (by decide) (hT _ fl_Md_27) rfl d_Md_call_7 ?_
  refine lv_iload_n hx hb d_Md_call_10 rfl (lv_at hl 1 rfl) ?_
  refine ux_iald hx hb hK hP (by decide) rfl (vp_in_nI (show dp < 26 by omega) (by decide)) d_Md_call_11 ?_
  rw [nI_clamp (n := dp) (by omega)]
  refine lv_topi (fun z5 hz5 => ?_)
  obtain ⟨c4, hc4, ec4⟩ := nat_of (x := M2 6 dp) (n := 200) (hI.1 6 dp).1 (hI.1 6 dp).2
  rw [ec4] at hz5
  rw [hz5]
  have tc4 : (M2 6 dp).toInt = (c4 : Int) := by rw [ec4]; exact nI_toInt (by omega)
  refine lv_aload_n hx hb d_Md_call_12 rfl (lv_at hl 0 rfl) ?_
  refine ux_get (C := R_Md) (T := F_Md) (N := 50) hx hb hT in_Md hown hK hP (by decide) rfl rfl 8 (by decide) (hT _ fl_Md_30) rfl d_Md_call_13 ?_
  refine lv_iload_n hx hb d_Md_call_16 rfl (lv_at hl 1 rfl) ?_
  refine ux_iald hx hb hK hP (by decide) rfl (vp_in_nI (show dp < 26 by omega) (by decide)) d_Md_call_17 ?_
  rw [nI_clamp (n := dp) (by omega)]
  refine lv_topi (fun z7 hz7 => ?_)
  obtain ⟨c6, hc6, ec6⟩ := nat_of (x := M2 7 dp) (n := 200) (hI.1 7 dp).1 (hI.1 7 dp).2
  rw [ec6] at hz7
  rw [hz7]
  have tc6 : (M2 7 dp).toInt = (c6 : Int) := by rw [ec6]; exact nI_toInt (by omega)
  refine lv_iconst (v := 4) hx hb d_Md_call_18 (by decide) ?_
  refine ux_calli (va_runV ⟨hx, hb, hml, hown, hts⟩ (s_Md_enter l D ad cA A TB hA hB  M2 hI L hL ((fq3 _ _ (by unfold mRe; omega)).trans (hlv)) c4 c6 (by omega) (by omega) 4 (fun q => absurd q (by decide))) (cwV 3 hts (tb_goodV ml_Md_173 im_Md_enter se_Md_enter ii_Md kt_Md_enter) rfl rfl rfl (by decide +kernel) ⟨Nat.le_of_ble_eq_true rfl, Nat.le_of_ble_eq_true rfl⟩) (ux_preV (by decide) rfl rfl hP hK hi hN) rfl rfl hl.1 rfl (lv_room (Nat.le_of_ble_eq_true rfl)) d_Md_call_19 ⟨Nat.zero_le _, Nat.zero_le _⟩) hS (fun r8 M9 H locs q10 hP hS => ?_)
  obtain ⟨hI, fq10, q10p⟩ := q10
  have hF := fr_call hF fq10 (fun a b q => by unfold mEn at q; unfold mCm; omega)
  have q10b : r8 = 0 ∨ r8 = 1 := by rcases q10p with ⟨q, _⟩ | ⟨q, _⟩; exact Or.inr q; exact Or.inl q
  refine lv_if_ne hx hb d_Md_call_22 rfl (fun h11 => ?_) (fun h11 => ?_)
  · have g11 : ¬ (r8.toInt = 0) := fun q => h11 (Int32.toInt_inj.mp q)
    have cut41 : ∀ (nn : Nat) (k2 : Nat) (Mc41 : ux_M) (H : Heap) (locs : List Loc) (ls : Array Slot), 26 - k2 = nn → (k2 ≤ 26) → (L ≤ 6) → (Mc41 0 10 = nI (L + 1)) → (Mc41 0 23 = 0) → (Mc41 11 (L + 1) = 4) → (Mc41 13 (L + 1) = 0) → (Mc41 14 (L + 1) = 0) → ((Mc41 9 (L + 1)).toInt ≤ 200) → va_P D classes (ux_w shM KM ad cA Mc41) H → IvM A TB Mc41 → (∀ a b, ¬ (mCm L) a b → Mc41 a b = M a b) → va_S (ux_A KM ad) s.heap H locs → lv_has ls 3 [(0, .ref (ad 0)), (1, .int (nI dp)), (2, .int (nI k2))] → W p l e (headSpec w_Md_call ({ frames := 5, cells := 0, slots := 0, locals := 111 })).room s m (([.ref (ad 0), .int (nI dp)] : List Value).toArray) below meth c H locs 0 0 (MQ below (va_Qv (fun M1 => IvM A TB M1 ∧ (∀ a b, ¬ (mCm L) a b → M1 a b = M a b) ∧ (OutS M M1 L)) (ux_E D shM KM ad cA) (ux_A KM ad)) (([.ref (ad 0), .int (nI dp)] : List Value).toArray) s 0 0 (ux_A KM ad)) (F0 m 41 ls []) := by
      intro nn
      induction nn using Nat.strongRecOn with
      | ind nn ih41 =>
        intro k2 Mc41 H locs ls hn c41_0 c41_1 c41_2 c41_3 c41_4 c41_5 c41_6 c41_7 hP hI hF hS hl
        refine lv_iload_n hx hb d_Md_call_41 rfl (lv_at hl 2 rfl) ?_
        refine lv_bipush (v := 26) hx hb d_Md_call_42 (by decide) ?_
        refine lv_icmp_ge hx hb d_Md_call_44 rfl (fun h12 => ?_) (fun h12 => ?_)
        · have g12 : 26 ≤ ((k2 : Nat) : Int) := by have q := Int32.le_iff_toInt_le.mp h12; rw [nI_toInt (n := k2) (by omega)] at q; exact q
          refine lv_aload_n hx hb d_Md_call_83 rfl (lv_at hl 0 rfl) ?_
          refine lv_bipush (v := 26) hx hb d_Md_call_84 (by decide) ?_
          refine lv_aload_n hx hb d_Md_call_86 rfl (lv_at hl 0 rfl) ?_
          refine ux_get (C := R_Md) (T := F_Md) (N := 50) hx hb hT in_Md hown hK hP (by decide) rfl rfl 10 (by decide) (hT _ fl_Md_36) rfl d_Md_call_87 ?_
          refine lv_topi (fun z13 hz13 => ?_)
          rw [show Mc41 0 10 = nI (L + 1) from c41_2] at hz13
          rw [hz13]
          refine lv_imul hx hb d_Md_call_90 ?_
          refine lv_topi (fun z14 hz14 => ?_)
          rw [show (26 : Int32) * (nI (L + 1)) = nI (26 * (L + 1)) from pk_mul 26 (L + 1)] at hz14
          rw [hz14]
          refine lv_aload_n hx hb d_Md_call_91 rfl (lv_at hl 0 rfl) ?_
          refine ux_get (C := R_Md) (T := F_Md) (N := 50) hx hb hT in_Md hown hK hP (by decide) rfl rfl 9 (by decide) (hT _ fl_Md_33) rfl d_Md_call_92 ?_
          refine lv_iload_n hx hb d_Md_call_95 rfl (lv_at hl 1 rfl) ?_
          refine ux_iald hx hb hK hP (by decide) rfl (vp_in_nI (show dp < 26 by omega) (by decide)) d_Md_call_96 ?_
          rw [nI_clamp (n := dp) (by omega)]
          refine lv_topi (fun z16 hz16 => ?_)
          obtain ⟨c15, hc15, ec15⟩ := nat_of (x := Mc41 8 dp) (n := 25) (hI.1 8 dp).1 (hI.1 8 dp).2
          rw [ec15] at hz16
          rw [hz16]
          have tc15 : (Mc41 8 dp).toInt = (c15 : Int) := by rw [ec15]; exact nI_toInt (by omega)
          refine lv_iadd hx hb d_Md_call_97 ?_
          refine lv_topi (fun z17 hz17 => ?_)
          rw [show (nI (26 * (L + 1))) + (nI c15) = nI ((26 * (L + 1)) + c15) from nI_add (26 * (L + 1)) c15] at hz17
          rw [hz17]
          refine ux_callv (va_runV ⟨hx, hb, hml, hown, hts⟩ (s_Md_store l D ad cA A TB hA hB  Mc41 hI ((26 * (L + 1)) + c15) (by omega)) (cwV 1 hts (tb_goodV ml_Md_223 im_Md_store se_Md_store ii_Md kt_Md_store) rfl rfl rfl (by decide +kernel) ⟨Nat.le_of_ble_eq_true rfl, Nat.le_of_ble_eq_true rfl⟩) (ux_preV (by decide) rfl rfl hP hK hi hN) rfl rfl hl.1 rfl (lv_room (Nat.le_of_ble_eq_true rfl)) d_Md_call_98 ⟨Nat.zero_le _, Nat.zero_le _⟩) hS (fun M19 H locs q20 hP hS => ?_)
          obtain ⟨hI, fq20, q20p⟩ := q20
          have hF := fr_call hF fq20 (fun a b q => by unfold mSt at q; unfold mCm; omega)
          exact W.vret hx hb hr (fun t ht hW => ⟨⟨M19, rfl, ⟨hI, hF, Or.inr ⟨by omega, (fq20 _ _ (by unfold mSt; omega)).trans c41_2, (fq20 _ _ (by unfold mSt; omega)).trans c41_3, (fq20 _ _ (by unfold mSt; omega)).trans c41_5, (fq20 _ _ (by unfold mSt; omega)).trans c41_6, (by rw [fq20 _ _ (by unfold mSt; omega)]; exact c41_7), ⟨fun z => absurd (((fq20 _ _ (by unfold mSt; omega)).trans c41_4).symm.trans z) (by decide), fun z => absurd (((fq20 _ _ (by unfold mSt; omega)).trans c41_4).symm.trans z) (by decide), fun z => absurd (((fq20 _ _ (by unfold mSt; omega)).trans c41_4).symm.trans z) (by decide)⟩⟩⟩, by unfold ux_E; rw [ht]; exact hP⟩, hS.F ht⟩) hS.2.2 d_Md_call_101
        · have g12 : ¬ (26 ≤ ((k2 : Nat) : Int)) := fun q => h12 (Int32.le_iff_toInt_le.mpr (by rw [nI_toInt (n := k2) (by omega)]; exact q))
          refine lv_aload_n hx hb d_Md_call_47 rfl (lv_at hl 0 rfl) ?_
          refine ux_get (C := R_Md) (T := F_Md) (N := 50) hx hb hT in_Md hown hK hP (by decide) rfl rfl 3 (by decide) (hT _ fl_Md_13) rfl d_Md_call_48 ?_
          refine lv_bipush (v := 26) hx hb d_Md_call_51 (by decide) ?_
          refine lv_aload_n hx hb d_Md_call_53 rfl (lv_at hl 0 rfl) ?_
          refine ux_get (C := R_Md) (T := F_Md) (N := 50) hx hb hT in_Md hown hK hP (by decide) rfl rfl 10 (by decide) (hT _ fl_Md_36) rfl d_Md_call_54 ?_
          refine lv_topi (fun z21 hz21 => ?_)
          rw [show Mc41 0 10 = nI (L + 1) from c41_2] at hz21
          rw [hz21]
          refine lv_imul hx hb d_Md_call_57 ?_
          refine lv_topi (fun z22 hz22 => ?_)
          rw [show (26 : Int32) * (nI (L + 1)) = nI (26 * (L + 1)) from pk_mul 26 (L + 1)] at hz22
          rw [hz22]
          refine lv_iload_n hx hb d_Md_call_58 rfl (lv_at hl 2 rfl) ?_
          refine lv_iadd hx hb d_Md_call_59 ?_
          refine lv_topi (fun z23 hz23 => ?_)
          rw [show (nI (26 * (L + 1))) + (nI k2) = nI ((26 * (L + 1)) + k2) from nI_add (26 * (L + 1)) k2] at hz23
          rw [hz23]
          refine lv_iconst (v := (-1)) hx hb d_Md_call_60 (by decide) ?_
          refine ux_iast hx hb hK hi hP hS (by decide) rfl (vp_in_nI (show (26 * (L + 1)) + k2 < 208 by omega) (by decide)) d_Md_call_61 (fun H locs hP hS => ?_)
          rw [nI_clamp (n := (26 * (L + 1)) + k2) (by omega)] at hP
          have hI := IvM_wr (k := 2) (j := (26 * (L + 1)) + k2) (v := -1) hI (show (-1 : Int) ≤ (-1 : Int32).toInt from (by decide)) (show (-1 : Int32).toInt ≤ (20 : Int) from (by first | decide | (show (-1 : Int) ≤ _; omega))) (by unfold okW; omega)
          have hF := fr_wr (k := 2) (j := (26 * (L + 1)) + k2) (v := -1) hF (by unfold mCm; omega)
          generalize eM24 : ux_wr Mc41 2 ((26 * (L + 1)) + k2) (-1) = M24 at hP hI hF
          have tM24 : (M24 2 ((26 * (L + 1)) + k2)).toInt = (-1) := by rw [wr_at eM24]; rfl
          refine lv_aload_n hx hb d_Md_call_62 rfl (lv_at hl 0 rfl) ?_
          refine ux_get (C := R_Md) (T := F_Md) (N := 50) hx hb hT in_Md hown hK hP (by decide) rfl rfl 5 (by decide) (hT _ fl_Md_20) rfl d_Md_call_63 ?_
          refine lv_bipush (v := 26) hx hb d_Md_call_66 (by decide) ?_
          refine lv_aload_n hx hb d_Md_call_68 rfl (lv_at hl 0 rfl) ?_
          refine ux_get (C := R_Md) (T := F_Md) (N := 50) hx hb hT in_Md hown hK hP (by decide) rfl rfl 10 (by decide) (hT _ fl_Md_36) rfl d_Md_call_69 ?_
          refine lv_topi (fun z25 hz25 => ?_)
          rw [show M24 0 10 = nI (L + 1) from (wr_off eM24 (by omega)).trans (c41_2)] at hz25
          rw [hz25]
          refine lv_imul hx hb d_Md_call_72 ?_
          refine lv_topi (fun z26 hz26 => ?_)
          rw [show (26 : Int32) * (nI (L + 1)) = nI (26 * (L + 1)) from pk_mul 26 (L + 1)] at hz26
          rw [hz26]
          refine lv_iload_n hx hb d_Md_call_73 rfl (lv_at hl 2 rfl) ?_
          refine lv_iadd hx hb d_Md_call_74 ?_
          refine lv_topi (fun z27 hz27 => ?_)
          rw [show (nI (26 * (L + 1))) + (nI k2) = nI ((26 * (L + 1)) + k2) from nI_add (26 * (L + 1)) k2] at hz27
          rw [hz27]
          refine lv_iconst (v := 0) hx hb d_Md_call_75 (by decide) ?_
          refine ux_zast hx hb hK hi hP hS (by decide) rfl (vp_in_nI (show (26 * (L + 1)) + k2 < 208 by omega) (by decide)) d_Md_call_76 (fun H locs hP hS => ?_)
          rw [show vp_nar .boolean 0 = 0 from rfl] at hP
          rw [nI_clamp (n := (26 * (L + 1)) + k2) (by omega)] at hP
          have hI := IvM_free (k := 4) (j := (26 * (L + 1)) + k2) (v := 0) hI rfl rfl (by unfold okW; omega)
          have hF := fr_wr (k := 4) (j := (26 * (L + 1)) + k2) (v := 0) hF (by unfold mCm; omega)
          generalize eM28 : ux_wr M24 4 ((26 * (L + 1)) + k2) 0 = M28 at hP hI hF
          refine lv_iinc (k := 2) (v := nI (k2 + 1)) hx hb d_Md_call_77 hl rfl (nI_add k2 1) (by decide) rfl (fun ls hl => ?_)
          have hl : lv_has ls 3 [(2, .int (nI (k2 + 1))), (0, .ref (ad 0)), (1, .int (nI dp))] := hl
          refine lv_goto hx hb d_Md_call_80 rfl ?_
          exact ih41 (26 - (k2 + 1)) (by omega) (k2 + 1) M28 _ _ ls rfl (show (k2 + 1) ≤ 26 from by first | omega | assumption | exact Or.inl rfl | exact Or.inr rfl | rfl | decide) (show L ≤ 6 from by first | omega | assumption | exact Or.inl rfl | exact Or.inr rfl | rfl | decide) (show M28 0 10 = nI (L + 1) from by first | exact ((wr_off eM28 (by omega)).trans (wr_off eM24 (by omega))).trans c41_2) (show M28 0 23 = 0 from by first | exact ((wr_off eM28 (by omega)).trans (wr_off eM24 (by omega))).trans c41_3) (show M28 11 (L + 1) = 4 from by first | exact ((wr_off eM28 (by omega)).trans (wr_off eM24 (by omega))).trans c41_4) (show M28 13 (L + 1) = 0 from by first | exact ((wr_off eM28 (by omega)).trans (wr_off eM24 (by omega))).trans c41_5) (show M28 14 (L + 1) = 0 from by first | exact ((wr_off eM28 (by omega)).trans (wr_off eM24 (by omega))).trans c41_6) (show (M28 9 (L + 1)).toInt ≤ 200 from by first | (rw [(wr_off eM28 (by omega)).trans (wr_off eM24 (by omega))]; assumption)) hP hI hF hS (lv_sub hl [1, 2, 0] rfl)
    obtain ⟨_, hl6, hlv1, hsg1, hwh1, hmo1, hcn1, hat1, hfr1⟩ := q10p.resolve_right (fun z => by have := congrArg Int32.toInt z.1; rw [show (0 : Int32).toInt = 0 from rfl] at this; omega)
    have hat2 : (M9 9 (L + 1)).toInt ≤ 200 := by rw [hat1, nI_toInt (by omega)]; omega
    refine lv_aload_n hx hb d_Md_call_26 rfl (lv_at hl 0 rfl) ?_
    refine ux_get (C := R_Md) (T := F_Md) (N := 50) hx hb hT in_Md hown hK hP (by decide) rfl rfl 14 (by decide) (hT _ fl_Md_49) rfl d_Md_call_27 ?_
    refine lv_aload_n hx hb d_Md_call_30 rfl (lv_at hl 0 rfl) ?_
    refine ux_get (C := R_Md) (T := F_Md) (N := 50) hx hb hT in_Md hown hK hP (by decide) rfl rfl 10 (by decide) (hT _ fl_Md_36) rfl d_Md_call_31 ?_
    refine lv_topi (fun z29 hz29 => ?_)
    rw [show M9 0 10 = nI (L + 1) from hlv1] at hz29
    rw [hz29]
    refine lv_aload_n hx hb d_Md_call_34 rfl (lv_at hl 0 rfl) ?_
    refine ux_get (C := R_Md) (T := F_Md) (N := 50) hx hb hT in_Md hown hK hP (by decide) rfl rfl 10 (by decide) (hT _ fl_Md_36) rfl d_Md_call_35 ?_
    refine lv_topi (fun z30 hz30 => ?_)
    rw [show M9 0 10 = nI (L + 1) from hlv1] at hz30
    rw [hz30]
    refine ux_iast hx hb hK hi hP hS (by decide) rfl (vp_in_nI (show L + 1 < 8 by omega) (by decide)) d_Md_call_38 (fun H locs hP hS => ?_)
    rw [nI_clamp (n := L + 1) (by omega)] at hP
    have hI := IvM_wr (k := 12) (j := L + 1) (v := nI (L + 1)) hI (show (0 : Int) ≤ (nI (L + 1) : Int32).toInt from (by rw [nI_toInt (n := L + 1) (by omega)]; omega)) (show (nI (L + 1) : Int32).toInt ≤ (7 : Int) from (by rw [nI_toInt (n := L + 1) (by omega)]; omega)) (by unfold okW; omega)
    have hF := fr_wr (k := 12) (j := L + 1) (v := nI (L + 1)) hF (by unfold mCm; omega)
    generalize eM31 : ux_wr M9 12 (L + 1) (nI (L + 1)) = M31 at hP hI hF
    have tM31 : (M31 12 (L + 1)).toInt = ((L + 1 : Nat) : Int) := by rw [wr_at eM31]; exact nI_toInt (by omega)
    refine lv_iconst (v := 0) hx hb d_Md_call_39 (by decide) ?_
    refine lv_istore_n hx hb d_Md_call_40 rfl hl (by decide) rfl (fun ls hl => ?_)
    have hl : lv_has ls 3 [(2, .int 0), (0, .ref (ad 0)), (1, .int (nI dp))] := hl
    exact cut41 (26 - 0) 0 M31 _ _ ls rfl (show 0 ≤ 26 from by first | omega | assumption | exact Or.inl rfl | exact Or.inr rfl | rfl | decide) (show L ≤ 6 from by first | omega | assumption | exact Or.inl rfl | exact Or.inr rfl | rfl | decide) (show M31 0 10 = nI (L + 1) from by first | exact (wr_off eM31 (by omega)).trans hlv1) (show M31 0 23 = 0 from by first | exact (wr_off eM31 (by omega)).trans hsg1) (show M31 11 (L + 1) = 4 from by first | exact (wr_off eM31 (by omega)).trans hwh1) (show M31 13 (L + 1) = 0 from by first | exact (wr_off eM31 (by omega)).trans hmo1) (show M31 14 (L + 1) = 0 from by first | exact (wr_off eM31 (by omega)).trans hcn1) (show (M31 9 (L + 1)).toInt ≤ 200 from by first | (rw [wr_off eM31 (by omega)]; assumption)) hP hI hF hS (lv_sub hl [1, 2, 0] rfl)
  · have g11 : r8.toInt = 0 := congrArg Int32.toInt h11
    exact W.vret hx hb hr (fun t ht hW => ⟨⟨M9, rfl, ⟨hI, hF, (OutS_cong (by assumption) (OutS_en ((fq3 _ _ (by unfold mRe; omega)).trans (hlv)) (by omega) (by decide) (fun q => absurd q (by decide)) (fun q => absurd q (by decide)) q10p).2)⟩, by unfold ux_E; rw [ht]; exact hP⟩, hS.F ht⟩) hS.2.2 d_Md_call_25
