/-! The reference, safe: an operand; written by wip/gen/ref.py -/
set_option maxHeartbeats 1600000 in
set_option maxRecDepth 100000 in
theorem s_Md_operand (l : Launch) (D : va_G) (ad : Nat → Nat) (cA : Nat → ClassId) (A TB : Nat) (hA : A ≤ 100000000) (hB : TB ≤ 2000000000) (M : ux_M) (hI : IvM A TB M) (L : Nat) (hL : L ≤ 7) (hlv : M 0 10 = nI L) (k sp v : Nat) (hk : k < sp) (hsp : sp ≤ 200) (hv : M 0 32 = nI v) (hv2 : v ≤ 208) : Met l y_Md_operand w_Md_operand ({ frames := 3, cells := 0, slots := 0, locals := 72 }) (va_Pc [.ref (ad 0), .int (nI k), .int (nI sp)] (ux_B D shM KM ad cA M)) (va_Qi (fun r M1 => IvM A TB M1 ∧ (∀ a b, ¬ mOp a b → M1 a b = M a b) ∧ (M1 0 32 = nI (v + 1) ∧ (∃ q, r = nI q ∧ k ≤ q ∧ q ≤ sp + 1 ∧ ((M1 0 34).toInt = 1 ∨ k < q)) ∧ ((M 0 34).toInt = 1 → (M1 0 34).toInt = 1))) (ux_E D shM KM ad cA) (ux_A KM ad)) 0 0 (ux_A KM ad) := by
  refine Met.ofW (cc := b_Md_operand) (maxL := 7) (ret := (some .int)) (by decide) rfl ?_
  intro p e s m args below meth c s₁ B hml hv
  obtain ⟨rfl, hP, hK, hi, hN⟩ := hv
  have hx := B.exec
  have hb := B.bytes
  have hr := B.returns
  have hts := atoms_spec (ws := w_Md_operand) B.pre
  have hown : s.vm.findClass R_Md = some m.cls := findClass_of_methodNamed B.named
  have hlocks := B.notSynchronized
  have hT : ∀ w ∈ tb, w.before _ s = true := fun w h => hts w (List.mem_cons_of_mem _ h)
  have hS : va_S (ux_A KM ad) s.heap s.heap [] := va_S.rf
  have hl := lv_entry ([.ref (ad 0), .int (nI k), .int (nI sp)]) (n := 7) (Nat.le_of_ble_eq_true rfl)
  rw [lg_entry_eq]
  generalize (lg_sl ([.ref (ad 0), .int (nI k), .int (nI sp)]) ++ List.replicate (7 - (lg_sl ([.ref (ad 0), .int (nI k), .int (nI sp)])).length) Slot.unset).toArray = ls at hl ⊢
  have hl : lv_has ls 7 [(0, .ref (ad 0)), (1, .int (nI k)), (2, .int (nI sp))] := hl
  have hF : ∀ a b, ¬ mOp a b → M a b = M a b := fun _ _ _ => rfl
  have cut85 : ∀ (nn : Nat) (i_4 : Int32) (k5 v1 : Nat) (Mc85 : ux_M) (H : Heap) (locs : List Loc) (ls : Array Slot), 200 - k5 = nn → (Mc85 0 32 = nI v1) → (k ≤ k5) → (k5 ≤ sp) → (v1 = v) → ((Mc85 0 34).toInt = (M 0 34).toInt) → va_P D classes (ux_w shM KM ad cA Mc85) H → IvM A TB Mc85 → (∀ a b, ¬ mOp a b → Mc85 a b = M a b) → va_S (ux_A KM ad) s.heap H locs → lv_has ls 7 [(0, .ref (ad 0)), (1, .int (nI k)), (2, .int (nI sp)), (4, .int i_4), (5, .int (nI k5))] → W p l e (headSpec w_Md_operand ({ frames := 3, cells := 0, slots := 0, locals := 72 })).room s m (([.ref (ad 0), .int (nI k), .int (nI sp)] : List Value).toArray) below meth c H locs 0 0 (MQ below (va_Qi (fun r M1 => IvM A TB M1 ∧ (∀ a b, ¬ mOp a b → M1 a b = M a b) ∧ (M1 0 32 = nI (v + 1) ∧ (∃ q, r = nI q ∧ k ≤ q ∧ q ≤ sp + 1 ∧ ((M1 0 34).toInt = 1 ∨ k < q)) ∧ ((M 0 34).toInt = 1 → (M1 0 34).toInt = 1))) (ux_E D shM KM ad cA) (ux_A KM ad)) (([.ref (ad 0), .int (nI k), .int (nI sp)] : List Value).toArray) s 0 0 (ux_A KM ad)) (F0 m 85 ls []) := by
    intro nn
    induction nn using Nat.strongRecOn with
    | ind nn ih85 =>
      intro i_4 k5 v1 Mc85 H locs ls hn hg_v1 c85_0 c85_1 c85_2 c85_3 hP hI hF hS hl
      refine lv_iload hx hb d_Md_operand_85 (lv_at hl 4 rfl) ?_
      refine lv_iload_n hx hb d_Md_operand_87 rfl (lv_at hl 2 rfl) ?_
      refine lv_icmp_ge hx hb d_Md_operand_88 rfl (fun h1 => ?_) (fun h1 => ?_)
      · have g1 : ((sp : Nat) : Int) ≤ ((k5 : Nat) : Int) := by have q := Int32.le_iff_toInt_le.mp h1; rw [nI_toInt (n := sp) (by omega), nI_toInt (n := k5) (by omega)] at q; exact q
        refine lv_iload hx hb d_Md_operand_148 (lv_at hl 4 rfl) ?_
        refine lv_iload_n hx hb d_Md_operand_150 rfl (lv_at hl 1 rfl) ?_
        refine lv_icmp_ne hx hb d_Md_operand_151 rfl (fun h2 => ?_) (fun h2 => ?_)
        · have g2 : ¬ (((k5 : Nat) : Int) = ((k : Nat) : Int)) := fun q => h2 (Int32.toInt_inj.mp (by rw [nI_toInt (n := k5) (by omega), nI_toInt (n := k) (by omega)]; exact q))
          refine lv_aload_n hx hb d_Md_operand_159 rfl (lv_at hl 0 rfl) ?_
          refine ux_get (C := R_Md) (T := F_Md) (N := 50) hx hb hT in_Md hown hK hP (by decide) rfl rfl 30 (by decide) (hT _ fl_Md_82) rfl d_Md_operand_160 ?_
          refine lv_aload_n hx hb d_Md_operand_163 rfl (lv_at hl 0 rfl) ?_
          refine ux_get (C := R_Md) (T := F_Md) (N := 50) hx hb hT in_Md hown hK hP (by decide) rfl rfl 32 (by decide) (hT _ fl_Md_341) rfl d_Md_operand_164 ?_
          refine lv_topi (fun z3 hz3 => ?_)
          rw [show Mc85 0 32 = nI v1 from hg_v1] at hz3
          rw [hz3]
          refine lv_iload hx hb d_Md_operand_167 (lv_at hl 3 rfl) ?_
          refine ux_iast hx hb hK hi hP hS (by decide) rfl (vp_in_nI (show v1 < 210 by omega) (by decide)) d_Md_operand_169 (fun H locs hP hS => ?_)
          rw [nI_clamp (n := v1) (by omega)] at hP
          have hI := IvM_free (k := 23) (j := v1) (v := i_4) hI rfl rfl (by unfold okW; omega)
          have hF := fr_wr (k := 23) (j := v1) (v := i_4) hF (by unfold mOp; omega)
          generalize eM4 : ux_wr Mc85 23 v1 i_4 = M4 at hP hI hF
          refine lv_aload_n hx hb d_Md_operand_170 rfl (lv_at hl 0 rfl) ?_
          refine lv_dup hx hb d_Md_operand_171 rfl ?_
          refine ux_get (C := R_Md) (T := F_Md) (N := 50) hx hb hT in_Md hown hK hP (by decide) rfl rfl 32 (by decide) (hT _ fl_Md_341) rfl d_Md_operand_172 ?_
          refine lv_topi (fun z5 hz5 => ?_)
          rw [show M4 0 32 = nI v1 from (wr_off eM4 (by omega)).trans (hg_v1)] at hz5
          rw [hz5]
          refine lv_iconst (v := 1) hx hb d_Md_operand_175 (by decide) ?_
          refine lv_iadd hx hb d_Md_operand_176 ?_
          refine lv_topi (fun z6 hz6 => ?_)
          rw [show (nI v1) + (1 : Int32) = nI (v1 + 1) from nI_add v1 1] at hz6
          rw [hz6]
          refine ux_put (C := R_Md) (T := F_Md) (N := 50) hx hb hT in_Md t_Md t_Md_ok n_Md hown hK hi hP hS (by decide) rfl rfl 32 (by decide) (hT _ fl_Md_341) rfl (rfl) (rfl) rfl d_Md_operand_177 (fun H locs hP hS => ?_)
          have hI := IvM_wr (k := 0) (j := 32) (v := nI (v1 + 1)) hI (show (0 : Int) ≤ (nI (v1 + 1) : Int32).toInt from (by rw [nI_toInt (n := v1 + 1) (by omega)]; omega)) (show (nI (v1 + 1) : Int32).toInt ≤ (210 : Int) from (by rw [nI_toInt (n := v1 + 1) (by omega)]; omega)) (by unfold okW; omega)
          have hF := fr_wr (k := 0) (j := 32) (v := nI (v1 + 1)) hF (by unfold mOp; omega)
          generalize eM7 : ux_wr M4 0 32 (nI (v1 + 1)) = M7 at hP hI hF
          have tM7 : (M7 0 32).toInt = ((v1 + 1 : Nat) : Int) := by rw [wr_at eM7]; exact nI_toInt (by omega)
          refine lv_iload hx hb d_Md_operand_180 (lv_at hl 4 rfl) ?_
          exact W.iret (v := nI k5) hx hb hr (fun t ht hW => ⟨⟨nI k5, M7, rfl, ⟨hI, hF, ⟨(wr_at eM7).trans (congrArg nI (by omega)), ⟨k5, rfl, by omega, by omega, (by have := congrArg Int32.toInt (show M7 0 34 = Mc85 0 34 from (wr_off eM7 (by omega)).trans (wr_off eM4 (by omega))); omega)⟩, (by have := congrArg Int32.toInt (show M7 0 34 = Mc85 0 34 from (wr_off eM7 (by omega)).trans (wr_off eM4 (by omega))); omega)⟩⟩, by unfold ux_E; rw [ht]; exact hP⟩, hS.F ht⟩) hS.2.2 d_Md_operand_182
        · have g2 : ((k5 : Nat) : Int) = ((k : Nat) : Int) := by have q := congrArg Int32.toInt h2; rw [nI_toInt (n := k5) (by omega), nI_toInt (n := k) (by omega)] at q; exact q
          refine lv_aload_n hx hb d_Md_operand_154 rfl (lv_at hl 0 rfl) ?_
          refine lv_iconst (v := 1) hx hb d_Md_operand_155 (by decide) ?_
          refine ux_callv (va_runV ⟨hx, hb, hml, hown, hts⟩ (s_Md_ill l D ad cA A TB hA hB  Mc85 hI 1) (cwV 1 hts (tb_goodV ml_Md_354 im_Md_ill se_Md_ill ii_Md kt_Md_ill) rfl rfl rfl (by decide +kernel) ⟨Nat.le_of_ble_eq_true rfl, Nat.le_of_ble_eq_true rfl⟩) (ux_preV (by decide) rfl rfl hP hK hi hN) rfl rfl hl.1 rfl (lv_room (Nat.le_of_ble_eq_true rfl)) d_Md_operand_156 ⟨Nat.zero_le _, Nat.zero_le _⟩) hS (fun M9 H locs q10 hP hS => ?_)
          obtain ⟨hI, fq10, q10p⟩ := q10
          have hF := fr_call hF fq10 (fun a b q => by unfold mIl at q; unfold mOp; omega)
          rw [show (1 : Int32).toInt = 1 from rfl] at q10p
          refine lv_aload_n hx hb d_Md_operand_159 rfl (lv_at hl 0 rfl) ?_
          refine ux_get (C := R_Md) (T := F_Md) (N := 50) hx hb hT in_Md hown hK hP (by decide) rfl rfl 30 (by decide) (hT _ fl_Md_82) rfl d_Md_operand_160 ?_
          refine lv_aload_n hx hb d_Md_operand_163 rfl (lv_at hl 0 rfl) ?_
          refine ux_get (C := R_Md) (T := F_Md) (N := 50) hx hb hT in_Md hown hK hP (by decide) rfl rfl 32 (by decide) (hT _ fl_Md_341) rfl d_Md_operand_164 ?_
          refine lv_topi (fun z11 hz11 => ?_)
          rw [show M9 0 32 = nI v1 from (fq10 _ _ (by unfold mIl; omega)).trans (hg_v1)] at hz11
          rw [hz11]
          refine lv_iload hx hb d_Md_operand_167 (lv_at hl 3 rfl) ?_
          refine ux_iast hx hb hK hi hP hS (by decide) rfl (vp_in_nI (show v1 < 210 by omega) (by decide)) d_Md_operand_169 (fun H locs hP hS => ?_)
          rw [nI_clamp (n := v1) (by omega)] at hP
          have hI := IvM_free (k := 23) (j := v1) (v := i_4) hI rfl rfl (by unfold okW; omega)
          have hF := fr_wr (k := 23) (j := v1) (v := i_4) hF (by unfold mOp; omega)
          generalize eM12 : ux_wr M9 23 v1 i_4 = M12 at hP hI hF
          refine lv_aload_n hx hb d_Md_operand_170 rfl (lv_at hl 0 rfl) ?_
          refine lv_dup hx hb d_Md_operand_171 rfl ?_
          refine ux_get (C := R_Md) (T := F_Md) (N := 50) hx hb hT in_Md hown hK hP (by decide) rfl rfl 32 (by decide) (hT _ fl_Md_341) rfl d_Md_operand_172 ?_
          refine lv_topi (fun z13 hz13 => ?_)
          rw [show M12 0 32 = nI v1 from (wr_off eM12 (by omega)).trans ((fq10 _ _ (by unfold mIl; omega)).trans (hg_v1))] at hz13
          rw [hz13]
          refine lv_iconst (v := 1) hx hb d_Md_operand_175 (by decide) ?_
          refine lv_iadd hx hb d_Md_operand_176 ?_
          refine lv_topi (fun z14 hz14 => ?_)
          rw [show (nI v1) + (1 : Int32) = nI (v1 + 1) from nI_add v1 1] at hz14
          rw [hz14]
          refine ux_put (C := R_Md) (T := F_Md) (N := 50) hx hb hT in_Md t_Md t_Md_ok n_Md hown hK hi hP hS (by decide) rfl rfl 32 (by decide) (hT _ fl_Md_341) rfl (rfl) (rfl) rfl d_Md_operand_177 (fun H locs hP hS => ?_)
          have hI := IvM_wr (k := 0) (j := 32) (v := nI (v1 + 1)) hI (show (0 : Int) ≤ (nI (v1 + 1) : Int32).toInt from (by rw [nI_toInt (n := v1 + 1) (by omega)]; omega)) (show (nI (v1 + 1) : Int32).toInt ≤ (210 : Int) from (by rw [nI_toInt (n := v1 + 1) (by omega)]; omega)) (by unfold okW; omega)
          have hF := fr_wr (k := 0) (j := 32) (v := nI (v1 + 1)) hF (by unfold mOp; omega)
          generalize eM15 : ux_wr M12 0 32 (nI (v1 + 1)) = M15 at hP hI hF
          have tM15 : (M15 0 32).toInt = ((v1 + 1 : Nat) : Int) := by rw [wr_at eM15]; exact nI_toInt (by omega)
          refine lv_iload hx hb d_Md_operand_180 (lv_at hl 4 rfl) ?_
          exact W.iret (v := nI k5) hx hb hr (fun t ht hW => ⟨⟨nI k5, M15, rfl, ⟨hI, hF, ⟨(wr_at eM15).trans (congrArg nI (by omega)), ⟨k5, rfl, by omega, by omega, (by have := congrArg Int32.toInt (show M15 0 34 = M9 0 34 from (wr_off eM15 (by omega)).trans (wr_off eM12 (by omega))); omega)⟩, (by have := congrArg Int32.toInt (show M15 0 34 = M9 0 34 from (wr_off eM15 (by omega)).trans (wr_off eM12 (by omega))); omega)⟩⟩, by unfold ux_E; rw [ht]; exact hP⟩, hS.F ht⟩) hS.2.2 d_Md_operand_182
      · have g1 : ¬ (((sp : Nat) : Int) ≤ ((k5 : Nat) : Int)) := fun q => h1 (Int32.le_iff_toInt_le.mpr (by rw [nI_toInt (n := sp) (by omega), nI_toInt (n := k5) (by omega)]; exact q))
        refine lv_iload hx hb d_Md_operand_91 (lv_at hl 4 rfl) ?_
        refine lv_iload_n hx hb d_Md_operand_93 rfl (lv_at hl 1 rfl) ?_
        refine lv_bipush (v := 10) hx hb d_Md_operand_94 (by decide) ?_
        refine lv_iadd hx hb d_Md_operand_96 ?_
        refine lv_topi (fun z16 hz16 => ?_)
        rw [show (nI k) + (10 : Int32) = nI (k + 10) from nI_add k 10] at hz16
        rw [hz16]
        refine lv_icmp_ge hx hb d_Md_operand_97 rfl (fun h17 => ?_) (fun h17 => ?_)
        · have g17 : ((k + 10 : Nat) : Int) ≤ ((k5 : Nat) : Int) := by have q := Int32.le_iff_toInt_le.mp h17; rw [nI_toInt (n := k + 10) (by omega), nI_toInt (n := k5) (by omega)] at q; exact q
          refine lv_iload hx hb d_Md_operand_148 (lv_at hl 4 rfl) ?_
          refine lv_iload_n hx hb d_Md_operand_150 rfl (lv_at hl 1 rfl) ?_
          refine lv_icmp_ne hx hb d_Md_operand_151 rfl (fun h18 => ?_) (fun h18 => ?_)
          · have g18 : ¬ (((k5 : Nat) : Int) = ((k : Nat) : Int)) := fun q => h18 (Int32.toInt_inj.mp (by rw [nI_toInt (n := k5) (by omega), nI_toInt (n := k) (by omega)]; exact q))
            refine lv_aload_n hx hb d_Md_operand_159 rfl (lv_at hl 0 rfl) ?_
            refine ux_get (C := R_Md) (T := F_Md) (N := 50) hx hb hT in_Md hown hK hP (by decide) rfl rfl 30 (by decide) (hT _ fl_Md_82) rfl d_Md_operand_160 ?_
            refine lv_aload_n hx hb d_Md_operand_163 rfl (lv_at hl 0 rfl) ?_
            refine ux_get (C := R_Md) (T := F_Md) (N := 50) hx hb hT in_Md hown hK hP (by decide) rfl rfl 32 (by decide) (hT _ fl_Md_341) rfl d_Md_operand_164 ?_
            refine lv_topi (fun z19 hz19 => ?_)
            rw [show Mc85 0 32 = nI v1 from hg_v1] at hz19
            rw [hz19]
            refine lv_iload hx hb d_Md_operand_167 (lv_at hl 3 rfl) ?_
            refine ux_iast hx hb hK hi hP hS (by decide) rfl (vp_in_nI (show v1 < 210 by omega) (by decide)) d_Md_operand_169 (fun H locs hP hS => ?_)
            rw [nI_clamp (n := v1) (by omega)] at hP
            have hI := IvM_free (k := 23) (j := v1) (v := i_4) hI rfl rfl (by unfold okW; omega)
            have hF := fr_wr (k := 23) (j := v1) (v := i_4) hF (by unfold mOp; omega)
            generalize eM20 : ux_wr Mc85 23 v1 i_4 = M20 at hP hI hF
            refine lv_aload_n hx hb d_Md_operand_170 rfl (lv_at hl 0 rfl) ?_
            refine lv_dup hx hb d_Md_operand_171 rfl ?_
            refine ux_get (C := R_Md) (T := F_Md) (N := 50) hx hb hT in_Md hown hK hP (by decide) rfl rfl 32 (by decide) (hT _ fl_Md_341) rfl d_Md_operand_172 ?_
            refine lv_topi (fun z21 hz21 => ?_)
            rw [show M20 0 32 = nI v1 from (wr_off eM20 (by omega)).trans (hg_v1)] at hz21
            rw [hz21]
            refine lv_iconst (v := 1) hx hb d_Md_operand_175 (by decide) ?_
            refine lv_iadd hx hb d_Md_operand_176 ?_
            refine lv_topi (fun z22 hz22 => ?_)
            rw [show (nI v1) + (1 : Int32) = nI (v1 + 1) from nI_add v1 1] at hz22
            rw [hz22]
            refine ux_put (C := R_Md) (T := F_Md) (N := 50) hx hb hT in_Md t_Md t_Md_ok n_Md hown hK hi hP hS (by decide) rfl rfl 32 (by decide) (hT _ fl_Md_341) rfl (rfl) (rfl) rfl d_Md_operand_177 (fun H locs hP hS => ?_)
            have hI := IvM_wr (k := 0) (j := 32) (v := nI (v1 + 1)) hI (show (0 : Int) ≤ (nI (v1 + 1) : Int32).toInt from (by rw [nI_toInt (n := v1 + 1) (by omega)]; omega)) (show (nI (v1 + 1) : Int32).toInt ≤ (210 : Int) from (by rw [nI_toInt (n := v1 + 1) (by omega)]; omega)) (by unfold okW; omega)
            have hF := fr_wr (k := 0) (j := 32) (v := nI (v1 + 1)) hF (by unfold mOp; omega)
            generalize eM23 : ux_wr M20 0 32 (nI (v1 + 1)) = M23 at hP hI hF
            have tM23 : (M23 0 32).toInt = ((v1 + 1 : Nat) : Int) := by rw [wr_at eM23]; exact nI_toInt (by omega)
            refine lv_iload hx hb d_Md_operand_180 (lv_at hl 4 rfl) ?_
            exact W.iret (v := nI k5) hx hb hr (fun t ht hW => ⟨⟨nI k5, M23, rfl, ⟨hI, hF, ⟨(wr_at eM23).trans (congrArg nI (by omega)), ⟨k5, rfl, by omega, by omega, (by have := congrArg Int32.toInt (show M23 0 34 = Mc85 0 34 from (wr_off eM23 (by omega)).trans (wr_off eM20 (by omega))); omega)⟩, (by have := congrArg Int32.toInt (show M23 0 34 = Mc85 0 34 from (wr_off eM23 (by omega)).trans (wr_off eM20 (by omega))); omega)⟩⟩, by unfold ux_E; rw [ht]; exact hP⟩, hS.F ht⟩) hS.2.2 d_Md_operand_182
          · have g18 : ((k5 : Nat) : Int) = ((k : Nat) : Int) := by have q := congrArg Int32.toInt h18; rw [nI_toInt (n := k5) (by omega), nI_toInt (n := k) (by omega)] at q; exact q
            refine lv_aload_n hx hb d_Md_operand_154 rfl (lv_at hl 0 rfl) ?_
            refine lv_iconst (v := 1) hx hb d_Md_operand_155 (by decide) ?_
            refine ux_callv (va_runV ⟨hx, hb, hml, hown, hts⟩ (s_Md_ill l D ad cA A TB hA hB  Mc85 hI 1) (cwV 1 hts (tb_goodV ml_Md_354 im_Md_ill se_Md_ill ii_Md kt_Md_ill) rfl rfl rfl (by decide +kernel) ⟨Nat.le_of_ble_eq_true rfl, Nat.le_of_ble_eq_true rfl⟩) (ux_preV (by decide) rfl rfl hP hK hi hN) rfl rfl hl.1 rfl (lv_room (Nat.le_of_ble_eq_true rfl)) d_Md_operand_156 ⟨Nat.zero_le _, Nat.zero_le _⟩) hS (fun M25 H locs q26 hP hS => ?_)
            obtain ⟨hI, fq26, q26p⟩ := q26
            have hF := fr_call hF fq26 (fun a b q => by unfold mIl at q; unfold mOp; omega)
            rw [show (1 : Int32).toInt = 1 from rfl] at q26p
            refine lv_aload_n hx hb d_Md_operand_159 rfl (lv_at hl 0 rfl) ?_
            refine ux_get (C := R_Md) (T := F_Md) (N := 50) hx hb hT in_Md hown hK hP (by decide) rfl rfl 30 (by decide) (hT _ fl_Md_82) rfl d_Md_operand_160 ?_
            refine lv_aload_n hx hb d_Md_operand_163 rfl (lv_at hl 0 rfl) ?_
            refine ux_get (C := R_Md) (T := F_Md) (N := 50) hx hb hT in_Md hown hK hP (by decide) rfl rfl 32 (by decide) (hT _ fl_Md_341) rfl d_Md_operand_164 ?_
            refine lv_topi (fun z27 hz27 => ?_)
            rw [show M25 0 32 = nI v1 from (fq26 _ _ (by unfold mIl; omega)).trans (hg_v1)] at hz27
            rw [hz27]
            refine lv_iload hx hb d_Md_operand_167 (lv_at hl 3 rfl) ?_
            refine ux_iast hx hb hK hi hP hS (by decide) rfl (vp_in_nI (show v1 < 210 by omega) (by decide)) d_Md_operand_169 (fun H locs hP hS => ?_)
            rw [nI_clamp (n := v1) (by omega)] at hP
            have hI := IvM_free (k := 23) (j := v1) (v := i_4) hI rfl rfl (by unfold okW; omega)
            have hF := fr_wr (k := 23) (j := v1) (v := i_4) hF (by unfold mOp; omega)
            generalize eM28 : ux_wr M25 23 v1 i_4 = M28 at hP hI hF
            refine lv_aload_n hx hb d_Md_operand_170 rfl (lv_at hl 0 rfl) ?_
            refine lv_dup hx hb d_Md_operand_171 rfl ?_
            refine ux_get (C := R_Md) (T := F_Md) (N := 50) hx hb hT in_Md hown hK hP (by decide) rfl rfl 32 (by decide) (hT _ fl_Md_341) rfl d_Md_operand_172 ?_
            refine lv_topi (fun z29 hz29 => ?_)
            rw [show M28 0 32 = nI v1 from (wr_off eM28 (by omega)).trans ((fq26 _ _ (by unfold mIl; omega)).trans (hg_v1))] at hz29
            rw [hz29]
            refine lv_iconst (v := 1) hx hb d_Md_operand_175 (by decide) ?_
            refine lv_iadd hx hb d_Md_operand_176 ?_
            refine lv_topi (fun z30 hz30 => ?_)
            rw [show (nI v1) + (1 : Int32) = nI (v1 + 1) from nI_add v1 1] at hz30
            rw [hz30]
            refine ux_put (C := R_Md) (T := F_Md) (N := 50) hx hb hT in_Md t_Md t_Md_ok n_Md hown hK hi hP hS (by decide) rfl rfl 32 (by decide) (hT _ fl_Md_341) rfl (rfl) (rfl) rfl d_Md_operand_177 (fun H locs hP hS => ?_)
            have hI := IvM_wr (k := 0) (j := 32) (v := nI (v1 + 1)) hI (show (0 : Int) ≤ (nI (v1 + 1) : Int32).toInt from (by rw [nI_toInt (n := v1 + 1) (by omega)]; omega)) (show (nI (v1 + 1) : Int32).toInt ≤ (210 : Int) from (by rw [nI_toInt (n := v1 + 1) (by omega)]; omega)) (by unfold okW; omega)
            have hF := fr_wr (k := 0) (j := 32) (v := nI (v1 + 1)) hF (by unfold mOp; omega)
            generalize eM31 : ux_wr M28 0 32 (nI (v1 + 1)) = M31 at hP hI hF
            have tM31 : (M31 0 32).toInt = ((v1 + 1 : Nat) : Int) := by rw [wr_at eM31]; exact nI_toInt (by omega)
            refine lv_iload hx hb d_Md_operand_180 (lv_at hl 4 rfl) ?_
            exact W.iret (v := nI k5) hx hb hr (fun t ht hW => ⟨⟨nI k5, M31, rfl, ⟨hI, hF, ⟨(wr_at eM31).trans (congrArg nI (by omega)), ⟨k5, rfl, by omega, by omega, (by have := congrArg Int32.toInt (show M31 0 34 = M25 0 34 from (wr_off eM31 (by omega)).trans (wr_off eM28 (by omega))); omega)⟩, (by have := congrArg Int32.toInt (show M31 0 34 = M25 0 34 from (wr_off eM31 (by omega)).trans (wr_off eM28 (by omega))); omega)⟩⟩, by unfold ux_E; rw [ht]; exact hP⟩, hS.F ht⟩) hS.2.2 d_Md_operand_182
        · have g17 : ¬ (((k + 10 : Nat) : Int) ≤ ((k5 : Nat) : Int)) := fun q => h17 (Int32.le_iff_toInt_le.mpr (by rw [nI_toInt (n := k + 10) (by omega), nI_toInt (n := k5) (by omega)]; exact q))
          refine lv_aload_n hx hb d_Md_operand_100 rfl (lv_at hl 0 rfl) ?_
          refine ux_get (C := R_Md) (T := F_Md) (N := 50) hx hb hT in_Md hown hK hP (by decide) rfl rfl 0 (by decide) (hT _ fl_Md_7) rfl d_Md_operand_101 ?_
          refine lv_iload hx hb d_Md_operand_104 (lv_at hl 4 rfl) ?_
          refine ux_cald hx hb hK hP (by decide) rfl (vp_in_nI (show k5 < 200 by omega) (by decide)) d_Md_operand_106 ?_
          rw [nI_clamp (n := k5) (by omega)]
          refine lv_topi (fun z33 hz33 => ?_)
          obtain ⟨c32, hc32, ec32⟩ := nat_of (x := Mc85 1 k5) (n := 65535) (hI.1 1 k5).1 (hI.1 1 k5).2
          rw [ec32] at hz33
          rw [hz33]
          have tc32 : (Mc85 1 k5).toInt = (c32 : Int) := by rw [ec32]; exact nI_toInt (by omega)
          refine lv_bipush (v := 48) hx hb d_Md_operand_107 (by decide) ?_
          refine lv_icmp_lt hx hb d_Md_operand_109 rfl (fun h34 => ?_) (fun h34 => ?_)
          · have g34 : ((c32 : Nat) : Int) < 48 := by have q := Int32.lt_iff_toInt_lt.mp h34; rw [nI_toInt (n := c32) (by omega)] at q; exact q
            refine lv_iload hx hb d_Md_operand_148 (lv_at hl 4 rfl) ?_
            refine lv_iload_n hx hb d_Md_operand_150 rfl (lv_at hl 1 rfl) ?_
            refine lv_icmp_ne hx hb d_Md_operand_151 rfl (fun h35 => ?_) (fun h35 => ?_)
            · have g35 : ¬ (((k5 : Nat) : Int) = ((k : Nat) : Int)) := fun q => h35 (Int32.toInt_inj.mp (by rw [nI_toInt (n := k5) (by omega), nI_toInt (n := k) (by omega)]; exact q))
              refine lv_aload_n hx hb d_Md_operand_159 rfl (lv_at hl 0 rfl) ?_
              refine ux_get (C := R_Md) (T := F_Md) (N := 50) hx hb hT in_Md hown hK hP (by decide) rfl rfl 30 (by decide) (hT _ fl_Md_82) rfl d_Md_operand_160 ?_
              refine lv_aload_n hx hb d_Md_operand_163 rfl (lv_at hl 0 rfl) ?_
              refine ux_get (C := R_Md) (T := F_Md) (N := 50) hx hb hT in_Md hown hK hP (by decide) rfl rfl 32 (by decide) (hT _ fl_Md_341) rfl d_Md_operand_164 ?_
              refine lv_topi (fun z36 hz36 => ?_)
              rw [show Mc85 0 32 = nI v1 from hg_v1] at hz36
              rw [hz36]
              refine lv_iload hx hb d_Md_operand_167 (lv_at hl 3 rfl) ?_
              refine ux_iast hx hb hK hi hP hS (by decide) rfl (vp_in_nI (show v1 < 210 by omega) (by decide)) d_Md_operand_169 (fun H locs hP hS => ?_)
              rw [nI_clamp (n := v1) (by omega)] at hP
              have hI := IvM_free (k := 23) (j := v1) (v := i_4) hI rfl rfl (by unfold okW; omega)
              have hF := fr_wr (k := 23) (j := v1) (v := i_4) hF (by unfold mOp; omega)
              generalize eM37 : ux_wr Mc85 23 v1 i_4 = M37 at hP hI hF
              refine lv_aload_n hx hb d_Md_operand_170 rfl (lv_at hl 0 rfl) ?_
              refine lv_dup hx hb d_Md_operand_171 rfl ?_
              refine ux_get (C := R_Md) (T := F_Md) (N := 50) hx hb hT in_Md hown hK hP (by decide) rfl rfl 32 (by decide) (hT _ fl_Md_341) rfl d_Md_operand_172 ?_
              refine lv_topi (fun z38 hz38 => ?_)
              rw [show M37 0 32 = nI v1 from (wr_off eM37 (by omega)).trans (hg_v1)] at hz38
              rw [hz38]
              refine lv_iconst (v := 1) hx hb d_Md_operand_175 (by decide) ?_
              refine lv_iadd hx hb d_Md_operand_176 ?_
              refine lv_topi (fun z39 hz39 => ?_)
              rw [show (nI v1) + (1 : Int32) = nI (v1 + 1) from nI_add v1 1] at hz39
              rw [hz39]
              refine ux_put (C := R_Md) (T := F_Md) (N := 50) hx hb hT in_Md t_Md t_Md_ok n_Md hown hK hi hP hS (by decide) rfl rfl 32 (by decide) (hT _ fl_Md_341) rfl (rfl) (rfl) rfl d_Md_operand_177 (fun H locs hP hS => ?_)
              have hI := IvM_wr (k := 0) (j := 32) (v := nI (v1 + 1)) hI (show (0 : Int) ≤ (nI (v1 + 1) : Int32).toInt from (by rw [nI_toInt (n := v1 + 1) (by omega)]; omega)) (show (nI (v1 + 1) : Int32).toInt ≤ (210 : Int) from (by rw [nI_toInt (n := v1 + 1) (by omega)]; omega)) (by unfold okW; omega)
              have hF := fr_wr (k := 0) (j := 32) (v := nI (v1 + 1)) hF (by unfold mOp; omega)
              generalize eM40 : ux_wr M37 0 32 (nI (v1 + 1)) = M40 at hP hI hF
              have tM40 : (M40 0 32).toInt = ((v1 + 1 : Nat) : Int) := by rw [wr_at eM40]; exact nI_toInt (by omega)
              refine lv_iload hx hb d_Md_operand_180 (lv_at hl 4 rfl) ?_
              exact W.iret (v := nI k5) hx hb hr (fun t ht hW => ⟨⟨nI k5, M40, rfl, ⟨hI, hF, ⟨(wr_at eM40).trans (congrArg nI (by omega)), ⟨k5, rfl, by omega, by omega, (by have := congrArg Int32.toInt (show M40 0 34 = Mc85 0 34 from (wr_off eM40 (by omega)).trans (wr_off eM37 (by omega))); omega)⟩, (by have := congrArg Int32.toInt (show M40 0 34 = Mc85 0 34 from (wr_off eM40 (by omega)).trans (wr_off eM37 (by omega))); omega)⟩⟩, by unfold ux_E; rw [ht]; exact hP⟩, hS.F ht⟩) hS.2.2 d_Md_operand_182
            · have g35 : ((k5 : Nat) : Int) = ((k : Nat) : Int) := by have q := congrArg Int32.toInt h35; rw [nI_toInt (n := k5) (by omega), nI_toInt (n := k) (by omega)] at q; exact q
              refine lv_aload_n hx hb d_Md_operand_154 rfl (lv_at hl 0 rfl) ?_
              refine lv_iconst (v := 1) hx hb d_Md_operand_155 (by decide) ?_
              refine ux_callv (va_runV ⟨hx, hb, hml, hown, hts⟩ (s_Md_ill l D ad cA A TB hA hB  Mc85 hI 1) (cwV 1 hts (tb_goodV ml_Md_354 im_Md_ill se_Md_ill ii_Md kt_Md_ill) rfl rfl rfl (by decide +kernel) ⟨Nat.le_of_ble_eq_true rfl, Nat.le_of_ble_eq_true rfl⟩) (ux_preV (by decide) rfl rfl hP hK hi hN) rfl rfl hl.1 rfl (lv_room (Nat.le_of_ble_eq_true rfl)) d_Md_operand_156 ⟨Nat.zero_le _, Nat.zero_le _⟩) hS (fun M42 H locs q43 hP hS => ?_)
              obtain ⟨hI, fq43, q43p⟩ := q43
              have hF := fr_call hF fq43 (fun a b q => by unfold mIl at q; unfold mOp; omega)
              rw [show (1 : Int32).toInt = 1 from rfl] at q43p
              refine lv_aload_n hx hb d_Md_operand_159 rfl (lv_at hl 0 rfl) ?_
              refine ux_get (C := R_Md) (T := F_Md) (N := 50) hx hb hT in_Md hown hK hP (by decide) rfl rfl 30 (by decide) (hT _ fl_Md_82) rfl d_Md_operand_160 ?_
              refine lv_aload_n hx hb d_Md_operand_163 rfl (lv_at hl 0 rfl) ?_
              refine ux_get (C := R_Md) (T := F_Md) (N := 50) hx hb hT in_Md hown hK hP (by decide) rfl rfl 32 (by decide) (hT _ fl_Md_341) rfl d_Md_operand_164 ?_
              refine lv_topi (fun z44 hz44 => ?_)
              rw [show M42 0 32 = nI v1 from (fq43 _ _ (by unfold mIl; omega)).trans (hg_v1)] at hz44
              rw [hz44]
              refine lv_iload hx hb d_Md_operand_167 (lv_at hl 3 rfl) ?_
              refine ux_iast hx hb hK hi hP hS (by decide) rfl (vp_in_nI (show v1 < 210 by omega) (by decide)) d_Md_operand_169 (fun H locs hP hS => ?_)
              rw [nI_clamp (n := v1) (by omega)] at hP
              have hI := IvM_free (k := 23) (j := v1) (v := i_4) hI rfl rfl (by unfold okW; omega)
              have hF := fr_wr (k := 23) (j := v1) (v := i_4) hF (by unfold mOp; omega)
              generalize eM45 : ux_wr M42 23 v1 i_4 = M45 at hP hI hF
              refine lv_aload_n hx hb d_Md_operand_170 rfl (lv_at hl 0 rfl) ?_
              refine lv_dup hx hb d_Md_operand_171 rfl ?_
              refine ux_get (C := R_Md) (T := F_Md) (N := 50) hx hb hT in_Md hown hK hP (by decide) rfl rfl 32 (by decide) (hT _ fl_Md_341) rfl d_Md_operand_172 ?_
              refine lv_topi (fun z46 hz46 => ?_)
              rw [show M45 0 32 = nI v1 from (wr_off eM45 (by omega)).trans ((fq43 _ _ (by unfold mIl; omega)).trans (hg_v1))] at hz46
              rw [hz46]
              refine lv_iconst (v := 1) hx hb d_Md_operand_175 (by decide) ?_
              refine lv_iadd hx hb d_Md_operand_176 ?_
              refine lv_topi (fun z47 hz47 => ?_)
              rw [show (nI v1) + (1 : Int32) = nI (v1 + 1) from nI_add v1 1] at hz47
              rw [hz47]
              refine ux_put (C := R_Md) (T := F_Md) (N := 50) hx hb hT in_Md t_Md t_Md_ok n_Md hown hK hi hP hS (by decide) rfl rfl 32 (by decide) (hT _ fl_Md_341) rfl (rfl) (rfl) rfl d_Md_operand_177 (fun H locs hP hS => ?_)
              have hI := IvM_wr (k := 0) (j := 32) (v := nI (v1 + 1)) hI (show (0 : Int) ≤ (nI (v1 + 1) : Int32).toInt from (by rw [nI_toInt (n := v1 + 1) (by omega)]; omega)) (show (nI (v1 + 1) : Int32).toInt ≤ (210 : Int) from (by rw [nI_toInt (n := v1 + 1) (by omega)]; omega)) (by unfold okW; omega)
              have hF := fr_wr (k := 0) (j := 32) (v := nI (v1 + 1)) hF (by unfold mOp; omega)
              generalize eM48 : ux_wr M45 0 32 (nI (v1 + 1)) = M48 at hP hI hF
              have tM48 : (M48 0 32).toInt = ((v1 + 1 : Nat) : Int) := by rw [wr_at eM48]; exact nI_toInt (by omega)
              refine lv_iload hx hb d_Md_operand_180 (lv_at hl 4 rfl) ?_
              exact W.iret (v := nI k5) hx hb hr (fun t ht hW => ⟨⟨nI k5, M48, rfl, ⟨hI, hF, ⟨(wr_at eM48).trans (congrArg nI (by omega)), ⟨k5, rfl, by omega, by omega, (by have := congrArg Int32.toInt (show M48 0 34 = M42 0 34 from (wr_off eM48 (by omega)).trans (wr_off eM45 (by omega))); omega)⟩, (by have := congrArg Int32.toInt (show M48 0 34 = M42 0 34 from (wr_off eM48 (by omega)).trans (wr_off eM45 (by omega))); omega)⟩⟩, by unfold ux_E; rw [ht]; exact hP⟩, hS.F ht⟩) hS.2.2 d_Md_operand_182
          · have g34 : ¬ (((c32 : Nat) : Int) < 48) := fun q => h34 (Int32.lt_iff_toInt_lt.mpr (by rw [nI_toInt (n := c32) (by omega)]; exact q))
            refine lv_aload_n hx hb d_Md_operand_112 rfl (lv_at hl 0 rfl) ?_
            refine ux_get (C := R_Md) (T := F_Md) (N := 50) hx hb hT in_Md hown hK hP (by decide) rfl rfl 0 (by decide) (hT _ fl_Md_7) rfl d_Md_operand_113 ?_
            refine lv_iload hx hb d_Md_operand_116 (lv_at hl 4 rfl) ?_
            refine ux_cald hx hb hK hP (by decide) rfl (vp_in_nI (show k5 < 200 by omega) (by decide)) d_Md_operand_118 ?_
            rw [nI_clamp (n := k5) (by omega)]
            refine lv_topi (fun z49 hz49 => ?_)
            rw [show Mc85 1 k5 = nI c32 from ec32] at hz49
            rw [hz49]
            refine lv_bipush (v := 57) hx hb d_Md_operand_119 (by decide) ?_
            refine lv_icmp_gt hx hb d_Md_operand_121 rfl (fun h50 => ?_) (fun h50 => ?_)
            · have g50 : 57 < ((c32 : Nat) : Int) := by have q := Int32.lt_iff_toInt_lt.mp h50; rw [nI_toInt (n := c32) (by omega)] at q; exact q
              refine lv_iload hx hb d_Md_operand_148 (lv_at hl 4 rfl) ?_
              refine lv_iload_n hx hb d_Md_operand_150 rfl (lv_at hl 1 rfl) ?_
              refine lv_icmp_ne hx hb d_Md_operand_151 rfl (fun h51 => ?_) (fun h51 => ?_)
              · have g51 : ¬ (((k5 : Nat) : Int) = ((k : Nat) : Int)) := fun q => h51 (Int32.toInt_inj.mp (by rw [nI_toInt (n := k5) (by omega), nI_toInt (n := k) (by omega)]; exact q))
                refine lv_aload_n hx hb d_Md_operand_159 rfl (lv_at hl 0 rfl) ?_
                refine ux_get (C := R_Md) (T := F_Md) (N := 50) hx hb hT in_Md hown hK hP (by decide) rfl rfl 30 (by decide) (hT _ fl_Md_82) rfl d_Md_operand_160 ?_
                refine lv_aload_n hx hb d_Md_operand_163 rfl (lv_at hl 0 rfl) ?_
                refine ux_get (C := R_Md) (T := F_Md) (N := 50) hx hb hT in_Md hown hK hP (by decide) rfl rfl 32 (by decide) (hT _ fl_Md_341) rfl d_Md_operand_164 ?_
                refine lv_topi (fun z52 hz52 => ?_)
                rw [show Mc85 0 32 = nI v1 from hg_v1] at hz52
                rw [hz52]
                refine lv_iload hx hb d_Md_operand_167 (lv_at hl 3 rfl) ?_
                refine ux_iast hx hb hK hi hP hS (by decide) rfl (vp_in_nI (show v1 < 210 by omega) (by decide)) d_Md_operand_169 (fun H locs hP hS => ?_)
                rw [nI_clamp (n := v1) (by omega)] at hP
                have hI := IvM_free (k := 23) (j := v1) (v := i_4) hI rfl rfl (by unfold okW; omega)
                have hF := fr_wr (k := 23) (j := v1) (v := i_4) hF (by unfold mOp; omega)
                generalize eM53 : ux_wr Mc85 23 v1 i_4 = M53 at hP hI hF
                refine lv_aload_n hx hb d_Md_operand_170 rfl (lv_at hl 0 rfl) ?_
                refine lv_dup hx hb d_Md_operand_171 rfl ?_
                refine ux_get (C := R_Md) (T := F_Md) (N := 50) hx hb hT in_Md hown hK hP (by decide) rfl rfl 32 (by decide) (hT _ fl_Md_341) rfl d_Md_operand_172 ?_
                refine lv_topi (fun z54 hz54 => ?_)
                rw [show M53 0 32 = nI v1 from (wr_off eM53 (by omega)).trans (hg_v1)] at hz54
                rw [hz54]
                refine lv_iconst (v := 1) hx hb d_Md_operand_175 (by decide) ?_
                refine lv_iadd hx hb d_Md_operand_176 ?_
                refine lv_topi (fun z55 hz55 => ?_)
                rw [show (nI v1) + (1 : Int32) = nI (v1 + 1) from nI_add v1 1] at hz55
                rw [hz55]
                refine ux_put (C := R_Md) (T := F_Md) (N := 50) hx hb hT in_Md t_Md t_Md_ok n_Md hown hK hi hP hS (by decide) rfl rfl 32 (by decide) (hT _ fl_Md_341) rfl (rfl) (rfl) rfl d_Md_operand_177 (fun H locs hP hS => ?_)
                have hI := IvM_wr (k := 0) (j := 32) (v := nI (v1 + 1)) hI (show (0 : Int) ≤ (nI (v1 + 1) : Int32).toInt from (by rw [nI_toInt (n := v1 + 1) (by omega)]; omega)) (show (nI (v1 + 1) : Int32).toInt ≤ (210 : Int) from (by rw [nI_toInt (n := v1 + 1) (by omega)]; omega)) (by unfold okW; omega)
                have hF := fr_wr (k := 0) (j := 32) (v := nI (v1 + 1)) hF (by unfold mOp; omega)
                generalize eM56 : ux_wr M53 0 32 (nI (v1 + 1)) = M56 at hP hI hF
                have tM56 : (M56 0 32).toInt = ((v1 + 1 : Nat) : Int) := by rw [wr_at eM56]; exact nI_toInt (by omega)
                refine lv_iload hx hb d_Md_operand_180 (lv_at hl 4 rfl) ?_
                exact W.iret (v := nI k5) hx hb hr (fun t ht hW => ⟨⟨nI k5, M56, rfl, ⟨hI, hF, ⟨(wr_at eM56).trans (congrArg nI (by omega)), ⟨k5, rfl, by omega, by omega, (by have := congrArg Int32.toInt (show M56 0 34 = Mc85 0 34 from (wr_off eM56 (by omega)).trans (wr_off eM53 (by omega))); omega)⟩, (by have := congrArg Int32.toInt (show M56 0 34 = Mc85 0 34 from (wr_off eM56 (by omega)).trans (wr_off eM53 (by omega))); omega)⟩⟩, by unfold ux_E; rw [ht]; exact hP⟩, hS.F ht⟩) hS.2.2 d_Md_operand_182
              · have g51 : ((k5 : Nat) : Int) = ((k : Nat) : Int) := by have q := congrArg Int32.toInt h51; rw [nI_toInt (n := k5) (by omega), nI_toInt (n := k) (by omega)] at q; exact q
                refine lv_aload_n hx hb d_Md_operand_154 rfl (lv_at hl 0 rfl) ?_
                refine lv_iconst (v := 1) hx hb d_Md_operand_155 (by decide) ?_
                refine ux_callv (va_runV ⟨hx, hb, hml, hown, hts⟩ (s_Md_ill l D ad cA A TB hA hB  Mc85 hI 1) (cwV 1 hts (tb_goodV ml_Md_354 im_Md_ill se_Md_ill ii_Md kt_Md_ill) rfl rfl rfl (by decide +kernel) ⟨Nat.le_of_ble_eq_true rfl, Nat.le_of_ble_eq_true rfl⟩) (ux_preV (by decide) rfl rfl hP hK hi hN) rfl rfl hl.1 rfl (lv_room (Nat.le_of_ble_eq_true rfl)) d_Md_operand_156 ⟨Nat.zero_le _, Nat.zero_le _⟩) hS (fun M58 H locs q59 hP hS => ?_)
                obtain ⟨hI, fq59, q59p⟩ := q59
                have hF := fr_call hF fq59 (fun a b q => by unfold mIl at q; unfold mOp; omega)
                rw [show (1 : Int32).toInt = 1 from rfl] at q59p
                refine lv_aload_n hx hb d_Md_operand_159 rfl (lv_at hl 0 rfl) ?_
                refine ux_get (C := R_Md) (T := F_Md) (N := 50) hx hb hT in_Md hown hK hP (by decide) rfl rfl 30 (by decide) (hT _ fl_Md_82) rfl d_Md_operand_160 ?_
                refine lv_aload_n hx hb d_Md_operand_163 rfl (lv_at hl 0 rfl) ?_
                refine ux_get (C := R_Md) (T := F_Md) (N := 50) hx hb hT in_Md hown hK hP (by decide) rfl rfl 32 (by decide) (hT _ fl_Md_341) rfl d_Md_operand_164 ?_
                refine lv_topi (fun z60 hz60 => ?_)
                rw [show M58 0 32 = nI v1 from (fq59 _ _ (by unfold mIl; omega)).trans (hg_v1)] at hz60
                rw [hz60]
                refine lv_iload hx hb d_Md_operand_167 (lv_at hl 3 rfl) ?_
                refine ux_iast hx hb hK hi hP hS (by decide) rfl (vp_in_nI (show v1 < 210 by omega) (by decide)) d_Md_operand_169 (fun H locs hP hS => ?_)
                rw [nI_clamp (n := v1) (by omega)] at hP
                have hI := IvM_free (k := 23) (j := v1) (v := i_4) hI rfl rfl (by unfold okW; omega)
                have hF := fr_wr (k := 23) (j := v1) (v := i_4) hF (by unfold mOp; omega)
                generalize eM61 : ux_wr M58 23 v1 i_4 = M61 at hP hI hF
                refine lv_aload_n hx hb d_Md_operand_170 rfl (lv_at hl 0 rfl) ?_
                refine lv_dup hx hb d_Md_operand_171 rfl ?_
                refine ux_get (C := R_Md) (T := F_Md) (N := 50) hx hb hT in_Md hown hK hP (by decide) rfl rfl 32 (by decide) (hT _ fl_Md_341) rfl d_Md_operand_172 ?_
                refine lv_topi (fun z62 hz62 => ?_)
                rw [show M61 0 32 = nI v1 from (wr_off eM61 (by omega)).trans ((fq59 _ _ (by unfold mIl; omega)).trans (hg_v1))] at hz62
                rw [hz62]
                refine lv_iconst (v := 1) hx hb d_Md_operand_175 (by decide) ?_
                refine lv_iadd hx hb d_Md_operand_176 ?_
                refine lv_topi (fun z63 hz63 => ?_)
                rw [show (nI v1) + (1 : Int32) = nI (v1 + 1) from nI_add v1 1] at hz63
                rw [hz63]
                refine ux_put (C := R_Md) (T := F_Md) (N := 50) hx hb hT in_Md t_Md t_Md_ok n_Md hown hK hi hP hS (by decide) rfl rfl 32 (by decide) (hT _ fl_Md_341) rfl (rfl) (rfl) rfl d_Md_operand_177 (fun H locs hP hS => ?_)
                have hI := IvM_wr (k := 0) (j := 32) (v := nI (v1 + 1)) hI (show (0 : Int) ≤ (nI (v1 + 1) : Int32).toInt from (by rw [nI_toInt (n := v1 + 1) (by omega)]; omega)) (show (nI (v1 + 1) : Int32).toInt ≤ (210 : Int) from (by rw [nI_toInt (n := v1 + 1) (by omega)]; omega)) (by unfold okW; omega)
                have hF := fr_wr (k := 0) (j := 32) (v := nI (v1 + 1)) hF (by unfold mOp; omega)
                generalize eM64 : ux_wr M61 0 32 (nI (v1 + 1)) = M64 at hP hI hF
                have tM64 : (M64 0 32).toInt = ((v1 + 1 : Nat) : Int) := by rw [wr_at eM64]; exact nI_toInt (by omega)
                refine lv_iload hx hb d_Md_operand_180 (lv_at hl 4 rfl) ?_
                exact W.iret (v := nI k5) hx hb hr (fun t ht hW => ⟨⟨nI k5, M64, rfl, ⟨hI, hF, ⟨(wr_at eM64).trans (congrArg nI (by omega)), ⟨k5, rfl, by omega, by omega, (by have := congrArg Int32.toInt (show M64 0 34 = M58 0 34 from (wr_off eM64 (by omega)).trans (wr_off eM61 (by omega))); omega)⟩, (by have := congrArg Int32.toInt (show M64 0 34 = M58 0 34 from (wr_off eM64 (by omega)).trans (wr_off eM61 (by omega))); omega)⟩⟩, by unfold ux_E; rw [ht]; exact hP⟩, hS.F ht⟩) hS.2.2 d_Md_operand_182
            · have g50 : ¬ (57 < ((c32 : Nat) : Int)) := fun q => h50 (Int32.lt_iff_toInt_lt.mpr (by rw [nI_toInt (n := c32) (by omega)]; exact q))
              refine lv_bipush (v := 10) hx hb d_Md_operand_124 (by decide) ?_
              refine lv_iload hx hb d_Md_operand_126 (lv_at hl 3 rfl) ?_
              refine lv_imul hx hb d_Md_operand_128 ?_
              refine lv_topi (fun x65 ex65 => ?_)
              try have fx65 : x65.toInt = 10 * i_4.toInt := by rw [ex65, ti_mul (by (try rw [show (10 : Int32).toInt = 10 from rfl]); omega) (by (try rw [show (10 : Int32).toInt = 10 from rfl]); omega)]; (try rw [show (10 : Int32).toInt = 10 from rfl]); first | done | rfl | omega
              refine lv_aload_n hx hb d_Md_operand_129 rfl (lv_at hl 0 rfl) ?_
              refine ux_get (C := R_Md) (T := F_Md) (N := 50) hx hb hT in_Md hown hK hP (by decide) rfl rfl 0 (by decide) (hT _ fl_Md_7) rfl d_Md_operand_130 ?_
              refine lv_iload hx hb d_Md_operand_133 (lv_at hl 4 rfl) ?_
              refine ux_cald hx hb hK hP (by decide) rfl (vp_in_nI (show k5 < 200 by omega) (by decide)) d_Md_operand_135 ?_
              rw [nI_clamp (n := k5) (by omega)]
              refine lv_topi (fun z66 hz66 => ?_)
              rw [show Mc85 1 k5 = nI c32 from ec32] at hz66
              rw [hz66]
              refine lv_iadd hx hb d_Md_operand_136 ?_
              refine lv_topi (fun x67 ex67 => ?_)
              try have fx67 : x67.toInt = x65.toInt + ((c32 : Nat) : Int) := by rw [ex67, ti_add (by (rw [nI_toInt (n := c32) (by omega)]); omega) (by (rw [nI_toInt (n := c32) (by omega)]); omega)]; (rw [nI_toInt (n := c32) (by omega)]); first | done | rfl | omega
              refine lv_bipush (v := 48) hx hb d_Md_operand_137 (by decide) ?_
              refine lv_isub hx hb d_Md_operand_139 ?_
              refine lv_topi (fun x68 ex68 => ?_)
              try have fx68 : x68.toInt = x67.toInt - 48 := by rw [ex68, ti_sub (by (try rw [show (48 : Int32).toInt = 48 from rfl]); omega) (by (try rw [show (48 : Int32).toInt = 48 from rfl]); omega)]; (try rw [show (48 : Int32).toInt = 48 from rfl]); first | done | rfl | omega
              refine lv_istore hx hb d_Md_operand_140 hl (by decide) rfl (fun ls hl => ?_)
              have hl : lv_has ls 7 [(4, .int x68), (0, .ref (ad 0)), (1, .int (nI k)), (2, .int (nI sp)), (5, .int (nI k5))] := hl
              refine lv_iinc (k := 4) (v := nI (k5 + 1)) hx hb d_Md_operand_142 hl rfl (nI_add k5 1) (by decide) rfl (fun ls hl => ?_)
              have hl : lv_has ls 7 [(5, .int (nI (k5 + 1))), (4, .int x68), (0, .ref (ad 0)), (1, .int (nI k)), (2, .int (nI sp))] := hl
              refine lv_goto hx hb d_Md_operand_145 rfl ?_
              exact ih85 (200 - (k5 + 1)) (by omega) x68 (k5 + 1) v1 Mc85 _ _ ls rfl (show Mc85 0 32 = nI v1 from hg_v1) (show k ≤ (k5 + 1) from by first | omega | assumption | exact Or.inl rfl | exact Or.inr rfl | rfl | decide) (show (k5 + 1) ≤ sp from by first | omega | assumption | exact Or.inl rfl | exact Or.inr rfl | rfl | decide) (show v1 = v from by first | omega | assumption | exact Or.inl rfl | exact Or.inr rfl | rfl | decide) (show (Mc85 0 34).toInt = (M 0 34).toInt from by first | omega | assumption | exact Or.inl rfl | exact Or.inr rfl | rfl | decide) hP hI hF hS (lv_sub hl [2, 3, 4, 1, 0] rfl)
  refine lv_aload_n hx hb d_Md_operand_0 rfl (lv_at hl 0 rfl) ?_
  refine ux_get (C := R_Md) (T := F_Md) (N := 50) hx hb hT in_Md hown hK hP (by decide) rfl rfl 0 (by decide) (hT _ fl_Md_7) rfl d_Md_operand_1 ?_
  refine lv_iload_n hx hb d_Md_operand_4 rfl (lv_at hl 1 rfl) ?_
  refine ux_cald hx hb hK hP (by decide) rfl (vp_in_nI (show k < 200 by omega) (by decide)) d_Md_operand_5 ?_
  rw [nI_clamp (n := k) (by omega)]
  refine lv_topi (fun z70 hz70 => ?_)
  obtain ⟨c69, hc69, ec69⟩ := nat_of (x := M 1 k) (n := 65535) (hI.1 1 k).1 (hI.1 1 k).2
  rw [ec69] at hz70
  rw [hz70]
  have tc69 : (M 1 k).toInt = (c69 : Int) := by rw [ec69]; exact nI_toInt (by omega)
  refine lv_istore_n hx hb d_Md_operand_6 rfl hl (by decide) rfl (fun ls hl => ?_)
  have hl : lv_has ls 7 [(3, .int (nI c69)), (0, .ref (ad 0)), (1, .int (nI k)), (2, .int (nI sp))] := hl
  refine lv_iconst (v := 0) hx hb d_Md_operand_7 (by decide) ?_
  refine lv_istore hx hb d_Md_operand_8 hl (by decide) rfl (fun ls hl => ?_)
  have hl : lv_has ls 7 [(4, .int 0), (3, .int (nI c69)), (0, .ref (ad 0)), (1, .int (nI k)), (2, .int (nI sp))] := hl
  refine lv_iload_n hx hb d_Md_operand_10 rfl (lv_at hl 3 rfl) ?_
  refine lv_istore hx hb d_Md_operand_11 hl (by decide) rfl (fun ls hl => ?_)
  have hl : lv_has ls 7 [(5, .int (nI k)), (4, .int 0), (3, .int (nI c69)), (0, .ref (ad 0)), (1, .int (nI k)), (2, .int (nI sp))] := hl
  refine lv_iload_n hx hb d_Md_operand_13 rfl (lv_at hl 2 rfl) ?_
  refine lv_bipush (v := 36) hx hb d_Md_operand_14 (by decide) ?_
  refine lv_icmp_ne hx hb d_Md_operand_16 rfl (fun h71 => ?_) (fun h71 => ?_)
  · have g71 : ¬ (((c69 : Nat) : Int) = 36) := fun q => h71 (Int32.toInt_inj.mp (by rw [nI_toInt (n := c69) (by omega)]; exact q))
    exact cut85 (200 - k) 0 k v M _ _ ls rfl (show M 0 32 = nI v from hv) (show k ≤ k from by first | omega | assumption | exact Or.inl rfl | exact Or.inr rfl | rfl | decide) (show k ≤ sp from by first | omega | assumption | exact Or.inl rfl | exact Or.inr rfl | rfl | decide) (show v = v from by first | omega | assumption | exact Or.inl rfl | exact Or.inr rfl | rfl | decide) (show (M 0 34).toInt = (M 0 34).toInt from by first | omega | assumption | exact Or.inl rfl | exact Or.inr rfl | rfl | decide) hP hI hF hS (lv_sub hl [3, 4, 5, 1, 0] rfl)
  · have g71 : ((c69 : Nat) : Int) = 36 := by have q := congrArg Int32.toInt h71; rw [nI_toInt (n := c69) (by omega)] at q; exact q
    refine lv_iload_n hx hb d_Md_operand_19 rfl (lv_at hl 4 rfl) ?_
    refine lv_iconst (v := 1) hx hb d_Md_operand_20 (by decide) ?_
    refine lv_iadd hx hb d_Md_operand_21 ?_
    refine lv_topi (fun z72 hz72 => ?_)
    rw [show (nI k) + (1 : Int32) = nI (k + 1) from nI_add k 1] at hz72
    rw [hz72]
    refine lv_iload_n hx hb d_Md_operand_22 rfl (lv_at hl 5 rfl) ?_
    refine lv_icmp_ge hx hb d_Md_operand_23 rfl (fun h73 => ?_) (fun h73 => ?_)
    · have g73 : ((sp : Nat) : Int) ≤ ((k + 1 : Nat) : Int) := by have q := Int32.le_iff_toInt_le.mp h73; rw [nI_toInt (n := sp) (by omega), nI_toInt (n := k + 1) (by omega)] at q; exact q
      refine lv_iconst (v := 0) hx hb d_Md_operand_37 (by decide) ?_
      refine lv_istore hx hb d_Md_operand_38 hl (by decide) rfl (fun ls hl => ?_)
      have hl : lv_has ls 7 [(6, .int 0), (5, .int (nI k)), (4, .int 0), (3, .int (nI c69)), (0, .ref (ad 0)), (1, .int (nI k)), (2, .int (nI sp))] := hl
      refine lv_iload hx hb d_Md_operand_40 (lv_at hl 0 rfl) ?_
      refine lv_bipush (v := 97) hx hb d_Md_operand_42 (by decide) ?_
      refine lv_icmp_lt hx hb d_Md_operand_44 rfl (fun _ => ?_) (fun hz => absurd (by decide) hz)
      refine lv_aload_n hx hb d_Md_operand_54 rfl (lv_at hl 4 rfl) ?_
      refine lv_iconst (v := 1) hx hb d_Md_operand_55 (by decide) ?_
      refine ux_callv (va_runV ⟨hx, hb, hml, hown, hts⟩ (s_Md_ill l D ad cA A TB hA hB  M hI 1) (cwV 1 hts (tb_goodV ml_Md_354 im_Md_ill se_Md_ill ii_Md kt_Md_ill) rfl rfl rfl (by decide +kernel) ⟨Nat.le_of_ble_eq_true rfl, Nat.le_of_ble_eq_true rfl⟩) (ux_preV (by decide) rfl rfl hP hK hi hN) rfl rfl hl.1 rfl (lv_room (Nat.le_of_ble_eq_true rfl)) d_Md_operand_56 ⟨Nat.zero_le _, Nat.zero_le _⟩) hS (fun M75 H locs q76 hP hS => ?_)
      obtain ⟨hI, fq76, q76p⟩ := q76
      have hF := fr_call hF fq76 (fun a b q => by unfold mIl at q; unfold mOp; omega)
      rw [show (1 : Int32).toInt = 1 from rfl] at q76p
      refine lv_goto hx hb d_Md_operand_59 rfl ?_
      refine lv_iload_n hx hb d_Md_operand_77 rfl (lv_at hl 5 rfl) ?_
      refine lv_iconst (v := 2) hx hb d_Md_operand_78 (by decide) ?_
      refine lv_iadd hx hb d_Md_operand_79 ?_
      refine lv_topi (fun z77 hz77 => ?_)
      rw [show (nI k) + (2 : Int32) = nI (k + 2) from nI_add k 2] at hz77
      rw [hz77]
      refine lv_istore hx hb d_Md_operand_80 hl (by decide) rfl (fun ls hl => ?_)
      have hl : lv_has ls 7 [(5, .int (nI (k + 2))), (6, .int 0), (4, .int 0), (3, .int (nI c69)), (0, .ref (ad 0)), (1, .int (nI k)), (2, .int (nI sp))] := hl
      refine lv_goto hx hb d_Md_operand_82 rfl ?_
      refine lv_aload_n hx hb d_Md_operand_159 rfl (lv_at hl 4 rfl) ?_
      refine ux_get (C := R_Md) (T := F_Md) (N := 50) hx hb hT in_Md hown hK hP (by decide) rfl rfl 30 (by decide) (hT _ fl_Md_82) rfl d_Md_operand_160 ?_
      refine lv_aload_n hx hb d_Md_operand_163 rfl (lv_at hl 4 rfl) ?_
      refine ux_get (C := R_Md) (T := F_Md) (N := 50) hx hb hT in_Md hown hK hP (by decide) rfl rfl 32 (by decide) (hT _ fl_Md_341) rfl d_Md_operand_164 ?_
      refine lv_topi (fun z78 hz78 => ?_)
      rw [show M75 0 32 = nI v from (fq76 _ _ (by unfold mIl; omega)).trans (hv)] at hz78
      rw [hz78]
      refine lv_iload hx hb d_Md_operand_167 (lv_at hl 2 rfl) ?_
      refine ux_iast hx hb hK hi hP hS (by decide) rfl (vp_in_nI (show v < 210 by omega) (by decide)) d_Md_operand_169 (fun H locs hP hS => ?_)
      rw [nI_clamp (n := v) (by omega)] at hP
      have hI := IvM_free (k := 23) (j := v) (v := 0) hI rfl rfl (by unfold okW; omega)
      have hF := fr_wr (k := 23) (j := v) (v := 0) hF (by unfold mOp; omega)
      generalize eM79 : ux_wr M75 23 v 0 = M79 at hP hI hF
      refine lv_aload_n hx hb d_Md_operand_170 rfl (lv_at hl 4 rfl) ?_
      refine lv_dup hx hb d_Md_operand_171 rfl ?_
      refine ux_get (C := R_Md) (T := F_Md) (N := 50) hx hb hT in_Md hown hK hP (by decide) rfl rfl 32 (by decide) (hT _ fl_Md_341) rfl d_Md_operand_172 ?_
      refine lv_topi (fun z80 hz80 => ?_)
      rw [show M79 0 32 = nI v from (wr_off eM79 (by omega)).trans ((fq76 _ _ (by unfold mIl; omega)).trans (hv))] at hz80
      rw [hz80]
      refine lv_iconst (v := 1) hx hb d_Md_operand_175 (by decide) ?_
      refine lv_iadd hx hb d_Md_operand_176 ?_
      refine lv_topi (fun z81 hz81 => ?_)
      rw [show (nI v) + (1 : Int32) = nI (v + 1) from nI_add v 1] at hz81
      rw [hz81]
      refine ux_put (C := R_Md) (T := F_Md) (N := 50) hx hb hT in_Md t_Md t_Md_ok n_Md hown hK hi hP hS (by decide) rfl rfl 32 (by decide) (hT _ fl_Md_341) rfl (rfl) (rfl) rfl d_Md_operand_177 (fun H locs hP hS => ?_)
      have hI := IvM_wr (k := 0) (j := 32) (v := nI (v + 1)) hI (show (0 : Int) ≤ (nI (v + 1) : Int32).toInt from (by rw [nI_toInt (n := v + 1) (by omega)]; omega)) (show (nI (v + 1) : Int32).toInt ≤ (210 : Int) from (by rw [nI_toInt (n := v + 1) (by omega)]; omega)) (by unfold okW; omega)
      have hF := fr_wr (k := 0) (j := 32) (v := nI (v + 1)) hF (by unfold mOp; omega)
      generalize eM82 : ux_wr M79 0 32 (nI (v + 1)) = M82 at hP hI hF
      have tM82 : (M82 0 32).toInt = ((v + 1 : Nat) : Int) := by rw [wr_at eM82]; exact nI_toInt (by omega)
      refine lv_iload hx hb d_Md_operand_180 (lv_at hl 0 rfl) ?_
      exact W.iret (v := nI (k + 2)) hx hb hr (fun t ht hW => ⟨⟨nI (k + 2), M82, rfl, ⟨hI, hF, ⟨(wr_at eM82).trans (congrArg nI (by omega)), ⟨(k + 2), rfl, by omega, by omega, (by have := congrArg Int32.toInt (show M82 0 34 = M75 0 34 from (wr_off eM82 (by omega)).trans (wr_off eM79 (by omega))); omega)⟩, (by have := congrArg Int32.toInt (show M82 0 34 = M75 0 34 from (wr_off eM82 (by omega)).trans (wr_off eM79 (by omega))); omega)⟩⟩, by unfold ux_E; rw [ht]; exact hP⟩, hS.F ht⟩) hS.2.2 d_Md_operand_182
    · have g73 : ¬ (((sp : Nat) : Int) ≤ ((k + 1 : Nat) : Int)) := fun q => h73 (Int32.le_iff_toInt_le.mpr (by rw [nI_toInt (n := sp) (by omega), nI_toInt (n := k + 1) (by omega)]; exact q))
      refine lv_aload_n hx hb d_Md_operand_26 rfl (lv_at hl 3 rfl) ?_
      refine ux_get (C := R_Md) (T := F_Md) (N := 50) hx hb hT in_Md hown hK hP (by decide) rfl rfl 0 (by decide) (hT _ fl_Md_7) rfl d_Md_operand_27 ?_
      refine lv_iload_n hx hb d_Md_operand_30 rfl (lv_at hl 4 rfl) ?_
      refine lv_iconst (v := 1) hx hb d_Md_operand_31 (by decide) ?_
      refine lv_iadd hx hb d_Md_operand_32 ?_
      refine lv_topi (fun z83 hz83 => ?_)
      rw [show (nI k) + (1 : Int32) = nI (k + 1) from nI_add k 1] at hz83
      rw [hz83]
      refine ux_cald hx hb hK hP (by decide) rfl (vp_in_nI (show k + 1 < 200 by omega) (by decide)) d_Md_operand_33 ?_
      rw [nI_clamp (n := k + 1) (by omega)]
      refine lv_topi (fun z85 hz85 => ?_)
      obtain ⟨c84, hc84, ec84⟩ := nat_of (x := M 1 (k + 1)) (n := 65535) (hI.1 1 (k + 1)).1 (hI.1 1 (k + 1)).2
      rw [ec84] at hz85
      rw [hz85]
      have tc84 : (M 1 (k + 1)).toInt = (c84 : Int) := by rw [ec84]; exact nI_toInt (by omega)
      refine lv_goto hx hb d_Md_operand_34 rfl ?_
      refine lv_istore hx hb d_Md_operand_38 hl (by decide) rfl (fun ls hl => ?_)
      have hl : lv_has ls 7 [(6, .int (nI c84)), (5, .int (nI k)), (4, .int 0), (3, .int (nI c69)), (0, .ref (ad 0)), (1, .int (nI k)), (2, .int (nI sp))] := hl
      refine lv_iload hx hb d_Md_operand_40 (lv_at hl 0 rfl) ?_
      refine lv_bipush (v := 97) hx hb d_Md_operand_42 (by decide) ?_
      refine lv_icmp_lt hx hb d_Md_operand_44 rfl (fun h86 => ?_) (fun h86 => ?_)
      · have g86 : ((c84 : Nat) : Int) < 97 := by have q := Int32.lt_iff_toInt_lt.mp h86; rw [nI_toInt (n := c84) (by omega)] at q; exact q
        refine lv_aload_n hx hb d_Md_operand_54 rfl (lv_at hl 4 rfl) ?_
        refine lv_iconst (v := 1) hx hb d_Md_operand_55 (by decide) ?_
        refine ux_callv (va_runV ⟨hx, hb, hml, hown, hts⟩ (s_Md_ill l D ad cA A TB hA hB  M hI 1) (cwV 1 hts (tb_goodV ml_Md_354 im_Md_ill se_Md_ill ii_Md kt_Md_ill) rfl rfl rfl (by decide +kernel) ⟨Nat.le_of_ble_eq_true rfl, Nat.le_of_ble_eq_true rfl⟩) (ux_preV (by decide) rfl rfl hP hK hi hN) rfl rfl hl.1 rfl (lv_room (Nat.le_of_ble_eq_true rfl)) d_Md_operand_56 ⟨Nat.zero_le _, Nat.zero_le _⟩) hS (fun M88 H locs q89 hP hS => ?_)
        obtain ⟨hI, fq89, q89p⟩ := q89
        have hF := fr_call hF fq89 (fun a b q => by unfold mIl at q; unfold mOp; omega)
        rw [show (1 : Int32).toInt = 1 from rfl] at q89p
        refine lv_goto hx hb d_Md_operand_59 rfl ?_
        refine lv_iload_n hx hb d_Md_operand_77 rfl (lv_at hl 5 rfl) ?_
        refine lv_iconst (v := 2) hx hb d_Md_operand_78 (by decide) ?_
        refine lv_iadd hx hb d_Md_operand_79 ?_
        refine lv_topi (fun z90 hz90 => ?_)
        rw [show (nI k) + (2 : Int32) = nI (k + 2) from nI_add k 2] at hz90
        rw [hz90]
        refine lv_istore hx hb d_Md_operand_80 hl (by decide) rfl (fun ls hl => ?_)
        have hl : lv_has ls 7 [(5, .int (nI (k + 2))), (6, .int (nI c84)), (4, .int 0), (3, .int (nI c69)), (0, .ref (ad 0)), (1, .int (nI k)), (2, .int (nI sp))] := hl
        refine lv_goto hx hb d_Md_operand_82 rfl ?_
        refine lv_aload_n hx hb d_Md_operand_159 rfl (lv_at hl 4 rfl) ?_
        refine ux_get (C := R_Md) (T := F_Md) (N := 50) hx hb hT in_Md hown hK hP (by decide) rfl rfl 30 (by decide) (hT _ fl_Md_82) rfl d_Md_operand_160 ?_
        refine lv_aload_n hx hb d_Md_operand_163 rfl (lv_at hl 4 rfl) ?_
        refine ux_get (C := R_Md) (T := F_Md) (N := 50) hx hb hT in_Md hown hK hP (by decide) rfl rfl 32 (by decide) (hT _ fl_Md_341) rfl d_Md_operand_164 ?_
        refine lv_topi (fun z91 hz91 => ?_)
        rw [show M88 0 32 = nI v from (fq89 _ _ (by unfold mIl; omega)).trans (hv)] at hz91
        rw [hz91]
        refine lv_iload hx hb d_Md_operand_167 (lv_at hl 2 rfl) ?_
        refine ux_iast hx hb hK hi hP hS (by decide) rfl (vp_in_nI (show v < 210 by omega) (by decide)) d_Md_operand_169 (fun H locs hP hS => ?_)
        rw [nI_clamp (n := v) (by omega)] at hP
        have hI := IvM_free (k := 23) (j := v) (v := 0) hI rfl rfl (by unfold okW; omega)
        have hF := fr_wr (k := 23) (j := v) (v := 0) hF (by unfold mOp; omega)
        generalize eM92 : ux_wr M88 23 v 0 = M92 at hP hI hF
        refine lv_aload_n hx hb d_Md_operand_170 rfl (lv_at hl 4 rfl) ?_
        refine lv_dup hx hb d_Md_operand_171 rfl ?_
        refine ux_get (C := R_Md) (T := F_Md) (N := 50) hx hb hT in_Md hown hK hP (by decide) rfl rfl 32 (by decide) (hT _ fl_Md_341) rfl d_Md_operand_172 ?_
        refine lv_topi (fun z93 hz93 => ?_)
        rw [show M92 0 32 = nI v from (wr_off eM92 (by omega)).trans ((fq89 _ _ (by unfold mIl; omega)).trans (hv))] at hz93
        rw [hz93]
        refine lv_iconst (v := 1) hx hb d_Md_operand_175 (by decide) ?_
        refine lv_iadd hx hb d_Md_operand_176 ?_
        refine lv_topi (fun z94 hz94 => ?_)
        rw [show (nI v) + (1 : Int32) = nI (v + 1) from nI_add v 1] at hz94
        rw [hz94]
        refine ux_put (C := R_Md) (T := F_Md) (N := 50) hx hb hT in_Md t_Md t_Md_ok n_Md hown hK hi hP hS (by decide) rfl rfl 32 (by decide) (hT _ fl_Md_341) rfl (rfl) (rfl) rfl d_Md_operand_177 (fun H locs hP hS => ?_)
        have hI := IvM_wr (k := 0) (j := 32) (v := nI (v + 1)) hI (show (0 : Int) ≤ (nI (v + 1) : Int32).toInt from (by rw [nI_toInt (n := v + 1) (by omega)]; omega)) (show (nI (v + 1) : Int32).toInt ≤ (210 : Int) from (by rw [nI_toInt (n := v + 1) (by omega)]; omega)) (by unfold okW; omega)
        have hF := fr_wr (k := 0) (j := 32) (v := nI (v + 1)) hF (by unfold mOp; omega)
        generalize eM95 : ux_wr M92 0 32 (nI (v + 1)) = M95 at hP hI hF
        have tM95 : (M95 0 32).toInt = ((v + 1 : Nat) : Int) := by rw [wr_at eM95]; exact nI_toInt (by omega)
        refine lv_iload hx hb d_Md_operand_180 (lv_at hl 0 rfl) ?_
        exact W.iret (v := nI (k + 2)) hx hb hr (fun t ht hW => ⟨⟨nI (k + 2), M95, rfl, ⟨hI, hF, ⟨(wr_at eM95).trans (congrArg nI (by omega)), ⟨(k + 2), rfl, by omega, by omega, (by have := congrArg Int32.toInt (show M95 0 34 = M88 0 34 from (wr_off eM95 (by omega)).trans (wr_off eM92 (by omega))); omega)⟩, (by have := congrArg Int32.toInt (show M95 0 34 = M88 0 34 from (wr_off eM95 (by omega)).trans (wr_off eM92 (by omega))); omega)⟩⟩, by unfold ux_E; rw [ht]; exact hP⟩, hS.F ht⟩) hS.2.2 d_Md_operand_182
      · have g86 : ¬ (((c84 : Nat) : Int) < 97) := fun q => h86 (Int32.lt_iff_toInt_lt.mpr (by rw [nI_toInt (n := c84) (by omega)]; exact q))
        refine lv_iload hx hb d_Md_operand_47 (lv_at hl 0 rfl) ?_
        refine lv_bipush (v := 122) hx hb d_Md_operand_49 (by decide) ?_
        refine lv_icmp_le hx hb d_Md_operand_51 rfl (fun h96 => ?_) (fun h96 => ?_)
        · have g96 : ((c84 : Nat) : Int) ≤ 122 := by have q := Int32.le_iff_toInt_le.mp h96; rw [nI_toInt (n := c84) (by omega)] at q; exact q
          refine lv_aload_n hx hb d_Md_operand_62 rfl (lv_at hl 4 rfl) ?_
          refine lv_aload_n hx hb d_Md_operand_63 rfl (lv_at hl 4 rfl) ?_
          refine lv_iload hx hb d_Md_operand_64 (lv_at hl 0 rfl) ?_
          refine lv_bipush (v := 97) hx hb d_Md_operand_66 (by decide) ?_
          refine lv_isub hx hb d_Md_operand_68 ?_
          refine lv_topi (fun z97 hz97 => ?_)
          rw [show (nI c84) - (97 : Int32) = nI (c84 - 97) from (pk_sub (a := c84) (b := 97) (by omega)).trans (congrArg nI (show c84 - 97 = c84 - 97 by omega))] at hz97
          rw [hz97]
          refine ux_calli (va_runV ⟨hx, hb, hml, hown, hts⟩ (s_Md_variable l D ad cA A TB hA hB  M hI L hL (hlv) (c84 - 97) (by omega)) (cwV 1 hts (tb_goodV ml_Md_213 im_Md_variable se_Md_variable ii_Md kt_Md_variable) rfl rfl rfl (by decide +kernel) ⟨Nat.le_of_ble_eq_true rfl, Nat.le_of_ble_eq_true rfl⟩) (ux_preV (by decide) rfl rfl hP hK hi hN) rfl rfl hl.1 rfl (lv_room (Nat.le_of_ble_eq_true rfl)) d_Md_operand_69 ⟨Nat.zero_le _, Nat.zero_le _⟩) hS (fun r98 M99 H locs q100 hP hS => ?_)
          obtain ⟨hI, fq100, q100p⟩ := q100
          rw [tN_eq fq100] at hP hI
          obtain ⟨c101, hc101, ec101⟩ := nat_of (x := r98) (n := 207) (q100p).1 (q100p).2
          subst ec101
          refine ux_calli (va_runV ⟨hx, hb, hml, hown, hts⟩ (s_Md_ofVariable l D ad cA A TB hA hB  M hI c101 (by omega)) (cwV 1 hts (tb_goodV ml_Md_357 im_Md_ofVariable se_Md_ofVariable ii_Md kt_Md_ofVariable) rfl rfl rfl (by decide +kernel) ⟨Nat.le_of_ble_eq_true rfl, Nat.le_of_ble_eq_true rfl⟩) (ux_preV (by decide) rfl rfl hP hK hi hN) rfl rfl hl.1 rfl (lv_room (Nat.le_of_ble_eq_true rfl)) d_Md_operand_72 ⟨Nat.zero_le _, Nat.zero_le _⟩) hS (fun r102 M103 H locs q104 hP hS => ?_)
          obtain ⟨hI, fq104, q104p⟩ := q104
          have hF := fr_call hF fq104 (fun a b q => by unfold mOv at q; unfold mOp; omega)
          refine lv_istore hx hb d_Md_operand_75 hl (by decide) rfl (fun ls hl => ?_)
          have hl : lv_has ls 7 [(4, .int r102), (6, .int (nI c84)), (5, .int (nI k)), (3, .int (nI c69)), (0, .ref (ad 0)), (1, .int (nI k)), (2, .int (nI sp))] := hl
          refine lv_iload_n hx hb d_Md_operand_77 rfl (lv_at hl 5 rfl) ?_
          refine lv_iconst (v := 2) hx hb d_Md_operand_78 (by decide) ?_
          refine lv_iadd hx hb d_Md_operand_79 ?_
          refine lv_topi (fun z105 hz105 => ?_)
          rw [show (nI k) + (2 : Int32) = nI (k + 2) from nI_add k 2] at hz105
          rw [hz105]
          refine lv_istore hx hb d_Md_operand_80 hl (by decide) rfl (fun ls hl => ?_)
          have hl : lv_has ls 7 [(5, .int (nI (k + 2))), (4, .int r102), (6, .int (nI c84)), (3, .int (nI c69)), (0, .ref (ad 0)), (1, .int (nI k)), (2, .int (nI sp))] := hl
          refine lv_goto hx hb d_Md_operand_82 rfl ?_
          refine lv_aload_n hx hb d_Md_operand_159 rfl (lv_at hl 4 rfl) ?_
          refine ux_get (C := R_Md) (T := F_Md) (N := 50) hx hb hT in_Md hown hK hP (by decide) rfl rfl 30 (by decide) (hT _ fl_Md_82) rfl d_Md_operand_160 ?_
          refine lv_aload_n hx hb d_Md_operand_163 rfl (lv_at hl 4 rfl) ?_
          refine ux_get (C := R_Md) (T := F_Md) (N := 50) hx hb hT in_Md hown hK hP (by decide) rfl rfl 32 (by decide) (hT _ fl_Md_341) rfl d_Md_operand_164 ?_
          refine lv_topi (fun z106 hz106 => ?_)
          rw [show M103 0 32 = nI v from (fq104 _ _ (by unfold mOv; omega)).trans (hv)] at hz106
          rw [hz106]
          refine lv_iload hx hb d_Md_operand_167 (lv_at hl 1 rfl) ?_
          refine ux_iast hx hb hK hi hP hS (by decide) rfl (vp_in_nI (show v < 210 by omega) (by decide)) d_Md_operand_169 (fun H locs hP hS => ?_)
          rw [nI_clamp (n := v) (by omega)] at hP
          have hI := IvM_free (k := 23) (j := v) (v := r102) hI rfl rfl (by unfold okW; omega)
          have hF := fr_wr (k := 23) (j := v) (v := r102) hF (by unfold mOp; omega)
          generalize eM107 : ux_wr M103 23 v r102 = M107 at hP hI hF
          refine lv_aload_n hx hb d_Md_operand_170 rfl (lv_at hl 4 rfl) ?_
          refine lv_dup hx hb d_Md_operand_171 rfl ?_
          refine ux_get (C := R_Md) (T := F_Md) (N := 50) hx hb hT in_Md hown hK hP (by decide) rfl rfl 32 (by decide) (hT _ fl_Md_341) rfl d_Md_operand_172 ?_
          refine lv_topi (fun z108 hz108 => ?_)
          rw [show M107 0 32 = nI v from (wr_off eM107 (by omega)).trans ((fq104 _ _ (by unfold mOv; omega)).trans (hv))] at hz108
          rw [hz108]
          refine lv_iconst (v := 1) hx hb d_Md_operand_175 (by decide) ?_
          refine lv_iadd hx hb d_Md_operand_176 ?_
          refine lv_topi (fun z109 hz109 => ?_)
          rw [show (nI v) + (1 : Int32) = nI (v + 1) from nI_add v 1] at hz109
          rw [hz109]
          refine ux_put (C := R_Md) (T := F_Md) (N := 50) hx hb hT in_Md t_Md t_Md_ok n_Md hown hK hi hP hS (by decide) rfl rfl 32 (by decide) (hT _ fl_Md_341) rfl (rfl) (rfl) rfl d_Md_operand_177 (fun H locs hP hS => ?_)
          have hI := IvM_wr (k := 0) (j := 32) (v := nI (v + 1)) hI (show (0 : Int) ≤ (nI (v + 1) : Int32).toInt from (by rw [nI_toInt (n := v + 1) (by omega)]; omega)) (show (nI (v + 1) : Int32).toInt ≤ (210 : Int) from (by rw [nI_toInt (n := v + 1) (by omega)]; omega)) (by unfold okW; omega)
          have hF := fr_wr (k := 0) (j := 32) (v := nI (v + 1)) hF (by unfold mOp; omega)
          generalize eM110 : ux_wr M107 0 32 (nI (v + 1)) = M110 at hP hI hF
          have tM110 : (M110 0 32).toInt = ((v + 1 : Nat) : Int) := by rw [wr_at eM110]; exact nI_toInt (by omega)
          refine lv_iload hx hb d_Md_operand_180 (lv_at hl 0 rfl) ?_
          exact W.iret (v := nI (k + 2)) hx hb hr (fun t ht hW => ⟨⟨nI (k + 2), M110, rfl, ⟨hI, hF, ⟨(wr_at eM110).trans (congrArg nI (by omega)), ⟨(k + 2), rfl, by omega, by omega, (by have := congrArg Int32.toInt (show M110 0 34 = M103 0 34 from (wr_off eM110 (by omega)).trans (wr_off eM107 (by omega))); omega)⟩, (by have := congrArg Int32.toInt (show M110 0 34 = M103 0 34 from (wr_off eM110 (by omega)).trans (wr_off eM107 (by omega))); omega)⟩⟩, by unfold ux_E; rw [ht]; exact hP⟩, hS.F ht⟩) hS.2.2 d_Md_operand_182
        · have g96 : ¬ (((c84 : Nat) : Int) ≤ 122) := fun q => h96 (Int32.le_iff_toInt_le.mpr (by rw [nI_toInt (n := c84) (by omega)]; exact q))
          refine lv_aload_n hx hb d_Md_operand_54 rfl (lv_at hl 4 rfl) ?_
          refine lv_iconst (v := 1) hx hb d_Md_operand_55 (by decide) ?_
          refine ux_callv (va_runV ⟨hx, hb, hml, hown, hts⟩ (s_Md_ill l D ad cA A TB hA hB  M hI 1) (cwV 1 hts (tb_goodV ml_Md_354 im_Md_ill se_Md_ill ii_Md kt_Md_ill) rfl rfl rfl (by decide +kernel) ⟨Nat.le_of_ble_eq_true rfl, Nat.le_of_ble_eq_true rfl⟩) (ux_preV (by decide) rfl rfl hP hK hi hN) rfl rfl hl.1 rfl (lv_room (Nat.le_of_ble_eq_true rfl)) d_Md_operand_56 ⟨Nat.zero_le _, Nat.zero_le _⟩) hS (fun M112 H locs q113 hP hS => ?_)
          obtain ⟨hI, fq113, q113p⟩ := q113
          have hF := fr_call hF fq113 (fun a b q => by unfold mIl at q; unfold mOp; omega)
          rw [show (1 : Int32).toInt = 1 from rfl] at q113p
          refine lv_goto hx hb d_Md_operand_59 rfl ?_
          refine lv_iload_n hx hb d_Md_operand_77 rfl (lv_at hl 5 rfl) ?_
          refine lv_iconst (v := 2) hx hb d_Md_operand_78 (by decide) ?_
          refine lv_iadd hx hb d_Md_operand_79 ?_
          refine lv_topi (fun z114 hz114 => ?_)
          rw [show (nI k) + (2 : Int32) = nI (k + 2) from nI_add k 2] at hz114
          rw [hz114]
          refine lv_istore hx hb d_Md_operand_80 hl (by decide) rfl (fun ls hl => ?_)
          have hl : lv_has ls 7 [(5, .int (nI (k + 2))), (6, .int (nI c84)), (4, .int 0), (3, .int (nI c69)), (0, .ref (ad 0)), (1, .int (nI k)), (2, .int (nI sp))] := hl
          refine lv_goto hx hb d_Md_operand_82 rfl ?_
          refine lv_aload_n hx hb d_Md_operand_159 rfl (lv_at hl 4 rfl) ?_
          refine ux_get (C := R_Md) (T := F_Md) (N := 50) hx hb hT in_Md hown hK hP (by decide) rfl rfl 30 (by decide) (hT _ fl_Md_82) rfl d_Md_operand_160 ?_
          refine lv_aload_n hx hb d_Md_operand_163 rfl (lv_at hl 4 rfl) ?_
          refine ux_get (C := R_Md) (T := F_Md) (N := 50) hx hb hT in_Md hown hK hP (by decide) rfl rfl 32 (by decide) (hT _ fl_Md_341) rfl d_Md_operand_164 ?_
          refine lv_topi (fun z115 hz115 => ?_)
          rw [show M112 0 32 = nI v from (fq113 _ _ (by unfold mIl; omega)).trans (hv)] at hz115
          rw [hz115]
          refine lv_iload hx hb d_Md_operand_167 (lv_at hl 2 rfl) ?_
          refine ux_iast hx hb hK hi hP hS (by decide) rfl (vp_in_nI (show v < 210 by omega) (by decide)) d_Md_operand_169 (fun H locs hP hS => ?_)
          rw [nI_clamp (n := v) (by omega)] at hP
          have hI := IvM_free (k := 23) (j := v) (v := 0) hI rfl rfl (by unfold okW; omega)
          have hF := fr_wr (k := 23) (j := v) (v := 0) hF (by unfold mOp; omega)
          generalize eM116 : ux_wr M112 23 v 0 = M116 at hP hI hF
          refine lv_aload_n hx hb d_Md_operand_170 rfl (lv_at hl 4 rfl) ?_
          refine lv_dup hx hb d_Md_operand_171 rfl ?_
          refine ux_get (C := R_Md) (T := F_Md) (N := 50) hx hb hT in_Md hown hK hP (by decide) rfl rfl 32 (by decide) (hT _ fl_Md_341) rfl d_Md_operand_172 ?_
          refine lv_topi (fun z117 hz117 => ?_)
          rw [show M116 0 32 = nI v from (wr_off eM116 (by omega)).trans ((fq113 _ _ (by unfold mIl; omega)).trans (hv))] at hz117
          rw [hz117]
          refine lv_iconst (v := 1) hx hb d_Md_operand_175 (by decide) ?_
          refine lv_iadd hx hb d_Md_operand_176 ?_
          refine lv_topi (fun z118 hz118 => ?_)
          rw [show (nI v) + (1 : Int32) = nI (v + 1) from nI_add v 1] at hz118
          rw [hz118]
          refine ux_put (C := R_Md) (T := F_Md) (N := 50) hx hb hT in_Md t_Md t_Md_ok n_Md hown hK hi hP hS (by decide) rfl rfl 32 (by decide) (hT _ fl_Md_341) rfl (rfl) (rfl) rfl d_Md_operand_177 (fun H locs hP hS => ?_)
          have hI := IvM_wr (k := 0) (j := 32) (v := nI (v + 1)) hI (show (0 : Int) ≤ (nI (v + 1) : Int32).toInt from (by rw [nI_toInt (n := v + 1) (by omega)]; omega)) (show (nI (v + 1) : Int32).toInt ≤ (210 : Int) from (by rw [nI_toInt (n := v + 1) (by omega)]; omega)) (by unfold okW; omega)
          have hF := fr_wr (k := 0) (j := 32) (v := nI (v + 1)) hF (by unfold mOp; omega)
          generalize eM119 : ux_wr M116 0 32 (nI (v + 1)) = M119 at hP hI hF
          have tM119 : (M119 0 32).toInt = ((v + 1 : Nat) : Int) := by rw [wr_at eM119]; exact nI_toInt (by omega)
          refine lv_iload hx hb d_Md_operand_180 (lv_at hl 0 rfl) ?_
          exact W.iret (v := nI (k + 2)) hx hb hr (fun t ht hW => ⟨⟨nI (k + 2), M119, rfl, ⟨hI, hF, ⟨(wr_at eM119).trans (congrArg nI (by omega)), ⟨(k + 2), rfl, by omega, by omega, (by have := congrArg Int32.toInt (show M119 0 34 = M112 0 34 from (wr_off eM119 (by omega)).trans (wr_off eM116 (by omega))); omega)⟩, (by have := congrArg Int32.toInt (show M119 0 34 = M112 0 34 from (wr_off eM119 (by omega)).trans (wr_off eM116 (by omega))); omega)⟩⟩, by unfold ux_E; rw [ht]; exact hP⟩, hS.F ht⟩) hS.2.2 d_Md_operand_182
