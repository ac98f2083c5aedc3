/-! The reference, safe: a command; written by wip/gen/ref.py -/
def foP (M M1 : ux_M) (L : Nat) (fa fb fc : Int32) : Prop := (∀ a b, ¬ mDg a b → M1 a b = M a b) ∧ ∀ w : Nat, 1 ≤ w → w < 4 → (w : Int) < (M 14 L).toInt → okf M (8 * L + w) (fsel fa fb fc w) ∧ ((fsel fa fb fc w).toInt = 119 → ¬ M 17 (8 * L + w) = 0)
theorem fo_c {M M1 : ux_M} {L w : Nat} {fa fb fc : Int32} (h : foP M M1 L fa fb fc) (hc : (w : Int) < (M1 14 L).toInt) : (w : Int) < (M 14 L).toInt := by
  rw [← h.1 14 L (by unfold mDg; omega)]
  exact hc
theorem fo_v {M M1 : ux_M} {L : Nat} {fa fb fc : Int32} (h : foP M M1 L fa fb fc) (w : Nat) (h1 : 1 ≤ w) (h2 : w < 4) (hf : (fsel fa fb fc w).toInt = 118) (hc : (w : Int) < (M1 14 L).toInt) : nmK M1 (8 * L + w) 97 := nmK_eq (fun a b q => (h.1 a b q).symm) ((h.2 w h1 h2 (fo_c h hc)).1.1 hf)
theorem fo_p {M M1 : ux_M} {L : Nat} {fa fb fc : Int32} (h : foP M M1 L fa fb fc) (w : Nat) (h1 : 1 ≤ w) (h2 : w < 4) (hf : (fsel fa fb fc w).toInt = 112) (hc : (w : Int) < (M1 14 L).toInt) : nmK M1 (8 * L + w) 65 := nmK_eq (fun a b q => (h.1 a b q).symm) ((h.2 w h1 h2 (fo_c h hc)).1.2.1 hf)
theorem fo_x {M M1 : ux_M} {L : Nat} {fa fb fc : Int32} (h : foP M M1 L fa fb fc) (w : Nat) (h1 : 1 ≤ w) (h2 : w < 4) (hf : (fsel fa fb fc w).toInt = 120) (hc : (w : Int) < (M1 14 L).toInt) : (M1 19 (8 * L + w)).toInt ≤ 20 := by
  rw [h.1 19 _ (by unfold mDg; omega)]
  exact (h.2 w h1 h2 (fo_c h hc)).1.2.2 hf
theorem fo_w {M M1 : ux_M} {L : Nat} {fa fb fc : Int32} (h : foP M M1 L fa fb fc) (w : Nat) (h1 : 1 ≤ w) (h2 : w < 4) (hf : (fsel fa fb fc w).toInt = 119) (hc : (w : Int) < (M1 14 L).toInt) : ¬ M1 17 (8 * L + w) = 0 := by
  rw [h.1 17 _ (by unfold mDg; omega)]
  exact (h.2 w h1 h2 (fo_c h hc)).2 hf

set_option maxHeartbeats 1600000 in
set_option maxRecDepth 100000 in
theorem s_Md_other (l : Launch) (D : va_G) (ad : Nat → Nat) (cA : Nat → ClassId) (A TB : Nat) (hA : A ≤ 100000000) (hB : TB ≤ 2000000000) (M : ux_M) (hI : IvM A TB M) (L : Nat) (hL : L ≤ 7) (hlv : M 0 10 = nI L) (hA2 : 200 ≤ A) (c1 : Int32) (hc0 : 0 ≤ c1.toInt) (hc1 : c1.toInt ≤ 65535) : Met l y_Md_other w_Md_other ({ frames := 7, cells := 0, slots := 0, locals := 165 }) (va_Pc [.ref (ad 0), .int c1] (ux_B D shM KM ad cA M)) (va_Qv (fun M1 => IvM A TB M1 ∧ (∀ a b, ¬ (mCm L) a b → M1 a b = M a b) ∧ (OutS M M1 L)) (ux_E D shM KM ad cA) (ux_A KM ad)) 0 0 (ux_A KM ad) := by
  refine Met.ofW (cc := b_Md_other) (maxL := 3) (ret := none) (by decide) rfl ?_
  intro p e s m args below meth c s₁ B hml hv
  obtain ⟨rfl, hP, hK, hi, hN⟩ := hv
  have hx := B.exec
  have hb := B.bytes
  have hr := B.returns
  have hts := atoms_spec (ws := w_Md_other) B.pre
  have hown : s.vm.findClass R_Md = some m.cls := findClass_of_methodNamed B.named
  have hlocks := B.notSynchronized
  have hT : ∀ w ∈ tb, w.before _ s = true := fun w h => hts w (List.mem_cons_of_mem _ h)
  have hS : va_S (ux_A KM ad) s.heap s.heap [] := va_S.rf
  have hl := lv_entry ([.ref (ad 0), .int c1]) (n := 3) (Nat.le_of_ble_eq_true rfl)
  rw [lg_entry_eq]
  generalize (lg_sl ([.ref (ad 0), .int c1]) ++ List.replicate (3 - (lg_sl ([.ref (ad 0), .int c1])).length) Slot.unset).toArray = ls at hl ⊢
  have hl : lv_has ls 3 [(0, .ref (ad 0)), (1, .int c1)] := hl
  have hF : ∀ a b, ¬ (mCm L) a b → M a b = M a b := fun _ _ _ => rfl
  refine lv_iload_n hx hb d_Md_other_0 rfl (lv_at hl 1 rfl) ?_
  refine lv_bipush (v := 65) hx hb d_Md_other_1 (by decide) ?_
  refine lv_isub hx hb d_Md_other_3 ?_
  refine lv_topi (fun x1 ex1 => ?_)
  try have fx1 : x1.toInt = c1.toInt - 65 := by rw [ex1, ti_sub (by (try rw [show (65 : Int32).toInt = 65 from rfl]); omega) (by (try rw [show (65 : Int32).toInt = 65 from rfl]); omega)]; (try rw [show (65 : Int32).toInt = 65 from rfl]); first | done | rfl | omega
  refine lv_istore_n hx hb d_Md_other_4 rfl hl (by decide) rfl (fun ls hl => ?_)
  have hl : lv_has ls 3 [(2, .int x1), (0, .ref (ad 0)), (1, .int c1)] := hl
  refine lv_iload_n hx hb d_Md_other_5 rfl (lv_at hl 0 rfl) ?_
  refine lv_if_lt hx hb d_Md_other_6 rfl (fun h2 => ?_) (fun h2 => ?_)
  · have g2 : x1.toInt < 0 := Int32.lt_iff_toInt_lt.mp h2
    have w2 := ti_lo x1
    refine lv_aload_n hx hb d_Md_other_24 rfl (lv_at hl 1 rfl) ?_
    refine lv_iconst (v := 2) hx hb d_Md_other_25 (by decide) ?_
    refine ux_callv (va_runV ⟨hx, hb, hml, hown, hts⟩ (s_Md_error l D ad cA A TB hA hB  M hI 2) (cwV 1 hts (tb_goodV ml_Md_166 im_Md_error se_Md_error ii_Md kt_Md_error) rfl rfl rfl (by decide +kernel) ⟨Nat.le_of_ble_eq_true rfl, Nat.le_of_ble_eq_true rfl⟩) (ux_preV (by decide) rfl rfl hP hK hi hN) rfl rfl hl.1 rfl (lv_room (Nat.le_of_ble_eq_true rfl)) d_Md_other_26 ⟨Nat.zero_le _, Nat.zero_le _⟩) hS (fun M4 H locs q5 hP hS => ?_)
    obtain ⟨hI, fq5, q5p⟩ := q5
    have hF := fr_call hF fq5 (fun a b q => by unfold mEr at q; unfold mCm; omega)
    refine lv_goto hx hb d_Md_other_29 rfl ?_
    exact W.vret hx hb hr (fun t ht hW => ⟨⟨M4, rfl, ⟨hI, hF, Or.inl ⟨((fq5 _ _ (by unfold mEr; omega)).trans (hlv)), q5p.1⟩⟩, by unfold ux_E; rw [ht]; exact hP⟩, hS.F ht⟩) hS.2.2 d_Md_other_59
  · have g2 : ¬ (x1.toInt < 0) := fun q => h2 (Int32.lt_iff_toInt_lt.mpr q)
    have u2 := ti_hi x1
    refine lv_iload_n hx hb d_Md_other_9 rfl (lv_at hl 0 rfl) ?_
    refine lv_bipush (v := 25) hx hb d_Md_other_10 (by decide) ?_
    refine lv_icmp_gt hx hb d_Md_other_12 rfl (fun h6 => ?_) (fun h6 => ?_)
    · have g6 : 25 < x1.toInt := Int32.lt_iff_toInt_lt.mp h6
      have u6 := ti_hi x1
      refine lv_aload_n hx hb d_Md_other_24 rfl (lv_at hl 1 rfl) ?_
      refine lv_iconst (v := 2) hx hb d_Md_other_25 (by decide) ?_
      refine ux_callv (va_runV ⟨hx, hb, hml, hown, hts⟩ (s_Md_error l D ad cA A TB hA hB  M hI 2) (cwV 1 hts (tb_goodV ml_Md_166 im_Md_error se_Md_error ii_Md kt_Md_error) rfl rfl rfl (by decide +kernel) ⟨Nat.le_of_ble_eq_true rfl, Nat.le_of_ble_eq_true rfl⟩) (ux_preV (by decide) rfl rfl hP hK hi hN) rfl rfl hl.1 rfl (lv_room (Nat.le_of_ble_eq_true rfl)) d_Md_other_26 ⟨Nat.zero_le _, Nat.zero_le _⟩) hS (fun M8 H locs q9 hP hS => ?_)
      obtain ⟨hI, fq9, q9p⟩ := q9
      have hF := fr_call hF fq9 (fun a b q => by unfold mEr at q; unfold mCm; omega)
      refine lv_goto hx hb d_Md_other_29 rfl ?_
      exact W.vret hx hb hr (fun t ht hW => ⟨⟨M8, rfl, ⟨hI, hF, Or.inl ⟨((fq9 _ _ (by unfold mEr; omega)).trans (hlv)), q9p.1⟩⟩, by unfold ux_E; rw [ht]; exact hP⟩, hS.F ht⟩) hS.2.2 d_Md_other_59
    · have g6 : ¬ (25 < x1.toInt) := fun q => h6 (Int32.lt_iff_toInt_lt.mpr q)
      have w6 := ti_lo x1
      refine lv_aload_n hx hb d_Md_other_15 rfl (lv_at hl 1 rfl) ?_
      refine ux_get (C := R_Md) (T := F_Md) (N := 50) hx hb hT in_Md hown hK hP (by decide) rfl rfl 6 (by decide) (hT _ fl_Md_24) rfl d_Md_other_16 ?_
      refine lv_iload_n hx hb d_Md_other_19 rfl (lv_at hl 0 rfl) ?_
      refine ux_zald hx hb hK hP (by decide) rfl ((vi (show 0 ≤ x1.toInt by omega) (show x1.toInt < ((26 : Nat) : Int) by omega))) d_Md_other_20 ?_
      refine lv_if_ne hx hb d_Md_other_21 rfl (fun h10 => ?_) (fun h10 => ?_)
      · have g10 : ¬ ((M 5 x1.toNatClampNeg).toInt = 0) := fun q => h10 (Int32.toInt_inj.mp q)
        refine lv_aload_n hx hb d_Md_other_32 rfl (lv_at hl 1 rfl) ?_
        refine lv_iconst (v := 1) hx hb d_Md_other_33 (by decide) ?_
        refine lv_iconst (v := 1) hx hb d_Md_other_34 (by decide) ?_
        refine ux_calli (va_runV ⟨hx, hb, hml, hown, hts⟩ (s_Md_words l D ad cA A TB hA hB  M hI L hL (hlv) 1 1) (cwV 2 hts (tb_goodV ml_Md_249 im_Md_words se_Md_words ii_Md kt_Md_words) rfl rfl rfl (by decide +kernel) ⟨Nat.le_of_ble_eq_true rfl, Nat.le_of_ble_eq_true rfl⟩) (ux_preV (by decide) rfl rfl hP hK hi hN) rfl rfl hl.1 rfl (lv_room (Nat.le_of_ble_eq_true rfl)) d_Md_other_35 ⟨Nat.zero_le _, Nat.zero_le _⟩) hS (fun r11 M12 H locs q13 hP hS => ?_)
        obtain ⟨hI, fq13, q13p⟩ := q13
        have hF := fr_call hF fq13 (fun a b q => by unfold mEr at q; unfold mCm; omega)
        have hr_r11 : ¬ r11.toInt = 0 → r11 = 1 := fun z => by rcases q13p.1 with q | q; exact absurd (by rw [q]; rfl) z; exact q
        have hz_r11 : r11.toInt = 0 → r11 = 0 := fun z => by rcases q13p.1 with q | q; exact q; rw [q] at z; exact absurd z (by decide)
        have hwo : r11 = 1 → (1 : Int) ≤ (M12 14 L).toInt - 1 ∧ (M12 14 L).toInt - 1 ≤ 1 := fun z => by
          have q := q13p.2.1 z
          rw [q.1 14 L]
          exact q.2
        refine lv_if_eq hx hb d_Md_other_38 rfl (fun h14 => ?_) (fun h14 => ?_)
        · have g14 : r11.toInt = 0 := congrArg Int32.toInt h14
          exact W.vret hx hb hr (fun t ht hW => ⟨⟨M12, rfl, ⟨hI, hF, Or.inl ⟨((fq13 _ _ (by unfold mEr; omega)).trans (hlv)), (q13p.2.2 (hz_r11 (by omega))).1⟩⟩, by unfold ux_E; rw [ht]; exact hP⟩, hS.F ht⟩) hS.2.2 d_Md_other_59
        · have g14 : ¬ (r11.toInt = 0) := fun q => h14 (Int32.toInt_inj.mp q)
          refine lv_aload_n hx hb d_Md_other_41 rfl (lv_at hl 1 rfl) ?_
          refine lv_bipush (v := 120) hx hb d_Md_other_42 (by decide) ?_
          refine lv_bipush (v := 32) hx hb d_Md_other_44 (by decide) ?_
          refine lv_bipush (v := 32) hx hb d_Md_other_46 (by decide) ?_
          refine ux_calli (va_runV ⟨hx, hb, hml, hown, hts⟩ (s_Md_forms l D ad cA A TB hA hB  M12 hI L hL ((fq13 _ _ (by unfold mEr; omega)).trans (hlv)) 120 32 32) (cwV 3 hts (tb_goodV ml_Md_253 im_Md_forms se_Md_forms ii_Md kt_Md_forms) rfl rfl rfl (by decide +kernel) ⟨Nat.le_of_ble_eq_true rfl, Nat.le_of_ble_eq_true rfl⟩) (ux_preV (by decide) rfl rfl hP hK hi hN) rfl rfl hl.1 rfl (lv_room (Nat.le_of_ble_eq_true rfl)) d_Md_other_48 ⟨Nat.zero_le _, Nat.zero_le _⟩) hS (fun r15 M16 H locs q17 hP hS => ?_)
          obtain ⟨hI, fq17, q17p⟩ := q17
          have hF := fr_call hF fq17 (fun a b q => by unfold mFi at q; unfold mCm; omega)
          have hr_r15 : ¬ r15.toInt = 0 → r15 = 1 := fun z => by rcases q17p.1 with q | q; exact absurd (by rw [q]; rfl) z; exact q
          have hz_r15 : r15.toInt = 0 → r15 = 0 := fun z => by rcases q17p.1 with q | q; exact q; rw [q] at z; exact absurd z (by decide)
          have hfc := congrArg Int32.toInt (fq17 14 L (by unfold mFi; omega))
          refine lv_if_eq hx hb d_Md_other_51 rfl (fun h18 => ?_) (fun h18 => ?_)
          · have g18 : r15.toInt = 0 := congrArg Int32.toInt h18
            exact W.vret hx hb hr (fun t ht hW => ⟨⟨M16, rfl, ⟨hI, hF, Or.inl ⟨((fq17 _ _ (by unfold mFi; omega)).trans ((fq13 _ _ (by unfold mEr; omega)).trans (hlv))), (q17p.2.2 (hz_r15 (by omega))).1⟩⟩, by unfold ux_E; rw [ht]; exact hP⟩, hS.F ht⟩) hS.2.2 d_Md_other_59
          · have g18 : ¬ (r15.toInt = 0) := fun q => h18 (Int32.toInt_inj.mp q)
            have hwq := hwo (hr_r11 (by omega))
            have hfp : foP _ M16 L 120 32 32 := q17p.2.1 (hr_r15 (by omega))
            have hq1 := fo_x hfp 1 (by decide) (by decide) rfl
            refine lv_aload_n hx hb d_Md_other_54 rfl (lv_at hl 1 rfl) ?_
            refine lv_iload_n hx hb d_Md_other_55 rfl (lv_at hl 0 rfl) ?_
            obtain ⟨q22, hq22, eq22⟩ := nat_of (x := x1) (n := 25) (by omega) (by omega)
            subst eq22
            refine ux_callv (va_runV ⟨hx, hb, hml, hown, hts⟩ (s_Md_call l D ad cA A TB hA hB  M16 hI L hL ((fq17 _ _ (by unfold mFi; omega)).trans ((fq13 _ _ (by unfold mEr; omega)).trans (hlv))) hA2 q22 (by omega) (by first | omega | exact hq1 (by omega))) (cwV 1 hts (tb_goodV ml_Md_299 im_Md_call se_Md_call ii_Md kt_Md_call) rfl rfl rfl (by decide +kernel) ⟨Nat.le_of_ble_eq_true rfl, Nat.le_of_ble_eq_true rfl⟩) (ux_preV (by decide) rfl rfl hP hK hi hN) rfl rfl hl.1 rfl (lv_room (Nat.le_of_ble_eq_true rfl)) d_Md_other_56 ⟨Nat.zero_le _, Nat.zero_le _⟩) hS (fun M20 H locs q21 hP hS => ?_)
            obtain ⟨hI, fq21, q21p⟩ := q21
            have hF := fr_call hF fq21 (fun a b q => q)
            exact W.vret hx hb hr (fun t ht hW => ⟨⟨M20, rfl, ⟨hI, hF, (OutS_cong (by assumption) q21p)⟩, by unfold ux_E; rw [ht]; exact hP⟩, hS.F ht⟩) hS.2.2 d_Md_other_59
      · have g10 : (M 5 x1.toNatClampNeg).toInt = 0 := congrArg Int32.toInt h10
        refine lv_aload_n hx hb d_Md_other_24 rfl (lv_at hl 1 rfl) ?_
        refine lv_iconst (v := 2) hx hb d_Md_other_25 (by decide) ?_
        refine ux_callv (va_runV ⟨hx, hb, hml, hown, hts⟩ (s_Md_error l D ad cA A TB hA hB  M hI 2) (cwV 1 hts (tb_goodV ml_Md_166 im_Md_error se_Md_error ii_Md kt_Md_error) rfl rfl rfl (by decide +kernel) ⟨Nat.le_of_ble_eq_true rfl, Nat.le_of_ble_eq_true rfl⟩) (ux_preV (by decide) rfl rfl hP hK hi hN) rfl rfl hl.1 rfl (lv_room (Nat.le_of_ble_eq_true rfl)) d_Md_other_26 ⟨Nat.zero_le _, Nat.zero_le _⟩) hS (fun M23 H locs q24 hP hS => ?_)
        obtain ⟨hI, fq24, q24p⟩ := q24
        have hF := fr_call hF fq24 (fun a b q => by unfold mEr at q; unfold mCm; omega)
        refine lv_goto hx hb d_Md_other_29 rfl ?_
        exact W.vret hx hb hr (fun t ht hW => ⟨⟨M23, rfl, ⟨hI, hF, Or.inl ⟨((fq24 _ _ (by unfold mEr; omega)).trans (hlv)), q24p.1⟩⟩, by unfold ux_E; rw [ht]; exact hP⟩, hS.F ht⟩) hS.2.2 d_Md_other_59

set_option maxHeartbeats 1600000 in
set_option maxRecDepth 100000 in
theorem s_Md_command (l : Launch) (D : va_G) (ad : Nat → Nat) (cA : Nat → ClassId) (A TB : Nat) (hA : A ≤ 100000000) (hB : TB ≤ 2000000000) (M : ux_M) (hI : IvM A TB M) (L : Nat) (hL : L ≤ 7) (hlv : M 0 10 = nI L) (hA2 : 200 ≤ A) : Met l y_Md_command w_Md_command ({ frames := 8, cells := 0, slots := 0, locals := 187 }) (va_Pc [.ref (ad 0)] (ux_B D shM KM ad cA M)) (va_Qv (fun M1 => IvM A TB M1 ∧ (∀ a b, ¬ (mCm L) a b → M1 a b = M a b) ∧ (OutS M M1 L)) (ux_E D shM KM ad cA) (ux_A KM ad)) 0 0 (ux_A KM ad) := by
  refine Met.ofW (cc := b_Md_command) (maxL := 2) (ret := none) (by decide) rfl ?_
  intro p e s m args below meth c s₁ B hml hv
  obtain ⟨rfl, hP, hK, hi, hN⟩ := hv
  have hx := B.exec
  have hb := B.bytes
  have hr := B.returns
  have hts := atoms_spec (ws := w_Md_command) B.pre
  have hown : s.vm.findClass R_Md = some m.cls := findClass_of_methodNamed B.named
  have hlocks := B.notSynchronized
  have hT : ∀ w ∈ tb, w.before _ s = true := fun w h => hts w (List.mem_cons_of_mem _ h)
  have hS : va_S (ux_A KM ad) s.heap s.heap [] := va_S.rf
  have hl := lv_entry ([.ref (ad 0)]) (n := 2) (Nat.le_of_ble_eq_true rfl)
  rw [lg_entry_eq]
  generalize (lg_sl ([.ref (ad 0)]) ++ List.replicate (2 - (lg_sl ([.ref (ad 0)])).length) Slot.unset).toArray = ls at hl ⊢
  have hl : lv_has ls 2 [(0, .ref (ad 0))] := hl
  have hF : ∀ a b, ¬ (mCm L) a b → M a b = M a b := fun _ _ _ => rfl
  have hft := hI.2.2
  unfold Ft at hft
  have cut32 : ∀ (i_1 : Int32) (Mc32 : ux_M) (H : Heap) (locs : List Loc) (ls : Array Slot), (0 ≤ i_1.toInt) → (i_1.toInt ≤ 65535) → (Mc32 0 10 = nI L) → ((Mc32 0 48).toInt + 40 * ((Mc32 0 27).toInt - (Mc32 0 28).toInt) + 40 ≤ (TB : Int)) → va_P D classes (ux_w shM KM ad cA Mc32) H → IvM A TB Mc32 → (∀ a b, ¬ (mCm L) a b → Mc32 a b = M a b) → va_S (ux_A KM ad) s.heap H locs → lv_has ls 2 [(0, .ref (ad 0)), (1, .int i_1)] → W p l e (headSpec w_Md_command ({ frames := 8, cells := 0, slots := 0, locals := 187 })).room s m (([.ref (ad 0)] : List Value).toArray) below meth c H locs 0 0 (MQ below (va_Qv (fun M1 => IvM A TB M1 ∧ (∀ a b, ¬ (mCm L) a b → M1 a b = M a b) ∧ (OutS M M1 L)) (ux_E D shM KM ad cA) (ux_A KM ad)) (([.ref (ad 0)] : List Value).toArray) s 0 0 (ux_A KM ad)) (F0 m 32 ls []) := by
    intro i_1 Mc32 H locs ls c32_0 c32_1 c32_2 c32_3 hP hI hF hS hl
    refine lv_iload_n hx hb d_Md_command_32 rfl (lv_at hl 1 rfl) ?_
    by_cases h1 : i_1 = 42
    · have g1 : i_1.toInt = 42 := congrArg Int32.toInt h1
      refine lv_lookup (off := 335) (tgt := 368) hx hb d_Md_command_33 (by decide) (by rw [g1]; rfl) (by decide) ?_
      refine lv_aload_n hx hb d_Md_command_368 rfl (lv_at hl 0 rfl) ?_
      refine lv_iconst (v := 2) hx hb d_Md_command_369 (by decide) ?_
      refine lv_iconst (v := 2) hx hb d_Md_command_370 (by decide) ?_
      refine ux_calli (va_runV ⟨hx, hb, hml, hown, hts⟩ (s_Md_words l D ad cA A TB hA hB  Mc32 hI L hL (c32_2) 2 2) (cwV 2 hts (tb_goodV ml_Md_249 im_Md_words se_Md_words ii_Md kt_Md_words) rfl rfl rfl (by decide +kernel) ⟨Nat.le_of_ble_eq_true rfl, Nat.le_of_ble_eq_true rfl⟩) (ux_preV (by decide) rfl rfl hP hK hi hN) rfl rfl hl.1 rfl (lv_room (Nat.le_of_ble_eq_true rfl)) d_Md_command_371 ⟨Nat.zero_le _, Nat.zero_le _⟩) hS (fun r2 M3 H locs q4 hP hS => ?_)
      obtain ⟨hI, fq4, q4p⟩ := q4
      have hF := fr_call hF fq4 (fun a b q => by unfold mEr at q; unfold mCm; omega)
      have hr_r2 : ¬ r2.toInt = 0 → r2 = 1 := fun z => by rcases q4p.1 with q | q; exact absurd (by rw [q]; rfl) z; exact q
      have hz_r2 : r2.toInt = 0 → r2 = 0 := fun z => by rcases q4p.1 with q | q; exact q; rw [q] at z; exact absurd z (by decide)
      have hwo : r2 = 1 → (2 : Int) ≤ (M3 14 L).toInt - 1 ∧ (M3 14 L).toInt - 1 ≤ 2 := fun z => by
        have q := q4p.2.1 z
        rw [q.1 14 L]
        exact q.2
      refine lv_if_eq hx hb d_Md_command_374 rfl (fun h5 => ?_) (fun h5 => ?_)
      · have g5 : r2.toInt = 0 := congrArg Int32.toInt h5
        exact W.vret hx hb hr (fun t ht hW => ⟨⟨M3, rfl, ⟨hI, hF, Or.inl ⟨((fq4 _ _ (by unfold mEr; omega)).trans (c32_2)), (q4p.2.2 (hz_r2 (by omega))).1⟩⟩, by unfold ux_E; rw [ht]; exact hP⟩, hS.F ht⟩) hS.2.2 d_Md_command_643
      · have g5 : ¬ (r2.toInt = 0) := fun q => h5 (Int32.toInt_inj.mp q)
        refine lv_aload_n hx hb d_Md_command_377 rfl (lv_at hl 0 rfl) ?_
        refine lv_bipush (v := 119) hx hb d_Md_command_378 (by decide) ?_
        refine lv_bipush (v := 119) hx hb d_Md_command_380 (by decide) ?_
        refine lv_bipush (v := 32) hx hb d_Md_command_382 (by decide) ?_
        refine ux_calli (va_runV ⟨hx, hb, hml, hown, hts⟩ (s_Md_forms l D ad cA A TB hA hB  M3 hI L hL ((fq4 _ _ (by unfold mEr; omega)).trans (c32_2)) 119 119 32) (cwV 3 hts (tb_goodV ml_Md_253 im_Md_forms se_Md_forms ii_Md kt_Md_forms) rfl rfl rfl (by decide +kernel) ⟨Nat.le_of_ble_eq_true rfl, Nat.le_of_ble_eq_true rfl⟩) (ux_preV (by decide) rfl rfl hP hK hi hN) rfl rfl hl.1 rfl (lv_room (Nat.le_of_ble_eq_true rfl)) d_Md_command_384 ⟨Nat.zero_le _, Nat.zero_le _⟩) hS (fun r6 M7 H locs q8 hP hS => ?_)
        obtain ⟨hI, fq8, q8p⟩ := q8
        have hF := fr_call hF fq8 (fun a b q => by unfold mFi at q; unfold mCm; omega)
        have hr_r6 : ¬ r6.toInt = 0 → r6 = 1 := fun z => by rcases q8p.1 with q | q; exact absurd (by rw [q]; rfl) z; exact q
        have hz_r6 : r6.toInt = 0 → r6 = 0 := fun z => by rcases q8p.1 with q | q; exact q; rw [q] at z; exact absurd z (by decide)
        have hfc := congrArg Int32.toInt (fq8 14 L (by unfold mFi; omega))
        refine lv_if_eq hx hb d_Md_command_387 rfl (fun h9 => ?_) (fun h9 => ?_)
        · have g9 : r6.toInt = 0 := congrArg Int32.toInt h9
          exact W.vret hx hb hr (fun t ht hW => ⟨⟨M7, rfl, ⟨hI, hF, Or.inl ⟨((fq8 _ _ (by unfold mFi; omega)).trans ((fq4 _ _ (by unfold mEr; omega)).trans (c32_2))), (q8p.2.2 (hz_r6 (by omega))).1⟩⟩, by unfold ux_E; rw [ht]; exact hP⟩, hS.F ht⟩) hS.2.2 d_Md_command_643
        · have g9 : ¬ (r6.toInt = 0) := fun q => h9 (Int32.toInt_inj.mp q)
          have hwq := hwo (hr_r2 (by omega))
          have hfp : foP _ M7 L 119 119 32 := q8p.2.1 (hr_r6 (by omega))
          have hq1 := fo_w hfp 1 (by decide) (by decide) rfl
          have hq2 := fo_w hfp 2 (by decide) (by decide) rfl
          refine lv_aload_n hx hb d_Md_command_390 rfl (lv_at hl 0 rfl) ?_
          refine ux_callv (va_runV ⟨hx, hb, hml, hown, hts⟩ (s_Md_again l D ad cA A TB hA hB  M7 hI L hL ((fq8 _ _ (by unfold mFi; omega)).trans ((fq4 _ _ (by unfold mEr; omega)).trans (c32_2))) hA2 (by first | assumption | exact hq1 (by omega)) (by first | assumption | exact hq2 (by omega))) (cwV 0 hts (tb_goodV ml_Md_216 im_Md_again se_Md_again ii_Md kt_Md_again) rfl rfl rfl (by decide +kernel) ⟨Nat.le_of_ble_eq_true rfl, Nat.le_of_ble_eq_true rfl⟩) (ux_preV (by decide) rfl rfl hP hK hi hN) rfl rfl hl.1 rfl (lv_room (Nat.le_of_ble_eq_true rfl)) d_Md_command_391 ⟨Nat.zero_le _, Nat.zero_le _⟩) hS (fun M11 H locs q12 hP hS => ?_)
          obtain ⟨hI, fq12, q12p⟩ := q12
          have hF := fr_call hF fq12 (fun a b q => q)
          refine lv_goto hx hb d_Md_command_394 rfl ?_
          exact W.vret hx hb hr (fun t ht hW => ⟨⟨M11, rfl, ⟨hI, hF, (OutS_cong (by assumption) q12p)⟩, by unfold ux_E; rw [ht]; exact hP⟩, hS.F ht⟩) hS.2.2 d_Md_command_643
    have g1 : ¬ i_1.toInt = 42 := fun q => h1 (Int32.toInt_inj.mp q)
    by_cases h13 : i_1 = 60
    · have g13 : i_1.toInt = 60 := congrArg Int32.toInt h13
      refine lv_lookup (off := 591) (tgt := 624) hx hb d_Md_command_33 (by decide) (by rw [g13]; rfl) (by decide) ?_
      refine lv_aload_n hx hb d_Md_command_624 rfl (lv_at hl 0 rfl) ?_
      refine ux_calli (va_runV ⟨hx, hb, hml, hown, hts⟩ (s_Md_waits l D ad cA A TB hA hB  Mc32 hI L hL (c32_2)) (cwV 0 hts (tb_goodV ml_Md_290 im_Md_waits se_Md_waits ii_Md kt_Md_waits) rfl rfl rfl (by decide +kernel) ⟨Nat.le_of_ble_eq_true rfl, Nat.le_of_ble_eq_true rfl⟩) (ux_preV (by decide) rfl rfl hP hK hi hN) rfl rfl hl.1 rfl (lv_room (Nat.le_of_ble_eq_true rfl)) d_Md_command_625 ⟨Nat.zero_le _, Nat.zero_le _⟩) hS (fun r14 M15 H locs q16 hP hS => ?_)
      obtain ⟨hI, fq16, q16p⟩ := q16
      have hF := fr_call hF fq16 (fun a b q => by unfold mFi at q; unfold mCm; omega)
      have hr_r14 : ¬ r14.toInt = 0 → r14 = 1 := fun z => by rcases q16p.1 with q | q; exact absurd (by rw [q]; rfl) z; exact q
      have hz_r14 : r14.toInt = 0 → r14 = 0 := fun z => by rcases q16p.1 with q | q; exact q; rw [q] at z; exact absurd z (by decide)
      refine lv_if_eq hx hb d_Md_command_628 rfl (fun h17 => ?_) (fun h17 => ?_)
      · have g17 : r14.toInt = 0 := congrArg Int32.toInt h17
        exact W.vret hx hb hr (fun t ht hW => ⟨⟨M15, rfl, ⟨hI, hF, Or.inl ⟨((fq16 _ _ (by unfold mFi; omega)).trans (c32_2)), (q16p.2.2 (hz_r14 (by omega))).1⟩⟩, by unfold ux_E; rw [ht]; exact hP⟩, hS.F ht⟩) hS.2.2 d_Md_command_643
      · have g17 : ¬ (r14.toInt = 0) := fun q => h17 (Int32.toInt_inj.mp q)
        obtain ⟨hwe, hwa, hwb⟩ := q16p.2.1 (hr_r14 (by omega))
        have hwc := congrArg Int32.toInt (hwe 14 L (by unfold mDg; omega))
        have hwa1 : (M15 14 L).toInt = 4 ∨ (M15 14 L).toInt = 6 ∨ (M15 14 L).toInt = 8 := by omega
        have hwa2 : ∀ w : Nat, 3 ≤ w → w % 2 = 1 → (w : Int) < (M15 14 L).toInt → ¬ M15 17 (8 * L + w) = 0 := fun w h1 h2 h3 q => hwb w h1 h2 (by omega) ((hwe 17 _ (by unfold mDg; omega)).symm.trans q)
        refine lv_aload_n hx hb d_Md_command_631 rfl (lv_at hl 0 rfl) ?_
        refine ux_callv (va_runV ⟨hx, hb, hml, hown, hts⟩ (s_Md_listen l D ad cA A TB hA hB  M15 hI L hL ((fq16 _ _ (by unfold mFi; omega)).trans (c32_2)) hA2 hwa1 hwa2) (cwV 0 hts (tb_goodV ml_Md_293 im_Md_listen se_Md_listen ii_Md kt_Md_listen) rfl rfl rfl (by decide +kernel) ⟨Nat.le_of_ble_eq_true rfl, Nat.le_of_ble_eq_true rfl⟩) (ux_preV (by decide) rfl rfl hP hK hi hN) rfl rfl hl.1 rfl (lv_room (Nat.le_of_ble_eq_true rfl)) d_Md_command_632 ⟨Nat.zero_le _, Nat.zero_le _⟩) hS (fun M19 H locs q20 hP hS => ?_)
        obtain ⟨hI, fq20, q20p⟩ := q20
        have hF := fr_call hF fq20 (fun a b q => q)
        refine lv_goto hx hb d_Md_command_635 rfl ?_
        exact W.vret hx hb hr (fun t ht hW => ⟨⟨M19, rfl, ⟨hI, hF, (OutS_cong (by assumption) q20p)⟩, by unfold ux_E; rw [ht]; exact hP⟩, hS.F ht⟩) hS.2.2 d_Md_command_643
    have g13 : ¬ i_1.toInt = 60 := fun q => h13 (Int32.toInt_inj.mp q)
    by_cases h21 : i_1 = 62
    · have g21 : i_1.toInt = 62 := congrArg Int32.toInt h21
      refine lv_lookup (off := 562) (tgt := 595) hx hb d_Md_command_33 (by decide) (by rw [g21]; rfl) (by decide) ?_
      refine lv_aload_n hx hb d_Md_command_595 rfl (lv_at hl 0 rfl) ?_
      refine lv_iconst (v := 1) hx hb d_Md_command_596 (by decide) ?_
      refine lv_iconst (v := 1) hx hb d_Md_command_597 (by decide) ?_
      refine ux_calli (va_runV ⟨hx, hb, hml, hown, hts⟩ (s_Md_words l D ad cA A TB hA hB  Mc32 hI L hL (c32_2) 1 1) (cwV 2 hts (tb_goodV ml_Md_249 im_Md_words se_Md_words ii_Md kt_Md_words) rfl rfl rfl (by decide +kernel) ⟨Nat.le_of_ble_eq_true rfl, Nat.le_of_ble_eq_true rfl⟩) (ux_preV (by decide) rfl rfl hP hK hi hN) rfl rfl hl.1 rfl (lv_room (Nat.le_of_ble_eq_true rfl)) d_Md_command_598 ⟨Nat.zero_le _, Nat.zero_le _⟩) hS (fun r22 M23 H locs q24 hP hS => ?_)
      obtain ⟨hI, fq24, q24p⟩ := q24
      have hF := fr_call hF fq24 (fun a b q => by unfold mEr at q; unfold mCm; omega)
      have hr_r22 : ¬ r22.toInt = 0 → r22 = 1 := fun z => by rcases q24p.1 with q | q; exact absurd (by rw [q]; rfl) z; exact q
      have hz_r22 : r22.toInt = 0 → r22 = 0 := fun z => by rcases q24p.1 with q | q; exact q; rw [q] at z; exact absurd z (by decide)
      have hwo : r22 = 1 → (1 : Int) ≤ (M23 14 L).toInt - 1 ∧ (M23 14 L).toInt - 1 ≤ 1 := fun z => by
        have q := q24p.2.1 z
        rw [q.1 14 L]
        exact q.2
      refine lv_if_eq hx hb d_Md_command_601 rfl (fun h25 => ?_) (fun h25 => ?_)
      · have g25 : r22.toInt = 0 := congrArg Int32.toInt h25
        exact W.vret hx hb hr (fun t ht hW => ⟨⟨M23, rfl, ⟨hI, hF, Or.inl ⟨((fq24 _ _ (by unfold mEr; omega)).trans (c32_2)), (q24p.2.2 (hz_r22 (by omega))).1⟩⟩, by unfold ux_E; rw [ht]; exact hP⟩, hS.F ht⟩) hS.2.2 d_Md_command_643
      · have g25 : ¬ (r22.toInt = 0) := fun q => h25 (Int32.toInt_inj.mp q)
        refine lv_aload_n hx hb d_Md_command_604 rfl (lv_at hl 0 rfl) ?_
        refine lv_bipush (v := 120) hx hb d_Md_command_605 (by decide) ?_
        refine lv_bipush (v := 32) hx hb d_Md_command_607 (by decide) ?_
        refine lv_bipush (v := 32) hx hb d_Md_command_609 (by decide) ?_
        refine ux_calli (va_runV ⟨hx, hb, hml, hown, hts⟩ (s_Md_forms l D ad cA A TB hA hB  M23 hI L hL ((fq24 _ _ (by unfold mEr; omega)).trans (c32_2)) 120 32 32) (cwV 3 hts (tb_goodV ml_Md_253 im_Md_forms se_Md_forms ii_Md kt_Md_forms) rfl rfl rfl (by decide +kernel) ⟨Nat.le_of_ble_eq_true rfl, Nat.le_of_ble_eq_true rfl⟩) (ux_preV (by decide) rfl rfl hP hK hi hN) rfl rfl hl.1 rfl (lv_room (Nat.le_of_ble_eq_true rfl)) d_Md_command_611 ⟨Nat.zero_le _, Nat.zero_le _⟩) hS (fun r26 M27 H locs q28 hP hS => ?_)
        obtain ⟨hI, fq28, q28p⟩ := q28
        have hF := fr_call hF fq28 (fun a b q => by unfold mFi at q; unfold mCm; omega)
        have hr_r26 : ¬ r26.toInt = 0 → r26 = 1 := fun z => by rcases q28p.1 with q | q; exact absurd (by rw [q]; rfl) z; exact q
        have hz_r26 : r26.toInt = 0 → r26 = 0 := fun z => by rcases q28p.1 with q | q; exact q; rw [q] at z; exact absurd z (by decide)
        have hfc := congrArg Int32.toInt (fq28 14 L (by unfold mFi; omega))
        refine lv_if_eq hx hb d_Md_command_614 rfl (fun h29 => ?_) (fun h29 => ?_)
        · have g29 : r26.toInt = 0 := congrArg Int32.toInt h29
          exact W.vret hx hb hr (fun t ht hW => ⟨⟨M27, rfl, ⟨hI, hF, Or.inl ⟨((fq28 _ _ (by unfold mFi; omega)).trans ((fq24 _ _ (by unfold mEr; omega)).trans (c32_2))), (q28p.2.2 (hz_r26 (by omega))).1⟩⟩, by unfold ux_E; rw [ht]; exact hP⟩, hS.F ht⟩) hS.2.2 d_Md_command_643
        · have g29 : ¬ (r26.toInt = 0) := fun q => h29 (Int32.toInt_inj.mp q)
          have hwq := hwo (hr_r22 (by omega))
          have hfp : foP _ M27 L 120 32 32 := q28p.2.1 (hr_r26 (by omega))
          have hq1 := fo_x hfp 1 (by decide) (by decide) rfl
          have hv48 := congrArg Int32.toInt (show M27 0 48 = Mc32 0 48 from (fq28 _ _ (by unfold mFi; omega)).trans (fq24 _ _ (by unfold mEr; omega)))
          have hv27 := congrArg Int32.toInt (show M27 0 27 = Mc32 0 27 from (fq28 _ _ (by unfold mFi; omega)).trans (fq24 _ _ (by unfold mEr; omega)))
          have hv28 := congrArg Int32.toInt (show M27 0 28 = Mc32 0 28 from (fq28 _ _ (by unfold mFi; omega)).trans (fq24 _ _ (by unfold mEr; omega)))
          refine lv_aload_n hx hb d_Md_command_617 rfl (lv_at hl 0 rfl) ?_
          refine ux_callv (va_runV ⟨hx, hb, hml, hown, hts⟩ (s_Md_send l D ad cA A TB hA hB  M27 hI L hL ((fq28 _ _ (by unfold mFi; omega)).trans ((fq24 _ _ (by unfold mEr; omega)).trans (c32_2))) (by omega)) (cwV 0 hts (tb_goodV ml_Md_287 im_Md_send se_Md_send ii_Md kt_Md_send) rfl rfl rfl (by decide +kernel) ⟨Nat.le_of_ble_eq_true rfl, Nat.le_of_ble_eq_true rfl⟩) (ux_preV (by decide) rfl rfl hP hK hi hN) rfl rfl hl.1 rfl (lv_room (Nat.le_of_ble_eq_true rfl)) d_Md_command_618 ⟨Nat.zero_le _, Nat.zero_le _⟩) hS (fun M31 H locs q32 hP hS => ?_)
          obtain ⟨hI, fq32, q32p⟩ := q32
          have hF := fr_call hF fq32 (fun a b q => by unfold mSe at q; unfold mCm; omega)
          refine lv_goto hx hb d_Md_command_621 rfl ?_
          exact W.vret hx hb hr (fun t ht hW => ⟨⟨M31, rfl, ⟨hI, hF, Or.inl ⟨((fq32 _ _ (by unfold mSe; omega)).trans ((fq28 _ _ (by unfold mFi; omega)).trans ((fq24 _ _ (by unfold mEr; omega)).trans (c32_2)))), q32p.1⟩⟩, by unfold ux_E; rw [ht]; exact hP⟩, hS.F ht⟩) hS.2.2 d_Md_command_643
    have g21 : ¬ i_1.toInt = 62 := fun q => h21 (Int32.toInt_inj.mp q)
    by_cases h33 : i_1 = 63
    · have g33 : i_1.toInt = 63 := congrArg Int32.toInt h33
      refine lv_lookup (off := 306) (tgt := 339) hx hb d_Md_command_33 (by decide) (by rw [g33]; rfl) (by decide) ?_
      refine lv_aload_n hx hb d_Md_command_339 rfl (lv_at hl 0 rfl) ?_
      refine lv_iconst (v := 2) hx hb d_Md_command_340 (by decide) ?_
      refine lv_iconst (v := 3) hx hb d_Md_command_341 (by decide) ?_
      refine ux_calli (va_runV ⟨hx, hb, hml, hown, hts⟩ (s_Md_words l D ad cA A TB hA hB  Mc32 hI L hL (c32_2) 2 3) (cwV 2 hts (tb_goodV ml_Md_249 im_Md_words se_Md_words ii_Md kt_Md_words) rfl rfl rfl (by decide +kernel) ⟨Nat.le_of_ble_eq_true rfl, Nat.le_of_ble_eq_true rfl⟩) (ux_preV (by decide) rfl rfl hP hK hi hN) rfl rfl hl.1 rfl (lv_room (Nat.le_of_ble_eq_true rfl)) d_Md_command_342 ⟨Nat.zero_le _, Nat.zero_le _⟩) hS (fun r34 M35 H locs q36 hP hS => ?_)
      obtain ⟨hI, fq36, q36p⟩ := q36
      have hF := fr_call hF fq36 (fun a b q => by unfold mEr at q; unfold mCm; omega)
      have hr_r34 : ¬ r34.toInt = 0 → r34 = 1 := fun z => by rcases q36p.1 with q | q; exact absurd (by rw [q]; rfl) z; exact q
      have hz_r34 : r34.toInt = 0 → r34 = 0 := fun z => by rcases q36p.1 with q | q; exact q; rw [q] at z; exact absurd z (by decide)
      have hwo : r34 = 1 → (2 : Int) ≤ (M35 14 L).toInt - 1 ∧ (M35 14 L).toInt - 1 ≤ 3 := fun z => by
        have q := q36p.2.1 z
        rw [q.1 14 L]
        exact q.2
      refine lv_if_eq hx hb d_Md_command_345 rfl (fun h37 => ?_) (fun h37 => ?_)
      · have g37 : r34.toInt = 0 := congrArg Int32.toInt h37
        exact W.vret hx hb hr (fun t ht hW => ⟨⟨M35, rfl, ⟨hI, hF, Or.inl ⟨((fq36 _ _ (by unfold mEr; omega)).trans (c32_2)), (q36p.2.2 (hz_r34 (by omega))).1⟩⟩, by unfold ux_E; rw [ht]; exact hP⟩, hS.F ht⟩) hS.2.2 d_Md_command_643
      · have g37 : ¬ (r34.toInt = 0) := fun q => h37 (Int32.toInt_inj.mp q)
        refine lv_aload_n hx hb d_Md_command_348 rfl (lv_at hl 0 rfl) ?_
        refine lv_bipush (v := 119) hx hb d_Md_command_349 (by decide) ?_
        refine lv_bipush (v := 119) hx hb d_Md_command_351 (by decide) ?_
        refine lv_bipush (v := 119) hx hb d_Md_command_353 (by decide) ?_
        refine ux_calli (va_runV ⟨hx, hb, hml, hown, hts⟩ (s_Md_forms l D ad cA A TB hA hB  M35 hI L hL ((fq36 _ _ (by unfold mEr; omega)).trans (c32_2)) 119 119 119) (cwV 3 hts (tb_goodV ml_Md_253 im_Md_forms se_Md_forms ii_Md kt_Md_forms) rfl rfl rfl (by decide +kernel) ⟨Nat.le_of_ble_eq_true rfl, Nat.le_of_ble_eq_true rfl⟩) (ux_preV (by decide) rfl rfl hP hK hi hN) rfl rfl hl.1 rfl (lv_room (Nat.le_of_ble_eq_true rfl)) d_Md_command_355 ⟨Nat.zero_le _, Nat.zero_le _⟩) hS (fun r38 M39 H locs q40 hP hS => ?_)
        obtain ⟨hI, fq40, q40p⟩ := q40
        have hF := fr_call hF fq40 (fun a b q => by unfold mFi at q; unfold mCm; omega)
        have hr_r38 : ¬ r38.toInt = 0 → r38 = 1 := fun z => by rcases q40p.1 with q | q; exact absurd (by rw [q]; rfl) z; exact q
        have hz_r38 : r38.toInt = 0 → r38 = 0 := fun z => by rcases q40p.1 with q | q; exact q; rw [q] at z; exact absurd z (by decide)
        have hfc := congrArg Int32.toInt (fq40 14 L (by unfold mFi; omega))
        refine lv_if_eq hx hb d_Md_command_358 rfl (fun h41 => ?_) (fun h41 => ?_)
        · have g41 : r38.toInt = 0 := congrArg Int32.toInt h41
          exact W.vret hx hb hr (fun t ht hW => ⟨⟨M39, rfl, ⟨hI, hF, Or.inl ⟨((fq40 _ _ (by unfold mFi; omega)).trans ((fq36 _ _ (by unfold mEr; omega)).trans (c32_2))), (q40p.2.2 (hz_r38 (by omega))).1⟩⟩, by unfold ux_E; rw [ht]; exact hP⟩, hS.F ht⟩) hS.2.2 d_Md_command_643
        · have g41 : ¬ (r38.toInt = 0) := fun q => h41 (Int32.toInt_inj.mp q)
          have hwq := hwo (hr_r34 (by omega))
          have hfp : foP _ M39 L 119 119 119 := q40p.2.1 (hr_r38 (by omega))
          have hq1 := fo_w hfp 1 (by decide) (by decide) rfl
          have hq2 := fo_w hfp 2 (by decide) (by decide) rfl
          have hq3 := fo_w hfp 3 (by decide) (by decide) rfl
          refine lv_aload_n hx hb d_Md_command_361 rfl (lv_at hl 0 rfl) ?_
          refine ux_callv (va_runV ⟨hx, hb, hml, hown, hts⟩ (s_Md_choose l D ad cA A TB hA hB  M39 hI L hL ((fq40 _ _ (by unfold mFi; omega)).trans ((fq36 _ _ (by unfold mEr; omega)).trans (c32_2))) hA2 (hq1 (by omega)) (hq2 (by omega)) (fun z => hq3 (by omega))) (cwV 0 hts (tb_goodV ml_Md_272 im_Md_choose se_Md_choose ii_Md kt_Md_choose) rfl rfl rfl (by decide +kernel) ⟨Nat.le_of_ble_eq_true rfl, Nat.le_of_ble_eq_true rfl⟩) (ux_preV (by decide) rfl rfl hP hK hi hN) rfl rfl hl.1 rfl (lv_room (Nat.le_of_ble_eq_true rfl)) d_Md_command_362 ⟨Nat.zero_le _, Nat.zero_le _⟩) hS (fun M43 H locs q44 hP hS => ?_)
          obtain ⟨hI, fq44, q44p⟩ := q44
          have hF := fr_call hF fq44 (fun a b q => q)
          refine lv_goto hx hb d_Md_command_365 rfl ?_
          exact W.vret hx hb hr (fun t ht hW => ⟨⟨M43, rfl, ⟨hI, hF, (OutS_cong (by assumption) q44p)⟩, by unfold ux_E; rw [ht]; exact hP⟩, hS.F ht⟩) hS.2.2 d_Md_command_643
    have g33 : ¬ i_1.toInt = 63 := fun q => h33 (Int32.toInt_inj.mp q)
    by_cases h45 : i_1 = 98
    · have g45 : i_1.toInt = 98 := congrArg Int32.toInt h45
      refine lv_lookup (off := 496) (tgt := 529) hx hb d_Md_command_33 (by decide) (by rw [g45]; rfl) (by decide) ?_
      refine lv_aload_n hx hb d_Md_command_529 rfl (lv_at hl 0 rfl) ?_
      refine lv_iconst (v := 0) hx hb d_Md_command_530 (by decide) ?_
      refine lv_iconst (v := 0) hx hb d_Md_command_531 (by decide) ?_
      refine ux_calli (va_runV ⟨hx, hb, hml, hown, hts⟩ (s_Md_words l D ad cA A TB hA hB  Mc32 hI L hL (c32_2) 0 0) (cwV 2 hts (tb_goodV ml_Md_249 im_Md_words se_Md_words ii_Md kt_Md_words) rfl rfl rfl (by decide +kernel) ⟨Nat.le_of_ble_eq_true rfl, Nat.le_of_ble_eq_true rfl⟩) (ux_preV (by decide) rfl rfl hP hK hi hN) rfl rfl hl.1 rfl (lv_room (Nat.le_of_ble_eq_true rfl)) d_Md_command_532 ⟨Nat.zero_le _, Nat.zero_le _⟩) hS (fun r46 M47 H locs q48 hP hS => ?_)
      obtain ⟨hI, fq48, q48p⟩ := q48
      have hF := fr_call hF fq48 (fun a b q => by unfold mEr at q; unfold mCm; omega)
      have hr_r46 : ¬ r46.toInt = 0 → r46 = 1 := fun z => by rcases q48p.1 with q | q; exact absurd (by rw [q]; rfl) z; exact q
      have hz_r46 : r46.toInt = 0 → r46 = 0 := fun z => by rcases q48p.1 with q | q; exact q; rw [q] at z; exact absurd z (by decide)
      have hwo : r46 = 1 → (0 : Int) ≤ (M47 14 L).toInt - 1 ∧ (M47 14 L).toInt - 1 ≤ 0 := fun z => by
        have q := q48p.2.1 z
        rw [q.1 14 L]
        exact q.2
      refine lv_if_eq hx hb d_Md_command_535 rfl (fun h49 => ?_) (fun h49 => ?_)
      · have g49 : r46.toInt = 0 := congrArg Int32.toInt h49
        exact W.vret hx hb hr (fun t ht hW => ⟨⟨M47, rfl, ⟨hI, hF, Or.inl ⟨((fq48 _ _ (by unfold mEr; omega)).trans (c32_2)), (q48p.2.2 (hz_r46 (by omega))).1⟩⟩, by unfold ux_E; rw [ht]; exact hP⟩, hS.F ht⟩) hS.2.2 d_Md_command_643
      · have g49 : ¬ (r46.toInt = 0) := fun q => h49 (Int32.toInt_inj.mp q)
        refine lv_aload_n hx hb d_Md_command_538 rfl (lv_at hl 0 rfl) ?_
        refine lv_iconst (v := 3) hx hb d_Md_command_539 (by decide) ?_
        refine ux_callv (va_runV ⟨hx, hb, hml, hown, hts⟩ (s_Md_done l D ad cA A TB hA hB  M47 hI 3) (cwV 1 hts (tb_goodV ml_Md_235 im_Md_done se_Md_done ii_Md kt_Md_done) rfl rfl rfl (by decide +kernel) ⟨Nat.le_of_ble_eq_true rfl, Nat.le_of_ble_eq_true rfl⟩) (ux_preV (by decide) rfl rfl hP hK hi hN) rfl rfl hl.1 rfl (lv_room (Nat.le_of_ble_eq_true rfl)) d_Md_command_540 ⟨Nat.zero_le _, Nat.zero_le _⟩) hS (fun M51 H locs q52 hP hS => ?_)
        obtain ⟨hI, fq52, q52p⟩ := q52
        have hF := fr_call hF fq52 (fun a b q => by unfold mDn at q; unfold mCm; omega)
        refine lv_goto hx hb d_Md_command_543 rfl ?_
        exact W.vret hx hb hr (fun t ht hW => ⟨⟨M51, rfl, ⟨hI, hF, Or.inl ⟨((fq52 _ _ (by unfold mDn; omega)).trans ((fq48 _ _ (by unfold mEr; omega)).trans (c32_2))), q52p.1⟩⟩, by unfold ux_E; rw [ht]; exact hP⟩, hS.F ht⟩) hS.2.2 d_Md_command_643
    have g45 : ¬ i_1.toInt = 98 := fun q => h45 (Int32.toInt_inj.mp q)
    by_cases h53 : i_1 = 99
    · have g53 : i_1.toInt = 99 := congrArg Int32.toInt h53
      refine lv_lookup (off := 513) (tgt := 546) hx hb d_Md_command_33 (by decide) (by rw [g53]; rfl) (by decide) ?_
      refine lv_aload_n hx hb d_Md_command_546 rfl (lv_at hl 0 rfl) ?_
      refine lv_iconst (v := 0) hx hb d_Md_command_547 (by decide) ?_
      refine lv_iconst (v := 0) hx hb d_Md_command_548 (by decide) ?_
      refine ux_calli (va_runV ⟨hx, hb, hml, hown, hts⟩ (s_Md_words l D ad cA A TB hA hB  Mc32 hI L hL (c32_2) 0 0) (cwV 2 hts (tb_goodV ml_Md_249 im_Md_words se_Md_words ii_Md kt_Md_words) rfl rfl rfl (by decide +kernel) ⟨Nat.le_of_ble_eq_true rfl, Nat.le_of_ble_eq_true rfl⟩) (ux_preV (by decide) rfl rfl hP hK hi hN) rfl rfl hl.1 rfl (lv_room (Nat.le_of_ble_eq_true rfl)) d_Md_command_549 ⟨Nat.zero_le _, Nat.zero_le _⟩) hS (fun r54 M55 H locs q56 hP hS => ?_)
      obtain ⟨hI, fq56, q56p⟩ := q56
      have hF := fr_call hF fq56 (fun a b q => by unfold mEr at q; unfold mCm; omega)
      have hr_r54 : ¬ r54.toInt = 0 → r54 = 1 := fun z => by rcases q56p.1 with q | q; exact absurd (by rw [q]; rfl) z; exact q
      have hz_r54 : r54.toInt = 0 → r54 = 0 := fun z => by rcases q56p.1 with q | q; exact q; rw [q] at z; exact absurd z (by decide)
      have hwo : r54 = 1 → (0 : Int) ≤ (M55 14 L).toInt - 1 ∧ (M55 14 L).toInt - 1 ≤ 0 := fun z => by
        have q := q56p.2.1 z
        rw [q.1 14 L]
        exact q.2
      refine lv_if_eq hx hb d_Md_command_552 rfl (fun h57 => ?_) (fun h57 => ?_)
      · have g57 : r54.toInt = 0 := congrArg Int32.toInt h57
        exact W.vret hx hb hr (fun t ht hW => ⟨⟨M55, rfl, ⟨hI, hF, Or.inl ⟨((fq56 _ _ (by unfold mEr; omega)).trans (c32_2)), (q56p.2.2 (hz_r54 (by omega))).1⟩⟩, by unfold ux_E; rw [ht]; exact hP⟩, hS.F ht⟩) hS.2.2 d_Md_command_643
      · have g57 : ¬ (r54.toInt = 0) := fun q => h57 (Int32.toInt_inj.mp q)
        refine lv_aload_n hx hb d_Md_command_555 rfl (lv_at hl 0 rfl) ?_
        refine lv_iconst (v := 4) hx hb d_Md_command_556 (by decide) ?_
        refine ux_callv (va_runV ⟨hx, hb, hml, hown, hts⟩ (s_Md_done l D ad cA A TB hA hB  M55 hI 4) (cwV 1 hts (tb_goodV ml_Md_235 im_Md_done se_Md_done ii_Md kt_Md_done) rfl rfl rfl (by decide +kernel) ⟨Nat.le_of_ble_eq_true rfl, Nat.le_of_ble_eq_true rfl⟩) (ux_preV (by decide) rfl rfl hP hK hi hN) rfl rfl hl.1 rfl (lv_room (Nat.le_of_ble_eq_true rfl)) d_Md_command_557 ⟨Nat.zero_le _, Nat.zero_le _⟩) hS (fun M59 H locs q60 hP hS => ?_)
        obtain ⟨hI, fq60, q60p⟩ := q60
        have hF := fr_call hF fq60 (fun a b q => by unfold mDn at q; unfold mCm; omega)
        refine lv_goto hx hb d_Md_command_560 rfl ?_
        exact W.vret hx hb hr (fun t ht hW => ⟨⟨M59, rfl, ⟨hI, hF, Or.inl ⟨((fq60 _ _ (by unfold mDn; omega)).trans ((fq56 _ _ (by unfold mEr; omega)).trans (c32_2))), q60p.1⟩⟩, by unfold ux_E; rw [ht]; exact hP⟩, hS.F ht⟩) hS.2.2 d_Md_command_643
    have g53 : ¬ i_1.toInt = 99 := fun q => h53 (Int32.toInt_inj.mp q)
    by_cases h61 : i_1 = 101
    · have g61 : i_1.toInt = 101 := congrArg Int32.toInt h61
      refine lv_lookup (off := 219) (tgt := 252) hx hb d_Md_command_33 (by decide) (by rw [g61]; rfl) (by decide) ?_
      refine lv_aload_n hx hb d_Md_command_252 rfl (lv_at hl 0 rfl) ?_
      refine lv_iconst (v := 1) hx hb d_Md_command_253 (by decide) ?_
      refine lv_iconst (v := 1) hx hb d_Md_command_254 (by decide) ?_
      refine ux_calli (va_runV ⟨hx, hb, hml, hown, hts⟩ (s_Md_words l D ad cA A TB hA hB  Mc32 hI L hL (c32_2) 1 1) (cwV 2 hts (tb_goodV ml_Md_249 im_Md_words se_Md_words ii_Md kt_Md_words) rfl rfl rfl (by decide +kernel) ⟨Nat.le_of_ble_eq_true rfl, Nat.le_of_ble_eq_true rfl⟩) (ux_preV (by decide) rfl rfl hP hK hi hN) rfl rfl hl.1 rfl (lv_room (Nat.le_of_ble_eq_true rfl)) d_Md_command_255 ⟨Nat.zero_le _, Nat.zero_le _⟩) hS (fun r62 M63 H locs q64 hP hS => ?_)
      obtain ⟨hI, fq64, q64p⟩ := q64
      have hF := fr_call hF fq64 (fun a b q => by unfold mEr at q; unfold mCm; omega)
      have hr_r62 : ¬ r62.toInt = 0 → r62 = 1 := fun z => by rcases q64p.1 with q | q; exact absurd (by rw [q]; rfl) z; exact q
      have hz_r62 : r62.toInt = 0 → r62 = 0 := fun z => by rcases q64p.1 with q | q; exact q; rw [q] at z; exact absurd z (by decide)
      have hwo : r62 = 1 → (1 : Int) ≤ (M63 14 L).toInt - 1 ∧ (M63 14 L).toInt - 1 ≤ 1 := fun z => by
        have q := q64p.2.1 z
        rw [q.1 14 L]
        exact q.2
      refine lv_if_eq hx hb d_Md_command_258 rfl (fun h65 => ?_) (fun h65 => ?_)
      · have g65 : r62.toInt = 0 := congrArg Int32.toInt h65
        exact W.vret hx hb hr (fun t ht hW => ⟨⟨M63, rfl, ⟨hI, hF, Or.inl ⟨((fq64 _ _ (by unfold mEr; omega)).trans (c32_2)), (q64p.2.2 (hz_r62 (by omega))).1⟩⟩, by unfold ux_E; rw [ht]; exact hP⟩, hS.F ht⟩) hS.2.2 d_Md_command_643
      · have g65 : ¬ (r62.toInt = 0) := fun q => h65 (Int32.toInt_inj.mp q)
        refine lv_aload_n hx hb d_Md_command_261 rfl (lv_at hl 0 rfl) ?_
        refine lv_bipush (v := 119) hx hb d_Md_command_262 (by decide) ?_
        refine lv_bipush (v := 32) hx hb d_Md_command_264 (by decide) ?_
        refine lv_bipush (v := 32) hx hb d_Md_command_266 (by decide) ?_
        refine ux_calli (va_runV ⟨hx, hb, hml, hown, hts⟩ (s_Md_forms l D ad cA A TB hA hB  M63 hI L hL ((fq64 _ _ (by unfold mEr; omega)).trans (c32_2)) 119 32 32) (cwV 3 hts (tb_goodV ml_Md_253 im_Md_forms se_Md_forms ii_Md kt_Md_forms) rfl rfl rfl (by decide +kernel) ⟨Nat.le_of_ble_eq_true rfl, Nat.le_of_ble_eq_true rfl⟩) (ux_preV (by decide) rfl rfl hP hK hi hN) rfl rfl hl.1 rfl (lv_room (Nat.le_of_ble_eq_true rfl)) d_Md_command_268 ⟨Nat.zero_le _, Nat.zero_le _⟩) hS (fun r66 M67 H locs q68 hP hS => ?_)
        obtain ⟨hI, fq68, q68p⟩ := q68
        have hF := fr_call hF fq68 (fun a b q => by unfold mFi at q; unfold mCm; omega)
        have hr_r66 : ¬ r66.toInt = 0 → r66 = 1 := fun z => by rcases q68p.1 with q | q; exact absurd (by rw [q]; rfl) z; exact q
        have hz_r66 : r66.toInt = 0 → r66 = 0 := fun z => by rcases q68p.1 with q | q; exact q; rw [q] at z; exact absurd z (by decide)
        have hfc := congrArg Int32.toInt (fq68 14 L (by unfold mFi; omega))
        refine lv_if_eq hx hb d_Md_command_271 rfl (fun h69 => ?_) (fun h69 => ?_)
        · have g69 : r66.toInt = 0 := congrArg Int32.toInt h69
          exact W.vret hx hb hr (fun t ht hW => ⟨⟨M67, rfl, ⟨hI, hF, Or.inl ⟨((fq68 _ _ (by unfold mFi; omega)).trans ((fq64 _ _ (by unfold mEr; omega)).trans (c32_2))), (q68p.2.2 (hz_r66 (by omega))).1⟩⟩, by unfold ux_E; rw [ht]; exact hP⟩, hS.F ht⟩) hS.2.2 d_Md_command_643
        · have g69 : ¬ (r66.toInt = 0) := fun q => h69 (Int32.toInt_inj.mp q)
          have hwq := hwo (hr_r62 (by omega))
          have hfp : foP _ M67 L 119 32 32 := q68p.2.1 (hr_r66 (by omega))
          have hq1 := fo_w hfp 1 (by decide) (by decide) rfl
          refine lv_aload_n hx hb d_Md_command_274 rfl (lv_at hl 0 rfl) ?_
          refine ux_callv (va_runV ⟨hx, hb, hml, hown, hts⟩ (s_Md_evaluate l D ad cA A TB hA hB  M67 hI L hL ((fq68 _ _ (by unfold mFi; omega)).trans ((fq64 _ _ (by unfold mEr; omega)).trans (c32_2))) (hq1 (by omega))) (cwV 0 hts (tb_goodV ml_Md_263 im_Md_evaluate se_Md_evaluate ii_Md kt_Md_evaluate) rfl rfl rfl (by decide +kernel) ⟨Nat.le_of_ble_eq_true rfl, Nat.le_of_ble_eq_true rfl⟩) (ux_preV (by decide) rfl rfl hP hK hi hN) rfl rfl hl.1 rfl (lv_room (Nat.le_of_ble_eq_true rfl)) d_Md_command_275 ⟨Nat.zero_le _, Nat.zero_le _⟩) hS (fun M71 H locs q72 hP hS => ?_)
          obtain ⟨hI, fq72, q72p⟩ := q72
          have hF := fr_call hF fq72 (fun a b q => q)
          refine lv_goto hx hb d_Md_command_278 rfl ?_
          exact W.vret hx hb hr (fun t ht hW => ⟨⟨M71, rfl, ⟨hI, hF, (OutS_cong (by assumption) q72p)⟩, by unfold ux_E; rw [ht]; exact hP⟩, hS.F ht⟩) hS.2.2 d_Md_command_643
    have g61 : ¬ i_1.toInt = 101 := fun q => h61 (Int32.toInt_inj.mp q)
    by_cases h73 : i_1 = 103
    · have g73 : i_1.toInt = 103 := congrArg Int32.toInt h73
      refine lv_lookup (off := 400) (tgt := 433) hx hb d_Md_command_33 (by decide) (by rw [g73]; rfl) (by decide) ?_
      refine lv_aload_n hx hb d_Md_command_433 rfl (lv_at hl 0 rfl) ?_
      refine lv_iconst (v := 1) hx hb d_Md_command_434 (by decide) ?_
      refine lv_iconst (v := 1) hx hb d_Md_command_435 (by decide) ?_
      refine ux_calli (va_runV ⟨hx, hb, hml, hown, hts⟩ (s_Md_words l D ad cA A TB hA hB  Mc32 hI L hL (c32_2) 1 1) (cwV 2 hts (tb_goodV ml_Md_249 im_Md_words se_Md_words ii_Md kt_Md_words) rfl rfl rfl (by decide +kernel) ⟨Nat.le_of_ble_eq_true rfl, Nat.le_of_ble_eq_true rfl⟩) (ux_preV (by decide) rfl rfl hP hK hi hN) rfl rfl hl.1 rfl (lv_room (Nat.le_of_ble_eq_true rfl)) d_Md_command_436 ⟨Nat.zero_le _, Nat.zero_le _⟩) hS (fun r74 M75 H locs q76 hP hS => ?_)
      obtain ⟨hI, fq76, q76p⟩ := q76
      have hF := fr_call hF fq76 (fun a b q => by unfold mEr at q; unfold mCm; omega)
      have hr_r74 : ¬ r74.toInt = 0 → r74 = 1 := fun z => by rcases q76p.1 with q | q; exact absurd (by rw [q]; rfl) z; exact q
      have hz_r74 : r74.toInt = 0 → r74 = 0 := fun z => by rcases q76p.1 with q | q; exact q; rw [q] at z; exact absurd z (by decide)
      have hwo : r74 = 1 → (1 : Int) ≤ (M75 14 L).toInt - 1 ∧ (M75 14 L).toInt - 1 ≤ 1 := fun z => by
        have q := q76p.2.1 z
        rw [q.1 14 L]
        exact q.2
      refine lv_if_eq hx hb d_Md_command_439 rfl (fun h77 => ?_) (fun h77 => ?_)
      · have g77 : r74.toInt = 0 := congrArg Int32.toInt h77
        exact W.vret hx hb hr (fun t ht hW => ⟨⟨M75, rfl, ⟨hI, hF, Or.inl ⟨((fq76 _ _ (by unfold mEr; omega)).trans (c32_2)), (q76p.2.2 (hz_r74 (by omega))).1⟩⟩, by unfold ux_E; rw [ht]; exact hP⟩, hS.F ht⟩) hS.2.2 d_Md_command_643
      · have g77 : ¬ (r74.toInt = 0) := fun q => h77 (Int32.toInt_inj.mp q)
        refine lv_aload_n hx hb d_Md_command_442 rfl (lv_at hl 0 rfl) ?_
        refine lv_bipush (v := 118) hx hb d_Md_command_443 (by decide) ?_
        refine lv_bipush (v := 32) hx hb d_Md_command_445 (by decide) ?_
        refine lv_bipush (v := 32) hx hb d_Md_command_447 (by decide) ?_
        refine ux_calli (va_runV ⟨hx, hb, hml, hown, hts⟩ (s_Md_forms l D ad cA A TB hA hB  M75 hI L hL ((fq76 _ _ (by unfold mEr; omega)).trans (c32_2)) 118 32 32) (cwV 3 hts (tb_goodV ml_Md_253 im_Md_forms se_Md_forms ii_Md kt_Md_forms) rfl rfl rfl (by decide +kernel) ⟨Nat.le_of_ble_eq_true rfl, Nat.le_of_ble_eq_true rfl⟩) (ux_preV (by decide) rfl rfl hP hK hi hN) rfl rfl hl.1 rfl (lv_room (Nat.le_of_ble_eq_true rfl)) d_Md_command_449 ⟨Nat.zero_le _, Nat.zero_le _⟩) hS (fun r78 M79 H locs q80 hP hS => ?_)
        obtain ⟨hI, fq80, q80p⟩ := q80
        have hF := fr_call hF fq80 (fun a b q => by unfold mFi at q; unfold mCm; omega)
        have hr_r78 : ¬ r78.toInt = 0 → r78 = 1 := fun z => by rcases q80p.1 with q | q; exact absurd (by rw [q]; rfl) z; exact q
        have hz_r78 : r78.toInt = 0 → r78 = 0 := fun z => by rcases q80p.1 with q | q; exact q; rw [q] at z; exact absurd z (by decide)
        have hfc := congrArg Int32.toInt (fq80 14 L (by unfold mFi; omega))
        refine lv_if_eq hx hb d_Md_command_452 rfl (fun h81 => ?_) (fun h81 => ?_)
        · have g81 : r78.toInt = 0 := congrArg Int32.toInt h81
          exact W.vret hx hb hr (fun t ht hW => ⟨⟨M79, rfl, ⟨hI, hF, Or.inl ⟨((fq80 _ _ (by unfold mFi; omega)).trans ((fq76 _ _ (by unfold mEr; omega)).trans (c32_2))), (q80p.2.2 (hz_r78 (by omega))).1⟩⟩, by unfold ux_E; rw [ht]; exact hP⟩, hS.F ht⟩) hS.2.2 d_Md_command_643
        · have g81 : ¬ (r78.toInt = 0) := fun q => h81 (Int32.toInt_inj.mp q)
          have hwq := hwo (hr_r74 (by omega))
          have hfp : foP _ M79 L 118 32 32 := q80p.2.1 (hr_r78 (by omega))
          have hq1 := fo_v hfp 1 (by decide) (by decide) rfl
          refine lv_aload_n hx hb d_Md_command_455 rfl (lv_at hl 0 rfl) ?_
          refine lv_aload_n hx hb d_Md_command_456 rfl (lv_at hl 0 rfl) ?_
          refine lv_iconst (v := 1) hx hb d_Md_command_457 (by decide) ?_
          refine lv_bipush (v := 97) hx hb d_Md_command_458 (by decide) ?_
          refine ux_calli (va_runV ⟨hx, hb, hml, hown, hts⟩ (s_Md_name l D ad cA A TB hA hB  M79 hI L hL ((fq80 _ _ (by unfold mFi; omega)).trans ((fq76 _ _ (by unfold mEr; omega)).trans (c32_2))) 1 (by omega) 97 (by decide) (by decide)) (cwV 2 hts (tb_goodV ml_Md_219 im_Md_name se_Md_name ii_Md kt_Md_name) rfl rfl rfl (by decide +kernel) ⟨Nat.le_of_ble_eq_true rfl, Nat.le_of_ble_eq_true rfl⟩) (ux_preV (by decide) rfl rfl hP hK hi hN) rfl rfl hl.1 rfl (lv_room (Nat.le_of_ble_eq_true rfl)) d_Md_command_460 ⟨Nat.zero_le _, Nat.zero_le _⟩) hS (fun r82 M83 H locs q84 hP hS => ?_)
          obtain ⟨hI, fq84, q84p⟩ := q84
          rw [tN_eq fq84] at hP hI
          obtain ⟨q84a, q84b, hc97⟩ := q84p
          have nk97 := hc97.mpr
          have hnk : 0 ≤ r82.toInt := hc97.mp (hq1 (by omega))
          obtain ⟨q22, hq22, eq22⟩ := nat_of (x := r82) (n := 25) hnk (by omega)
          subst eq22
          refine ux_callv (va_runV ⟨hx, hb, hml, hown, hts⟩ (s_Md_link l D ad cA A TB hA hB  M79 hI L hL ((fq80 _ _ (by unfold mFi; omega)).trans ((fq76 _ _ (by unfold mEr; omega)).trans (c32_2))) q22 (by omega)) (cwV 1 hts (tb_goodV ml_Md_278 im_Md_link se_Md_link ii_Md kt_Md_link) rfl rfl rfl (by decide +kernel) ⟨Nat.le_of_ble_eq_true rfl, Nat.le_of_ble_eq_true rfl⟩) (ux_preV (by decide) rfl rfl hP hK hi hN) rfl rfl hl.1 rfl (lv_room (Nat.le_of_ble_eq_true rfl)) d_Md_command_463 ⟨Nat.zero_le _, Nat.zero_le _⟩) hS (fun M86 H locs q87 hP hS => ?_)
          obtain ⟨hI, fq87, q87p⟩ := q87
          have hF := fr_call hF fq87 (fun a b q => q)
          refine lv_goto hx hb d_Md_command_466 rfl ?_
          exact W.vret hx hb hr (fun t ht hW => ⟨⟨M86, rfl, ⟨hI, hF, (OutS_cong (by assumption) q87p)⟩, by unfold ux_E; rw [ht]; exact hP⟩, hS.F ht⟩) hS.2.2 d_Md_command_643
    have g73 : ¬ i_1.toInt = 103 := fun q => h73 (Int32.toInt_inj.mp q)
    by_cases h88 : i_1 = 105
    · have g88 : i_1.toInt = 105 := congrArg Int32.toInt h88
      refine lv_lookup (off := 179) (tgt := 212) hx hb d_Md_command_33 (by decide) (by rw [g88]; rfl) (by decide) ?_
      refine lv_aload_n hx hb d_Md_command_212 rfl (lv_at hl 0 rfl) ?_
      refine lv_iconst (v := 1) hx hb d_Md_command_213 (by decide) ?_
      refine lv_iconst (v := 2) hx hb d_Md_command_214 (by decide) ?_
      refine ux_calli (va_runV ⟨hx, hb, hml, hown, hts⟩ (s_Md_words l D ad cA A TB hA hB  Mc32 hI L hL (c32_2) 1 2) (cwV 2 hts (tb_goodV ml_Md_249 im_Md_words se_Md_words ii_Md kt_Md_words) rfl rfl rfl (by decide +kernel) ⟨Nat.le_of_ble_eq_true rfl, Nat.le_of_ble_eq_true rfl⟩) (ux_preV (by decide) rfl rfl hP hK hi hN) rfl rfl hl.1 rfl (lv_room (Nat.le_of_ble_eq_true rfl)) d_Md_command_215 ⟨Nat.zero_le _, Nat.zero_le _⟩) hS (fun r89 M90 H locs q91 hP hS => ?_)
      obtain ⟨hI, fq91, q91p⟩ := q91
      have hF := fr_call hF fq91 (fun a b q => by unfold mEr at q; unfold mCm; omega)
      have hr_r89 : ¬ r89.toInt = 0 → r89 = 1 := fun z => by rcases q91p.1 with q | q; exact absurd (by rw [q]; rfl) z; exact q
      have hz_r89 : r89.toInt = 0 → r89 = 0 := fun z => by rcases q91p.1 with q | q; exact q; rw [q] at z; exact absurd z (by decide)
      have hwo : r89 = 1 → (1 : Int) ≤ (M90 14 L).toInt - 1 ∧ (M90 14 L).toInt - 1 ≤ 2 := fun z => by
        have q := q91p.2.1 z
        rw [q.1 14 L]
        exact q.2
      refine lv_if_eq hx hb d_Md_command_218 rfl (fun h92 => ?_) (fun h92 => ?_)
      · have g92 : r89.toInt = 0 := congrArg Int32.toInt h92
        exact W.vret hx hb hr (fun t ht hW => ⟨⟨M90, rfl, ⟨hI, hF, Or.inl ⟨((fq91 _ _ (by unfold mEr; omega)).trans (c32_2)), (q91p.2.2 (hz_r89 (by omega))).1⟩⟩, by unfold ux_E; rw [ht]; exact hP⟩, hS.F ht⟩) hS.2.2 d_Md_command_643
      · have g92 : ¬ (r89.toInt = 0) := fun q => h92 (Int32.toInt_inj.mp q)
        refine lv_aload_n hx hb d_Md_command_221 rfl (lv_at hl 0 rfl) ?_
        refine lv_bipush (v := 118) hx hb d_Md_command_222 (by decide) ?_
        refine lv_bipush (v := 110) hx hb d_Md_command_224 (by decide) ?_
        refine lv_bipush (v := 32) hx hb d_Md_command_226 (by decide) ?_
        refine ux_calli (va_runV ⟨hx, hb, hml, hown, hts⟩ (s_Md_forms l D ad cA A TB hA hB  M90 hI L hL ((fq91 _ _ (by unfold mEr; omega)).trans (c32_2)) 118 110 32) (cwV 3 hts (tb_goodV ml_Md_253 im_Md_forms se_Md_forms ii_Md kt_Md_forms) rfl rfl rfl (by decide +kernel) ⟨Nat.le_of_ble_eq_true rfl, Nat.le_of_ble_eq_true rfl⟩) (ux_preV (by decide) rfl rfl hP hK hi hN) rfl rfl hl.1 rfl (lv_room (Nat.le_of_ble_eq_true rfl)) d_Md_command_228 ⟨Nat.zero_le _, Nat.zero_le _⟩) hS (fun r93 M94 H locs q95 hP hS => ?_)
        obtain ⟨hI, fq95, q95p⟩ := q95
        have hF := fr_call hF fq95 (fun a b q => by unfold mFi at q; unfold mCm; omega)
        have hr_r93 : ¬ r93.toInt = 0 → r93 = 1 := fun z => by rcases q95p.1 with q | q; exact absurd (by rw [q]; rfl) z; exact q
        have hz_r93 : r93.toInt = 0 → r93 = 0 := fun z => by rcases q95p.1 with q | q; exact q; rw [q] at z; exact absurd z (by decide)
        have hfc := congrArg Int32.toInt (fq95 14 L (by unfold mFi; omega))
        refine lv_if_eq hx hb d_Md_command_231 rfl (fun h96 => ?_) (fun h96 => ?_)
        · have g96 : r93.toInt = 0 := congrArg Int32.toInt h96
          exact W.vret hx hb hr (fun t ht hW => ⟨⟨M94, rfl, ⟨hI, hF, Or.inl ⟨((fq95 _ _ (by unfold mFi; omega)).trans ((fq91 _ _ (by unfold mEr; omega)).trans (c32_2))), (q95p.2.2 (hz_r93 (by omega))).1⟩⟩, by unfold ux_E; rw [ht]; exact hP⟩, hS.F ht⟩) hS.2.2 d_Md_command_643
        · have g96 : ¬ (r93.toInt = 0) := fun q => h96 (Int32.toInt_inj.mp q)
          have hwq := hwo (hr_r89 (by omega))
          have hfp : foP _ M94 L 118 110 32 := q95p.2.1 (hr_r93 (by omega))
          have hq1 := fo_v hfp 1 (by decide) (by decide) rfl
          refine lv_aload_n hx hb d_Md_command_234 rfl (lv_at hl 0 rfl) ?_
          refine lv_aload_n hx hb d_Md_command_235 rfl (lv_at hl 0 rfl) ?_
          refine lv_aload_n hx hb d_Md_command_236 rfl (lv_at hl 0 rfl) ?_
          refine lv_iconst (v := 1) hx hb d_Md_command_237 (by decide) ?_
          refine lv_bipush (v := 97) hx hb d_Md_command_238 (by decide) ?_
          refine ux_calli (va_runV ⟨hx, hb, hml, hown, hts⟩ (s_Md_name l D ad cA A TB hA hB  M94 hI L hL ((fq95 _ _ (by unfold mFi; omega)).trans ((fq91 _ _ (by unfold mEr; omega)).trans (c32_2))) 1 (by omega) 97 (by decide) (by decide)) (cwV 2 hts (tb_goodV ml_Md_219 im_Md_name se_Md_name ii_Md kt_Md_name) rfl rfl rfl (by decide +kernel) ⟨Nat.le_of_ble_eq_true rfl, Nat.le_of_ble_eq_true rfl⟩) (ux_preV (by decide) rfl rfl hP hK hi hN) rfl rfl hl.1 rfl (lv_room (Nat.le_of_ble_eq_true rfl)) d_Md_command_240 ⟨Nat.zero_le _, Nat.zero_le _⟩) hS (fun r97 M98 H locs q99 hP hS => ?_)
          obtain ⟨hI, fq99, q99p⟩ := q99
          rw [tN_eq fq99] at hP hI
          obtain ⟨q99a, q99b, hc97⟩ := q99p
          have nk97 := hc97.mpr
          have hnk : 0 ≤ r97.toInt := hc97.mp (hq1 (by omega))
          obtain ⟨q22, hq22, eq22⟩ := nat_of (x := r97) (n := 25) hnk (by omega)
          subst eq22
          refine ux_calli (va_runV ⟨hx, hb, hml, hown, hts⟩ (s_Md_variable l D ad cA A TB hA hB  M94 hI L hL ((fq95 _ _ (by unfold mFi; omega)).trans ((fq91 _ _ (by unfold mEr; omega)).trans (c32_2))) q22 (by omega)) (cwV 1 hts (tb_goodV ml_Md_213 im_Md_variable se_Md_variable ii_Md kt_Md_variable) rfl rfl rfl (by decide +kernel) ⟨Nat.le_of_ble_eq_true rfl, Nat.le_of_ble_eq_true rfl⟩) (ux_preV (by decide) rfl rfl hP hK hi hN) rfl rfl hl.1 rfl (lv_room (Nat.le_of_ble_eq_true rfl)) d_Md_command_243 ⟨Nat.zero_le _, Nat.zero_le _⟩) hS (fun r100 M101 H locs q102 hP hS => ?_)
          obtain ⟨hI, fq102, q102p⟩ := q102
          rw [tN_eq fq102] at hP hI
          obtain ⟨c103, hc103, ec103⟩ := nat_of (x := r100) (n := 207) (q102p).1 (q102p).2
          subst ec103
          refine ux_callv (va_runV ⟨hx, hb, hml, hown, hts⟩ (s_Md_grow l D ad cA A TB hA hB  M94 hI L hL ((fq95 _ _ (by unfold mFi; omega)).trans ((fq91 _ _ (by unfold mEr; omega)).trans (c32_2))) c103 (by omega)) (cwV 1 hts (tb_goodV ml_Md_260 im_Md_grow se_Md_grow ii_Md kt_Md_grow) rfl rfl rfl (by decide +kernel) ⟨Nat.le_of_ble_eq_true rfl, Nat.le_of_ble_eq_true rfl⟩) (ux_preV (by decide) rfl rfl hP hK hi hN) rfl rfl hl.1 rfl (lv_room (Nat.le_of_ble_eq_true rfl)) d_Md_command_246 ⟨Nat.zero_le _, Nat.zero_le _⟩) hS (fun M105 H locs q106 hP hS => ?_)
          obtain ⟨hI, fq106, q106p⟩ := q106
          have hF := fr_call hF fq106 (fun a b q => q)
          refine lv_goto hx hb d_Md_command_249 rfl ?_
          exact W.vret hx hb hr (fun t ht hW => ⟨⟨M105, rfl, ⟨hI, hF, (OutS_cong (by assumption) q106p)⟩, by unfold ux_E; rw [ht]; exact hP⟩, hS.F ht⟩) hS.2.2 d_Md_command_643
    have g88 : ¬ i_1.toInt = 105 := fun q => h88 (Int32.toInt_inj.mp q)
    by_cases h107 : i_1 = 107
    · have g107 : i_1.toInt = 107 := congrArg Int32.toInt h107
      refine lv_lookup (off := 530) (tgt := 563) hx hb d_Md_command_33 (by decide) (by rw [g107]; rfl) (by decide) ?_
      refine lv_aload_n hx hb d_Md_command_563 rfl (lv_at hl 0 rfl) ?_
      refine lv_iconst (v := 1) hx hb d_Md_command_564 (by decide) ?_
      refine lv_iconst (v := 2) hx hb d_Md_command_565 (by decide) ?_
      refine ux_calli (va_runV ⟨hx, hb, hml, hown, hts⟩ (s_Md_words l D ad cA A TB hA hB  Mc32 hI L hL (c32_2) 1 2) (cwV 2 hts (tb_goodV ml_Md_249 im_Md_words se_Md_words ii_Md kt_Md_words) rfl rfl rfl (by decide +kernel) ⟨Nat.le_of_ble_eq_true rfl, Nat.le_of_ble_eq_true rfl⟩) (ux_preV (by decide) rfl rfl hP hK hi hN) rfl rfl hl.1 rfl (lv_room (Nat.le_of_ble_eq_true rfl)) d_Md_command_566 ⟨Nat.zero_le _, Nat.zero_le _⟩) hS (fun r108 M109 H locs q110 hP hS => ?_)
      obtain ⟨hI, fq110, q110p⟩ := q110
      have hF := fr_call hF fq110 (fun a b q => by unfold mEr at q; unfold mCm; omega)
      have hr_r108 : ¬ r108.toInt = 0 → r108 = 1 := fun z => by rcases q110p.1 with q | q; exact absurd (by rw [q]; rfl) z; exact q
      have hz_r108 : r108.toInt = 0 → r108 = 0 := fun z => by rcases q110p.1 with q | q; exact q; rw [q] at z; exact absurd z (by decide)
      have hwo : r108 = 1 → (1 : Int) ≤ (M109 14 L).toInt - 1 ∧ (M109 14 L).toInt - 1 ≤ 2 := fun z => by
        have q := q110p.2.1 z
        rw [q.1 14 L]
        exact q.2
      refine lv_if_eq hx hb d_Md_command_569 rfl (fun h111 => ?_) (fun h111 => ?_)
      · have g111 : r108.toInt = 0 := congrArg Int32.toInt h111
        exact W.vret hx hb hr (fun t ht hW => ⟨⟨M109, rfl, ⟨hI, hF, Or.inl ⟨((fq110 _ _ (by unfold mEr; omega)).trans (c32_2)), (q110p.2.2 (hz_r108 (by omega))).1⟩⟩, by unfold ux_E; rw [ht]; exact hP⟩, hS.F ht⟩) hS.2.2 d_Md_command_643
      · have g111 : ¬ (r108.toInt = 0) := fun q => h111 (Int32.toInt_inj.mp q)
        refine lv_aload_n hx hb d_Md_command_572 rfl (lv_at hl 0 rfl) ?_
        refine lv_bipush (v := 119) hx hb d_Md_command_573 (by decide) ?_
        refine lv_bipush (v := 118) hx hb d_Md_command_575 (by decide) ?_
        refine lv_bipush (v := 32) hx hb d_Md_command_577 (by decide) ?_
        refine ux_calli (va_runV ⟨hx, hb, hml, hown, hts⟩ (s_Md_forms l D ad cA A TB hA hB  M109 hI L hL ((fq110 _ _ (by unfold mEr; omega)).trans (c32_2)) 119 118 32) (cwV 3 hts (tb_goodV ml_Md_253 im_Md_forms se_Md_forms ii_Md kt_Md_forms) rfl rfl rfl (by decide +kernel) ⟨Nat.le_of_ble_eq_true rfl, Nat.le_of_ble_eq_true rfl⟩) (ux_preV (by decide) rfl rfl hP hK hi hN) rfl rfl hl.1 rfl (lv_room (Nat.le_of_ble_eq_true rfl)) d_Md_command_579 ⟨Nat.zero_le _, Nat.zero_le _⟩) hS (fun r112 M113 H locs q114 hP hS => ?_)
        obtain ⟨hI, fq114, q114p⟩ := q114
        have hF := fr_call hF fq114 (fun a b q => by unfold mFi at q; unfold mCm; omega)
        have hr_r112 : ¬ r112.toInt = 0 → r112 = 1 := fun z => by rcases q114p.1 with q | q; exact absurd (by rw [q]; rfl) z; exact q
        have hz_r112 : r112.toInt = 0 → r112 = 0 := fun z => by rcases q114p.1 with q | q; exact q; rw [q] at z; exact absurd z (by decide)
        have hfc := congrArg Int32.toInt (fq114 14 L (by unfold mFi; omega))
        refine lv_if_eq hx hb d_Md_command_582 rfl (fun h115 => ?_) (fun h115 => ?_)
        · have g115 : r112.toInt = 0 := congrArg Int32.toInt h115
          exact W.vret hx hb hr (fun t ht hW => ⟨⟨M113, rfl, ⟨hI, hF, Or.inl ⟨((fq114 _ _ (by unfold mFi; omega)).trans ((fq110 _ _ (by unfold mEr; omega)).trans (c32_2))), (q114p.2.2 (hz_r112 (by omega))).1⟩⟩, by unfold ux_E; rw [ht]; exact hP⟩, hS.F ht⟩) hS.2.2 d_Md_command_643
        · have g115 : ¬ (r112.toInt = 0) := fun q => h115 (Int32.toInt_inj.mp q)
          have hwq := hwo (hr_r108 (by omega))
          have hfp : foP _ M113 L 119 118 32 := q114p.2.1 (hr_r112 (by omega))
          have hq1 := fo_w hfp 1 (by decide) (by decide) rfl
          have hq2 := fo_v hfp 2 (by decide) (by decide) rfl
          refine lv_aload_n hx hb d_Md_command_585 rfl (lv_at hl 0 rfl) ?_
          refine lv_iconst (v := 1) hx hb d_Md_command_586 (by decide) ?_
          refine lv_iconst (v := 5) hx hb d_Md_command_587 (by decide) ?_
          refine ux_calli (va_runV ⟨hx, hb, hml, hown, hts⟩ (s_Md_enterWord l D ad cA A TB hA hB  M113 hI L hL ((fq114 _ _ (by unfold mFi; omega)).trans ((fq110 _ _ (by unfold mEr; omega)).trans (c32_2))) hA2 1 (by omega) (by first | assumption | exact hq1 (by omega) | exact fun q => hb1 ((hF _ _ (by unfold mCm; omega)).symm.trans q)) 5 (by decide) (fun q => absurd q (by decide)) (fun _ z => hq2 (by omega))) (cwV 2 hts (tb_goodV ml_Md_284 im_Md_enterWord se_Md_enterWord ii_Md kt_Md_enterWord) rfl rfl rfl (by decide +kernel) ⟨Nat.le_of_ble_eq_true rfl, Nat.le_of_ble_eq_true rfl⟩) (ux_preV (by decide) rfl rfl hP hK hi hN) rfl rfl hl.1 rfl (lv_room (Nat.le_of_ble_eq_true rfl)) d_Md_command_588 ⟨Nat.zero_le _, Nat.zero_le _⟩) hS (fun r116 M117 H locs q118 hP hS => ?_)
          obtain ⟨hI, fq118, q118p⟩ := q118
          have hF := fr_call hF fq118 (fun a b q => q)
          refine lv_pop hx hb d_Md_command_591 rfl ?_
          refine lv_goto hx hb d_Md_command_592 rfl ?_
          exact W.vret hx hb hr (fun t ht hW => ⟨⟨M117, rfl, ⟨hI, hF, (OutS_cong (by assumption) q118p.2)⟩, by unfold ux_E; rw [ht]; exact hP⟩, hS.F ht⟩) hS.2.2 d_Md_command_643
    have g107 : ¬ i_1.toInt = 107 := fun q => h107 (Int32.toInt_inj.mp q)
    by_cases h119 : i_1 = 108
    · have g119 : i_1.toInt = 108 := congrArg Int32.toInt h119
      refine lv_lookup (off := 248) (tgt := 281) hx hb d_Md_command_33 (by decide) (by rw [g119]; rfl) (by decide) ?_
      refine lv_aload_n hx hb d_Md_command_281 rfl (lv_at hl 0 rfl) ?_
      refine lv_iconst (v := 1) hx hb d_Md_command_282 (by decide) ?_
      refine lv_iconst (v := 1) hx hb d_Md_command_283 (by decide) ?_
      refine ux_calli (va_runV ⟨hx, hb, hml, hown, hts⟩ (s_Md_words l D ad cA A TB hA hB  Mc32 hI L hL (c32_2) 1 1) (cwV 2 hts (tb_goodV ml_Md_249 im_Md_words se_Md_words ii_Md kt_Md_words) rfl rfl rfl (by decide +kernel) ⟨Nat.le_of_ble_eq_true rfl, Nat.le_of_ble_eq_true rfl⟩) (ux_preV (by decide) rfl rfl hP hK hi hN) rfl rfl hl.1 rfl (lv_room (Nat.le_of_ble_eq_true rfl)) d_Md_command_284 ⟨Nat.zero_le _, Nat.zero_le _⟩) hS (fun r120 M121 H locs q122 hP hS => ?_)
      obtain ⟨hI, fq122, q122p⟩ := q122
      have hF := fr_call hF fq122 (fun a b q => by unfold mEr at q; unfold mCm; omega)
      have hr_r120 : ¬ r120.toInt = 0 → r120 = 1 := fun z => by rcases q122p.1 with q | q; exact absurd (by rw [q]; rfl) z; exact q
      have hz_r120 : r120.toInt = 0 → r120 = 0 := fun z => by rcases q122p.1 with q | q; exact q; rw [q] at z; exact absurd z (by decide)
      have hwo : r120 = 1 → (1 : Int) ≤ (M121 14 L).toInt - 1 ∧ (M121 14 L).toInt - 1 ≤ 1 := fun z => by
        have q := q122p.2.1 z
        rw [q.1 14 L]
        exact q.2
      refine lv_if_eq hx hb d_Md_command_287 rfl (fun h123 => ?_) (fun h123 => ?_)
      · have g123 : r120.toInt = 0 := congrArg Int32.toInt h123
        exact W.vret hx hb hr (fun t ht hW => ⟨⟨M121, rfl, ⟨hI, hF, Or.inl ⟨((fq122 _ _ (by unfold mEr; omega)).trans (c32_2)), (q122p.2.2 (hz_r120 (by omega))).1⟩⟩, by unfold ux_E; rw [ht]; exact hP⟩, hS.F ht⟩) hS.2.2 d_Md_command_643
      · have g123 : ¬ (r120.toInt = 0) := fun q => h123 (Int32.toInt_inj.mp q)
        refine lv_aload_n hx hb d_Md_command_290 rfl (lv_at hl 0 rfl) ?_
        refine lv_bipush (v := 120) hx hb d_Md_command_291 (by decide) ?_
        refine lv_bipush (v := 32) hx hb d_Md_command_293 (by decide) ?_
        refine lv_bipush (v := 32) hx hb d_Md_command_295 (by decide) ?_
        refine ux_calli (va_runV ⟨hx, hb, hml, hown, hts⟩ (s_Md_forms l D ad cA A TB hA hB  M121 hI L hL ((fq122 _ _ (by unfold mEr; omega)).trans (c32_2)) 120 32 32) (cwV 3 hts (tb_goodV ml_Md_253 im_Md_forms se_Md_forms ii_Md kt_Md_forms) rfl rfl rfl (by decide +kernel) ⟨Nat.le_of_ble_eq_true rfl, Nat.le_of_ble_eq_true rfl⟩) (ux_preV (by decide) rfl rfl hP hK hi hN) rfl rfl hl.1 rfl (lv_room (Nat.le_of_ble_eq_true rfl)) d_Md_command_297 ⟨Nat.zero_le _, Nat.zero_le _⟩) hS (fun r124 M125 H locs q126 hP hS => ?_)
        obtain ⟨hI, fq126, q126p⟩ := q126
        have hF := fr_call hF fq126 (fun a b q => by unfold mFi at q; unfold mCm; omega)
        have hr_r124 : ¬ r124.toInt = 0 → r124 = 1 := fun z => by rcases q126p.1 with q | q; exact absurd (by rw [q]; rfl) z; exact q
        have hz_r124 : r124.toInt = 0 → r124 = 0 := fun z => by rcases q126p.1 with q | q; exact q; rw [q] at z; exact absurd z (by decide)
        have hfc := congrArg Int32.toInt (fq126 14 L (by unfold mFi; omega))
        refine lv_if_eq hx hb d_Md_command_300 rfl (fun h127 => ?_) (fun h127 => ?_)
        · have g127 : r124.toInt = 0 := congrArg Int32.toInt h127
          exact W.vret hx hb hr (fun t ht hW => ⟨⟨M125, rfl, ⟨hI, hF, Or.inl ⟨((fq126 _ _ (by unfold mFi; omega)).trans ((fq122 _ _ (by unfold mEr; omega)).trans (c32_2))), (q126p.2.2 (hz_r124 (by omega))).1⟩⟩, by unfold ux_E; rw [ht]; exact hP⟩, hS.F ht⟩) hS.2.2 d_Md_command_643
        · have g127 : ¬ (r124.toInt = 0) := fun q => h127 (Int32.toInt_inj.mp q)
          have hwq := hwo (hr_r120 (by omega))
          have hfp : foP _ M125 L 120 32 32 := q126p.2.1 (hr_r124 (by omega))
          have hq1 := fo_x hfp 1 (by decide) (by decide) rfl
          refine lv_aload_n hx hb d_Md_command_303 rfl (lv_at hl 0 rfl) ?_
          refine ux_callv (va_runV ⟨hx, hb, hml, hown, hts⟩ (s_Md_measure l D ad cA A TB hA hB  M125 hI L hL ((fq126 _ _ (by unfold mFi; omega)).trans ((fq122 _ _ (by unfold mEr; omega)).trans (c32_2)))) (cwV 0 hts (tb_goodV ml_Md_266 im_Md_measure se_Md_measure ii_Md kt_Md_measure) rfl rfl rfl (by decide +kernel) ⟨Nat.le_of_ble_eq_true rfl, Nat.le_of_ble_eq_true rfl⟩) (ux_preV (by decide) rfl rfl hP hK hi hN) rfl rfl hl.1 rfl (lv_room (Nat.le_of_ble_eq_true rfl)) d_Md_command_304 ⟨Nat.zero_le _, Nat.zero_le _⟩) hS (fun M129 H locs q130 hP hS => ?_)
          obtain ⟨hI, fq130, q130p⟩ := q130
          have hF := fr_call hF fq130 (fun a b q => q)
          refine lv_goto hx hb d_Md_command_307 rfl ?_
          exact W.vret hx hb hr (fun t ht hW => ⟨⟨M129, rfl, ⟨hI, hF, (OutS_cong (by assumption) q130p)⟩, by unfold ux_E; rw [ht]; exact hP⟩, hS.F ht⟩) hS.2.2 d_Md_command_643
    have g119 : ¬ i_1.toInt = 108 := fun q => h119 (Int32.toInt_inj.mp q)
    by_cases h131 : i_1 = 109
    · have g131 : i_1.toInt = 109 := congrArg Int32.toInt h131
      refine lv_lookup (off := 277) (tgt := 310) hx hb d_Md_command_33 (by decide) (by rw [g131]; rfl) (by decide) ?_
      refine lv_aload_n hx hb d_Md_command_310 rfl (lv_at hl 0 rfl) ?_
      refine lv_iconst (v := 2) hx hb d_Md_command_311 (by decide) ?_
      refine lv_iconst (v := 2) hx hb d_Md_command_312 (by decide) ?_
      refine ux_calli (va_runV ⟨hx, hb, hml, hown, hts⟩ (s_Md_words l D ad cA A TB hA hB  Mc32 hI L hL (c32_2) 2 2) (cwV 2 hts (tb_goodV ml_Md_249 im_Md_words se_Md_words ii_Md kt_Md_words) rfl rfl rfl (by decide +kernel) ⟨Nat.le_of_ble_eq_true rfl, Nat.le_of_ble_eq_true rfl⟩) (ux_preV (by decide) rfl rfl hP hK hi hN) rfl rfl hl.1 rfl (lv_room (Nat.le_of_ble_eq_true rfl)) d_Md_command_313 ⟨Nat.zero_le _, Nat.zero_le _⟩) hS (fun r132 M133 H locs q134 hP hS => ?_)
      obtain ⟨hI, fq134, q134p⟩ := q134
      have hF := fr_call hF fq134 (fun a b q => by unfold mEr at q; unfold mCm; omega)
      have hr_r132 : ¬ r132.toInt = 0 → r132 = 1 := fun z => by rcases q134p.1 with q | q; exact absurd (by rw [q]; rfl) z; exact q
      have hz_r132 : r132.toInt = 0 → r132 = 0 := fun z => by rcases q134p.1 with q | q; exact q; rw [q] at z; exact absurd z (by decide)
      have hwo : r132 = 1 → (2 : Int) ≤ (M133 14 L).toInt - 1 ∧ (M133 14 L).toInt - 1 ≤ 2 := fun z => by
        have q := q134p.2.1 z
        rw [q.1 14 L]
        exact q.2
      refine lv_if_eq hx hb d_Md_command_316 rfl (fun h135 => ?_) (fun h135 => ?_)
      · have g135 : r132.toInt = 0 := congrArg Int32.toInt h135
        exact W.vret hx hb hr (fun t ht hW => ⟨⟨M133, rfl, ⟨hI, hF, Or.inl ⟨((fq134 _ _ (by unfold mEr; omega)).trans (c32_2)), (q134p.2.2 (hz_r132 (by omega))).1⟩⟩, by unfold ux_E; rw [ht]; exact hP⟩, hS.F ht⟩) hS.2.2 d_Md_command_643
      · have g135 : ¬ (r132.toInt = 0) := fun q => h135 (Int32.toInt_inj.mp q)
        refine lv_aload_n hx hb d_Md_command_319 rfl (lv_at hl 0 rfl) ?_
        refine lv_bipush (v := 120) hx hb d_Md_command_320 (by decide) ?_
        refine lv_bipush (v := 120) hx hb d_Md_command_322 (by decide) ?_
        refine lv_bipush (v := 32) hx hb d_Md_command_324 (by decide) ?_
        refine ux_calli (va_runV ⟨hx, hb, hml, hown, hts⟩ (s_Md_forms l D ad cA A TB hA hB  M133 hI L hL ((fq134 _ _ (by unfold mEr; omega)).trans (c32_2)) 120 120 32) (cwV 3 hts (tb_goodV ml_Md_253 im_Md_forms se_Md_forms ii_Md kt_Md_forms) rfl rfl rfl (by decide +kernel) ⟨Nat.le_of_ble_eq_true rfl, Nat.le_of_ble_eq_true rfl⟩) (ux_preV (by decide) rfl rfl hP hK hi hN) rfl rfl hl.1 rfl (lv_room (Nat.le_of_ble_eq_true rfl)) d_Md_command_326 ⟨Nat.zero_le _, Nat.zero_le _⟩) hS (fun r136 M137 H locs q138 hP hS => ?_)
        obtain ⟨hI, fq138, q138p⟩ := q138
        have hF := fr_call hF fq138 (fun a b q => by unfold mFi at q; unfold mCm; omega)
        have hr_r136 : ¬ r136.toInt = 0 → r136 = 1 := fun z => by rcases q138p.1 with q | q; exact absurd (by rw [q]; rfl) z; exact q
        have hz_r136 : r136.toInt = 0 → r136 = 0 := fun z => by rcases q138p.1 with q | q; exact q; rw [q] at z; exact absurd z (by decide)
        have hfc := congrArg Int32.toInt (fq138 14 L (by unfold mFi; omega))
        refine lv_if_eq hx hb d_Md_command_329 rfl (fun h139 => ?_) (fun h139 => ?_)
        · have g139 : r136.toInt = 0 := congrArg Int32.toInt h139
          exact W.vret hx hb hr (fun t ht hW => ⟨⟨M137, rfl, ⟨hI, hF, Or.inl ⟨((fq138 _ _ (by unfold mFi; omega)).trans ((fq134 _ _ (by unfold mEr; omega)).trans (c32_2))), (q138p.2.2 (hz_r136 (by omega))).1⟩⟩, by unfold ux_E; rw [ht]; exact hP⟩, hS.F ht⟩) hS.2.2 d_Md_command_643
        · have g139 : ¬ (r136.toInt = 0) := fun q => h139 (Int32.toInt_inj.mp q)
          have hwq := hwo (hr_r132 (by omega))
          have hfp : foP _ M137 L 120 120 32 := q138p.2.1 (hr_r136 (by omega))
          have hq1 := fo_x hfp 1 (by decide) (by decide) rfl
          have hq2 := fo_x hfp 2 (by decide) (by decide) rfl
          refine lv_aload_n hx hb d_Md_command_332 rfl (lv_at hl 0 rfl) ?_
          refine ux_callv (va_runV ⟨hx, hb, hml, hown, hts⟩ (s_Md_match l D ad cA A TB hA hB  M137 hI L hL ((fq138 _ _ (by unfold mFi; omega)).trans ((fq134 _ _ (by unfold mEr; omega)).trans (c32_2))) (hq2 (by omega))) (cwV 0 hts (tb_goodV ml_Md_269 im_Md_match se_Md_match ii_Md kt_Md_match) rfl rfl rfl (by decide +kernel) ⟨Nat.le_of_ble_eq_true rfl, Nat.le_of_ble_eq_true rfl⟩) (ux_preV (by decide) rfl rfl hP hK hi hN) rfl rfl hl.1 rfl (lv_room (Nat.le_of_ble_eq_true rfl)) d_Md_command_333 ⟨Nat.zero_le _, Nat.zero_le _⟩) hS (fun M141 H locs q142 hP hS => ?_)
          obtain ⟨hI, fq142, q142p⟩ := q142
          have hF := fr_call hF fq142 (fun a b q => q)
          refine lv_goto hx hb d_Md_command_336 rfl ?_
          exact W.vret hx hb hr (fun t ht hW => ⟨⟨M141, rfl, ⟨hI, hF, (OutS_cong (by assumption) q142p)⟩, by unfold ux_E; rw [ht]; exact hP⟩, hS.F ht⟩) hS.2.2 d_Md_command_643
    have g131 : ¬ i_1.toInt = 109 := fun q => h131 (Int32.toInt_inj.mp q)
    by_cases h143 : i_1 = 112
    · have g143 : i_1.toInt = 112 := congrArg Int32.toInt h143
      refine lv_lookup (off := 364) (tgt := 397) hx hb d_Md_command_33 (by decide) (by rw [g143]; rfl) (by decide) ?_
      refine lv_aload_n hx hb d_Md_command_397 rfl (lv_at hl 0 rfl) ?_
      refine lv_iconst (v := 3) hx hb d_Md_command_398 (by decide) ?_
      refine lv_iconst (v := 3) hx hb d_Md_command_399 (by decide) ?_
      refine ux_calli (va_runV ⟨hx, hb, hml, hown, hts⟩ (s_Md_words l D ad cA A TB hA hB  Mc32 hI L hL (c32_2) 3 3) (cwV 2 hts (tb_goodV ml_Md_249 im_Md_words se_Md_words ii_Md kt_Md_words) rfl rfl rfl (by decide +kernel) ⟨Nat.le_of_ble_eq_true rfl, Nat.le_of_ble_eq_true rfl⟩) (ux_preV (by decide) rfl rfl hP hK hi hN) rfl rfl hl.1 rfl (lv_room (Nat.le_of_ble_eq_true rfl)) d_Md_command_400 ⟨Nat.zero_le _, Nat.zero_le _⟩) hS (fun r144 M145 H locs q146 hP hS => ?_)
      obtain ⟨hI, fq146, q146p⟩ := q146
      have hF := fr_call hF fq146 (fun a b q => by unfold mEr at q; unfold mCm; omega)
      have hr_r144 : ¬ r144.toInt = 0 → r144 = 1 := fun z => by rcases q146p.1 with q | q; exact absurd (by rw [q]; rfl) z; exact q
      have hz_r144 : r144.toInt = 0 → r144 = 0 := fun z => by rcases q146p.1 with q | q; exact q; rw [q] at z; exact absurd z (by decide)
      have hwo : r144 = 1 → (3 : Int) ≤ (M145 14 L).toInt - 1 ∧ (M145 14 L).toInt - 1 ≤ 3 := fun z => by
        have q := q146p.2.1 z
        rw [q.1 14 L]
        exact q.2
      refine lv_if_eq hx hb d_Md_command_403 rfl (fun h147 => ?_) (fun h147 => ?_)
      · have g147 : r144.toInt = 0 := congrArg Int32.toInt h147
        exact W.vret hx hb hr (fun t ht hW => ⟨⟨M145, rfl, ⟨hI, hF, Or.inl ⟨((fq146 _ _ (by unfold mEr; omega)).trans (c32_2)), (q146p.2.2 (hz_r144 (by omega))).1⟩⟩, by unfold ux_E; rw [ht]; exact hP⟩, hS.F ht⟩) hS.2.2 d_Md_command_643
      · have g147 : ¬ (r144.toInt = 0) := fun q => h147 (Int32.toInt_inj.mp q)
        refine lv_aload_n hx hb d_Md_command_406 rfl (lv_at hl 0 rfl) ?_
        refine lv_bipush (v := 112) hx hb d_Md_command_407 (by decide) ?_
        refine lv_bipush (v := 118) hx hb d_Md_command_409 (by decide) ?_
        refine lv_bipush (v := 119) hx hb d_Md_command_411 (by decide) ?_
        refine ux_calli (va_runV ⟨hx, hb, hml, hown, hts⟩ (s_Md_forms l D ad cA A TB hA hB  M145 hI L hL ((fq146 _ _ (by unfold mEr; omega)).trans (c32_2)) 112 118 119) (cwV 3 hts (tb_goodV ml_Md_253 im_Md_forms se_Md_forms ii_Md kt_Md_forms) rfl rfl rfl (by decide +kernel) ⟨Nat.le_of_ble_eq_true rfl, Nat.le_of_ble_eq_true rfl⟩) (ux_preV (by decide) rfl rfl hP hK hi hN) rfl rfl hl.1 rfl (lv_room (Nat.le_of_ble_eq_true rfl)) d_Md_command_413 ⟨Nat.zero_le _, Nat.zero_le _⟩) hS (fun r148 M149 H locs q150 hP hS => ?_)
        obtain ⟨hI, fq150, q150p⟩ := q150
        have hF := fr_call hF fq150 (fun a b q => by unfold mFi at q; unfold mCm; omega)
        have hr_r148 : ¬ r148.toInt = 0 → r148 = 1 := fun z => by rcases q150p.1 with q | q; exact absurd (by rw [q]; rfl) z; exact q
        have hz_r148 : r148.toInt = 0 → r148 = 0 := fun z => by rcases q150p.1 with q | q; exact q; rw [q] at z; exact absurd z (by decide)
        have hfc := congrArg Int32.toInt (fq150 14 L (by unfold mFi; omega))
        refine lv_if_eq hx hb d_Md_command_416 rfl (fun h151 => ?_) (fun h151 => ?_)
        · have g151 : r148.toInt = 0 := congrArg Int32.toInt h151
          exact W.vret hx hb hr (fun t ht hW => ⟨⟨M149, rfl, ⟨hI, hF, Or.inl ⟨((fq150 _ _ (by unfold mFi; omega)).trans ((fq146 _ _ (by unfold mEr; omega)).trans (c32_2))), (q150p.2.2 (hz_r148 (by omega))).1⟩⟩, by unfold ux_E; rw [ht]; exact hP⟩, hS.F ht⟩) hS.2.2 d_Md_command_643
        · have g151 : ¬ (r148.toInt = 0) := fun q => h151 (Int32.toInt_inj.mp q)
          have hwq := hwo (hr_r144 (by omega))
          have hfp : foP _ M149 L 112 118 119 := q150p.2.1 (hr_r148 (by omega))
          have hq1 := fo_p hfp 1 (by decide) (by decide) rfl
          have hq2 := fo_v hfp 2 (by decide) (by decide) rfl
          have hq3 := fo_w hfp 3 (by decide) (by decide) rfl
          refine lv_aload_n hx hb d_Md_command_419 rfl (lv_at hl 0 rfl) ?_
          refine lv_aload_n hx hb d_Md_command_420 rfl (lv_at hl 0 rfl) ?_
          refine lv_iconst (v := 1) hx hb d_Md_command_421 (by decide) ?_
          refine lv_bipush (v := 65) hx hb d_Md_command_422 (by decide) ?_
          refine ux_calli (va_runV ⟨hx, hb, hml, hown, hts⟩ (s_Md_name l D ad cA A TB hA hB  M149 hI L hL ((fq150 _ _ (by unfold mFi; omega)).trans ((fq146 _ _ (by unfold mEr; omega)).trans (c32_2))) 1 (by omega) 65 (by decide) (by decide)) (cwV 2 hts (tb_goodV ml_Md_219 im_Md_name se_Md_name ii_Md kt_Md_name) rfl rfl rfl (by decide +kernel) ⟨Nat.le_of_ble_eq_true rfl, Nat.le_of_ble_eq_true rfl⟩) (ux_preV (by decide) rfl rfl hP hK hi hN) rfl rfl hl.1 rfl (lv_room (Nat.le_of_ble_eq_true rfl)) d_Md_command_424 ⟨Nat.zero_le _, Nat.zero_le _⟩) hS (fun r152 M153 H locs q154 hP hS => ?_)
          obtain ⟨hI, fq154, q154p⟩ := q154
          rw [tN_eq fq154] at hP hI
          obtain ⟨q154a, q154b, hc65⟩ := q154p
          have nk65 := hc65.mpr
          have hnk : 0 ≤ r152.toInt := hc65.mp (hq1 (by omega))
          obtain ⟨q22, hq22, eq22⟩ := nat_of (x := r152) (n := 25) hnk (by omega)
          subst eq22
          refine ux_callv (va_runV ⟨hx, hb, hml, hown, hts⟩ (s_Md_define l D ad cA A TB hA hB  M149 hI L hL ((fq150 _ _ (by unfold mFi; omega)).trans ((fq146 _ _ (by unfold mEr; omega)).trans (c32_2))) q22 (by omega) (hq3 (by omega)) (hq2 (by omega))) (cwV 1 hts (tb_goodV ml_Md_275 im_Md_define se_Md_define ii_Md kt_Md_define) rfl rfl rfl (by decide +kernel) ⟨Nat.le_of_ble_eq_true rfl, Nat.le_of_ble_eq_true rfl⟩) (ux_preV (by decide) rfl rfl hP hK hi hN) rfl rfl hl.1 rfl (lv_room (Nat.le_of_ble_eq_true rfl)) d_Md_command_427 ⟨Nat.zero_le _, Nat.zero_le _⟩) hS (fun M156 H locs q157 hP hS => ?_)
          obtain ⟨hI, fq157, q157p⟩ := q157
          have hF := fr_call hF fq157 (fun a b q => q)
          refine lv_goto hx hb d_Md_command_430 rfl ?_
          exact W.vret hx hb hr (fun t ht hW => ⟨⟨M156, rfl, ⟨hI, hF, (OutS_cong (by assumption) q157p)⟩, by unfold ux_E; rw [ht]; exact hP⟩, hS.F ht⟩) hS.2.2 d_Md_command_643
    have g143 : ¬ i_1.toInt = 112 := fun q => h143 (Int32.toInt_inj.mp q)
    by_cases h158 : i_1 = 114
    · have g158 : i_1.toInt = 114 := congrArg Int32.toInt h158
      refine lv_lookup (off := 436) (tgt := 469) hx hb d_Md_command_33 (by decide) (by rw [g158]; rfl) (by decide) ?_
      refine lv_aload_n hx hb d_Md_command_469 rfl (lv_at hl 0 rfl) ?_
      refine lv_iconst (v := 1) hx hb d_Md_command_470 (by decide) ?_
      refine lv_iconst (v := 1) hx hb d_Md_command_471 (by decide) ?_
      refine ux_calli (va_runV ⟨hx, hb, hml, hown, hts⟩ (s_Md_words l D ad cA A TB hA hB  Mc32 hI L hL (c32_2) 1 1) (cwV 2 hts (tb_goodV ml_Md_249 im_Md_words se_Md_words ii_Md kt_Md_words) rfl rfl rfl (by decide +kernel) ⟨Nat.le_of_ble_eq_true rfl, Nat.le_of_ble_eq_true rfl⟩) (ux_preV (by decide) rfl rfl hP hK hi hN) rfl rfl hl.1 rfl (lv_room (Nat.le_of_ble_eq_true rfl)) d_Md_command_472 ⟨Nat.zero_le _, Nat.zero_le _⟩) hS (fun r159 M160 H locs q161 hP hS => ?_)
      obtain ⟨hI, fq161, q161p⟩ := q161
      have hF := fr_call hF fq161 (fun a b q => by unfold mEr at q; unfold mCm; omega)
      have hr_r159 : ¬ r159.toInt = 0 → r159 = 1 := fun z => by rcases q161p.1 with q | q; exact absurd (by rw [q]; rfl) z; exact q
      have hz_r159 : r159.toInt = 0 → r159 = 0 := fun z => by rcases q161p.1 with q | q; exact q; rw [q] at z; exact absurd z (by decide)
      have hwo : r159 = 1 → (1 : Int) ≤ (M160 14 L).toInt - 1 ∧ (M160 14 L).toInt - 1 ≤ 1 := fun z => by
        have q := q161p.2.1 z
        rw [q.1 14 L]
        exact q.2
      refine lv_if_eq hx hb d_Md_command_475 rfl (fun h162 => ?_) (fun h162 => ?_)
      · have g162 : r159.toInt = 0 := congrArg Int32.toInt h162
        exact W.vret hx hb hr (fun t ht hW => ⟨⟨M160, rfl, ⟨hI, hF, Or.inl ⟨((fq161 _ _ (by unfold mEr; omega)).trans (c32_2)), (q161p.2.2 (hz_r159 (by omega))).1⟩⟩, by unfold ux_E; rw [ht]; exact hP⟩, hS.F ht⟩) hS.2.2 d_Md_command_643
      · have g162 : ¬ (r159.toInt = 0) := fun q => h162 (Int32.toInt_inj.mp q)
        refine lv_aload_n hx hb d_Md_command_478 rfl (lv_at hl 0 rfl) ?_
        refine lv_bipush (v := 120) hx hb d_Md_command_479 (by decide) ?_
        refine lv_bipush (v := 32) hx hb d_Md_command_481 (by decide) ?_
        refine lv_bipush (v := 32) hx hb d_Md_command_483 (by decide) ?_
        refine ux_calli (va_runV ⟨hx, hb, hml, hown, hts⟩ (s_Md_forms l D ad cA A TB hA hB  M160 hI L hL ((fq161 _ _ (by unfold mEr; omega)).trans (c32_2)) 120 32 32) (cwV 3 hts (tb_goodV ml_Md_253 im_Md_forms se_Md_forms ii_Md kt_Md_forms) rfl rfl rfl (by decide +kernel) ⟨Nat.le_of_ble_eq_true rfl, Nat.le_of_ble_eq_true rfl⟩) (ux_preV (by decide) rfl rfl hP hK hi hN) rfl rfl hl.1 rfl (lv_room (Nat.le_of_ble_eq_true rfl)) d_Md_command_485 ⟨Nat.zero_le _, Nat.zero_le _⟩) hS (fun r163 M164 H locs q165 hP hS => ?_)
        obtain ⟨hI, fq165, q165p⟩ := q165
        have hF := fr_call hF fq165 (fun a b q => by unfold mFi at q; unfold mCm; omega)
        have hr_r163 : ¬ r163.toInt = 0 → r163 = 1 := fun z => by rcases q165p.1 with q | q; exact absurd (by rw [q]; rfl) z; exact q
        have hz_r163 : r163.toInt = 0 → r163 = 0 := fun z => by rcases q165p.1 with q | q; exact q; rw [q] at z; exact absurd z (by decide)
        have hfc := congrArg Int32.toInt (fq165 14 L (by unfold mFi; omega))
        refine lv_if_eq hx hb d_Md_command_488 rfl (fun h166 => ?_) (fun h166 => ?_)
        · have g166 : r163.toInt = 0 := congrArg Int32.toInt h166
          exact W.vret hx hb hr (fun t ht hW => ⟨⟨M164, rfl, ⟨hI, hF, Or.inl ⟨((fq165 _ _ (by unfold mFi; omega)).trans ((fq161 _ _ (by unfold mEr; omega)).trans (c32_2))), (q165p.2.2 (hz_r163 (by omega))).1⟩⟩, by unfold ux_E; rw [ht]; exact hP⟩, hS.F ht⟩) hS.2.2 d_Md_command_643
        · have g166 : ¬ (r163.toInt = 0) := fun q => h166 (Int32.toInt_inj.mp q)
          have hwq := hwo (hr_r159 (by omega))
          have hfp : foP _ M164 L 120 32 32 := q165p.2.1 (hr_r163 (by omega))
          have hq1 := fo_x hfp 1 (by decide) (by decide) rfl
          refine lv_aload_n hx hb d_Md_command_491 rfl (lv_at hl 0 rfl) ?_
          refine lv_iconst (v := 2) hx hb d_Md_command_492 (by decide) ?_
          refine ux_callv (va_runV ⟨hx, hb, hml, hown, hts⟩ (s_Md_answer l D ad cA A TB hA hB  M164 hI L hL ((fq165 _ _ (by unfold mFi; omega)).trans ((fq161 _ _ (by unfold mEr; omega)).trans (c32_2))) 2 (by first | omega | exact hq1 (by omega))) (cwV 1 hts (tb_goodV ml_Md_281 im_Md_answer se_Md_answer ii_Md kt_Md_answer) rfl rfl rfl (by decide +kernel) ⟨Nat.le_of_ble_eq_true rfl, Nat.le_of_ble_eq_true rfl⟩) (ux_preV (by decide) rfl rfl hP hK hi hN) rfl rfl hl.1 rfl (lv_room (Nat.le_of_ble_eq_true rfl)) d_Md_command_493 ⟨Nat.zero_le _, Nat.zero_le _⟩) hS (fun M168 H locs q169 hP hS => ?_)
          obtain ⟨hI, fq169, q169p⟩ := q169
          have hF := fr_call hF fq169 (fun a b q => q)
          refine lv_goto hx hb d_Md_command_496 rfl ?_
          exact W.vret hx hb hr (fun t ht hW => ⟨⟨M168, rfl, ⟨hI, hF, (OutS_cong (by assumption) q169p)⟩, by unfold ux_E; rw [ht]; exact hP⟩, hS.F ht⟩) hS.2.2 d_Md_command_643
    have g158 : ¬ i_1.toInt = 114 := fun q => h158 (Int32.toInt_inj.mp q)
    by_cases h170 : i_1 = 115
    · have g170 : i_1.toInt = 115 := congrArg Int32.toInt h170
      refine lv_lookup (off := 139) (tgt := 172) hx hb d_Md_command_33 (by decide) (by rw [g170]; rfl) (by decide) ?_
      refine lv_aload_n hx hb d_Md_command_172 rfl (lv_at hl 0 rfl) ?_
      refine lv_iconst (v := 1) hx hb d_Md_command_173 (by decide) ?_
      refine lv_iconst (v := 2) hx hb d_Md_command_174 (by decide) ?_
      refine ux_calli (va_runV ⟨hx, hb, hml, hown, hts⟩ (s_Md_words l D ad cA A TB hA hB  Mc32 hI L hL (c32_2) 1 2) (cwV 2 hts (tb_goodV ml_Md_249 im_Md_words se_Md_words ii_Md kt_Md_words) rfl rfl rfl (by decide +kernel) ⟨Nat.le_of_ble_eq_true rfl, Nat.le_of_ble_eq_true rfl⟩) (ux_preV (by decide) rfl rfl hP hK hi hN) rfl rfl hl.1 rfl (lv_room (Nat.le_of_ble_eq_true rfl)) d_Md_command_175 ⟨Nat.zero_le _, Nat.zero_le _⟩) hS (fun r171 M172 H locs q173 hP hS => ?_)
      obtain ⟨hI, fq173, q173p⟩ := q173
      have hF := fr_call hF fq173 (fun a b q => by unfold mEr at q; unfold mCm; omega)
      have hr_r171 : ¬ r171.toInt = 0 → r171 = 1 := fun z => by rcases q173p.1 with q | q; exact absurd (by rw [q]; rfl) z; exact q
      have hz_r171 : r171.toInt = 0 → r171 = 0 := fun z => by rcases q173p.1 with q | q; exact q; rw [q] at z; exact absurd z (by decide)
      have hwo : r171 = 1 → (1 : Int) ≤ (M172 14 L).toInt - 1 ∧ (M172 14 L).toInt - 1 ≤ 2 := fun z => by
        have q := q173p.2.1 z
        rw [q.1 14 L]
        exact q.2
      refine lv_if_eq hx hb d_Md_command_178 rfl (fun h174 => ?_) (fun h174 => ?_)
      · have g174 : r171.toInt = 0 := congrArg Int32.toInt h174
        exact W.vret hx hb hr (fun t ht hW => ⟨⟨M172, rfl, ⟨hI, hF, Or.inl ⟨((fq173 _ _ (by unfold mEr; omega)).trans (c32_2)), (q173p.2.2 (hz_r171 (by omega))).1⟩⟩, by unfold ux_E; rw [ht]; exact hP⟩, hS.F ht⟩) hS.2.2 d_Md_command_643
      · have g174 : ¬ (r171.toInt = 0) := fun q => h174 (Int32.toInt_inj.mp q)
        refine lv_aload_n hx hb d_Md_command_181 rfl (lv_at hl 0 rfl) ?_
        refine lv_bipush (v := 118) hx hb d_Md_command_182 (by decide) ?_
        refine lv_bipush (v := 120) hx hb d_Md_command_184 (by decide) ?_
        refine lv_bipush (v := 32) hx hb d_Md_command_186 (by decide) ?_
        refine ux_calli (va_runV ⟨hx, hb, hml, hown, hts⟩ (s_Md_forms l D ad cA A TB hA hB  M172 hI L hL ((fq173 _ _ (by unfold mEr; omega)).trans (c32_2)) 118 120 32) (cwV 3 hts (tb_goodV ml_Md_253 im_Md_forms se_Md_forms ii_Md kt_Md_forms) rfl rfl rfl (by decide +kernel) ⟨Nat.le_of_ble_eq_true rfl, Nat.le_of_ble_eq_true rfl⟩) (ux_preV (by decide) rfl rfl hP hK hi hN) rfl rfl hl.1 rfl (lv_room (Nat.le_of_ble_eq_true rfl)) d_Md_command_188 ⟨Nat.zero_le _, Nat.zero_le _⟩) hS (fun r175 M176 H locs q177 hP hS => ?_)
        obtain ⟨hI, fq177, q177p⟩ := q177
        have hF := fr_call hF fq177 (fun a b q => by unfold mFi at q; unfold mCm; omega)
        have hr_r175 : ¬ r175.toInt = 0 → r175 = 1 := fun z => by rcases q177p.1 with q | q; exact absurd (by rw [q]; rfl) z; exact q
        have hz_r175 : r175.toInt = 0 → r175 = 0 := fun z => by rcases q177p.1 with q | q; exact q; rw [q] at z; exact absurd z (by decide)
        have hfc := congrArg Int32.toInt (fq177 14 L (by unfold mFi; omega))
        refine lv_if_eq hx hb d_Md_command_191 rfl (fun h178 => ?_) (fun h178 => ?_)
        · have g178 : r175.toInt = 0 := congrArg Int32.toInt h178
          exact W.vret hx hb hr (fun t ht hW => ⟨⟨M176, rfl, ⟨hI, hF, Or.inl ⟨((fq177 _ _ (by unfold mFi; omega)).trans ((fq173 _ _ (by unfold mEr; omega)).trans (c32_2))), (q177p.2.2 (hz_r175 (by omega))).1⟩⟩, by unfold ux_E; rw [ht]; exact hP⟩, hS.F ht⟩) hS.2.2 d_Md_command_643
        · have g178 : ¬ (r175.toInt = 0) := fun q => h178 (Int32.toInt_inj.mp q)
          have hwq := hwo (hr_r171 (by omega))
          have hfp : foP _ M176 L 118 120 32 := q177p.2.1 (hr_r175 (by omega))
          have hq1 := fo_v hfp 1 (by decide) (by decide) rfl
          have hq2 := fo_x hfp 2 (by decide) (by decide) rfl
          refine lv_aload_n hx hb d_Md_command_194 rfl (lv_at hl 0 rfl) ?_
          refine lv_aload_n hx hb d_Md_command_195 rfl (lv_at hl 0 rfl) ?_
          refine lv_aload_n hx hb d_Md_command_196 rfl (lv_at hl 0 rfl) ?_
          refine lv_iconst (v := 1) hx hb d_Md_command_197 (by decide) ?_
          refine lv_bipush (v := 97) hx hb d_Md_command_198 (by decide) ?_
          refine ux_calli (va_runV ⟨hx, hb, hml, hown, hts⟩ (s_Md_name l D ad cA A TB hA hB  M176 hI L hL ((fq177 _ _ (by unfold mFi; omega)).trans ((fq173 _ _ (by unfold mEr; omega)).trans (c32_2))) 1 (by omega) 97 (by decide) (by decide)) (cwV 2 hts (tb_goodV ml_Md_219 im_Md_name se_Md_name ii_Md kt_Md_name) rfl rfl rfl (by decide +kernel) ⟨Nat.le_of_ble_eq_true rfl, Nat.le_of_ble_eq_true rfl⟩) (ux_preV (by decide) rfl rfl hP hK hi hN) rfl rfl hl.1 rfl (lv_room (Nat.le_of_ble_eq_true rfl)) d_Md_command_200 ⟨Nat.zero_le _, Nat.zero_le _⟩) hS (fun r179 M180 H locs q181 hP hS => ?_)
          obtain ⟨hI, fq181, q181p⟩ := q181
          rw [tN_eq fq181] at hP hI
          obtain ⟨q181a, q181b, hc97⟩ := q181p
          have nk97 := hc97.mpr
          have hnk : 0 ≤ r179.toInt := hc97.mp (hq1 (by omega))
          obtain ⟨q22, hq22, eq22⟩ := nat_of (x := r179) (n := 25) hnk (by omega)
          subst eq22
          refine ux_calli (va_runV ⟨hx, hb, hml, hown, hts⟩ (s_Md_variable l D ad cA A TB hA hB  M176 hI L hL ((fq177 _ _ (by unfold mFi; omega)).trans ((fq173 _ _ (by unfold mEr; omega)).trans (c32_2))) q22 (by omega)) (cwV 1 hts (tb_goodV ml_Md_213 im_Md_variable se_Md_variable ii_Md kt_Md_variable) rfl rfl rfl (by decide +kernel) ⟨Nat.le_of_ble_eq_true rfl, Nat.le_of_ble_eq_true rfl⟩) (ux_preV (by decide) rfl rfl hP hK hi hN) rfl rfl hl.1 rfl (lv_room (Nat.le_of_ble_eq_true rfl)) d_Md_command_203 ⟨Nat.zero_le _, Nat.zero_le _⟩) hS (fun r182 M183 H locs q184 hP hS => ?_)
          obtain ⟨hI, fq184, q184p⟩ := q184
          rw [tN_eq fq184] at hP hI
          obtain ⟨c185, hc185, ec185⟩ := nat_of (x := r182) (n := 207) (q184p).1 (q184p).2
          subst ec185
          refine ux_callv (va_runV ⟨hx, hb, hml, hown, hts⟩ (s_Md_set l D ad cA A TB hA hB  M176 hI L hL ((fq177 _ _ (by unfold mFi; omega)).trans ((fq173 _ _ (by unfold mEr; omega)).trans (c32_2))) c185 (by omega) (fun z => hq2 (by omega))) (cwV 1 hts (tb_goodV ml_Md_257 im_Md_set se_Md_set ii_Md kt_Md_set) rfl rfl rfl (by decide +kernel) ⟨Nat.le_of_ble_eq_true rfl, Nat.le_of_ble_eq_true rfl⟩) (ux_preV (by decide) rfl rfl hP hK hi hN) rfl rfl hl.1 rfl (lv_room (Nat.le_of_ble_eq_true rfl)) d_Md_command_206 ⟨Nat.zero_le _, Nat.zero_le _⟩) hS (fun M187 H locs q188 hP hS => ?_)
          obtain ⟨hI, fq188, q188p⟩ := q188
          have hF := fr_call hF fq188 (fun a b q => q)
          refine lv_goto hx hb d_Md_command_209 rfl ?_
          exact W.vret hx hb hr (fun t ht hW => ⟨⟨M187, rfl, ⟨hI, hF, (OutS_cong (by assumption) q188p)⟩, by unfold ux_E; rw [ht]; exact hP⟩, hS.F ht⟩) hS.2.2 d_Md_command_643
    have g170 : ¬ i_1.toInt = 115 := fun q => h170 (Int32.toInt_inj.mp q)
    by_cases h189 : i_1 = 120
    · have g189 : i_1.toInt = 120 := congrArg Int32.toInt h189
      refine lv_lookup (off := 466) (tgt := 499) hx hb d_Md_command_33 (by decide) (by rw [g189]; rfl) (by decide) ?_
      refine lv_aload_n hx hb d_Md_command_499 rfl (lv_at hl 0 rfl) ?_
      refine lv_iconst (v := 1) hx hb d_Md_command_500 (by decide) ?_
      refine lv_iconst (v := 1) hx hb d_Md_command_501 (by decide) ?_
      refine ux_calli (va_runV ⟨hx, hb, hml, hown, hts⟩ (s_Md_words l D ad cA A TB hA hB  Mc32 hI L hL (c32_2) 1 1) (cwV 2 hts (tb_goodV ml_Md_249 im_Md_words se_Md_words ii_Md kt_Md_words) rfl rfl rfl (by decide +kernel) ⟨Nat.le_of_ble_eq_true rfl, Nat.le_of_ble_eq_true rfl⟩) (ux_preV (by decide) rfl rfl hP hK hi hN) rfl rfl hl.1 rfl (lv_room (Nat.le_of_ble_eq_true rfl)) d_Md_command_502 ⟨Nat.zero_le _, Nat.zero_le _⟩) hS (fun r190 M191 H locs q192 hP hS => ?_)
      obtain ⟨hI, fq192, q192p⟩ := q192
      have hF := fr_call hF fq192 (fun a b q => by unfold mEr at q; unfold mCm; omega)
      have hr_r190 : ¬ r190.toInt = 0 → r190 = 1 := fun z => by rcases q192p.1 with q | q; exact absurd (by rw [q]; rfl) z; exact q
      have hz_r190 : r190.toInt = 0 → r190 = 0 := fun z => by rcases q192p.1 with q | q; exact q; rw [q] at z; exact absurd z (by decide)
      have hwo : r190 = 1 → (1 : Int) ≤ (M191 14 L).toInt - 1 ∧ (M191 14 L).toInt - 1 ≤ 1 := fun z => by
        have q := q192p.2.1 z
        rw [q.1 14 L]
        exact q.2
      refine lv_if_eq hx hb d_Md_command_505 rfl (fun h193 => ?_) (fun h193 => ?_)
      · have g193 : r190.toInt = 0 := congrArg Int32.toInt h193
        exact W.vret hx hb hr (fun t ht hW => ⟨⟨M191, rfl, ⟨hI, hF, Or.inl ⟨((fq192 _ _ (by unfold mEr; omega)).trans (c32_2)), (q192p.2.2 (hz_r190 (by omega))).1⟩⟩, by unfold ux_E; rw [ht]; exact hP⟩, hS.F ht⟩) hS.2.2 d_Md_command_643
      · have g193 : ¬ (r190.toInt = 0) := fun q => h193 (Int32.toInt_inj.mp q)
        refine lv_aload_n hx hb d_Md_command_508 rfl (lv_at hl 0 rfl) ?_
        refine lv_bipush (v := 120) hx hb d_Md_command_509 (by decide) ?_
        refine lv_bipush (v := 32) hx hb d_Md_command_511 (by decide) ?_
        refine lv_bipush (v := 32) hx hb d_Md_command_513 (by decide) ?_
        refine ux_calli (va_runV ⟨hx, hb, hml, hown, hts⟩ (s_Md_forms l D ad cA A TB hA hB  M191 hI L hL ((fq192 _ _ (by unfold mEr; omega)).trans (c32_2)) 120 32 32) (cwV 3 hts (tb_goodV ml_Md_253 im_Md_forms se_Md_forms ii_Md kt_Md_forms) rfl rfl rfl (by decide +kernel) ⟨Nat.le_of_ble_eq_true rfl, Nat.le_of_ble_eq_true rfl⟩) (ux_preV (by decide) rfl rfl hP hK hi hN) rfl rfl hl.1 rfl (lv_room (Nat.le_of_ble_eq_true rfl)) d_Md_command_515 ⟨Nat.zero_le _, Nat.zero_le _⟩) hS (fun r194 M195 H locs q196 hP hS => ?_)
        obtain ⟨hI, fq196, q196p⟩ := q196
        have hF := fr_call hF fq196 (fun a b q => by unfold mFi at q; unfold mCm; omega)
        have hr_r194 : ¬ r194.toInt = 0 → r194 = 1 := fun z => by rcases q196p.1 with q | q; exact absurd (by rw [q]; rfl) z; exact q
        have hz_r194 : r194.toInt = 0 → r194 = 0 := fun z => by rcases q196p.1 with q | q; exact q; rw [q] at z; exact absurd z (by decide)
        have hfc := congrArg Int32.toInt (fq196 14 L (by unfold mFi; omega))
        refine lv_if_eq hx hb d_Md_command_518 rfl (fun h197 => ?_) (fun h197 => ?_)
        · have g197 : r194.toInt = 0 := congrArg Int32.toInt h197
          exact W.vret hx hb hr (fun t ht hW => ⟨⟨M195, rfl, ⟨hI, hF, Or.inl ⟨((fq196 _ _ (by unfold mFi; omega)).trans ((fq192 _ _ (by unfold mEr; omega)).trans (c32_2))), (q196p.2.2 (hz_r194 (by omega))).1⟩⟩, by unfold ux_E; rw [ht]; exact hP⟩, hS.F ht⟩) hS.2.2 d_Md_command_643
        · have g197 : ¬ (r194.toInt = 0) := fun q => h197 (Int32.toInt_inj.mp q)
          have hwq := hwo (hr_r190 (by omega))
          have hfp : foP _ M195 L 120 32 32 := q196p.2.1 (hr_r194 (by omega))
          have hq1 := fo_x hfp 1 (by decide) (by decide) rfl
          refine lv_aload_n hx hb d_Md_command_521 rfl (lv_at hl 0 rfl) ?_
          refine lv_iconst (v := 1) hx hb d_Md_command_522 (by decide) ?_
          refine ux_callv (va_runV ⟨hx, hb, hml, hown, hts⟩ (s_Md_answer l D ad cA A TB hA hB  M195 hI L hL ((fq196 _ _ (by unfold mFi; omega)).trans ((fq192 _ _ (by unfold mEr; omega)).trans (c32_2))) 1 (by first | omega | exact hq1 (by omega))) (cwV 1 hts (tb_goodV ml_Md_281 im_Md_answer se_Md_answer ii_Md kt_Md_answer) rfl rfl rfl (by decide +kernel) ⟨Nat.le_of_ble_eq_true rfl, Nat.le_of_ble_eq_true rfl⟩) (ux_preV (by decide) rfl rfl hP hK hi hN) rfl rfl hl.1 rfl (lv_room (Nat.le_of_ble_eq_true rfl)) d_Md_command_523 ⟨Nat.zero_le _, Nat.zero_le _⟩) hS (fun M199 H locs q200 hP hS => ?_)
          obtain ⟨hI, fq200, q200p⟩ := q200
          have hF := fr_call hF fq200 (fun a b q => q)
          refine lv_goto hx hb d_Md_command_526 rfl ?_
          exact W.vret hx hb hr (fun t ht hW => ⟨⟨M199, rfl, ⟨hI, hF, (OutS_cong (by assumption) q200p)⟩, by unfold ux_E; rw [ht]; exact hP⟩, hS.F ht⟩) hS.2.2 d_Md_command_643
    have g189 : ¬ i_1.toInt = 120 := fun q => h189 (Int32.toInt_inj.mp q)
    refine lv_lookup (off := 605) (tgt := 638) hx hb d_Md_command_33 (by decide) (by show Op.lookupswitch.offset [(42, 335), (60, 591), (62, 562), (63, 306), (98, 496), (99, 513), (101, 219), (103, 400), (105, 179), (107, 530), (108, 248), (109, 277), (112, 364), (114, 436), (115, 139), (120, 466)] 605 i_1.toInt = 605; rw [Op.lookupswitch.offset_cons, if_neg (show ¬ (42 : Int) = i_1.toInt by omega), Op.lookupswitch.offset_cons, if_neg (show ¬ (60 : Int) = i_1.toInt by omega), Op.lookupswitch.offset_cons, if_neg (show ¬ (62 : Int) = i_1.toInt by omega), Op.lookupswitch.offset_cons, if_neg (show ¬ (63 : Int) = i_1.toInt by omega), Op.lookupswitch.offset_cons, if_neg (show ¬ (98 : Int) = i_1.toInt by omega), Op.lookupswitch.offset_cons, if_neg (show ¬ (99 : Int) = i_1.toInt by omega), Op.lookupswitch.offset_cons, if_neg (show ¬ (101 : Int) = i_1.toInt by omega), Op.lookupswitch.offset_cons, if_neg (show ¬ (103 : Int) = i_1.toInt by omega), Op.lookupswitch.offset_cons, if_neg (show ¬ (105 : Int) = i_1.toInt by omega), Op.lookupswitch.offset_cons, if_neg (show ¬ (107 : Int) = i_1.toInt by omega), Op.lookupswitch.offset_cons, if_neg (show ¬ (108 : Int) = i_1.toInt by omega), Op.lookupswitch.offset_cons, if_neg (show ¬ (109 : Int) = i_1.toInt by omega), Op.lookupswitch.offset_cons, if_neg (show ¬ (112 : Int) = i_1.toInt by omega), Op.lookupswitch.offset_cons, if_neg (show ¬ (114 : Int) = i_1.toInt by omega), Op.lookupswitch.offset_cons, if_neg (show ¬ (115 : Int) = i_1.toInt by omega), Op.lookupswitch.offset_cons, if_neg (show ¬ (120 : Int) = i_1.toInt by omega)]; rfl) (by decide) ?_
    refine lv_aload_n hx hb d_Md_command_638 rfl (lv_at hl 0 rfl) ?_
    refine lv_iload_n hx hb d_Md_command_639 rfl (lv_at hl 1 rfl) ?_
    refine ux_callv (va_runV ⟨hx, hb, hml, hown, hts⟩ (s_Md_other l D ad cA A TB hA hB  Mc32 hI L hL (c32_2) hA2 i_1 (by omega) (by omega)) (cwV 1 hts (tb_goodV ml_Md_296 im_Md_other se_Md_other ii_Md kt_Md_other) rfl rfl rfl (by decide +kernel) ⟨Nat.le_of_ble_eq_true rfl, Nat.le_of_ble_eq_true rfl⟩) (ux_preV (by decide) rfl rfl hP hK hi hN) rfl rfl hl.1 rfl (lv_room (Nat.le_of_ble_eq_true rfl)) d_Md_command_640 ⟨Nat.zero_le _, Nat.zero_le _⟩) hS (fun M202 H locs q203 hP hS => ?_)
    obtain ⟨hI, fq203, q203p⟩ := q203
    have hF := fr_call hF fq203 (fun a b q => q)
    exact W.vret hx hb hr (fun t ht hW => ⟨⟨M202, rfl, ⟨hI, hF, (OutS_cong (by assumption) q203p)⟩, by unfold ux_E; rw [ht]; exact hP⟩, hS.F ht⟩) hS.2.2 d_Md_command_643
  refine lv_aload_n hx hb d_Md_command_0 rfl (lv_at hl 0 rfl) ?_
  refine ux_calli (va_runV ⟨hx, hb, hml, hown, hts⟩ (s_Md_spend l D ad cA A TB hA hB  M hI ) (cwV 0 hts (tb_goodV ml_Md_246 im_Md_spend se_Md_spend ii_Md kt_Md_spend) rfl rfl rfl (by decide +kernel) ⟨Nat.le_of_ble_eq_true rfl, Nat.le_of_ble_eq_true rfl⟩) (ux_preV (by decide) rfl rfl hP hK hi hN) rfl rfl hl.1 rfl (lv_room (Nat.le_of_ble_eq_true rfl)) d_Md_command_1 ⟨Nat.zero_le _, Nat.zero_le _⟩) hS (fun r204 M205 H locs q206 hP hS => ?_)
  obtain ⟨hI, fq206, q206p⟩ := q206
  have hF := fr_call hF fq206 (fun a b q => by unfold mSp at q; unfold mCm; omega)
  have hr_r204 : ¬ r204.toInt = 0 → r204 = 1 := fun z => by rcases q206p.1 with q | q; exact absurd (by rw [q]; rfl) z; exact q
  have hz_r204 : r204.toInt = 0 → r204 = 0 := fun z => by rcases q206p.1 with q | q; exact q; rw [q] at z; exact absurd z (by decide)
  refine lv_if_ne hx hb d_Md_command_4 rfl (fun h207 => ?_) (fun h207 => ?_)
  · have g207 : ¬ (r204.toInt = 0) := fun q => h207 (Int32.toInt_inj.mp q)
    obtain ⟨hs1, hs2⟩ := q206p.2.1 (hr_r204 (by omega))
    have hs48 := congrArg Int32.toInt (hs1 0 48 (by omega))
    have hs27 := congrArg Int32.toInt (hs1 0 27 (by omega))
    refine lv_aload_n hx hb d_Md_command_8 rfl (lv_at hl 0 rfl) ?_
    refine lv_iconst (v := 0) hx hb d_Md_command_9 (by decide) ?_
    refine ux_calli (va_runV ⟨hx, hb, hml, hown, hts⟩ (s_Md_sizeOf l D ad cA A TB hA hB  M205 hI L hL ((fq206 _ _ (by unfold mSp; omega)).trans (hlv)) 0 (by omega)) (cwV 1 hts (tb_goodV ml_Md_159 im_Md_sizeOf se_Md_sizeOf ii_Md kt_Md_sizeOf) rfl rfl rfl (by decide +kernel) ⟨Nat.le_of_ble_eq_true rfl, Nat.le_of_ble_eq_true rfl⟩) (ux_preV (by decide) rfl rfl hP hK hi hN) rfl rfl hl.1 rfl (lv_room (Nat.le_of_ble_eq_true rfl)) d_Md_command_10 ⟨Nat.zero_le _, Nat.zero_le _⟩) hS (fun r208 M209 H locs q210 hP hS => ?_)
    obtain ⟨hI, fq210, q210p⟩ := q210
    rw [tN_eq fq210] at hP hI
    obtain ⟨c211, hc211, ec211⟩ := nat_of (x := M205 19 (8 * L + 0)) (n := 200) (hI.1 _ _).1 (hI.1 _ _).2
    rw [ec211] at q210p
    subst q210p
    have tc211 : (M205 19 (8 * L + 0)).toInt = (c211 : Int) := by rw [ec211]; exact nI_toInt (by omega)
    refine lv_iconst (v := 1) hx hb d_Md_command_13 (by decide) ?_
    refine lv_icmp_ne hx hb d_Md_command_14 rfl (fun h212 => ?_) (fun h212 => ?_)
    · have g212 : ¬ (((c211 : Nat) : Int) = 1) := fun q => h212 (Int32.toInt_inj.mp (by rw [nI_toInt (n := c211) (by omega)]; exact q))
      refine lv_iconst (v := 0) hx hb d_Md_command_26 (by decide) ?_
      refine lv_istore_n hx hb d_Md_command_27 rfl hl (by decide) rfl (fun ls hl => ?_)
      have hl : lv_has ls 2 [(1, .int 0), (0, .ref (ad 0))] := hl
      refine lv_aload_n hx hb d_Md_command_28 rfl (lv_at hl 1 rfl) ?_
      refine ux_callv (va_runV ⟨hx, hb, hml, hown, hts⟩ (s_Md_nothing l D ad cA A TB hA hB  M205 hI ) (cwV 0 hts (tb_goodV ml_Md_138 im_Md_nothing se_Md_nothing ii_Md kt_Md_nothing) rfl rfl rfl (by decide +kernel) ⟨Nat.le_of_ble_eq_true rfl, Nat.le_of_ble_eq_true rfl⟩) (ux_preV (by decide) rfl rfl hP hK hi hN) rfl rfl hl.1 rfl (lv_room (Nat.le_of_ble_eq_true rfl)) d_Md_command_29 ⟨Nat.zero_le _, Nat.zero_le _⟩) hS (fun M214 H locs q215 hP hS => ?_)
      obtain ⟨hI, fq215, q215p⟩ := q215
      have hF := fr_call hF fq215 (fun a b q => by unfold mRe at q; unfold mCm; omega)
      exact cut32 0 M214 _ _ ls (show 0 ≤ 0 from by first | omega | assumption | exact Or.inl rfl | exact Or.inr rfl | rfl | decide) (show 0 ≤ 65535 from by first | omega | assumption | exact Or.inl rfl | exact Or.inr rfl | rfl | decide) (show M214 0 10 = nI L from by first | exact ((fq215 _ _ (by unfold mRe; omega)).trans ((fq206 _ _ (by unfold mSp; omega)).trans (hlv)))) (show (M214 0 48).toInt + 40 * ((M214 0 27).toInt - (M214 0 28).toInt) + 40 ≤ (TB : Int) from by first | (have := congrArg Int32.toInt (show M214 0 48 = M205 0 48 from fq215 _ _ (by unfold mRe; omega)); have := congrArg Int32.toInt (show M214 0 27 = M205 0 27 from fq215 _ _ (by unfold mRe; omega)); have := congrArg Int32.toInt (show M214 0 28 = M205 0 28 from fq215 _ _ (by unfold mRe; omega)); omega)) hP hI hF hS (lv_sub hl [1, 0] rfl)
    · have g212 : ((c211 : Nat) : Int) = 1 := by have q := congrArg Int32.toInt h212; rw [nI_toInt (n := c211) (by omega)] at q; exact q
      refine lv_aload_n hx hb d_Md_command_17 rfl (lv_at hl 0 rfl) ?_
      refine lv_iconst (v := 0) hx hb d_Md_command_18 (by decide) ?_
      refine lv_iconst (v := 0) hx hb d_Md_command_19 (by decide) ?_
      refine ux_calli (va_runV ⟨hx, hb, hml, hown, hts⟩ (s_Md_charOf l D ad cA A TB hA hB  M205 hI L hL ((fq206 _ _ (by unfold mSp; omega)).trans (hlv)) 0 0 (by omega) (by omega)) (cwV 2 hts (tb_goodV ml_Md_162 im_Md_charOf se_Md_charOf ii_Md kt_Md_charOf) rfl rfl rfl (by decide +kernel) ⟨Nat.le_of_ble_eq_true rfl, Nat.le_of_ble_eq_true rfl⟩) (ux_preV (by decide) rfl rfl hP hK hi hN) rfl rfl hl.1 rfl (lv_room (Nat.le_of_ble_eq_true rfl)) d_Md_command_20 ⟨Nat.zero_le _, Nat.zero_le _⟩) hS (fun r216 M217 H locs q218 hP hS => ?_)
      obtain ⟨hI, fq218, q218p⟩ := q218
      rw [tN_eq fq218] at hP hI
      obtain ⟨c219, hc219, ec219⟩ := nat_of (x := r216) (n := 65535) q218p.1.1 q218p.1.2
      have vc219 := q218p.2
      subst ec219
      have tc219 : (nI c219).toInt = (c219 : Int) := nI_toInt (by omega)
      refine lv_goto hx hb d_Md_command_23 rfl ?_
      refine lv_istore_n hx hb d_Md_command_27 rfl hl (by decide) rfl (fun ls hl => ?_)
      have hl : lv_has ls 2 [(1, .int (nI c219)), (0, .ref (ad 0))] := hl
      refine lv_aload_n hx hb d_Md_command_28 rfl (lv_at hl 1 rfl) ?_
      refine ux_callv (va_runV ⟨hx, hb, hml, hown, hts⟩ (s_Md_nothing l D ad cA A TB hA hB  M205 hI ) (cwV 0 hts (tb_goodV ml_Md_138 im_Md_nothing se_Md_nothing ii_Md kt_Md_nothing) rfl rfl rfl (by decide +kernel) ⟨Nat.le_of_ble_eq_true rfl, Nat.le_of_ble_eq_true rfl⟩) (ux_preV (by decide) rfl rfl hP hK hi hN) rfl rfl hl.1 rfl (lv_room (Nat.le_of_ble_eq_true rfl)) d_Md_command_29 ⟨Nat.zero_le _, Nat.zero_le _⟩) hS (fun M221 H locs q222 hP hS => ?_)
      obtain ⟨hI, fq222, q222p⟩ := q222
      have hF := fr_call hF fq222 (fun a b q => by unfold mRe at q; unfold mCm; omega)
      exact cut32 (nI c219) M221 _ _ ls (show 0 ≤ (nI c219).toInt from by first | omega | assumption | exact Or.inl rfl | exact Or.inr rfl | rfl | decide) (show (nI c219).toInt ≤ 65535 from by first | omega | assumption | exact Or.inl rfl | exact Or.inr rfl | rfl | decide) (show M221 0 10 = nI L from by first | exact ((fq222 _ _ (by unfold mRe; omega)).trans ((fq206 _ _ (by unfold mSp; omega)).trans (hlv)))) (show (M221 0 48).toInt + 40 * ((M221 0 27).toInt - (M221 0 28).toInt) + 40 ≤ (TB : Int) from by first | (have := congrArg Int32.toInt (show M221 0 48 = M205 0 48 from fq222 _ _ (by unfold mRe; omega)); have := congrArg Int32.toInt (show M221 0 27 = M205 0 27 from fq222 _ _ (by unfold mRe; omega)); have := congrArg Int32.toInt (show M221 0 28 = M205 0 28 from fq222 _ _ (by unfold mRe; omega)); omega)) hP hI hF hS (lv_sub hl [1, 0] rfl)
  · have g207 : r204.toInt = 0 := congrArg Int32.toInt h207
    exact W.vret hx hb hr (fun t ht hW => ⟨⟨M205, rfl, ⟨hI, hF, Or.inl ⟨((fq206 _ _ (by unfold mSp; omega)).trans (hlv)), (q206p.2.2 (hz_r204 (by omega))).1⟩⟩, by unfold ux_E; rw [ht]; exact hP⟩, hS.F ht⟩) hS.2.2 d_Md_command_7
