/-! The reference, safe: what a command leaves; written by wip/gen/ref.py -/
def mCm (L a b : Nat) : Prop := (a = 0 ∧ b ≠ 1 ∧ b ≠ 2 ∧ b ≠ 27 ∧ b ≠ 39) ∨ (2 ≤ a ∧ a ≤ 8) ∨ (9 ≤ a ∧ a ≤ 15 ∧ b = L + 1) ∨ (21 ≤ a ∧ a ≤ 25) ∨ 30 ≤ a
def UpS (M M1 : ux_M) (L : Nat) : Prop := ¬ M1 11 (L + 1) = 1 ∧ (M1 11 (L + 1) = 3 → ¬ M 17 (8 * L + 1) = 0 ∧ ¬ M 17 (8 * L + 2) = 0) ∧ (M1 11 (L + 1) = 5 → (M 14 L).toInt = 3 → nmK M (8 * L + 2) 97)
def OutS (M M1 : ux_M) (L : Nat) : Prop := (M1 0 10 = nI L ∧ M1 0 23 = 1) ∨ (L ≤ 6 ∧ M1 0 10 = nI (L + 1) ∧ M1 0 23 = 0 ∧ M1 13 (L + 1) = 0 ∧ M1 14 (L + 1) = 0 ∧ (M1 9 (L + 1)).toInt ≤ 200 ∧ UpS M M1 L)
theorem OutS_cong {M0 M M1 : ux_M} {L : Nat} (h : ∀ a b, ¬ mCm L a b → M a b = M0 a b) (q : OutS M M1 L) : OutS M0 M1 L := by
  rcases q with q | ⟨h1, h2, h3, h4, h5, h6, u1, u2, u3⟩
  · exact Or.inl q
  · refine Or.inr ⟨h1, h2, h3, h4, h5, h6, u1, fun z => ?_, fun z z2 => ?_⟩
    · rw [← h 17 (8 * L + 1) (by unfold mCm; omega), ← h 17 (8 * L + 2) (by unfold mCm; omega)]
      exact u2 z
    · exact nmK_cong (fun a b q => (h a b (by unfold mCm; omega)).symm) (u3 z (by rw [h 14 L (by unfold mCm; omega)]; exact z2))
theorem OutS_en {M M1 : ux_M} {L lo1 : Nat} {rs r : Int32} (hlv : M 0 10 = nI L) (hlo : lo1 ≤ 200) (h1 : ¬ rs.toInt = 1) (h3 : rs.toInt = 3 → ¬ M 17 (8 * L + 1) = 0 ∧ ¬ M 17 (8 * L + 2) = 0) (h5 : rs.toInt = 5 → (M 14 L).toInt = 3 → nmK M (8 * L + 2) 97) (h : (r = 1 ∧ L ≤ 6 ∧ M1 0 10 = nI (L + 1) ∧ M1 0 23 = 0 ∧ M1 11 (L + 1) = rs ∧ M1 13 (L + 1) = 0 ∧ M1 14 (L + 1) = 0 ∧ M1 9 (L + 1) = nI lo1 ∧ (∀ a b, ¬ mE1 L a b → M1 a b = M a b)) ∨ (r = 0 ∧ M1 0 23 = 1 ∧ (M1 0 24 = 1 ∨ (M1 0 24 = 0 ∧ rs.toInt = 5)) ∧ (∀ a b, ¬ mE0 a b → M1 a b = M a b))) : (r = 0 ∨ r = 1) ∧ OutS M M1 L := by
  rcases h with ⟨e, h6, a1, a2, a3, a4, a5, a6, _⟩ | ⟨e, b1, _, b3⟩
  · refine ⟨Or.inr e, Or.inr ⟨h6, a1, a2, a4, a5, by rw [a6, nI_toInt (by omega)]; omega, ?_⟩⟩
    unfold UpS
    rw [a3]
    exact ⟨fun q => h1 (by rw [q]; rfl), fun q => h3 (by rw [q]; rfl), fun q => h5 (by rw [q]; rfl)⟩
  · exact ⟨Or.inl e, Or.inl ⟨(b3 _ _ (by unfold mE0; omega)).trans hlv, b1⟩⟩

set_option maxHeartbeats 1600000 in
set_option maxRecDepth 100000 in
theorem s_Md_enterWord (l : Launch) (D : va_G) (ad : Nat → Nat) (cA : Nat → ClassId) (A TB : Nat) (hA : A ≤ 100000000) (hB : TB ≤ 2000000000) (M : ux_M) (hI : IvM A TB M) (L : Nat) (hL : L ≤ 7) (hlv : M 0 10 = nI L) (hA2 : 200 ≤ A) (w : Nat) (hw : w ≤ 7) (hbr : ¬ M 17 (8 * L + w) = 0) (rs : Int32) (hr1 : ¬ rs.toInt = 1) (hr3 : rs.toInt = 3 → ¬ M 17 (8 * L + 1) = 0 ∧ ¬ M 17 (8 * L + 2) = 0) (hcg : rs.toInt = 5 → (M 14 L).toInt = 3 → nmK M (8 * L + 2) 97) : Met l y_Md_enterWord w_Md_enterWord ({ frames := 5, cells := 0, slots := 0, locals := 111 }) (va_Pc [.ref (ad 0), .int (nI w), .int rs] (ux_B D shM KM ad cA M)) (va_Qi (fun r M1 => IvM A TB M1 ∧ (∀ a b, ¬ (mCm L) a b → M1 a b = M a b) ∧ ((r = 0 ∨ r = 1) ∧ OutS M M1 L)) (ux_E D shM KM ad cA) (ux_A KM ad)) 0 0 (ux_A KM ad) := by
  refine Met.ofW (cc := b_Md_enterWord) (maxL := 4) (ret := (some .boolean)) (by decide) rfl ?_
  intro p e s m args below meth c s₁ B hml hv
  obtain ⟨rfl, hP, hK, hi, hN⟩ := hv
  have hx := B.exec
  have hb := B.bytes
  have hr := B.returns
  have hts := atoms_spec (ws := w_Md_enterWord) B.pre
  have hown : s.vm.findClass R_Md = some m.cls := findClass_of_methodNamed B.named
  have hlocks := B.notSynchronized
  have hT : ∀ w ∈ tb, w.before _ s = true := fun w h => hts w (List.mem_cons_of_mem _ h)
  have hS : va_S (ux_A KM ad) s.heap s.heap [] := va_S.rf
  have hl := lv_entry ([.ref (ad 0), .int (nI w), .int rs]) (n := 4) (Nat.le_of_ble_eq_true rfl)
  rw [lg_entry_eq]
  generalize (lg_sl ([.ref (ad 0), .int (nI w), .int rs]) ++ List.replicate (4 - (lg_sl ([.ref (ad 0), .int (nI w), .int rs])).length) Slot.unset).toArray = ls at hl ⊢
  have hl : lv_has ls 4 [(0, .ref (ad 0)), (1, .int (nI w)), (2, .int rs)] := hl
  have hF : ∀ a b, ¬ (mCm L) a b → M a b = M a b := fun _ _ _ => rfl
  refine lv_aload_n hx hb d_Md_enterWord_0 rfl (lv_at hl 0 rfl) ?_
  refine lv_iload_n hx hb d_Md_enterWord_1 rfl (lv_at hl 1 rfl) ?_
  refine ux_calli (va_runV ⟨hx, hb, hml, hown, hts⟩ (s_Md_word l D ad cA A TB hA hB  M hI L hL (hlv) w) (cwV 1 hts (tb_goodV ml_Md_155 im_Md_word se_Md_word ii_Md kt_Md_word) rfl rfl rfl (by decide +kernel) ⟨Nat.le_of_ble_eq_true rfl, Nat.le_of_ble_eq_true rfl⟩) (ux_preV (by decide) rfl rfl hP hK hi hN) rfl rfl hl.1 rfl (lv_room (Nat.le_of_ble_eq_true rfl)) d_Md_enterWord_2 ⟨Nat.zero_le _, Nat.zero_le _⟩) hS (fun r1 M2 H locs q3 hP hS => ?_)
  obtain ⟨hI, fq3, q3p⟩ := q3
  rw [tN_eq fq3] at hP hI
  subst q3p
  refine lv_istore_n hx hb d_Md_enterWord_5 rfl hl (by decide) rfl (fun ls hl => ?_)
  have hl : lv_has ls 4 [(3, .int (nI (8 * L + w))), (0, .ref (ad 0)), (1, .int (nI w)), (2, .int rs)] := hl
  have hwd := (hI.2.1 (8 * L + w) (by omega)).2 hbr
  refine lv_aload_n hx hb d_Md_enterWord_6 rfl (lv_at hl 1 rfl) ?_
  refine lv_aload_n hx hb d_Md_enterWord_7 rfl (lv_at hl 1 rfl) ?_
  refine ux_get (C := R_Md) (T := F_Md) (N := 50) hx hb hT in_Md hown hK hP (by decide) rfl rfl 20 (by decide) (hT _ fl_Md_67) rfl d_Md_enterWord_8 ?_
  refine lv_iload_n hx hb d_Md_enterWord_11 rfl (lv_at hl 0 rfl) ?_
  refine ux_iald hx hb hK hP (by decide) rfl (vp_in_nI (show 8 * L + w < 65 by omega) (by decide)) d_Md_enterWord_12 ?_
  rw [nI_clamp (n := 8 * L + w) (by omega)]
  refine lv_topi (fun z5 hz5 => ?_)
  obtain ⟨c4, hc4, ec4⟩ := nat_of (x := M 18 (8 * L + w)) (n := 200) (hI.1 18 (8 * L + w)).1 (hI.1 18 (8 * L + w)).2
  rw [ec4] at hz5
  rw [hz5]
  have tc4 : (M 18 (8 * L + w)).toInt = (c4 : Int) := by rw [ec4]; exact nI_toInt (by omega)
  refine lv_aload_n hx hb d_Md_enterWord_13 rfl (lv_at hl 1 rfl) ?_
  refine ux_get (C := R_Md) (T := F_Md) (N := 50) hx hb hT in_Md hown hK hP (by decide) rfl rfl 20 (by decide) (hT _ fl_Md_67) rfl d_Md_enterWord_14 ?_
  refine lv_iload_n hx hb d_Md_enterWord_17 rfl (lv_at hl 0 rfl) ?_
  refine ux_iald hx hb hK hP (by decide) rfl (vp_in_nI (show 8 * L + w < 65 by omega) (by decide)) d_Md_enterWord_18 ?_
  rw [nI_clamp (n := 8 * L + w) (by omega)]
  refine lv_topi (fun z6 hz6 => ?_)
  rw [show M 18 (8 * L + w) = nI c4 from ec4] at hz6
  rw [hz6]
  refine lv_aload_n hx hb d_Md_enterWord_19 rfl (lv_at hl 1 rfl) ?_
  refine ux_get (C := R_Md) (T := F_Md) (N := 50) hx hb hT in_Md hown hK hP (by decide) rfl rfl 21 (by decide) (hT _ fl_Md_70) rfl d_Md_enterWord_20 ?_
  refine lv_iload_n hx hb d_Md_enterWord_23 rfl (lv_at hl 0 rfl) ?_
  refine ux_iald hx hb hK hP (by decide) rfl (vp_in_nI (show 8 * L + w < 65 by omega) (by decide)) d_Md_enterWord_24 ?_
  rw [nI_clamp (n := 8 * L + w) (by omega)]
  refine lv_topi (fun z8 hz8 => ?_)
  obtain ⟨c7, hc7, ec7⟩ := nat_of (x := M 19 (8 * L + w)) (n := 200) (hI.1 19 (8 * L + w)).1 (hI.1 19 (8 * L + w)).2
  rw [ec7] at hz8
  rw [hz8]
  have tc7 : (M 19 (8 * L + w)).toInt = (c7 : Int) := by rw [ec7]; exact nI_toInt (by omega)
  refine lv_iadd hx hb d_Md_enterWord_25 ?_
  refine lv_topi (fun z9 hz9 => ?_)
  rw [show (nI c4) + (nI c7) = nI (c4 + c7) from nI_add c4 c7] at hz9
  rw [hz9]
  refine lv_iload_n hx hb d_Md_enterWord_26 rfl (lv_at hl 3 rfl) ?_
  refine ux_calli (va_runV ⟨hx, hb, hml, hown, hts⟩ (s_Md_enter l D ad cA A TB hA hB  M hI L hL (hlv) c4 (c4 + c7) (by omega) (by omega) rs hcg) (cwV 3 hts (tb_goodV ml_Md_173 im_Md_enter se_Md_enter ii_Md kt_Md_enter) rfl rfl rfl (by decide +kernel) ⟨Nat.le_of_ble_eq_true rfl, Nat.le_of_ble_eq_true rfl⟩) (ux_preV (by decide) rfl rfl hP hK hi hN) rfl rfl hl.1 rfl (lv_room (Nat.le_of_ble_eq_true rfl)) d_Md_enterWord_27 ⟨Nat.zero_le _, Nat.zero_le _⟩) hS (fun r10 M11 H locs q12 hP hS => ?_)
  obtain ⟨hI, fq12, q12p⟩ := q12
  have hF := fr_call hF fq12 (fun a b q => by unfold mEn at q; unfold mCm; omega)
  have q12b : r10 = 0 ∨ r10 = 1 := by rcases q12p with ⟨q, _⟩ | ⟨q, _⟩; exact Or.inr q; exact Or.inl q
  exact W.zret (v := r10) hx hb hr (nb_n (by first | assumption | omega)) (fun t ht hW => ⟨⟨r10, M11, rfl, ⟨hI, hF, OutS_en hlv (by omega) hr1 hr3 hcg q12p⟩, by unfold ux_E; rw [ht]; exact hP⟩, hS.F ht⟩) hS.2.2 d_Md_enterWord_30

set_option maxHeartbeats 1600000 in
set_option maxRecDepth 100000 in
theorem s_Md_measure (l : Launch) (D : va_G) (ad : Nat → Nat) (cA : Nat → ClassId) (A TB : Nat) (hA : A ≤ 100000000) (hB : TB ≤ 2000000000) (M : ux_M) (hI : IvM A TB M) (L : Nat) (hL : L ≤ 7) (hlv : M 0 10 = nI L) : Met l y_Md_measure w_Md_measure ({ frames := 2, cells := 0, slots := 0, locals := 47 }) (va_Pc [.ref (ad 0)] (ux_B D shM KM ad cA M)) (va_Qv (fun M1 => IvM A TB M1 ∧ (∀ a b, ¬ (mCm L) a b → M1 a b = M a b) ∧ (OutS M M1 L)) (ux_E D shM KM ad cA) (ux_A KM ad)) 0 0 (ux_A KM ad) := by
  refine Met.ofW (cc := b_Md_measure) (maxL := 2) (ret := none) (by decide) rfl ?_
  intro p e s m args below meth c s₁ B hml hv
  obtain ⟨rfl, hP, hK, hi, hN⟩ := hv
  have hx := B.exec
  have hb := B.bytes
  have hr := B.returns
  have hts := atoms_spec (ws := w_Md_measure) B.pre
  have hown : s.vm.findClass R_Md = some m.cls := findClass_of_methodNamed B.named
  have hlocks := B.notSynchronized
  have hT : ∀ w ∈ tb, w.before _ s = true := fun w h => hts w (List.mem_cons_of_mem _ h)
  have hS : va_S (ux_A KM ad) s.heap s.heap [] := va_S.rf
  have hl := lv_entry ([.ref (ad 0)]) (n := 2) (Nat.le_of_ble_eq_true rfl)
  rw [lg_entry_eq]
  generalize (lg_sl ([.ref (ad 0)]) ++ List.replicate (2 - (lg_sl ([.ref (ad 0)])).length) Slot.unset).toArray = ls at hl ⊢
  have hl : lv_has ls 2 [(0, .ref (ad 0))] := hl
  have hF : ∀ a b, ¬ (mCm L) a b → M a b = M a b := fun _ _ _ => rfl
  refine lv_aload_n hx hb d_Md_measure_0 rfl (lv_at hl 0 rfl) ?_
  refine lv_iconst (v := 1) hx hb d_Md_measure_1 (by decide) ?_
  refine ux_calli (va_runV ⟨hx, hb, hml, hown, hts⟩ (s_Md_sizeOf l D ad cA A TB hA hB  M hI L hL (hlv) 1 (by omega)) (cwV 1 hts (tb_goodV ml_Md_159 im_Md_sizeOf se_Md_sizeOf ii_Md kt_Md_sizeOf) rfl rfl rfl (by decide +kernel) ⟨Nat.le_of_ble_eq_true rfl, Nat.le_of_ble_eq_true rfl⟩) (ux_preV (by decide) rfl rfl hP hK hi hN) rfl rfl hl.1 rfl (lv_room (Nat.le_of_ble_eq_true rfl)) d_Md_measure_2 ⟨Nat.zero_le _, Nat.zero_le _⟩) hS (fun r1 M2 H locs q3 hP hS => ?_)
  obtain ⟨hI, fq3, q3p⟩ := q3
  rw [tN_eq fq3] at hP hI
  obtain ⟨c4, hc4, ec4⟩ := nat_of (x := M 19 (8 * L + 1)) (n := 200) (hI.1 _ _).1 (hI.1 _ _).2
  rw [ec4] at q3p
  subst q3p
  have tc4 : (M 19 (8 * L + 1)).toInt = (c4 : Int) := by rw [ec4]; exact nI_toInt (by omega)
  refine lv_istore_n hx hb d_Md_measure_5 rfl hl (by decide) rfl (fun ls hl => ?_)
  have hl : lv_has ls 2 [(1, .int (nI c4)), (0, .ref (ad 0))] := hl
  refine lv_aload_n hx hb d_Md_measure_6 rfl (lv_at hl 1 rfl) ?_
  refine lv_iload_n hx hb d_Md_measure_7 rfl (lv_at hl 0 rfl) ?_
  refine ux_callv (va_runV ⟨hx, hb, hml, hown, hts⟩ (s_Md_number l D ad cA A TB hA hB  M hI (nI c4)) (cwV 1 hts (tb_goodV ml_Md_226 im_Md_number se_Md_number ii_Md kt_Md_number) rfl rfl rfl (by decide +kernel) ⟨Nat.le_of_ble_eq_true rfl, Nat.le_of_ble_eq_true rfl⟩) (ux_preV (by decide) rfl rfl hP hK hi hN) rfl rfl hl.1 rfl (lv_room (Nat.le_of_ble_eq_true rfl)) d_Md_measure_8 ⟨Nat.zero_le _, Nat.zero_le _⟩) hS (fun M6 H locs q7 hP hS => ?_)
  obtain ⟨hI, fq7, q7p⟩ := q7
  have hF := fr_call hF fq7 (fun a b q => by unfold mRe at q; unfold mCm; omega)
  refine lv_aload_n hx hb d_Md_measure_11 rfl (lv_at hl 1 rfl) ?_
  refine lv_iconst (v := 0) hx hb d_Md_measure_12 (by decide) ?_
  refine ux_callv (va_runV ⟨hx, hb, hml, hown, hts⟩ (s_Md_done l D ad cA A TB hA hB  M6 hI 0) (cwV 1 hts (tb_goodV ml_Md_235 im_Md_done se_Md_done ii_Md kt_Md_done) rfl rfl rfl (by decide +kernel) ⟨Nat.le_of_ble_eq_true rfl, Nat.le_of_ble_eq_true rfl⟩) (ux_preV (by decide) rfl rfl hP hK hi hN) rfl rfl hl.1 rfl (lv_room (Nat.le_of_ble_eq_true rfl)) d_Md_measure_13 ⟨Nat.zero_le _, Nat.zero_le _⟩) hS (fun M9 H locs q10 hP hS => ?_)
  obtain ⟨hI, fq10, q10p⟩ := q10
  have hF := fr_call hF fq10 (fun a b q => by unfold mDn at q; unfold mCm; omega)
  exact W.vret hx hb hr (fun t ht hW => ⟨⟨M9, rfl, ⟨hI, hF, Or.inl ⟨((fq10 _ _ (by unfold mDn; omega)).trans ((fq7 _ _ (by unfold mRe; omega)).trans (hlv))), q10p.1⟩⟩, by unfold ux_E; rw [ht]; exact hP⟩, hS.F ht⟩) hS.2.2 d_Md_measure_16

set_option maxHeartbeats 1600000 in
set_option maxRecDepth 100000 in
theorem s_Md_answer (l : Launch) (D : va_G) (ad : Nat → Nat) (cA : Nat → ClassId) (A TB : Nat) (hA : A ≤ 100000000) (hB : TB ≤ 2000000000) (M : ux_M) (hI : IvM A TB M) (L : Nat) (hL : L ≤ 7) (hlv : M 0 10 = nI L) (co : Int32) (hx1 : (M 19 (8 * L + 1)).toInt ≤ 20) : Met l y_Md_answer w_Md_answer ({ frames := 3, cells := 0, slots := 0, locals := 67 }) (va_Pc [.ref (ad 0), .int co] (ux_B D shM KM ad cA M)) (va_Qv (fun M1 => IvM A TB M1 ∧ (∀ a b, ¬ (mCm L) a b → M1 a b = M a b) ∧ (OutS M M1 L)) (ux_E D shM KM ad cA) (ux_A KM ad)) 0 0 (ux_A KM ad) := by
  refine Met.ofW (cc := b_Md_answer) (maxL := 2) (ret := none) (by decide) rfl ?_
  intro p e s m args below meth c s₁ B hml hv
  obtain ⟨rfl, hP, hK, hi, hN⟩ := hv
  have hx := B.exec
  have hb := B.bytes
  have hr := B.returns
  have hts := atoms_spec (ws := w_Md_answer) B.pre
  have hown : s.vm.findClass R_Md = some m.cls := findClass_of_methodNamed B.named
  have hlocks := B.notSynchronized
  have hT : ∀ w ∈ tb, w.before _ s = true := fun w h => hts w (List.mem_cons_of_mem _ h)
  have hS : va_S (ux_A KM ad) s.heap s.heap [] := va_S.rf
  have hl := lv_entry ([.ref (ad 0), .int co]) (n := 2) (Nat.le_of_ble_eq_true rfl)
  rw [lg_entry_eq]
  generalize (lg_sl ([.ref (ad 0), .int co]) ++ List.replicate (2 - (lg_sl ([.ref (ad 0), .int co])).length) Slot.unset).toArray = ls at hl ⊢
  have hl : lv_has ls 2 [(0, .ref (ad 0)), (1, .int co)] := hl
  have hF : ∀ a b, ¬ (mCm L) a b → M a b = M a b := fun _ _ _ => rfl
  refine lv_aload_n hx hb d_Md_answer_0 rfl (lv_at hl 0 rfl) ?_
  refine lv_iconst (v := 1) hx hb d_Md_answer_1 (by decide) ?_
  refine ux_callv (va_runV ⟨hx, hb, hml, hown, hts⟩ (s_Md_take l D ad cA A TB hA hB  M hI L hL (hlv) 1 (by omega) (by omega)) (cwV 1 hts (tb_goodV ml_Md_302 im_Md_take se_Md_take ii_Md kt_Md_take) rfl rfl rfl (by decide +kernel) ⟨Nat.le_of_ble_eq_true rfl, Nat.le_of_ble_eq_true rfl⟩) (ux_preV (by decide) rfl rfl hP hK hi hN) rfl rfl hl.1 rfl (lv_room (Nat.le_of_ble_eq_true rfl)) d_Md_answer_2 ⟨Nat.zero_le _, Nat.zero_le _⟩) hS (fun M2 H locs q3 hP hS => ?_)
  obtain ⟨hI, fq3, q3p⟩ := q3
  have hF := fr_call hF fq3 (fun a b q => by unfold mRe at q; unfold mCm; omega)
  refine lv_aload_n hx hb d_Md_answer_5 rfl (lv_at hl 0 rfl) ?_
  refine lv_iload_n hx hb d_Md_answer_6 rfl (lv_at hl 1 rfl) ?_
  refine ux_callv (va_runV ⟨hx, hb, hml, hown, hts⟩ (s_Md_done l D ad cA A TB hA hB  M2 hI co) (cwV 1 hts (tb_goodV ml_Md_235 im_Md_done se_Md_done ii_Md kt_Md_done) rfl rfl rfl (by decide +kernel) ⟨Nat.le_of_ble_eq_true rfl, Nat.le_of_ble_eq_true rfl⟩) (ux_preV (by decide) rfl rfl hP hK hi hN) rfl rfl hl.1 rfl (lv_room (Nat.le_of_ble_eq_true rfl)) d_Md_answer_7 ⟨Nat.zero_le _, Nat.zero_le _⟩) hS (fun M5 H locs q6 hP hS => ?_)
  obtain ⟨hI, fq6, q6p⟩ := q6
  have hF := fr_call hF fq6 (fun a b q => by unfold mDn at q; unfold mCm; omega)
  exact W.vret hx hb hr (fun t ht hW => ⟨⟨M5, rfl, ⟨hI, hF, Or.inl ⟨((fq6 _ _ (by unfold mDn; omega)).trans ((fq3 _ _ (by unfold mRe; omega)).trans (hlv))), q6p.1⟩⟩, by unfold ux_E; rw [ht]; exact hP⟩, hS.F ht⟩) hS.2.2 d_Md_answer_10

set_option maxHeartbeats 1600000 in
set_option maxRecDepth 100000 in
theorem s_Md_link (l : Launch) (D : va_G) (ad : Nat → Nat) (cA : Nat → ClassId) (A TB : Nat) (hA : A ≤ 100000000) (hB : TB ≤ 2000000000) (M : ux_M) (hI : IvM A TB M) (L : Nat) (hL : L ≤ 7) (hlv : M 0 10 = nI L) (nm : Nat) (hnm : nm ≤ 25) : Met l y_Md_link w_Md_link ({ frames := 1, cells := 0, slots := 0, locals := 21 }) (va_Pc [.ref (ad 0), .int (nI nm)] (ux_B D shM KM ad cA M)) (va_Qv (fun M1 => IvM A TB M1 ∧ (∀ a b, ¬ (mCm L) a b → M1 a b = M a b) ∧ (OutS M M1 L)) (ux_E D shM KM ad cA) (ux_A KM ad)) 0 0 (ux_A KM ad) := by
  refine Met.ofW (cc := b_Md_link) (maxL := 2) (ret := none) (by decide) rfl ?_
  intro p e s m args below meth c s₁ B hml hv
  obtain ⟨rfl, hP, hK, hi, hN⟩ := hv
  have hx := B.exec
  have hb := B.bytes
  have hr := B.returns
  have hts := atoms_spec (ws := w_Md_link) B.pre
  have hown : s.vm.findClass R_Md = some m.cls := findClass_of_methodNamed B.named
  have hlocks := B.notSynchronized
  have hT : ∀ w ∈ tb, w.before _ s = true := fun w h => hts w (List.mem_cons_of_mem _ h)
  have hS : va_S (ux_A KM ad) s.heap s.heap [] := va_S.rf
  have hl := lv_entry ([.ref (ad 0), .int (nI nm)]) (n := 2) (Nat.le_of_ble_eq_true rfl)
  rw [lg_entry_eq]
  generalize (lg_sl ([.ref (ad 0), .int (nI nm)]) ++ List.replicate (2 - (lg_sl ([.ref (ad 0), .int (nI nm)])).length) Slot.unset).toArray = ls at hl ⊢
  have hl : lv_has ls 2 [(0, .ref (ad 0)), (1, .int (nI nm))] := hl
  have hF : ∀ a b, ¬ (mCm L) a b → M a b = M a b := fun _ _ _ => rfl
  refine lv_aload_n hx hb d_Md_link_0 rfl (lv_at hl 0 rfl) ?_
  refine ux_get (C := R_Md) (T := F_Md) (N := 50) hx hb hT in_Md hown hK hP (by decide) rfl rfl 14 (by decide) (hT _ fl_Md_49) rfl d_Md_link_1 ?_
  refine lv_aload_n hx hb d_Md_link_4 rfl (lv_at hl 0 rfl) ?_
  refine ux_get (C := R_Md) (T := F_Md) (N := 50) hx hb hT in_Md hown hK hP (by decide) rfl rfl 10 (by decide) (hT _ fl_Md_36) rfl d_Md_link_5 ?_
  refine lv_topi (fun z1 hz1 => ?_)
  rw [show M 0 10 = nI L from hlv] at hz1
  rw [hz1]
  refine ux_iald hx hb hK hP (by decide) rfl (vp_in_nI (show L < 8 by omega) (by decide)) d_Md_link_8 ?_
  rw [nI_clamp (n := L) (by omega)]
  refine lv_topi (fun z3 hz3 => ?_)
  obtain ⟨c2, hc2, ec2⟩ := nat_of (x := M 12 L) (n := 7) (hI.1 12 L).1 (hI.1 12 L).2
  rw [ec2] at hz3
  rw [hz3]
  have tc2 : (M 12 L).toInt = (c2 : Int) := by rw [ec2]; exact nI_toInt (by omega)
  refine lv_if_le hx hb d_Md_link_9 rfl (fun h4 => ?_) (fun h4 => ?_)
  · have g4 : ((c2 : Nat) : Int) ≤ 0 := by have q := Int32.le_iff_toInt_le.mp h4; rw [nI_toInt (n := c2) (by omega)] at q; exact q
    refine lv_aload_n hx hb d_Md_link_32 rfl (lv_at hl 0 rfl) ?_
    refine lv_iconst (v := 0) hx hb d_Md_link_33 (by decide) ?_
    refine ux_callv (va_runV ⟨hx, hb, hml, hown, hts⟩ (s_Md_done l D ad cA A TB hA hB  M hI 0) (cwV 1 hts (tb_goodV ml_Md_235 im_Md_done se_Md_done ii_Md kt_Md_done) rfl rfl rfl (by decide +kernel) ⟨Nat.le_of_ble_eq_true rfl, Nat.le_of_ble_eq_true rfl⟩) (ux_preV (by decide) rfl rfl hP hK hi hN) rfl rfl hl.1 rfl (lv_room (Nat.le_of_ble_eq_true rfl)) d_Md_link_34 ⟨Nat.zero_le _, Nat.zero_le _⟩) hS (fun M6 H locs q7 hP hS => ?_)
    obtain ⟨hI, fq7, q7p⟩ := q7
    have hF := fr_call hF fq7 (fun a b q => by unfold mDn at q; unfold mCm; omega)
    exact W.vret hx hb hr (fun t ht hW => ⟨⟨M6, rfl, ⟨hI, hF, Or.inl ⟨((fq7 _ _ (by unfold mDn; omega)).trans (hlv)), q7p.1⟩⟩, by unfold ux_E; rw [ht]; exact hP⟩, hS.F ht⟩) hS.2.2 d_Md_link_37
  · have g4 : ¬ (((c2 : Nat) : Int) ≤ 0) := fun q => h4 (Int32.le_iff_toInt_le.mpr (by rw [nI_toInt (n := c2) (by omega)]; exact q))
    refine lv_aload_n hx hb d_Md_link_12 rfl (lv_at hl 0 rfl) ?_
    refine ux_get (C := R_Md) (T := F_Md) (N := 50) hx hb hT in_Md hown hK hP (by decide) rfl rfl 5 (by decide) (hT _ fl_Md_20) rfl d_Md_link_13 ?_
    refine lv_bipush (v := 26) hx hb d_Md_link_16 (by decide) ?_
    refine lv_aload_n hx hb d_Md_link_18 rfl (lv_at hl 0 rfl) ?_
    refine ux_get (C := R_Md) (T := F_Md) (N := 50) hx hb hT in_Md hown hK hP (by decide) rfl rfl 14 (by decide) (hT _ fl_Md_49) rfl d_Md_link_19 ?_
    refine lv_aload_n hx hb d_Md_link_22 rfl (lv_at hl 0 rfl) ?_
    refine ux_get (C := R_Md) (T := F_Md) (N := 50) hx hb hT in_Md hown hK hP (by decide) rfl rfl 10 (by decide) (hT _ fl_Md_36) rfl d_Md_link_23 ?_
    refine lv_topi (fun z8 hz8 => ?_)
    rw [show M 0 10 = nI L from hlv] at hz8
    rw [hz8]
    refine ux_iald hx hb hK hP (by decide) rfl (vp_in_nI (show L < 8 by omega) (by decide)) d_Md_link_26 ?_
    rw [nI_clamp (n := L) (by omega)]
    refine lv_topi (fun z9 hz9 => ?_)
    rw [show M 12 L = nI c2 from ec2] at hz9
    rw [hz9]
    refine lv_imul hx hb d_Md_link_27 ?_
    refine lv_topi (fun z10 hz10 => ?_)
    rw [show (26 : Int32) * (nI c2) = nI (26 * c2) from pk_mul 26 c2] at hz10
    rw [hz10]
    refine lv_iload_n hx hb d_Md_link_28 rfl (lv_at hl 1 rfl) ?_
    refine lv_iadd hx hb d_Md_link_29 ?_
    refine lv_topi (fun z11 hz11 => ?_)
    rw [show (nI (26 * c2)) + (nI nm) = nI ((26 * c2) + nm) from nI_add (26 * c2) nm] at hz11
    rw [hz11]
    refine lv_iconst (v := 1) hx hb d_Md_link_30 (by decide) ?_
    refine ux_zast hx hb hK hi hP hS (by decide) rfl (vp_in_nI (show (26 * c2) + nm < 208 by omega) (by decide)) d_Md_link_31 (fun H locs hP hS => ?_)
    rw [show vp_nar .boolean 1 = 1 from rfl] at hP
    rw [nI_clamp (n := (26 * c2) + nm) (by omega)] at hP
    have hI := IvM_free (k := 4) (j := (26 * c2) + nm) (v := 1) hI rfl rfl (by unfold okW; omega)
    have hF := fr_wr (k := 4) (j := (26 * c2) + nm) (v := 1) hF (by unfold mCm; omega)
    generalize eM12 : ux_wr M 4 ((26 * c2) + nm) 1 = M12 at hP hI hF
    refine lv_aload_n hx hb d_Md_link_32 rfl (lv_at hl 0 rfl) ?_
    refine lv_iconst (v := 0) hx hb d_Md_link_33 (by decide) ?_
    refine ux_callv (va_runV ⟨hx, hb, hml, hown, hts⟩ (s_Md_done l D ad cA A TB hA hB  M12 hI 0) (cwV 1 hts (tb_goodV ml_Md_235 im_Md_done se_Md_done ii_Md kt_Md_done) rfl rfl rfl (by decide +kernel) ⟨Nat.le_of_ble_eq_true rfl, Nat.le_of_ble_eq_true rfl⟩) (ux_preV (by decide) rfl rfl hP hK hi hN) rfl rfl hl.1 rfl (lv_room (Nat.le_of_ble_eq_true rfl)) d_Md_link_34 ⟨Nat.zero_le _, Nat.zero_le _⟩) hS (fun M14 H locs q15 hP hS => ?_)
    obtain ⟨hI, fq15, q15p⟩ := q15
    have hF := fr_call hF fq15 (fun a b q => by unfold mDn at q; unfold mCm; omega)
    exact W.vret hx hb hr (fun t ht hW => ⟨⟨M14, rfl, ⟨hI, hF, Or.inl ⟨((fq15 _ _ (by unfold mDn; omega)).trans ((wr_off eM12 (by omega)).trans (hlv))), q15p.1⟩⟩, by unfold ux_E; rw [ht]; exact hP⟩, hS.F ht⟩) hS.2.2 d_Md_link_37

set_option maxHeartbeats 1600000 in
set_option maxRecDepth 100000 in
theorem s_Md_define (l : Launch) (D : va_G) (ad : Nat → Nat) (cA : Nat → ClassId) (A TB : Nat) (hA : A ≤ 100000000) (hB : TB ≤ 2000000000) (M : ux_M) (hI : IvM A TB M) (L : Nat) (hL : L ≤ 7) (hlv : M 0 10 = nI L) (dp : Nat) (hdp : dp ≤ 25) (hb3 : ¬ M 17 (8 * L + 3) = 0) (hn2 : nmK M (8 * L + 2) 97) : Met l y_Md_define w_Md_define ({ frames := 3, cells := 0, slots := 0, locals := 67 }) (va_Pc [.ref (ad 0), .int (nI dp)] (ux_B D shM KM ad cA M)) (va_Qv (fun M1 => IvM A TB M1 ∧ (∀ a b, ¬ (mCm L) a b → M1 a b = M a b) ∧ (OutS M M1 L)) (ux_E D shM KM ad cA) (ux_A KM ad)) 0 0 (ux_A KM ad) := by
  refine Met.ofW (cc := b_Md_define) (maxL := 3) (ret := none) (by decide) rfl ?_
  intro p e s m args below meth c s₁ B hml hv
  obtain ⟨rfl, hP, hK, hi, hN⟩ := hv
  have hx := B.exec
  have hb := B.bytes
  have hr := B.returns
  have hts := atoms_spec (ws := w_Md_define) B.pre
  have hown : s.vm.findClass R_Md = some m.cls := findClass_of_methodNamed B.named
  have hlocks := B.notSynchronized
  have hT : ∀ w ∈ tb, w.before _ s = true := fun w h => hts w (List.mem_cons_of_mem _ h)
  have hS : va_S (ux_A KM ad) s.heap s.heap [] := va_S.rf
  have hl := lv_entry ([.ref (ad 0), .int (nI dp)]) (n := 3) (Nat.le_of_ble_eq_true rfl)
  rw [lg_entry_eq]
  generalize (lg_sl ([.ref (ad 0), .int (nI dp)]) ++ List.replicate (3 - (lg_sl ([.ref (ad 0), .int (nI dp)])).length) Slot.unset).toArray = ls at hl ⊢
  have hl : lv_has ls 3 [(0, .ref (ad 0)), (1, .int (nI dp))] := hl
  have hF : ∀ a b, ¬ (mCm L) a b → M a b = M a b := fun _ _ _ => rfl
  refine lv_aload_n hx hb d_Md_define_0 rfl (lv_at hl 0 rfl) ?_
  refine lv_iconst (v := 3) hx hb d_Md_define_1 (by decide) ?_
  refine ux_calli (va_runV ⟨hx, hb, hml, hown, hts⟩ (s_Md_word l D ad cA A TB hA hB  M hI L hL (hlv) 3) (cwV 1 hts (tb_goodV ml_Md_155 im_Md_word se_Md_word ii_Md kt_Md_word) rfl rfl rfl (by decide +kernel) ⟨Nat.le_of_ble_eq_true rfl, Nat.le_of_ble_eq_true rfl⟩) (ux_preV (by decide) rfl rfl hP hK hi hN) rfl rfl hl.1 rfl (lv_room (Nat.le_of_ble_eq_true rfl)) d_Md_define_2 ⟨Nat.zero_le _, Nat.zero_le _⟩) hS (fun r1 M2 H locs q3 hP hS => ?_)
  obtain ⟨hI, fq3, q3p⟩ := q3
  rw [tN_eq fq3] at hP hI
  subst q3p
  refine lv_istore_n hx hb d_Md_define_5 rfl hl (by decide) rfl (fun ls hl => ?_)
  have hl : lv_has ls 3 [(2, .int (nI (8 * L + 3))), (0, .ref (ad 0)), (1, .int (nI dp))] := hl
  have hwd := (hI.2.1 (8 * L + 3) (by omega)).2 hb3
  refine lv_aload_n hx hb d_Md_define_6 rfl (lv_at hl 1 rfl) ?_
  refine ux_get (C := R_Md) (T := F_Md) (N := 50) hx hb hT in_Md hown hK hP (by decide) rfl rfl 6 (by decide) (hT _ fl_Md_24) rfl d_Md_define_7 ?_
  refine lv_iload_n hx hb d_Md_define_10 rfl (lv_at hl 2 rfl) ?_
  refine lv_iconst (v := 1) hx hb d_Md_define_11 (by decide) ?_
  refine ux_zast hx hb hK hi hP hS (by decide) rfl (vp_in_nI (show dp < 26 by omega) (by decide)) d_Md_define_12 (fun H locs hP hS => ?_)
  rw [show vp_nar .boolean 1 = 1 from rfl] at hP
  rw [nI_clamp (n := dp) (by omega)] at hP
  have hI := IvM_free (k := 5) (j := dp) (v := 1) hI rfl rfl (by unfold okW; omega)
  have hF := fr_wr (k := 5) (j := dp) (v := 1) hF (by unfold mCm; omega)
  generalize eM4 : ux_wr M 5 dp 1 = M4 at hP hI hF
  refine lv_aload_n hx hb d_Md_define_13 rfl (lv_at hl 1 rfl) ?_
  refine ux_get (C := R_Md) (T := F_Md) (N := 50) hx hb hT in_Md hown hK hP (by decide) rfl rfl 7 (by decide) (hT _ fl_Md_27) rfl d_Md_define_14 ?_
  refine lv_iload_n hx hb d_Md_define_17 rfl (lv_at hl 2 rfl) ?_
  refine lv_aload_n hx hb d_Md_define_18 rfl (lv_at hl 1 rfl) ?_
  refine ux_get (C := R_Md) (T := F_Md) (N := 50) hx hb hT in_Md hown hK hP (by decide) rfl rfl 20 (by decide) (hT _ fl_Md_67) rfl d_Md_define_19 ?_
  refine lv_iload_n hx hb d_Md_define_22 rfl (lv_at hl 0 rfl) ?_
  refine ux_iald hx hb hK hP (by decide) rfl (vp_in_nI (show 8 * L + 3 < 65 by omega) (by decide)) d_Md_define_23 ?_
  rw [nI_clamp (n := 8 * L + 3) (by omega)]
  refine lv_topi (fun z6 hz6 => ?_)
  obtain ⟨c5, hc5, ec5⟩ := nat_of (x := M4 18 (8 * L + 3)) (n := 200) (hI.1 18 (8 * L + 3)).1 (hI.1 18 (8 * L + 3)).2
  rw [ec5] at hz6
  rw [hz6]
  have tc5 : (M4 18 (8 * L + 3)).toInt = (c5 : Int) := by rw [ec5]; exact nI_toInt (by omega)
  have k7 := congrArg Int32.toInt (show M4 18 (8 * L + 3) = M 18 (8 * L + 3) from hF _ _ (by unfold mCm; omega))
  refine ux_iast hx hb hK hi hP hS (by decide) rfl (vp_in_nI (show dp < 26 by omega) (by decide)) d_Md_define_24 (fun H locs hP hS => ?_)
  rw [nI_clamp (n := dp) (by omega)] at hP
  have hI := IvM_wr (k := 6) (j := dp) (v := nI c5) hI (show (0 : Int) ≤ (nI c5 : Int32).toInt from (by rw [nI_toInt (n := c5) (by omega)]; omega)) (show (nI c5 : Int32).toInt ≤ (200 : Int) from (by rw [nI_toInt (n := c5) (by omega)]; omega)) (by unfold okW; omega)
  have hF := fr_wr (k := 6) (j := dp) (v := nI c5) hF (by unfold mCm; omega)
  generalize eM8 : ux_wr M4 6 dp (nI c5) = M8 at hP hI hF
  have tM8 : (M8 6 dp).toInt = ((c5 : Nat) : Int) := by rw [wr_at eM8]; exact nI_toInt (by omega)
  refine lv_aload_n hx hb d_Md_define_25 rfl (lv_at hl 1 rfl) ?_
  refine ux_get (C := R_Md) (T := F_Md) (N := 50) hx hb hT in_Md hown hK hP (by decide) rfl rfl 8 (by decide) (hT _ fl_Md_30) rfl d_Md_define_26 ?_
  refine lv_iload_n hx hb d_Md_define_29 rfl (lv_at hl 2 rfl) ?_
  refine lv_aload_n hx hb d_Md_define_30 rfl (lv_at hl 1 rfl) ?_
  refine ux_get (C := R_Md) (T := F_Md) (N := 50) hx hb hT in_Md hown hK hP (by decide) rfl rfl 20 (by decide) (hT _ fl_Md_67) rfl d_Md_define_31 ?_
  refine lv_iload_n hx hb d_Md_define_34 rfl (lv_at hl 0 rfl) ?_
  refine ux_iald hx hb hK hP (by decide) rfl (vp_in_nI (show 8 * L + 3 < 65 by omega) (by decide)) d_Md_define_35 ?_
  rw [nI_clamp (n := 8 * L + 3) (by omega)]
  refine lv_topi (fun z9 hz9 => ?_)
  rw [show M8 18 (8 * L + 3) = nI c5 from (wr_off eM8 (by omega)).trans (ec5)] at hz9
  rw [hz9]
  refine lv_aload_n hx hb d_Md_define_36 rfl (lv_at hl 1 rfl) ?_
  refine ux_get (C := R_Md) (T := F_Md) (N := 50) hx hb hT in_Md hown hK hP (by decide) rfl rfl 21 (by decide) (hT _ fl_Md_70) rfl d_Md_define_37 ?_
  refine lv_iload_n hx hb d_Md_define_40 rfl (lv_at hl 0 rfl) ?_
  refine ux_iald hx hb hK hP (by decide) rfl (vp_in_nI (show 8 * L + 3 < 65 by omega) (by decide)) d_Md_define_41 ?_
  rw [nI_clamp (n := 8 * L + 3) (by omega)]
  refine lv_topi (fun z11 hz11 => ?_)
  obtain ⟨c10, hc10, ec10⟩ := nat_of (x := M8 19 (8 * L + 3)) (n := 200) (hI.1 19 (8 * L + 3)).1 (hI.1 19 (8 * L + 3)).2
  rw [ec10] at hz11
  rw [hz11]
  have tc10 : (M8 19 (8 * L + 3)).toInt = (c10 : Int) := by rw [ec10]; exact nI_toInt (by omega)
  refine lv_iadd hx hb d_Md_define_42 ?_
  refine lv_topi (fun z12 hz12 => ?_)
  rw [show (nI c5) + (nI c10) = nI (c5 + c10) from nI_add c5 c10] at hz12
  rw [hz12]
  have k13 := congrArg Int32.toInt (show M8 19 (8 * L + 3) = M 19 (8 * L + 3) from hF _ _ (by unfold mCm; omega))
  refine ux_iast hx hb hK hi hP hS (by decide) rfl (vp_in_nI (show dp < 26 by omega) (by decide)) d_Md_define_43 (fun H locs hP hS => ?_)
  rw [nI_clamp (n := dp) (by omega)] at hP
  have hI := IvM_wr (k := 7) (j := dp) (v := nI (c5 + c10)) hI (show (0 : Int) ≤ (nI (c5 + c10) : Int32).toInt from (by rw [nI_toInt (n := c5 + c10) (by omega)]; omega)) (show (nI (c5 + c10) : Int32).toInt ≤ (200 : Int) from (by rw [nI_toInt (n := c5 + c10) (by omega)]; omega)) (by unfold okW; omega)
  have hF := fr_wr (k := 7) (j := dp) (v := nI (c5 + c10)) hF (by unfold mCm; omega)
  generalize eM14 : ux_wr M8 7 dp (nI (c5 + c10)) = M14 at hP hI hF
  have tM14 : (M14 7 dp).toInt = ((c5 + c10 : Nat) : Int) := by rw [wr_at eM14]; exact nI_toInt (by omega)
  refine lv_aload_n hx hb d_Md_define_44 rfl (lv_at hl 1 rfl) ?_
  refine ux_get (C := R_Md) (T := F_Md) (N := 50) hx hb hT in_Md hown hK hP (by decide) rfl rfl 9 (by decide) (hT _ fl_Md_33) rfl d_Md_define_45 ?_
  refine lv_iload_n hx hb d_Md_define_48 rfl (lv_at hl 2 rfl) ?_
  refine lv_aload_n hx hb d_Md_define_49 rfl (lv_at hl 1 rfl) ?_
  refine lv_iconst (v := 2) hx hb d_Md_define_50 (by decide) ?_
  refine lv_bipush (v := 97) hx hb d_Md_define_51 (by decide) ?_
  refine ux_calli (va_runV ⟨hx, hb, hml, hown, hts⟩ (s_Md_name l D ad cA A TB hA hB  M14 hI L hL ((wr_off eM14 (by omega)).trans ((wr_off eM8 (by omega)).trans ((wr_off eM4 (by omega)).trans (hlv)))) 2 (by omega) 97 (by decide) (by decide)) (cwV 2 hts (tb_goodV ml_Md_219 im_Md_name se_Md_name ii_Md kt_Md_name) rfl rfl rfl (by decide +kernel) ⟨Nat.le_of_ble_eq_true rfl, Nat.le_of_ble_eq_true rfl⟩) (ux_preV (by decide) rfl rfl hP hK hi hN) rfl rfl hl.1 rfl (lv_room (Nat.le_of_ble_eq_true rfl)) d_Md_define_53 ⟨Nat.zero_le _, Nat.zero_le _⟩) hS (fun r15 M16 H locs q17 hP hS => ?_)
  obtain ⟨hI, fq17, q17p⟩ := q17
  rw [tN_eq fq17] at hP hI
  obtain ⟨q17a, q17b, hc97⟩ := q17p
  have nk97 := hc97.mpr
  have hnk : 0 ≤ r15.toInt := hc97.mp (nmK_cong (fun a b q => hF a b (by unfold mCm; omega)) hn2)
  obtain ⟨q22, hq22, eq22⟩ := nat_of (x := r15) (n := 25) hnk (by omega)
  subst eq22
  refine ux_iast hx hb hK hi hP hS (by decide) rfl (vp_in_nI (show dp < 26 by omega) (by decide)) d_Md_define_56 (fun H locs hP hS => ?_)
  rw [nI_clamp (n := dp) (by omega)] at hP
  have hI := IvM_wr (k := 8) (j := dp) (v := nI q22) hI (show (0 : Int) ≤ (nI q22 : Int32).toInt from (by rw [nI_toInt (n := q22) (by omega)]; omega)) (show (nI q22 : Int32).toInt ≤ (25 : Int) from (by rw [nI_toInt (n := q22) (by omega)]; omega)) (by unfold okW; omega)
  have hF := fr_wr (k := 8) (j := dp) (v := nI q22) hF (by unfold mCm; omega)
  generalize eM18 : ux_wr M14 8 dp (nI q22) = M18 at hP hI hF
  have tM18 : (M18 8 dp).toInt = ((q22 : Nat) : Int) := by rw [wr_at eM18]; exact nI_toInt (by omega)
  refine lv_aload_n hx hb d_Md_define_57 rfl (lv_at hl 1 rfl) ?_
  refine lv_iconst (v := 0) hx hb d_Md_define_58 (by decide) ?_
  refine ux_callv (va_runV ⟨hx, hb, hml, hown, hts⟩ (s_Md_done l D ad cA A TB hA hB  M18 hI 0) (cwV 1 hts (tb_goodV ml_Md_235 im_Md_done se_Md_done ii_Md kt_Md_done) rfl rfl rfl (by decide +kernel) ⟨Nat.le_of_ble_eq_true rfl, Nat.le_of_ble_eq_true rfl⟩) (ux_preV (by decide) rfl rfl hP hK hi hN) rfl rfl hl.1 rfl (lv_room (Nat.le_of_ble_eq_true rfl)) d_Md_define_59 ⟨Nat.zero_le _, Nat.zero_le _⟩) hS (fun M20 H locs q21 hP hS => ?_)
  obtain ⟨hI, fq21, q21p⟩ := q21
  have hF := fr_call hF fq21 (fun a b q => by unfold mDn at q; unfold mCm; omega)
  exact W.vret hx hb hr (fun t ht hW => ⟨⟨M20, rfl, ⟨hI, hF, Or.inl ⟨((fq21 _ _ (by unfold mDn; omega)).trans ((wr_off eM18 (by omega)).trans ((wr_off eM14 (by omega)).trans ((wr_off eM8 (by omega)).trans ((wr_off eM4 (by omega)).trans (hlv)))))), q21p.1⟩⟩, by unfold ux_E; rw [ht]; exact hP⟩, hS.F ht⟩) hS.2.2 d_Md_define_62

set_option maxHeartbeats 1600000 in
set_option maxRecDepth 100000 in
theorem s_Md_evaluate (l : Launch) (D : va_G) (ad : Nat → Nat) (cA : Nat → ClassId) (A TB : Nat) (hA : A ≤ 100000000) (hB : TB ≤ 2000000000) (M : ux_M) (hI : IvM A TB M) (L : Nat) (hL : L ≤ 7) (hlv : M 0 10 = nI L) (hb1 : ¬ M 17 (8 * L + 1) = 0) : Met l y_Md_evaluate w_Md_evaluate ({ frames := 5, cells := 0, slots := 0, locals := 124 }) (va_Pc [.ref (ad 0)] (ux_B D shM KM ad cA M)) (va_Qv (fun M1 => IvM A TB M1 ∧ (∀ a b, ¬ (mCm L) a b → M1 a b = M a b) ∧ (OutS M M1 L)) (ux_E D shM KM ad cA) (ux_A KM ad)) 0 0 (ux_A KM ad) := by
  refine Met.ofW (cc := b_Md_evaluate) (maxL := 2) (ret := none) (by decide) rfl ?_
  intro p e s m args below meth c s₁ B hml hv
  obtain ⟨rfl, hP, hK, hi, hN⟩ := hv
  have hx := B.exec
  have hb := B.bytes
  have hr := B.returns
  have hts := atoms_spec (ws := w_Md_evaluate) B.pre
  have hown : s.vm.findClass R_Md = some m.cls := findClass_of_methodNamed B.named
  have hlocks := B.notSynchronized
  have hT : ∀ w ∈ tb, w.before _ s = true := fun w h => hts w (List.mem_cons_of_mem _ h)
  have hS : va_S (ux_A KM ad) s.heap s.heap [] := va_S.rf
  have hl := lv_entry ([.ref (ad 0)]) (n := 2) (Nat.le_of_ble_eq_true rfl)
  rw [lg_entry_eq]
  generalize (lg_sl ([.ref (ad 0)]) ++ List.replicate (2 - (lg_sl ([.ref (ad 0)])).length) Slot.unset).toArray = ls at hl ⊢
  have hl : lv_has ls 2 [(0, .ref (ad 0))] := hl
  have hF : ∀ a b, ¬ (mCm L) a b → M a b = M a b := fun _ _ _ => rfl
  refine lv_aload_n hx hb d_Md_evaluate_0 rfl (lv_at hl 0 rfl) ?_
  refine lv_iconst (v := 1) hx hb d_Md_evaluate_1 (by decide) ?_
  refine ux_calli (va_runV ⟨hx, hb, hml, hown, hts⟩ (s_Md_value l D ad cA A TB hA hB  M hI L hL (hlv) 1 (by omega) (by assumption)) (cwV 1 hts (tb_goodV ml_Md_322 im_Md_value se_Md_value ii_Md kt_Md_value) rfl rfl rfl (by decide +kernel) ⟨Nat.le_of_ble_eq_true rfl, Nat.le_of_ble_eq_true rfl⟩) (ux_preV (by decide) rfl rfl hP hK hi hN) rfl rfl hl.1 rfl (lv_room (Nat.le_of_ble_eq_true rfl)) d_Md_evaluate_2 ⟨Nat.zero_le _, Nat.zero_le _⟩) hS (fun r1 M2 H locs q3 hP hS => ?_)
  obtain ⟨hI, fq3, q3p⟩ := q3
  have hF := fr_call hF fq3 (fun a b q => by unfold mVa at q; unfold mCm; omega)
  refine lv_istore_n hx hb d_Md_evaluate_5 rfl hl (by decide) rfl (fun ls hl => ?_)
  have hl : lv_has ls 2 [(1, .int r1), (0, .ref (ad 0))] := hl
  refine lv_aload_n hx hb d_Md_evaluate_6 rfl (lv_at hl 1 rfl) ?_
  refine ux_get (C := R_Md) (T := F_Md) (N := 50) hx hb hT in_Md hown hK hP (by decide) rfl rfl 23 (by decide) (hT _ fl_Md_152) rfl d_Md_evaluate_7 ?_
  refine lv_iconst (v := 1) hx hb d_Md_evaluate_10 (by decide) ?_
  refine lv_icmp_ne hx hb d_Md_evaluate_11 rfl (fun h4 => ?_) (fun h4 => ?_)
  · have g4 : ¬ ((M2 0 23).toInt = 1) := fun q => h4 (Int32.toInt_inj.mp q)
    refine lv_aload_n hx hb d_Md_evaluate_15 rfl (lv_at hl 1 rfl) ?_
    refine lv_iload_n hx hb d_Md_evaluate_16 rfl (lv_at hl 0 rfl) ?_
    refine ux_callv (va_runV ⟨hx, hb, hml, hown, hts⟩ (s_Md_number l D ad cA A TB hA hB  M2 hI r1) (cwV 1 hts (tb_goodV ml_Md_226 im_Md_number se_Md_number ii_Md kt_Md_number) rfl rfl rfl (by decide +kernel) ⟨Nat.le_of_ble_eq_true rfl, Nat.le_of_ble_eq_true rfl⟩) (ux_preV (by decide) rfl rfl hP hK hi hN) rfl rfl hl.1 rfl (lv_room (Nat.le_of_ble_eq_true rfl)) d_Md_evaluate_17 ⟨Nat.zero_le _, Nat.zero_le _⟩) hS (fun M6 H locs q7 hP hS => ?_)
    obtain ⟨hI, fq7, q7p⟩ := q7
    have hF := fr_call hF fq7 (fun a b q => by unfold mRe at q; unfold mCm; omega)
    refine lv_aload_n hx hb d_Md_evaluate_20 rfl (lv_at hl 1 rfl) ?_
    refine lv_iconst (v := 0) hx hb d_Md_evaluate_21 (by decide) ?_
    refine ux_callv (va_runV ⟨hx, hb, hml, hown, hts⟩ (s_Md_done l D ad cA A TB hA hB  M6 hI 0) (cwV 1 hts (tb_goodV ml_Md_235 im_Md_done se_Md_done ii_Md kt_Md_done) rfl rfl rfl (by decide +kernel) ⟨Nat.le_of_ble_eq_true rfl, Nat.le_of_ble_eq_true rfl⟩) (ux_preV (by decide) rfl rfl hP hK hi hN) rfl rfl hl.1 rfl (lv_room (Nat.le_of_ble_eq_true rfl)) d_Md_evaluate_22 ⟨Nat.zero_le _, Nat.zero_le _⟩) hS (fun M9 H locs q10 hP hS => ?_)
    obtain ⟨hI, fq10, q10p⟩ := q10
    have hF := fr_call hF fq10 (fun a b q => by unfold mDn at q; unfold mCm; omega)
    exact W.vret hx hb hr (fun t ht hW => ⟨⟨M9, rfl, ⟨hI, hF, Or.inl ⟨((fq10 _ _ (by unfold mDn; omega)).trans ((fq7 _ _ (by unfold mRe; omega)).trans ((fq3 _ _ (by unfold mVa; omega)).trans (hlv)))), q10p.1⟩⟩, by unfold ux_E; rw [ht]; exact hP⟩, hS.F ht⟩) hS.2.2 d_Md_evaluate_25
  · have g4 : (M2 0 23).toInt = 1 := congrArg Int32.toInt h4
    exact W.vret hx hb hr (fun t ht hW => ⟨⟨M2, rfl, ⟨hI, hF, Or.inl ⟨((fq3 _ _ (by unfold mVa; omega)).trans (hlv)), by assumption⟩⟩, by unfold ux_E; rw [ht]; exact hP⟩, hS.F ht⟩) hS.2.2 d_Md_evaluate_14

set_option maxHeartbeats 1600000 in
set_option maxRecDepth 100000 in
theorem s_Md_set (l : Launch) (D : va_G) (ad : Nat → Nat) (cA : Nat → ClassId) (A TB : Nat) (hA : A ≤ 100000000) (hB : TB ≤ 2000000000) (M : ux_M) (hI : IvM A TB M) (L : Nat) (hL : L ≤ 7) (hlv : M 0 10 = nI L) (v : Nat) (hv : v ≤ 207) (hx2 : (M 14 L).toInt = 3 → (M 19 (8 * L + 2)).toInt ≤ 20) : Met l y_Md_set w_Md_set ({ frames := 3, cells := 0, slots := 0, locals := 68 }) (va_Pc [.ref (ad 0), .int (nI v)] (ux_B D shM KM ad cA M)) (va_Qv (fun M1 => IvM A TB M1 ∧ (∀ a b, ¬ (mCm L) a b → M1 a b = M a b) ∧ (OutS M M1 L)) (ux_E D shM KM ad cA) (ux_A KM ad)) 0 0 (ux_A KM ad) := by
  refine Met.ofW (cc := b_Md_set) (maxL := 2) (ret := none) (by decide) rfl ?_
  intro p e s m args below meth c s₁ B hml hv
  obtain ⟨rfl, hP, hK, hi, hN⟩ := hv
  have hx := B.exec
  have hb := B.bytes
  have hr := B.returns
  have hts := atoms_spec (ws := w_Md_set) B.pre
  have hown : s.vm.findClass R_Md = some m.cls := findClass_of_methodNamed B.named
  have hlocks := B.notSynchronized
  have hT : ∀ w ∈ tb, w.before _ s = true := fun w h => hts w (List.mem_cons_of_mem _ h)
  have hS : va_S (ux_A KM ad) s.heap s.heap [] := va_S.rf
  have hl := lv_entry ([.ref (ad 0), .int (nI v)]) (n := 2) (Nat.le_of_ble_eq_true rfl)
  rw [lg_entry_eq]
  generalize (lg_sl ([.ref (ad 0), .int (nI v)]) ++ List.replicate (2 - (lg_sl ([.ref (ad 0), .int (nI v)])).length) Slot.unset).toArray = ls at hl ⊢
  have hl : lv_has ls 2 [(0, .ref (ad 0)), (1, .int (nI v))] := hl
  have hF : ∀ a b, ¬ (mCm L) a b → M a b = M a b := fun _ _ _ => rfl
  refine lv_aload_n hx hb d_Md_set_0 rfl (lv_at hl 0 rfl) ?_
  refine ux_get (C := R_Md) (T := F_Md) (N := 50) hx hb hT in_Md hown hK hP (by decide) rfl rfl 16 (by decide) (hT _ fl_Md_55) rfl d_Md_set_1 ?_
  refine lv_aload_n hx hb d_Md_set_4 rfl (lv_at hl 0 rfl) ?_
  refine ux_get (C := R_Md) (T := F_Md) (N := 50) hx hb hT in_Md hown hK hP (by decide) rfl rfl 10 (by decide) (hT _ fl_Md_36) rfl d_Md_set_5 ?_
  refine lv_topi (fun z1 hz1 => ?_)
  rw [show M 0 10 = nI L from hlv] at hz1
  rw [hz1]
  refine ux_iald hx hb hK hP (by decide) rfl (vp_in_nI (show L < 8 by omega) (by decide)) d_Md_set_8 ?_
  rw [nI_clamp (n := L) (by omega)]
  refine lv_topi (fun z3 hz3 => ?_)
  obtain ⟨c2, hc2, ec2⟩ := nat_of (x := M 14 L) (n := 8) (hI.1 14 L).1 (hI.1 14 L).2
  rw [ec2] at hz3
  rw [hz3]
  have tc2 : (M 14 L).toInt = (c2 : Int) := by rw [ec2]; exact nI_toInt (by omega)
  refine lv_iconst (v := 3) hx hb d_Md_set_9 (by decide) ?_
  refine lv_icmp_ne hx hb d_Md_set_10 rfl (fun h4 => ?_) (fun h4 => ?_)
  · have g4 : ¬ (((c2 : Nat) : Int) = 3) := fun q => h4 (Int32.toInt_inj.mp (by rw [nI_toInt (n := c2) (by omega)]; exact q))
    refine lv_aload_n hx hb d_Md_set_22 rfl (lv_at hl 0 rfl) ?_
    refine ux_get (C := R_Md) (T := F_Md) (N := 50) hx hb hT in_Md hown hK hP (by decide) rfl rfl 3 (by decide) (hT _ fl_Md_13) rfl d_Md_set_23 ?_
    refine lv_iload_n hx hb d_Md_set_26 rfl (lv_at hl 1 rfl) ?_
    refine ux_iald hx hb hK hP (by decide) rfl (vp_in_nI (show v < 208 by omega) (by decide)) d_Md_set_27 ?_
    rw [nI_clamp (n := v) (by omega)]
    have b5 : (-1 : Int) ≤ (M 2 v).toInt ∧ (M 2 v).toInt ≤ 20 := hI.1 2 v
    refine lv_if_ge hx hb d_Md_set_28 rfl (fun h6 => ?_) (fun h6 => ?_)
    · have g6 : 0 ≤ (M 2 v).toInt := Int32.le_iff_toInt_le.mp h6
      have u6 := ti_hi (M 2 v)
      refine lv_aload_n hx hb d_Md_set_37 rfl (lv_at hl 0 rfl) ?_
      refine lv_iload_n hx hb d_Md_set_38 rfl (lv_at hl 1 rfl) ?_
      refine ux_callv (va_runV ⟨hx, hb, hml, hown, hts⟩ (s_Md_recall l D ad cA A TB hA hB  M hI v (by omega)) (cwV 1 hts (tb_goodV ml_Md_309 im_Md_recall se_Md_recall ii_Md kt_Md_recall) rfl rfl rfl (by decide +kernel) ⟨Nat.le_of_ble_eq_true rfl, Nat.le_of_ble_eq_true rfl⟩) (ux_preV (by decide) rfl rfl hP hK hi hN) rfl rfl hl.1 rfl (lv_room (Nat.le_of_ble_eq_true rfl)) d_Md_set_39 ⟨Nat.zero_le _, Nat.zero_le _⟩) hS (fun M8 H locs q9 hP hS => ?_)
      obtain ⟨hI, fq9, q9p⟩ := q9
      have hF := fr_call hF fq9 (fun a b q => by unfold mRe at q; unfold mCm; omega)
      refine lv_aload_n hx hb d_Md_set_42 rfl (lv_at hl 0 rfl) ?_
      refine lv_iconst (v := 0) hx hb d_Md_set_43 (by decide) ?_
      refine ux_callv (va_runV ⟨hx, hb, hml, hown, hts⟩ (s_Md_done l D ad cA A TB hA hB  M8 hI 0) (cwV 1 hts (tb_goodV ml_Md_235 im_Md_done se_Md_done ii_Md kt_Md_done) rfl rfl rfl (by decide +kernel) ⟨Nat.le_of_ble_eq_true rfl, Nat.le_of_ble_eq_true rfl⟩) (ux_preV (by decide) rfl rfl hP hK hi hN) rfl rfl hl.1 rfl (lv_room (Nat.le_of_ble_eq_true rfl)) d_Md_set_44 ⟨Nat.zero_le _, Nat.zero_le _⟩) hS (fun M11 H locs q12 hP hS => ?_)
      obtain ⟨hI, fq12, q12p⟩ := q12
      have hF := fr_call hF fq12 (fun a b q => by unfold mDn at q; unfold mCm; omega)
      exact W.vret hx hb hr (fun t ht hW => ⟨⟨M11, rfl, ⟨hI, hF, Or.inl ⟨((fq12 _ _ (by unfold mDn; omega)).trans ((fq9 _ _ (by unfold mRe; omega)).trans (hlv))), q12p.1⟩⟩, by unfold ux_E; rw [ht]; exact hP⟩, hS.F ht⟩) hS.2.2 d_Md_set_47
    · have g6 : ¬ (0 ≤ (M 2 v).toInt) := fun q => h6 (Int32.le_iff_toInt_le.mpr q)
      have w6 := ti_lo (M 2 v)
      refine lv_aload_n hx hb d_Md_set_31 rfl (lv_at hl 0 rfl) ?_
      refine lv_iconst (v := 4) hx hb d_Md_set_32 (by decide) ?_
      refine ux_callv (va_runV ⟨hx, hb, hml, hown, hts⟩ (s_Md_error l D ad cA A TB hA hB  M hI 4) (cwV 1 hts (tb_goodV ml_Md_166 im_Md_error se_Md_error ii_Md kt_Md_error) rfl rfl rfl (by decide +kernel) ⟨Nat.le_of_ble_eq_true rfl, Nat.le_of_ble_eq_true rfl⟩) (ux_preV (by decide) rfl rfl hP hK hi hN) rfl rfl hl.1 rfl (lv_room (Nat.le_of_ble_eq_true rfl)) d_Md_set_33 ⟨Nat.zero_le _, Nat.zero_le _⟩) hS (fun M14 H locs q15 hP hS => ?_)
      obtain ⟨hI, fq15, q15p⟩ := q15
      have hF := fr_call hF fq15 (fun a b q => by unfold mEr at q; unfold mCm; omega)
      exact W.vret hx hb hr (fun t ht hW => ⟨⟨M14, rfl, ⟨hI, hF, Or.inl ⟨((fq15 _ _ (by unfold mEr; omega)).trans (hlv)), q15p.1⟩⟩, by unfold ux_E; rw [ht]; exact hP⟩, hS.F ht⟩) hS.2.2 d_Md_set_36
  · have g4 : ((c2 : Nat) : Int) = 3 := by have q := congrArg Int32.toInt h4; rw [nI_toInt (n := c2) (by omega)] at q; exact q
    refine lv_aload_n hx hb d_Md_set_13 rfl (lv_at hl 0 rfl) ?_
    refine lv_iload_n hx hb d_Md_set_14 rfl (lv_at hl 1 rfl) ?_
    refine lv_iconst (v := 2) hx hb d_Md_set_15 (by decide) ?_
    refine ux_callv (va_runV ⟨hx, hb, hml, hown, hts⟩ (s_Md_assign l D ad cA A TB hA hB  M hI L hL (hlv) v (by omega) 2 (by omega) (by omega)) (cwV 2 hts (tb_goodV ml_Md_305 im_Md_assign se_Md_assign ii_Md kt_Md_assign) rfl rfl rfl (by decide +kernel) ⟨Nat.le_of_ble_eq_true rfl, Nat.le_of_ble_eq_true rfl⟩) (ux_preV (by decide) rfl rfl hP hK hi hN) rfl rfl hl.1 rfl (lv_room (Nat.le_of_ble_eq_true rfl)) d_Md_set_16 ⟨Nat.zero_le _, Nat.zero_le _⟩) hS (fun M17 H locs q18 hP hS => ?_)
    obtain ⟨hI, fq18, q18p⟩ := q18
    have hF := fr_call hF fq18 (fun a b q => by unfold mSt at q; unfold mCm; omega)
    refine lv_goto hx hb d_Md_set_19 rfl ?_
    refine lv_aload_n hx hb d_Md_set_37 rfl (lv_at hl 0 rfl) ?_
    refine lv_iload_n hx hb d_Md_set_38 rfl (lv_at hl 1 rfl) ?_
    refine ux_callv (va_runV ⟨hx, hb, hml, hown, hts⟩ (s_Md_recall l D ad cA A TB hA hB  M17 hI v (by omega)) (cwV 1 hts (tb_goodV ml_Md_309 im_Md_recall se_Md_recall ii_Md kt_Md_recall) rfl rfl rfl (by decide +kernel) ⟨Nat.le_of_ble_eq_true rfl, Nat.le_of_ble_eq_true rfl⟩) (ux_preV (by decide) rfl rfl hP hK hi hN) rfl rfl hl.1 rfl (lv_room (Nat.le_of_ble_eq_true rfl)) d_Md_set_39 ⟨Nat.zero_le _, Nat.zero_le _⟩) hS (fun M20 H locs q21 hP hS => ?_)
    obtain ⟨hI, fq21, q21p⟩ := q21
    have hF := fr_call hF fq21 (fun a b q => by unfold mRe at q; unfold mCm; omega)
    refine lv_aload_n hx hb d_Md_set_42 rfl (lv_at hl 0 rfl) ?_
    refine lv_iconst (v := 0) hx hb d_Md_set_43 (by decide) ?_
    refine ux_callv (va_runV ⟨hx, hb, hml, hown, hts⟩ (s_Md_done l D ad cA A TB hA hB  M20 hI 0) (cwV 1 hts (tb_goodV ml_Md_235 im_Md_done se_Md_done ii_Md kt_Md_done) rfl rfl rfl (by decide +kernel) ⟨Nat.le_of_ble_eq_true rfl, Nat.le_of_ble_eq_true rfl⟩) (ux_preV (by decide) rfl rfl hP hK hi hN) rfl rfl hl.1 rfl (lv_room (Nat.le_of_ble_eq_true rfl)) d_Md_set_44 ⟨Nat.zero_le _, Nat.zero_le _⟩) hS (fun M23 H locs q24 hP hS => ?_)
    obtain ⟨hI, fq24, q24p⟩ := q24
    have hF := fr_call hF fq24 (fun a b q => by unfold mDn at q; unfold mCm; omega)
    exact W.vret hx hb hr (fun t ht hW => ⟨⟨M23, rfl, ⟨hI, hF, Or.inl ⟨((fq24 _ _ (by unfold mDn; omega)).trans ((fq21 _ _ (by unfold mRe; omega)).trans ((fq18 _ _ (by unfold mSt; omega)).trans (hlv)))), q24p.1⟩⟩, by unfold ux_E; rw [ht]; exact hP⟩, hS.F ht⟩) hS.2.2 d_Md_set_47

set_option maxHeartbeats 1600000 in
set_option maxRecDepth 100000 in
theorem s_Md_grow (l : Launch) (D : va_G) (ad : Nat → Nat) (cA : Nat → ClassId) (A TB : Nat) (hA : A ≤ 100000000) (hB : TB ≤ 2000000000) (M : ux_M) (hI : IvM A TB M) (L : Nat) (hL : L ≤ 7) (hlv : M 0 10 = nI L) (v : Nat) (hv : v ≤ 207) : Met l y_Md_grow w_Md_grow ({ frames := 4, cells := 0, slots := 0, locals := 95 }) (va_Pc [.ref (ad 0), .int (nI v)] (ux_B D shM KM ad cA M)) (va_Qv (fun M1 => IvM A TB M1 ∧ (∀ a b, ¬ (mCm L) a b → M1 a b = M a b) ∧ (OutS M M1 L)) (ux_E D shM KM ad cA) (ux_A KM ad)) 0 0 (ux_A KM ad) := by
  refine Met.ofW (cc := b_Md_grow) (maxL := 4) (ret := none) (by decide) rfl ?_
  intro p e s m args below meth c s₁ B hml hv
  obtain ⟨rfl, hP, hK, hi, hN⟩ := hv
  have hx := B.exec
  have hb := B.bytes
  have hr := B.returns
  have hts := atoms_spec (ws := w_Md_grow) B.pre
  have hown : s.vm.findClass R_Md = some m.cls := findClass_of_methodNamed B.named
  have hlocks := B.notSynchronized
  have hT : ∀ w ∈ tb, w.before _ s = true := fun w h => hts w (List.mem_cons_of_mem _ h)
  have hS : va_S (ux_A KM ad) s.heap s.heap [] := va_S.rf
  have hl := lv_entry ([.ref (ad 0), .int (nI v)]) (n := 4) (Nat.le_of_ble_eq_true rfl)
  rw [lg_entry_eq]
  generalize (lg_sl ([.ref (ad 0), .int (nI v)]) ++ List.replicate (4 - (lg_sl ([.ref (ad 0), .int (nI v)])).length) Slot.unset).toArray = ls at hl ⊢
  have hl : lv_has ls 4 [(0, .ref (ad 0)), (1, .int (nI v))] := hl
  have hF : ∀ a b, ¬ (mCm L) a b → M a b = M a b := fun _ _ _ => rfl
  have cut54 : ∀ (i_3 : Int32) (Mc54 : ux_M) (H : Heap) (locs : List Loc) (ls : Array Slot), (Mc54 0 10 = nI L) → va_P D classes (ux_w shM KM ad cA Mc54) H → IvM A TB Mc54 → (∀ a b, ¬ (mCm L) a b → Mc54 a b = M a b) → va_S (ux_A KM ad) s.heap H locs → lv_has ls 4 [(0, .ref (ad 0)), (1, .int (nI v)), (3, .int i_3)] → W p l e (headSpec w_Md_grow ({ frames := 4, cells := 0, slots := 0, locals := 95 })).room s m (([.ref (ad 0), .int (nI v)] : List Value).toArray) below meth c H locs 0 0 (MQ below (va_Qv (fun M1 => IvM A TB M1 ∧ (∀ a b, ¬ (mCm L) a b → M1 a b = M a b) ∧ (OutS M M1 L)) (ux_E D shM KM ad cA) (ux_A KM ad)) (([.ref (ad 0), .int (nI v)] : List Value).toArray) s 0 0 (ux_A KM ad)) (F0 m 54 ls []) := by
    intro i_3 Mc54 H locs ls c54_0 hP hI hF hS hl
    refine lv_aload_n hx hb d_Md_grow_54 rfl (lv_at hl 0 rfl) ?_
    refine ux_get (C := R_Md) (T := F_Md) (N := 50) hx hb hT in_Md hown hK hP (by decide) rfl rfl 3 (by decide) (hT _ fl_Md_13) rfl d_Md_grow_55 ?_
    refine lv_iload_n hx hb d_Md_grow_58 rfl (lv_at hl 1 rfl) ?_
    refine ux_iald hx hb hK hP (by decide) rfl (vp_in_nI (show v < 208 by omega) (by decide)) d_Md_grow_59 ?_
    rw [nI_clamp (n := v) (by omega)]
    have b1 : (-1 : Int) ≤ (Mc54 2 v).toInt ∧ (Mc54 2 v).toInt ≤ 20 := hI.1 2 v
    refine lv_if_ge hx hb d_Md_grow_60 rfl (fun h2 => ?_) (fun h2 => ?_)
    · have g2 : 0 ≤ (Mc54 2 v).toInt := Int32.le_iff_toInt_le.mp h2
      have u2 := ti_hi (Mc54 2 v)
      refine lv_aload_n hx hb d_Md_grow_71 rfl (lv_at hl 0 rfl) ?_
      refine lv_iload_n hx hb d_Md_grow_72 rfl (lv_at hl 1 rfl) ?_
      refine lv_iconst (v := 0) hx hb d_Md_grow_73 (by decide) ?_
      refine ux_calli (va_runV ⟨hx, hb, hml, hown, hts⟩ (s_Md_digits_v l D ad cA A TB hA hB  Mc54 hI v 0 (by omega)) (cwV 2 hts (tb_goodV ml_Md_319 im_Md_digits se_Md_digits ii_Md kt_Md_digits) rfl rfl rfl (by decide +kernel) ⟨Nat.le_of_ble_eq_true rfl, Nat.le_of_ble_eq_true rfl⟩) (ux_preV (by decide) rfl rfl hP hK hi hN) rfl rfl hl.1 rfl (lv_room (Nat.le_of_ble_eq_true rfl)) d_Md_grow_74 ⟨Nat.zero_le _, Nat.zero_le _⟩) hS (fun r3 M4 H locs q5 hP hS => ?_)
      obtain ⟨hI, fq5, q5p⟩ := q5
      have hF := fr_call hF fq5 (fun a b q => by unfold mDg at q; unfold mCm; omega)
      refine lv_if_ne hx hb d_Md_grow_77 rfl (fun h6 => ?_) (fun h6 => ?_)
      · have g6 : ¬ (r3.toInt = 0) := fun q => h6 (Int32.toInt_inj.mp q)
        refine lv_aload_n hx hb d_Md_grow_88 rfl (lv_at hl 0 rfl) ?_
        refine lv_aload_n hx hb d_Md_grow_89 rfl (lv_at hl 0 rfl) ?_
        refine ux_get (C := R_Md) (T := F_Md) (N := 50) hx hb hT in_Md hown hK hP (by decide) rfl rfl 35 (by decide) (hT _ fl_Md_316) rfl d_Md_grow_90 ?_
        refine lv_iload_n hx hb d_Md_grow_93 rfl (lv_at hl 2 rfl) ?_
        refine lv_iadd hx hb d_Md_grow_94 ?_
        refine lv_topi (fun x7 ex7 => ?_)
        try have fx7 : x7.toInt = (M4 0 35).toInt + i_3.toInt := by rw [ex7, ti_add (by omega) (by omega)]; first | done | rfl
        refine ux_callv (va_runV ⟨hx, hb, hml, hown, hts⟩ (s_Md_number l D ad cA A TB hA hB  M4 hI x7) (cwV 1 hts (tb_goodV ml_Md_226 im_Md_number se_Md_number ii_Md kt_Md_number) rfl rfl rfl (by decide +kernel) ⟨Nat.le_of_ble_eq_true rfl, Nat.le_of_ble_eq_true rfl⟩) (ux_preV (by decide) rfl rfl hP hK hi hN) rfl rfl hl.1 rfl (lv_room (Nat.le_of_ble_eq_true rfl)) d_Md_grow_95 ⟨Nat.zero_le _, Nat.zero_le _⟩) hS (fun M9 H locs q10 hP hS => ?_)
        obtain ⟨hI, fq10, q10p⟩ := q10
        have hF := fr_call hF fq10 (fun a b q => by unfold mRe at q; unfold mCm; omega)
        refine lv_aload_n hx hb d_Md_grow_98 rfl (lv_at hl 0 rfl) ?_
        refine lv_iload_n hx hb d_Md_grow_99 rfl (lv_at hl 1 rfl) ?_
        refine ux_callv (va_runV ⟨hx, hb, hml, hown, hts⟩ (s_Md_store l D ad cA A TB hA hB  M9 hI v (by omega)) (cwV 1 hts (tb_goodV ml_Md_223 im_Md_store se_Md_store ii_Md kt_Md_store) rfl rfl rfl (by decide +kernel) ⟨Nat.le_of_ble_eq_true rfl, Nat.le_of_ble_eq_true rfl⟩) (ux_preV (by decide) rfl rfl hP hK hi hN) rfl rfl hl.1 rfl (lv_room (Nat.le_of_ble_eq_true rfl)) d_Md_grow_100 ⟨Nat.zero_le _, Nat.zero_le _⟩) hS (fun M12 H locs q13 hP hS => ?_)
        obtain ⟨hI, fq13, q13p⟩ := q13
        have hF := fr_call hF fq13 (fun a b q => by unfold mSt at q; unfold mCm; omega)
        refine lv_aload_n hx hb d_Md_grow_103 rfl (lv_at hl 0 rfl) ?_
        refine lv_iconst (v := 0) hx hb d_Md_grow_104 (by decide) ?_
        refine ux_callv (va_runV ⟨hx, hb, hml, hown, hts⟩ (s_Md_done l D ad cA A TB hA hB  M12 hI 0) (cwV 1 hts (tb_goodV ml_Md_235 im_Md_done se_Md_done ii_Md kt_Md_done) rfl rfl rfl (by decide +kernel) ⟨Nat.le_of_ble_eq_true rfl, Nat.le_of_ble_eq_true rfl⟩) (ux_preV (by decide) rfl rfl hP hK hi hN) rfl rfl hl.1 rfl (lv_room (Nat.le_of_ble_eq_true rfl)) d_Md_grow_105 ⟨Nat.zero_le _, Nat.zero_le _⟩) hS (fun M15 H locs q16 hP hS => ?_)
        obtain ⟨hI, fq16, q16p⟩ := q16
        have hF := fr_call hF fq16 (fun a b q => by unfold mDn at q; unfold mCm; omega)
        exact W.vret hx hb hr (fun t ht hW => ⟨⟨M15, rfl, ⟨hI, hF, Or.inl ⟨((fq16 _ _ (by unfold mDn; omega)).trans ((fq13 _ _ (by unfold mSt; omega)).trans ((fq10 _ _ (by unfold mRe; omega)).trans ((fq5 _ _ (by unfold mDg; omega)).trans (c54_0))))), q16p.1⟩⟩, by unfold ux_E; rw [ht]; exact hP⟩, hS.F ht⟩) hS.2.2 d_Md_grow_108
      · have g6 : r3.toInt = 0 := congrArg Int32.toInt h6
        refine lv_aload_n hx hb d_Md_grow_80 rfl (lv_at hl 0 rfl) ?_
        refine lv_iconst (v := 5) hx hb d_Md_grow_81 (by decide) ?_
        refine ux_callv (va_runV ⟨hx, hb, hml, hown, hts⟩ (s_Md_error l D ad cA A TB hA hB  M4 hI 5) (cwV 1 hts (tb_goodV ml_Md_166 im_Md_error se_Md_error ii_Md kt_Md_error) rfl rfl rfl (by decide +kernel) ⟨Nat.le_of_ble_eq_true rfl, Nat.le_of_ble_eq_true rfl⟩) (ux_preV (by decide) rfl rfl hP hK hi hN) rfl rfl hl.1 rfl (lv_room (Nat.le_of_ble_eq_true rfl)) d_Md_grow_82 ⟨Nat.zero_le _, Nat.zero_le _⟩) hS (fun M18 H locs q19 hP hS => ?_)
        obtain ⟨hI, fq19, q19p⟩ := q19
        have hF := fr_call hF fq19 (fun a b q => by unfold mEr at q; unfold mCm; omega)
        refine lv_goto hx hb d_Md_grow_85 rfl ?_
        exact W.vret hx hb hr (fun t ht hW => ⟨⟨M18, rfl, ⟨hI, hF, Or.inl ⟨((fq19 _ _ (by unfold mEr; omega)).trans ((fq5 _ _ (by unfold mDg; omega)).trans (c54_0))), q19p.1⟩⟩, by unfold ux_E; rw [ht]; exact hP⟩, hS.F ht⟩) hS.2.2 d_Md_grow_108
    · have g2 : ¬ (0 ≤ (Mc54 2 v).toInt) := fun q => h2 (Int32.le_iff_toInt_le.mpr q)
      have w2 := ti_lo (Mc54 2 v)
      refine lv_aload_n hx hb d_Md_grow_63 rfl (lv_at hl 0 rfl) ?_
      refine lv_iconst (v := 4) hx hb d_Md_grow_64 (by decide) ?_
      refine ux_callv (va_runV ⟨hx, hb, hml, hown, hts⟩ (s_Md_error l D ad cA A TB hA hB  Mc54 hI 4) (cwV 1 hts (tb_goodV ml_Md_166 im_Md_error se_Md_error ii_Md kt_Md_error) rfl rfl rfl (by decide +kernel) ⟨Nat.le_of_ble_eq_true rfl, Nat.le_of_ble_eq_true rfl⟩) (ux_preV (by decide) rfl rfl hP hK hi hN) rfl rfl hl.1 rfl (lv_room (Nat.le_of_ble_eq_true rfl)) d_Md_grow_65 ⟨Nat.zero_le _, Nat.zero_le _⟩) hS (fun M21 H locs q22 hP hS => ?_)
      obtain ⟨hI, fq22, q22p⟩ := q22
      have hF := fr_call hF fq22 (fun a b q => by unfold mEr at q; unfold mCm; omega)
      refine lv_goto hx hb d_Md_grow_68 rfl ?_
      exact W.vret hx hb hr (fun t ht hW => ⟨⟨M21, rfl, ⟨hI, hF, Or.inl ⟨((fq22 _ _ (by unfold mEr; omega)).trans (c54_0)), q22p.1⟩⟩, by unfold ux_E; rw [ht]; exact hP⟩, hS.F ht⟩) hS.2.2 d_Md_grow_108
  refine lv_aload_n hx hb d_Md_grow_0 rfl (lv_at hl 0 rfl) ?_
  refine ux_get (C := R_Md) (T := F_Md) (N := 50) hx hb hT in_Md hown hK hP (by decide) rfl rfl 16 (by decide) (hT _ fl_Md_55) rfl d_Md_grow_1 ?_
  refine lv_aload_n hx hb d_Md_grow_4 rfl (lv_at hl 0 rfl) ?_
  refine ux_get (C := R_Md) (T := F_Md) (N := 50) hx hb hT in_Md hown hK hP (by decide) rfl rfl 10 (by decide) (hT _ fl_Md_36) rfl d_Md_grow_5 ?_
  refine lv_topi (fun z23 hz23 => ?_)
  rw [show M 0 10 = nI L from hlv] at hz23
  rw [hz23]
  refine ux_iald hx hb hK hP (by decide) rfl (vp_in_nI (show L < 8 by omega) (by decide)) d_Md_grow_8 ?_
  rw [nI_clamp (n := L) (by omega)]
  refine lv_topi (fun z25 hz25 => ?_)
  obtain ⟨c24, hc24, ec24⟩ := nat_of (x := M 14 L) (n := 8) (hI.1 14 L).1 (hI.1 14 L).2
  rw [ec24] at hz25
  rw [hz25]
  have tc24 : (M 14 L).toInt = (c24 : Int) := by rw [ec24]; exact nI_toInt (by omega)
  refine lv_iconst (v := 3) hx hb d_Md_grow_9 (by decide) ?_
  refine lv_icmp_lt hx hb d_Md_grow_10 rfl (fun h26 => ?_) (fun h26 => ?_)
  · have g26 : ((c24 : Nat) : Int) < 3 := by have q := Int32.lt_iff_toInt_lt.mp h26; rw [nI_toInt (n := c24) (by omega)] at q; exact q
    refine lv_iconst (v := 1) hx hb d_Md_grow_22 (by decide) ?_
    refine lv_goto hx hb d_Md_grow_23 rfl ?_
    refine lv_istore_n hx hb d_Md_grow_27 rfl hl (by decide) rfl (fun ls hl => ?_)
    have hl : lv_has ls 4 [(2, .int 1), (0, .ref (ad 0)), (1, .int (nI v))] := hl
    refine lv_aload_n hx hb d_Md_grow_28 rfl (lv_at hl 1 rfl) ?_
    refine ux_get (C := R_Md) (T := F_Md) (N := 50) hx hb hT in_Md hown hK hP (by decide) rfl rfl 16 (by decide) (hT _ fl_Md_55) rfl d_Md_grow_29 ?_
    refine lv_aload_n hx hb d_Md_grow_32 rfl (lv_at hl 1 rfl) ?_
    refine ux_get (C := R_Md) (T := F_Md) (N := 50) hx hb hT in_Md hown hK hP (by decide) rfl rfl 10 (by decide) (hT _ fl_Md_36) rfl d_Md_grow_33 ?_
    refine lv_topi (fun z27 hz27 => ?_)
    rw [show M 0 10 = nI L from hlv] at hz27
    rw [hz27]
    refine ux_iald hx hb hK hP (by decide) rfl (vp_in_nI (show L < 8 by omega) (by decide)) d_Md_grow_36 ?_
    rw [nI_clamp (n := L) (by omega)]
    refine lv_topi (fun z28 hz28 => ?_)
    rw [show M 14 L = nI c24 from ec24] at hz28
    rw [hz28]
    refine lv_iconst (v := 3) hx hb d_Md_grow_37 (by decide) ?_
    refine lv_icmp_lt hx hb d_Md_grow_38 rfl (fun h29 => ?_) (fun h29 => ?_)
    · have g29 : ((c24 : Nat) : Int) < 3 := by have q := Int32.lt_iff_toInt_lt.mp h29; rw [nI_toInt (n := c24) (by omega)] at q; exact q
      refine lv_iconst (v := 1) hx hb d_Md_grow_45 (by decide) ?_
      refine lv_goto hx hb d_Md_grow_46 rfl ?_
      refine lv_istore_n hx hb d_Md_grow_53 rfl hl (by decide) rfl (fun ls hl => ?_)
      have hl : lv_has ls 4 [(3, .int 1), (2, .int 1), (0, .ref (ad 0)), (1, .int (nI v))] := hl
      exact cut54 1 M _ _ ls (show M 0 10 = nI L from by first | exact (hlv)) hP hI hF hS (lv_sub hl [2, 3, 0] rfl)
    · have g29 : ¬ (((c24 : Nat) : Int) < 3) := fun q => h29 (Int32.lt_iff_toInt_lt.mpr (by rw [nI_toInt (n := c24) (by omega)]; exact q))
      refine lv_iload_n hx hb d_Md_grow_41 rfl (lv_at hl 0 rfl) ?_
      refine lv_if_ne hx hb d_Md_grow_42 rfl (fun _ => ?_) (fun hz => absurd hz (by decide))
      refine lv_aload_n hx hb d_Md_grow_49 rfl (lv_at hl 1 rfl) ?_
      refine ux_get (C := R_Md) (T := F_Md) (N := 50) hx hb hT in_Md hown hK hP (by decide) rfl rfl 35 (by decide) (hT _ fl_Md_316) rfl d_Md_grow_50 ?_
      refine lv_istore_n hx hb d_Md_grow_53 rfl hl (by decide) rfl (fun ls hl => ?_)
      have hl : lv_has ls 4 [(3, .int (M 0 35)), (2, .int 1), (0, .ref (ad 0)), (1, .int (nI v))] := hl
      exact cut54 (M 0 35) M _ _ ls (show M 0 10 = nI L from by first | exact (hlv)) hP hI hF hS (lv_sub hl [2, 3, 0] rfl)
  · have g26 : ¬ (((c24 : Nat) : Int) < 3) := fun q => h26 (Int32.lt_iff_toInt_lt.mpr (by rw [nI_toInt (n := c24) (by omega)]; exact q))
    refine lv_aload_n hx hb d_Md_grow_13 rfl (lv_at hl 0 rfl) ?_
    refine lv_iconst (v := (-1)) hx hb d_Md_grow_14 (by decide) ?_
    refine lv_iconst (v := 2) hx hb d_Md_grow_15 (by decide) ?_
    refine ux_calli (va_runV ⟨hx, hb, hml, hown, hts⟩ (s_Md_digits_w l D ad cA A TB hA hB  M hI L hL (hlv) 2 (by omega)) (cwV 2 hts (tb_goodV ml_Md_319 im_Md_digits se_Md_digits ii_Md kt_Md_digits) rfl rfl rfl (by decide +kernel) ⟨Nat.le_of_ble_eq_true rfl, Nat.le_of_ble_eq_true rfl⟩) (ux_preV (by decide) rfl rfl hP hK hi hN) rfl rfl hl.1 rfl (lv_room (Nat.le_of_ble_eq_true rfl)) d_Md_grow_16 ⟨Nat.zero_le _, Nat.zero_le _⟩) hS (fun r30 M31 H locs q32 hP hS => ?_)
    obtain ⟨hI, fq32, q32p⟩ := q32
    have hF := fr_call hF fq32 (fun a b q => by unfold mDg at q; unfold mCm; omega)
    refine lv_if_eq hx hb d_Md_grow_19 rfl (fun h33 => ?_) (fun h33 => ?_)
    · have g33 : r30.toInt = 0 := congrArg Int32.toInt h33
      refine lv_iconst (v := 0) hx hb d_Md_grow_26 (by decide) ?_
      refine lv_istore_n hx hb d_Md_grow_27 rfl hl (by decide) rfl (fun ls hl => ?_)
      have hl : lv_has ls 4 [(2, .int 0), (0, .ref (ad 0)), (1, .int (nI v))] := hl
      refine lv_aload_n hx hb d_Md_grow_28 rfl (lv_at hl 1 rfl) ?_
      refine ux_get (C := R_Md) (T := F_Md) (N := 50) hx hb hT in_Md hown hK hP (by decide) rfl rfl 16 (by decide) (hT _ fl_Md_55) rfl d_Md_grow_29 ?_
      refine lv_aload_n hx hb d_Md_grow_32 rfl (lv_at hl 1 rfl) ?_
      refine ux_get (C := R_Md) (T := F_Md) (N := 50) hx hb hT in_Md hown hK hP (by decide) rfl rfl 10 (by decide) (hT _ fl_Md_36) rfl d_Md_grow_33 ?_
      refine lv_topi (fun z34 hz34 => ?_)
      rw [show M31 0 10 = nI L from (fq32 _ _ (by unfold mDg; omega)).trans (hlv)] at hz34
      rw [hz34]
      refine ux_iald hx hb hK hP (by decide) rfl (vp_in_nI (show L < 8 by omega) (by decide)) d_Md_grow_36 ?_
      rw [nI_clamp (n := L) (by omega)]
      refine lv_topi (fun z35 hz35 => ?_)
      rw [show M31 14 L = nI c24 from (fq32 _ _ (by unfold mDg; omega)).trans (ec24)] at hz35
      rw [hz35]
      refine lv_iconst (v := 3) hx hb d_Md_grow_37 (by decide) ?_
      refine lv_icmp_lt hx hb d_Md_grow_38 rfl (fun h36 => ?_) (fun h36 => ?_)
      · have g36 : ((c24 : Nat) : Int) < 3 := by have q := Int32.lt_iff_toInt_lt.mp h36; rw [nI_toInt (n := c24) (by omega)] at q; exact q
        refine lv_iconst (v := 1) hx hb d_Md_grow_45 (by decide) ?_
        refine lv_goto hx hb d_Md_grow_46 rfl ?_
        refine lv_istore_n hx hb d_Md_grow_53 rfl hl (by decide) rfl (fun ls hl => ?_)
        have hl : lv_has ls 4 [(3, .int 1), (2, .int 0), (0, .ref (ad 0)), (1, .int (nI v))] := hl
        exact cut54 1 M31 _ _ ls (show M31 0 10 = nI L from by first | exact ((fq32 _ _ (by unfold mDg; omega)).trans (hlv))) hP hI hF hS (lv_sub hl [2, 3, 0] rfl)
      · have g36 : ¬ (((c24 : Nat) : Int) < 3) := fun q => h36 (Int32.lt_iff_toInt_lt.mpr (by rw [nI_toInt (n := c24) (by omega)]; exact q))
        refine lv_iload_n hx hb d_Md_grow_41 rfl (lv_at hl 0 rfl) ?_
        refine lv_if_ne hx hb d_Md_grow_42 rfl (fun hz => absurd (by decide) hz) (fun _ => ?_)
        refine lv_iconst (v := 1) hx hb d_Md_grow_45 (by decide) ?_
        refine lv_goto hx hb d_Md_grow_46 rfl ?_
        refine lv_istore_n hx hb d_Md_grow_53 rfl hl (by decide) rfl (fun ls hl => ?_)
        have hl : lv_has ls 4 [(3, .int 1), (2, .int 0), (0, .ref (ad 0)), (1, .int (nI v))] := hl
        exact cut54 1 M31 _ _ ls (show M31 0 10 = nI L from by first | exact ((fq32 _ _ (by unfold mDg; omega)).trans (hlv))) hP hI hF hS (lv_sub hl [2, 3, 0] rfl)
    · have g33 : ¬ (r30.toInt = 0) := fun q => h33 (Int32.toInt_inj.mp q)
      refine lv_iconst (v := 1) hx hb d_Md_grow_22 (by decide) ?_
      refine lv_goto hx hb d_Md_grow_23 rfl ?_
      refine lv_istore_n hx hb d_Md_grow_27 rfl hl (by decide) rfl (fun ls hl => ?_)
      have hl : lv_has ls 4 [(2, .int 1), (0, .ref (ad 0)), (1, .int (nI v))] := hl
      refine lv_aload_n hx hb d_Md_grow_28 rfl (lv_at hl 1 rfl) ?_
      refine ux_get (C := R_Md) (T := F_Md) (N := 50) hx hb hT in_Md hown hK hP (by decide) rfl rfl 16 (by decide) (hT _ fl_Md_55) rfl d_Md_grow_29 ?_
      refine lv_aload_n hx hb d_Md_grow_32 rfl (lv_at hl 1 rfl) ?_
      refine ux_get (C := R_Md) (T := F_Md) (N := 50) hx hb hT in_Md hown hK hP (by decide) rfl rfl 10 (by decide) (hT _ fl_Md_36) rfl d_Md_grow_33 ?_
      refine lv_topi (fun z37 hz37 => ?_)
      rw [show M31 0 10 = nI L from (fq32 _ _ (by unfold mDg; omega)).trans (hlv)] at hz37
      rw [hz37]
      refine ux_iald hx hb hK hP (by decide) rfl (vp_in_nI (show L < 8 by omega) (by decide)) d_Md_grow_36 ?_
      rw [nI_clamp (n := L) (by omega)]
      refine lv_topi (fun z38 hz38 => ?_)
      rw [show M31 14 L = nI c24 from (fq32 _ _ (by unfold mDg; omega)).trans (ec24)] at hz38
      rw [hz38]
      refine lv_iconst (v := 3) hx hb d_Md_grow_37 (by decide) ?_
      refine lv_icmp_lt hx hb d_Md_grow_38 rfl (fun h39 => ?_) (fun h39 => ?_)
      · have g39 : ((c24 : Nat) : Int) < 3 := by have q := Int32.lt_iff_toInt_lt.mp h39; rw [nI_toInt (n := c24) (by omega)] at q; exact q
        refine lv_iconst (v := 1) hx hb d_Md_grow_45 (by decide) ?_
        refine lv_goto hx hb d_Md_grow_46 rfl ?_
        refine lv_istore_n hx hb d_Md_grow_53 rfl hl (by decide) rfl (fun ls hl => ?_)
        have hl : lv_has ls 4 [(3, .int 1), (2, .int 1), (0, .ref (ad 0)), (1, .int (nI v))] := hl
        exact cut54 1 M31 _ _ ls (show M31 0 10 = nI L from by first | exact ((fq32 _ _ (by unfold mDg; omega)).trans (hlv))) hP hI hF hS (lv_sub hl [2, 3, 0] rfl)
      · have g39 : ¬ (((c24 : Nat) : Int) < 3) := fun q => h39 (Int32.lt_iff_toInt_lt.mpr (by rw [nI_toInt (n := c24) (by omega)]; exact q))
        refine lv_iload_n hx hb d_Md_grow_41 rfl (lv_at hl 0 rfl) ?_
        refine lv_if_ne hx hb d_Md_grow_42 rfl (fun _ => ?_) (fun hz => absurd hz (by decide))
        refine lv_aload_n hx hb d_Md_grow_49 rfl (lv_at hl 1 rfl) ?_
        refine ux_get (C := R_Md) (T := F_Md) (N := 50) hx hb hT in_Md hown hK hP (by decide) rfl rfl 35 (by decide) (hT _ fl_Md_316) rfl d_Md_grow_50 ?_
        refine lv_istore_n hx hb d_Md_grow_53 rfl hl (by decide) rfl (fun ls hl => ?_)
        have hl : lv_has ls 4 [(3, .int (M31 0 35)), (2, .int 1), (0, .ref (ad 0)), (1, .int (nI v))] := hl
        exact cut54 (M31 0 35) M31 _ _ ls (show M31 0 10 = nI L from by first | exact ((fq32 _ _ (by unfold mDg; omega)).trans (hlv))) hP hI hF hS (lv_sub hl [2, 3, 0] rfl)
