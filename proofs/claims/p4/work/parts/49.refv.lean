/-! The reference, safe: the value of an expression; written by wip/gen/ref.py -/
theorem cP_le {P : Int → Bool} {f : Nat → Int32} : ∀ n, cP P f n ≤ n := by
  intro n
  induction n with
  | zero => exact Nat.le_refl 0
  | succ n ih => simp only [cP]; split <;> omega
theorem sg_B {f g : Nat → Int32} {n : Nat} {x : Int32} (h : ∀ j, j < n → g j = f j) (hx : g n = x) : (1 ≤ rk x.toInt ∧ rk x.toInt ≤ 6 ∧ cP PB g (n + 1) = cP PB f n + 1) ∨ (¬ (1 ≤ rk x.toInt ∧ rk x.toInt ≤ 6) ∧ cP PB g (n + 1) = cP PB f n) := by
  rw [cP_B, hx, cP_cong n h]
  by_cases q : 1 ≤ rk x.toInt ∧ rk x.toInt ≤ 6
  · rw [if_pos q]; exact Or.inl ⟨q.1, q.2, rfl⟩
  · rw [if_neg q]; exact Or.inr ⟨q, rfl⟩
theorem sg_4 {f g : Nat → Int32} {n : Nat} {x : Int32} (h : ∀ j, j < n → g j = f j) (hx : g n = x) : (x.toInt = 40 ∧ cP P40 g (n + 1) = cP P40 f n + 1) ∨ (¬ x.toInt = 40 ∧ cP P40 g (n + 1) = cP P40 f n) := by
  rw [cP_4, hx, cP_cong n h]
  by_cases q : x.toInt = 40
  · rw [if_pos q]; exact Or.inl ⟨q, rfl⟩
  · rw [if_neg q]; exact Or.inr ⟨q, rfl⟩
theorem pop_B {f : Nat → Int32} {n : Nat} (h1 : 1 ≤ n) (ht : rk (f (n - 1)).toInt < 1) : cP PB f (n - 1) = cP PB f n ∧ cP P40 f n ≤ cP P40 f (n - 1) + 1 := by
  obtain ⟨q, rfl⟩ : ∃ q, n = q + 1 := ⟨n - 1, by omega⟩
  rw [show q + 1 - 1 = q by omega] at ht ⊢
  rw [cP_B, cP_4, if_neg (by omega)]
  refine ⟨rfl, ?_⟩
  split <;> omega
theorem nI_dec {k : Nat} (h1 : 1 ≤ k) (h2 : k < 1000) : nI k + Int32.ofInt (-1) = nI (k - 1) := by
  apply Int32.toInt_inj.mp
  have e : (Int32.ofInt (-1)).toInt = -1 := rfl
  rw [ti_add (by rw [e, nI_toInt (by omega)]; omega) (by rw [e, nI_toInt (by omega)]; omega), e, nI_toInt (by omega), nI_toInt (by omega)]
  omega
def mVa (a b : Nat) : Prop := (a = 0 ∧ (b = 31 ∨ b = 32 ∨ b = 34 ∨ b = 35 ∨ b = 33 ∨ b = 25 ∨ b = 23 ∨ b = 24)) ∨ a = 22 ∨ a = 23 ∨ a = 21

set_option maxHeartbeats 1600000 in
set_option maxRecDepth 100000 in
theorem s_Md_sign (l : Launch) (D : va_G) (ad : Nat → Nat) (cA : Nat → ClassId) (A TB : Nat) (hA : A ≤ 100000000) (hB : TB ≤ 2000000000) (M : ux_M) (hI : IvM A TB M) (n : Nat) (hn : M 0 31 = nI n) (hn2 : n ≤ 209) (sg : Int32) : Met l y_Md_sign w_Md_sign ({ frames := 0, cells := 0, slots := 0, locals := 0 }) (va_Pc [.ref (ad 0), .int sg] (ux_B D shM KM ad cA M)) (va_Qv (fun M1 => IvM A TB M1 ∧ (∀ a b, ¬ mSg a b → M1 a b = M a b) ∧ (M1 0 31 = nI (n + 1) ∧ (∀ j, j < n → M1 22 j = M 22 j) ∧ M1 22 n = sg)) (ux_E D shM KM ad cA) (ux_A KM ad)) 0 0 (ux_A KM ad) := by
  refine Met.ofW (cc := b_Md_sign) (maxL := 2) (ret := none) (by decide) rfl ?_
  intro p e s m args below meth c s₁ B hml hv
  obtain ⟨rfl, hP, hK, hi, hN⟩ := hv
  have hx := B.exec
  have hb := B.bytes
  have hr := B.returns
  have hts := atoms_spec (ws := w_Md_sign) B.pre
  have hown : s.vm.findClass R_Md = some m.cls := findClass_of_methodNamed B.named
  have hlocks := B.notSynchronized
  have hT : ∀ w ∈ tb, w.before _ s = true := fun w h => hts w (List.mem_cons_of_mem _ h)
  have hS : va_S (ux_A KM ad) s.heap s.heap [] := va_S.rf
  have hl := lv_entry ([.ref (ad 0), .int sg]) (n := 2) (Nat.le_of_ble_eq_true rfl)
  rw [lg_entry_eq]
  generalize (lg_sl ([.ref (ad 0), .int sg]) ++ List.replicate (2 - (lg_sl ([.ref (ad 0), .int sg])).length) Slot.unset).toArray = ls at hl ⊢
  have hl : lv_has ls 2 [(0, .ref (ad 0)), (1, .int sg)] := hl
  have hF : ∀ a b, ¬ mSg a b → M a b = M a b := fun _ _ _ => rfl
  refine lv_aload_n hx hb d_Md_sign_0 rfl (lv_at hl 0 rfl) ?_
  refine ux_get (C := R_Md) (T := F_Md) (N := 50) hx hb hT in_Md hown hK hP (by decide) rfl rfl 29 (by decide) (hT _ fl_Md_79) rfl d_Md_sign_1 ?_
  refine lv_aload_n hx hb d_Md_sign_4 rfl (lv_at hl 0 rfl) ?_
  refine ux_get (C := R_Md) (T := F_Md) (N := 50) hx hb hT in_Md hown hK hP (by decide) rfl rfl 31 (by decide) (hT _ fl_Md_338) rfl d_Md_sign_5 ?_
  refine lv_topi (fun z1 hz1 => ?_)
  rw [show M 0 31 = nI n from hn] at hz1
  rw [hz1]
  refine lv_iload_n hx hb d_Md_sign_8 rfl (lv_at hl 1 rfl) ?_
  refine ux_iast hx hb hK hi hP hS (by decide) rfl (vp_in_nI (show n < 210 by omega) (by decide)) d_Md_sign_9 (fun H locs hP hS => ?_)
  rw [nI_clamp (n := n) (by omega)] at hP
  have hI := IvM_free (k := 22) (j := n) (v := sg) hI rfl rfl (by unfold okW; omega)
  have hF := fr_wr (k := 22) (j := n) (v := sg) hF (by unfold mSg; omega)
  generalize eM2 : ux_wr M 22 n sg = M2 at hP hI hF
  refine lv_aload_n hx hb d_Md_sign_10 rfl (lv_at hl 0 rfl) ?_
  refine lv_dup hx hb d_Md_sign_11 rfl ?_
  refine ux_get (C := R_Md) (T := F_Md) (N := 50) hx hb hT in_Md hown hK hP (by decide) rfl rfl 31 (by decide) (hT _ fl_Md_338) rfl d_Md_sign_12 ?_
  refine lv_topi (fun z3 hz3 => ?_)
  rw [show M2 0 31 = nI n from (wr_off eM2 (by omega)).trans (hn)] at hz3
  rw [hz3]
  refine lv_iconst (v := 1) hx hb d_Md_sign_15 (by decide) ?_
  refine lv_iadd hx hb d_Md_sign_16 ?_
  refine lv_topi (fun z4 hz4 => ?_)
  rw [show (nI n) + (1 : Int32) = nI (n + 1) from nI_add n 1] at hz4
  rw [hz4]
  refine ux_put (C := R_Md) (T := F_Md) (N := 50) hx hb hT in_Md t_Md t_Md_ok n_Md hown hK hi hP hS (by decide) rfl rfl 31 (by decide) (hT _ fl_Md_338) rfl (rfl) (rfl) rfl d_Md_sign_17 (fun H locs hP hS => ?_)
  have hI := IvM_wr (k := 0) (j := 31) (v := nI (n + 1)) hI (show (0 : Int) ≤ (nI (n + 1) : Int32).toInt from (by rw [nI_toInt (n := n + 1) (by omega)]; omega)) (show (nI (n + 1) : Int32).toInt ≤ (210 : Int) from (by rw [nI_toInt (n := n + 1) (by omega)]; omega)) (by unfold okW; omega)
  have hF := fr_wr (k := 0) (j := 31) (v := nI (n + 1)) hF (by unfold mSg; omega)
  generalize eM5 : ux_wr M2 0 31 (nI (n + 1)) = M5 at hP hI hF
  have tM5 : (M5 0 31).toInt = ((n + 1 : Nat) : Int) := by rw [wr_at eM5]; exact nI_toInt (by omega)
  exact W.vret hx hb hr (fun t ht hW => ⟨⟨M5, rfl, ⟨hI, hF, ⟨wr_at eM5, fun j hj => (wr_off eM5 (by omega)).trans (wr_off eM2 (by omega)), (wr_off eM5 (by omega)).trans (wr_at eM2)⟩⟩, by unfold ux_E; rw [ht]; exact hP⟩, hS.F ht⟩) hS.2.2 d_Md_sign_20

set_option maxHeartbeats 1600000 in
set_option maxRecDepth 100000 in
theorem s_Md_value (l : Launch) (D : va_G) (ad : Nat → Nat) (cA : Nat → ClassId) (A TB : Nat) (hA : A ≤ 100000000) (hB : TB ≤ 2000000000) (M : ux_M) (hI : IvM A TB M) (L : Nat) (hL : L ≤ 7) (hlv : M 0 10 = nI L) (w : Nat) (hw : w ≤ 7) (hbr : ¬ M 17 (8 * L + w) = 0) : Met l y_Md_value w_Md_value ({ frames := 4, cells := 0, slots := 0, locals := 98 }) (va_Pc [.ref (ad 0), .int (nI w)] (ux_B D shM KM ad cA M)) (va_Qi (fun r M1 => IvM A TB M1 ∧ (∀ a b, ¬ mVa a b → M1 a b = M a b) ∧ ((M1 0 23 = M 0 23 ∧ M1 0 24 = M 0 24) ∨ (M1 0 23 = 1 ∧ M1 0 24 = 1))) (ux_E D shM KM ad cA) (ux_A KM ad)) 0 0 (ux_A KM ad) := by
  refine Met.ofW (cc := b_Md_value) (maxL := 7) (ret := (some .int)) (by decide) rfl ?_
  intro p e s m args below meth c s₁ B hml hv
  obtain ⟨rfl, hP, hK, hi, hN⟩ := hv
  have hx := B.exec
  have hb := B.bytes
  have hr := B.returns
  have hts := atoms_spec (ws := w_Md_value) B.pre
  have hown : s.vm.findClass R_Md = some m.cls := findClass_of_methodNamed B.named
  have hlocks := B.notSynchronized
  have hT : ∀ w ∈ tb, w.before _ s = true := fun w h => hts w (List.mem_cons_of_mem _ h)
  have hS : va_S (ux_A KM ad) s.heap s.heap [] := va_S.rf
  have hl := lv_entry ([.ref (ad 0), .int (nI w)]) (n := 7) (Nat.le_of_ble_eq_true rfl)
  rw [lg_entry_eq]
  generalize (lg_sl ([.ref (ad 0), .int (nI w)]) ++ List.replicate (7 - (lg_sl ([.ref (ad 0), .int (nI w)])).length) Slot.unset).toArray = ls at hl ⊢
  have hl : lv_has ls 7 [(0, .ref (ad 0)), (1, .int (nI w))] := hl
  have hF : ∀ a b, ¬ mVa a b → M a b = M a b := fun _ _ _ => rfl
  have cut50 : ∀ (nn : Nat) (i_5 : Int32) (k2 k3 k4 n1 v1 g : Nat) (Mc50 : ux_M) (H : Heap) (locs : List Loc) (ls : Array Slot), g * 300 + (250 - k2) = nn → (Mc50 0 31 = nI n1) → (Mc50 0 32 = nI v1) → (k2 ≤ 201) → (k3 ≤ 200) → (n1 ≤ k2) → (g ≤ 1) → ((i_5.toInt = 1 ∧ v1 = cP PB (Mc50 22) n1) ∨ (i_5.toInt = 0 ∧ v1 = cP PB (Mc50 22) n1 + 1)) → (k4 ≤ cP P40 (Mc50 22) n1) → (g = 1 ∨ (Mc50 0 34).toInt = 1) → ((Mc50 0 23 = M 0 23) ∧ (Mc50 0 24 = M 0 24)) → va_P D classes (ux_w shM KM ad cA Mc50) H → IvM A TB Mc50 → (∀ a b, ¬ mVa a b → Mc50 a b = M a b) → va_S (ux_A KM ad) s.heap H locs → lv_has ls 7 [(0, .ref (ad 0)), (1, .int (nI w)), (2, .int (nI k2)), (3, .int (nI k3)), (4, .int (nI k4)), (5, .int i_5)] → W p l e (headSpec w_Md_value ({ frames := 4, cells := 0, slots := 0, locals := 98 })).room s m (([.ref (ad 0), .int (nI w)] : List Value).toArray) below meth c H locs 0 0 (MQ below (va_Qi (fun r M1 => IvM A TB M1 ∧ (∀ a b, ¬ mVa a b → M1 a b = M a b) ∧ ((M1 0 23 = M 0 23 ∧ M1 0 24 = M 0 24) ∨ (M1 0 23 = 1 ∧ M1 0 24 = 1))) (ux_E D shM KM ad cA) (ux_A KM ad)) (([.ref (ad 0), .int (nI w)] : List Value).toArray) s 0 0 (ux_A KM ad)) (F0 m 50 ls []) := by
    intro nn
    induction nn using Nat.strongRecOn with
    | ind nn ih50 =>
      intro i_5 k2 k3 k4 n1 v1 g Mc50 H locs ls hn hg_n1 hg_v1 c50_0 c50_1 c50_2 c50_3 c50_4 c50_5 c50_6 c50_7 hP hI hF hS hl
      have hcl := cP_le (P := P40) (f := Mc50 22) n1
      have hbl := cP_le (P := PB) (f := Mc50 22) n1
      refine lv_iload_n hx hb d_Md_value_50 rfl (lv_at hl 2 rfl) ?_
      refine lv_iload_n hx hb d_Md_value_51 rfl (lv_at hl 3 rfl) ?_
      refine lv_icmp_ge hx hb d_Md_value_52 rfl (fun h1 => ?_) (fun h1 => ?_)
      · have g1 : ((k3 : Nat) : Int) ≤ ((k2 : Nat) : Int) := by have q := Int32.le_iff_toInt_le.mp h1; rw [nI_toInt (n := k3) (by omega), nI_toInt (n := k2) (by omega)] at q; exact q
        refine lv_iload hx hb d_Md_value_271 (lv_at hl 5 rfl) ?_
        refine lv_if_ne hx hb d_Md_value_273 rfl (fun h2 => ?_) (fun h2 => ?_)
        · have g2 : ¬ (i_5.toInt = 0) := fun q => h2 (Int32.toInt_inj.mp q)
          refine lv_aload_n hx hb d_Md_value_281 rfl (lv_at hl 0 rfl) ?_
          refine lv_iconst (v := 1) hx hb d_Md_value_282 (by decide) ?_
          refine ux_callv (va_runV ⟨hx, hb, hml, hown, hts⟩ (s_Md_ill l D ad cA A TB hA hB  Mc50 hI 1) (cwV 1 hts (tb_goodV ml_Md_354 im_Md_ill se_Md_ill ii_Md kt_Md_ill) rfl rfl rfl (by decide +kernel) ⟨Nat.le_of_ble_eq_true rfl, Nat.le_of_ble_eq_true rfl⟩) (ux_preV (by decide) rfl rfl hP hK hi hN) rfl rfl hl.1 rfl (lv_room (Nat.le_of_ble_eq_true rfl)) d_Md_value_283 ⟨Nat.zero_le _, Nat.zero_le _⟩) hS (fun M4 H locs q5 hP hS => ?_)
          obtain ⟨hI, fq5, q5p⟩ := q5
          have hF := fr_call hF fq5 (fun a b q => by unfold mIl at q; unfold mVa; omega)
          rw [show (1 : Int32).toInt = 1 from rfl] at q5p
          refine lv_aload_n hx hb d_Md_value_286 rfl (lv_at hl 0 rfl) ?_
          refine ux_get (C := R_Md) (T := F_Md) (N := 50) hx hb hT in_Md hown hK hP (by decide) rfl rfl 34 (by decide) (hT _ fl_Md_328) rfl d_Md_value_287 ?_
          refine lv_if_ne hx hb d_Md_value_290 rfl (fun h6 => ?_) (fun h6 => ?_)
          · have g6 : ¬ ((M4 0 34).toInt = 0) := fun q => h6 (Int32.toInt_inj.mp q)
            refine lv_aload_n hx hb d_Md_value_298 rfl (lv_at hl 0 rfl) ?_
            refine ux_get (C := R_Md) (T := F_Md) (N := 50) hx hb hT in_Md hown hK hP (by decide) rfl rfl 34 (by decide) (hT _ fl_Md_328) rfl d_Md_value_299 ?_
            refine lv_if_gt hx hb d_Md_value_302 rfl (fun h7 => ?_) (fun h7 => ?_)
            · have g7 : 0 < (M4 0 34).toInt := Int32.lt_iff_toInt_lt.mp h7
              have u7 := ti_hi (M4 0 34)
              refine lv_aload_n hx hb d_Md_value_312 rfl (lv_at hl 0 rfl) ?_
              refine lv_aload_n hx hb d_Md_value_313 rfl (lv_at hl 0 rfl) ?_
              refine ux_get (C := R_Md) (T := F_Md) (N := 50) hx hb hT in_Md hown hK hP (by decide) rfl rfl 34 (by decide) (hT _ fl_Md_328) rfl d_Md_value_314 ?_
              refine lv_if_le hx hb d_Md_value_317 rfl (fun h8 => ?_) (fun h8 => ?_)
              · have g8 : (M4 0 34).toInt ≤ 0 := Int32.le_iff_toInt_le.mp h8
                have w8 := ti_lo (M4 0 34)
                refine lv_bipush (v := 6) hx hb d_Md_value_327 (by decide) ?_
                refine ux_callv (va_runV ⟨hx, hb, hml, hown, hts⟩ (s_Md_error l D ad cA A TB hA hB  M4 hI 6) (cwV 1 hts (tb_goodV ml_Md_166 im_Md_error se_Md_error ii_Md kt_Md_error) rfl rfl rfl (by decide +kernel) ⟨Nat.le_of_ble_eq_true rfl, Nat.le_of_ble_eq_true rfl⟩) (ux_preV (by decide) rfl rfl hP hK hi hN) rfl rfl hl.1 rfl (lv_room (Nat.le_of_ble_eq_true rfl)) d_Md_value_329 ⟨Nat.zero_le _, Nat.zero_le _⟩) hS (fun M10 H locs q11 hP hS => ?_)
                obtain ⟨hI, fq11, q11p⟩ := q11
                have hF := fr_call hF fq11 (fun a b q => by unfold mEr at q; unfold mVa; omega)
                refine lv_iconst (v := 0) hx hb d_Md_value_332 (by decide) ?_
                exact W.iret (v := 0) hx hb hr (fun t ht hW => ⟨⟨0, M10, rfl, ⟨hI, hF, Or.inr (by assumption)⟩, by unfold ux_E; rw [ht]; exact hP⟩, hS.F ht⟩) hS.2.2 d_Md_value_333
              · have g8 : ¬ ((M4 0 34).toInt ≤ 0) := fun q => h8 (Int32.le_iff_toInt_le.mpr q)
                have u8 := ti_hi (M4 0 34)
                refine lv_aload_n hx hb d_Md_value_320 rfl (lv_at hl 0 rfl) ?_
                refine ux_get (C := R_Md) (T := F_Md) (N := 50) hx hb hT in_Md hown hK hP (by decide) rfl rfl 34 (by decide) (hT _ fl_Md_328) rfl d_Md_value_321 ?_
                refine lv_goto hx hb d_Md_value_324 rfl ?_
                refine ux_callv (va_runV ⟨hx, hb, hml, hown, hts⟩ (s_Md_error l D ad cA A TB hA hB  M4 hI (M4 0 34)) (cwV 1 hts (tb_goodV ml_Md_166 im_Md_error se_Md_error ii_Md kt_Md_error) rfl rfl rfl (by decide +kernel) ⟨Nat.le_of_ble_eq_true rfl, Nat.le_of_ble_eq_true rfl⟩) (ux_preV (by decide) rfl rfl hP hK hi hN) rfl rfl hl.1 rfl (lv_room (Nat.le_of_ble_eq_true rfl)) d_Md_value_329 ⟨Nat.zero_le _, Nat.zero_le _⟩) hS (fun M13 H locs q14 hP hS => ?_)
                obtain ⟨hI, fq14, q14p⟩ := q14
                have hF := fr_call hF fq14 (fun a b q => by unfold mEr at q; unfold mVa; omega)
                refine lv_iconst (v := 0) hx hb d_Md_value_332 (by decide) ?_
                exact W.iret (v := 0) hx hb hr (fun t ht hW => ⟨⟨0, M13, rfl, ⟨hI, hF, Or.inr (by assumption)⟩, by unfold ux_E; rw [ht]; exact hP⟩, hS.F ht⟩) hS.2.2 d_Md_value_333
            · have g7 : ¬ (0 < (M4 0 34).toInt) := fun q => h7 (Int32.lt_iff_toInt_lt.mpr q)
              have w7 := ti_lo (M4 0 34)
              refine lv_aload_n hx hb d_Md_value_305 rfl (lv_at hl 0 rfl) ?_
              refine ux_get (C := R_Md) (T := F_Md) (N := 50) hx hb hT in_Md hown hK hP (by decide) rfl rfl 33 (by decide) (hT _ fl_Md_331) rfl d_Md_value_306 ?_
              refine lv_if_eq hx hb d_Md_value_309 rfl (fun h15 => ?_) (fun h15 => ?_)
              · have g15 : (M4 0 33).toInt = 0 := congrArg Int32.toInt h15
                refine lv_aload_n hx hb d_Md_value_334 rfl (lv_at hl 0 rfl) ?_
                refine ux_get (C := R_Md) (T := F_Md) (N := 50) hx hb hT in_Md hown hK hP (by decide) rfl rfl 30 (by decide) (hT _ fl_Md_82) rfl d_Md_value_335 ?_
                refine lv_iconst (v := 0) hx hb d_Md_value_338 (by decide) ?_
                refine ux_iald hx hb hK hP (by decide) rfl (vi (by decide) (by decide)) d_Md_value_339 ?_
                rw [show (0 : Int32).toNatClampNeg = 0 from rfl]
                exact W.iret (v := M4 23 0) hx hb hr (fun t ht hW => ⟨⟨M4 23 0, M4, rfl, ⟨hI, hF, Or.inl ⟨(fq5 _ _ (by unfold mIl; omega)).trans c50_7.1, (fq5 _ _ (by unfold mIl; omega)).trans c50_7.2⟩⟩, by unfold ux_E; rw [ht]; exact hP⟩, hS.F ht⟩) hS.2.2 d_Md_value_340
              · have g15 : ¬ ((M4 0 33).toInt = 0) := fun q => h15 (Int32.toInt_inj.mp q)
                refine lv_aload_n hx hb d_Md_value_312 rfl (lv_at hl 0 rfl) ?_
                refine lv_aload_n hx hb d_Md_value_313 rfl (lv_at hl 0 rfl) ?_
                refine ux_get (C := R_Md) (T := F_Md) (N := 50) hx hb hT in_Md hown hK hP (by decide) rfl rfl 34 (by decide) (hT _ fl_Md_328) rfl d_Md_value_314 ?_
                refine lv_if_le hx hb d_Md_value_317 rfl (fun h16 => ?_) (fun h16 => ?_)
                · have g16 : (M4 0 34).toInt ≤ 0 := Int32.le_iff_toInt_le.mp h16
                  have w16 := ti_lo (M4 0 34)
                  refine lv_bipush (v := 6) hx hb d_Md_value_327 (by decide) ?_
                  refine ux_callv (va_runV ⟨hx, hb, hml, hown, hts⟩ (s_Md_error l D ad cA A TB hA hB  M4 hI 6) (cwV 1 hts (tb_goodV ml_Md_166 im_Md_error se_Md_error ii_Md kt_Md_error) rfl rfl rfl (by decide +kernel) ⟨Nat.le_of_ble_eq_true rfl, Nat.le_of_ble_eq_true rfl⟩) (ux_preV (by decide) rfl rfl hP hK hi hN) rfl rfl hl.1 rfl (lv_room (Nat.le_of_ble_eq_true rfl)) d_Md_value_329 ⟨Nat.zero_le _, Nat.zero_le _⟩) hS (fun M18 H locs q19 hP hS => ?_)
                  obtain ⟨hI, fq19, q19p⟩ := q19
                  have hF := fr_call hF fq19 (fun a b q => by unfold mEr at q; unfold mVa; omega)
                  refine lv_iconst (v := 0) hx hb d_Md_value_332 (by decide) ?_
                  exact W.iret (v := 0) hx hb hr (fun t ht hW => ⟨⟨0, M18, rfl, ⟨hI, hF, Or.inr (by assumption)⟩, by unfold ux_E; rw [ht]; exact hP⟩, hS.F ht⟩) hS.2.2 d_Md_value_333
                · have g16 : ¬ ((M4 0 34).toInt ≤ 0) := fun q => h16 (Int32.le_iff_toInt_le.mpr q)
                  have u16 := ti_hi (M4 0 34)
                  refine lv_aload_n hx hb d_Md_value_320 rfl (lv_at hl 0 rfl) ?_
                  refine ux_get (C := R_Md) (T := F_Md) (N := 50) hx hb hT in_Md hown hK hP (by decide) rfl rfl 34 (by decide) (hT _ fl_Md_328) rfl d_Md_value_321 ?_
                  refine lv_goto hx hb d_Md_value_324 rfl ?_
                  refine ux_callv (va_runV ⟨hx, hb, hml, hown, hts⟩ (s_Md_error l D ad cA A TB hA hB  M4 hI (M4 0 34)) (cwV 1 hts (tb_goodV ml_Md_166 im_Md_error se_Md_error ii_Md kt_Md_error) rfl rfl rfl (by decide +kernel) ⟨Nat.le_of_ble_eq_true rfl, Nat.le_of_ble_eq_true rfl⟩) (ux_preV (by decide) rfl rfl hP hK hi hN) rfl rfl hl.1 rfl (lv_room (Nat.le_of_ble_eq_true rfl)) d_Md_value_329 ⟨Nat.zero_le _, Nat.zero_le _⟩) hS (fun M21 H locs q22 hP hS => ?_)
                  obtain ⟨hI, fq22, q22p⟩ := q22
                  have hF := fr_call hF fq22 (fun a b q => by unfold mEr at q; unfold mVa; omega)
                  refine lv_iconst (v := 0) hx hb d_Md_value_332 (by decide) ?_
                  exact W.iret (v := 0) hx hb hr (fun t ht hW => ⟨⟨0, M21, rfl, ⟨hI, hF, Or.inr (by assumption)⟩, by unfold ux_E; rw [ht]; exact hP⟩, hS.F ht⟩) hS.2.2 d_Md_value_333
          · have g6 : (M4 0 34).toInt = 0 := congrArg Int32.toInt h6
            refine lv_aload_n hx hb d_Md_value_293 rfl (lv_at hl 0 rfl) ?_
            refine lv_iconst (v := 1) hx hb d_Md_value_294 (by decide) ?_
            refine ux_callv (va_runV ⟨hx, hb, hml, hown, hts⟩ (s_Md_applyFrom l D ad cA A TB hA hB  M4 hI n1 v1 ((fq5 _ _ (by unfold mIl; omega)).trans (hg_n1)) ((fq5 _ _ (by unfold mIl; omega)).trans (hg_v1)) (by omega) (by omega) (by omega) 1 (by decide)) (cwV 1 hts (tb_goodV ml_Md_367 im_Md_applyFrom se_Md_applyFrom ii_Md kt_Md_applyFrom) rfl rfl rfl (by decide +kernel) ⟨Nat.le_of_ble_eq_true rfl, Nat.le_of_ble_eq_true rfl⟩) (ux_preV (by decide) rfl rfl hP hK hi hN) rfl rfl hl.1 rfl (lv_room (Nat.le_of_ble_eq_true rfl)) d_Md_value_295 ⟨Nat.zero_le _, Nat.zero_le _⟩) hS (fun M24 H locs q25 hP hS => ?_)
            obtain ⟨hI, fq25, q25p⟩ := q25
            have hF := fr_call hF fq25 (fun a b q => by unfold mAp at q; unfold mVa; omega)
            obtain ⟨n26, v27, hn26a, hv27a, hn26b, hv27b, hv27c, hn26d, hn26e⟩ := q25p
            rw [show (1 : Int32).toInt = 1 from rfl] at hn26e
            have hn26r : ∀ j, M24 22 j = M4 22 j := fun j => fq25 _ _ (by unfold mAp; omega)
            have hn26B : cP PB (M24 22) n26 = cP PB (M4 22) n26 := cP_cong _ (fun j _ => hn26r j)
            have hn264 : cP P40 (M24 22) n26 = cP P40 (M4 22) n26 := cP_cong _ (fun j _ => hn26r j)
            have hn26l := cP_le (P := P40) (f := M4 22) n26
            have hn26t := congrArg rk (congrArg Int32.toInt (hn26r (n26 - 1)))
            refine lv_aload_n hx hb d_Md_value_298 rfl (lv_at hl 0 rfl) ?_
            refine ux_get (C := R_Md) (T := F_Md) (N := 50) hx hb hT in_Md hown hK hP (by decide) rfl rfl 34 (by decide) (hT _ fl_Md_328) rfl d_Md_value_299 ?_
            refine lv_topi (fun z28 hz28 => ?_)
            rw [show M24 0 34 = M4 0 34 from fq25 _ _ (by unfold mAp; omega)] at hz28
            rw [hz28]
            refine lv_if_gt hx hb d_Md_value_302 rfl (fun h29 => ?_) (fun h29 => ?_)
            · have g29 : 0 < (M4 0 34).toInt := Int32.lt_iff_toInt_lt.mp h29
              have u29 := ti_hi (M4 0 34)
              refine lv_aload_n hx hb d_Md_value_312 rfl (lv_at hl 0 rfl) ?_
              refine lv_aload_n hx hb d_Md_value_313 rfl (lv_at hl 0 rfl) ?_
              refine ux_get (C := R_Md) (T := F_Md) (N := 50) hx hb hT in_Md hown hK hP (by decide) rfl rfl 34 (by decide) (hT _ fl_Md_328) rfl d_Md_value_314 ?_
              refine lv_topi (fun z30 hz30 => ?_)
              rw [show M24 0 34 = M4 0 34 from fq25 _ _ (by unfold mAp; omega)] at hz30
              rw [hz30]
              refine lv_if_le hx hb d_Md_value_317 rfl (fun h31 => ?_) (fun h31 => ?_)
              · have g31 : (M4 0 34).toInt ≤ 0 := Int32.le_iff_toInt_le.mp h31
                have w31 := ti_lo (M4 0 34)
                refine lv_bipush (v := 6) hx hb d_Md_value_327 (by decide) ?_
                refine ux_callv (va_runV ⟨hx, hb, hml, hown, hts⟩ (s_Md_error l D ad cA A TB hA hB  M24 hI 6) (cwV 1 hts (tb_goodV ml_Md_166 im_Md_error se_Md_error ii_Md kt_Md_error) rfl rfl rfl (by decide +kernel) ⟨Nat.le_of_ble_eq_true rfl, Nat.le_of_ble_eq_true rfl⟩) (ux_preV (by decide) rfl rfl hP hK hi hN) rfl rfl hl.1 rfl (lv_room (Nat.le_of_ble_eq_true rfl)) d_Md_value_329 ⟨Nat.zero_le _, Nat.zero_le _⟩) hS (fun M33 H locs q34 hP hS => ?_)
                obtain ⟨hI, fq34, q34p⟩ := q34
                have hF := fr_call hF fq34 (fun a b q => by unfold mEr at q; unfold mVa; omega)
                refine lv_iconst (v := 0) hx hb d_Md_value_332 (by decide) ?_
                exact W.iret (v := 0) hx hb hr (fun t ht hW => ⟨⟨0, M33, rfl, ⟨hI, hF, Or.inr (by assumption)⟩, by unfold ux_E; rw [ht]; exact hP⟩, hS.F ht⟩) hS.2.2 d_Md_value_333
              · have g31 : ¬ ((M4 0 34).toInt ≤ 0) := fun q => h31 (Int32.le_iff_toInt_le.mpr q)
                have u31 := ti_hi (M4 0 34)
                refine lv_aload_n hx hb d_Md_value_320 rfl (lv_at hl 0 rfl) ?_
                refine ux_get (C := R_Md) (T := F_Md) (N := 50) hx hb hT in_Md hown hK hP (by decide) rfl rfl 34 (by decide) (hT _ fl_Md_328) rfl d_Md_value_321 ?_
                refine lv_topi (fun z35 hz35 => ?_)
                rw [show M24 0 34 = M4 0 34 from fq25 _ _ (by unfold mAp; omega)] at hz35
                rw [hz35]
                refine lv_goto hx hb d_Md_value_324 rfl ?_
                refine ux_callv (va_runV ⟨hx, hb, hml, hown, hts⟩ (s_Md_error l D ad cA A TB hA hB  M24 hI (M4 0 34)) (cwV 1 hts (tb_goodV ml_Md_166 im_Md_error se_Md_error ii_Md kt_Md_error) rfl rfl rfl (by decide +kernel) ⟨Nat.le_of_ble_eq_true rfl, Nat.le_of_ble_eq_true rfl⟩) (ux_preV (by decide) rfl rfl hP hK hi hN) rfl rfl hl.1 rfl (lv_room (Nat.le_of_ble_eq_true rfl)) d_Md_value_329 ⟨Nat.zero_le _, Nat.zero_le _⟩) hS (fun M37 H locs q38 hP hS => ?_)
                obtain ⟨hI, fq38, q38p⟩ := q38
                have hF := fr_call hF fq38 (fun a b q => by unfold mEr at q; unfold mVa; omega)
                refine lv_iconst (v := 0) hx hb d_Md_value_332 (by decide) ?_
                exact W.iret (v := 0) hx hb hr (fun t ht hW => ⟨⟨0, M37, rfl, ⟨hI, hF, Or.inr (by assumption)⟩, by unfold ux_E; rw [ht]; exact hP⟩, hS.F ht⟩) hS.2.2 d_Md_value_333
            · have g29 : ¬ (0 < (M4 0 34).toInt) := fun q => h29 (Int32.lt_iff_toInt_lt.mpr q)
              have w29 := ti_lo (M4 0 34)
              refine lv_aload_n hx hb d_Md_value_305 rfl (lv_at hl 0 rfl) ?_
              refine ux_get (C := R_Md) (T := F_Md) (N := 50) hx hb hT in_Md hown hK hP (by decide) rfl rfl 33 (by decide) (hT _ fl_Md_331) rfl d_Md_value_306 ?_
              refine lv_if_eq hx hb d_Md_value_309 rfl (fun h39 => ?_) (fun h39 => ?_)
              · have g39 : (M24 0 33).toInt = 0 := congrArg Int32.toInt h39
                refine lv_aload_n hx hb d_Md_value_334 rfl (lv_at hl 0 rfl) ?_
                refine ux_get (C := R_Md) (T := F_Md) (N := 50) hx hb hT in_Md hown hK hP (by decide) rfl rfl 30 (by decide) (hT _ fl_Md_82) rfl d_Md_value_335 ?_
                refine lv_iconst (v := 0) hx hb d_Md_value_338 (by decide) ?_
                refine ux_iald hx hb hK hP (by decide) rfl (vi (by decide) (by decide)) d_Md_value_339 ?_
                rw [show (0 : Int32).toNatClampNeg = 0 from rfl]
                exact W.iret (v := M24 23 0) hx hb hr (fun t ht hW => ⟨⟨M24 23 0, M24, rfl, ⟨hI, hF, Or.inl ⟨((fq25 _ _ (by unfold mAp; omega)).trans (fq5 _ _ (by unfold mIl; omega))).trans c50_7.1, ((fq25 _ _ (by unfold mAp; omega)).trans (fq5 _ _ (by unfold mIl; omega))).trans c50_7.2⟩⟩, by unfold ux_E; rw [ht]; exact hP⟩, hS.F ht⟩) hS.2.2 d_Md_value_340
              · have g39 : ¬ ((M24 0 33).toInt = 0) := fun q => h39 (Int32.toInt_inj.mp q)
                refine lv_aload_n hx hb d_Md_value_312 rfl (lv_at hl 0 rfl) ?_
                refine lv_aload_n hx hb d_Md_value_313 rfl (lv_at hl 0 rfl) ?_
                refine ux_get (C := R_Md) (T := F_Md) (N := 50) hx hb hT in_Md hown hK hP (by decide) rfl rfl 34 (by decide) (hT _ fl_Md_328) rfl d_Md_value_314 ?_
                refine lv_topi (fun z40 hz40 => ?_)
                rw [show M24 0 34 = M4 0 34 from fq25 _ _ (by unfold mAp; omega)] at hz40
                rw [hz40]
                refine lv_if_le hx hb d_Md_value_317 rfl (fun h41 => ?_) (fun h41 => ?_)
                · have g41 : (M4 0 34).toInt ≤ 0 := Int32.le_iff_toInt_le.mp h41
                  have w41 := ti_lo (M4 0 34)
                  refine lv_bipush (v := 6) hx hb d_Md_value_327 (by decide) ?_
                  refine ux_callv (va_runV ⟨hx, hb, hml, hown, hts⟩ (s_Md_error l D ad cA A TB hA hB  M24 hI 6) (cwV 1 hts (tb_goodV ml_Md_166 im_Md_error se_Md_error ii_Md kt_Md_error) rfl rfl rfl (by decide +kernel) ⟨Nat.le_of_ble_eq_true rfl, Nat.le_of_ble_eq_true rfl⟩) (ux_preV (by decide) rfl rfl hP hK hi hN) rfl rfl hl.1 rfl (lv_room (Nat.le_of_ble_eq_true rfl)) d_Md_value_329 ⟨Nat.zero_le _, Nat.zero_le _⟩) hS (fun M43 H locs q44 hP hS => ?_)
                  obtain ⟨hI, fq44, q44p⟩ := q44
                  have hF := fr_call hF fq44 (fun a b q => by unfold mEr at q; unfold mVa; omega)
                  refine lv_iconst (v := 0) hx hb d_Md_value_332 (by decide) ?_
                  exact W.iret (v := 0) hx hb hr (fun t ht hW => ⟨⟨0, M43, rfl, ⟨hI, hF, Or.inr (by assumption)⟩, by unfold ux_E; rw [ht]; exact hP⟩, hS.F ht⟩) hS.2.2 d_Md_value_333
                · have g41 : ¬ ((M4 0 34).toInt ≤ 0) := fun q => h41 (Int32.le_iff_toInt_le.mpr q)
                  have u41 := ti_hi (M4 0 34)
                  refine lv_aload_n hx hb d_Md_value_320 rfl (lv_at hl 0 rfl) ?_
                  refine ux_get (C := R_Md) (T := F_Md) (N := 50) hx hb hT in_Md hown hK hP (by decide) rfl rfl 34 (by decide) (hT _ fl_Md_328) rfl d_Md_value_321 ?_
                  refine lv_topi (fun z45 hz45 => ?_)
                  rw [show M24 0 34 = M4 0 34 from fq25 _ _ (by unfold mAp; omega)] at hz45
                  rw [hz45]
                  refine lv_goto hx hb d_Md_value_324 rfl ?_
                  refine ux_callv (va_runV ⟨hx, hb, hml, hown, hts⟩ (s_Md_error l D ad cA A TB hA hB  M24 hI (M4 0 34)) (cwV 1 hts (tb_goodV ml_Md_166 im_Md_error se_Md_error ii_Md kt_Md_error) rfl rfl rfl (by decide +kernel) ⟨Nat.le_of_ble_eq_true rfl, Nat.le_of_ble_eq_true rfl⟩) (ux_preV (by decide) rfl rfl hP hK hi hN) rfl rfl hl.1 rfl (lv_room (Nat.le_of_ble_eq_true rfl)) d_Md_value_329 ⟨Nat.zero_le _, Nat.zero_le _⟩) hS (fun M47 H locs q48 hP hS => ?_)
                  obtain ⟨hI, fq48, q48p⟩ := q48
                  have hF := fr_call hF fq48 (fun a b q => by unfold mEr at q; unfold mVa; omega)
                  refine lv_iconst (v := 0) hx hb d_Md_value_332 (by decide) ?_
                  exact W.iret (v := 0) hx hb hr (fun t ht hW => ⟨⟨0, M47, rfl, ⟨hI, hF, Or.inr (by assumption)⟩, by unfold ux_E; rw [ht]; exact hP⟩, hS.F ht⟩) hS.2.2 d_Md_value_333
        · have g2 : i_5.toInt = 0 := congrArg Int32.toInt h2
          refine lv_iload hx hb d_Md_value_276 (lv_at hl 4 rfl) ?_
          refine lv_if_le hx hb d_Md_value_278 rfl (fun h49 => ?_) (fun h49 => ?_)
          · have g49 : ((k4 : Nat) : Int) ≤ 0 := by have q := Int32.le_iff_toInt_le.mp h49; rw [nI_toInt (n := k4) (by omega)] at q; exact q
            refine lv_aload_n hx hb d_Md_value_286 rfl (lv_at hl 0 rfl) ?_
            refine ux_get (C := R_Md) (T := F_Md) (N := 50) hx hb hT in_Md hown hK hP (by decide) rfl rfl 34 (by decide) (hT _ fl_Md_328) rfl d_Md_value_287 ?_
            refine lv_if_ne hx hb d_Md_value_290 rfl (fun h50 => ?_) (fun h50 => ?_)
            · have g50 : ¬ ((Mc50 0 34).toInt = 0) := fun q => h50 (Int32.toInt_inj.mp q)
              refine lv_aload_n hx hb d_Md_value_298 rfl (lv_at hl 0 rfl) ?_
              refine ux_get (C := R_Md) (T := F_Md) (N := 50) hx hb hT in_Md hown hK hP (by decide) rfl rfl 34 (by decide) (hT _ fl_Md_328) rfl d_Md_value_299 ?_
              refine lv_if_gt hx hb d_Md_value_302 rfl (fun h51 => ?_) (fun h51 => ?_)
              · have g51 : 0 < (Mc50 0 34).toInt := Int32.lt_iff_toInt_lt.mp h51
                have u51 := ti_hi (Mc50 0 34)
                refine lv_aload_n hx hb d_Md_value_312 rfl (lv_at hl 0 rfl) ?_
                refine lv_aload_n hx hb d_Md_value_313 rfl (lv_at hl 0 rfl) ?_
                refine ux_get (C := R_Md) (T := F_Md) (N := 50) hx hb hT in_Md hown hK hP (by decide) rfl rfl 34 (by decide) (hT _ fl_Md_328) rfl d_Md_value_314 ?_
                refine lv_if_le hx hb d_Md_value_317 rfl (fun h52 => ?_) (fun h52 => ?_)
                · have g52 : (Mc50 0 34).toInt ≤ 0 := Int32.le_iff_toInt_le.mp h52
                  have w52 := ti_lo (Mc50 0 34)
                  refine lv_bipush (v := 6) hx hb d_Md_value_327 (by decide) ?_
                  refine ux_callv (va_runV ⟨hx, hb, hml, hown, hts⟩ (s_Md_error l D ad cA A TB hA hB  Mc50 hI 6) (cwV 1 hts (tb_goodV ml_Md_166 im_Md_error se_Md_error ii_Md kt_Md_error) rfl rfl rfl (by decide +kernel) ⟨Nat.le_of_ble_eq_true rfl, Nat.le_of_ble_eq_true rfl⟩) (ux_preV (by decide) rfl rfl hP hK hi hN) rfl rfl hl.1 rfl (lv_room (Nat.le_of_ble_eq_true rfl)) d_Md_value_329 ⟨Nat.zero_le _, Nat.zero_le _⟩) hS (fun M54 H locs q55 hP hS => ?_)
                  obtain ⟨hI, fq55, q55p⟩ := q55
                  have hF := fr_call hF fq55 (fun a b q => by unfold mEr at q; unfold mVa; omega)
                  refine lv_iconst (v := 0) hx hb d_Md_value_332 (by decide) ?_
                  exact W.iret (v := 0) hx hb hr (fun t ht hW => ⟨⟨0, M54, rfl, ⟨hI, hF, Or.inr (by assumption)⟩, by unfold ux_E; rw [ht]; exact hP⟩, hS.F ht⟩) hS.2.2 d_Md_value_333
                · have g52 : ¬ ((Mc50 0 34).toInt ≤ 0) := fun q => h52 (Int32.le_iff_toInt_le.mpr q)
                  have u52 := ti_hi (Mc50 0 34)
                  refine lv_aload_n hx hb d_Md_value_320 rfl (lv_at hl 0 rfl) ?_
                  refine ux_get (C := R_Md) (T := F_Md) (N := 50) hx hb hT in_Md hown hK hP (by decide) rfl rfl 34 (by decide) (hT _ fl_Md_328) rfl d_Md_value_321 ?_
                  refine lv_goto hx hb d_Md_value_324 rfl ?_
                  refine ux_callv (va_runV ⟨hx, hb, hml, hown, hts⟩ (s_Md_error l D ad cA A TB hA hB  Mc50 hI (Mc50 0 34)) (cwV 1 hts (tb_goodV ml_Md_166 im_Md_error se_Md_error ii_Md kt_Md_error) rfl rfl rfl (by decide +kernel) ⟨Nat.le_of_ble_eq_true rfl, Nat.le_of_ble_eq_true rfl⟩) (ux_preV (by decide) rfl rfl hP hK hi hN) rfl rfl hl.1 rfl (lv_room (Nat.le_of_ble_eq_true rfl)) d_Md_value_329 ⟨Nat.zero_le _, Nat.zero_le _⟩) hS (fun M57 H locs q58 hP hS => ?_)
                  obtain ⟨hI, fq58, q58p⟩ := q58
                  have hF := fr_call hF fq58 (fun a b q => by unfold mEr at q; unfold mVa; omega)
                  refine lv_iconst (v := 0) hx hb d_Md_value_332 (by decide) ?_
                  exact W.iret (v := 0) hx hb hr (fun t ht hW => ⟨⟨0, M57, rfl, ⟨hI, hF, Or.inr (by assumption)⟩, by unfold ux_E; rw [ht]; exact hP⟩, hS.F ht⟩) hS.2.2 d_Md_value_333
              · have g51 : ¬ (0 < (Mc50 0 34).toInt) := fun q => h51 (Int32.lt_iff_toInt_lt.mpr q)
                have w51 := ti_lo (Mc50 0 34)
                refine lv_aload_n hx hb d_Md_value_305 rfl (lv_at hl 0 rfl) ?_
                refine ux_get (C := R_Md) (T := F_Md) (N := 50) hx hb hT in_Md hown hK hP (by decide) rfl rfl 33 (by decide) (hT _ fl_Md_331) rfl d_Md_value_306 ?_
                refine lv_if_eq hx hb d_Md_value_309 rfl (fun h59 => ?_) (fun h59 => ?_)
                · have g59 : (Mc50 0 33).toInt = 0 := congrArg Int32.toInt h59
                  refine lv_aload_n hx hb d_Md_value_334 rfl (lv_at hl 0 rfl) ?_
                  refine ux_get (C := R_Md) (T := F_Md) (N := 50) hx hb hT in_Md hown hK hP (by decide) rfl rfl 30 (by decide) (hT _ fl_Md_82) rfl d_Md_value_335 ?_
                  refine lv_iconst (v := 0) hx hb d_Md_value_338 (by decide) ?_
                  refine ux_iald hx hb hK hP (by decide) rfl (vi (by decide) (by decide)) d_Md_value_339 ?_
                  rw [show (0 : Int32).toNatClampNeg = 0 from rfl]
                  exact W.iret (v := Mc50 23 0) hx hb hr (fun t ht hW => ⟨⟨Mc50 23 0, Mc50, rfl, ⟨hI, hF, Or.inl ⟨(rfl).trans c50_7.1, (rfl).trans c50_7.2⟩⟩, by unfold ux_E; rw [ht]; exact hP⟩, hS.F ht⟩) hS.2.2 d_Md_value_340
                · have g59 : ¬ ((Mc50 0 33).toInt = 0) := fun q => h59 (Int32.toInt_inj.mp q)
                  refine lv_aload_n hx hb d_Md_value_312 rfl (lv_at hl 0 rfl) ?_
                  refine lv_aload_n hx hb d_Md_value_313 rfl (lv_at hl 0 rfl) ?_
                  refine ux_get (C := R_Md) (T := F_Md) (N := 50) hx hb hT in_Md hown hK hP (by decide) rfl rfl 34 (by decide) (hT _ fl_Md_328) rfl d_Md_value_314 ?_
                  refine lv_if_le hx hb d_Md_value_317 rfl (fun h60 => ?_) (fun h60 => ?_)
                  · have g60 : (Mc50 0 34).toInt ≤ 0 := Int32.le_iff_toInt_le.mp h60
                    have w60 := ti_lo (Mc50 0 34)
                    refine lv_bipush (v := 6) hx hb d_Md_value_327 (by decide) ?_
                    refine ux_callv (va_runV ⟨hx, hb, hml, hown, hts⟩ (s_Md_error l D ad cA A TB hA hB  Mc50 hI 6) (cwV 1 hts (tb_goodV ml_Md_166 im_Md_error se_Md_error ii_Md kt_Md_error) rfl rfl rfl (by decide +kernel) ⟨Nat.le_of_ble_eq_true rfl, Nat.le_of_ble_eq_true rfl⟩) (ux_preV (by decide) rfl rfl hP hK hi hN) rfl rfl hl.1 rfl (lv_room (Nat.le_of_ble_eq_true rfl)) d_Md_value_329 ⟨Nat.zero_le _, Nat.zero_le _⟩) hS (fun M62 H locs q63 hP hS => ?_)
                    obtain ⟨hI, fq63, q63p⟩ := q63
                    have hF := fr_call hF fq63 (fun a b q => by unfold mEr at q; unfold mVa; omega)
                    refine lv_iconst (v := 0) hx hb d_Md_value_332 (by decide) ?_
                    exact W.iret (v := 0) hx hb hr (fun t ht hW => ⟨⟨0, M62, rfl, ⟨hI, hF, Or.inr (by assumption)⟩, by unfold ux_E; rw [ht]; exact hP⟩, hS.F ht⟩) hS.2.2 d_Md_value_333
                  · have g60 : ¬ ((Mc50 0 34).toInt ≤ 0) := fun q => h60 (Int32.le_iff_toInt_le.mpr q)
                    have u60 := ti_hi (Mc50 0 34)
                    refine lv_aload_n hx hb d_Md_value_320 rfl (lv_at hl 0 rfl) ?_
                    refine ux_get (C := R_Md) (T := F_Md) (N := 50) hx hb hT in_Md hown hK hP (by decide) rfl rfl 34 (by decide) (hT _ fl_Md_328) rfl d_Md_value_321 ?_
                    refine lv_goto hx hb d_Md_value_324 rfl ?_
                    refine ux_callv (va_runV ⟨hx, hb, hml, hown, hts⟩ (s_Md_error l D ad cA A TB hA hB  Mc50 hI (Mc50 0 34)) (cwV 1 hts (tb_goodV ml_Md_166 im_Md_error se_Md_error ii_Md kt_Md_error) rfl rfl rfl (by decide +kernel) ⟨Nat.le_of_ble_eq_true rfl, Nat.le_of_ble_eq_true rfl⟩) (ux_preV (by decide) rfl rfl hP hK hi hN) rfl rfl hl.1 rfl (lv_room (Nat.le_of_ble_eq_true rfl)) d_Md_value_329 ⟨Nat.zero_le _, Nat.zero_le _⟩) hS (fun M65 H locs q66 hP hS => ?_)
                    obtain ⟨hI, fq66, q66p⟩ := q66
                    have hF := fr_call hF fq66 (fun a b q => by unfold mEr at q; unfold mVa; omega)
                    refine lv_iconst (v := 0) hx hb d_Md_value_332 (by decide) ?_
                    exact W.iret (v := 0) hx hb hr (fun t ht hW => ⟨⟨0, M65, rfl, ⟨hI, hF, Or.inr (by assumption)⟩, by unfold ux_E; rw [ht]; exact hP⟩, hS.F ht⟩) hS.2.2 d_Md_value_333
            · have g50 : (Mc50 0 34).toInt = 0 := congrArg Int32.toInt h50
              refine lv_aload_n hx hb d_Md_value_293 rfl (lv_at hl 0 rfl) ?_
              refine lv_iconst (v := 1) hx hb d_Md_value_294 (by decide) ?_
              refine ux_callv (va_runV ⟨hx, hb, hml, hown, hts⟩ (s_Md_applyFrom l D ad cA A TB hA hB  Mc50 hI n1 v1 (hg_n1) (hg_v1) (by omega) (by omega) (by omega) 1 (by decide)) (cwV 1 hts (tb_goodV ml_Md_367 im_Md_applyFrom se_Md_applyFrom ii_Md kt_Md_applyFrom) rfl rfl rfl (by decide +kernel) ⟨Nat.le_of_ble_eq_true rfl, Nat.le_of_ble_eq_true rfl⟩) (ux_preV (by decide) rfl rfl hP hK hi hN) rfl rfl hl.1 rfl (lv_room (Nat.le_of_ble_eq_true rfl)) d_Md_value_295 ⟨Nat.zero_le _, Nat.zero_le _⟩) hS (fun M68 H locs q69 hP hS => ?_)
              obtain ⟨hI, fq69, q69p⟩ := q69
              have hF := fr_call hF fq69 (fun a b q => by unfold mAp at q; unfold mVa; omega)
              obtain ⟨n70, v71, hn70a, hv71a, hn70b, hv71b, hv71c, hn70d, hn70e⟩ := q69p
              rw [show (1 : Int32).toInt = 1 from rfl] at hn70e
              have hn70r : ∀ j, M68 22 j = Mc50 22 j := fun j => fq69 _ _ (by unfold mAp; omega)
              have hn70B : cP PB (M68 22) n70 = cP PB (Mc50 22) n70 := cP_cong _ (fun j _ => hn70r j)
              have hn704 : cP P40 (M68 22) n70 = cP P40 (Mc50 22) n70 := cP_cong _ (fun j _ => hn70r j)
              have hn70l := cP_le (P := P40) (f := Mc50 22) n70
              have hn70t := congrArg rk (congrArg Int32.toInt (hn70r (n70 - 1)))
              refine lv_aload_n hx hb d_Md_value_298 rfl (lv_at hl 0 rfl) ?_
              refine ux_get (C := R_Md) (T := F_Md) (N := 50) hx hb hT in_Md hown hK hP (by decide) rfl rfl 34 (by decide) (hT _ fl_Md_328) rfl d_Md_value_299 ?_
              refine lv_topi (fun z72 hz72 => ?_)
              rw [show M68 0 34 = Mc50 0 34 from fq69 _ _ (by unfold mAp; omega)] at hz72
              rw [hz72]
              refine lv_if_gt hx hb d_Md_value_302 rfl (fun h73 => ?_) (fun h73 => ?_)
              · have g73 : 0 < (Mc50 0 34).toInt := Int32.lt_iff_toInt_lt.mp h73
                have u73 := ti_hi (Mc50 0 34)
                refine lv_aload_n hx hb d_Md_value_312 rfl (lv_at hl 0 rfl) ?_
                refine lv_aload_n hx hb d_Md_value_313 rfl (lv_at hl 0 rfl) ?_
                refine ux_get (C := R_Md) (T := F_Md) (N := 50) hx hb hT in_Md hown hK hP (by decide) rfl rfl 34 (by decide) (hT _ fl_Md_328) rfl d_Md_value_314 ?_
                refine lv_topi (fun z74 hz74 => ?_)
                rw [show M68 0 34 = Mc50 0 34 from fq69 _ _ (by unfold mAp; omega)] at hz74
                rw [hz74]
                refine lv_if_le hx hb d_Md_value_317 rfl (fun h75 => ?_) (fun h75 => ?_)
                · have g75 : (Mc50 0 34).toInt ≤ 0 := Int32.le_iff_toInt_le.mp h75
                  have w75 := ti_lo (Mc50 0 34)
                  refine lv_bipush (v := 6) hx hb d_Md_value_327 (by decide) ?_
                  refine ux_callv (va_runV ⟨hx, hb, hml, hown, hts⟩ (s_Md_error l D ad cA A TB hA hB  M68 hI 6) (cwV 1 hts (tb_goodV ml_Md_166 im_Md_error se_Md_error ii_Md kt_Md_error) rfl rfl rfl (by decide +kernel) ⟨Nat.le_of_ble_eq_true rfl, Nat.le_of_ble_eq_true rfl⟩) (ux_preV (by decide) rfl rfl hP hK hi hN) rfl rfl hl.1 rfl (lv_room (Nat.le_of_ble_eq_true rfl)) d_Md_value_329 ⟨Nat.zero_le _, Nat.zero_le _⟩) hS (fun M77 H locs q78 hP hS => ?_)
                  obtain ⟨hI, fq78, q78p⟩ := q78
                  have hF := fr_call hF fq78 (fun a b q => by unfold mEr at q; unfold mVa; omega)
                  refine lv_iconst (v := 0) hx hb d_Md_value_332 (by decide) ?_
                  exact W.iret (v := 0) hx hb hr (fun t ht hW => ⟨⟨0, M77, rfl, ⟨hI, hF, Or.inr (by assumption)⟩, by unfold ux_E; rw [ht]; exact hP⟩, hS.F ht⟩) hS.2.2 d_Md_value_333
                · have g75 : ¬ ((Mc50 0 34).toInt ≤ 0) := fun q => h75 (Int32.le_iff_toInt_le.mpr q)
                  have u75 := ti_hi (Mc50 0 34)
                  refine lv_aload_n hx hb d_Md_value_320 rfl (lv_at hl 0 rfl) ?_
                  refine ux_get (C := R_Md) (T := F_Md) (N := 50) hx hb hT in_Md hown hK hP (by decide) rfl rfl 34 (by decide) (hT _ fl_Md_328) rfl d_Md_value_321 ?_
                  refine lv_topi (fun z79 hz79 => ?_)
                  rw [show M68 0 34 = Mc50 0 34 from fq69 _ _ (by unfold mAp; omega)] at hz79
                  rw [hz79]
                  refine lv_goto hx hb d_Md_value_324 rfl ?_
                  refine ux_callv (va_runV ⟨hx, hb, hml, hown, hts⟩ (s_Md_error l D ad cA A TB hA hB  M68 hI (Mc50 0 34)) (cwV 1 hts (tb_goodV ml_Md_166 im_Md_error se_Md_error ii_Md kt_Md_error) rfl rfl rfl (by decide +kernel) ⟨Nat.le_of_ble_eq_true rfl, Nat.le_of_ble_eq_true rfl⟩) (ux_preV (by decide) rfl rfl hP hK hi hN) rfl rfl hl.1 rfl (lv_room (Nat.le_of_ble_eq_true rfl)) d_Md_value_329 ⟨Nat.zero_le _, Nat.zero_le _⟩) hS (fun M81 H locs q82 hP hS => ?_)
                  obtain ⟨hI, fq82, q82p⟩ := q82
                  have hF := fr_call hF fq82 (fun a b q => by unfold mEr at q; unfold mVa; omega)
                  refine lv_iconst (v := 0) hx hb d_Md_value_332 (by decide) ?_
                  exact W.iret (v := 0) hx hb hr (fun t ht hW => ⟨⟨0, M81, rfl, ⟨hI, hF, Or.inr (by assumption)⟩, by unfold ux_E; rw [ht]; exact hP⟩, hS.F ht⟩) hS.2.2 d_Md_value_333
              · have g73 : ¬ (0 < (Mc50 0 34).toInt) := fun q => h73 (Int32.lt_iff_toInt_lt.mpr q)
                have w73 := ti_lo (Mc50 0 34)
                refine lv_aload_n hx hb d_Md_value_305 rfl (lv_at hl 0 rfl) ?_
                refine ux_get (C := R_Md) (T := F_Md) (N := 50) hx hb hT in_Md hown hK hP (by decide) rfl rfl 33 (by decide) (hT _ fl_Md_331) rfl d_Md_value_306 ?_
                refine lv_if_eq hx hb d_Md_value_309 rfl (fun h83 => ?_) (fun h83 => ?_)
                · have g83 : (M68 0 33).toInt = 0 := congrArg Int32.toInt h83
                  refine lv_aload_n hx hb d_Md_value_334 rfl (lv_at hl 0 rfl) ?_
                  refine ux_get (C := R_Md) (T := F_Md) (N := 50) hx hb hT in_Md hown hK hP (by decide) rfl rfl 30 (by decide) (hT _ fl_Md_82) rfl d_Md_value_335 ?_
                  refine lv_iconst (v := 0) hx hb d_Md_value_338 (by decide) ?_
                  refine ux_iald hx hb hK hP (by decide) rfl (vi (by decide) (by decide)) d_Md_value_339 ?_
                  rw [show (0 : Int32).toNatClampNeg = 0 from rfl]
                  exact W.iret (v := M68 23 0) hx hb hr (fun t ht hW => ⟨⟨M68 23 0, M68, rfl, ⟨hI, hF, Or.inl ⟨(fq69 _ _ (by unfold mAp; omega)).trans c50_7.1, (fq69 _ _ (by unfold mAp; omega)).trans c50_7.2⟩⟩, by unfold ux_E; rw [ht]; exact hP⟩, hS.F ht⟩) hS.2.2 d_Md_value_340
                · have g83 : ¬ ((M68 0 33).toInt = 0) := fun q => h83 (Int32.toInt_inj.mp q)
                  refine lv_aload_n hx hb d_Md_value_312 rfl (lv_at hl 0 rfl) ?_
                  refine lv_aload_n hx hb d_Md_value_313 rfl (lv_at hl 0 rfl) ?_
                  refine ux_get (C := R_Md) (T := F_Md) (N := 50) hx hb hT in_Md hown hK hP (by decide) rfl rfl 34 (by decide) (hT _ fl_Md_328) rfl d_Md_value_314 ?_
                  refine lv_topi (fun z84 hz84 => ?_)
                  rw [show M68 0 34 = Mc50 0 34 from fq69 _ _ (by unfold mAp; omega)] at hz84
                  rw [hz84]
                  refine lv_if_le hx hb d_Md_value_317 rfl (fun h85 => ?_) (fun h85 => ?_)
                  · have g85 : (Mc50 0 34).toInt ≤ 0 := Int32.le_iff_toInt_le.mp h85
                    have w85 := ti_lo (Mc50 0 34)
                    refine lv_bipush (v := 6) hx hb d_Md_value_327 (by decide) ?_
                    refine ux_callv (va_runV ⟨hx, hb, hml, hown, hts⟩ (s_Md_error l D ad cA A TB hA hB  M68 hI 6) (cwV 1 hts (tb_goodV ml_Md_166 im_Md_error se_Md_error ii_Md kt_Md_error) rfl rfl rfl (by decide +kernel) ⟨Nat.le_of_ble_eq_true rfl, Nat.le_of_ble_eq_true rfl⟩) (ux_preV (by decide) rfl rfl hP hK hi hN) rfl rfl hl.1 rfl (lv_room (Nat.le_of_ble_eq_true rfl)) d_Md_value_329 ⟨Nat.zero_le _, Nat.zero_le _⟩) hS (fun M87 H locs q88 hP hS => ?_)
                    obtain ⟨hI, fq88, q88p⟩ := q88
                    have hF := fr_call hF fq88 (fun a b q => by unfold mEr at q; unfold mVa; omega)
                    refine lv_iconst (v := 0) hx hb d_Md_value_332 (by decide) ?_
                    exact W.iret (v := 0) hx hb hr (fun t ht hW => ⟨⟨0, M87, rfl, ⟨hI, hF, Or.inr (by assumption)⟩, by unfold ux_E; rw [ht]; exact hP⟩, hS.F ht⟩) hS.2.2 d_Md_value_333
                  · have g85 : ¬ ((Mc50 0 34).toInt ≤ 0) := fun q => h85 (Int32.le_iff_toInt_le.mpr q)
                    have u85 := ti_hi (Mc50 0 34)
                    refine lv_aload_n hx hb d_Md_value_320 rfl (lv_at hl 0 rfl) ?_
                    refine ux_get (C := R_Md) (T := F_Md) (N := 50) hx hb hT in_Md hown hK hP (by decide) rfl rfl 34 (by decide) (hT _ fl_Md_328) rfl d_Md_value_321 ?_
                    refine lv_topi (fun z89 hz89 => ?_)
                    rw [show M68 0 34 = Mc50 0 34 from fq69 _ _ (by unfold mAp; omega)] at hz89
                    rw [hz89]
                    refine lv_goto hx hb d_Md_value_324 rfl ?_
                    refine ux_callv (va_runV ⟨hx, hb, hml, hown, hts⟩ (s_Md_error l D ad cA A TB hA hB  M68 hI (Mc50 0 34)) (cwV 1 hts (tb_goodV ml_Md_166 im_Md_error se_Md_error ii_Md kt_Md_error) rfl rfl rfl (by decide +kernel) ⟨Nat.le_of_ble_eq_true rfl, Nat.le_of_ble_eq_true rfl⟩) (ux_preV (by decide) rfl rfl hP hK hi hN) rfl rfl hl.1 rfl (lv_room (Nat.le_of_ble_eq_true rfl)) d_Md_value_329 ⟨Nat.zero_le _, Nat.zero_le _⟩) hS (fun M91 H locs q92 hP hS => ?_)
                    obtain ⟨hI, fq92, q92p⟩ := q92
                    have hF := fr_call hF fq92 (fun a b q => by unfold mEr at q; unfold mVa; omega)
                    refine lv_iconst (v := 0) hx hb d_Md_value_332 (by decide) ?_
                    exact W.iret (v := 0) hx hb hr (fun t ht hW => ⟨⟨0, M91, rfl, ⟨hI, hF, Or.inr (by assumption)⟩, by unfold ux_E; rw [ht]; exact hP⟩, hS.F ht⟩) hS.2.2 d_Md_value_333
          · have g49 : ¬ (((k4 : Nat) : Int) ≤ 0) := fun q => h49 (Int32.le_iff_toInt_le.mpr (by rw [nI_toInt (n := k4) (by omega)]; exact q))
            refine lv_aload_n hx hb d_Md_value_281 rfl (lv_at hl 0 rfl) ?_
            refine lv_iconst (v := 1) hx hb d_Md_value_282 (by decide) ?_
            refine ux_callv (va_runV ⟨hx, hb, hml, hown, hts⟩ (s_Md_ill l D ad cA A TB hA hB  Mc50 hI 1) (cwV 1 hts (tb_goodV ml_Md_354 im_Md_ill se_Md_ill ii_Md kt_Md_ill) rfl rfl rfl (by decide +kernel) ⟨Nat.le_of_ble_eq_true rfl, Nat.le_of_ble_eq_true rfl⟩) (ux_preV (by decide) rfl rfl hP hK hi hN) rfl rfl hl.1 rfl (lv_room (Nat.le_of_ble_eq_true rfl)) d_Md_value_283 ⟨Nat.zero_le _, Nat.zero_le _⟩) hS (fun M94 H locs q95 hP hS => ?_)
            obtain ⟨hI, fq95, q95p⟩ := q95
            have hF := fr_call hF fq95 (fun a b q => by unfold mIl at q; unfold mVa; omega)
            rw [show (1 : Int32).toInt = 1 from rfl] at q95p
            refine lv_aload_n hx hb d_Md_value_286 rfl (lv_at hl 0 rfl) ?_
            refine ux_get (C := R_Md) (T := F_Md) (N := 50) hx hb hT in_Md hown hK hP (by decide) rfl rfl 34 (by decide) (hT _ fl_Md_328) rfl d_Md_value_287 ?_
            refine lv_if_ne hx hb d_Md_value_290 rfl (fun h96 => ?_) (fun h96 => ?_)
            · have g96 : ¬ ((M94 0 34).toInt = 0) := fun q => h96 (Int32.toInt_inj.mp q)
              refine lv_aload_n hx hb d_Md_value_298 rfl (lv_at hl 0 rfl) ?_
              refine ux_get (C := R_Md) (T := F_Md) (N := 50) hx hb hT in_Md hown hK hP (by decide) rfl rfl 34 (by decide) (hT _ fl_Md_328) rfl d_Md_value_299 ?_
              refine lv_if_gt hx hb d_Md_value_302 rfl (fun h97 => ?_) (fun h97 => ?_)
              · have g97 : 0 < (M94 0 34).toInt := Int32.lt_iff_toInt_lt.mp h97
                have u97 := ti_hi (M94 0 34)
                refine lv_aload_n hx hb d_Md_value_312 rfl (lv_at hl 0 rfl) ?_
                refine lv_aload_n hx hb d_Md_value_313 rfl (lv_at hl 0 rfl) ?_
                refine ux_get (C := R_Md) (T := F_Md) (N := 50) hx hb hT in_Md hown hK hP (by decide) rfl rfl 34 (by decide) (hT _ fl_Md_328) rfl d_Md_value_314 ?_
                refine lv_if_le hx hb d_Md_value_317 rfl (fun h98 => ?_) (fun h98 => ?_)
                · have g98 : (M94 0 34).toInt ≤ 0 := Int32.le_iff_toInt_le.mp h98
                  have w98 := ti_lo (M94 0 34)
                  refine lv_bipush (v := 6) hx hb d_Md_value_327 (by decide) ?_
                  refine ux_callv (va_runV ⟨hx, hb, hml, hown, hts⟩ (s_Md_error l D ad cA A TB hA hB  M94 hI 6) (cwV 1 hts (tb_goodV ml_Md_166 im_Md_error se_Md_error ii_Md kt_Md_error) rfl rfl rfl (by decide +kernel) ⟨Nat.le_of_ble_eq_true rfl, Nat.le_of_ble_eq_true rfl⟩) (ux_preV (by decide) rfl rfl hP hK hi hN) rfl rfl hl.1 rfl (lv_room (Nat.le_of_ble_eq_true rfl)) d_Md_value_329 ⟨Nat.zero_le _, Nat.zero_le _⟩) hS (fun M100 H locs q101 hP hS => ?_)
                  obtain ⟨hI, fq101, q101p⟩ := q101
                  have hF := fr_call hF fq101 (fun a b q => by unfold mEr at q; unfold mVa; omega)
                  refine lv_iconst (v := 0) hx hb d_Md_value_332 (by decide) ?_
                  exact W.iret (v := 0) hx hb hr (fun t ht hW => ⟨⟨0, M100, rfl, ⟨hI, hF, Or.inr (by assumption)⟩, by unfold ux_E; rw [ht]; exact hP⟩, hS.F ht⟩) hS.2.2 d_Md_value_333
                · have g98 : ¬ ((M94 0 34).toInt ≤ 0) := fun q => h98 (Int32.le_iff_toInt_le.mpr q)
                  have u98 := ti_hi (M94 0 34)
                  refine lv_aload_n hx hb d_Md_value_320 rfl (lv_at hl 0 rfl) ?_
                  refine ux_get (C := R_Md) (T := F_Md) (N := 50) hx hb hT in_Md hown hK hP (by decide) rfl rfl 34 (by decide) (hT _ fl_Md_328) rfl d_Md_value_321 ?_
                  refine lv_goto hx hb d_Md_value_324 rfl ?_
                  refine ux_callv (va_runV ⟨hx, hb, hml, hown, hts⟩ (s_Md_error l D ad cA A TB hA hB  M94 hI (M94 0 34)) (cwV 1 hts (tb_goodV ml_Md_166 im_Md_error se_Md_error ii_Md kt_Md_error) rfl rfl rfl (by decide +kernel) ⟨Nat.le_of_ble_eq_true rfl, Nat.le_of_ble_eq_true rfl⟩) (ux_preV (by decide) rfl rfl hP hK hi hN) rfl rfl hl.1 rfl (lv_room (Nat.le_of_ble_eq_true rfl)) d_Md_value_329 ⟨Nat.zero_le _, Nat.zero_le _⟩) hS (fun M103 H locs q104 hP hS => ?_)
                  obtain ⟨hI, fq104, q104p⟩ := q104
                  have hF := fr_call hF fq104 (fun a b q => by unfold mEr at q; unfold mVa; omega)
                  refine lv_iconst (v := 0) hx hb d_Md_value_332 (by decide) ?_
                  exact W.iret (v := 0) hx hb hr (fun t ht hW => ⟨⟨0, M103, rfl, ⟨hI, hF, Or.inr (by assumption)⟩, by unfold ux_E; rw [ht]; exact hP⟩, hS.F ht⟩) hS.2.2 d_Md_value_333
              · have g97 : ¬ (0 < (M94 0 34).toInt) := fun q => h97 (Int32.lt_iff_toInt_lt.mpr q)
                have w97 := ti_lo (M94 0 34)
                refine lv_aload_n hx hb d_Md_value_305 rfl (lv_at hl 0 rfl) ?_
                refine ux_get (C := R_Md) (T := F_Md) (N := 50) hx hb hT in_Md hown hK hP (by decide) rfl rfl 33 (by decide) (hT _ fl_Md_331) rfl d_Md_value_306 ?_
                refine lv_if_eq hx hb d_Md_value_309 rfl (fun h105 => ?_) (fun h105 => ?_)
                · have g105 : (M94 0 33).toInt = 0 := congrArg Int32.toInt h105
                  refine lv_aload_n hx hb d_Md_value_334 rfl (lv_at hl 0 rfl) ?_
                  refine ux_get (C := R_Md) (T := F_Md) (N := 50) hx hb hT in_Md hown hK hP (by decide) rfl rfl 30 (by decide) (hT _ fl_Md_82) rfl d_Md_value_335 ?_
                  refine lv_iconst (v := 0) hx hb d_Md_value_338 (by decide) ?_
                  refine ux_iald hx hb hK hP (by decide) rfl (vi (by decide) (by decide)) d_Md_value_339 ?_
                  rw [show (0 : Int32).toNatClampNeg = 0 from rfl]
                  exact W.iret (v := M94 23 0) hx hb hr (fun t ht hW => ⟨⟨M94 23 0, M94, rfl, ⟨hI, hF, Or.inl ⟨(fq95 _ _ (by unfold mIl; omega)).trans c50_7.1, (fq95 _ _ (by unfold mIl; omega)).trans c50_7.2⟩⟩, by unfold ux_E; rw [ht]; exact hP⟩, hS.F ht⟩) hS.2.2 d_Md_value_340
                · have g105 : ¬ ((M94 0 33).toInt = 0) := fun q => h105 (Int32.toInt_inj.mp q)
                  refine lv_aload_n hx hb d_Md_value_312 rfl (lv_at hl 0 rfl) ?_
                  refine lv_aload_n hx hb d_Md_value_313 rfl (lv_at hl 0 rfl) ?_
                  refine ux_get (C := R_Md) (T := F_Md) (N := 50) hx hb hT in_Md hown hK hP (by decide) rfl rfl 34 (by decide) (hT _ fl_Md_328) rfl d_Md_value_314 ?_
                  refine lv_if_le hx hb d_Md_value_317 rfl (fun h106 => ?_) (fun h106 => ?_)
                  · have g106 : (M94 0 34).toInt ≤ 0 := Int32.le_iff_toInt_le.mp h106
                    have w106 := ti_lo (M94 0 34)
                    refine lv_bipush (v := 6) hx hb d_Md_value_327 (by decide) ?_
                    refine ux_callv (va_runV ⟨hx, hb, hml, hown, hts⟩ (s_Md_error l D ad cA A TB hA hB  M94 hI 6) (cwV 1 hts (tb_goodV ml_Md_166 im_Md_error se_Md_error ii_Md kt_Md_error) rfl rfl rfl (by decide +kernel) ⟨Nat.le_of_ble_eq_true rfl, Nat.le_of_ble_eq_true rfl⟩) (ux_preV (by decide) rfl rfl hP hK hi hN) rfl rfl hl.1 rfl (lv_room (Nat.le_of_ble_eq_true rfl)) d_Md_value_329 ⟨Nat.zero_le _, Nat.zero_le _⟩) hS (fun M108 H locs q109 hP hS => ?_)
                    obtain ⟨hI, fq109, q109p⟩ := q109
                    have hF := fr_call hF fq109 (fun a b q => by unfold mEr at q; unfold mVa; omega)
                    refine lv_iconst (v := 0) hx hb d_Md_value_332 (by decide) ?_
                    exact W.iret (v := 0) hx hb hr (fun t ht hW => ⟨⟨0, M108, rfl, ⟨hI, hF, Or.inr (by assumption)⟩, by unfold ux_E; rw [ht]; exact hP⟩, hS.F ht⟩) hS.2.2 d_Md_value_333
                  · have g106 : ¬ ((M94 0 34).toInt ≤ 0) := fun q => h106 (Int32.le_iff_toInt_le.mpr q)
                    have u106 := ti_hi (M94 0 34)
                    refine lv_aload_n hx hb d_Md_value_320 rfl (lv_at hl 0 rfl) ?_
                    refine ux_get (C := R_Md) (T := F_Md) (N := 50) hx hb hT in_Md hown hK hP (by decide) rfl rfl 34 (by decide) (hT _ fl_Md_328) rfl d_Md_value_321 ?_
                    refine lv_goto hx hb d_Md_value_324 rfl ?_
                    refine ux_callv (va_runV ⟨hx, hb, hml, hown, hts⟩ (s_Md_error l D ad cA A TB hA hB  M94 hI (M94 0 34)) (cwV 1 hts (tb_goodV ml_Md_166 im_Md_error se_Md_error ii_Md kt_Md_error) rfl rfl rfl (by decide +kernel) ⟨Nat.le_of_ble_eq_true rfl, Nat.le_of_ble_eq_true rfl⟩) (ux_preV (by decide) rfl rfl hP hK hi hN) rfl rfl hl.1 rfl (lv_room (Nat.le_of_ble_eq_true rfl)) d_Md_value_329 ⟨Nat.zero_le _, Nat.zero_le _⟩) hS (fun M111 H locs q112 hP hS => ?_)
                    obtain ⟨hI, fq112, q112p⟩ := q112
                    have hF := fr_call hF fq112 (fun a b q => by unfold mEr at q; unfold mVa; omega)
                    refine lv_iconst (v := 0) hx hb d_Md_value_332 (by decide) ?_
                    exact W.iret (v := 0) hx hb hr (fun t ht hW => ⟨⟨0, M111, rfl, ⟨hI, hF, Or.inr (by assumption)⟩, by unfold ux_E; rw [ht]; exact hP⟩, hS.F ht⟩) hS.2.2 d_Md_value_333
            · have g96 : (M94 0 34).toInt = 0 := congrArg Int32.toInt h96
              refine lv_aload_n hx hb d_Md_value_293 rfl (lv_at hl 0 rfl) ?_
              refine lv_iconst (v := 1) hx hb d_Md_value_294 (by decide) ?_
              refine ux_callv (va_runV ⟨hx, hb, hml, hown, hts⟩ (s_Md_applyFrom l D ad cA A TB hA hB  M94 hI n1 v1 ((fq95 _ _ (by unfold mIl; omega)).trans (hg_n1)) ((fq95 _ _ (by unfold mIl; omega)).trans (hg_v1)) (by omega) (by omega) (by omega) 1 (by decide)) (cwV 1 hts (tb_goodV ml_Md_367 im_Md_applyFrom se_Md_applyFrom ii_Md kt_Md_applyFrom) rfl rfl rfl (by decide +kernel) ⟨Nat.le_of_ble_eq_true rfl, Nat.le_of_ble_eq_true rfl⟩) (ux_preV (by decide) rfl rfl hP hK hi hN) rfl rfl hl.1 rfl (lv_room (Nat.le_of_ble_eq_true rfl)) d_Md_value_295 ⟨Nat.zero_le _, Nat.zero_le _⟩) hS (fun M114 H locs q115 hP hS => ?_)
              obtain ⟨hI, fq115, q115p⟩ := q115
              have hF := fr_call hF fq115 (fun a b q => by unfold mAp at q; unfold mVa; omega)
              obtain ⟨n116, v117, hn116a, hv117a, hn116b, hv117b, hv117c, hn116d, hn116e⟩ := q115p
              rw [show (1 : Int32).toInt = 1 from rfl] at hn116e
              have hn116r : ∀ j, M114 22 j = M94 22 j := fun j => fq115 _ _ (by unfold mAp; omega)
              have hn116B : cP PB (M114 22) n116 = cP PB (M94 22) n116 := cP_cong _ (fun j _ => hn116r j)
              have hn1164 : cP P40 (M114 22) n116 = cP P40 (M94 22) n116 := cP_cong _ (fun j _ => hn116r j)
              have hn116l := cP_le (P := P40) (f := M94 22) n116
              have hn116t := congrArg rk (congrArg Int32.toInt (hn116r (n116 - 1)))
              refine lv_aload_n hx hb d_Md_value_298 rfl (lv_at hl 0 rfl) ?_
              refine ux_get (C := R_Md) (T := F_Md) (N := 50) hx hb hT in_Md hown hK hP (by decide) rfl rfl 34 (by decide) (hT _ fl_Md_328) rfl d_Md_value_299 ?_
              refine lv_topi (fun z118 hz118 => ?_)
              rw [show M114 0 34 = M94 0 34 from fq115 _ _ (by unfold mAp; omega)] at hz118
              rw [hz118]
              refine lv_if_gt hx hb d_Md_value_302 rfl (fun h119 => ?_) (fun h119 => ?_)
              · have g119 : 0 < (M94 0 34).toInt := Int32.lt_iff_toInt_lt.mp h119
                have u119 := ti_hi (M94 0 34)
                refine lv_aload_n hx hb d_Md_value_312 rfl (lv_at hl 0 rfl) ?_
                refine lv_aload_n hx hb d_Md_value_313 rfl (lv_at hl 0 rfl) ?_
                refine ux_get (C := R_Md) (T := F_Md) (N := 50) hx hb hT in_Md hown hK hP (by decide) rfl rfl 34 (by decide) (hT _ fl_Md_328) rfl d_Md_value_314 ?_
                refine lv_topi (fun z120 hz120 => ?_)
                rw [show M114 0 34 = M94 0 34 from fq115 _ _ (by unfold mAp; omega)] at hz120
                rw [hz120]
                refine lv_if_le hx hb d_Md_value_317 rfl (fun h121 => ?_) (fun h121 => ?_)
                · have g121 : (M94 0 34).toInt ≤ 0 := Int32.le_iff_toInt_le.mp h121
                  have w121 := ti_lo (M94 0 34)
                  refine lv_bipush (v := 6) hx hb d_Md_value_327 (by decide) ?_
                  refine ux_callv (va_runV ⟨hx, hb, hml, hown, hts⟩ (s_Md_error l D ad cA A TB hA hB  M114 hI 6) (cwV 1 hts (tb_goodV ml_Md_166 im_Md_error se_Md_error ii_Md kt_Md_error) rfl rfl rfl (by decide +kernel) ⟨Nat.le_of_ble_eq_true rfl, Nat.le_of_ble_eq_true rfl⟩) (ux_preV (by decide) rfl rfl hP hK hi hN) rfl rfl hl.1 rfl (lv_room (Nat.le_of_ble_eq_true rfl)) d_Md_value_329 ⟨Nat.zero_le _, Nat.zero_le _⟩) hS (fun M123 H locs q124 hP hS => ?_)
                  obtain ⟨hI, fq124, q124p⟩ := q124
                  have hF := fr_call hF fq124 (fun a b q => by unfold mEr at q; unfold mVa; omega)
                  refine lv_iconst (v := 0) hx hb d_Md_value_332 (by decide) ?_
                  exact W.iret (v := 0) hx hb hr (fun t ht hW => ⟨⟨0, M123, rfl, ⟨hI, hF, Or.inr (by assumption)⟩, by unfold ux_E; rw [ht]; exact hP⟩, hS.F ht⟩) hS.2.2 d_Md_value_333
                · have g121 : ¬ ((M94 0 34).toInt ≤ 0) := fun q => h121 (Int32.le_iff_toInt_le.mpr q)
                  have u121 := ti_hi (M94 0 34)
                  refine lv_aload_n hx hb d_Md_value_320 rfl (lv_at hl 0 rfl) ?_
                  refine ux_get (C := R_Md) (T := F_Md) (N := 50) hx hb hT in_Md hown hK hP (by decide) rfl rfl 34 (by decide) (hT _ fl_Md_328) rfl d_Md_value_321 ?_
                  refine lv_topi (fun z125 hz125 => ?_)
                  rw [show M114 0 34 = M94 0 34 from fq115 _ _ (by unfold mAp; omega)] at hz125
                  rw [hz125]
                  refine lv_goto hx hb d_Md_value_324 rfl ?_
                  refine ux_callv (va_runV ⟨hx, hb, hml, hown, hts⟩ (s_Md_error l D ad cA A TB hA hB  M114 hI (M94 0 34)) (cwV 1 hts (tb_goodV ml_Md_166 im_Md_error se_Md_error ii_Md kt_Md_error) rfl rfl rfl (by decide +kernel) ⟨Nat.le_of_ble_eq_true rfl, Nat.le_of_ble_eq_true rfl⟩) (ux_preV (by decide) rfl rfl hP hK hi hN) rfl rfl hl.1 rfl (lv_room (Nat.le_of_ble_eq_true rfl)) d_Md_value_329 ⟨Nat.zero_le _, Nat.zero_le _⟩) hS (fun M127 H locs q128 hP hS => ?_)
                  obtain ⟨hI, fq128, q128p⟩ := q128
                  have hF := fr_call hF fq128 (fun a b q => by unfold mEr at q; unfold mVa; omega)
                  refine lv_iconst (v := 0) hx hb d_Md_value_332 (by decide) ?_
                  exact W.iret (v := 0) hx hb hr (fun t ht hW => ⟨⟨0, M127, rfl, ⟨hI, hF, Or.inr (by assumption)⟩, by unfold ux_E; rw [ht]; exact hP⟩, hS.F ht⟩) hS.2.2 d_Md_value_333
              · have g119 : ¬ (0 < (M94 0 34).toInt) := fun q => h119 (Int32.lt_iff_toInt_lt.mpr q)
                have w119 := ti_lo (M94 0 34)
                refine lv_aload_n hx hb d_Md_value_305 rfl (lv_at hl 0 rfl) ?_
                refine ux_get (C := R_Md) (T := F_Md) (N := 50) hx hb hT in_Md hown hK hP (by decide) rfl rfl 33 (by decide) (hT _ fl_Md_331) rfl d_Md_value_306 ?_
                refine lv_if_eq hx hb d_Md_value_309 rfl (fun h129 => ?_) (fun h129 => ?_)
                · have g129 : (M114 0 33).toInt = 0 := congrArg Int32.toInt h129
                  refine lv_aload_n hx hb d_Md_value_334 rfl (lv_at hl 0 rfl) ?_
                  refine ux_get (C := R_Md) (T := F_Md) (N := 50) hx hb hT in_Md hown hK hP (by decide) rfl rfl 30 (by decide) (hT _ fl_Md_82) rfl d_Md_value_335 ?_
                  refine lv_iconst (v := 0) hx hb d_Md_value_338 (by decide) ?_
                  refine ux_iald hx hb hK hP (by decide) rfl (vi (by decide) (by decide)) d_Md_value_339 ?_
                  rw [show (0 : Int32).toNatClampNeg = 0 from rfl]
                  exact W.iret (v := M114 23 0) hx hb hr (fun t ht hW => ⟨⟨M114 23 0, M114, rfl, ⟨hI, hF, Or.inl ⟨((fq115 _ _ (by unfold mAp; omega)).trans (fq95 _ _ (by unfold mIl; omega))).trans c50_7.1, ((fq115 _ _ (by unfold mAp; omega)).trans (fq95 _ _ (by unfold mIl; omega))).trans c50_7.2⟩⟩, by unfold ux_E; rw [ht]; exact hP⟩, hS.F ht⟩) hS.2.2 d_Md_value_340
                · have g129 : ¬ ((M114 0 33).toInt = 0) := fun q => h129 (Int32.toInt_inj.mp q)
                  refine lv_aload_n hx hb d_Md_value_312 rfl (lv_at hl 0 rfl) ?_
                  refine lv_aload_n hx hb d_Md_value_313 rfl (lv_at hl 0 rfl) ?_
                  refine ux_get (C := R_Md) (T := F_Md) (N := 50) hx hb hT in_Md hown hK hP (by decide) rfl rfl 34 (by decide) (hT _ fl_Md_328) rfl d_Md_value_314 ?_
                  refine lv_topi (fun z130 hz130 => ?_)
                  rw [show M114 0 34 = M94 0 34 from fq115 _ _ (by unfold mAp; omega)] at hz130
                  rw [hz130]
                  refine lv_if_le hx hb d_Md_value_317 rfl (fun h131 => ?_) (fun h131 => ?_)
                  · have g131 : (M94 0 34).toInt ≤ 0 := Int32.le_iff_toInt_le.mp h131
                    have w131 := ti_lo (M94 0 34)
                    refine lv_bipush (v := 6) hx hb d_Md_value_327 (by decide) ?_
                    refine ux_callv (va_runV ⟨hx, hb, hml, hown, hts⟩ (s_Md_error l D ad cA A TB hA hB  M114 hI 6) (cwV 1 hts (tb_goodV ml_Md_166 im_Md_error se_Md_error ii_Md kt_Md_error) rfl rfl rfl (by decide +kernel) ⟨Nat.le_of_ble_eq_true rfl, Nat.le_of_ble_eq_true rfl⟩) (ux_preV (by decide) rfl rfl hP hK hi hN) rfl rfl hl.1 rfl (lv_room (Nat.le_of_ble_eq_true rfl)) d_Md_value_329 ⟨Nat.zero_le _, Nat.zero_le _⟩) hS (fun M133 H locs q134 hP hS => ?_)
                    obtain ⟨hI, fq134, q134p⟩ := q134
                    have hF := fr_call hF fq134 (fun a b q => by unfold mEr at q; unfold mVa; omega)
                    refine lv_iconst (v := 0) hx hb d_Md_value_332 (by decide) ?_
                    exact W.iret (v := 0) hx hb hr (fun t ht hW => ⟨⟨0, M133, rfl, ⟨hI, hF, Or.inr (by assumption)⟩, by unfold ux_E; rw [ht]; exact hP⟩, hS.F ht⟩) hS.2.2 d_Md_value_333
                  · have g131 : ¬ ((M94 0 34).toInt ≤ 0) := fun q => h131 (Int32.le_iff_toInt_le.mpr q)
                    have u131 := ti_hi (M94 0 34)
                    refine lv_aload_n hx hb d_Md_value_320 rfl (lv_at hl 0 rfl) ?_
                    refine ux_get (C := R_Md) (T := F_Md) (N := 50) hx hb hT in_Md hown hK hP (by decide) rfl rfl 34 (by decide) (hT _ fl_Md_328) rfl d_Md_value_321 ?_
                    refine lv_topi (fun z135 hz135 => ?_)
                    rw [show M114 0 34 = M94 0 34 from fq115 _ _ (by unfold mAp; omega)] at hz135
                    rw [hz135]
                    refine lv_goto hx hb d_Md_value_324 rfl ?_
                    refine ux_callv (va_runV ⟨hx, hb, hml, hown, hts⟩ (s_Md_error l D ad cA A TB hA hB  M114 hI (M94 0 34)) (cwV 1 hts (tb_goodV ml_Md_166 im_Md_error se_Md_error ii_Md kt_Md_error) rfl rfl rfl (by decide +kernel) ⟨Nat.le_of_ble_eq_true rfl, Nat.le_of_ble_eq_true rfl⟩) (ux_preV (by decide) rfl rfl hP hK hi hN) rfl rfl hl.1 rfl (lv_room (Nat.le_of_ble_eq_true rfl)) d_Md_value_329 ⟨Nat.zero_le _, Nat.zero_le _⟩) hS (fun M137 H locs q138 hP hS => ?_)
                    obtain ⟨hI, fq138, q138p⟩ := q138
                    have hF := fr_call hF fq138 (fun a b q => by unfold mEr at q; unfold mVa; omega)
                    refine lv_iconst (v := 0) hx hb d_Md_value_332 (by decide) ?_
                    exact W.iret (v := 0) hx hb hr (fun t ht hW => ⟨⟨0, M137, rfl, ⟨hI, hF, Or.inr (by assumption)⟩, by unfold ux_E; rw [ht]; exact hP⟩, hS.F ht⟩) hS.2.2 d_Md_value_333
      · have g1 : ¬ (((k3 : Nat) : Int) ≤ ((k2 : Nat) : Int)) := fun q => h1 (Int32.le_iff_toInt_le.mpr (by rw [nI_toInt (n := k3) (by omega), nI_toInt (n := k2) (by omega)]; exact q))
        refine lv_aload_n hx hb d_Md_value_55 rfl (lv_at hl 0 rfl) ?_
        refine ux_get (C := R_Md) (T := F_Md) (N := 50) hx hb hT in_Md hown hK hP (by decide) rfl rfl 34 (by decide) (hT _ fl_Md_328) rfl d_Md_value_56 ?_
        refine lv_iconst (v := 1) hx hb d_Md_value_59 (by decide) ?_
        refine lv_icmp_eq hx hb d_Md_value_60 rfl (fun h139 => ?_) (fun h139 => ?_)
        · have g139 : (Mc50 0 34).toInt = 1 := congrArg Int32.toInt h139
          refine lv_iload hx hb d_Md_value_271 (lv_at hl 5 rfl) ?_
          refine lv_if_ne hx hb d_Md_value_273 rfl (fun h140 => ?_) (fun h140 => ?_)
          · have g140 : ¬ (i_5.toInt = 0) := fun q => h140 (Int32.toInt_inj.mp q)
            refine lv_aload_n hx hb d_Md_value_281 rfl (lv_at hl 0 rfl) ?_
            refine lv_iconst (v := 1) hx hb d_Md_value_282 (by decide) ?_
            refine ux_callv (va_runV ⟨hx, hb, hml, hown, hts⟩ (s_Md_ill l D ad cA A TB hA hB  Mc50 hI 1) (cwV 1 hts (tb_goodV ml_Md_354 im_Md_ill se_Md_ill ii_Md kt_Md_ill) rfl rfl rfl (by decide +kernel) ⟨Nat.le_of_ble_eq_true rfl, Nat.le_of_ble_eq_true rfl⟩) (ux_preV (by decide) rfl rfl hP hK hi hN) rfl rfl hl.1 rfl (lv_room (Nat.le_of_ble_eq_true rfl)) d_Md_value_283 ⟨Nat.zero_le _, Nat.zero_le _⟩) hS (fun M142 H locs q143 hP hS => ?_)
            obtain ⟨hI, fq143, q143p⟩ := q143
            have hF := fr_call hF fq143 (fun a b q => by unfold mIl at q; unfold mVa; omega)
            rw [show (1 : Int32).toInt = 1 from rfl] at q143p
            refine lv_aload_n hx hb d_Md_value_286 rfl (lv_at hl 0 rfl) ?_
            refine ux_get (C := R_Md) (T := F_Md) (N := 50) hx hb hT in_Md hown hK hP (by decide) rfl rfl 34 (by decide) (hT _ fl_Md_328) rfl d_Md_value_287 ?_
            refine lv_if_ne hx hb d_Md_value_290 rfl (fun h144 => ?_) (fun h144 => ?_)
            · have g144 : ¬ ((M142 0 34).toInt = 0) := fun q => h144 (Int32.toInt_inj.mp q)
              refine lv_aload_n hx hb d_Md_value_298 rfl (lv_at hl 0 rfl) ?_
              refine ux_get (C := R_Md) (T := F_Md) (N := 50) hx hb hT in_Md hown hK hP (by decide) rfl rfl 34 (by decide) (hT _ fl_Md_328) rfl d_Md_value_299 ?_
              refine lv_if_gt hx hb d_Md_value_302 rfl (fun h145 => ?_) (fun h145 => ?_)
              · have g145 : 0 < (M142 0 34).toInt := Int32.lt_iff_toInt_lt.mp h145
                have u145 := ti_hi (M142 0 34)
                refine lv_aload_n hx hb d_Md_value_312 rfl (lv_at hl 0 rfl) ?_
                refine lv_aload_n hx hb d_Md_value_313 rfl (lv_at hl 0 rfl) ?_
                refine ux_get (C := R_Md) (T := F_Md) (N := 50) hx hb hT in_Md hown hK hP (by decide) rfl rfl 34 (by decide) (hT _ fl_Md_328) rfl d_Md_value_314 ?_
                refine lv_if_le hx hb d_Md_value_317 rfl (fun h146 => ?_) (fun h146 => ?_)
                · have g146 : (M142 0 34).toInt ≤ 0 := Int32.le_iff_toInt_le.mp h146
                  have w146 := ti_lo (M142 0 34)
                  refine lv_bipush (v := 6) hx hb d_Md_value_327 (by decide) ?_
                  refine ux_callv (va_runV ⟨hx, hb, hml, hown, hts⟩ (s_Md_error l D ad cA A TB hA hB  M142 hI 6) (cwV 1 hts (tb_goodV ml_Md_166 im_Md_error se_Md_error ii_Md kt_Md_error) rfl rfl rfl (by decide +kernel) ⟨Nat.le_of_ble_eq_true rfl, Nat.le_of_ble_eq_true rfl⟩) (ux_preV (by decide) rfl rfl hP hK hi hN) rfl rfl hl.1 rfl (lv_room (Nat.le_of_ble_eq_true rfl)) d_Md_value_329 ⟨Nat.zero_le _, Nat.zero_le _⟩) hS (fun M148 H locs q149 hP hS => ?_)
                  obtain ⟨hI, fq149, q149p⟩ := q149
                  have hF := fr_call hF fq149 (fun a b q => by unfold mEr at q; unfold mVa; omega)
                  refine lv_iconst (v := 0) hx hb d_Md_value_332 (by decide) ?_
                  exact W.iret (v := 0) hx hb hr (fun t ht hW => ⟨⟨0, M148, rfl, ⟨hI, hF, Or.inr (by assumption)⟩, by unfold ux_E; rw [ht]; exact hP⟩, hS.F ht⟩) hS.2.2 d_Md_value_333
                · have g146 : ¬ ((M142 0 34).toInt ≤ 0) := fun q => h146 (Int32.le_iff_toInt_le.mpr q)
                  have u146 := ti_hi (M142 0 34)
                  refine lv_aload_n hx hb d_Md_value_320 rfl (lv_at hl 0 rfl) ?_
                  refine ux_get (C := R_Md) (T := F_Md) (N := 50) hx hb hT in_Md hown hK hP (by decide) rfl rfl 34 (by decide) (hT _ fl_Md_328) rfl d_Md_value_321 ?_
                  refine lv_goto hx hb d_Md_value_324 rfl ?_
                  refine ux_callv (va_runV ⟨hx, hb, hml, hown, hts⟩ (s_Md_error l D ad cA A TB hA hB  M142 hI (M142 0 34)) (cwV 1 hts (tb_goodV ml_Md_166 im_Md_error se_Md_error ii_Md kt_Md_error) rfl rfl rfl (by decide +kernel) ⟨Nat.le_of_ble_eq_true rfl, Nat.le_of_ble_eq_true rfl⟩) (ux_preV (by decide) rfl rfl hP hK hi hN) rfl rfl hl.1 rfl (lv_room (Nat.le_of_ble_eq_true rfl)) d_Md_value_329 ⟨Nat.zero_le _, Nat.zero_le _⟩) hS (fun M151 H locs q152 hP hS => ?_)
                  obtain ⟨hI, fq152, q152p⟩ := q152
                  have hF := fr_call hF fq152 (fun a b q => by unfold mEr at q; unfold mVa; omega)
                  refine lv_iconst (v := 0) hx hb d_Md_value_332 (by decide) ?_
                  exact W.iret (v := 0) hx hb hr (fun t ht hW => ⟨⟨0, M151, rfl, ⟨hI, hF, Or.inr (by assumption)⟩, by unfold ux_E; rw [ht]; exact hP⟩, hS.F ht⟩) hS.2.2 d_Md_value_333
              · have g145 : ¬ (0 < (M142 0 34).toInt) := fun q => h145 (Int32.lt_iff_toInt_lt.mpr q)
                have w145 := ti_lo (M142 0 34)
                refine lv_aload_n hx hb d_Md_value_305 rfl (lv_at hl 0 rfl) ?_
                refine ux_get (C := R_Md) (T := F_Md) (N := 50) hx hb hT in_Md hown hK hP (by decide) rfl rfl 33 (by decide) (hT _ fl_Md_331) rfl d_Md_value_306 ?_
                refine lv_if_eq hx hb d_Md_value_309 rfl (fun h153 => ?_) (fun h153 => ?_)
                · have g153 : (M142 0 33).toInt = 0 := congrArg Int32.toInt h153
                  refine lv_aload_n hx hb d_Md_value_334 rfl (lv_at hl 0 rfl) ?_
                  refine ux_get (C := R_Md) (T := F_Md) (N := 50) hx hb hT in_Md hown hK hP (by decide) rfl rfl 30 (by decide) (hT _ fl_Md_82) rfl d_Md_value_335 ?_
                  refine lv_iconst (v := 0) hx hb d_Md_value_338 (by decide) ?_
                  refine ux_iald hx hb hK hP (by decide) rfl (vi (by decide) (by decide)) d_Md_value_339 ?_
                  rw [show (0 : Int32).toNatClampNeg = 0 from rfl]
                  exact W.iret (v := M142 23 0) hx hb hr (fun t ht hW => ⟨⟨M142 23 0, M142, rfl, ⟨hI, hF, Or.inl ⟨(fq143 _ _ (by unfold mIl; omega)).trans c50_7.1, (fq143 _ _ (by unfold mIl; omega)).trans c50_7.2⟩⟩, by unfold ux_E; rw [ht]; exact hP⟩, hS.F ht⟩) hS.2.2 d_Md_value_340
                · have g153 : ¬ ((M142 0 33).toInt = 0) := fun q => h153 (Int32.toInt_inj.mp q)
                  refine lv_aload_n hx hb d_Md_value_312 rfl (lv_at hl 0 rfl) ?_
                  refine lv_aload_n hx hb d_Md_value_313 rfl (lv_at hl 0 rfl) ?_
                  refine ux_get (C := R_Md) (T := F_Md) (N := 50) hx hb hT in_Md hown hK hP (by decide) rfl rfl 34 (by decide) (hT _ fl_Md_328) rfl d_Md_value_314 ?_
                  refine lv_if_le hx hb d_Md_value_317 rfl (fun h154 => ?_) (fun h154 => ?_)
                  · have g154 : (M142 0 34).toInt ≤ 0 := Int32.le_iff_toInt_le.mp h154
                    have w154 := ti_lo (M142 0 34)
                    refine lv_bipush (v := 6) hx hb d_Md_value_327 (by decide) ?_
                    refine ux_callv (va_runV ⟨hx, hb, hml, hown, hts⟩ (s_Md_error l D ad cA A TB hA hB  M142 hI 6) (cwV 1 hts (tb_goodV ml_Md_166 im_Md_error se_Md_error ii_Md kt_Md_error) rfl rfl rfl (by decide +kernel) ⟨Nat.le_of_ble_eq_true rfl, Nat.le_of_ble_eq_true rfl⟩) (ux_preV (by decide) rfl rfl hP hK hi hN) rfl rfl hl.1 rfl (lv_room (Nat.le_of_ble_eq_true rfl)) d_Md_value_329 ⟨Nat.zero_le _, Nat.zero_le _⟩) hS (fun M156 H locs q157 hP hS => ?_)
                    obtain ⟨hI, fq157, q157p⟩ := q157
                    have hF := fr_call hF fq157 (fun a b q => by unfold mEr at q; unfold mVa; omega)
                    refine lv_iconst (v := 0) hx hb d_Md_value_332 (by decide) ?_
                    exact W.iret (v := 0) hx hb hr (fun t ht hW => ⟨⟨0, M156, rfl, ⟨hI, hF, Or.inr (by assumption)⟩, by unfold ux_E; rw [ht]; exact hP⟩, hS.F ht⟩) hS.2.2 d_Md_value_333
                  · have g154 : ¬ ((M142 0 34).toInt ≤ 0) := fun q => h154 (Int32.le_iff_toInt_le.mpr q)
                    have u154 := ti_hi (M142 0 34)
                    refine lv_aload_n hx hb d_Md_value_320 rfl (lv_at hl 0 rfl) ?_
                    refine ux_get (C := R_Md) (T := F_Md) (N := 50) hx hb hT in_Md hown hK hP (by decide) rfl rfl 34 (by decide) (hT _ fl_Md_328) rfl d_Md_value_321 ?_
                    refine lv_goto hx hb d_Md_value_324 rfl ?_
                    refine ux_callv (va_runV ⟨hx, hb, hml, hown, hts⟩ (s_Md_error l D ad cA A TB hA hB  M142 hI (M142 0 34)) (cwV 1 hts (tb_goodV ml_Md_166 im_Md_error se_Md_error ii_Md kt_Md_error) rfl rfl rfl (by decide +kernel) ⟨Nat.le_of_ble_eq_true rfl, Nat.le_of_ble_eq_true rfl⟩) (ux_preV (by decide) rfl rfl hP hK hi hN) rfl rfl hl.1 rfl (lv_room (Nat.le_of_ble_eq_true rfl)) d_Md_value_329 ⟨Nat.zero_le _, Nat.zero_le _⟩) hS (fun M159 H locs q160 hP hS => ?_)
                    obtain ⟨hI, fq160, q160p⟩ := q160
                    have hF := fr_call hF fq160 (fun a b q => by unfold mEr at q; unfold mVa; omega)
                    refine lv_iconst (v := 0) hx hb d_Md_value_332 (by decide) ?_
                    exact W.iret (v := 0) hx hb hr (fun t ht hW => ⟨⟨0, M159, rfl, ⟨hI, hF, Or.inr (by assumption)⟩, by unfold ux_E; rw [ht]; exact hP⟩, hS.F ht⟩) hS.2.2 d_Md_value_333
            · have g144 : (M142 0 34).toInt = 0 := congrArg Int32.toInt h144
              refine lv_aload_n hx hb d_Md_value_293 rfl (lv_at hl 0 rfl) ?_
              refine lv_iconst (v := 1) hx hb d_Md_value_294 (by decide) ?_
              refine ux_callv (va_runV ⟨hx, hb, hml, hown, hts⟩ (s_Md_applyFrom l D ad cA A TB hA hB  M142 hI n1 v1 ((fq143 _ _ (by unfold mIl; omega)).trans (hg_n1)) ((fq143 _ _ (by unfold mIl; omega)).trans (hg_v1)) (by omega) (by omega) (by omega) 1 (by decide)) (cwV 1 hts (tb_goodV ml_Md_367 im_Md_applyFrom se_Md_applyFrom ii_Md kt_Md_applyFrom) rfl rfl rfl (by decide +kernel) ⟨Nat.le_of_ble_eq_true rfl, Nat.le_of_ble_eq_true rfl⟩) (ux_preV (by decide) rfl rfl hP hK hi hN) rfl rfl hl.1 rfl (lv_room (Nat.le_of_ble_eq_true rfl)) d_Md_value_295 ⟨Nat.zero_le _, Nat.zero_le _⟩) hS (fun M162 H locs q163 hP hS => ?_)
              obtain ⟨hI, fq163, q163p⟩ := q163
              have hF := fr_call hF fq163 (fun a b q => by unfold mAp at q; unfold mVa; omega)
              obtain ⟨n164, v165, hn164a, hv165a, hn164b, hv165b, hv165c, hn164d, hn164e⟩ := q163p
              rw [show (1 : Int32).toInt = 1 from rfl] at hn164e
              have hn164r : ∀ j, M162 22 j = M142 22 j := fun j => fq163 _ _ (by unfold mAp; omega)
              have hn164B : cP PB (M162 22) n164 = cP PB (M142 22) n164 := cP_cong _ (fun j _ => hn164r j)
              have hn1644 : cP P40 (M162 22) n164 = cP P40 (M142 22) n164 := cP_cong _ (fun j _ => hn164r j)
              have hn164l := cP_le (P := P40) (f := M142 22) n164
              have hn164t := congrArg rk (congrArg Int32.toInt (hn164r (n164 - 1)))
              refine lv_aload_n hx hb d_Md_value_298 rfl (lv_at hl 0 rfl) ?_
              refine ux_get (C := R_Md) (T := F_Md) (N := 50) hx hb hT in_Md hown hK hP (by decide) rfl rfl 34 (by decide) (hT _ fl_Md_328) rfl d_Md_value_299 ?_
              refine lv_topi (fun z166 hz166 => ?_)
              rw [show M162 0 34 = M142 0 34 from fq163 _ _ (by unfold mAp; omega)] at hz166
              rw [hz166]
              refine lv_if_gt hx hb d_Md_value_302 rfl (fun h167 => ?_) (fun h167 => ?_)
              · have g167 : 0 < (M142 0 34).toInt := Int32.lt_iff_toInt_lt.mp h167
                have u167 := ti_hi (M142 0 34)
                refine lv_aload_n hx hb d_Md_value_312 rfl (lv_at hl 0 rfl) ?_
                refine lv_aload_n hx hb d_Md_value_313 rfl (lv_at hl 0 rfl) ?_
                refine ux_get (C := R_Md) (T := F_Md) (N := 50) hx hb hT in_Md hown hK hP (by decide) rfl rfl 34 (by decide) (hT _ fl_Md_328) rfl d_Md_value_314 ?_
                refine lv_topi (fun z168 hz168 => ?_)
                rw [show M162 0 34 = M142 0 34 from fq163 _ _ (by unfold mAp; omega)] at hz168
                rw [hz168]
                refine lv_if_le hx hb d_Md_value_317 rfl (fun h169 => ?_) (fun h169 => ?_)
                · have g169 : (M142 0 34).toInt ≤ 0 := Int32.le_iff_toInt_le.mp h169
                  have w169 := ti_lo (M142 0 34)
                  refine lv_bipush (v := 6) hx hb d_Md_value_327 (by decide) ?_
                  refine ux_callv (va_runV ⟨hx, hb, hml, hown, hts⟩ (s_Md_error l D ad cA A TB hA hB  M162 hI 6) (cwV 1 hts (tb_goodV ml_Md_166 im_Md_error se_Md_error ii_Md kt_Md_error) rfl rfl rfl (by decide +kernel) ⟨Nat.le_of_ble_eq_true rfl, Nat.le_of_ble_eq_true rfl⟩) (ux_preV (by decide) rfl rfl hP hK hi hN) rfl rfl hl.1 rfl (lv_room (Nat.le_of_ble_eq_true rfl)) d_Md_value_329 ⟨Nat.zero_le _, Nat.zero_le _⟩) hS (fun M171 H locs q172 hP hS => ?_)
                  obtain ⟨hI, fq172, q172p⟩ := q172
                  have hF := fr_call hF fq172 (fun a b q => by unfold mEr at q; unfold mVa; omega)
                  refine lv_iconst (v := 0) hx hb d_Md_value_332 (by decide) ?_
                  exact W.iret (v := 0) hx hb hr (fun t ht hW => ⟨⟨0, M171, rfl, ⟨hI, hF, Or.inr (by assumption)⟩, by unfold ux_E; rw [ht]; exact hP⟩, hS.F ht⟩) hS.2.2 d_Md_value_333
                · have g169 : ¬ ((M142 0 34).toInt ≤ 0) := fun q => h169 (Int32.le_iff_toInt_le.mpr q)
                  have u169 := ti_hi (M142 0 34)
                  refine lv_aload_n hx hb d_Md_value_320 rfl (lv_at hl 0 rfl) ?_
                  refine ux_get (C := R_Md) (T := F_Md) (N := 50) hx hb hT in_Md hown hK hP (by decide) rfl rfl 34 (by decide) (hT _ fl_Md_328) rfl d_Md_value_321 ?_
                  refine lv_topi (fun z173 hz173 => ?_)
                  rw [show M162 0 34 = M142 0 34 from fq163 _ _ (by unfold mAp; omega)] at hz173
                  rw [hz173]
                  refine lv_goto hx hb d_Md_value_324 rfl ?_
                  refine ux_callv (va_runV ⟨hx, hb, hml, hown, hts⟩ (s_Md_error l D ad cA A TB hA hB  M162 hI (M142 0 34)) (cwV 1 hts (tb_goodV ml_Md_166 im_Md_error se_Md_error ii_Md kt_Md_error) rfl rfl rfl (by decide +kernel) ⟨Nat.le_of_ble_eq_true rfl, Nat.le_of_ble_eq_true rfl⟩) (ux_preV (by decide) rfl rfl hP hK hi hN) rfl rfl hl.1 rfl (lv_room (Nat.le_of_ble_eq_true rfl)) d_Md_value_329 ⟨Nat.zero_le _, Nat.zero_le _⟩) hS (fun M175 H locs q176 hP hS => ?_)
                  obtain ⟨hI, fq176, q176p⟩ := q176
                  have hF := fr_call hF fq176 (fun a b q => by unfold mEr at q; unfold mVa; omega)
                  refine lv_iconst (v := 0) hx hb d_Md_value_332 (by decide) ?_
                  exact W.iret (v := 0) hx hb hr (fun t ht hW => ⟨⟨0, M175, rfl, ⟨hI, hF, Or.inr (by assumption)⟩, by unfold ux_E; rw [ht]; exact hP⟩, hS.F ht⟩) hS.2.2 d_Md_value_333
              · have g167 : ¬ (0 < (M142 0 34).toInt) := fun q => h167 (Int32.lt_iff_toInt_lt.mpr q)
                have w167 := ti_lo (M142 0 34)
                refine lv_aload_n hx hb d_Md_value_305 rfl (lv_at hl 0 rfl) ?_
                refine ux_get (C := R_Md) (T := F_Md) (N := 50) hx hb hT in_Md hown hK hP (by decide) rfl rfl 33 (by decide) (hT _ fl_Md_331) rfl d_Md_value_306 ?_
                refine lv_if_eq hx hb d_Md_value_309 rfl (fun h177 => ?_) (fun h177 => ?_)
                · have g177 : (M162 0 33).toInt = 0 := congrArg Int32.toInt h177
                  refine lv_aload_n hx hb d_Md_value_334 rfl (lv_at hl 0 rfl) ?_
                  refine ux_get (C := R_Md) (T := F_Md) (N := 50) hx hb hT in_Md hown hK hP (by decide) rfl rfl 30 (by decide) (hT _ fl_Md_82) rfl d_Md_value_335 ?_
                  refine lv_iconst (v := 0) hx hb d_Md_value_338 (by decide) ?_
                  refine ux_iald hx hb hK hP (by decide) rfl (vi (by decide) (by decide)) d_Md_value_339 ?_
                  rw [show (0 : Int32).toNatClampNeg = 0 from rfl]
                  exact W.iret (v := M162 23 0) hx hb hr (fun t ht hW => ⟨⟨M162 23 0, M162, rfl, ⟨hI, hF, Or.inl ⟨((fq163 _ _ (by unfold mAp; omega)).trans (fq143 _ _ (by unfold mIl; omega))).trans c50_7.1, ((fq163 _ _ (by unfold mAp; omega)).trans (fq143 _ _ (by unfold mIl; omega))).trans c50_7.2⟩⟩, by unfold ux_E; rw [ht]; exact hP⟩, hS.F ht⟩) hS.2.2 d_Md_value_340
                · have g177 : ¬ ((M162 0 33).toInt = 0) := fun q => h177 (Int32.toInt_inj.mp q)
                  refine lv_aload_n hx hb d_Md_value_312 rfl (lv_at hl 0 rfl) ?_
                  refine lv_aload_n hx hb d_Md_value_313 rfl (lv_at hl 0 rfl) ?_
                  refine ux_get (C := R_Md) (T := F_Md) (N := 50) hx hb hT in_Md hown hK hP (by decide) rfl rfl 34 (by decide) (hT _ fl_Md_328) rfl d_Md_value_314 ?_
                  refine lv_topi (fun z178 hz178 => ?_)
                  rw [show M162 0 34 = M142 0 34 from fq163 _ _ (by unfold mAp; omega)] at hz178
                  rw [hz178]
                  refine lv_if_le hx hb d_Md_value_317 rfl (fun h179 => ?_) (fun h179 => ?_)
                  · have g179 : (M142 0 34).toInt ≤ 0 := Int32.le_iff_toInt_le.mp h179
                    have w179 := ti_lo (M142 0 34)
                    refine lv_bipush (v := 6) hx hb d_Md_value_327 (by decide) ?_
                    refine ux_callv (va_runV ⟨hx, hb, hml, hown, hts⟩ (s_Md_error l D ad cA A TB hA hB  M162 hI 6) (cwV 1 hts (tb_goodV ml_Md_166 im_Md_error se_Md_error ii_Md kt_Md_error) rfl rfl rfl (by decide +kernel) ⟨Nat.le_of_ble_eq_true rfl, Nat.le_of_ble_eq_true rfl⟩) (ux_preV (by decide) rfl rfl hP hK hi hN) rfl rfl hl.1 rfl (lv_room (Nat.le_of_ble_eq_true rfl)) d_Md_value_329 ⟨Nat.zero_le _, Nat.zero_le _⟩) hS (fun M181 H locs q182 hP hS => ?_)
                    obtain ⟨hI, fq182, q182p⟩ := q182
                    have hF := fr_call hF fq182 (fun a b q => by unfold mEr at q; unfold mVa; omega)
                    refine lv_iconst (v := 0) hx hb d_Md_value_332 (by decide) ?_
                    exact W.iret (v := 0) hx hb hr (fun t ht hW => ⟨⟨0, M181, rfl, ⟨hI, hF, Or.inr (by assumption)⟩, by unfold ux_E; rw [ht]; exact hP⟩, hS.F ht⟩) hS.2.2 d_Md_value_333
                  · have g179 : ¬ ((M142 0 34).toInt ≤ 0) := fun q => h179 (Int32.le_iff_toInt_le.mpr q)
                    have u179 := ti_hi (M142 0 34)
                    refine lv_aload_n hx hb d_Md_value_320 rfl (lv_at hl 0 rfl) ?_
                    refine ux_get (C := R_Md) (T := F_Md) (N := 50) hx hb hT in_Md hown hK hP (by decide) rfl rfl 34 (by decide) (hT _ fl_Md_328) rfl d_Md_value_321 ?_
                    refine lv_topi (fun z183 hz183 => ?_)
                    rw [show M162 0 34 = M142 0 34 from fq163 _ _ (by unfold mAp; omega)] at hz183
                    rw [hz183]
                    refine lv_goto hx hb d_Md_value_324 rfl ?_
                    refine ux_callv (va_runV ⟨hx, hb, hml, hown, hts⟩ (s_Md_error l D ad cA A TB hA hB  M162 hI (M142 0 34)) (cwV 1 hts (tb_goodV ml_Md_166 im_Md_error se_Md_error ii_Md kt_Md_error) rfl rfl rfl (by decide +kernel) ⟨Nat.le_of_ble_eq_true rfl, Nat.le_of_ble_eq_true rfl⟩) (ux_preV (by decide) rfl rfl hP hK hi hN) rfl rfl hl.1 rfl (lv_room (Nat.le_of_ble_eq_true rfl)) d_Md_value_329 ⟨Nat.zero_le _, Nat.zero_le _⟩) hS (fun M185 H locs q186 hP hS => ?_)
                    obtain ⟨hI, fq186, q186p⟩ := q186
                    have hF := fr_call hF fq186 (fun a b q => by unfold mEr at q; unfold mVa; omega)
                    refine lv_iconst (v := 0) hx hb d_Md_value_332 (by decide) ?_
                    exact W.iret (v := 0) hx hb hr (fun t ht hW => ⟨⟨0, M185, rfl, ⟨hI, hF, Or.inr (by assumption)⟩, by unfold ux_E; rw [ht]; exact hP⟩, hS.F ht⟩) hS.2.2 d_Md_value_333
          · have g140 : i_5.toInt = 0 := congrArg Int32.toInt h140
            refine lv_iload hx hb d_Md_value_276 (lv_at hl 4 rfl) ?_
            refine lv_if_le hx hb d_Md_value_278 rfl (fun h187 => ?_) (fun h187 => ?_)
            · have g187 : ((k4 : Nat) : Int) ≤ 0 := by have q := Int32.le_iff_toInt_le.mp h187; rw [nI_toInt (n := k4) (by omega)] at q; exact q
              refine lv_aload_n hx hb d_Md_value_286 rfl (lv_at hl 0 rfl) ?_
              refine ux_get (C := R_Md) (T := F_Md) (N := 50) hx hb hT in_Md hown hK hP (by decide) rfl rfl 34 (by decide) (hT _ fl_Md_328) rfl d_Md_value_287 ?_
              refine lv_if_ne hx hb d_Md_value_290 rfl (fun h188 => ?_) (fun h188 => ?_)
              · have g188 : ¬ ((Mc50 0 34).toInt = 0) := fun q => h188 (Int32.toInt_inj.mp q)
                refine lv_aload_n hx hb d_Md_value_298 rfl (lv_at hl 0 rfl) ?_
                refine ux_get (C := R_Md) (T := F_Md) (N := 50) hx hb hT in_Md hown hK hP (by decide) rfl rfl 34 (by decide) (hT _ fl_Md_328) rfl d_Md_value_299 ?_
                refine lv_if_gt hx hb d_Md_value_302 rfl (fun h189 => ?_) (fun h189 => ?_)
                · have g189 : 0 < (Mc50 0 34).toInt := Int32.lt_iff_toInt_lt.mp h189
                  have u189 := ti_hi (Mc50 0 34)
                  refine lv_aload_n hx hb d_Md_value_312 rfl (lv_at hl 0 rfl) ?_
                  refine lv_aload_n hx hb d_Md_value_313 rfl (lv_at hl 0 rfl) ?_
                  refine ux_get (C := R_Md) (T := F_Md) (N := 50) hx hb hT in_Md hown hK hP (by decide) rfl rfl 34 (by decide) (hT _ fl_Md_328) rfl d_Md_value_314 ?_
                  refine lv_if_le hx hb d_Md_value_317 rfl (fun h190 => ?_) (fun h190 => ?_)
                  · have g190 : (Mc50 0 34).toInt ≤ 0 := Int32.le_iff_toInt_le.mp h190
                    have w190 := ti_lo (Mc50 0 34)
                    refine lv_bipush (v := 6) hx hb d_Md_value_327 (by decide) ?_
                    refine ux_callv (va_runV ⟨hx, hb, hml, hown, hts⟩ (s_Md_error l D ad cA A TB hA hB  Mc50 hI 6) (cwV 1 hts (tb_goodV ml_Md_166 im_Md_error se_Md_error ii_Md kt_Md_error) rfl rfl rfl (by decide +kernel) ⟨Nat.le_of_ble_eq_true rfl, Nat.le_of_ble_eq_true rfl⟩) (ux_preV (by decide) rfl rfl hP hK hi hN) rfl rfl hl.1 rfl (lv_room (Nat.le_of_ble_eq_true rfl)) d_Md_value_329 ⟨Nat.zero_le _, Nat.zero_le _⟩) hS (fun M192 H locs q193 hP hS => ?_)
                    obtain ⟨hI, fq193, q193p⟩ := q193
                    have hF := fr_call hF fq193 (fun a b q => by unfold mEr at q; unfold mVa; omega)
                    refine lv_iconst (v := 0) hx hb d_Md_value_332 (by decide) ?_
                    exact W.iret (v := 0) hx hb hr (fun t ht hW => ⟨⟨0, M192, rfl, ⟨hI, hF, Or.inr (by assumption)⟩, by unfold ux_E; rw [ht]; exact hP⟩, hS.F ht⟩) hS.2.2 d_Md_value_333
                  · have g190 : ¬ ((Mc50 0 34).toInt ≤ 0) := fun q => h190 (Int32.le_iff_toInt_le.mpr q)
                    have u190 := ti_hi (Mc50 0 34)
                    refine lv_aload_n hx hb d_Md_value_320 rfl (lv_at hl 0 rfl) ?_
                    refine ux_get (C := R_Md) (T := F_Md) (N := 50) hx hb hT in_Md hown hK hP (by decide) rfl rfl 34 (by decide) (hT _ fl_Md_328) rfl d_Md_value_321 ?_
                    refine lv_goto hx hb d_Md_value_324 rfl ?_
                    refine ux_callv (va_runV ⟨hx, hb, hml, hown, hts⟩ (s_Md_error l D ad cA A TB hA hB  Mc50 hI (Mc50 0 34)) (cwV 1 hts (tb_goodV ml_Md_166 im_Md_error se_Md_error ii_Md kt_Md_error) rfl rfl rfl (by decide +kernel) ⟨Nat.le_of_ble_eq_true rfl, Nat.le_of_ble_eq_true rfl⟩) (ux_preV (by decide) rfl rfl hP hK hi hN) rfl rfl hl.1 rfl (lv_room (Nat.le_of_ble_eq_true rfl)) d_Md_value_329 ⟨Nat.zero_le _, Nat.zero_le _⟩) hS (fun M195 H locs q196 hP hS => ?_)
                    obtain ⟨hI, fq196, q196p⟩ := q196
                    have hF := fr_call hF fq196 (fun a b q => by unfold mEr at q; unfold mVa; omega)
                    refine lv_iconst (v := 0) hx hb d_Md_value_332 (by decide) ?_
                    exact W.iret (v := 0) hx hb hr (fun t ht hW => ⟨⟨0, M195, rfl, ⟨hI, hF, Or.inr (by assumption)⟩, by unfold ux_E; rw [ht]; exact hP⟩, hS.F ht⟩) hS.2.2 d_Md_value_333
                · have g189 : ¬ (0 < (Mc50 0 34).toInt) := fun q => h189 (Int32.lt_iff_toInt_lt.mpr q)
                  have w189 := ti_lo (Mc50 0 34)
                  refine lv_aload_n hx hb d_Md_value_305 rfl (lv_at hl 0 rfl) ?_
                  refine ux_get (C := R_Md) (T := F_Md) (N := 50) hx hb hT in_Md hown hK hP (by decide) rfl rfl 33 (by decide) (hT _ fl_Md_331) rfl d_Md_value_306 ?_
                  refine lv_if_eq hx hb d_Md_value_309 rfl (fun h197 => ?_) (fun h197 => ?_)
                  · have g197 : (Mc50 0 33).toInt = 0 := congrArg Int32.toInt h197
                    refine lv_aload_n hx hb d_Md_value_334 rfl (lv_at hl 0 rfl) ?_
                    refine ux_get (C := R_Md) (T := F_Md) (N := 50) hx hb hT in_Md hown hK hP (by decide) rfl rfl 30 (by decide) (hT _ fl_Md_82) rfl d_Md_value_335 ?_
                    refine lv_iconst (v := 0) hx hb d_Md_value_338 (by decide) ?_
                    refine ux_iald hx hb hK hP (by decide) rfl (vi (by decide) (by decide)) d_Md_value_339 ?_
                    rw [show (0 : Int32).toNatClampNeg = 0 from rfl]
                    exact W.iret (v := Mc50 23 0) hx hb hr (fun t ht hW => ⟨⟨Mc50 23 0, Mc50, rfl, ⟨hI, hF, Or.inl ⟨(rfl).trans c50_7.1, (rfl).trans c50_7.2⟩⟩, by unfold ux_E; rw [ht]; exact hP⟩, hS.F ht⟩) hS.2.2 d_Md_value_340
                  · have g197 : ¬ ((Mc50 0 33).toInt = 0) := fun q => h197 (Int32.toInt_inj.mp q)
                    refine lv_aload_n hx hb d_Md_value_312 rfl (lv_at hl 0 rfl) ?_
                    refine lv_aload_n hx hb d_Md_value_313 rfl (lv_at hl 0 rfl) ?_
                    refine ux_get (C := R_Md) (T := F_Md) (N := 50) hx hb hT in_Md hown hK hP (by decide) rfl rfl 34 (by decide) (hT _ fl_Md_328) rfl d_Md_value_314 ?_
                    refine lv_if_le hx hb d_Md_value_317 rfl (fun h198 => ?_) (fun h198 => ?_)
                    · have g198 : (Mc50 0 34).toInt ≤ 0 := Int32.le_iff_toInt_le.mp h198
                      have w198 := ti_lo (Mc50 0 34)
                      refine lv_bipush (v := 6) hx hb d_Md_value_327 (by decide) ?_
                      refine ux_callv (va_runV ⟨hx, hb, hml, hown, hts⟩ (s_Md_error l D ad cA A TB hA hB  Mc50 hI 6) (cwV 1 hts (tb_goodV ml_Md_166 im_Md_error se_Md_error ii_Md kt_Md_error) rfl rfl rfl (by decide +kernel) ⟨Nat.le_of_ble_eq_true rfl, Nat.le_of_ble_eq_true rfl⟩) (ux_preV (by decide) rfl rfl hP hK hi hN) rfl rfl hl.1 rfl (lv_room (Nat.le_of_ble_eq_true rfl)) d_Md_value_329 ⟨Nat.zero_le _, Nat.zero_le _⟩) hS (fun M200 H locs q201 hP hS => ?_)
                      obtain ⟨hI, fq201, q201p⟩ := q201
                      have hF := fr_call hF fq201 (fun a b q => by unfold mEr at q; unfold mVa; omega)
                      refine lv_iconst (v := 0) hx hb d_Md_value_332 (by decide) ?_
                      exact W.iret (v := 0) hx hb hr (fun t ht hW => ⟨⟨0, M200, rfl, ⟨hI, hF, Or.inr (by assumption)⟩, by unfold ux_E; rw [ht]; exact hP⟩, hS.F ht⟩) hS.2.2 d_Md_value_333
                    · have g198 : ¬ ((Mc50 0 34).toInt ≤ 0) := fun q => h198 (Int32.le_iff_toInt_le.mpr q)
                      have u198 := ti_hi (Mc50 0 34)
                      refine lv_aload_n hx hb d_Md_value_320 rfl (lv_at hl 0 rfl) ?_
                      refine ux_get (C := R_Md) (T := F_Md) (N := 50) hx hb hT in_Md hown hK hP (by decide) rfl rfl 34 (by decide) (hT _ fl_Md_328) rfl d_Md_value_321 ?_
                      refine lv_goto hx hb d_Md_value_324 rfl ?_
                      refine ux_callv (va_runV ⟨hx, hb, hml, hown, hts⟩ (s_Md_error l D ad cA A TB hA hB  Mc50 hI (Mc50 0 34)) (cwV 1 hts (tb_goodV ml_Md_166 im_Md_error se_Md_error ii_Md kt_Md_error) rfl rfl rfl (by decide +kernel) ⟨Nat.le_of_ble_eq_true rfl, Nat.le_of_ble_eq_true rfl⟩) (ux_preV (by decide) rfl rfl hP hK hi hN) rfl rfl hl.1 rfl (lv_room (Nat.le_of_ble_eq_true rfl)) d_Md_value_329 ⟨Nat.zero_le _, Nat.zero_le _⟩) hS (fun M203 H locs q204 hP hS => ?_)
                      obtain ⟨hI, fq204, q204p⟩ := q204
                      have hF := fr_call hF fq204 (fun a b q => by unfold mEr at q; unfold mVa; omega)
                      refine lv_iconst (v := 0) hx hb d_Md_value_332 (by decide) ?_
                      exact W.iret (v := 0) hx hb hr (fun t ht hW => ⟨⟨0, M203, rfl, ⟨hI, hF, Or.inr (by assumption)⟩, by unfold ux_E; rw [ht]; exact hP⟩, hS.F ht⟩) hS.2.2 d_Md_value_333
              · have g188 : (Mc50 0 34).toInt = 0 := congrArg Int32.toInt h188
                refine lv_aload_n hx hb d_Md_value_293 rfl (lv_at hl 0 rfl) ?_
                refine lv_iconst (v := 1) hx hb d_Md_value_294 (by decide) ?_
                refine ux_callv (va_runV ⟨hx, hb, hml, hown, hts⟩ (s_Md_applyFrom l D ad cA A TB hA hB  Mc50 hI n1 v1 (hg_n1) (hg_v1) (by omega) (by omega) (by omega) 1 (by decide)) (cwV 1 hts (tb_goodV ml_Md_367 im_Md_applyFrom se_Md_applyFrom ii_Md kt_Md_applyFrom) rfl rfl rfl (by decide +kernel) ⟨Nat.le_of_ble_eq_true rfl, Nat.le_of_ble_eq_true rfl⟩) (ux_preV (by decide) rfl rfl hP hK hi hN) rfl rfl hl.1 rfl (lv_room (Nat.le_of_ble_eq_true rfl)) d_Md_value_295 ⟨Nat.zero_le _, Nat.zero_le _⟩) hS (fun M206 H locs q207 hP hS => ?_)
                obtain ⟨hI, fq207, q207p⟩ := q207
                have hF := fr_call hF fq207 (fun a b q => by unfold mAp at q; unfold mVa; omega)
                obtain ⟨n208, v209, hn208a, hv209a, hn208b, hv209b, hv209c, hn208d, hn208e⟩ := q207p
                rw [show (1 : Int32).toInt = 1 from rfl] at hn208e
                have hn208r : ∀ j, M206 22 j = Mc50 22 j := fun j => fq207 _ _ (by unfold mAp; omega)
                have hn208B : cP PB (M206 22) n208 = cP PB (Mc50 22) n208 := cP_cong _ (fun j _ => hn208r j)
                have hn2084 : cP P40 (M206 22) n208 = cP P40 (Mc50 22) n208 := cP_cong _ (fun j _ => hn208r j)
                have hn208l := cP_le (P := P40) (f := Mc50 22) n208
                have hn208t := congrArg rk (congrArg Int32.toInt (hn208r (n208 - 1)))
                refine lv_aload_n hx hb d_Md_value_298 rfl (lv_at hl 0 rfl) ?_
                refine ux_get (C := R_Md) (T := F_Md) (N := 50) hx hb hT in_Md hown hK hP (by decide) rfl rfl 34 (by decide) (hT _ fl_Md_328) rfl d_Md_value_299 ?_
                refine lv_topi (fun z210 hz210 => ?_)
                rw [show M206 0 34 = Mc50 0 34 from fq207 _ _ (by unfold mAp; omega)] at hz210
                rw [hz210]
                refine lv_if_gt hx hb d_Md_value_302 rfl (fun h211 => ?_) (fun h211 => ?_)
                · have g211 : 0 < (Mc50 0 34).toInt := Int32.lt_iff_toInt_lt.mp h211
                  have u211 := ti_hi (Mc50 0 34)
                  refine lv_aload_n hx hb d_Md_value_312 rfl (lv_at hl 0 rfl) ?_
                  refine lv_aload_n hx hb d_Md_value_313 rfl (lv_at hl 0 rfl) ?_
                  refine ux_get (C := R_Md) (T := F_Md) (N := 50) hx hb hT in_Md hown hK hP (by decide) rfl rfl 34 (by decide) (hT _ fl_Md_328) rfl d_Md_value_314 ?_
                  refine lv_topi (fun z212 hz212 => ?_)
                  rw [show M206 0 34 = Mc50 0 34 from fq207 _ _ (by unfold mAp; omega)] at hz212
                  rw [hz212]
                  refine lv_if_le hx hb d_Md_value_317 rfl (fun h213 => ?_) (fun h213 => ?_)
                  · have g213 : (Mc50 0 34).toInt ≤ 0 := Int32.le_iff_toInt_le.mp h213
                    have w213 := ti_lo (Mc50 0 34)
                    refine lv_bipush (v := 6) hx hb d_Md_value_327 (by decide) ?_
                    refine ux_callv (va_runV ⟨hx, hb, hml, hown, hts⟩ (s_Md_error l D ad cA A TB hA hB  M206 hI 6) (cwV 1 hts (tb_goodV ml_Md_166 im_Md_error se_Md_error ii_Md kt_Md_error) rfl rfl rfl (by decide +kernel) ⟨Nat.le_of_ble_eq_true rfl, Nat.le_of_ble_eq_true rfl⟩) (ux_preV (by decide) rfl rfl hP hK hi hN) rfl rfl hl.1 rfl (lv_room (Nat.le_of_ble_eq_true rfl)) d_Md_value_329 ⟨Nat.zero_le _, Nat.zero_le _⟩) hS (fun M215 H locs q216 hP hS => ?_)
                    obtain ⟨hI, fq216, q216p⟩ := q216
                    have hF := fr_call hF fq216 (fun a b q => by unfold mEr at q; unfold mVa; omega)
                    refine lv_iconst (v := 0) hx hb d_Md_value_332 (by decide) ?_
                    exact W.iret (v := 0) hx hb hr (fun t ht hW => ⟨⟨0, M215, rfl, ⟨hI, hF, Or.inr (by assumption)⟩, by unfold ux_E; rw [ht]; exact hP⟩, hS.F ht⟩) hS.2.2 d_Md_value_333
                  · have g213 : ¬ ((Mc50 0 34).toInt ≤ 0) := fun q => h213 (Int32.le_iff_toInt_le.mpr q)
                    have u213 := ti_hi (Mc50 0 34)
                    refine lv_aload_n hx hb d_Md_value_320 rfl (lv_at hl 0 rfl) ?_
                    refine ux_get (C := R_Md) (T := F_Md) (N := 50) hx hb hT in_Md hown hK hP (by decide) rfl rfl 34 (by decide) (hT _ fl_Md_328) rfl d_Md_value_321 ?_
                    refine lv_topi (fun z217 hz217 => ?_)
                    rw [show M206 0 34 = Mc50 0 34 from fq207 _ _ (by unfold mAp; omega)] at hz217
                    rw [hz217]
                    refine lv_goto hx hb d_Md_value_324 rfl ?_
                    refine ux_callv (va_runV ⟨hx, hb, hml, hown, hts⟩ (s_Md_error l D ad cA A TB hA hB  M206 hI (Mc50 0 34)) (cwV 1 hts (tb_goodV ml_Md_166 im_Md_error se_Md_error ii_Md kt_Md_error) rfl rfl rfl (by decide +kernel) ⟨Nat.le_of_ble_eq_true rfl, Nat.le_of_ble_eq_true rfl⟩) (ux_preV (by decide) rfl rfl hP hK hi hN) rfl rfl hl.1 rfl (lv_room (Nat.le_of_ble_eq_true rfl)) d_Md_value_329 ⟨Nat.zero_le _, Nat.zero_le _⟩) hS (fun M219 H locs q220 hP hS => ?_)
                    obtain ⟨hI, fq220, q220p⟩ := q220
                    have hF := fr_call hF fq220 (fun a b q => by unfold mEr at q; unfold mVa; omega)
                    refine lv_iconst (v := 0) hx hb d_Md_value_332 (by decide) ?_
                    exact W.iret (v := 0) hx hb hr (fun t ht hW => ⟨⟨0, M219, rfl, ⟨hI, hF, Or.inr (by assumption)⟩, by unfold ux_E; rw [ht]; exact hP⟩, hS.F ht⟩) hS.2.2 d_Md_value_333
                · have g211 : ¬ (0 < (Mc50 0 34).toInt) := fun q => h211 (Int32.lt_iff_toInt_lt.mpr q)
                  have w211 := ti_lo (Mc50 0 34)
                  refine lv_aload_n hx hb d_Md_value_305 rfl (lv_at hl 0 rfl) ?_
                  refine ux_get (C := R_Md) (T := F_Md) (N := 50) hx hb hT in_Md hown hK hP (by decide) rfl rfl 33 (by decide) (hT _ fl_Md_331) rfl d_Md_value_306 ?_
                  refine lv_if_eq hx hb d_Md_value_309 rfl (fun h221 => ?_) (fun h221 => ?_)
                  · have g221 : (M206 0 33).toInt = 0 := congrArg Int32.toInt h221
                    refine lv_aload_n hx hb d_Md_value_334 rfl (lv_at hl 0 rfl) ?_
                    refine ux_get (C := R_Md) (T := F_Md) (N := 50) hx hb hT in_Md hown hK hP (by decide) rfl rfl 30 (by decide) (hT _ fl_Md_82) rfl d_Md_value_335 ?_
                    refine lv_iconst (v := 0) hx hb d_Md_value_338 (by decide) ?_
                    refine ux_iald hx hb hK hP (by decide) rfl (vi (by decide) (by decide)) d_Md_value_339 ?_
                    rw [show (0 : Int32).toNatClampNeg = 0 from rfl]
                    exact W.iret (v := M206 23 0) hx hb hr (fun t ht hW => ⟨⟨M206 23 0, M206, rfl, ⟨hI, hF, Or.inl ⟨(fq207 _ _ (by unfold mAp; omega)).trans c50_7.1, (fq207 _ _ (by unfold mAp; omega)).trans c50_7.2⟩⟩, by unfold ux_E; rw [ht]; exact hP⟩, hS.F ht⟩) hS.2.2 d_Md_value_340
                  · have g221 : ¬ ((M206 0 33).toInt = 0) := fun q => h221 (Int32.toInt_inj.mp q)
                    refine lv_aload_n hx hb d_Md_value_312 rfl (lv_at hl 0 rfl) ?_
                    refine lv_aload_n hx hb d_Md_value_313 rfl (lv_at hl 0 rfl) ?_
                    refine ux_get (C := R_Md) (T := F_Md) (N := 50) hx hb hT in_Md hown hK hP (by decide) rfl rfl 34 (by decide) (hT _ fl_Md_328) rfl d_Md_value_314 ?_
                    refine lv_topi (fun z222 hz222 => ?_)
                    rw [show M206 0 34 = Mc50 0 34 from fq207 _ _ (by unfold mAp; omega)] at hz222
                    rw [hz222]
                    refine lv_if_le hx hb d_Md_value_317 rfl (fun h223 => ?_) (fun h223 => ?_)
                    · have g223 : (Mc50 0 34).toInt ≤ 0 := Int32.le_iff_toInt_le.mp h223
                      have w223 := ti_lo (Mc50 0 34)
                      refine lv_bipush (v := 6) hx hb d_Md_value_327 (by decide) ?_
                      refine ux_callv (va_runV ⟨hx, hb, hml, hown, hts⟩ (s_Md_error l D ad cA A TB hA hB  M206 hI 6) (cwV 1 hts (tb_goodV ml_Md_166 im_Md_error se_Md_error ii_Md kt_Md_error) rfl rfl rfl (by decide +kernel) ⟨Nat.le_of_ble_eq_true rfl, Nat.le_of_ble_eq_true rfl⟩) (ux_preV (by decide) rfl rfl hP hK hi hN) rfl rfl hl.1 rfl (lv_room (Nat.le_of_ble_eq_true rfl)) d_Md_value_329 ⟨Nat.zero_le _, Nat.zero_le _⟩) hS (fun M225 H locs q226 hP hS => ?_)
                      obtain ⟨hI, fq226, q226p⟩ := q226
                      have hF := fr_call hF fq226 (fun a b q => by unfold mEr at q; unfold mVa; omega)
                      refine lv_iconst (v := 0) hx hb d_Md_value_332 (by decide) ?_
                      exact W.iret (v := 0) hx hb hr (fun t ht hW => ⟨⟨0, M225, rfl, ⟨hI, hF, Or.inr (by assumption)⟩, by unfold ux_E; rw [ht]; exact hP⟩, hS.F ht⟩) hS.2.2 d_Md_value_333
                    · have g223 : ¬ ((Mc50 0 34).toInt ≤ 0) := fun q => h223 (Int32.le_iff_toInt_le.mpr q)
                      have u223 := ti_hi (Mc50 0 34)
                      refine lv_aload_n hx hb d_Md_value_320 rfl (lv_at hl 0 rfl) ?_
                      refine ux_get (C := R_Md) (T := F_Md) (N := 50) hx hb hT in_Md hown hK hP (by decide) rfl rfl 34 (by decide) (hT _ fl_Md_328) rfl d_Md_value_321 ?_
                      refine lv_topi (fun z227 hz227 => ?_)
                      rw [show M206 0 34 = Mc50 0 34 from fq207 _ _ (by unfold mAp; omega)] at hz227
                      rw [hz227]
                      refine lv_goto hx hb d_Md_value_324 rfl ?_
                      refine ux_callv (va_runV ⟨hx, hb, hml, hown, hts⟩ (s_Md_error l D ad cA A TB hA hB  M206 hI (Mc50 0 34)) (cwV 1 hts (tb_goodV ml_Md_166 im_Md_error se_Md_error ii_Md kt_Md_error) rfl rfl rfl (by decide +kernel) ⟨Nat.le_of_ble_eq_true rfl, Nat.le_of_ble_eq_true rfl⟩) (ux_preV (by decide) rfl rfl hP hK hi hN) rfl rfl hl.1 rfl (lv_room (Nat.le_of_ble_eq_true rfl)) d_Md_value_329 ⟨Nat.zero_le _, Nat.zero_le _⟩) hS (fun M229 H locs q230 hP hS => ?_)
                      obtain ⟨hI, fq230, q230p⟩ := q230
                      have hF := fr_call hF fq230 (fun a b q => by unfold mEr at q; unfold mVa; omega)
                      refine lv_iconst (v := 0) hx hb d_Md_value_332 (by decide) ?_
                      exact W.iret (v := 0) hx hb hr (fun t ht hW => ⟨⟨0, M229, rfl, ⟨hI, hF, Or.inr (by assumption)⟩, by unfold ux_E; rw [ht]; exact hP⟩, hS.F ht⟩) hS.2.2 d_Md_value_333
            · have g187 : ¬ (((k4 : Nat) : Int) ≤ 0) := fun q => h187 (Int32.le_iff_toInt_le.mpr (by rw [nI_toInt (n := k4) (by omega)]; exact q))
              refine lv_aload_n hx hb d_Md_value_281 rfl (lv_at hl 0 rfl) ?_
              refine lv_iconst (v := 1) hx hb d_Md_value_282 (by decide) ?_
              refine ux_callv (va_runV ⟨hx, hb, hml, hown, hts⟩ (s_Md_ill l D ad cA A TB hA hB  Mc50 hI 1) (cwV 1 hts (tb_goodV ml_Md_354 im_Md_ill se_Md_ill ii_Md kt_Md_ill) rfl rfl rfl (by decide +kernel) ⟨Nat.le_of_ble_eq_true rfl, Nat.le_of_ble_eq_true rfl⟩) (ux_preV (by decide) rfl rfl hP hK hi hN) rfl rfl hl.1 rfl (lv_room (Nat.le_of_ble_eq_true rfl)) d_Md_value_283 ⟨Nat.zero_le _, Nat.zero_le _⟩) hS (fun M232 H locs q233 hP hS => ?_)
              obtain ⟨hI, fq233, q233p⟩ := q233
              have hF := fr_call hF fq233 (fun a b q => by unfold mIl at q; unfold mVa; omega)
              rw [show (1 : Int32).toInt = 1 from rfl] at q233p
              refine lv_aload_n hx hb d_Md_value_286 rfl (lv_at hl 0 rfl) ?_
              refine ux_get (C := R_Md) (T := F_Md) (N := 50) hx hb hT in_Md hown hK hP (by decide) rfl rfl 34 (by decide) (hT _ fl_Md_328) rfl d_Md_value_287 ?_
              refine lv_if_ne hx hb d_Md_value_290 rfl (fun h234 => ?_) (fun h234 => ?_)
              · have g234 : ¬ ((M232 0 34).toInt = 0) := fun q => h234 (Int32.toInt_inj.mp q)
                refine lv_aload_n hx hb d_Md_value_298 rfl (lv_at hl 0 rfl) ?_
                refine ux_get (C := R_Md) (T := F_Md) (N := 50) hx hb hT in_Md hown hK hP (by decide) rfl rfl 34 (by decide) (hT _ fl_Md_328) rfl d_Md_value_299 ?_
                refine lv_if_gt hx hb d_Md_value_302 rfl (fun h235 => ?_) (fun h235 => ?_)
                · have g235 : 0 < (M232 0 34).toInt := Int32.lt_iff_toInt_lt.mp h235
                  have u235 := ti_hi (M232 0 34)
                  refine lv_aload_n hx hb d_Md_value_312 rfl (lv_at hl 0 rfl) ?_
                  refine lv_aload_n hx hb d_Md_value_313 rfl (lv_at hl 0 rfl) ?_
                  refine ux_get (C := R_Md) (T := F_Md) (N := 50) hx hb hT in_Md hown hK hP (by decide) rfl rfl 34 (by decide) (hT _ fl_Md_328) rfl d_Md_value_314 ?_
                  refine lv_if_le hx hb d_Md_value_317 rfl (fun h236 => ?_) (fun h236 => ?_)
                  · have g236 : (M232 0 34).toInt ≤ 0 := Int32.le_iff_toInt_le.mp h236
                    have w236 := ti_lo (M232 0 34)
                    refine lv_bipush (v := 6) hx hb d_Md_value_327 (by decide) ?_
                    refine ux_callv (va_runV ⟨hx, hb, hml, hown, hts⟩ (s_Md_error l D ad cA A TB hA hB  M232 hI 6) (cwV 1 hts (tb_goodV ml_Md_166 im_Md_error se_Md_error ii_Md kt_Md_error) rfl rfl rfl (by decide +kernel) ⟨Nat.le_of_ble_eq_true rfl, Nat.le_of_ble_eq_true rfl⟩) (ux_preV (by decide) rfl rfl hP hK hi hN) rfl rfl hl.1 rfl (lv_room (Nat.le_of_ble_eq_true rfl)) d_Md_value_329 ⟨Nat.zero_le _, Nat.zero_le _⟩) hS (fun M238 H locs q239 hP hS => ?_)
                    obtain ⟨hI, fq239, q239p⟩ := q239
                    have hF := fr_call hF fq239 (fun a b q => by unfold mEr at q; unfold mVa; omega)
                    refine lv_iconst (v := 0) hx hb d_Md_value_332 (by decide) ?_
                    exact W.iret (v := 0) hx hb hr (fun t ht hW => ⟨⟨0, M238, rfl, ⟨hI, hF, Or.inr (by assumption)⟩, by unfold ux_E; rw [ht]; exact hP⟩, hS.F ht⟩) hS.2.2 d_Md_value_333
                  · have g236 : ¬ ((M232 0 34).toInt ≤ 0) := fun q => h236 (Int32.le_iff_toInt_le.mpr q)
                    have u236 := ti_hi (M232 0 34)
                    refine lv_aload_n hx hb d_Md_value_320 rfl (lv_at hl 0 rfl) ?_
                    refine ux_get (C := R_Md) (T := F_Md) (N := 50) hx hb hT in_Md hown hK hP (by decide) rfl rfl 34 (by decide) (hT _ fl_Md_328) rfl d_Md_value_321 ?_
                    refine lv_goto hx hb d_Md_value_324 rfl ?_
                    refine ux_callv (va_runV ⟨hx, hb, hml, hown, hts⟩ (s_Md_error l D ad cA A TB hA hB  M232 hI (M232 0 34)) (cwV 1 hts (tb_goodV ml_Md_166 im_Md_error se_Md_error ii_Md kt_Md_error) rfl rfl rfl (by decide +kernel) ⟨Nat.le_of_ble_eq_true rfl, Nat.le_of_ble_eq_true rfl⟩) (ux_preV (by decide) rfl rfl hP hK hi hN) rfl rfl hl.1 rfl (lv_room (Nat.le_of_ble_eq_true rfl)) d_Md_value_329 ⟨Nat.zero_le _, Nat.zero_le _⟩) hS (fun M241 H locs q242 hP hS => ?_)
                    obtain ⟨hI, fq242, q242p⟩ := q242
                    have hF := fr_call hF fq242 (fun a b q => by unfold mEr at q; unfold mVa; omega)
                    refine lv_iconst (v := 0) hx hb d_Md_value_332 (by decide) ?_
                    exact W.iret (v := 0) hx hb hr (fun t ht hW => ⟨⟨0, M241, rfl, ⟨hI, hF, Or.inr (by assumption)⟩, by unfold ux_E; rw [ht]; exact hP⟩, hS.F ht⟩) hS.2.2 d_Md_value_333
                · have g235 : ¬ (0 < (M232 0 34).toInt) := fun q => h235 (Int32.lt_iff_toInt_lt.mpr q)
                  have w235 := ti_lo (M232 0 34)
                  refine lv_aload_n hx hb d_Md_value_305 rfl (lv_at hl 0 rfl) ?_
                  refine ux_get (C := R_Md) (T := F_Md) (N := 50) hx hb hT in_Md hown hK hP (by decide) rfl rfl 33 (by decide) (hT _ fl_Md_331) rfl d_Md_value_306 ?_
                  refine lv_if_eq hx hb d_Md_value_309 rfl (fun h243 => ?_) (fun h243 => ?_)
                  · have g243 : (M232 0 33).toInt = 0 := congrArg Int32.toInt h243
                    refine lv_aload_n hx hb d_Md_value_334 rfl (lv_at hl 0 rfl) ?_
                    refine ux_get (C := R_Md) (T := F_Md) (N := 50) hx hb hT in_Md hown hK hP (by decide) rfl rfl 30 (by decide) (hT _ fl_Md_82) rfl d_Md_value_335 ?_
                    refine lv_iconst (v := 0) hx hb d_Md_value_338 (by decide) ?_
                    refine ux_iald hx hb hK hP (by decide) rfl (vi (by decide) (by decide)) d_Md_value_339 ?_
                    rw [show (0 : Int32).toNatClampNeg = 0 from rfl]
                    exact W.iret (v := M232 23 0) hx hb hr (fun t ht hW => ⟨⟨M232 23 0, M232, rfl, ⟨hI, hF, Or.inl ⟨(fq233 _ _ (by unfold mIl; omega)).trans c50_7.1, (fq233 _ _ (by unfold mIl; omega)).trans c50_7.2⟩⟩, by unfold ux_E; rw [ht]; exact hP⟩, hS.F ht⟩) hS.2.2 d_Md_value_340
                  · have g243 : ¬ ((M232 0 33).toInt = 0) := fun q => h243 (Int32.toInt_inj.mp q)
                    refine lv_aload_n hx hb d_Md_value_312 rfl (lv_at hl 0 rfl) ?_
                    refine lv_aload_n hx hb d_Md_value_313 rfl (lv_at hl 0 rfl) ?_
                    refine ux_get (C := R_Md) (T := F_Md) (N := 50) hx hb hT in_Md hown hK hP (by decide) rfl rfl 34 (by decide) (hT _ fl_Md_328) rfl d_Md_value_314 ?_
                    refine lv_if_le hx hb d_Md_value_317 rfl (fun h244 => ?_) (fun h244 => ?_)
                    · have g244 : (M232 0 34).toInt ≤ 0 := Int32.le_iff_toInt_le.mp h244
                      have w244 := ti_lo (M232 0 34)
                      refine lv_bipush (v := 6) hx hb d_Md_value_327 (by decide) ?_
                      refine ux_callv (va_runV ⟨hx, hb, hml, hown, hts⟩ (s_Md_error l D ad cA A TB hA hB  M232 hI 6) (cwV 1 hts (tb_goodV ml_Md_166 im_Md_error se_Md_error ii_Md kt_Md_error) rfl rfl rfl (by decide +kernel) ⟨Nat.le_of_ble_eq_true rfl, Nat.le_of_ble_eq_true rfl⟩) (ux_preV (by decide) rfl rfl hP hK hi hN) rfl rfl hl.1 rfl (lv_room (Nat.le_of_ble_eq_true rfl)) d_Md_value_329 ⟨Nat.zero_le _, Nat.zero_le _⟩) hS (fun M246 H locs q247 hP hS => ?_)
                      obtain ⟨hI, fq247, q247p⟩ := q247
                      have hF := fr_call hF fq247 (fun a b q => by unfold mEr at q; unfold mVa; omega)
                      refine lv_iconst (v := 0) hx hb d_Md_value_332 (by decide) ?_
                      exact W.iret (v := 0) hx hb hr (fun t ht hW => ⟨⟨0, M246, rfl, ⟨hI, hF, Or.inr (by assumption)⟩, by unfold ux_E; rw [ht]; exact hP⟩, hS.F ht⟩) hS.2.2 d_Md_value_333
                    · have g244 : ¬ ((M232 0 34).toInt ≤ 0) := fun q => h244 (Int32.le_iff_toInt_le.mpr q)
                      have u244 := ti_hi (M232 0 34)
                      refine lv_aload_n hx hb d_Md_value_320 rfl (lv_at hl 0 rfl) ?_
                      refine ux_get (C := R_Md) (T := F_Md) (N := 50) hx hb hT in_Md hown hK hP (by decide) rfl rfl 34 (by decide) (hT _ fl_Md_328) rfl d_Md_value_321 ?_
                      refine lv_goto hx hb d_Md_value_324 rfl ?_
                      refine ux_callv (va_runV ⟨hx, hb, hml, hown, hts⟩ (s_Md_error l D ad cA A TB hA hB  M232 hI (M232 0 34)) (cwV 1 hts (tb_goodV ml_Md_166 im_Md_error se_Md_error ii_Md kt_Md_error) rfl rfl rfl (by decide +kernel) ⟨Nat.le_of_ble_eq_true rfl, Nat.le_of_ble_eq_true rfl⟩) (ux_preV (by decide) rfl rfl hP hK hi hN) rfl rfl hl.1 rfl (lv_room (Nat.le_of_ble_eq_true rfl)) d_Md_value_329 ⟨Nat.zero_le _, Nat.zero_le _⟩) hS (fun M249 H locs q250 hP hS => ?_)
                      obtain ⟨hI, fq250, q250p⟩ := q250
                      have hF := fr_call hF fq250 (fun a b q => by unfold mEr at q; unfold mVa; omega)
                      refine lv_iconst (v := 0) hx hb d_Md_value_332 (by decide) ?_
                      exact W.iret (v := 0) hx hb hr (fun t ht hW => ⟨⟨0, M249, rfl, ⟨hI, hF, Or.inr (by assumption)⟩, by unfold ux_E; rw [ht]; exact hP⟩, hS.F ht⟩) hS.2.2 d_Md_value_333
              · have g234 : (M232 0 34).toInt = 0 := congrArg Int32.toInt h234
                refine lv_aload_n hx hb d_Md_value_293 rfl (lv_at hl 0 rfl) ?_
                refine lv_iconst (v := 1) hx hb d_Md_value_294 (by decide) ?_
                refine ux_callv (va_runV ⟨hx, hb, hml, hown, hts⟩ (s_Md_applyFrom l D ad cA A TB hA hB  M232 hI n1 v1 ((fq233 _ _ (by unfold mIl; omega)).trans (hg_n1)) ((fq233 _ _ (by unfold mIl; omega)).trans (hg_v1)) (by omega) (by omega) (by omega) 1 (by decide)) (cwV 1 hts (tb_goodV ml_Md_367 im_Md_applyFrom se_Md_applyFrom ii_Md kt_Md_applyFrom) rfl rfl rfl (by decide +kernel) ⟨Nat.le_of_ble_eq_true rfl, Nat.le_of_ble_eq_true rfl⟩) (ux_preV (by decide) rfl rfl hP hK hi hN) rfl rfl hl.1 rfl (lv_room (Nat.le_of_ble_eq_true rfl)) d_Md_value_295 ⟨Nat.zero_le _, Nat.zero_le _⟩) hS (fun M252 H locs q253 hP hS => ?_)
                obtain ⟨hI, fq253, q253p⟩ := q253
                have hF := fr_call hF fq253 (fun a b q => by unfold mAp at q; unfold mVa; omega)
                obtain ⟨n254, v255, hn254a, hv255a, hn254b, hv255b, hv255c, hn254d, hn254e⟩ := q253p
                rw [show (1 : Int32).toInt = 1 from rfl] at hn254e
                have hn254r : ∀ j, M252 22 j = M232 22 j := fun j => fq253 _ _ (by unfold mAp; omega)
                have hn254B : cP PB (M252 22) n254 = cP PB (M232 22) n254 := cP_cong _ (fun j _ => hn254r j)
                have hn2544 : cP P40 (M252 22) n254 = cP P40 (M232 22) n254 := cP_cong _ (fun j _ => hn254r j)
                have hn254l := cP_le (P := P40) (f := M232 22) n254
                have hn254t := congrArg rk (congrArg Int32.toInt (hn254r (n254 - 1)))
                refine lv_aload_n hx hb d_Md_value_298 rfl (lv_at hl 0 rfl) ?_
                refine ux_get (C := R_Md) (T := F_Md) (N := 50) hx hb hT in_Md hown hK hP (by decide) rfl rfl 34 (by decide) (hT _ fl_Md_328) rfl d_Md_value_299 ?_
                refine lv_topi (fun z256 hz256 => ?_)
                rw [show M252 0 34 = M232 0 34 from fq253 _ _ (by unfold mAp; omega)] at hz256
                rw [hz256]
                refine lv_if_gt hx hb d_Md_value_302 rfl (fun h257 => ?_) (fun h257 => ?_)
                · have g257 : 0 < (M232 0 34).toInt := Int32.lt_iff_toInt_lt.mp h257
                  have u257 := ti_hi (M232 0 34)
                  refine lv_aload_n hx hb d_Md_value_312 rfl (lv_at hl 0 rfl) ?_
                  refine lv_aload_n hx hb d_Md_value_313 rfl (lv_at hl 0 rfl) ?_
                  refine ux_get (C := R_Md) (T := F_Md) (N := 50) hx hb hT in_Md hown hK hP (by decide) rfl rfl 34 (by decide) (hT _ fl_Md_328) rfl d_Md_value_314 ?_
                  refine lv_topi (fun z258 hz258 => ?_)
                  rw [show M252 0 34 = M232 0 34 from fq253 _ _ (by unfold mAp; omega)] at hz258
                  rw [hz258]
                  refine lv_if_le hx hb d_Md_value_317 rfl (fun h259 => ?_) (fun h259 => ?_)
                  · have g259 : (M232 0 34).toInt ≤ 0 := Int32.le_iff_toInt_le.mp h259
                    have w259 := ti_lo (M232 0 34)
                    refine lv_bipush (v := 6) hx hb d_Md_value_327 (by decide) ?_
                    refine ux_callv (va_runV ⟨hx, hb, hml, hown, hts⟩ (s_Md_error l D ad cA A TB hA hB  M252 hI 6) (cwV 1 hts (tb_goodV ml_Md_166 im_Md_error se_Md_error ii_Md kt_Md_error) rfl rfl rfl (by decide +kernel) ⟨Nat.le_of_ble_eq_true rfl, Nat.le_of_ble_eq_true rfl⟩) (ux_preV (by decide) rfl rfl hP hK hi hN) rfl rfl hl.1 rfl (lv_room (Nat.le_of_ble_eq_true rfl)) d_Md_value_329 ⟨Nat.zero_le _, Nat.zero_le _⟩) hS (fun M261 H locs q262 hP hS => ?_)
                    obtain ⟨hI, fq262, q262p⟩ := q262
                    have hF := fr_call hF fq262 (fun a b q => by unfold mEr at q; unfold mVa; omega)
                    refine lv_iconst (v := 0) hx hb d_Md_value_332 (by decide) ?_
                    exact W.iret (v := 0) hx hb hr (fun t ht hW => ⟨⟨0, M261, rfl, ⟨hI, hF, Or.inr (by assumption)⟩, by unfold ux_E; rw [ht]; exact hP⟩, hS.F ht⟩) hS.2.2 d_Md_value_333
                  · have g259 : ¬ ((M232 0 34).toInt ≤ 0) := fun q => h259 (Int32.le_iff_toInt_le.mpr q)
                    have u259 := ti_hi (M232 0 34)
                    refine lv_aload_n hx hb d_Md_value_320 rfl (lv_at hl 0 rfl) ?_
                    refine ux_get (C := R_Md) (T := F_Md) (N := 50) hx hb hT in_Md hown hK hP (by decide) rfl rfl 34 (by decide) (hT _ fl_Md_328) rfl d_Md_value_321 ?_
                    refine lv_topi (fun z263 hz263 => ?_)
                    rw [show M252 0 34 = M232 0 34 from fq253 _ _ (by unfold mAp; omega)] at hz263
                    rw [hz263]
                    refine lv_goto hx hb d_Md_value_324 rfl ?_
                    refine ux_callv (va_runV ⟨hx, hb, hml, hown, hts⟩ (s_Md_error l D ad cA A TB hA hB  M252 hI (M232 0 34)) (cwV 1 hts (tb_goodV ml_Md_166 im_Md_error se_Md_error ii_Md kt_Md_error) rfl rfl rfl (by decide +kernel) ⟨Nat.le_of_ble_eq_true rfl, Nat.le_of_ble_eq_true rfl⟩) (ux_preV (by decide) rfl rfl hP hK hi hN) rfl rfl hl.1 rfl (lv_room (Nat.le_of_ble_eq_true rfl)) d_Md_value_329 ⟨Nat.zero_le _, Nat.zero_le _⟩) hS (fun M265 H locs q266 hP hS => ?_)
                    obtain ⟨hI, fq266, q266p⟩ := q266
                    have hF := fr_call hF fq266 (fun a b q => by unfold mEr at q; unfold mVa; omega)
                    refine lv_iconst (v := 0) hx hb d_Md_value_332 (by decide) ?_
                    exact W.iret (v := 0) hx hb hr (fun t ht hW => ⟨⟨0, M265, rfl, ⟨hI, hF, Or.inr (by assumption)⟩, by unfold ux_E; rw [ht]; exact hP⟩, hS.F ht⟩) hS.2.2 d_Md_value_333
                · have g257 : ¬ (0 < (M232 0 34).toInt) := fun q => h257 (Int32.lt_iff_toInt_lt.mpr q)
                  have w257 := ti_lo (M232 0 34)
                  refine lv_aload_n hx hb d_Md_value_305 rfl (lv_at hl 0 rfl) ?_
                  refine ux_get (C := R_Md) (T := F_Md) (N := 50) hx hb hT in_Md hown hK hP (by decide) rfl rfl 33 (by decide) (hT _ fl_Md_331) rfl d_Md_value_306 ?_
                  refine lv_if_eq hx hb d_Md_value_309 rfl (fun h267 => ?_) (fun h267 => ?_)
                  · have g267 : (M252 0 33).toInt = 0 := congrArg Int32.toInt h267
                    refine lv_aload_n hx hb d_Md_value_334 rfl (lv_at hl 0 rfl) ?_
                    refine ux_get (C := R_Md) (T := F_Md) (N := 50) hx hb hT in_Md hown hK hP (by decide) rfl rfl 30 (by decide) (hT _ fl_Md_82) rfl d_Md_value_335 ?_
                    refine lv_iconst (v := 0) hx hb d_Md_value_338 (by decide) ?_
                    refine ux_iald hx hb hK hP (by decide) rfl (vi (by decide) (by decide)) d_Md_value_339 ?_
                    rw [show (0 : Int32).toNatClampNeg = 0 from rfl]
                    exact W.iret (v := M252 23 0) hx hb hr (fun t ht hW => ⟨⟨M252 23 0, M252, rfl, ⟨hI, hF, Or.inl ⟨((fq253 _ _ (by unfold mAp; omega)).trans (fq233 _ _ (by unfold mIl; omega))).trans c50_7.1, ((fq253 _ _ (by unfold mAp; omega)).trans (fq233 _ _ (by unfold mIl; omega))).trans c50_7.2⟩⟩, by unfold ux_E; rw [ht]; exact hP⟩, hS.F ht⟩) hS.2.2 d_Md_value_340
                  · have g267 : ¬ ((M252 0 33).toInt = 0) := fun q => h267 (Int32.toInt_inj.mp q)
                    refine lv_aload_n hx hb d_Md_value_312 rfl (lv_at hl 0 rfl) ?_
                    refine lv_aload_n hx hb d_Md_value_313 rfl (lv_at hl 0 rfl) ?_
                    refine ux_get (C := R_Md) (T := F_Md) (N := 50) hx hb hT in_Md hown hK hP (by decide) rfl rfl 34 (by decide) (hT _ fl_Md_328) rfl d_Md_value_314 ?_
                    refine lv_topi (fun z268 hz268 => ?_)
                    rw [show M252 0 34 = M232 0 34 from fq253 _ _ (by unfold mAp; omega)] at hz268
                    rw [hz268]
                    refine lv_if_le hx hb d_Md_value_317 rfl (fun h269 => ?_) (fun h269 => ?_)
                    · have g269 : (M232 0 34).toInt ≤ 0 := Int32.le_iff_toInt_le.mp h269
                      have w269 := ti_lo (M232 0 34)
                      refine lv_bipush (v := 6) hx hb d_Md_value_327 (by decide) ?_
                      refine ux_callv (va_runV ⟨hx, hb, hml, hown, hts⟩ (s_Md_error l D ad cA A TB hA hB  M252 hI 6) (cwV 1 hts (tb_goodV ml_Md_166 im_Md_error se_Md_error ii_Md kt_Md_error) rfl rfl rfl (by decide +kernel) ⟨Nat.le_of_ble_eq_true rfl, Nat.le_of_ble_eq_true rfl⟩) (ux_preV (by decide) rfl rfl hP hK hi hN) rfl rfl hl.1 rfl (lv_room (Nat.le_of_ble_eq_true rfl)) d_Md_value_329 ⟨Nat.zero_le _, Nat.zero_le _⟩) hS (fun M271 H locs q272 hP hS => ?_)
                      obtain ⟨hI, fq272, q272p⟩ := q272
                      have hF := fr_call hF fq272 (fun a b q => by unfold mEr at q; unfold mVa; omega)
                      refine lv_iconst (v := 0) hx hb d_Md_value_332 (by decide) ?_
                      exact W.iret (v := 0) hx hb hr (fun t ht hW => ⟨⟨0, M271, rfl, ⟨hI, hF, Or.inr (by assumption)⟩, by unfold ux_E; rw [ht]; exact hP⟩, hS.F ht⟩) hS.2.2 d_Md_value_333
                    · have g269 : ¬ ((M232 0 34).toInt ≤ 0) := fun q => h269 (Int32.le_iff_toInt_le.mpr q)
                      have u269 := ti_hi (M232 0 34)
                      refine lv_aload_n hx hb d_Md_value_320 rfl (lv_at hl 0 rfl) ?_
                      refine ux_get (C := R_Md) (T := F_Md) (N := 50) hx hb hT in_Md hown hK hP (by decide) rfl rfl 34 (by decide) (hT _ fl_Md_328) rfl d_Md_value_321 ?_
                      refine lv_topi (fun z273 hz273 => ?_)
                      rw [show M252 0 34 = M232 0 34 from fq253 _ _ (by unfold mAp; omega)] at hz273
                      rw [hz273]
                      refine lv_goto hx hb d_Md_value_324 rfl ?_
                      refine ux_callv (va_runV ⟨hx, hb, hml, hown, hts⟩ (s_Md_error l D ad cA A TB hA hB  M252 hI (M232 0 34)) (cwV 1 hts (tb_goodV ml_Md_166 im_Md_error se_Md_error ii_Md kt_Md_error) rfl rfl rfl (by decide +kernel) ⟨Nat.le_of_ble_eq_true rfl, Nat.le_of_ble_eq_true rfl⟩) (ux_preV (by decide) rfl rfl hP hK hi hN) rfl rfl hl.1 rfl (lv_room (Nat.le_of_ble_eq_true rfl)) d_Md_value_329 ⟨Nat.zero_le _, Nat.zero_le _⟩) hS (fun M275 H locs q276 hP hS => ?_)
                      obtain ⟨hI, fq276, q276p⟩ := q276
                      have hF := fr_call hF fq276 (fun a b q => by unfold mEr at q; unfold mVa; omega)
                      refine lv_iconst (v := 0) hx hb d_Md_value_332 (by decide) ?_
                      exact W.iret (v := 0) hx hb hr (fun t ht hW => ⟨⟨0, M275, rfl, ⟨hI, hF, Or.inr (by assumption)⟩, by unfold ux_E; rw [ht]; exact hP⟩, hS.F ht⟩) hS.2.2 d_Md_value_333
        · have g139 : ¬ ((Mc50 0 34).toInt = 1) := fun q => h139 (Int32.toInt_inj.mp q)
          refine lv_aload_n hx hb d_Md_value_63 rfl (lv_at hl 0 rfl) ?_
          refine ux_get (C := R_Md) (T := F_Md) (N := 50) hx hb hT in_Md hown hK hP (by decide) rfl rfl 0 (by decide) (hT _ fl_Md_7) rfl d_Md_value_64 ?_
          refine lv_iload_n hx hb d_Md_value_67 rfl (lv_at hl 2 rfl) ?_
          refine ux_cald hx hb hK hP (by decide) rfl (vp_in_nI (show k2 < 200 by omega) (by decide)) d_Md_value_68 ?_
          rw [nI_clamp (n := k2) (by omega)]
          refine lv_topi (fun z278 hz278 => ?_)
          obtain ⟨c277, hc277, ec277⟩ := nat_of (x := Mc50 1 k2) (n := 65535) (hI.1 1 k2).1 (hI.1 1 k2).2
          rw [ec277] at hz278
          rw [hz278]
          have tc277 : (Mc50 1 k2).toInt = (c277 : Int) := by rw [ec277]; exact nI_toInt (by omega)
          refine lv_istore hx hb d_Md_value_69 hl (by decide) rfl (fun ls hl => ?_)
          have hl : lv_has ls 7 [(6, .int (nI c277)), (0, .ref (ad 0)), (1, .int (nI w)), (2, .int (nI k2)), (3, .int (nI k3)), (4, .int (nI k4)), (5, .int i_5)] := hl
          refine lv_iload hx hb d_Md_value_71 (lv_at hl 0 rfl) ?_
          refine lv_bipush (v := 32) hx hb d_Md_value_73 (by decide) ?_
          refine lv_icmp_ne hx hb d_Md_value_75 rfl (fun h279 => ?_) (fun h279 => ?_)
          · have g279 : ¬ (((c277 : Nat) : Int) = 32) := fun q => h279 (Int32.toInt_inj.mp (by rw [nI_toInt (n := c277) (by omega)]; exact q))
            refine lv_iload hx hb d_Md_value_84 (lv_at hl 6 rfl) ?_
            refine lv_if_eq hx hb d_Md_value_86 rfl (fun h280 => ?_) (fun h280 => ?_)
            · have g280 : i_5.toInt = 0 := congrArg Int32.toInt h280
              refine lv_iload hx hb d_Md_value_127 (lv_at hl 6 rfl) ?_
              refine lv_if_eq hx hb d_Md_value_129 rfl (fun h281 => ?_) (fun h281 => ?_)
              · have g281 : i_5.toInt = 0 := congrArg Int32.toInt h281
                refine lv_iload hx hb d_Md_value_166 (lv_at hl 6 rfl) ?_
                refine lv_if_eq hx hb d_Md_value_168 rfl (fun h282 => ?_) (fun h282 => ?_)
                · have g282 : i_5.toInt = 0 := congrArg Int32.toInt h282
                  refine lv_iload hx hb d_Md_value_184 (lv_at hl 0 rfl) ?_
                  refine lv_bipush (v := 41) hx hb d_Md_value_186 (by decide) ?_
                  refine lv_icmp_ne hx hb d_Md_value_188 rfl (fun h283 => ?_) (fun h283 => ?_)
                  · have g283 : ¬ (((c277 : Nat) : Int) = 41) := fun q => h283 (Int32.toInt_inj.mp (by rw [nI_toInt (n := c277) (by omega)]; exact q))
                    refine lv_iload hx hb d_Md_value_220 (lv_at hl 0 rfl) ?_
                    refine ux_calli (va_runS ⟨hx, hb, hml, hown, hts⟩ (s_Md_rankOf l D ad cA A TB hA hB  Mc50 hI (nI c277)) (va_cwS 1 hts (tb_goodST ml_Md_348 sm_Md_rankOf ii_Md kt_Md_rankOf) rfl rfl rfl (by decide +kernel) ⟨Nat.le_of_ble_eq_true rfl, Nat.le_of_ble_eq_true rfl⟩) (ux_pre hP hK hi hN) rfl rfl hl.1 rfl (lv_room (Nat.le_of_ble_eq_true rfl)) d_Md_value_222 ⟨Nat.zero_le _, Nat.zero_le _⟩) hS (fun r284 M285 H locs q286 hP hS => ?_)
                    obtain ⟨hI, fq286, q286p⟩ := q286
                    rw [tN_eq fq286] at hP hI
                    refine lv_iconst (v := 1) hx hb d_Md_value_225 (by decide) ?_
                    refine lv_icmp_le hx hb d_Md_value_226 rfl (fun h287 => ?_) (fun h287 => ?_)
                    · have g287 : r284.toInt ≤ 1 := Int32.le_iff_toInt_le.mp h287
                      have w287 := ti_lo r284
                      refine lv_aload_n hx hb d_Md_value_263 rfl (lv_at hl 1 rfl) ?_
                      refine lv_iconst (v := 1) hx hb d_Md_value_264 (by decide) ?_
                      refine ux_callv (va_runV ⟨hx, hb, hml, hown, hts⟩ (s_Md_ill l D ad cA A TB hA hB  Mc50 hI 1) (cwV 1 hts (tb_goodV ml_Md_354 im_Md_ill se_Md_ill ii_Md kt_Md_ill) rfl rfl rfl (by decide +kernel) ⟨Nat.le_of_ble_eq_true rfl, Nat.le_of_ble_eq_true rfl⟩) (ux_preV (by decide) rfl rfl hP hK hi hN) rfl rfl hl.1 rfl (lv_room (Nat.le_of_ble_eq_true rfl)) d_Md_value_265 ⟨Nat.zero_le _, Nat.zero_le _⟩) hS (fun M289 H locs q290 hP hS => ?_)
                      obtain ⟨hI, fq290, q290p⟩ := q290
                      have hF := fr_call hF fq290 (fun a b q => by unfold mIl at q; unfold mVa; omega)
                      rw [show (1 : Int32).toInt = 1 from rfl] at q290p
                      refine lv_goto hx hb d_Md_value_268 rfl ?_
                      exact ih50 (0 * 300 + (250 - k2)) (by omega) i_5 k2 k3 k4 n1 v1 0 M289 _ _ ls rfl (show M289 0 31 = nI n1 from (fq290 _ _ (by unfold mIl; omega)).trans (hg_n1)) (show M289 0 32 = nI v1 from (fq290 _ _ (by unfold mIl; omega)).trans (hg_v1)) (show k2 ≤ 201 from by first | omega | assumption | exact Or.inl rfl | exact Or.inr rfl | rfl | decide) (show k3 ≤ 200 from by first | omega | assumption | exact Or.inl rfl | exact Or.inr rfl | rfl | decide) (show n1 ≤ k2 from by first | omega | assumption | exact Or.inl rfl | exact Or.inr rfl | rfl | decide) (show 0 ≤ 1 from by first | omega | assumption | exact Or.inl rfl | exact Or.inr rfl | rfl | decide) (show (i_5.toInt = 1 ∧ v1 = cP PB (M289 22) n1) ∨ (i_5.toInt = 0 ∧ v1 = cP PB (M289 22) n1 + 1) from by first | (have h11 : (1 : Int32).toInt = 1 := rfl; have h00 : (0 : Int32).toInt = 0 := rfl; have : cP PB (M289 22) (n1) = cP PB (Mc50 22) (n1) := cP_cong _ (fun j _ => fq290 _ _ (by unfold mIl; omega)); have : cP P40 (M289 22) (n1) = cP P40 (Mc50 22) (n1) := cP_cong _ (fun j _ => fq290 _ _ (by unfold mIl; omega)); omega)) (show k4 ≤ cP P40 (M289 22) n1 from by first | (have h11 : (1 : Int32).toInt = 1 := rfl; have h00 : (0 : Int32).toInt = 0 := rfl; have : cP PB (M289 22) (n1) = cP PB (Mc50 22) (n1) := cP_cong _ (fun j _ => fq290 _ _ (by unfold mIl; omega)); have : cP P40 (M289 22) (n1) = cP P40 (Mc50 22) (n1) := cP_cong _ (fun j _ => fq290 _ _ (by unfold mIl; omega)); omega)) (show 0 = 1 ∨ (M289 0 34).toInt = 1 from by first | (omega)) (show (M289 0 23 = M 0 23) ∧ (M289 0 24 = M 0 24) from by first | exact ⟨(fq290 _ _ (by unfold mIl; omega)).trans c50_7.1, (fq290 _ _ (by unfold mIl; omega)).trans c50_7.2⟩) hP hI hF hS (lv_sub hl [1, 2, 3, 4, 5, 6] rfl)
                    · have g287 : ¬ (r284.toInt ≤ 1) := fun q => h287 (Int32.le_iff_toInt_le.mpr q)
                      have u287 := ti_hi r284
                      refine lv_iload hx hb d_Md_value_229 (lv_at hl 0 rfl) ?_
                      refine ux_calli (va_runS ⟨hx, hb, hml, hown, hts⟩ (s_Md_rankOf l D ad cA A TB hA hB  Mc50 hI (nI c277)) (va_cwS 1 hts (tb_goodST ml_Md_348 sm_Md_rankOf ii_Md kt_Md_rankOf) rfl rfl rfl (by decide +kernel) ⟨Nat.le_of_ble_eq_true rfl, Nat.le_of_ble_eq_true rfl⟩) (ux_pre hP hK hi hN) rfl rfl hl.1 rfl (lv_room (Nat.le_of_ble_eq_true rfl)) d_Md_value_231 ⟨Nat.zero_le _, Nat.zero_le _⟩) hS (fun r291 M292 H locs q293 hP hS => ?_)
                      obtain ⟨hI, fq293, q293p⟩ := q293
                      rw [tN_eq fq293] at hP hI
                      refine lv_bipush (v := 7) hx hb d_Md_value_234 (by decide) ?_
                      refine lv_icmp_ge hx hb d_Md_value_236 rfl (fun h294 => ?_) (fun h294 => ?_)
                      · have g294 : 7 ≤ r291.toInt := Int32.le_iff_toInt_le.mp h294
                        have u294 := ti_hi r291
                        refine lv_aload_n hx hb d_Md_value_263 rfl (lv_at hl 1 rfl) ?_
                        refine lv_iconst (v := 1) hx hb d_Md_value_264 (by decide) ?_
                        refine ux_callv (va_runV ⟨hx, hb, hml, hown, hts⟩ (s_Md_ill l D ad cA A TB hA hB  Mc50 hI 1) (cwV 1 hts (tb_goodV ml_Md_354 im_Md_ill se_Md_ill ii_Md kt_Md_ill) rfl rfl rfl (by decide +kernel) ⟨Nat.le_of_ble_eq_true rfl, Nat.le_of_ble_eq_true rfl⟩) (ux_preV (by decide) rfl rfl hP hK hi hN) rfl rfl hl.1 rfl (lv_room (Nat.le_of_ble_eq_true rfl)) d_Md_value_265 ⟨Nat.zero_le _, Nat.zero_le _⟩) hS (fun M296 H locs q297 hP hS => ?_)
                        obtain ⟨hI, fq297, q297p⟩ := q297
                        have hF := fr_call hF fq297 (fun a b q => by unfold mIl at q; unfold mVa; omega)
                        rw [show (1 : Int32).toInt = 1 from rfl] at q297p
                        refine lv_goto hx hb d_Md_value_268 rfl ?_
                        exact ih50 (0 * 300 + (250 - k2)) (by omega) i_5 k2 k3 k4 n1 v1 0 M296 _ _ ls rfl (show M296 0 31 = nI n1 from (fq297 _ _ (by unfold mIl; omega)).trans (hg_n1)) (show M296 0 32 = nI v1 from (fq297 _ _ (by unfold mIl; omega)).trans (hg_v1)) (show k2 ≤ 201 from by first | omega | assumption | exact Or.inl rfl | exact Or.inr rfl | rfl | decide) (show k3 ≤ 200 from by first | omega | assumption | exact Or.inl rfl | exact Or.inr rfl | rfl | decide) (show n1 ≤ k2 from by first | omega | assumption | exact Or.inl rfl | exact Or.inr rfl | rfl | decide) (show 0 ≤ 1 from by first | omega | assumption | exact Or.inl rfl | exact Or.inr rfl | rfl | decide) (show (i_5.toInt = 1 ∧ v1 = cP PB (M296 22) n1) ∨ (i_5.toInt = 0 ∧ v1 = cP PB (M296 22) n1 + 1) from by first | (have h11 : (1 : Int32).toInt = 1 := rfl; have h00 : (0 : Int32).toInt = 0 := rfl; have : cP PB (M296 22) (n1) = cP PB (Mc50 22) (n1) := cP_cong _ (fun j _ => fq297 _ _ (by unfold mIl; omega)); have : cP P40 (M296 22) (n1) = cP P40 (Mc50 22) (n1) := cP_cong _ (fun j _ => fq297 _ _ (by unfold mIl; omega)); omega)) (show k4 ≤ cP P40 (M296 22) n1 from by first | (have h11 : (1 : Int32).toInt = 1 := rfl; have h00 : (0 : Int32).toInt = 0 := rfl; have : cP PB (M296 22) (n1) = cP PB (Mc50 22) (n1) := cP_cong _ (fun j _ => fq297 _ _ (by unfold mIl; omega)); have : cP P40 (M296 22) (n1) = cP P40 (Mc50 22) (n1) := cP_cong _ (fun j _ => fq297 _ _ (by unfold mIl; omega)); omega)) (show 0 = 1 ∨ (M296 0 34).toInt = 1 from by first | (omega)) (show (M296 0 23 = M 0 23) ∧ (M296 0 24 = M 0 24) from by first | exact ⟨(fq297 _ _ (by unfold mIl; omega)).trans c50_7.1, (fq297 _ _ (by unfold mIl; omega)).trans c50_7.2⟩) hP hI hF hS (lv_sub hl [1, 2, 3, 4, 5, 6] rfl)
                      · have g294 : ¬ (7 ≤ r291.toInt) := fun q => h294 (Int32.le_iff_toInt_le.mpr q)
                        have w294 := ti_lo r291
                        refine lv_aload_n hx hb d_Md_value_239 rfl (lv_at hl 1 rfl) ?_
                        refine lv_iload hx hb d_Md_value_240 (lv_at hl 0 rfl) ?_
                        refine ux_calli (va_runS ⟨hx, hb, hml, hown, hts⟩ (s_Md_rankOf l D ad cA A TB hA hB  Mc50 hI (nI c277)) (va_cwS 1 hts (tb_goodST ml_Md_348 sm_Md_rankOf ii_Md kt_Md_rankOf) rfl rfl rfl (by decide +kernel) ⟨Nat.le_of_ble_eq_true rfl, Nat.le_of_ble_eq_true rfl⟩) (ux_pre hP hK hi hN) rfl rfl hl.1 rfl (lv_room (Nat.le_of_ble_eq_true rfl)) d_Md_value_242 ⟨Nat.zero_le _, Nat.zero_le _⟩) hS (fun r298 M299 H locs q300 hP hS => ?_)
                        obtain ⟨hI, fq300, q300p⟩ := q300
                        rw [tN_eq fq300] at hP hI
                        refine ux_callv (va_runV ⟨hx, hb, hml, hown, hts⟩ (s_Md_applyFrom l D ad cA A TB hA hB  Mc50 hI n1 v1 (hg_n1) (hg_v1) (by omega) (by omega) (by omega) r298 (by omega)) (cwV 1 hts (tb_goodV ml_Md_367 im_Md_applyFrom se_Md_applyFrom ii_Md kt_Md_applyFrom) rfl rfl rfl (by decide +kernel) ⟨Nat.le_of_ble_eq_true rfl, Nat.le_of_ble_eq_true rfl⟩) (ux_preV (by decide) rfl rfl hP hK hi hN) rfl rfl hl.1 rfl (lv_room (Nat.le_of_ble_eq_true rfl)) d_Md_value_245 ⟨Nat.zero_le _, Nat.zero_le _⟩) hS (fun M302 H locs q303 hP hS => ?_)
                        obtain ⟨hI, fq303, q303p⟩ := q303
                        have hF := fr_call hF fq303 (fun a b q => by unfold mAp at q; unfold mVa; omega)
                        obtain ⟨n304, v305, hn304a, hv305a, hn304b, hv305b, hv305c, hn304d, hn304e⟩ := q303p
                        have hn304r : ∀ j, M302 22 j = Mc50 22 j := fun j => fq303 _ _ (by unfold mAp; omega)
                        have hn304B : cP PB (M302 22) n304 = cP PB (Mc50 22) n304 := cP_cong _ (fun j _ => hn304r j)
                        have hn3044 : cP P40 (M302 22) n304 = cP P40 (Mc50 22) n304 := cP_cong _ (fun j _ => hn304r j)
                        have hn304l := cP_le (P := P40) (f := Mc50 22) n304
                        have hn304t := congrArg rk (congrArg Int32.toInt (hn304r (n304 - 1)))
                        refine lv_aload_n hx hb d_Md_value_248 rfl (lv_at hl 1 rfl) ?_
                        refine lv_iload hx hb d_Md_value_249 (lv_at hl 0 rfl) ?_
                        refine ux_callv (va_runV ⟨hx, hb, hml, hown, hts⟩ (s_Md_sign l D ad cA A TB hA hB  M302 hI (n304) (hn304a) (by omega) (nI c277)) (cwV 1 hts (tb_goodV ml_Md_360 im_Md_sign se_Md_sign ii_Md kt_Md_sign) rfl rfl rfl (by decide +kernel) ⟨Nat.le_of_ble_eq_true rfl, Nat.le_of_ble_eq_true rfl⟩) (ux_preV (by decide) rfl rfl hP hK hi hN) rfl rfl hl.1 rfl (lv_room (Nat.le_of_ble_eq_true rfl)) d_Md_value_251 ⟨Nat.zero_le _, Nat.zero_le _⟩) hS (fun M307 H locs q308 hP hS => ?_)
                        obtain ⟨hI, fq308, q308p⟩ := q308
                        have hF := fr_call hF fq308 (fun a b q => by unfold mSg at q; unfold mVa; omega)
                        obtain ⟨q308a, q308b, q308c⟩ := q308p
                        have q308d := sg_B q308b q308c
                        have q308e := sg_4 q308b q308c
                        refine lv_iconst (v := 1) hx hb d_Md_value_254 (by decide) ?_
                        refine lv_istore hx hb d_Md_value_255 hl (by decide) rfl (fun ls hl => ?_)
                        have hl : lv_has ls 7 [(5, .int 1), (6, .int (nI c277)), (0, .ref (ad 0)), (1, .int (nI w)), (2, .int (nI k2)), (3, .int (nI k3)), (4, .int (nI k4))] := hl
                        refine lv_iinc (k := 4) (v := nI (k2 + 1)) hx hb d_Md_value_257 hl rfl (nI_add k2 1) (by decide) rfl (fun ls hl => ?_)
                        have hl : lv_has ls 7 [(2, .int (nI (k2 + 1))), (5, .int 1), (6, .int (nI c277)), (0, .ref (ad 0)), (1, .int (nI w)), (3, .int (nI k3)), (4, .int (nI k4))] := hl
                        refine lv_goto hx hb d_Md_value_260 rfl ?_
                        refine lv_goto hx hb d_Md_value_268 rfl ?_
                        exact ih50 (1 * 300 + (250 - (k2 + 1))) (by omega) 1 (k2 + 1) k3 k4 (n304 + 1) v305 1 M307 _ _ ls rfl (show M307 0 31 = nI (n304 + 1) from q308a) (show M307 0 32 = nI v305 from (fq308 _ _ (by unfold mSg; omega)).trans (hv305a)) (show (k2 + 1) ≤ 201 from by first | omega | assumption | exact Or.inl rfl | exact Or.inr rfl | rfl | decide) (show k3 ≤ 200 from by first | omega | assumption | exact Or.inl rfl | exact Or.inr rfl | rfl | decide) (show (n304 + 1) ≤ (k2 + 1) from by first | omega | assumption | exact Or.inl rfl | exact Or.inr rfl | rfl | decide) (show 1 ≤ 1 from by first | omega | assumption | exact Or.inl rfl | exact Or.inr rfl | rfl | decide) (show (1 = 1 ∧ v305 = cP PB (M307 22) (n304 + 1)) ∨ (1 = 0 ∧ v305 = cP PB (M307 22) (n304 + 1) + 1) from by first | (have h11 : (1 : Int32).toInt = 1 := rfl; have h00 : (0 : Int32).toInt = 0 := rfl; omega)) (show k4 ≤ cP P40 (M307 22) (n304 + 1) from by first | (have h11 : (1 : Int32).toInt = 1 := rfl; have h00 : (0 : Int32).toInt = 0 := rfl; omega)) (show 1 = 1 ∨ (M307 0 34).toInt = 1 from by first | exact Or.inl rfl) (show (M307 0 23 = M 0 23) ∧ (M307 0 24 = M 0 24) from by first | exact ⟨((fq308 _ _ (by unfold mSg; omega)).trans (fq303 _ _ (by unfold mAp; omega))).trans c50_7.1, ((fq308 _ _ (by unfold mSg; omega)).trans (fq303 _ _ (by unfold mAp; omega))).trans c50_7.2⟩) hP hI hF hS (lv_sub hl [3, 4, 0, 5, 6, 1] rfl)
                  · have g283 : ((c277 : Nat) : Int) = 41 := by have q := congrArg Int32.toInt h283; rw [nI_toInt (n := c277) (by omega)] at q; exact q
                    refine lv_iload hx hb d_Md_value_191 (lv_at hl 5 rfl) ?_
                    refine lv_if_le hx hb d_Md_value_193 rfl (fun h309 => ?_) (fun h309 => ?_)
                    · have g309 : ((k4 : Nat) : Int) ≤ 0 := by have q := Int32.le_iff_toInt_le.mp h309; rw [nI_toInt (n := k4) (by omega)] at q; exact q
                      refine lv_iload hx hb d_Md_value_220 (lv_at hl 0 rfl) ?_
                      refine ux_calli (va_runS ⟨hx, hb, hml, hown, hts⟩ (s_Md_rankOf l D ad cA A TB hA hB  Mc50 hI (nI c277)) (va_cwS 1 hts (tb_goodST ml_Md_348 sm_Md_rankOf ii_Md kt_Md_rankOf) rfl rfl rfl (by decide +kernel) ⟨Nat.le_of_ble_eq_true rfl, Nat.le_of_ble_eq_true rfl⟩) (ux_pre hP hK hi hN) rfl rfl hl.1 rfl (lv_room (Nat.le_of_ble_eq_true rfl)) d_Md_value_222 ⟨Nat.zero_le _, Nat.zero_le _⟩) hS (fun r310 M311 H locs q312 hP hS => ?_)
                      obtain ⟨hI, fq312, q312p⟩ := q312
                      rw [tN_eq fq312] at hP hI
                      refine lv_iconst (v := 1) hx hb d_Md_value_225 (by decide) ?_
                      refine lv_icmp_le hx hb d_Md_value_226 rfl (fun h313 => ?_) (fun h313 => ?_)
                      · have g313 : r310.toInt ≤ 1 := Int32.le_iff_toInt_le.mp h313
                        have w313 := ti_lo r310
                        refine lv_aload_n hx hb d_Md_value_263 rfl (lv_at hl 1 rfl) ?_
                        refine lv_iconst (v := 1) hx hb d_Md_value_264 (by decide) ?_
                        refine ux_callv (va_runV ⟨hx, hb, hml, hown, hts⟩ (s_Md_ill l D ad cA A TB hA hB  Mc50 hI 1) (cwV 1 hts (tb_goodV ml_Md_354 im_Md_ill se_Md_ill ii_Md kt_Md_ill) rfl rfl rfl (by decide +kernel) ⟨Nat.le_of_ble_eq_true rfl, Nat.le_of_ble_eq_true rfl⟩) (ux_preV (by decide) rfl rfl hP hK hi hN) rfl rfl hl.1 rfl (lv_room (Nat.le_of_ble_eq_true rfl)) d_Md_value_265 ⟨Nat.zero_le _, Nat.zero_le _⟩) hS (fun M315 H locs q316 hP hS => ?_)
                        obtain ⟨hI, fq316, q316p⟩ := q316
                        have hF := fr_call hF fq316 (fun a b q => by unfold mIl at q; unfold mVa; omega)
                        rw [show (1 : Int32).toInt = 1 from rfl] at q316p
                        refine lv_goto hx hb d_Md_value_268 rfl ?_
                        exact ih50 (0 * 300 + (250 - k2)) (by omega) i_5 k2 k3 k4 n1 v1 0 M315 _ _ ls rfl (show M315 0 31 = nI n1 from (fq316 _ _ (by unfold mIl; omega)).trans (hg_n1)) (show M315 0 32 = nI v1 from (fq316 _ _ (by unfold mIl; omega)).trans (hg_v1)) (show k2 ≤ 201 from by first | omega | assumption | exact Or.inl rfl | exact Or.inr rfl | rfl | decide) (show k3 ≤ 200 from by first | omega | assumption | exact Or.inl rfl | exact Or.inr rfl | rfl | decide) (show n1 ≤ k2 from by first | omega | assumption | exact Or.inl rfl | exact Or.inr rfl | rfl | decide) (show 0 ≤ 1 from by first | omega | assumption | exact Or.inl rfl | exact Or.inr rfl | rfl | decide) (show (i_5.toInt = 1 ∧ v1 = cP PB (M315 22) n1) ∨ (i_5.toInt = 0 ∧ v1 = cP PB (M315 22) n1 + 1) from by first | (have h11 : (1 : Int32).toInt = 1 := rfl; have h00 : (0 : Int32).toInt = 0 := rfl; have : cP PB (M315 22) (n1) = cP PB (Mc50 22) (n1) := cP_cong _ (fun j _ => fq316 _ _ (by unfold mIl; omega)); have : cP P40 (M315 22) (n1) = cP P40 (Mc50 22) (n1) := cP_cong _ (fun j _ => fq316 _ _ (by unfold mIl; omega)); omega)) (show k4 ≤ cP P40 (M315 22) n1 from by first | (have h11 : (1 : Int32).toInt = 1 := rfl; have h00 : (0 : Int32).toInt = 0 := rfl; have : cP PB (M315 22) (n1) = cP PB (Mc50 22) (n1) := cP_cong _ (fun j _ => fq316 _ _ (by unfold mIl; omega)); have : cP P40 (M315 22) (n1) = cP P40 (Mc50 22) (n1) := cP_cong _ (fun j _ => fq316 _ _ (by unfold mIl; omega)); omega)) (show 0 = 1 ∨ (M315 0 34).toInt = 1 from by first | (omega)) (show (M315 0 23 = M 0 23) ∧ (M315 0 24 = M 0 24) from by first | exact ⟨(fq316 _ _ (by unfold mIl; omega)).trans c50_7.1, (fq316 _ _ (by unfold mIl; omega)).trans c50_7.2⟩) hP hI hF hS (lv_sub hl [1, 2, 3, 4, 5, 6] rfl)
                      · have g313 : ¬ (r310.toInt ≤ 1) := fun q => h313 (Int32.le_iff_toInt_le.mpr q)
                        have u313 := ti_hi r310
                        refine lv_iload hx hb d_Md_value_229 (lv_at hl 0 rfl) ?_
                        refine ux_calli (va_runS ⟨hx, hb, hml, hown, hts⟩ (s_Md_rankOf l D ad cA A TB hA hB  Mc50 hI (nI c277)) (va_cwS 1 hts (tb_goodST ml_Md_348 sm_Md_rankOf ii_Md kt_Md_rankOf) rfl rfl rfl (by decide +kernel) ⟨Nat.le_of_ble_eq_true rfl, Nat.le_of_ble_eq_true rfl⟩) (ux_pre hP hK hi hN) rfl rfl hl.1 rfl (lv_room (Nat.le_of_ble_eq_true rfl)) d_Md_value_231 ⟨Nat.zero_le _, Nat.zero_le _⟩) hS (fun r317 M318 H locs q319 hP hS => ?_)
                        obtain ⟨hI, fq319, q319p⟩ := q319
                        rw [tN_eq fq319] at hP hI
                        refine lv_bipush (v := 7) hx hb d_Md_value_234 (by decide) ?_
                        refine lv_icmp_ge hx hb d_Md_value_236 rfl (fun h320 => ?_) (fun h320 => ?_)
                        · have g320 : 7 ≤ r317.toInt := Int32.le_iff_toInt_le.mp h320
                          have u320 := ti_hi r317
                          refine lv_aload_n hx hb d_Md_value_263 rfl (lv_at hl 1 rfl) ?_
                          refine lv_iconst (v := 1) hx hb d_Md_value_264 (by decide) ?_
                          refine ux_callv (va_runV ⟨hx, hb, hml, hown, hts⟩ (s_Md_ill l D ad cA A TB hA hB  Mc50 hI 1) (cwV 1 hts (tb_goodV ml_Md_354 im_Md_ill se_Md_ill ii_Md kt_Md_ill) rfl rfl rfl (by decide +kernel) ⟨Nat.le_of_ble_eq_true rfl, Nat.le_of_ble_eq_true rfl⟩) (ux_preV (by decide) rfl rfl hP hK hi hN) rfl rfl hl.1 rfl (lv_room (Nat.le_of_ble_eq_true rfl)) d_Md_value_265 ⟨Nat.zero_le _, Nat.zero_le _⟩) hS (fun M322 H locs q323 hP hS => ?_)
                          obtain ⟨hI, fq323, q323p⟩ := q323
                          have hF := fr_call hF fq323 (fun a b q => by unfold mIl at q; unfold mVa; omega)
                          rw [show (1 : Int32).toInt = 1 from rfl] at q323p
                          refine lv_goto hx hb d_Md_value_268 rfl ?_
                          exact ih50 (0 * 300 + (250 - k2)) (by omega) i_5 k2 k3 k4 n1 v1 0 M322 _ _ ls rfl (show M322 0 31 = nI n1 from (fq323 _ _ (by unfold mIl; omega)).trans (hg_n1)) (show M322 0 32 = nI v1 from (fq323 _ _ (by unfold mIl; omega)).trans (hg_v1)) (show k2 ≤ 201 from by first | omega | assumption | exact Or.inl rfl | exact Or.inr rfl | rfl | decide) (show k3 ≤ 200 from by first | omega | assumption | exact Or.inl rfl | exact Or.inr rfl | rfl | decide) (show n1 ≤ k2 from by first | omega | assumption | exact Or.inl rfl | exact Or.inr rfl | rfl | decide) (show 0 ≤ 1 from by first | omega | assumption | exact Or.inl rfl | exact Or.inr rfl | rfl | decide) (show (i_5.toInt = 1 ∧ v1 = cP PB (M322 22) n1) ∨ (i_5.toInt = 0 ∧ v1 = cP PB (M322 22) n1 + 1) from by first | (have h11 : (1 : Int32).toInt = 1 := rfl; have h00 : (0 : Int32).toInt = 0 := rfl; have : cP PB (M322 22) (n1) = cP PB (Mc50 22) (n1) := cP_cong _ (fun j _ => fq323 _ _ (by unfold mIl; omega)); have : cP P40 (M322 22) (n1) = cP P40 (Mc50 22) (n1) := cP_cong _ (fun j _ => fq323 _ _ (by unfold mIl; omega)); omega)) (show k4 ≤ cP P40 (M322 22) n1 from by first | (have h11 : (1 : Int32).toInt = 1 := rfl; have h00 : (0 : Int32).toInt = 0 := rfl; have : cP PB (M322 22) (n1) = cP PB (Mc50 22) (n1) := cP_cong _ (fun j _ => fq323 _ _ (by unfold mIl; omega)); have : cP P40 (M322 22) (n1) = cP P40 (Mc50 22) (n1) := cP_cong _ (fun j _ => fq323 _ _ (by unfold mIl; omega)); omega)) (show 0 = 1 ∨ (M322 0 34).toInt = 1 from by first | (omega)) (show (M322 0 23 = M 0 23) ∧ (M322 0 24 = M 0 24) from by first | exact ⟨(fq323 _ _ (by unfold mIl; omega)).trans c50_7.1, (fq323 _ _ (by unfold mIl; omega)).trans c50_7.2⟩) hP hI hF hS (lv_sub hl [1, 2, 3, 4, 5, 6] rfl)
                        · have g320 : ¬ (7 ≤ r317.toInt) := fun q => h320 (Int32.le_iff_toInt_le.mpr q)
                          have w320 := ti_lo r317
                          refine lv_aload_n hx hb d_Md_value_239 rfl (lv_at hl 1 rfl) ?_
                          refine lv_iload hx hb d_Md_value_240 (lv_at hl 0 rfl) ?_
                          refine ux_calli (va_runS ⟨hx, hb, hml, hown, hts⟩ (s_Md_rankOf l D ad cA A TB hA hB  Mc50 hI (nI c277)) (va_cwS 1 hts (tb_goodST ml_Md_348 sm_Md_rankOf ii_Md kt_Md_rankOf) rfl rfl rfl (by decide +kernel) ⟨Nat.le_of_ble_eq_true rfl, Nat.le_of_ble_eq_true rfl⟩) (ux_pre hP hK hi hN) rfl rfl hl.1 rfl (lv_room (Nat.le_of_ble_eq_true rfl)) d_Md_value_242 ⟨Nat.zero_le _, Nat.zero_le _⟩) hS (fun r324 M325 H locs q326 hP hS => ?_)
                          obtain ⟨hI, fq326, q326p⟩ := q326
                          rw [tN_eq fq326] at hP hI
                          refine ux_callv (va_runV ⟨hx, hb, hml, hown, hts⟩ (s_Md_applyFrom l D ad cA A TB hA hB  Mc50 hI n1 v1 (hg_n1) (hg_v1) (by omega) (by omega) (by omega) r324 (by omega)) (cwV 1 hts (tb_goodV ml_Md_367 im_Md_applyFrom se_Md_applyFrom ii_Md kt_Md_applyFrom) rfl rfl rfl (by decide +kernel) ⟨Nat.le_of_ble_eq_true rfl, Nat.le_of_ble_eq_true rfl⟩) (ux_preV (by decide) rfl rfl hP hK hi hN) rfl rfl hl.1 rfl (lv_room (Nat.le_of_ble_eq_true rfl)) d_Md_value_245 ⟨Nat.zero_le _, Nat.zero_le _⟩) hS (fun M328 H locs q329 hP hS => ?_)
                          obtain ⟨hI, fq329, q329p⟩ := q329
                          have hF := fr_call hF fq329 (fun a b q => by unfold mAp at q; unfold mVa; omega)
                          obtain ⟨n330, v331, hn330a, hv331a, hn330b, hv331b, hv331c, hn330d, hn330e⟩ := q329p
                          have hn330r : ∀ j, M328 22 j = Mc50 22 j := fun j => fq329 _ _ (by unfold mAp; omega)
                          have hn330B : cP PB (M328 22) n330 = cP PB (Mc50 22) n330 := cP_cong _ (fun j _ => hn330r j)
                          have hn3304 : cP P40 (M328 22) n330 = cP P40 (Mc50 22) n330 := cP_cong _ (fun j _ => hn330r j)
                          have hn330l := cP_le (P := P40) (f := Mc50 22) n330
                          have hn330t := congrArg rk (congrArg Int32.toInt (hn330r (n330 - 1)))
                          refine lv_aload_n hx hb d_Md_value_248 rfl (lv_at hl 1 rfl) ?_
                          refine lv_iload hx hb d_Md_value_249 (lv_at hl 0 rfl) ?_
                          refine ux_callv (va_runV ⟨hx, hb, hml, hown, hts⟩ (s_Md_sign l D ad cA A TB hA hB  M328 hI (n330) (hn330a) (by omega) (nI c277)) (cwV 1 hts (tb_goodV ml_Md_360 im_Md_sign se_Md_sign ii_Md kt_Md_sign) rfl rfl rfl (by decide +kernel) ⟨Nat.le_of_ble_eq_true rfl, Nat.le_of_ble_eq_true rfl⟩) (ux_preV (by decide) rfl rfl hP hK hi hN) rfl rfl hl.1 rfl (lv_room (Nat.le_of_ble_eq_true rfl)) d_Md_value_251 ⟨Nat.zero_le _, Nat.zero_le _⟩) hS (fun M333 H locs q334 hP hS => ?_)
                          obtain ⟨hI, fq334, q334p⟩ := q334
                          have hF := fr_call hF fq334 (fun a b q => by unfold mSg at q; unfold mVa; omega)
                          obtain ⟨q334a, q334b, q334c⟩ := q334p
                          have q334d := sg_B q334b q334c
                          have q334e := sg_4 q334b q334c
                          refine lv_iconst (v := 1) hx hb d_Md_value_254 (by decide) ?_
                          refine lv_istore hx hb d_Md_value_255 hl (by decide) rfl (fun ls hl => ?_)
                          have hl : lv_has ls 7 [(5, .int 1), (6, .int (nI c277)), (0, .ref (ad 0)), (1, .int (nI w)), (2, .int (nI k2)), (3, .int (nI k3)), (4, .int (nI k4))] := hl
                          refine lv_iinc (k := 4) (v := nI (k2 + 1)) hx hb d_Md_value_257 hl rfl (nI_add k2 1) (by decide) rfl (fun ls hl => ?_)
                          have hl : lv_has ls 7 [(2, .int (nI (k2 + 1))), (5, .int 1), (6, .int (nI c277)), (0, .ref (ad 0)), (1, .int (nI w)), (3, .int (nI k3)), (4, .int (nI k4))] := hl
                          refine lv_goto hx hb d_Md_value_260 rfl ?_
                          refine lv_goto hx hb d_Md_value_268 rfl ?_
                          exact ih50 (1 * 300 + (250 - (k2 + 1))) (by omega) 1 (k2 + 1) k3 k4 (n330 + 1) v331 1 M333 _ _ ls rfl (show M333 0 31 = nI (n330 + 1) from q334a) (show M333 0 32 = nI v331 from (fq334 _ _ (by unfold mSg; omega)).trans (hv331a)) (show (k2 + 1) ≤ 201 from by first | omega | assumption | exact Or.inl rfl | exact Or.inr rfl | rfl | decide) (show k3 ≤ 200 from by first | omega | assumption | exact Or.inl rfl | exact Or.inr rfl | rfl | decide) (show (n330 + 1) ≤ (k2 + 1) from by first | omega | assumption | exact Or.inl rfl | exact Or.inr rfl | rfl | decide) (show 1 ≤ 1 from by first | omega | assumption | exact Or.inl rfl | exact Or.inr rfl | rfl | decide) (show (1 = 1 ∧ v331 = cP PB (M333 22) (n330 + 1)) ∨ (1 = 0 ∧ v331 = cP PB (M333 22) (n330 + 1) + 1) from by first | (have h11 : (1 : Int32).toInt = 1 := rfl; have h00 : (0 : Int32).toInt = 0 := rfl; omega)) (show k4 ≤ cP P40 (M333 22) (n330 + 1) from by first | (have h11 : (1 : Int32).toInt = 1 := rfl; have h00 : (0 : Int32).toInt = 0 := rfl; omega)) (show 1 = 1 ∨ (M333 0 34).toInt = 1 from by first | exact Or.inl rfl) (show (M333 0 23 = M 0 23) ∧ (M333 0 24 = M 0 24) from by first | exact ⟨((fq334 _ _ (by unfold mSg; omega)).trans (fq329 _ _ (by unfold mAp; omega))).trans c50_7.1, ((fq334 _ _ (by unfold mSg; omega)).trans (fq329 _ _ (by unfold mAp; omega))).trans c50_7.2⟩) hP hI hF hS (lv_sub hl [3, 4, 0, 5, 6, 1] rfl)
                    · have g309 : ¬ (((k4 : Nat) : Int) ≤ 0) := fun q => h309 (Int32.le_iff_toInt_le.mpr (by rw [nI_toInt (n := k4) (by omega)]; exact q))
                      refine lv_aload_n hx hb d_Md_value_196 rfl (lv_at hl 1 rfl) ?_
                      refine lv_iconst (v := 1) hx hb d_Md_value_197 (by decide) ?_
                      refine ux_callv (va_runV ⟨hx, hb, hml, hown, hts⟩ (s_Md_applyFrom l D ad cA A TB hA hB  Mc50 hI n1 v1 (hg_n1) (hg_v1) (by omega) (by omega) (by omega) 1 (by decide)) (cwV 1 hts (tb_goodV ml_Md_367 im_Md_applyFrom se_Md_applyFrom ii_Md kt_Md_applyFrom) rfl rfl rfl (by decide +kernel) ⟨Nat.le_of_ble_eq_true rfl, Nat.le_of_ble_eq_true rfl⟩) (ux_preV (by decide) rfl rfl hP hK hi hN) rfl rfl hl.1 rfl (lv_room (Nat.le_of_ble_eq_true rfl)) d_Md_value_198 ⟨Nat.zero_le _, Nat.zero_le _⟩) hS (fun M336 H locs q337 hP hS => ?_)
                      obtain ⟨hI, fq337, q337p⟩ := q337
                      have hF := fr_call hF fq337 (fun a b q => by unfold mAp at q; unfold mVa; omega)
                      obtain ⟨n338, v339, hn338a, hv339a, hn338b, hv339b, hv339c, hn338d, hn338e⟩ := q337p
                      rw [show (1 : Int32).toInt = 1 from rfl] at hn338e
                      have hn338r : ∀ j, M336 22 j = Mc50 22 j := fun j => fq337 _ _ (by unfold mAp; omega)
                      have hn338B : cP PB (M336 22) n338 = cP PB (Mc50 22) n338 := cP_cong _ (fun j _ => hn338r j)
                      have hn3384 : cP P40 (M336 22) n338 = cP P40 (Mc50 22) n338 := cP_cong _ (fun j _ => hn338r j)
                      have hn338l := cP_le (P := P40) (f := Mc50 22) n338
                      have hn338t := congrArg rk (congrArg Int32.toInt (hn338r (n338 - 1)))
                      have hpop := pop_B (f := M336 22) (n := n338) (by omega) (by omega)
                      refine lv_aload_n hx hb d_Md_value_201 rfl (lv_at hl 1 rfl) ?_
                      refine lv_dup hx hb d_Md_value_202 rfl ?_
                      refine ux_get (C := R_Md) (T := F_Md) (N := 50) hx hb hT in_Md hown hK hP (by decide) rfl rfl 31 (by decide) (hT _ fl_Md_338) rfl d_Md_value_203 ?_
                      refine lv_topi (fun z340 hz340 => ?_)
                      rw [show M336 0 31 = nI n338 from hn338a] at hz340
                      rw [hz340]
                      refine lv_iconst (v := 1) hx hb d_Md_value_206 (by decide) ?_
                      refine lv_isub hx hb d_Md_value_207 ?_
                      refine lv_topi (fun z341 hz341 => ?_)
                      rw [show (nI n338) - (1 : Int32) = nI (n338 - 1) from (pk_sub (a := n338) (b := 1) (by omega)).trans (congrArg nI (show n338 - 1 = n338 - 1 by omega))] at hz341
                      rw [hz341]
                      refine ux_put (C := R_Md) (T := F_Md) (N := 50) hx hb hT in_Md t_Md t_Md_ok n_Md hown hK hi hP hS (by decide) rfl rfl 31 (by decide) (hT _ fl_Md_338) rfl (rfl) (rfl) rfl d_Md_value_208 (fun H locs hP hS => ?_)
                      have hI := IvM_wr (k := 0) (j := 31) (v := nI (n338 - 1)) hI (show (0 : Int) ≤ (nI (n338 - 1) : Int32).toInt from (by rw [nI_toInt (n := n338 - 1) (by omega)]; omega)) (show (nI (n338 - 1) : Int32).toInt ≤ (210 : Int) from (by rw [nI_toInt (n := n338 - 1) (by omega)]; omega)) (by unfold okW; omega)
                      have hF := fr_wr (k := 0) (j := 31) (v := nI (n338 - 1)) hF (by unfold mVa; omega)
                      generalize eM342 : ux_wr M336 0 31 (nI (n338 - 1)) = M342 at hP hI hF
                      have tM342 : (M342 0 31).toInt = ((n338 - 1 : Nat) : Int) := by rw [wr_at eM342]; exact nI_toInt (by omega)
                      refine lv_iinc (k := 5) (v := nI (k4 - 1)) hx hb d_Md_value_211 hl rfl (nI_dec (k := k4) (by omega) (by omega)) (by decide) rfl (fun ls hl => ?_)
                      have hl : lv_has ls 7 [(4, .int (nI (k4 - 1))), (6, .int (nI c277)), (0, .ref (ad 0)), (1, .int (nI w)), (2, .int (nI k2)), (3, .int (nI k3)), (5, .int i_5)] := hl
                      refine lv_iinc (k := 4) (v := nI (k2 + 1)) hx hb d_Md_value_214 hl rfl (nI_add k2 1) (by decide) rfl (fun ls hl => ?_)
                      have hl : lv_has ls 7 [(2, .int (nI (k2 + 1))), (4, .int (nI (k4 - 1))), (6, .int (nI c277)), (0, .ref (ad 0)), (1, .int (nI w)), (3, .int (nI k3)), (5, .int i_5)] := hl
                      refine lv_goto hx hb d_Md_value_217 rfl ?_
                      refine lv_goto hx hb d_Md_value_268 rfl ?_
                      exact ih50 (1 * 300 + (250 - (k2 + 1))) (by omega) i_5 (k2 + 1) k3 (k4 - 1) (n338 - 1) v339 1 M342 _ _ ls rfl (show M342 0 31 = nI (n338 - 1) from wr_at eM342) (show M342 0 32 = nI v339 from (wr_off eM342 (by omega)).trans (hv339a)) (show (k2 + 1) ≤ 201 from by first | omega | assumption | exact Or.inl rfl | exact Or.inr rfl | rfl | decide) (show k3 ≤ 200 from by first | omega | assumption | exact Or.inl rfl | exact Or.inr rfl | rfl | decide) (show (n338 - 1) ≤ (k2 + 1) from by first | omega | assumption | exact Or.inl rfl | exact Or.inr rfl | rfl | decide) (show 1 ≤ 1 from by first | omega | assumption | exact Or.inl rfl | exact Or.inr rfl | rfl | decide) (show (i_5.toInt = 1 ∧ v339 = cP PB (M342 22) (n338 - 1)) ∨ (i_5.toInt = 0 ∧ v339 = cP PB (M342 22) (n338 - 1) + 1) from by first | (have h11 : (1 : Int32).toInt = 1 := rfl; have h00 : (0 : Int32).toInt = 0 := rfl; have : cP PB (M342 22) (n338 - 1) = cP PB (M336 22) (n338 - 1) := cP_cong _ (fun j _ => wr_off eM342 (by omega)); have : cP P40 (M342 22) (n338 - 1) = cP P40 (M336 22) (n338 - 1) := cP_cong _ (fun j _ => wr_off eM342 (by omega)); omega)) (show (k4 - 1) ≤ cP P40 (M342 22) (n338 - 1) from by first | (have h11 : (1 : Int32).toInt = 1 := rfl; have h00 : (0 : Int32).toInt = 0 := rfl; have : cP PB (M342 22) (n338 - 1) = cP PB (M336 22) (n338 - 1) := cP_cong _ (fun j _ => wr_off eM342 (by omega)); have : cP P40 (M342 22) (n338 - 1) = cP P40 (M336 22) (n338 - 1) := cP_cong _ (fun j _ => wr_off eM342 (by omega)); omega)) (show 1 = 1 ∨ (M342 0 34).toInt = 1 from by first | exact Or.inl rfl) (show (M342 0 23 = M 0 23) ∧ (M342 0 24 = M 0 24) from by first | exact ⟨((wr_off eM342 (by omega)).trans (fq337 _ _ (by unfold mAp; omega))).trans c50_7.1, ((wr_off eM342 (by omega)).trans (fq337 _ _ (by unfold mAp; omega))).trans c50_7.2⟩) hP hI hF hS (lv_sub hl [3, 4, 0, 5, 1, 6] rfl)
                · have g282 : ¬ (i_5.toInt = 0) := fun q => h282 (Int32.toInt_inj.mp q)
                  refine lv_aload_n hx hb d_Md_value_171 rfl (lv_at hl 1 rfl) ?_
                  refine lv_iload_n hx hb d_Md_value_172 rfl (lv_at hl 3 rfl) ?_
                  refine lv_iload_n hx hb d_Md_value_173 rfl (lv_at hl 4 rfl) ?_
                  refine ux_calli (va_runV ⟨hx, hb, hml, hown, hts⟩ (s_Md_operand l D ad cA A TB hA hB  Mc50 hI L hL ((hF _ _ (by unfold mVa; omega)).trans hlv) k2 k3 v1 (by omega) (by omega) (hg_v1) (by omega)) (cwV 2 hts (tb_goodV ml_Md_363 im_Md_operand se_Md_operand ii_Md kt_Md_operand) rfl rfl rfl (by decide +kernel) ⟨Nat.le_of_ble_eq_true rfl, Nat.le_of_ble_eq_true rfl⟩) (ux_preV (by decide) rfl rfl hP hK hi hN) rfl rfl hl.1 rfl (lv_room (Nat.le_of_ble_eq_true rfl)) d_Md_value_174 ⟨Nat.zero_le _, Nat.zero_le _⟩) hS (fun r343 M344 H locs q345 hP hS => ?_)
                  obtain ⟨hI, fq345, q345p⟩ := q345
                  have hF := fr_call hF fq345 (fun a b q => by unfold mOp at q; unfold mVa; omega)
                  obtain ⟨q345a, ⟨q9, hq9, hq9a, hq9b, hq9c⟩, hq9d⟩ := q345p
                  subst hq9
                  obtain ⟨g2, hg2, hg2b, hg2c⟩ : ∃ g2 : Nat, g2 ≤ 1 ∧ (g2 = 1 ∨ (M344 0 34).toInt = 1) ∧ (g2 = 0 ∨ k2 < q9) := by
                    rcases hq9c with z | z
                    · exact ⟨0, by omega, Or.inr z, Or.inl rfl⟩
                    · exact ⟨1, by omega, Or.inl rfl, Or.inr z⟩
                  refine lv_istore_n hx hb d_Md_value_177 rfl hl (by decide) rfl (fun ls hl => ?_)
                  have hl : lv_has ls 7 [(2, .int (nI q9)), (6, .int (nI c277)), (0, .ref (ad 0)), (1, .int (nI w)), (3, .int (nI k3)), (4, .int (nI k4)), (5, .int i_5)] := hl
                  refine lv_iconst (v := 0) hx hb d_Md_value_178 (by decide) ?_
                  refine lv_istore hx hb d_Md_value_179 hl (by decide) rfl (fun ls hl => ?_)
                  have hl : lv_has ls 7 [(5, .int 0), (2, .int (nI q9)), (6, .int (nI c277)), (0, .ref (ad 0)), (1, .int (nI w)), (3, .int (nI k3)), (4, .int (nI k4))] := hl
                  refine lv_goto hx hb d_Md_value_181 rfl ?_
                  refine lv_goto hx hb d_Md_value_268 rfl ?_
                  exact ih50 (g2 * 300 + (250 - q9)) (by omega) 0 q9 k3 k4 n1 (v1 + 1) g2 M344 _ _ ls rfl (show M344 0 31 = nI n1 from (fq345 _ _ (by unfold mOp; omega)).trans (hg_n1)) (show M344 0 32 = nI (v1 + 1) from q345a) (show q9 ≤ 201 from by first | omega | assumption | exact Or.inl rfl | exact Or.inr rfl | rfl | decide) (show k3 ≤ 200 from by first | omega | assumption | exact Or.inl rfl | exact Or.inr rfl | rfl | decide) (show n1 ≤ q9 from by first | omega | assumption | exact Or.inl rfl | exact Or.inr rfl | rfl | decide) (show g2 ≤ 1 from by first | omega | assumption | exact Or.inl rfl | exact Or.inr rfl | rfl | decide) (show (0 = 1 ∧ (v1 + 1) = cP PB (M344 22) n1) ∨ (0 = 0 ∧ (v1 + 1) = cP PB (M344 22) n1 + 1) from by first | (have h11 : (1 : Int32).toInt = 1 := rfl; have h00 : (0 : Int32).toInt = 0 := rfl; have : cP PB (M344 22) (n1) = cP PB (Mc50 22) (n1) := cP_cong _ (fun j _ => fq345 _ _ (by unfold mOp; omega)); have : cP P40 (M344 22) (n1) = cP P40 (Mc50 22) (n1) := cP_cong _ (fun j _ => fq345 _ _ (by unfold mOp; omega)); omega)) (show k4 ≤ cP P40 (M344 22) n1 from by first | (have h11 : (1 : Int32).toInt = 1 := rfl; have h00 : (0 : Int32).toInt = 0 := rfl; have : cP PB (M344 22) (n1) = cP PB (Mc50 22) (n1) := cP_cong _ (fun j _ => fq345 _ _ (by unfold mOp; omega)); have : cP P40 (M344 22) (n1) = cP P40 (Mc50 22) (n1) := cP_cong _ (fun j _ => fq345 _ _ (by unfold mOp; omega)); omega)) (show g2 = 1 ∨ (M344 0 34).toInt = 1 from by first | exact hg2b | (omega)) (show (M344 0 23 = M 0 23) ∧ (M344 0 24 = M 0 24) from by first | exact ⟨(fq345 _ _ (by unfold mOp; omega)).trans c50_7.1, (fq345 _ _ (by unfold mOp; omega)).trans c50_7.2⟩) hP hI hF hS (lv_sub hl [3, 4, 1, 5, 6, 0] rfl)
              · have g281 : ¬ (i_5.toInt = 0) := fun q => h281 (Int32.toInt_inj.mp q)
                refine lv_iload hx hb d_Md_value_132 (lv_at hl 0 rfl) ?_
                refine lv_bipush (v := 40) hx hb d_Md_value_134 (by decide) ?_
                refine lv_icmp_ne hx hb d_Md_value_136 rfl (fun h346 => ?_) (fun h346 => ?_)
                · have g346 : ¬ (((c277 : Nat) : Int) = 40) := fun q => h346 (Int32.toInt_inj.mp (by rw [nI_toInt (n := c277) (by omega)]; exact q))
                  refine lv_iload hx hb d_Md_value_166 (lv_at hl 6 rfl) ?_
                  refine lv_if_eq hx hb d_Md_value_168 rfl (fun h347 => ?_) (fun h347 => ?_)
                  · have g347 : i_5.toInt = 0 := congrArg Int32.toInt h347
                    refine lv_iload hx hb d_Md_value_184 (lv_at hl 0 rfl) ?_
                    refine lv_bipush (v := 41) hx hb d_Md_value_186 (by decide) ?_
                    refine lv_icmp_ne hx hb d_Md_value_188 rfl (fun h348 => ?_) (fun h348 => ?_)
                    · have g348 : ¬ (((c277 : Nat) : Int) = 41) := fun q => h348 (Int32.toInt_inj.mp (by rw [nI_toInt (n := c277) (by omega)]; exact q))
                      refine lv_iload hx hb d_Md_value_220 (lv_at hl 0 rfl) ?_
                      refine ux_calli (va_runS ⟨hx, hb, hml, hown, hts⟩ (s_Md_rankOf l D ad cA A TB hA hB  Mc50 hI (nI c277)) (va_cwS 1 hts (tb_goodST ml_Md_348 sm_Md_rankOf ii_Md kt_Md_rankOf) rfl rfl rfl (by decide +kernel) ⟨Nat.le_of_ble_eq_true rfl, Nat.le_of_ble_eq_true rfl⟩) (ux_pre hP hK hi hN) rfl rfl hl.1 rfl (lv_room (Nat.le_of_ble_eq_true rfl)) d_Md_value_222 ⟨Nat.zero_le _, Nat.zero_le _⟩) hS (fun r349 M350 H locs q351 hP hS => ?_)
                      obtain ⟨hI, fq351, q351p⟩ := q351
                      rw [tN_eq fq351] at hP hI
                      refine lv_iconst (v := 1) hx hb d_Md_value_225 (by decide) ?_
                      refine lv_icmp_le hx hb d_Md_value_226 rfl (fun h352 => ?_) (fun h352 => ?_)
                      · have g352 : r349.toInt ≤ 1 := Int32.le_iff_toInt_le.mp h352
                        have w352 := ti_lo r349
                        refine lv_aload_n hx hb d_Md_value_263 rfl (lv_at hl 1 rfl) ?_
                        refine lv_iconst (v := 1) hx hb d_Md_value_264 (by decide) ?_
                        refine ux_callv (va_runV ⟨hx, hb, hml, hown, hts⟩ (s_Md_ill l D ad cA A TB hA hB  Mc50 hI 1) (cwV 1 hts (tb_goodV ml_Md_354 im_Md_ill se_Md_ill ii_Md kt_Md_ill) rfl rfl rfl (by decide +kernel) ⟨Nat.le_of_ble_eq_true rfl, Nat.le_of_ble_eq_true rfl⟩) (ux_preV (by decide) rfl rfl hP hK hi hN) rfl rfl hl.1 rfl (lv_room (Nat.le_of_ble_eq_true rfl)) d_Md_value_265 ⟨Nat.zero_le _, Nat.zero_le _⟩) hS (fun M354 H locs q355 hP hS => ?_)
                        obtain ⟨hI, fq355, q355p⟩ := q355
                        have hF := fr_call hF fq355 (fun a b q => by unfold mIl at q; unfold mVa; omega)
                        rw [show (1 : Int32).toInt = 1 from rfl] at q355p
                        refine lv_goto hx hb d_Md_value_268 rfl ?_
                        exact ih50 (0 * 300 + (250 - k2)) (by omega) i_5 k2 k3 k4 n1 v1 0 M354 _ _ ls rfl (show M354 0 31 = nI n1 from (fq355 _ _ (by unfold mIl; omega)).trans (hg_n1)) (show M354 0 32 = nI v1 from (fq355 _ _ (by unfold mIl; omega)).trans (hg_v1)) (show k2 ≤ 201 from by first | omega | assumption | exact Or.inl rfl | exact Or.inr rfl | rfl | decide) (show k3 ≤ 200 from by first | omega | assumption | exact Or.inl rfl | exact Or.inr rfl | rfl | decide) (show n1 ≤ k2 from by first | omega | assumption | exact Or.inl rfl | exact Or.inr rfl | rfl | decide) (show 0 ≤ 1 from by first | omega | assumption | exact Or.inl rfl | exact Or.inr rfl | rfl | decide) (show (i_5.toInt = 1 ∧ v1 = cP PB (M354 22) n1) ∨ (i_5.toInt = 0 ∧ v1 = cP PB (M354 22) n1 + 1) from by first | (have h11 : (1 : Int32).toInt = 1 := rfl; have h00 : (0 : Int32).toInt = 0 := rfl; have : cP PB (M354 22) (n1) = cP PB (Mc50 22) (n1) := cP_cong _ (fun j _ => fq355 _ _ (by unfold mIl; omega)); have : cP P40 (M354 22) (n1) = cP P40 (Mc50 22) (n1) := cP_cong _ (fun j _ => fq355 _ _ (by unfold mIl; omega)); omega)) (show k4 ≤ cP P40 (M354 22) n1 from by first | (have h11 : (1 : Int32).toInt = 1 := rfl; have h00 : (0 : Int32).toInt = 0 := rfl; have : cP PB (M354 22) (n1) = cP PB (Mc50 22) (n1) := cP_cong _ (fun j _ => fq355 _ _ (by unfold mIl; omega)); have : cP P40 (M354 22) (n1) = cP P40 (Mc50 22) (n1) := cP_cong _ (fun j _ => fq355 _ _ (by unfold mIl; omega)); omega)) (show 0 = 1 ∨ (M354 0 34).toInt = 1 from by first | (omega)) (show (M354 0 23 = M 0 23) ∧ (M354 0 24 = M 0 24) from by first | exact ⟨(fq355 _ _ (by unfold mIl; omega)).trans c50_7.1, (fq355 _ _ (by unfold mIl; omega)).trans c50_7.2⟩) hP hI hF hS (lv_sub hl [1, 2, 3, 4, 5, 6] rfl)
                      · have g352 : ¬ (r349.toInt ≤ 1) := fun q => h352 (Int32.le_iff_toInt_le.mpr q)
                        have u352 := ti_hi r349
                        refine lv_iload hx hb d_Md_value_229 (lv_at hl 0 rfl) ?_
                        refine ux_calli (va_runS ⟨hx, hb, hml, hown, hts⟩ (s_Md_rankOf l D ad cA A TB hA hB  Mc50 hI (nI c277)) (va_cwS 1 hts (tb_goodST ml_Md_348 sm_Md_rankOf ii_Md kt_Md_rankOf) rfl rfl rfl (by decide +kernel) ⟨Nat.le_of_ble_eq_true rfl, Nat.le_of_ble_eq_true rfl⟩) (ux_pre hP hK hi hN) rfl rfl hl.1 rfl (lv_room (Nat.le_of_ble_eq_true rfl)) d_Md_value_231 ⟨Nat.zero_le _, Nat.zero_le _⟩) hS (fun r356 M357 H locs q358 hP hS => ?_)
                        obtain ⟨hI, fq358, q358p⟩ := q358
                        rw [tN_eq fq358] at hP hI
                        refine lv_bipush (v := 7) hx hb d_Md_value_234 (by decide) ?_
                        refine lv_icmp_ge hx hb d_Md_value_236 rfl (fun h359 => ?_) (fun h359 => ?_)
                        · have g359 : 7 ≤ r356.toInt := Int32.le_iff_toInt_le.mp h359
                          have u359 := ti_hi r356
                          refine lv_aload_n hx hb d_Md_value_263 rfl (lv_at hl 1 rfl) ?_
                          refine lv_iconst (v := 1) hx hb d_Md_value_264 (by decide) ?_
                          refine ux_callv (va_runV ⟨hx, hb, hml, hown, hts⟩ (s_Md_ill l D ad cA A TB hA hB  Mc50 hI 1) (cwV 1 hts (tb_goodV ml_Md_354 im_Md_ill se_Md_ill ii_Md kt_Md_ill) rfl rfl rfl (by decide +kernel) ⟨Nat.le_of_ble_eq_true rfl, Nat.le_of_ble_eq_true rfl⟩) (ux_preV (by decide) rfl rfl hP hK hi hN) rfl rfl hl.1 rfl (lv_room (Nat.le_of_ble_eq_true rfl)) d_Md_value_265 ⟨Nat.zero_le _, Nat.zero_le _⟩) hS (fun M361 H locs q362 hP hS => ?_)
                          obtain ⟨hI, fq362, q362p⟩ := q362
                          have hF := fr_call hF fq362 (fun a b q => by unfold mIl at q; unfold mVa; omega)
                          rw [show (1 : Int32).toInt = 1 from rfl] at q362p
                          refine lv_goto hx hb d_Md_value_268 rfl ?_
                          exact ih50 (0 * 300 + (250 - k2)) (by omega) i_5 k2 k3 k4 n1 v1 0 M361 _ _ ls rfl (show M361 0 31 = nI n1 from (fq362 _ _ (by unfold mIl; omega)).trans (hg_n1)) (show M361 0 32 = nI v1 from (fq362 _ _ (by unfold mIl; omega)).trans (hg_v1)) (show k2 ≤ 201 from by first | omega | assumption | exact Or.inl rfl | exact Or.inr rfl | rfl | decide) (show k3 ≤ 200 from by first | omega | assumption | exact Or.inl rfl | exact Or.inr rfl | rfl | decide) (show n1 ≤ k2 from by first | omega | assumption | exact Or.inl rfl | exact Or.inr rfl | rfl | decide) (show 0 ≤ 1 from by first | omega | assumption | exact Or.inl rfl | exact Or.inr rfl | rfl | decide) (show (i_5.toInt = 1 ∧ v1 = cP PB (M361 22) n1) ∨ (i_5.toInt = 0 ∧ v1 = cP PB (M361 22) n1 + 1) from by first | (have h11 : (1 : Int32).toInt = 1 := rfl; have h00 : (0 : Int32).toInt = 0 := rfl; have : cP PB (M361 22) (n1) = cP PB (Mc50 22) (n1) := cP_cong _ (fun j _ => fq362 _ _ (by unfold mIl; omega)); have : cP P40 (M361 22) (n1) = cP P40 (Mc50 22) (n1) := cP_cong _ (fun j _ => fq362 _ _ (by unfold mIl; omega)); omega)) (show k4 ≤ cP P40 (M361 22) n1 from by first | (have h11 : (1 : Int32).toInt = 1 := rfl; have h00 : (0 : Int32).toInt = 0 := rfl; have : cP PB (M361 22) (n1) = cP PB (Mc50 22) (n1) := cP_cong _ (fun j _ => fq362 _ _ (by unfold mIl; omega)); have : cP P40 (M361 22) (n1) = cP P40 (Mc50 22) (n1) := cP_cong _ (fun j _ => fq362 _ _ (by unfold mIl; omega)); omega)) (show 0 = 1 ∨ (M361 0 34).toInt = 1 from by first | (omega)) (show (M361 0 23 = M 0 23) ∧ (M361 0 24 = M 0 24) from by first | exact ⟨(fq362 _ _ (by unfold mIl; omega)).trans c50_7.1, (fq362 _ _ (by unfold mIl; omega)).trans c50_7.2⟩) hP hI hF hS (lv_sub hl [1, 2, 3, 4, 5, 6] rfl)
                        · have g359 : ¬ (7 ≤ r356.toInt) := fun q => h359 (Int32.le_iff_toInt_le.mpr q)
                          have w359 := ti_lo r356
                          refine lv_aload_n hx hb d_Md_value_239 rfl (lv_at hl 1 rfl) ?_
                          refine lv_iload hx hb d_Md_value_240 (lv_at hl 0 rfl) ?_
                          refine ux_calli (va_runS ⟨hx, hb, hml, hown, hts⟩ (s_Md_rankOf l D ad cA A TB hA hB  Mc50 hI (nI c277)) (va_cwS 1 hts (tb_goodST ml_Md_348 sm_Md_rankOf ii_Md kt_Md_rankOf) rfl rfl rfl (by decide +kernel) ⟨Nat.le_of_ble_eq_true rfl, Nat.le_of_ble_eq_true rfl⟩) (ux_pre hP hK hi hN) rfl rfl hl.1 rfl (lv_room (Nat.le_of_ble_eq_true rfl)) d_Md_value_242 ⟨Nat.zero_le _, Nat.zero_le _⟩) hS (fun r363 M364 H locs q365 hP hS => ?_)
                          obtain ⟨hI, fq365, q365p⟩ := q365
                          rw [tN_eq fq365] at hP hI
                          refine ux_callv (va_runV ⟨hx, hb, hml, hown, hts⟩ (s_Md_applyFrom l D ad cA A TB hA hB  Mc50 hI n1 v1 (hg_n1) (hg_v1) (by omega) (by omega) (by omega) r363 (by omega)) (cwV 1 hts (tb_goodV ml_Md_367 im_Md_applyFrom se_Md_applyFrom ii_Md kt_Md_applyFrom) rfl rfl rfl (by decide +kernel) ⟨Nat.le_of_ble_eq_true rfl, Nat.le_of_ble_eq_true rfl⟩) (ux_preV (by decide) rfl rfl hP hK hi hN) rfl rfl hl.1 rfl (lv_room (Nat.le_of_ble_eq_true rfl)) d_Md_value_245 ⟨Nat.zero_le _, Nat.zero_le _⟩) hS (fun M367 H locs q368 hP hS => ?_)
                          obtain ⟨hI, fq368, q368p⟩ := q368
                          have hF := fr_call hF fq368 (fun a b q => by unfold mAp at q; unfold mVa; omega)
                          obtain ⟨n369, v370, hn369a, hv370a, hn369b, hv370b, hv370c, hn369d, hn369e⟩ := q368p
                          have hn369r : ∀ j, M367 22 j = Mc50 22 j := fun j => fq368 _ _ (by unfold mAp; omega)
                          have hn369B : cP PB (M367 22) n369 = cP PB (Mc50 22) n369 := cP_cong _ (fun j _ => hn369r j)
                          have hn3694 : cP P40 (M367 22) n369 = cP P40 (Mc50 22) n369 := cP_cong _ (fun j _ => hn369r j)
                          have hn369l := cP_le (P := P40) (f := Mc50 22) n369
                          have hn369t := congrArg rk (congrArg Int32.toInt (hn369r (n369 - 1)))
                          refine lv_aload_n hx hb d_Md_value_248 rfl (lv_at hl 1 rfl) ?_
                          refine lv_iload hx hb d_Md_value_249 (lv_at hl 0 rfl) ?_
                          refine ux_callv (va_runV ⟨hx, hb, hml, hown, hts⟩ (s_Md_sign l D ad cA A TB hA hB  M367 hI (n369) (hn369a) (by omega) (nI c277)) (cwV 1 hts (tb_goodV ml_Md_360 im_Md_sign se_Md_sign ii_Md kt_Md_sign) rfl rfl rfl (by decide +kernel) ⟨Nat.le_of_ble_eq_true rfl, Nat.le_of_ble_eq_true rfl⟩) (ux_preV (by decide) rfl rfl hP hK hi hN) rfl rfl hl.1 rfl (lv_room (Nat.le_of_ble_eq_true rfl)) d_Md_value_251 ⟨Nat.zero_le _, Nat.zero_le _⟩) hS (fun M372 H locs q373 hP hS => ?_)
                          obtain ⟨hI, fq373, q373p⟩ := q373
                          have hF := fr_call hF fq373 (fun a b q => by unfold mSg at q; unfold mVa; omega)
                          obtain ⟨q373a, q373b, q373c⟩ := q373p
                          have q373d := sg_B q373b q373c
                          have q373e := sg_4 q373b q373c
                          refine lv_iconst (v := 1) hx hb d_Md_value_254 (by decide) ?_
                          refine lv_istore hx hb d_Md_value_255 hl (by decide) rfl (fun ls hl => ?_)
                          have hl : lv_has ls 7 [(5, .int 1), (6, .int (nI c277)), (0, .ref (ad 0)), (1, .int (nI w)), (2, .int (nI k2)), (3, .int (nI k3)), (4, .int (nI k4))] := hl
                          refine lv_iinc (k := 4) (v := nI (k2 + 1)) hx hb d_Md_value_257 hl rfl (nI_add k2 1) (by decide) rfl (fun ls hl => ?_)
                          have hl : lv_has ls 7 [(2, .int (nI (k2 + 1))), (5, .int 1), (6, .int (nI c277)), (0, .ref (ad 0)), (1, .int (nI w)), (3, .int (nI k3)), (4, .int (nI k4))] := hl
                          refine lv_goto hx hb d_Md_value_260 rfl ?_
                          refine lv_goto hx hb d_Md_value_268 rfl ?_
                          exact ih50 (1 * 300 + (250 - (k2 + 1))) (by omega) 1 (k2 + 1) k3 k4 (n369 + 1) v370 1 M372 _ _ ls rfl (show M372 0 31 = nI (n369 + 1) from q373a) (show M372 0 32 = nI v370 from (fq373 _ _ (by unfold mSg; omega)).trans (hv370a)) (show (k2 + 1) ≤ 201 from by first | omega | assumption | exact Or.inl rfl | exact Or.inr rfl | rfl | decide) (show k3 ≤ 200 from by first | omega | assumption | exact Or.inl rfl | exact Or.inr rfl | rfl | decide) (show (n369 + 1) ≤ (k2 + 1) from by first | omega | assumption | exact Or.inl rfl | exact Or.inr rfl | rfl | decide) (show 1 ≤ 1 from by first | omega | assumption | exact Or.inl rfl | exact Or.inr rfl | rfl | decide) (show (1 = 1 ∧ v370 = cP PB (M372 22) (n369 + 1)) ∨ (1 = 0 ∧ v370 = cP PB (M372 22) (n369 + 1) + 1) from by first | (have h11 : (1 : Int32).toInt = 1 := rfl; have h00 : (0 : Int32).toInt = 0 := rfl; omega)) (show k4 ≤ cP P40 (M372 22) (n369 + 1) from by first | (have h11 : (1 : Int32).toInt = 1 := rfl; have h00 : (0 : Int32).toInt = 0 := rfl; omega)) (show 1 = 1 ∨ (M372 0 34).toInt = 1 from by first | exact Or.inl rfl) (show (M372 0 23 = M 0 23) ∧ (M372 0 24 = M 0 24) from by first | exact ⟨((fq373 _ _ (by unfold mSg; omega)).trans (fq368 _ _ (by unfold mAp; omega))).trans c50_7.1, ((fq373 _ _ (by unfold mSg; omega)).trans (fq368 _ _ (by unfold mAp; omega))).trans c50_7.2⟩) hP hI hF hS (lv_sub hl [3, 4, 0, 5, 6, 1] rfl)
                    · have g348 : ((c277 : Nat) : Int) = 41 := by have q := congrArg Int32.toInt h348; rw [nI_toInt (n := c277) (by omega)] at q; exact q
                      refine lv_iload hx hb d_Md_value_191 (lv_at hl 5 rfl) ?_
                      refine lv_if_le hx hb d_Md_value_193 rfl (fun h374 => ?_) (fun h374 => ?_)
                      · have g374 : ((k4 : Nat) : Int) ≤ 0 := by have q := Int32.le_iff_toInt_le.mp h374; rw [nI_toInt (n := k4) (by omega)] at q; exact q
                        refine lv_iload hx hb d_Md_value_220 (lv_at hl 0 rfl) ?_
                        refine ux_calli (va_runS ⟨hx, hb, hml, hown, hts⟩ (s_Md_rankOf l D ad cA A TB hA hB  Mc50 hI (nI c277)) (va_cwS 1 hts (tb_goodST ml_Md_348 sm_Md_rankOf ii_Md kt_Md_rankOf) rfl rfl rfl (by decide +kernel) ⟨Nat.le_of_ble_eq_true rfl, Nat.le_of_ble_eq_true rfl⟩) (ux_pre hP hK hi hN) rfl rfl hl.1 rfl (lv_room (Nat.le_of_ble_eq_true rfl)) d_Md_value_222 ⟨Nat.zero_le _, Nat.zero_le _⟩) hS (fun r375 M376 H locs q377 hP hS => ?_)
                        obtain ⟨hI, fq377, q377p⟩ := q377
                        rw [tN_eq fq377] at hP hI
                        refine lv_iconst (v := 1) hx hb d_Md_value_225 (by decide) ?_
                        refine lv_icmp_le hx hb d_Md_value_226 rfl (fun h378 => ?_) (fun h378 => ?_)
                        · have g378 : r375.toInt ≤ 1 := Int32.le_iff_toInt_le.mp h378
                          have w378 := ti_lo r375
                          refine lv_aload_n hx hb d_Md_value_263 rfl (lv_at hl 1 rfl) ?_
                          refine lv_iconst (v := 1) hx hb d_Md_value_264 (by decide) ?_
                          refine ux_callv (va_runV ⟨hx, hb, hml, hown, hts⟩ (s_Md_ill l D ad cA A TB hA hB  Mc50 hI 1) (cwV 1 hts (tb_goodV ml_Md_354 im_Md_ill se_Md_ill ii_Md kt_Md_ill) rfl rfl rfl (by decide +kernel) ⟨Nat.le_of_ble_eq_true rfl, Nat.le_of_ble_eq_true rfl⟩) (ux_preV (by decide) rfl rfl hP hK hi hN) rfl rfl hl.1 rfl (lv_room (Nat.le_of_ble_eq_true rfl)) d_Md_value_265 ⟨Nat.zero_le _, Nat.zero_le _⟩) hS (fun M380 H locs q381 hP hS => ?_)
                          obtain ⟨hI, fq381, q381p⟩ := q381
                          have hF := fr_call hF fq381 (fun a b q => by unfold mIl at q; unfold mVa; omega)
                          rw [show (1 : Int32).toInt = 1 from rfl] at q381p
                          refine lv_goto hx hb d_Md_value_268 rfl ?_
                          exact ih50 (0 * 300 + (250 - k2)) (by omega) i_5 k2 k3 k4 n1 v1 0 M380 _ _ ls rfl (show M380 0 31 = nI n1 from (fq381 _ _ (by unfold mIl; omega)).trans (hg_n1)) (show M380 0 32 = nI v1 from (fq381 _ _ (by unfold mIl; omega)).trans (hg_v1)) (show k2 ≤ 201 from by first | omega | assumption | exact Or.inl rfl | exact Or.inr rfl | rfl | decide) (show k3 ≤ 200 from by first | omega | assumption | exact Or.inl rfl | exact Or.inr rfl | rfl | decide) (show n1 ≤ k2 from by first | omega | assumption | exact Or.inl rfl | exact Or.inr rfl | rfl | decide) (show 0 ≤ 1 from by first | omega | assumption | exact Or.inl rfl | exact Or.inr rfl | rfl | decide) (show (i_5.toInt = 1 ∧ v1 = cP PB (M380 22) n1) ∨ (i_5.toInt = 0 ∧ v1 = cP PB (M380 22) n1 + 1) from by first | (have h11 : (1 : Int32).toInt = 1 := rfl; have h00 : (0 : Int32).toInt = 0 := rfl; have : cP PB (M380 22) (n1) = cP PB (Mc50 22) (n1) := cP_cong _ (fun j _ => fq381 _ _ (by unfold mIl; omega)); have : cP P40 (M380 22) (n1) = cP P40 (Mc50 22) (n1) := cP_cong _ (fun j _ => fq381 _ _ (by unfold mIl; omega)); omega)) (show k4 ≤ cP P40 (M380 22) n1 from by first | (have h11 : (1 : Int32).toInt = 1 := rfl; have h00 : (0 : Int32).toInt = 0 := rfl; have : cP PB (M380 22) (n1) = cP PB (Mc50 22) (n1) := cP_cong _ (fun j _ => fq381 _ _ (by unfold mIl; omega)); have : cP P40 (M380 22) (n1) = cP P40 (Mc50 22) (n1) := cP_cong _ (fun j _ => fq381 _ _ (by unfold mIl; omega)); omega)) (show 0 = 1 ∨ (M380 0 34).toInt = 1 from by first | (omega)) (show (M380 0 23 = M 0 23) ∧ (M380 0 24 = M 0 24) from by first | exact ⟨(fq381 _ _ (by unfold mIl; omega)).trans c50_7.1, (fq381 _ _ (by unfold mIl; omega)).trans c50_7.2⟩) hP hI hF hS (lv_sub hl [1, 2, 3, 4, 5, 6] rfl)
                        · have g378 : ¬ (r375.toInt ≤ 1) := fun q => h378 (Int32.le_iff_toInt_le.mpr q)
                          have u378 := ti_hi r375
                          refine lv_iload hx hb d_Md_value_229 (lv_at hl 0 rfl) ?_
                          refine ux_calli (va_runS ⟨hx, hb, hml, hown, hts⟩ (s_Md_rankOf l D ad cA A TB hA hB  Mc50 hI (nI c277)) (va_cwS 1 hts (tb_goodST ml_Md_348 sm_Md_rankOf ii_Md kt_Md_rankOf) rfl rfl rfl (by decide +kernel) ⟨Nat.le_of_ble_eq_true rfl, Nat.le_of_ble_eq_true rfl⟩) (ux_pre hP hK hi hN) rfl rfl hl.1 rfl (lv_room (Nat.le_of_ble_eq_true rfl)) d_Md_value_231 ⟨Nat.zero_le _, Nat.zero_le _⟩) hS (fun r382 M383 H locs q384 hP hS => ?_)
                          obtain ⟨hI, fq384, q384p⟩ := q384
                          rw [tN_eq fq384] at hP hI
                          refine lv_bipush (v := 7) hx hb d_Md_value_234 (by decide) ?_
                          refine lv_icmp_ge hx hb d_Md_value_236 rfl (fun h385 => ?_) (fun h385 => ?_)
                          · have g385 : 7 ≤ r382.toInt := Int32.le_iff_toInt_le.mp h385
                            have u385 := ti_hi r382
                            refine lv_aload_n hx hb d_Md_value_263 rfl (lv_at hl 1 rfl) ?_
                            refine lv_iconst (v := 1) hx hb d_Md_value_264 (by decide) ?_
                            refine ux_callv (va_runV ⟨hx, hb, hml, hown, hts⟩ (s_Md_ill l D ad cA A TB hA hB  Mc50 hI 1) (cwV 1 hts (tb_goodV ml_Md_354 im_Md_ill se_Md_ill ii_Md kt_Md_ill) rfl rfl rfl (by decide +kernel) ⟨Nat.le_of_ble_eq_true rfl, Nat.le_of_ble_eq_true rfl⟩) (ux_preV (by decide) rfl rfl hP hK hi hN) rfl rfl hl.1 rfl (lv_room (Nat.le_of_ble_eq_true rfl)) d_Md_value_265 ⟨Nat.zero_le _, Nat.zero_le _⟩) hS (fun M387 H locs q388 hP hS => ?_)
                            obtain ⟨hI, fq388, q388p⟩ := q388
                            have hF := fr_call hF fq388 (fun a b q => by unfold mIl at q; unfold mVa; omega)
                            rw [show (1 : Int32).toInt = 1 from rfl] at q388p
                            refine lv_goto hx hb d_Md_value_268 rfl ?_
                            exact ih50 (0 * 300 + (250 - k2)) (by omega) i_5 k2 k3 k4 n1 v1 0 M387 _ _ ls rfl (show M387 0 31 = nI n1 from (fq388 _ _ (by unfold mIl; omega)).trans (hg_n1)) (show M387 0 32 = nI v1 from (fq388 _ _ (by unfold mIl; omega)).trans (hg_v1)) (show k2 ≤ 201 from by first | omega | assumption | exact Or.inl rfl | exact Or.inr rfl | rfl | decide) (show k3 ≤ 200 from by first | omega | assumption | exact Or.inl rfl | exact Or.inr rfl | rfl | decide) (show n1 ≤ k2 from by first | omega | assumption | exact Or.inl rfl | exact Or.inr rfl | rfl | decide) (show 0 ≤ 1 from by first | omega | assumption | exact Or.inl rfl | exact Or.inr rfl | rfl | decide) (show (i_5.toInt = 1 ∧ v1 = cP PB (M387 22) n1) ∨ (i_5.toInt = 0 ∧ v1 = cP PB (M387 22) n1 + 1) from by first | (have h11 : (1 : Int32).toInt = 1 := rfl; have h00 : (0 : Int32).toInt = 0 := rfl; have : cP PB (M387 22) (n1) = cP PB (Mc50 22) (n1) := cP_cong _ (fun j _ => fq388 _ _ (by unfold mIl; omega)); have : cP P40 (M387 22) (n1) = cP P40 (Mc50 22) (n1) := cP_cong _ (fun j _ => fq388 _ _ (by unfold mIl; omega)); omega)) (show k4 ≤ cP P40 (M387 22) n1 from by first | (have h11 : (1 : Int32).toInt = 1 := rfl; have h00 : (0 : Int32).toInt = 0 := rfl; have : cP PB (M387 22) (n1) = cP PB (Mc50 22) (n1) := cP_cong _ (fun j _ => fq388 _ _ (by unfold mIl; omega)); have : cP P40 (M387 22) (n1) = cP P40 (Mc50 22) (n1) := cP_cong _ (fun j _ => fq388 _ _ (by unfold mIl; omega)); omega)) (show 0 = 1 ∨ (M387 0 34).toInt = 1 from by first | (omega)) (show (M387 0 23 = M 0 23) ∧ (M387 0 24 = M 0 24) from by first | exact ⟨(fq388 _ _ (by unfold mIl; omega)).trans c50_7.1, (fq388 _ _ (by unfold mIl; omega)).trans c50_7.2⟩) hP hI hF hS (lv_sub hl [1, 2, 3, 4, 5, 6] rfl)
                          · have g385 : ¬ (7 ≤ r382.toInt) := fun q => h385 (Int32.le_iff_toInt_le.mpr q)
                            have w385 := ti_lo r382
                            refine lv_aload_n hx hb d_Md_value_239 rfl (lv_at hl 1 rfl) ?_
                            refine lv_iload hx hb d_Md_value_240 (lv_at hl 0 rfl) ?_
                            refine ux_calli (va_runS ⟨hx, hb, hml, hown, hts⟩ (s_Md_rankOf l D ad cA A TB hA hB  Mc50 hI (nI c277)) (va_cwS 1 hts (tb_goodST ml_Md_348 sm_Md_rankOf ii_Md kt_Md_rankOf) rfl rfl rfl (by decide +kernel) ⟨Nat.le_of_ble_eq_true rfl, Nat.le_of_ble_eq_true rfl⟩) (ux_pre hP hK hi hN) rfl rfl hl.1 rfl (lv_room (Nat.le_of_ble_eq_true rfl)) d_Md_value_242 ⟨Nat.zero_le _, Nat.zero_le _⟩) hS (fun r389 M390 H locs q391 hP hS => ?_)
                            obtain ⟨hI, fq391, q391p⟩ := q391
                            rw [tN_eq fq391] at hP hI
                            refine ux_callv (va_runV ⟨hx, hb, hml, hown, hts⟩ (s_Md_applyFrom l D ad cA A TB hA hB  Mc50 hI n1 v1 (hg_n1) (hg_v1) (by omega) (by omega) (by omega) r389 (by omega)) (cwV 1 hts (tb_goodV ml_Md_367 im_Md_applyFrom se_Md_applyFrom ii_Md kt_Md_applyFrom) rfl rfl rfl (by decide +kernel) ⟨Nat.le_of_ble_eq_true rfl, Nat.le_of_ble_eq_true rfl⟩) (ux_preV (by decide) rfl rfl hP hK hi hN) rfl rfl hl.1 rfl (lv_room (Nat.le_of_ble_eq_true rfl)) d_Md_value_245 ⟨Nat.zero_le _, Nat.zero_le _⟩) hS (fun M393 H locs q394 hP hS => ?_)
                            obtain ⟨hI, fq394, q394p⟩ := q394
                            have hF := fr_call hF fq394 (fun a b q => by unfold mAp at q; unfold mVa; omega)
                            obtain ⟨n395, v396, hn395a, hv396a, hn395b, hv396b, hv396c, hn395d, hn395e⟩ := q394p
                            have hn395r : ∀ j, M393 22 j = Mc50 22 j := fun j => fq394 _ _ (by unfold mAp; omega)
                            have hn395B : cP PB (M393 22) n395 = cP PB (Mc50 22) n395 := cP_cong _ (fun j _ => hn395r j)
                            have hn3954 : cP P40 (M393 22) n395 = cP P40 (Mc50 22) n395 := cP_cong _ (fun j _ => hn395r j)
                            have hn395l := cP_le (P := P40) (f := Mc50 22) n395
                            have hn395t := congrArg rk (congrArg Int32.toInt (hn395r (n395 - 1)))
                            refine lv_aload_n hx hb d_Md_value_248 rfl (lv_at hl 1 rfl) ?_
                            refine lv_iload hx hb d_Md_value_249 (lv_at hl 0 rfl) ?_
                            refine ux_callv (va_runV ⟨hx, hb, hml, hown, hts⟩ (s_Md_sign l D ad cA A TB hA hB  M393 hI (n395) (hn395a) (by omega) (nI c277)) (cwV 1 hts (tb_goodV ml_Md_360 im_Md_sign se_Md_sign ii_Md kt_Md_sign) rfl rfl rfl (by decide +kernel) ⟨Nat.le_of_ble_eq_true rfl, Nat.le_of_ble_eq_true rfl⟩) (ux_preV (by decide) rfl rfl hP hK hi hN) rfl rfl hl.1 rfl (lv_room (Nat.le_of_ble_eq_true rfl)) d_Md_value_251 ⟨Nat.zero_le _, Nat.zero_le _⟩) hS (fun M398 H locs q399 hP hS => ?_)
                            obtain ⟨hI, fq399, q399p⟩ := q399
                            have hF := fr_call hF fq399 (fun a b q => by unfold mSg at q; unfold mVa; omega)
                            obtain ⟨q399a, q399b, q399c⟩ := q399p
                            have q399d := sg_B q399b q399c
                            have q399e := sg_4 q399b q399c
                            refine lv_iconst (v := 1) hx hb d_Md_value_254 (by decide) ?_
                            refine lv_istore hx hb d_Md_value_255 hl (by decide) rfl (fun ls hl => ?_)
                            have hl : lv_has ls 7 [(5, .int 1), (6, .int (nI c277)), (0, .ref (ad 0)), (1, .int (nI w)), (2, .int (nI k2)), (3, .int (nI k3)), (4, .int (nI k4))] := hl
                            refine lv_iinc (k := 4) (v := nI (k2 + 1)) hx hb d_Md_value_257 hl rfl (nI_add k2 1) (by decide) rfl (fun ls hl => ?_)
                            have hl : lv_has ls 7 [(2, .int (nI (k2 + 1))), (5, .int 1), (6, .int (nI c277)), (0, .ref (ad 0)), (1, .int (nI w)), (3, .int (nI k3)), (4, .int (nI k4))] := hl
                            refine lv_goto hx hb d_Md_value_260 rfl ?_
                            refine lv_goto hx hb d_Md_value_268 rfl ?_
                            exact ih50 (1 * 300 + (250 - (k2 + 1))) (by omega) 1 (k2 + 1) k3 k4 (n395 + 1) v396 1 M398 _ _ ls rfl (show M398 0 31 = nI (n395 + 1) from q399a) (show M398 0 32 = nI v396 from (fq399 _ _ (by unfold mSg; omega)).trans (hv396a)) (show (k2 + 1) ≤ 201 from by first | omega | assumption | exact Or.inl rfl | exact Or.inr rfl | rfl | decide) (show k3 ≤ 200 from by first | omega | assumption | exact Or.inl rfl | exact Or.inr rfl | rfl | decide) (show (n395 + 1) ≤ (k2 + 1) from by first | omega | assumption | exact Or.inl rfl | exact Or.inr rfl | rfl | decide) (show 1 ≤ 1 from by first | omega | assumption | exact Or.inl rfl | exact Or.inr rfl | rfl | decide) (show (1 = 1 ∧ v396 = cP PB (M398 22) (n395 + 1)) ∨ (1 = 0 ∧ v396 = cP PB (M398 22) (n395 + 1) + 1) from by first | (have h11 : (1 : Int32).toInt = 1 := rfl; have h00 : (0 : Int32).toInt = 0 := rfl; omega)) (show k4 ≤ cP P40 (M398 22) (n395 + 1) from by first | (have h11 : (1 : Int32).toInt = 1 := rfl; have h00 : (0 : Int32).toInt = 0 := rfl; omega)) (show 1 = 1 ∨ (M398 0 34).toInt = 1 from by first | exact Or.inl rfl) (show (M398 0 23 = M 0 23) ∧ (M398 0 24 = M 0 24) from by first | exact ⟨((fq399 _ _ (by unfold mSg; omega)).trans (fq394 _ _ (by unfold mAp; omega))).trans c50_7.1, ((fq399 _ _ (by unfold mSg; omega)).trans (fq394 _ _ (by unfold mAp; omega))).trans c50_7.2⟩) hP hI hF hS (lv_sub hl [3, 4, 0, 5, 6, 1] rfl)
                      · have g374 : ¬ (((k4 : Nat) : Int) ≤ 0) := fun q => h374 (Int32.le_iff_toInt_le.mpr (by rw [nI_toInt (n := k4) (by omega)]; exact q))
                        refine lv_aload_n hx hb d_Md_value_196 rfl (lv_at hl 1 rfl) ?_
                        refine lv_iconst (v := 1) hx hb d_Md_value_197 (by decide) ?_
                        refine ux_callv (va_runV ⟨hx, hb, hml, hown, hts⟩ (s_Md_applyFrom l D ad cA A TB hA hB  Mc50 hI n1 v1 (hg_n1) (hg_v1) (by omega) (by omega) (by omega) 1 (by decide)) (cwV 1 hts (tb_goodV ml_Md_367 im_Md_applyFrom se_Md_applyFrom ii_Md kt_Md_applyFrom) rfl rfl rfl (by decide +kernel) ⟨Nat.le_of_ble_eq_true rfl, Nat.le_of_ble_eq_true rfl⟩) (ux_preV (by decide) rfl rfl hP hK hi hN) rfl rfl hl.1 rfl (lv_room (Nat.le_of_ble_eq_true rfl)) d_Md_value_198 ⟨Nat.zero_le _, Nat.zero_le _⟩) hS (fun M401 H locs q402 hP hS => ?_)
                        obtain ⟨hI, fq402, q402p⟩ := q402
                        have hF := fr_call hF fq402 (fun a b q => by unfold mAp at q; unfold mVa; omega)
                        obtain ⟨n403, v404, hn403a, hv404a, hn403b, hv404b, hv404c, hn403d, hn403e⟩ := q402p
                        rw [show (1 : Int32).toInt = 1 from rfl] at hn403e
                        have hn403r : ∀ j, M401 22 j = Mc50 22 j := fun j => fq402 _ _ (by unfold mAp; omega)
                        have hn403B : cP PB (M401 22) n403 = cP PB (Mc50 22) n403 := cP_cong _ (fun j _ => hn403r j)
                        have hn4034 : cP P40 (M401 22) n403 = cP P40 (Mc50 22) n403 := cP_cong _ (fun j _ => hn403r j)
                        have hn403l := cP_le (P := P40) (f := Mc50 22) n403
                        have hn403t := congrArg rk (congrArg Int32.toInt (hn403r (n403 - 1)))
                        have hpop := pop_B (f := M401 22) (n := n403) (by omega) (by omega)
                        refine lv_aload_n hx hb d_Md_value_201 rfl (lv_at hl 1 rfl) ?_
                        refine lv_dup hx hb d_Md_value_202 rfl ?_
                        refine ux_get (C := R_Md) (T := F_Md) (N := 50) hx hb hT in_Md hown hK hP (by decide) rfl rfl 31 (by decide) (hT _ fl_Md_338) rfl d_Md_value_203 ?_
                        refine lv_topi (fun z405 hz405 => ?_)
                        rw [show M401 0 31 = nI n403 from hn403a] at hz405
                        rw [hz405]
                        refine lv_iconst (v := 1) hx hb d_Md_value_206 (by decide) ?_
                        refine lv_isub hx hb d_Md_value_207 ?_
                        refine lv_topi (fun z406 hz406 => ?_)
                        rw [show (nI n403) - (1 : Int32) = nI (n403 - 1) from (pk_sub (a := n403) (b := 1) (by omega)).trans (congrArg nI (show n403 - 1 = n403 - 1 by omega))] at hz406
                        rw [hz406]
                        refine ux_put (C := R_Md) (T := F_Md) (N := 50) hx hb hT in_Md t_Md t_Md_ok n_Md hown hK hi hP hS (by decide) rfl rfl 31 (by decide) (hT _ fl_Md_338) rfl (rfl) (rfl) rfl d_Md_value_208 (fun H locs hP hS => ?_)
                        have hI := IvM_wr (k := 0) (j := 31) (v := nI (n403 - 1)) hI (show (0 : Int) ≤ (nI (n403 - 1) : Int32).toInt from (by rw [nI_toInt (n := n403 - 1) (by omega)]; omega)) (show (nI (n403 - 1) : Int32).toInt ≤ (210 : Int) from (by rw [nI_toInt (n := n403 - 1) (by omega)]; omega)) (by unfold okW; omega)
                        have hF := fr_wr (k := 0) (j := 31) (v := nI (n403 - 1)) hF (by unfold mVa; omega)
                        generalize eM407 : ux_wr M401 0 31 (nI (n403 - 1)) = M407 at hP hI hF
                        have tM407 : (M407 0 31).toInt = ((n403 - 1 : Nat) : Int) := by rw [wr_at eM407]; exact nI_toInt (by omega)
                        refine lv_iinc (k := 5) (v := nI (k4 - 1)) hx hb d_Md_value_211 hl rfl (nI_dec (k := k4) (by omega) (by omega)) (by decide) rfl (fun ls hl => ?_)
                        have hl : lv_has ls 7 [(4, .int (nI (k4 - 1))), (6, .int (nI c277)), (0, .ref (ad 0)), (1, .int (nI w)), (2, .int (nI k2)), (3, .int (nI k3)), (5, .int i_5)] := hl
                        refine lv_iinc (k := 4) (v := nI (k2 + 1)) hx hb d_Md_value_214 hl rfl (nI_add k2 1) (by decide) rfl (fun ls hl => ?_)
                        have hl : lv_has ls 7 [(2, .int (nI (k2 + 1))), (4, .int (nI (k4 - 1))), (6, .int (nI c277)), (0, .ref (ad 0)), (1, .int (nI w)), (3, .int (nI k3)), (5, .int i_5)] := hl
                        refine lv_goto hx hb d_Md_value_217 rfl ?_
                        refine lv_goto hx hb d_Md_value_268 rfl ?_
                        exact ih50 (1 * 300 + (250 - (k2 + 1))) (by omega) i_5 (k2 + 1) k3 (k4 - 1) (n403 - 1) v404 1 M407 _ _ ls rfl (show M407 0 31 = nI (n403 - 1) from wr_at eM407) (show M407 0 32 = nI v404 from (wr_off eM407 (by omega)).trans (hv404a)) (show (k2 + 1) ≤ 201 from by first | omega | assumption | exact Or.inl rfl | exact Or.inr rfl | rfl | decide) (show k3 ≤ 200 from by first | omega | assumption | exact Or.inl rfl | exact Or.inr rfl | rfl | decide) (show (n403 - 1) ≤ (k2 + 1) from by first | omega | assumption | exact Or.inl rfl | exact Or.inr rfl | rfl | decide) (show 1 ≤ 1 from by first | omega | assumption | exact Or.inl rfl | exact Or.inr rfl | rfl | decide) (show (i_5.toInt = 1 ∧ v404 = cP PB (M407 22) (n403 - 1)) ∨ (i_5.toInt = 0 ∧ v404 = cP PB (M407 22) (n403 - 1) + 1) from by first | (have h11 : (1 : Int32).toInt = 1 := rfl; have h00 : (0 : Int32).toInt = 0 := rfl; have : cP PB (M407 22) (n403 - 1) = cP PB (M401 22) (n403 - 1) := cP_cong _ (fun j _ => wr_off eM407 (by omega)); have : cP P40 (M407 22) (n403 - 1) = cP P40 (M401 22) (n403 - 1) := cP_cong _ (fun j _ => wr_off eM407 (by omega)); omega)) (show (k4 - 1) ≤ cP P40 (M407 22) (n403 - 1) from by first | (have h11 : (1 : Int32).toInt = 1 := rfl; have h00 : (0 : Int32).toInt = 0 := rfl; have : cP PB (M407 22) (n403 - 1) = cP PB (M401 22) (n403 - 1) := cP_cong _ (fun j _ => wr_off eM407 (by omega)); have : cP P40 (M407 22) (n403 - 1) = cP P40 (M401 22) (n403 - 1) := cP_cong _ (fun j _ => wr_off eM407 (by omega)); omega)) (show 1 = 1 ∨ (M407 0 34).toInt = 1 from by first | exact Or.inl rfl) (show (M407 0 23 = M 0 23) ∧ (M407 0 24 = M 0 24) from by first | exact ⟨((wr_off eM407 (by omega)).trans (fq402 _ _ (by unfold mAp; omega))).trans c50_7.1, ((wr_off eM407 (by omega)).trans (fq402 _ _ (by unfold mAp; omega))).trans c50_7.2⟩) hP hI hF hS (lv_sub hl [3, 4, 0, 5, 1, 6] rfl)
                  · have g347 : ¬ (i_5.toInt = 0) := fun q => h347 (Int32.toInt_inj.mp q)
                    refine lv_aload_n hx hb d_Md_value_171 rfl (lv_at hl 1 rfl) ?_
                    refine lv_iload_n hx hb d_Md_value_172 rfl (lv_at hl 3 rfl) ?_
                    refine lv_iload_n hx hb d_Md_value_173 rfl (lv_at hl 4 rfl) ?_
                    refine ux_calli (va_runV ⟨hx, hb, hml, hown, hts⟩ (s_Md_operand l D ad cA A TB hA hB  Mc50 hI L hL ((hF _ _ (by unfold mVa; omega)).trans hlv) k2 k3 v1 (by omega) (by omega) (hg_v1) (by omega)) (cwV 2 hts (tb_goodV ml_Md_363 im_Md_operand se_Md_operand ii_Md kt_Md_operand) rfl rfl rfl (by decide +kernel) ⟨Nat.le_of_ble_eq_true rfl, Nat.le_of_ble_eq_true rfl⟩) (ux_preV (by decide) rfl rfl hP hK hi hN) rfl rfl hl.1 rfl (lv_room (Nat.le_of_ble_eq_true rfl)) d_Md_value_174 ⟨Nat.zero_le _, Nat.zero_le _⟩) hS (fun r408 M409 H locs q410 hP hS => ?_)
                    obtain ⟨hI, fq410, q410p⟩ := q410
                    have hF := fr_call hF fq410 (fun a b q => by unfold mOp at q; unfold mVa; omega)
                    obtain ⟨q410a, ⟨q9, hq9, hq9a, hq9b, hq9c⟩, hq9d⟩ := q410p
                    subst hq9
                    obtain ⟨g2, hg2, hg2b, hg2c⟩ : ∃ g2 : Nat, g2 ≤ 1 ∧ (g2 = 1 ∨ (M409 0 34).toInt = 1) ∧ (g2 = 0 ∨ k2 < q9) := by
                      rcases hq9c with z | z
                      · exact ⟨0, by omega, Or.inr z, Or.inl rfl⟩
                      · exact ⟨1, by omega, Or.inl rfl, Or.inr z⟩
                    refine lv_istore_n hx hb d_Md_value_177 rfl hl (by decide) rfl (fun ls hl => ?_)
                    have hl : lv_has ls 7 [(2, .int (nI q9)), (6, .int (nI c277)), (0, .ref (ad 0)), (1, .int (nI w)), (3, .int (nI k3)), (4, .int (nI k4)), (5, .int i_5)] := hl
                    refine lv_iconst (v := 0) hx hb d_Md_value_178 (by decide) ?_
                    refine lv_istore hx hb d_Md_value_179 hl (by decide) rfl (fun ls hl => ?_)
                    have hl : lv_has ls 7 [(5, .int 0), (2, .int (nI q9)), (6, .int (nI c277)), (0, .ref (ad 0)), (1, .int (nI w)), (3, .int (nI k3)), (4, .int (nI k4))] := hl
                    refine lv_goto hx hb d_Md_value_181 rfl ?_
                    refine lv_goto hx hb d_Md_value_268 rfl ?_
                    exact ih50 (g2 * 300 + (250 - q9)) (by omega) 0 q9 k3 k4 n1 (v1 + 1) g2 M409 _ _ ls rfl (show M409 0 31 = nI n1 from (fq410 _ _ (by unfold mOp; omega)).trans (hg_n1)) (show M409 0 32 = nI (v1 + 1) from q410a) (show q9 ≤ 201 from by first | omega | assumption | exact Or.inl rfl | exact Or.inr rfl | rfl | decide) (show k3 ≤ 200 from by first | omega | assumption | exact Or.inl rfl | exact Or.inr rfl | rfl | decide) (show n1 ≤ q9 from by first | omega | assumption | exact Or.inl rfl | exact Or.inr rfl | rfl | decide) (show g2 ≤ 1 from by first | omega | assumption | exact Or.inl rfl | exact Or.inr rfl | rfl | decide) (show (0 = 1 ∧ (v1 + 1) = cP PB (M409 22) n1) ∨ (0 = 0 ∧ (v1 + 1) = cP PB (M409 22) n1 + 1) from by first | (have h11 : (1 : Int32).toInt = 1 := rfl; have h00 : (0 : Int32).toInt = 0 := rfl; have : cP PB (M409 22) (n1) = cP PB (Mc50 22) (n1) := cP_cong _ (fun j _ => fq410 _ _ (by unfold mOp; omega)); have : cP P40 (M409 22) (n1) = cP P40 (Mc50 22) (n1) := cP_cong _ (fun j _ => fq410 _ _ (by unfold mOp; omega)); omega)) (show k4 ≤ cP P40 (M409 22) n1 from by first | (have h11 : (1 : Int32).toInt = 1 := rfl; have h00 : (0 : Int32).toInt = 0 := rfl; have : cP PB (M409 22) (n1) = cP PB (Mc50 22) (n1) := cP_cong _ (fun j _ => fq410 _ _ (by unfold mOp; omega)); have : cP P40 (M409 22) (n1) = cP P40 (Mc50 22) (n1) := cP_cong _ (fun j _ => fq410 _ _ (by unfold mOp; omega)); omega)) (show g2 = 1 ∨ (M409 0 34).toInt = 1 from by first | exact hg2b | (omega)) (show (M409 0 23 = M 0 23) ∧ (M409 0 24 = M 0 24) from by first | exact ⟨(fq410 _ _ (by unfold mOp; omega)).trans c50_7.1, (fq410 _ _ (by unfold mOp; omega)).trans c50_7.2⟩) hP hI hF hS (lv_sub hl [3, 4, 1, 5, 6, 0] rfl)
                · have g346 : ((c277 : Nat) : Int) = 40 := by have q := congrArg Int32.toInt h346; rw [nI_toInt (n := c277) (by omega)] at q; exact q
                  refine lv_iinc (k := 5) (v := nI (k4 + 1)) hx hb d_Md_value_139 hl rfl (nI_add k4 1) (by decide) rfl (fun ls hl => ?_)
                  have hl : lv_has ls 7 [(4, .int (nI (k4 + 1))), (6, .int (nI c277)), (0, .ref (ad 0)), (1, .int (nI w)), (2, .int (nI k2)), (3, .int (nI k3)), (5, .int i_5)] := hl
                  refine lv_iload hx hb d_Md_value_142 (lv_at hl 0 rfl) ?_
                  refine lv_bipush (v := 8) hx hb d_Md_value_144 (by decide) ?_
                  refine lv_icmp_le hx hb d_Md_value_146 rfl (fun h411 => ?_) (fun h411 => ?_)
                  · have g411 : ((k4 + 1 : Nat) : Int) ≤ 8 := by have q := Int32.le_iff_toInt_le.mp h411; rw [nI_toInt (n := k4 + 1) (by omega)] at q; exact q
                    refine lv_aload_n hx hb d_Md_value_154 rfl (lv_at hl 2 rfl) ?_
                    refine lv_bipush (v := 40) hx hb d_Md_value_155 (by decide) ?_
                    refine ux_callv (va_runV ⟨hx, hb, hml, hown, hts⟩ (s_Md_sign l D ad cA A TB hA hB  Mc50 hI (n1) (hg_n1) (by omega) 40) (cwV 1 hts (tb_goodV ml_Md_360 im_Md_sign se_Md_sign ii_Md kt_Md_sign) rfl rfl rfl (by decide +kernel) ⟨Nat.le_of_ble_eq_true rfl, Nat.le_of_ble_eq_true rfl⟩) (ux_preV (by decide) rfl rfl hP hK hi hN) rfl rfl hl.1 rfl (lv_room (Nat.le_of_ble_eq_true rfl)) d_Md_value_157 ⟨Nat.zero_le _, Nat.zero_le _⟩) hS (fun M413 H locs q414 hP hS => ?_)
                    obtain ⟨hI, fq414, q414p⟩ := q414
                    have hF := fr_call hF fq414 (fun a b q => by unfold mSg at q; unfold mVa; omega)
                    obtain ⟨q414a, q414b, q414c⟩ := q414p
                    have q414d := sg_B q414b q414c
                    have q414e := sg_4 q414b q414c
                    rw [show (40 : Int32).toInt = 40 from rfl] at q414d q414e
                    have q414k : rk 40 = 0 := by decide
                    rw [q414k] at q414d
                    refine lv_iinc (k := 4) (v := nI (k2 + 1)) hx hb d_Md_value_160 hl rfl (nI_add k2 1) (by decide) rfl (fun ls hl => ?_)
                    have hl : lv_has ls 7 [(2, .int (nI (k2 + 1))), (4, .int (nI (k4 + 1))), (6, .int (nI c277)), (0, .ref (ad 0)), (1, .int (nI w)), (3, .int (nI k3)), (5, .int i_5)] := hl
                    refine lv_goto hx hb d_Md_value_163 rfl ?_
                    refine lv_goto hx hb d_Md_value_268 rfl ?_
                    exact ih50 (1 * 300 + (250 - (k2 + 1))) (by omega) i_5 (k2 + 1) k3 (k4 + 1) (n1 + 1) v1 1 M413 _ _ ls rfl (show M413 0 31 = nI (n1 + 1) from q414a) (show M413 0 32 = nI v1 from (fq414 _ _ (by unfold mSg; omega)).trans (hg_v1)) (show (k2 + 1) ≤ 201 from by first | omega | assumption | exact Or.inl rfl | exact Or.inr rfl | rfl | decide) (show k3 ≤ 200 from by first | omega | assumption | exact Or.inl rfl | exact Or.inr rfl | rfl | decide) (show (n1 + 1) ≤ (k2 + 1) from by first | omega | assumption | exact Or.inl rfl | exact Or.inr rfl | rfl | decide) (show 1 ≤ 1 from by first | omega | assumption | exact Or.inl rfl | exact Or.inr rfl | rfl | decide) (show (i_5.toInt = 1 ∧ v1 = cP PB (M413 22) (n1 + 1)) ∨ (i_5.toInt = 0 ∧ v1 = cP PB (M413 22) (n1 + 1) + 1) from by first | (have h11 : (1 : Int32).toInt = 1 := rfl; have h00 : (0 : Int32).toInt = 0 := rfl; omega)) (show (k4 + 1) ≤ cP P40 (M413 22) (n1 + 1) from by first | (have h11 : (1 : Int32).toInt = 1 := rfl; have h00 : (0 : Int32).toInt = 0 := rfl; omega)) (show 1 = 1 ∨ (M413 0 34).toInt = 1 from by first | exact Or.inl rfl) (show (M413 0 23 = M 0 23) ∧ (M413 0 24 = M 0 24) from by first | exact ⟨(fq414 _ _ (by unfold mSg; omega)).trans c50_7.1, (fq414 _ _ (by unfold mSg; omega)).trans c50_7.2⟩) hP hI hF hS (lv_sub hl [3, 4, 0, 5, 1, 6] rfl)
                  · have g411 : ¬ (((k4 + 1 : Nat) : Int) ≤ 8) := fun q => h411 (Int32.le_iff_toInt_le.mpr (by rw [nI_toInt (n := k4 + 1) (by omega)]; exact q))
                    refine lv_aload_n hx hb d_Md_value_149 rfl (lv_at hl 2 rfl) ?_
                    refine lv_iconst (v := 1) hx hb d_Md_value_150 (by decide) ?_
                    refine ux_callv (va_runV ⟨hx, hb, hml, hown, hts⟩ (s_Md_ill l D ad cA A TB hA hB  Mc50 hI 1) (cwV 1 hts (tb_goodV ml_Md_354 im_Md_ill se_Md_ill ii_Md kt_Md_ill) rfl rfl rfl (by decide +kernel) ⟨Nat.le_of_ble_eq_true rfl, Nat.le_of_ble_eq_true rfl⟩) (ux_preV (by decide) rfl rfl hP hK hi hN) rfl rfl hl.1 rfl (lv_room (Nat.le_of_ble_eq_true rfl)) d_Md_value_151 ⟨Nat.zero_le _, Nat.zero_le _⟩) hS (fun M416 H locs q417 hP hS => ?_)
                    obtain ⟨hI, fq417, q417p⟩ := q417
                    have hF := fr_call hF fq417 (fun a b q => by unfold mIl at q; unfold mVa; omega)
                    rw [show (1 : Int32).toInt = 1 from rfl] at q417p
                    refine lv_aload_n hx hb d_Md_value_154 rfl (lv_at hl 2 rfl) ?_
                    refine lv_bipush (v := 40) hx hb d_Md_value_155 (by decide) ?_
                    refine ux_callv (va_runV ⟨hx, hb, hml, hown, hts⟩ (s_Md_sign l D ad cA A TB hA hB  M416 hI (n1) ((fq417 _ _ (by unfold mIl; omega)).trans (hg_n1)) (by omega) 40) (cwV 1 hts (tb_goodV ml_Md_360 im_Md_sign se_Md_sign ii_Md kt_Md_sign) rfl rfl rfl (by decide +kernel) ⟨Nat.le_of_ble_eq_true rfl, Nat.le_of_ble_eq_true rfl⟩) (ux_preV (by decide) rfl rfl hP hK hi hN) rfl rfl hl.1 rfl (lv_room (Nat.le_of_ble_eq_true rfl)) d_Md_value_157 ⟨Nat.zero_le _, Nat.zero_le _⟩) hS (fun M419 H locs q420 hP hS => ?_)
                    obtain ⟨hI, fq420, q420p⟩ := q420
                    have hF := fr_call hF fq420 (fun a b q => by unfold mSg at q; unfold mVa; omega)
                    obtain ⟨q420a, q420b, q420c⟩ := q420p
                    have q420d := sg_B q420b q420c
                    have q420e := sg_4 q420b q420c
                    rw [show (40 : Int32).toInt = 40 from rfl] at q420d q420e
                    have q420k : rk 40 = 0 := by decide
                    rw [q420k] at q420d
                    refine lv_iinc (k := 4) (v := nI (k2 + 1)) hx hb d_Md_value_160 hl rfl (nI_add k2 1) (by decide) rfl (fun ls hl => ?_)
                    have hl : lv_has ls 7 [(2, .int (nI (k2 + 1))), (4, .int (nI (k4 + 1))), (6, .int (nI c277)), (0, .ref (ad 0)), (1, .int (nI w)), (3, .int (nI k3)), (5, .int i_5)] := hl
                    refine lv_goto hx hb d_Md_value_163 rfl ?_
                    refine lv_goto hx hb d_Md_value_268 rfl ?_
                    exact ih50 (0 * 300 + (250 - (k2 + 1))) (by omega) i_5 (k2 + 1) k3 (k4 + 1) (n1 + 1) v1 0 M419 _ _ ls rfl (show M419 0 31 = nI (n1 + 1) from q420a) (show M419 0 32 = nI v1 from (fq420 _ _ (by unfold mSg; omega)).trans ((fq417 _ _ (by unfold mIl; omega)).trans (hg_v1))) (show (k2 + 1) ≤ 201 from by first | omega | assumption | exact Or.inl rfl | exact Or.inr rfl | rfl | decide) (show k3 ≤ 200 from by first | omega | assumption | exact Or.inl rfl | exact Or.inr rfl | rfl | decide) (show (n1 + 1) ≤ (k2 + 1) from by first | omega | assumption | exact Or.inl rfl | exact Or.inr rfl | rfl | decide) (show 0 ≤ 1 from by first | omega | assumption | exact Or.inl rfl | exact Or.inr rfl | rfl | decide) (show (i_5.toInt = 1 ∧ v1 = cP PB (M419 22) (n1 + 1)) ∨ (i_5.toInt = 0 ∧ v1 = cP PB (M419 22) (n1 + 1) + 1) from by first | (have h11 : (1 : Int32).toInt = 1 := rfl; have h00 : (0 : Int32).toInt = 0 := rfl; have : cP PB (M416 22) (n1) = cP PB (Mc50 22) (n1) := cP_cong _ (fun j _ => fq417 _ _ (by unfold mIl; omega)); have : cP P40 (M416 22) (n1) = cP P40 (Mc50 22) (n1) := cP_cong _ (fun j _ => fq417 _ _ (by unfold mIl; omega)); omega)) (show (k4 + 1) ≤ cP P40 (M419 22) (n1 + 1) from by first | (have h11 : (1 : Int32).toInt = 1 := rfl; have h00 : (0 : Int32).toInt = 0 := rfl; have : cP PB (M416 22) (n1) = cP PB (Mc50 22) (n1) := cP_cong _ (fun j _ => fq417 _ _ (by unfold mIl; omega)); have : cP P40 (M416 22) (n1) = cP P40 (Mc50 22) (n1) := cP_cong _ (fun j _ => fq417 _ _ (by unfold mIl; omega)); omega)) (show 0 = 1 ∨ (M419 0 34).toInt = 1 from by first | (have := congrArg Int32.toInt (show M419 0 34 = M416 0 34 from fq420 _ _ (by unfold mSg; omega)); omega)) (show (M419 0 23 = M 0 23) ∧ (M419 0 24 = M 0 24) from by first | exact ⟨((fq420 _ _ (by unfold mSg; omega)).trans (fq417 _ _ (by unfold mIl; omega))).trans c50_7.1, ((fq420 _ _ (by unfold mSg; omega)).trans (fq417 _ _ (by unfold mIl; omega))).trans c50_7.2⟩) hP hI hF hS (lv_sub hl [3, 4, 0, 5, 1, 6] rfl)
            · have g280 : ¬ (i_5.toInt = 0) := fun q => h280 (Int32.toInt_inj.mp q)
              refine lv_iload hx hb d_Md_value_89 (lv_at hl 0 rfl) ?_
              refine lv_bipush (v := 45) hx hb d_Md_value_91 (by decide) ?_
              refine lv_icmp_eq hx hb d_Md_value_93 rfl (fun h421 => ?_) (fun h421 => ?_)
              · have g421 : ((c277 : Nat) : Int) = 45 := by have q := congrArg Int32.toInt h421; rw [nI_toInt (n := c277) (by omega)] at q; exact q
                refine lv_aload_n hx hb d_Md_value_103 rfl (lv_at hl 1 rfl) ?_
                refine lv_iload hx hb d_Md_value_104 (lv_at hl 0 rfl) ?_
                refine lv_bipush (v := 45) hx hb d_Md_value_106 (by decide) ?_
                refine lv_icmp_ne hx hb d_Md_value_108 rfl (fun h422 => ?_) (fun h422 => ?_)
                · have g422 : ¬ (((c277 : Nat) : Int) = 45) := fun q => h422 (Int32.toInt_inj.mp (by rw [nI_toInt (n := c277) (by omega)]; exact q))
                  refine lv_bipush (v := 33) hx hb d_Md_value_116 (by decide) ?_
                  refine ux_callv (va_runV ⟨hx, hb, hml, hown, hts⟩ (s_Md_sign l D ad cA A TB hA hB  Mc50 hI (n1) (hg_n1) (by omega) 33) (cwV 1 hts (tb_goodV ml_Md_360 im_Md_sign se_Md_sign ii_Md kt_Md_sign) rfl rfl rfl (by decide +kernel) ⟨Nat.le_of_ble_eq_true rfl, Nat.le_of_ble_eq_true rfl⟩) (ux_preV (by decide) rfl rfl hP hK hi hN) rfl rfl hl.1 rfl (lv_room (Nat.le_of_ble_eq_true rfl)) d_Md_value_118 ⟨Nat.zero_le _, Nat.zero_le _⟩) hS (fun M424 H locs q425 hP hS => ?_)
                  obtain ⟨hI, fq425, q425p⟩ := q425
                  have hF := fr_call hF fq425 (fun a b q => by unfold mSg at q; unfold mVa; omega)
                  obtain ⟨q425a, q425b, q425c⟩ := q425p
                  have q425d := sg_B q425b q425c
                  have q425e := sg_4 q425b q425c
                  rw [show (33 : Int32).toInt = 33 from rfl] at q425d q425e
                  have q425k : rk 33 = 7 := by decide
                  rw [q425k] at q425d
                  refine lv_iinc (k := 3) (v := nI (k2 + 1)) hx hb d_Md_value_121 hl rfl (nI_add k2 1) (by decide) rfl (fun ls hl => ?_)
                  have hl : lv_has ls 7 [(2, .int (nI (k2 + 1))), (6, .int (nI c277)), (0, .ref (ad 0)), (1, .int (nI w)), (3, .int (nI k3)), (4, .int (nI k4)), (5, .int i_5)] := hl
                  refine lv_goto hx hb d_Md_value_124 rfl ?_
                  refine lv_goto hx hb d_Md_value_268 rfl ?_
                  exact ih50 (1 * 300 + (250 - (k2 + 1))) (by omega) i_5 (k2 + 1) k3 k4 (n1 + 1) v1 1 M424 _ _ ls rfl (show M424 0 31 = nI (n1 + 1) from q425a) (show M424 0 32 = nI v1 from (fq425 _ _ (by unfold mSg; omega)).trans (hg_v1)) (show (k2 + 1) ≤ 201 from by first | omega | assumption | exact Or.inl rfl | exact Or.inr rfl | rfl | decide) (show k3 ≤ 200 from by first | omega | assumption | exact Or.inl rfl | exact Or.inr rfl | rfl | decide) (show (n1 + 1) ≤ (k2 + 1) from by first | omega | assumption | exact Or.inl rfl | exact Or.inr rfl | rfl | decide) (show 1 ≤ 1 from by first | omega | assumption | exact Or.inl rfl | exact Or.inr rfl | rfl | decide) (show (i_5.toInt = 1 ∧ v1 = cP PB (M424 22) (n1 + 1)) ∨ (i_5.toInt = 0 ∧ v1 = cP PB (M424 22) (n1 + 1) + 1) from by first | (have h11 : (1 : Int32).toInt = 1 := rfl; have h00 : (0 : Int32).toInt = 0 := rfl; omega)) (show k4 ≤ cP P40 (M424 22) (n1 + 1) from by first | (have h11 : (1 : Int32).toInt = 1 := rfl; have h00 : (0 : Int32).toInt = 0 := rfl; omega)) (show 1 = 1 ∨ (M424 0 34).toInt = 1 from by first | exact Or.inl rfl) (show (M424 0 23 = M 0 23) ∧ (M424 0 24 = M 0 24) from by first | exact ⟨(fq425 _ _ (by unfold mSg; omega)).trans c50_7.1, (fq425 _ _ (by unfold mSg; omega)).trans c50_7.2⟩) hP hI hF hS (lv_sub hl [2, 3, 0, 4, 5, 6] rfl)
                · have g422 : ((c277 : Nat) : Int) = 45 := by have q := congrArg Int32.toInt h422; rw [nI_toInt (n := c277) (by omega)] at q; exact q
                  refine lv_bipush (v := 110) hx hb d_Md_value_111 (by decide) ?_
                  refine lv_goto hx hb d_Md_value_113 rfl ?_
                  refine ux_callv (va_runV ⟨hx, hb, hml, hown, hts⟩ (s_Md_sign l D ad cA A TB hA hB  Mc50 hI (n1) (hg_n1) (by omega) 110) (cwV 1 hts (tb_goodV ml_Md_360 im_Md_sign se_Md_sign ii_Md kt_Md_sign) rfl rfl rfl (by decide +kernel) ⟨Nat.le_of_ble_eq_true rfl, Nat.le_of_ble_eq_true rfl⟩) (ux_preV (by decide) rfl rfl hP hK hi hN) rfl rfl hl.1 rfl (lv_room (Nat.le_of_ble_eq_true rfl)) d_Md_value_118 ⟨Nat.zero_le _, Nat.zero_le _⟩) hS (fun M427 H locs q428 hP hS => ?_)
                  obtain ⟨hI, fq428, q428p⟩ := q428
                  have hF := fr_call hF fq428 (fun a b q => by unfold mSg at q; unfold mVa; omega)
                  obtain ⟨q428a, q428b, q428c⟩ := q428p
                  have q428d := sg_B q428b q428c
                  have q428e := sg_4 q428b q428c
                  rw [show (110 : Int32).toInt = 110 from rfl] at q428d q428e
                  have q428k : rk 110 = 7 := by decide
                  rw [q428k] at q428d
                  refine lv_iinc (k := 3) (v := nI (k2 + 1)) hx hb d_Md_value_121 hl rfl (nI_add k2 1) (by decide) rfl (fun ls hl => ?_)
                  have hl : lv_has ls 7 [(2, .int (nI (k2 + 1))), (6, .int (nI c277)), (0, .ref (ad 0)), (1, .int (nI w)), (3, .int (nI k3)), (4, .int (nI k4)), (5, .int i_5)] := hl
                  refine lv_goto hx hb d_Md_value_124 rfl ?_
                  refine lv_goto hx hb d_Md_value_268 rfl ?_
                  exact ih50 (1 * 300 + (250 - (k2 + 1))) (by omega) i_5 (k2 + 1) k3 k4 (n1 + 1) v1 1 M427 _ _ ls rfl (show M427 0 31 = nI (n1 + 1) from q428a) (show M427 0 32 = nI v1 from (fq428 _ _ (by unfold mSg; omega)).trans (hg_v1)) (show (k2 + 1) ≤ 201 from by first | omega | assumption | exact Or.inl rfl | exact Or.inr rfl | rfl | decide) (show k3 ≤ 200 from by first | omega | assumption | exact Or.inl rfl | exact Or.inr rfl | rfl | decide) (show (n1 + 1) ≤ (k2 + 1) from by first | omega | assumption | exact Or.inl rfl | exact Or.inr rfl | rfl | decide) (show 1 ≤ 1 from by first | omega | assumption | exact Or.inl rfl | exact Or.inr rfl | rfl | decide) (show (i_5.toInt = 1 ∧ v1 = cP PB (M427 22) (n1 + 1)) ∨ (i_5.toInt = 0 ∧ v1 = cP PB (M427 22) (n1 + 1) + 1) from by first | (have h11 : (1 : Int32).toInt = 1 := rfl; have h00 : (0 : Int32).toInt = 0 := rfl; omega)) (show k4 ≤ cP P40 (M427 22) (n1 + 1) from by first | (have h11 : (1 : Int32).toInt = 1 := rfl; have h00 : (0 : Int32).toInt = 0 := rfl; omega)) (show 1 = 1 ∨ (M427 0 34).toInt = 1 from by first | exact Or.inl rfl) (show (M427 0 23 = M 0 23) ∧ (M427 0 24 = M 0 24) from by first | exact ⟨(fq428 _ _ (by unfold mSg; omega)).trans c50_7.1, (fq428 _ _ (by unfold mSg; omega)).trans c50_7.2⟩) hP hI hF hS (lv_sub hl [2, 3, 0, 4, 5, 6] rfl)
              · have g421 : ¬ (((c277 : Nat) : Int) = 45) := fun q => h421 (Int32.toInt_inj.mp (by rw [nI_toInt (n := c277) (by omega)]; exact q))
                refine lv_iload hx hb d_Md_value_96 (lv_at hl 0 rfl) ?_
                refine lv_bipush (v := 33) hx hb d_Md_value_98 (by decide) ?_
                refine lv_icmp_ne hx hb d_Md_value_100 rfl (fun h429 => ?_) (fun h429 => ?_)
                · have g429 : ¬ (((c277 : Nat) : Int) = 33) := fun q => h429 (Int32.toInt_inj.mp (by rw [nI_toInt (n := c277) (by omega)]; exact q))
                  refine lv_iload hx hb d_Md_value_127 (lv_at hl 6 rfl) ?_
                  refine lv_if_eq hx hb d_Md_value_129 rfl (fun h430 => ?_) (fun h430 => ?_)
                  · have g430 : i_5.toInt = 0 := congrArg Int32.toInt h430
                    refine lv_iload hx hb d_Md_value_166 (lv_at hl 6 rfl) ?_
                    refine lv_if_eq hx hb d_Md_value_168 rfl (fun h431 => ?_) (fun h431 => ?_)
                    · have g431 : i_5.toInt = 0 := congrArg Int32.toInt h431
                      refine lv_iload hx hb d_Md_value_184 (lv_at hl 0 rfl) ?_
                      refine lv_bipush (v := 41) hx hb d_Md_value_186 (by decide) ?_
                      refine lv_icmp_ne hx hb d_Md_value_188 rfl (fun h432 => ?_) (fun h432 => ?_)
                      · have g432 : ¬ (((c277 : Nat) : Int) = 41) := fun q => h432 (Int32.toInt_inj.mp (by rw [nI_toInt (n := c277) (by omega)]; exact q))
                        refine lv_iload hx hb d_Md_value_220 (lv_at hl 0 rfl) ?_
                        refine ux_calli (va_runS ⟨hx, hb, hml, hown, hts⟩ (s_Md_rankOf l D ad cA A TB hA hB  Mc50 hI (nI c277)) (va_cwS 1 hts (tb_goodST ml_Md_348 sm_Md_rankOf ii_Md kt_Md_rankOf) rfl rfl rfl (by decide +kernel) ⟨Nat.le_of_ble_eq_true rfl, Nat.le_of_ble_eq_true rfl⟩) (ux_pre hP hK hi hN) rfl rfl hl.1 rfl (lv_room (Nat.le_of_ble_eq_true rfl)) d_Md_value_222 ⟨Nat.zero_le _, Nat.zero_le _⟩) hS (fun r433 M434 H locs q435 hP hS => ?_)
                        obtain ⟨hI, fq435, q435p⟩ := q435
                        rw [tN_eq fq435] at hP hI
                        refine lv_iconst (v := 1) hx hb d_Md_value_225 (by decide) ?_
                        refine lv_icmp_le hx hb d_Md_value_226 rfl (fun h436 => ?_) (fun h436 => ?_)
                        · have g436 : r433.toInt ≤ 1 := Int32.le_iff_toInt_le.mp h436
                          have w436 := ti_lo r433
                          refine lv_aload_n hx hb d_Md_value_263 rfl (lv_at hl 1 rfl) ?_
                          refine lv_iconst (v := 1) hx hb d_Md_value_264 (by decide) ?_
                          refine ux_callv (va_runV ⟨hx, hb, hml, hown, hts⟩ (s_Md_ill l D ad cA A TB hA hB  Mc50 hI 1) (cwV 1 hts (tb_goodV ml_Md_354 im_Md_ill se_Md_ill ii_Md kt_Md_ill) rfl rfl rfl (by decide +kernel) ⟨Nat.le_of_ble_eq_true rfl, Nat.le_of_ble_eq_true rfl⟩) (ux_preV (by decide) rfl rfl hP hK hi hN) rfl rfl hl.1 rfl (lv_room (Nat.le_of_ble_eq_true rfl)) d_Md_value_265 ⟨Nat.zero_le _, Nat.zero_le _⟩) hS (fun M438 H locs q439 hP hS => ?_)
                          obtain ⟨hI, fq439, q439p⟩ := q439
                          have hF := fr_call hF fq439 (fun a b q => by unfold mIl at q; unfold mVa; omega)
                          rw [show (1 : Int32).toInt = 1 from rfl] at q439p
                          refine lv_goto hx hb d_Md_value_268 rfl ?_
                          exact ih50 (0 * 300 + (250 - k2)) (by omega) i_5 k2 k3 k4 n1 v1 0 M438 _ _ ls rfl (show M438 0 31 = nI n1 from (fq439 _ _ (by unfold mIl; omega)).trans (hg_n1)) (show M438 0 32 = nI v1 from (fq439 _ _ (by unfold mIl; omega)).trans (hg_v1)) (show k2 ≤ 201 from by first | omega | assumption | exact Or.inl rfl | exact Or.inr rfl | rfl | decide) (show k3 ≤ 200 from by first | omega | assumption | exact Or.inl rfl | exact Or.inr rfl | rfl | decide) (show n1 ≤ k2 from by first | omega | assumption | exact Or.inl rfl | exact Or.inr rfl | rfl | decide) (show 0 ≤ 1 from by first | omega | assumption | exact Or.inl rfl | exact Or.inr rfl | rfl | decide) (show (i_5.toInt = 1 ∧ v1 = cP PB (M438 22) n1) ∨ (i_5.toInt = 0 ∧ v1 = cP PB (M438 22) n1 + 1) from by first | (have h11 : (1 : Int32).toInt = 1 := rfl; have h00 : (0 : Int32).toInt = 0 := rfl; have : cP PB (M438 22) (n1) = cP PB (Mc50 22) (n1) := cP_cong _ (fun j _ => fq439 _ _ (by unfold mIl; omega)); have : cP P40 (M438 22) (n1) = cP P40 (Mc50 22) (n1) := cP_cong _ (fun j _ => fq439 _ _ (by unfold mIl; omega)); omega)) (show k4 ≤ cP P40 (M438 22) n1 from by first | (have h11 : (1 : Int32).toInt = 1 := rfl; have h00 : (0 : Int32).toInt = 0 := rfl; have : cP PB (M438 22) (n1) = cP PB (Mc50 22) (n1) := cP_cong _ (fun j _ => fq439 _ _ (by unfold mIl; omega)); have : cP P40 (M438 22) (n1) = cP P40 (Mc50 22) (n1) := cP_cong _ (fun j _ => fq439 _ _ (by unfold mIl; omega)); omega)) (show 0 = 1 ∨ (M438 0 34).toInt = 1 from by first | (omega)) (show (M438 0 23 = M 0 23) ∧ (M438 0 24 = M 0 24) from by first | exact ⟨(fq439 _ _ (by unfold mIl; omega)).trans c50_7.1, (fq439 _ _ (by unfold mIl; omega)).trans c50_7.2⟩) hP hI hF hS (lv_sub hl [1, 2, 3, 4, 5, 6] rfl)
                        · have g436 : ¬ (r433.toInt ≤ 1) := fun q => h436 (Int32.le_iff_toInt_le.mpr q)
                          have u436 := ti_hi r433
                          refine lv_iload hx hb d_Md_value_229 (lv_at hl 0 rfl) ?_
                          refine ux_calli (va_runS ⟨hx, hb, hml, hown, hts⟩ (s_Md_rankOf l D ad cA A TB hA hB  Mc50 hI (nI c277)) (va_cwS 1 hts (tb_goodST ml_Md_348 sm_Md_rankOf ii_Md kt_Md_rankOf) rfl rfl rfl (by decide +kernel) ⟨Nat.le_of_ble_eq_true rfl, Nat.le_of_ble_eq_true rfl⟩) (ux_pre hP hK hi hN) rfl rfl hl.1 rfl (lv_room (Nat.le_of_ble_eq_true rfl)) d_Md_value_231 ⟨Nat.zero_le _, Nat.zero_le _⟩) hS (fun r440 M441 H locs q442 hP hS => ?_)
                          obtain ⟨hI, fq442, q442p⟩ := q442
                          rw [tN_eq fq442] at hP hI
                          refine lv_bipush (v := 7) hx hb d_Md_value_234 (by decide) ?_
                          refine lv_icmp_ge hx hb d_Md_value_236 rfl (fun h443 => ?_) (fun h443 => ?_)
                          · have g443 : 7 ≤ r440.toInt := Int32.le_iff_toInt_le.mp h443
                            have u443 := ti_hi r440
                            refine lv_aload_n hx hb d_Md_value_263 rfl (lv_at hl 1 rfl) ?_
                            refine lv_iconst (v := 1) hx hb d_Md_value_264 (by decide) ?_
                            refine ux_callv (va_runV ⟨hx, hb, hml, hown, hts⟩ (s_Md_ill l D ad cA A TB hA hB  Mc50 hI 1) (cwV 1 hts (tb_goodV ml_Md_354 im_Md_ill se_Md_ill ii_Md kt_Md_ill) rfl rfl rfl (by decide +kernel) ⟨Nat.le_of_ble_eq_true rfl, Nat.le_of_ble_eq_true rfl⟩) (ux_preV (by decide) rfl rfl hP hK hi hN) rfl rfl hl.1 rfl (lv_room (Nat.le_of_ble_eq_true rfl)) d_Md_value_265 ⟨Nat.zero_le _, Nat.zero_le _⟩) hS (fun M445 H locs q446 hP hS => ?_)
                            obtain ⟨hI, fq446, q446p⟩ := q446
                            have hF := fr_call hF fq446 (fun a b q => by unfold mIl at q; unfold mVa; omega)
                            rw [show (1 : Int32).toInt = 1 from rfl] at q446p
                            refine lv_goto hx hb d_Md_value_268 rfl ?_
                            exact ih50 (0 * 300 + (250 - k2)) (by omega) i_5 k2 k3 k4 n1 v1 0 M445 _ _ ls rfl (show M445 0 31 = nI n1 from (fq446 _ _ (by unfold mIl; omega)).trans (hg_n1)) (show M445 0 32 = nI v1 from (fq446 _ _ (by unfold mIl; omega)).trans (hg_v1)) (show k2 ≤ 201 from by first | omega | assumption | exact Or.inl rfl | exact Or.inr rfl | rfl | decide) (show k3 ≤ 200 from by first | omega | assumption | exact Or.inl rfl | exact Or.inr rfl | rfl | decide) (show n1 ≤ k2 from by first | omega | assumption | exact Or.inl rfl | exact Or.inr rfl | rfl | decide) (show 0 ≤ 1 from by first | omega | assumption | exact Or.inl rfl | exact Or.inr rfl | rfl | decide) (show (i_5.toInt = 1 ∧ v1 = cP PB (M445 22) n1) ∨ (i_5.toInt = 0 ∧ v1 = cP PB (M445 22) n1 + 1) from by first | (have h11 : (1 : Int32).toInt = 1 := rfl; have h00 : (0 : Int32).toInt = 0 := rfl; have : cP PB (M445 22) (n1) = cP PB (Mc50 22) (n1) := cP_cong _ (fun j _ => fq446 _ _ (by unfold mIl; omega)); have : cP P40 (M445 22) (n1) = cP P40 (Mc50 22) (n1) := cP_cong _ (fun j _ => fq446 _ _ (by unfold mIl; omega)); omega)) (show k4 ≤ cP P40 (M445 22) n1 from by first | (have h11 : (1 : Int32).toInt = 1 := rfl; have h00 : (0 : Int32).toInt = 0 := rfl; have : cP PB (M445 22) (n1) = cP PB (Mc50 22) (n1) := cP_cong _ (fun j _ => fq446 _ _ (by unfold mIl; omega)); have : cP P40 (M445 22) (n1) = cP P40 (Mc50 22) (n1) := cP_cong _ (fun j _ => fq446 _ _ (by unfold mIl; omega)); omega)) (show 0 = 1 ∨ (M445 0 34).toInt = 1 from by first | (omega)) (show (M445 0 23 = M 0 23) ∧ (M445 0 24 = M 0 24) from by first | exact ⟨(fq446 _ _ (by unfold mIl; omega)).trans c50_7.1, (fq446 _ _ (by unfold mIl; omega)).trans c50_7.2⟩) hP hI hF hS (lv_sub hl [1, 2, 3, 4, 5, 6] rfl)
                          · have g443 : ¬ (7 ≤ r440.toInt) := fun q => h443 (Int32.le_iff_toInt_le.mpr q)
                            have w443 := ti_lo r440
                            refine lv_aload_n hx hb d_Md_value_239 rfl (lv_at hl 1 rfl) ?_
                            refine lv_iload hx hb d_Md_value_240 (lv_at hl 0 rfl) ?_
                            refine ux_calli (va_runS ⟨hx, hb, hml, hown, hts⟩ (s_Md_rankOf l D ad cA A TB hA hB  Mc50 hI (nI c277)) (va_cwS 1 hts (tb_goodST ml_Md_348 sm_Md_rankOf ii_Md kt_Md_rankOf) rfl rfl rfl (by decide +kernel) ⟨Nat.le_of_ble_eq_true rfl, Nat.le_of_ble_eq_true rfl⟩) (ux_pre hP hK hi hN) rfl rfl hl.1 rfl (lv_room (Nat.le_of_ble_eq_true rfl)) d_Md_value_242 ⟨Nat.zero_le _, Nat.zero_le _⟩) hS (fun r447 M448 H locs q449 hP hS => ?_)
                            obtain ⟨hI, fq449, q449p⟩ := q449
                            rw [tN_eq fq449] at hP hI
                            refine ux_callv (va_runV ⟨hx, hb, hml, hown, hts⟩ (s_Md_applyFrom l D ad cA A TB hA hB  Mc50 hI n1 v1 (hg_n1) (hg_v1) (by omega) (by omega) (by omega) r447 (by omega)) (cwV 1 hts (tb_goodV ml_Md_367 im_Md_applyFrom se_Md_applyFrom ii_Md kt_Md_applyFrom) rfl rfl rfl (by decide +kernel) ⟨Nat.le_of_ble_eq_true rfl, Nat.le_of_ble_eq_true rfl⟩) (ux_preV (by decide) rfl rfl hP hK hi hN) rfl rfl hl.1 rfl (lv_room (Nat.le_of_ble_eq_true rfl)) d_Md_value_245 ⟨Nat.zero_le _, Nat.zero_le _⟩) hS (fun M451 H locs q452 hP hS => ?_)
                            obtain ⟨hI, fq452, q452p⟩ := q452
                            have hF := fr_call hF fq452 (fun a b q => by unfold mAp at q; unfold mVa; omega)
                            obtain ⟨n453, v454, hn453a, hv454a, hn453b, hv454b, hv454c, hn453d, hn453e⟩ := q452p
                            have hn453r : ∀ j, M451 22 j = Mc50 22 j := fun j => fq452 _ _ (by unfold mAp; omega)
                            have hn453B : cP PB (M451 22) n453 = cP PB (Mc50 22) n453 := cP_cong _ (fun j _ => hn453r j)
                            have hn4534 : cP P40 (M451 22) n453 = cP P40 (Mc50 22) n453 := cP_cong _ (fun j _ => hn453r j)
                            have hn453l := cP_le (P := P40) (f := Mc50 22) n453
                            have hn453t := congrArg rk (congrArg Int32.toInt (hn453r (n453 - 1)))
                            refine lv_aload_n hx hb d_Md_value_248 rfl (lv_at hl 1 rfl) ?_
                            refine lv_iload hx hb d_Md_value_249 (lv_at hl 0 rfl) ?_
                            refine ux_callv (va_runV ⟨hx, hb, hml, hown, hts⟩ (s_Md_sign l D ad cA A TB hA hB  M451 hI (n453) (hn453a) (by omega) (nI c277)) (cwV 1 hts (tb_goodV ml_Md_360 im_Md_sign se_Md_sign ii_Md kt_Md_sign) rfl rfl rfl (by decide +kernel) ⟨Nat.le_of_ble_eq_true rfl, Nat.le_of_ble_eq_true rfl⟩) (ux_preV (by decide) rfl rfl hP hK hi hN) rfl rfl hl.1 rfl (lv_room (Nat.le_of_ble_eq_true rfl)) d_Md_value_251 ⟨Nat.zero_le _, Nat.zero_le _⟩) hS (fun M456 H locs q457 hP hS => ?_)
                            obtain ⟨hI, fq457, q457p⟩ := q457
                            have hF := fr_call hF fq457 (fun a b q => by unfold mSg at q; unfold mVa; omega)
                            obtain ⟨q457a, q457b, q457c⟩ := q457p
                            have q457d := sg_B q457b q457c
                            have q457e := sg_4 q457b q457c
                            refine lv_iconst (v := 1) hx hb d_Md_value_254 (by decide) ?_
                            refine lv_istore hx hb d_Md_value_255 hl (by decide) rfl (fun ls hl => ?_)
                            have hl : lv_has ls 7 [(5, .int 1), (6, .int (nI c277)), (0, .ref (ad 0)), (1, .int (nI w)), (2, .int (nI k2)), (3, .int (nI k3)), (4, .int (nI k4))] := hl
                            refine lv_iinc (k := 4) (v := nI (k2 + 1)) hx hb d_Md_value_257 hl rfl (nI_add k2 1) (by decide) rfl (fun ls hl => ?_)
                            have hl : lv_has ls 7 [(2, .int (nI (k2 + 1))), (5, .int 1), (6, .int (nI c277)), (0, .ref (ad 0)), (1, .int (nI w)), (3, .int (nI k3)), (4, .int (nI k4))] := hl
                            refine lv_goto hx hb d_Md_value_260 rfl ?_
                            refine lv_goto hx hb d_Md_value_268 rfl ?_
                            exact ih50 (1 * 300 + (250 - (k2 + 1))) (by omega) 1 (k2 + 1) k3 k4 (n453 + 1) v454 1 M456 _ _ ls rfl (show M456 0 31 = nI (n453 + 1) from q457a) (show M456 0 32 = nI v454 from (fq457 _ _ (by unfold mSg; omega)).trans (hv454a)) (show (k2 + 1) ≤ 201 from by first | omega | assumption | exact Or.inl rfl | exact Or.inr rfl | rfl | decide) (show k3 ≤ 200 from by first | omega | assumption | exact Or.inl rfl | exact Or.inr rfl | rfl | decide) (show (n453 + 1) ≤ (k2 + 1) from by first | omega | assumption | exact Or.inl rfl | exact Or.inr rfl | rfl | decide) (show 1 ≤ 1 from by first | omega | assumption | exact Or.inl rfl | exact Or.inr rfl | rfl | decide) (show (1 = 1 ∧ v454 = cP PB (M456 22) (n453 + 1)) ∨ (1 = 0 ∧ v454 = cP PB (M456 22) (n453 + 1) + 1) from by first | (have h11 : (1 : Int32).toInt = 1 := rfl; have h00 : (0 : Int32).toInt = 0 := rfl; omega)) (show k4 ≤ cP P40 (M456 22) (n453 + 1) from by first | (have h11 : (1 : Int32).toInt = 1 := rfl; have h00 : (0 : Int32).toInt = 0 := rfl; omega)) (show 1 = 1 ∨ (M456 0 34).toInt = 1 from by first | exact Or.inl rfl) (show (M456 0 23 = M 0 23) ∧ (M456 0 24 = M 0 24) from by first | exact ⟨((fq457 _ _ (by unfold mSg; omega)).trans (fq452 _ _ (by unfold mAp; omega))).trans c50_7.1, ((fq457 _ _ (by unfold mSg; omega)).trans (fq452 _ _ (by unfold mAp; omega))).trans c50_7.2⟩) hP hI hF hS (lv_sub hl [3, 4, 0, 5, 6, 1] rfl)
                      · have g432 : ((c277 : Nat) : Int) = 41 := by have q := congrArg Int32.toInt h432; rw [nI_toInt (n := c277) (by omega)] at q; exact q
                        refine lv_iload hx hb d_Md_value_191 (lv_at hl 5 rfl) ?_
                        refine lv_if_le hx hb d_Md_value_193 rfl (fun h458 => ?_) (fun h458 => ?_)
                        · have g458 : ((k4 : Nat) : Int) ≤ 0 := by have q := Int32.le_iff_toInt_le.mp h458; rw [nI_toInt (n := k4) (by omega)] at q; exact q
                          refine lv_iload hx hb d_Md_value_220 (lv_at hl 0 rfl) ?_
                          refine ux_calli (va_runS ⟨hx, hb, hml, hown, hts⟩ (s_Md_rankOf l D ad cA A TB hA hB  Mc50 hI (nI c277)) (va_cwS 1 hts (tb_goodST ml_Md_348 sm_Md_rankOf ii_Md kt_Md_rankOf) rfl rfl rfl (by decide +kernel) ⟨Nat.le_of_ble_eq_true rfl, Nat.le_of_ble_eq_true rfl⟩) (ux_pre hP hK hi hN) rfl rfl hl.1 rfl (lv_room (Nat.le_of_ble_eq_true rfl)) d_Md_value_222 ⟨Nat.zero_le _, Nat.zero_le _⟩) hS (fun r459 M460 H locs q461 hP hS => ?_)
                          obtain ⟨hI, fq461, q461p⟩ := q461
                          rw [tN_eq fq461] at hP hI
                          refine lv_iconst (v := 1) hx hb d_Md_value_225 (by decide) ?_
                          refine lv_icmp_le hx hb d_Md_value_226 rfl (fun h462 => ?_) (fun h462 => ?_)
                          · have g462 : r459.toInt ≤ 1 := Int32.le_iff_toInt_le.mp h462
                            have w462 := ti_lo r459
                            refine lv_aload_n hx hb d_Md_value_263 rfl (lv_at hl 1 rfl) ?_
                            refine lv_iconst (v := 1) hx hb d_Md_value_264 (by decide) ?_
                            refine ux_callv (va_runV ⟨hx, hb, hml, hown, hts⟩ (s_Md_ill l D ad cA A TB hA hB  Mc50 hI 1) (cwV 1 hts (tb_goodV ml_Md_354 im_Md_ill se_Md_ill ii_Md kt_Md_ill) rfl rfl rfl (by decide +kernel) ⟨Nat.le_of_ble_eq_true rfl, Nat.le_of_ble_eq_true rfl⟩) (ux_preV (by decide) rfl rfl hP hK hi hN) rfl rfl hl.1 rfl (lv_room (Nat.le_of_ble_eq_true rfl)) d_Md_value_265 ⟨Nat.zero_le _, Nat.zero_le _⟩) hS (fun M464 H locs q465 hP hS => ?_)
                            obtain ⟨hI, fq465, q465p⟩ := q465
                            have hF := fr_call hF fq465 (fun a b q => by unfold mIl at q; unfold mVa; omega)
                            rw [show (1 : Int32).toInt = 1 from rfl] at q465p
                            refine lv_goto hx hb d_Md_value_268 rfl ?_
                            exact ih50 (0 * 300 + (250 - k2)) (by omega) i_5 k2 k3 k4 n1 v1 0 M464 _ _ ls rfl (show M464 0 31 = nI n1 from (fq465 _ _ (by unfold mIl; omega)).trans (hg_n1)) (show M464 0 32 = nI v1 from (fq465 _ _ (by unfold mIl; omega)).trans (hg_v1)) (show k2 ≤ 201 from by first | omega | assumption | exact Or.inl rfl | exact Or.inr rfl | rfl | decide) (show k3 ≤ 200 from by first | omega | assumption | exact Or.inl rfl | exact Or.inr rfl | rfl | decide) (show n1 ≤ k2 from by first | omega | assumption | exact Or.inl rfl | exact Or.inr rfl | rfl | decide) (show 0 ≤ 1 from by first | omega | assumption | exact Or.inl rfl | exact Or.inr rfl | rfl | decide) (show (i_5.toInt = 1 ∧ v1 = cP PB (M464 22) n1) ∨ (i_5.toInt = 0 ∧ v1 = cP PB (M464 22) n1 + 1) from by first | (have h11 : (1 : Int32).toInt = 1 := rfl; have h00 : (0 : Int32).toInt = 0 := rfl; have : cP PB (M464 22) (n1) = cP PB (Mc50 22) (n1) := cP_cong _ (fun j _ => fq465 _ _ (by unfold mIl; omega)); have : cP P40 (M464 22) (n1) = cP P40 (Mc50 22) (n1) := cP_cong _ (fun j _ => fq465 _ _ (by unfold mIl; omega)); omega)) (show k4 ≤ cP P40 (M464 22) n1 from by first | (have h11 : (1 : Int32).toInt = 1 := rfl; have h00 : (0 : Int32).toInt = 0 := rfl; have : cP PB (M464 22) (n1) = cP PB (Mc50 22) (n1) := cP_cong _ (fun j _ => fq465 _ _ (by unfold mIl; omega)); have : cP P40 (M464 22) (n1) = cP P40 (Mc50 22) (n1) := cP_cong _ (fun j _ => fq465 _ _ (by unfold mIl; omega)); omega)) (show 0 = 1 ∨ (M464 0 34).toInt = 1 from by first | (omega)) (show (M464 0 23 = M 0 23) ∧ (M464 0 24 = M 0 24) from by first | exact ⟨(fq465 _ _ (by unfold mIl; omega)).trans c50_7.1, (fq465 _ _ (by unfold mIl; omega)).trans c50_7.2⟩) hP hI hF hS (lv_sub hl [1, 2, 3, 4, 5, 6] rfl)
                          · have g462 : ¬ (r459.toInt ≤ 1) := fun q => h462 (Int32.le_iff_toInt_le.mpr q)
                            have u462 := ti_hi r459
                            refine lv_iload hx hb d_Md_value_229 (lv_at hl 0 rfl) ?_
                            refine ux_calli (va_runS ⟨hx, hb, hml, hown, hts⟩ (s_Md_rankOf l D ad cA A TB hA hB  Mc50 hI (nI c277)) (va_cwS 1 hts (tb_goodST ml_Md_348 sm_Md_rankOf ii_Md kt_Md_rankOf) rfl rfl rfl (by decide +kernel) ⟨Nat.le_of_ble_eq_true rfl, Nat.le_of_ble_eq_true rfl⟩) (ux_pre hP hK hi hN) rfl rfl hl.1 rfl (lv_room (Nat.le_of_ble_eq_true rfl)) d_Md_value_231 ⟨Nat.zero_le _, Nat.zero_le _⟩) hS (fun r466 M467 H locs q468 hP hS => ?_)
                            obtain ⟨hI, fq468, q468p⟩ := q468
                            rw [tN_eq fq468] at hP hI
                            refine lv_bipush (v := 7) hx hb d_Md_value_234 (by decide) ?_
                            refine lv_icmp_ge hx hb d_Md_value_236 rfl (fun h469 => ?_) (fun h469 => ?_)
                            · have g469 : 7 ≤ r466.toInt := Int32.le_iff_toInt_le.mp h469
                              have u469 := ti_hi r466
                              refine lv_aload_n hx hb d_Md_value_263 rfl (lv_at hl 1 rfl) ?_
                              refine lv_iconst (v := 1) hx hb d_Md_value_264 (by decide) ?_
                              refine ux_callv (va_runV ⟨hx, hb, hml, hown, hts⟩ (s_Md_ill l D ad cA A TB hA hB  Mc50 hI 1) (cwV 1 hts (tb_goodV ml_Md_354 im_Md_ill se_Md_ill ii_Md kt_Md_ill) rfl rfl rfl (by decide +kernel) ⟨Nat.le_of_ble_eq_true rfl, Nat.le_of_ble_eq_true rfl⟩) (ux_preV (by decide) rfl rfl hP hK hi hN) rfl rfl hl.1 rfl (lv_room (Nat.le_of_ble_eq_true rfl)) d_Md_value_265 ⟨Nat.zero_le _, Nat.zero_le _⟩) hS (fun M471 H locs q472 hP hS => ?_)
                              obtain ⟨hI, fq472, q472p⟩ := q472
                              have hF := fr_call hF fq472 (fun a b q => by unfold mIl at q; unfold mVa; omega)
                              rw [show (1 : Int32).toInt = 1 from rfl] at q472p
                              refine lv_goto hx hb d_Md_value_268 rfl ?_
                              exact ih50 (0 * 300 + (250 - k2)) (by omega) i_5 k2 k3 k4 n1 v1 0 M471 _ _ ls rfl (show M471 0 31 = nI n1 from (fq472 _ _ (by unfold mIl; omega)).trans (hg_n1)) (show M471 0 32 = nI v1 from (fq472 _ _ (by unfold mIl; omega)).trans (hg_v1)) (show k2 ≤ 201 from by first | omega | assumption | exact Or.inl rfl | exact Or.inr rfl | rfl | decide) (show k3 ≤ 200 from by first | omega | assumption | exact Or.inl rfl | exact Or.inr rfl | rfl | decide) (show n1 ≤ k2 from by first | omega | assumption | exact Or.inl rfl | exact Or.inr rfl | rfl | decide) (show 0 ≤ 1 from by first | omega | assumption | exact Or.inl rfl | exact Or.inr rfl | rfl | decide) (show (i_5.toInt = 1 ∧ v1 = cP PB (M471 22) n1) ∨ (i_5.toInt = 0 ∧ v1 = cP PB (M471 22) n1 + 1) from by first | (have h11 : (1 : Int32).toInt = 1 := rfl; have h00 : (0 : Int32).toInt = 0 := rfl; have : cP PB (M471 22) (n1) = cP PB (Mc50 22) (n1) := cP_cong _ (fun j _ => fq472 _ _ (by unfold mIl; omega)); have : cP P40 (M471 22) (n1) = cP P40 (Mc50 22) (n1) := cP_cong _ (fun j _ => fq472 _ _ (by unfold mIl; omega)); omega)) (show k4 ≤ cP P40 (M471 22) n1 from by first | (have h11 : (1 : Int32).toInt = 1 := rfl; have h00 : (0 : Int32).toInt = 0 := rfl; have : cP PB (M471 22) (n1) = cP PB (Mc50 22) (n1) := cP_cong _ (fun j _ => fq472 _ _ (by unfold mIl; omega)); have : cP P40 (M471 22) (n1) = cP P40 (Mc50 22) (n1) := cP_cong _ (fun j _ => fq472 _ _ (by unfold mIl; omega)); omega)) (show 0 = 1 ∨ (M471 0 34).toInt = 1 from by first | (omega)) (show (M471 0 23 = M 0 23) ∧ (M471 0 24 = M 0 24) from by first | exact ⟨(fq472 _ _ (by unfold mIl; omega)).trans c50_7.1, (fq472 _ _ (by unfold mIl; omega)).trans c50_7.2⟩) hP hI hF hS (lv_sub hl [1, 2, 3, 4, 5, 6] rfl)
                            · have g469 : ¬ (7 ≤ r466.toInt) := fun q => h469 (Int32.le_iff_toInt_le.mpr q)
                              have w469 := ti_lo r466
                              refine lv_aload_n hx hb d_Md_value_239 rfl (lv_at hl 1 rfl) ?_
                              refine lv_iload hx hb d_Md_value_240 (lv_at hl 0 rfl) ?_
                              refine ux_calli (va_runS ⟨hx, hb, hml, hown, hts⟩ (s_Md_rankOf l D ad cA A TB hA hB  Mc50 hI (nI c277)) (va_cwS 1 hts (tb_goodST ml_Md_348 sm_Md_rankOf ii_Md kt_Md_rankOf) rfl rfl rfl (by decide +kernel) ⟨Nat.le_of_ble_eq_true rfl, Nat.le_of_ble_eq_true rfl⟩) (ux_pre hP hK hi hN) rfl rfl hl.1 rfl (lv_room (Nat.le_of_ble_eq_true rfl)) d_Md_value_242 ⟨Nat.zero_le _, Nat.zero_le _⟩) hS (fun r473 M474 H locs q475 hP hS => ?_)
                              obtain ⟨hI, fq475, q475p⟩ := q475
                              rw [tN_eq fq475] at hP hI
                              refine ux_callv (va_runV ⟨hx, hb, hml, hown, hts⟩ (s_Md_applyFrom l D ad cA A TB hA hB  Mc50 hI n1 v1 (hg_n1) (hg_v1) (by omega) (by omega) (by omega) r473 (by omega)) (cwV 1 hts (tb_goodV ml_Md_367 im_Md_applyFrom se_Md_applyFrom ii_Md kt_Md_applyFrom) rfl rfl rfl (by decide +kernel) ⟨Nat.le_of_ble_eq_true rfl, Nat.le_of_ble_eq_true rfl⟩) (ux_preV (by decide) rfl rfl hP hK hi hN) rfl rfl hl.1 rfl (lv_room (Nat.le_of_ble_eq_true rfl)) d_Md_value_245 ⟨Nat.zero_le _, Nat.zero_le _⟩) hS (fun M477 H locs q478 hP hS => ?_)
                              obtain ⟨hI, fq478, q478p⟩ := q478
                              have hF := fr_call hF fq478 (fun a b q => by unfold mAp at q; unfold mVa; omega)
                              obtain ⟨n479, v480, hn479a, hv480a, hn479b, hv480b, hv480c, hn479d, hn479e⟩ := q478p
                              have hn479r : ∀ j, M477 22 j = Mc50 22 j := fun j => fq478 _ _ (by unfold mAp; omega)
                              have hn479B : cP PB (M477 22) n479 = cP PB (Mc50 22) n479 := cP_cong _ (fun j _ => hn479r j)
                              have hn4794 : cP P40 (M477 22) n479 = cP P40 (Mc50 22) n479 := cP_cong _ (fun j _ => hn479r j)
                              have hn479l := cP_le (P := P40) (f := Mc50 22) n479
                              have hn479t := congrArg rk (congrArg Int32.toInt (hn479r (n479 - 1)))
                              refine lv_aload_n hx hb d_Md_value_248 rfl (lv_at hl 1 rfl) ?_
                              refine lv_iload hx hb d_Md_value_249 (lv_at hl 0 rfl) ?_
                              refine ux_callv (va_runV ⟨hx, hb, hml, hown, hts⟩ (s_Md_sign l D ad cA A TB hA hB  M477 hI (n479) (hn479a) (by omega) (nI c277)) (cwV 1 hts (tb_goodV ml_Md_360 im_Md_sign se_Md_sign ii_Md kt_Md_sign) rfl rfl rfl (by decide +kernel) ⟨Nat.le_of_ble_eq_true rfl, Nat.le_of_ble_eq_true rfl⟩) (ux_preV (by decide) rfl rfl hP hK hi hN) rfl rfl hl.1 rfl (lv_room (Nat.le_of_ble_eq_true rfl)) d_Md_value_251 ⟨Nat.zero_le _, Nat.zero_le _⟩) hS (fun M482 H locs q483 hP hS => ?_)
                              obtain ⟨hI, fq483, q483p⟩ := q483
                              have hF := fr_call hF fq483 (fun a b q => by unfold mSg at q; unfold mVa; omega)
                              obtain ⟨q483a, q483b, q483c⟩ := q483p
                              have q483d := sg_B q483b q483c
                              have q483e := sg_4 q483b q483c
                              refine lv_iconst (v := 1) hx hb d_Md_value_254 (by decide) ?_
                              refine lv_istore hx hb d_Md_value_255 hl (by decide) rfl (fun ls hl => ?_)
                              have hl : lv_has ls 7 [(5, .int 1), (6, .int (nI c277)), (0, .ref (ad 0)), (1, .int (nI w)), (2, .int (nI k2)), (3, .int (nI k3)), (4, .int (nI k4))] := hl
                              refine lv_iinc (k := 4) (v := nI (k2 + 1)) hx hb d_Md_value_257 hl rfl (nI_add k2 1) (by decide) rfl (fun ls hl => ?_)
                              have hl : lv_has ls 7 [(2, .int (nI (k2 + 1))), (5, .int 1), (6, .int (nI c277)), (0, .ref (ad 0)), (1, .int (nI w)), (3, .int (nI k3)), (4, .int (nI k4))] := hl
                              refine lv_goto hx hb d_Md_value_260 rfl ?_
                              refine lv_goto hx hb d_Md_value_268 rfl ?_
                              exact ih50 (1 * 300 + (250 - (k2 + 1))) (by omega) 1 (k2 + 1) k3 k4 (n479 + 1) v480 1 M482 _ _ ls rfl (show M482 0 31 = nI (n479 + 1) from q483a) (show M482 0 32 = nI v480 from (fq483 _ _ (by unfold mSg; omega)).trans (hv480a)) (show (k2 + 1) ≤ 201 from by first | omega | assumption | exact Or.inl rfl | exact Or.inr rfl | rfl | decide) (show k3 ≤ 200 from by first | omega | assumption | exact Or.inl rfl | exact Or.inr rfl | rfl | decide) (show (n479 + 1) ≤ (k2 + 1) from by first | omega | assumption | exact Or.inl rfl | exact Or.inr rfl | rfl | decide) (show 1 ≤ 1 from by first | omega | assumption | exact Or.inl rfl | exact Or.inr rfl | rfl | decide) (show (1 = 1 ∧ v480 = cP PB (M482 22) (n479 + 1)) ∨ (1 = 0 ∧ v480 = cP PB (M482 22) (n479 + 1) + 1) from by first | (have h11 : (1 : Int32).toInt = 1 := rfl; have h00 : (0 : Int32).toInt = 0 := rfl; omega)) (show k4 ≤ cP P40 (M482 22) (n479 + 1) from by first | (have h11 : (1 : Int32).toInt = 1 := rfl; have h00 : (0 : Int32).toInt = 0 := rfl; omega)) (show 1 = 1 ∨ (M482 0 34).toInt = 1 from by first | exact Or.inl rfl) (show (M482 0 23 = M 0 23) ∧ (M482 0 24 = M 0 24) from by first | exact ⟨((fq483 _ _ (by unfold mSg; omega)).trans (fq478 _ _ (by unfold mAp; omega))).trans c50_7.1, ((fq483 _ _ (by unfold mSg; omega)).trans (fq478 _ _ (by unfold mAp; omega))).trans c50_7.2⟩) hP hI hF hS (lv_sub hl [3, 4, 0, 5, 6, 1] rfl)
                        · have g458 : ¬ (((k4 : Nat) : Int) ≤ 0) := fun q => h458 (Int32.le_iff_toInt_le.mpr (by rw [nI_toInt (n := k4) (by omega)]; exact q))
                          refine lv_aload_n hx hb d_Md_value_196 rfl (lv_at hl 1 rfl) ?_
                          refine lv_iconst (v := 1) hx hb d_Md_value_197 (by decide) ?_
                          refine ux_callv (va_runV ⟨hx, hb, hml, hown, hts⟩ (s_Md_applyFrom l D ad cA A TB hA hB  Mc50 hI n1 v1 (hg_n1) (hg_v1) (by omega) (by omega) (by omega) 1 (by decide)) (cwV 1 hts (tb_goodV ml_Md_367 im_Md_applyFrom se_Md_applyFrom ii_Md kt_Md_applyFrom) rfl rfl rfl (by decide +kernel) ⟨Nat.le_of_ble_eq_true rfl, Nat.le_of_ble_eq_true rfl⟩) (ux_preV (by decide) rfl rfl hP hK hi hN) rfl rfl hl.1 rfl (lv_room (Nat.le_of_ble_eq_true rfl)) d_Md_value_198 ⟨Nat.zero_le _, Nat.zero_le _⟩) hS (fun M485 H locs q486 hP hS => ?_)
                          obtain ⟨hI, fq486, q486p⟩ := q486
                          have hF := fr_call hF fq486 (fun a b q => by unfold mAp at q; unfold mVa; omega)
                          obtain ⟨n487, v488, hn487a, hv488a, hn487b, hv488b, hv488c, hn487d, hn487e⟩ := q486p
                          rw [show (1 : Int32).toInt = 1 from rfl] at hn487e
                          have hn487r : ∀ j, M485 22 j = Mc50 22 j := fun j => fq486 _ _ (by unfold mAp; omega)
                          have hn487B : cP PB (M485 22) n487 = cP PB (Mc50 22) n487 := cP_cong _ (fun j _ => hn487r j)
                          have hn4874 : cP P40 (M485 22) n487 = cP P40 (Mc50 22) n487 := cP_cong _ (fun j _ => hn487r j)
                          have hn487l := cP_le (P := P40) (f := Mc50 22) n487
                          have hn487t := congrArg rk (congrArg Int32.toInt (hn487r (n487 - 1)))
                          have hpop := pop_B (f := M485 22) (n := n487) (by omega) (by omega)
                          refine lv_aload_n hx hb d_Md_value_201 rfl (lv_at hl 1 rfl) ?_
                          refine lv_dup hx hb d_Md_value_202 rfl ?_
                          refine ux_get (C := R_Md) (T := F_Md) (N := 50) hx hb hT in_Md hown hK hP (by decide) rfl rfl 31 (by decide) (hT _ fl_Md_338) rfl d_Md_value_203 ?_
                          refine lv_topi (fun z489 hz489 => ?_)
                          rw [show M485 0 31 = nI n487 from hn487a] at hz489
                          rw [hz489]
                          refine lv_iconst (v := 1) hx hb d_Md_value_206 (by decide) ?_
                          refine lv_isub hx hb d_Md_value_207 ?_
                          refine lv_topi (fun z490 hz490 => ?_)
                          rw [show (nI n487) - (1 : Int32) = nI (n487 - 1) from (pk_sub (a := n487) (b := 1) (by omega)).trans (congrArg nI (show n487 - 1 = n487 - 1 by omega))] at hz490
                          rw [hz490]
                          refine ux_put (C := R_Md) (T := F_Md) (N := 50) hx hb hT in_Md t_Md t_Md_ok n_Md hown hK hi hP hS (by decide) rfl rfl 31 (by decide) (hT _ fl_Md_338) rfl (rfl) (rfl) rfl d_Md_value_208 (fun H locs hP hS => ?_)
                          have hI := IvM_wr (k := 0) (j := 31) (v := nI (n487 - 1)) hI (show (0 : Int) ≤ (nI (n487 - 1) : Int32).toInt from (by rw [nI_toInt (n := n487 - 1) (by omega)]; omega)) (show (nI (n487 - 1) : Int32).toInt ≤ (210 : Int) from (by rw [nI_toInt (n := n487 - 1) (by omega)]; omega)) (by unfold okW; omega)
                          have hF := fr_wr (k := 0) (j := 31) (v := nI (n487 - 1)) hF (by unfold mVa; omega)
                          generalize eM491 : ux_wr M485 0 31 (nI (n487 - 1)) = M491 at hP hI hF
                          have tM491 : (M491 0 31).toInt = ((n487 - 1 : Nat) : Int) := by rw [wr_at eM491]; exact nI_toInt (by omega)
                          refine lv_iinc (k := 5) (v := nI (k4 - 1)) hx hb d_Md_value_211 hl rfl (nI_dec (k := k4) (by omega) (by omega)) (by decide) rfl (fun ls hl => ?_)
                          have hl : lv_has ls 7 [(4, .int (nI (k4 - 1))), (6, .int (nI c277)), (0, .ref (ad 0)), (1, .int (nI w)), (2, .int (nI k2)), (3, .int (nI k3)), (5, .int i_5)] := hl
                          refine lv_iinc (k := 4) (v := nI (k2 + 1)) hx hb d_Md_value_214 hl rfl (nI_add k2 1) (by decide) rfl (fun ls hl => ?_)
                          have hl : lv_has ls 7 [(2, .int (nI (k2 + 1))), (4, .int (nI (k4 - 1))), (6, .int (nI c277)), (0, .ref (ad 0)), (1, .int (nI w)), (3, .int (nI k3)), (5, .int i_5)] := hl
                          refine lv_goto hx hb d_Md_value_217 rfl ?_
                          refine lv_goto hx hb d_Md_value_268 rfl ?_
                          exact ih50 (1 * 300 + (250 - (k2 + 1))) (by omega) i_5 (k2 + 1) k3 (k4 - 1) (n487 - 1) v488 1 M491 _ _ ls rfl (show M491 0 31 = nI (n487 - 1) from wr_at eM491) (show M491 0 32 = nI v488 from (wr_off eM491 (by omega)).trans (hv488a)) (show (k2 + 1) ≤ 201 from by first | omega | assumption | exact Or.inl rfl | exact Or.inr rfl | rfl | decide) (show k3 ≤ 200 from by first | omega | assumption | exact Or.inl rfl | exact Or.inr rfl | rfl | decide) (show (n487 - 1) ≤ (k2 + 1) from by first | omega | assumption | exact Or.inl rfl | exact Or.inr rfl | rfl | decide) (show 1 ≤ 1 from by first | omega | assumption | exact Or.inl rfl | exact Or.inr rfl | rfl | decide) (show (i_5.toInt = 1 ∧ v488 = cP PB (M491 22) (n487 - 1)) ∨ (i_5.toInt = 0 ∧ v488 = cP PB (M491 22) (n487 - 1) + 1) from by first | (have h11 : (1 : Int32).toInt = 1 := rfl; have h00 : (0 : Int32).toInt = 0 := rfl; have : cP PB (M491 22) (n487 - 1) = cP PB (M485 22) (n487 - 1) := cP_cong _ (fun j _ => wr_off eM491 (by omega)); have : cP P40 (M491 22) (n487 - 1) = cP P40 (M485 22) (n487 - 1) := cP_cong _ (fun j _ => wr_off eM491 (by omega)); omega)) (show (k4 - 1) ≤ cP P40 (M491 22) (n487 - 1) from by first | (have h11 : (1 : Int32).toInt = 1 := rfl; have h00 : (0 : Int32).toInt = 0 := rfl; have : cP PB (M491 22) (n487 - 1) = cP PB (M485 22) (n487 - 1) := cP_cong _ (fun j _ => wr_off eM491 (by omega)); have : cP P40 (M491 22) (n487 - 1) = cP P40 (M485 22) (n487 - 1) := cP_cong _ (fun j _ => wr_off eM491 (by omega)); omega)) (show 1 = 1 ∨ (M491 0 34).toInt = 1 from by first | exact Or.inl rfl) (show (M491 0 23 = M 0 23) ∧ (M491 0 24 = M 0 24) from by first | exact ⟨((wr_off eM491 (by omega)).trans (fq486 _ _ (by unfold mAp; omega))).trans c50_7.1, ((wr_off eM491 (by omega)).trans (fq486 _ _ (by unfold mAp; omega))).trans c50_7.2⟩) hP hI hF hS (lv_sub hl [3, 4, 0, 5, 1, 6] rfl)
                    · have g431 : ¬ (i_5.toInt = 0) := fun q => h431 (Int32.toInt_inj.mp q)
                      refine lv_aload_n hx hb d_Md_value_171 rfl (lv_at hl 1 rfl) ?_
                      refine lv_iload_n hx hb d_Md_value_172 rfl (lv_at hl 3 rfl) ?_
                      refine lv_iload_n hx hb d_Md_value_173 rfl (lv_at hl 4 rfl) ?_
                      refine ux_calli (va_runV ⟨hx, hb, hml, hown, hts⟩ (s_Md_operand l D ad cA A TB hA hB  Mc50 hI L hL ((hF _ _ (by unfold mVa; omega)).trans hlv) k2 k3 v1 (by omega) (by omega) (hg_v1) (by omega)) (cwV 2 hts (tb_goodV ml_Md_363 im_Md_operand se_Md_operand ii_Md kt_Md_operand) rfl rfl rfl (by decide +kernel) ⟨Nat.le_of_ble_eq_true rfl, Nat.le_of_ble_eq_true rfl⟩) (ux_preV (by decide) rfl rfl hP hK hi hN) rfl rfl hl.1 rfl (lv_room (Nat.le_of_ble_eq_true rfl)) d_Md_value_174 ⟨Nat.zero_le _, Nat.zero_le _⟩) hS (fun r492 M493 H locs q494 hP hS => ?_)
                      obtain ⟨hI, fq494, q494p⟩ := q494
                      have hF := fr_call hF fq494 (fun a b q => by unfold mOp at q; unfold mVa; omega)
                      obtain ⟨q494a, ⟨q9, hq9, hq9a, hq9b, hq9c⟩, hq9d⟩ := q494p
                      subst hq9
                      obtain ⟨g2, hg2, hg2b, hg2c⟩ : ∃ g2 : Nat, g2 ≤ 1 ∧ (g2 = 1 ∨ (M493 0 34).toInt = 1) ∧ (g2 = 0 ∨ k2 < q9) := by
                        rcases hq9c with z | z
                        · exact ⟨0, by omega, Or.inr z, Or.inl rfl⟩
                        · exact ⟨1, by omega, Or.inl rfl, Or.inr z⟩
                      refine lv_istore_n hx hb d_Md_value_177 rfl hl (by decide) rfl (fun ls hl => ?_)
                      have hl : lv_has ls 7 [(2, .int (nI q9)), (6, .int (nI c277)), (0, .ref (ad 0)), (1, .int (nI w)), (3, .int (nI k3)), (4, .int (nI k4)), (5, .int i_5)] := hl
                      refine lv_iconst (v := 0) hx hb d_Md_value_178 (by decide) ?_
                      refine lv_istore hx hb d_Md_value_179 hl (by decide) rfl (fun ls hl => ?_)
                      have hl : lv_has ls 7 [(5, .int 0), (2, .int (nI q9)), (6, .int (nI c277)), (0, .ref (ad 0)), (1, .int (nI w)), (3, .int (nI k3)), (4, .int (nI k4))] := hl
                      refine lv_goto hx hb d_Md_value_181 rfl ?_
                      refine lv_goto hx hb d_Md_value_268 rfl ?_
                      exact ih50 (g2 * 300 + (250 - q9)) (by omega) 0 q9 k3 k4 n1 (v1 + 1) g2 M493 _ _ ls rfl (show M493 0 31 = nI n1 from (fq494 _ _ (by unfold mOp; omega)).trans (hg_n1)) (show M493 0 32 = nI (v1 + 1) from q494a) (show q9 ≤ 201 from by first | omega | assumption | exact Or.inl rfl | exact Or.inr rfl | rfl | decide) (show k3 ≤ 200 from by first | omega | assumption | exact Or.inl rfl | exact Or.inr rfl | rfl | decide) (show n1 ≤ q9 from by first | omega | assumption | exact Or.inl rfl | exact Or.inr rfl | rfl | decide) (show g2 ≤ 1 from by first | omega | assumption | exact Or.inl rfl | exact Or.inr rfl | rfl | decide) (show (0 = 1 ∧ (v1 + 1) = cP PB (M493 22) n1) ∨ (0 = 0 ∧ (v1 + 1) = cP PB (M493 22) n1 + 1) from by first | (have h11 : (1 : Int32).toInt = 1 := rfl; have h00 : (0 : Int32).toInt = 0 := rfl; have : cP PB (M493 22) (n1) = cP PB (Mc50 22) (n1) := cP_cong _ (fun j _ => fq494 _ _ (by unfold mOp; omega)); have : cP P40 (M493 22) (n1) = cP P40 (Mc50 22) (n1) := cP_cong _ (fun j _ => fq494 _ _ (by unfold mOp; omega)); omega)) (show k4 ≤ cP P40 (M493 22) n1 from by first | (have h11 : (1 : Int32).toInt = 1 := rfl; have h00 : (0 : Int32).toInt = 0 := rfl; have : cP PB (M493 22) (n1) = cP PB (Mc50 22) (n1) := cP_cong _ (fun j _ => fq494 _ _ (by unfold mOp; omega)); have : cP P40 (M493 22) (n1) = cP P40 (Mc50 22) (n1) := cP_cong _ (fun j _ => fq494 _ _ (by unfold mOp; omega)); omega)) (show g2 = 1 ∨ (M493 0 34).toInt = 1 from by first | exact hg2b | (omega)) (show (M493 0 23 = M 0 23) ∧ (M493 0 24 = M 0 24) from by first | exact ⟨(fq494 _ _ (by unfold mOp; omega)).trans c50_7.1, (fq494 _ _ (by unfold mOp; omega)).trans c50_7.2⟩) hP hI hF hS (lv_sub hl [3, 4, 1, 5, 6, 0] rfl)
                  · have g430 : ¬ (i_5.toInt = 0) := fun q => h430 (Int32.toInt_inj.mp q)
                    refine lv_iload hx hb d_Md_value_132 (lv_at hl 0 rfl) ?_
                    refine lv_bipush (v := 40) hx hb d_Md_value_134 (by decide) ?_
                    refine lv_icmp_ne hx hb d_Md_value_136 rfl (fun h495 => ?_) (fun h495 => ?_)
                    · have g495 : ¬ (((c277 : Nat) : Int) = 40) := fun q => h495 (Int32.toInt_inj.mp (by rw [nI_toInt (n := c277) (by omega)]; exact q))
                      refine lv_iload hx hb d_Md_value_166 (lv_at hl 6 rfl) ?_
                      refine lv_if_eq hx hb d_Md_value_168 rfl (fun h496 => ?_) (fun h496 => ?_)
                      · have g496 : i_5.toInt = 0 := congrArg Int32.toInt h496
                        refine lv_iload hx hb d_Md_value_184 (lv_at hl 0 rfl) ?_
                        refine lv_bipush (v := 41) hx hb d_Md_value_186 (by decide) ?_
                        refine lv_icmp_ne hx hb d_Md_value_188 rfl (fun h497 => ?_) (fun h497 => ?_)
                        · have g497 : ¬ (((c277 : Nat) : Int) = 41) := fun q => h497 (Int32.toInt_inj.mp (by rw [nI_toInt (n := c277) (by omega)]; exact q))
                          refine lv_iload hx hb d_Md_value_220 (lv_at hl 0 rfl) ?_
                          refine ux_calli (va_runS ⟨hx, hb, hml, hown, hts⟩ (s_Md_rankOf l D ad cA A TB hA hB  Mc50 hI (nI c277)) (va_cwS 1 hts (tb_goodST ml_Md_348 sm_Md_rankOf ii_Md kt_Md_rankOf) rfl rfl rfl (by decide +kernel) ⟨Nat.le_of_ble_eq_true rfl, Nat.le_of_ble_eq_true rfl⟩) (ux_pre hP hK hi hN) rfl rfl hl.1 rfl (lv_room (Nat.le_of_ble_eq_true rfl)) d_Md_value_222 ⟨Nat.zero_le _, Nat.zero_le _⟩) hS (fun r498 M499 H locs q500 hP hS => ?_)
                          obtain ⟨hI, fq500, q500p⟩ := q500
                          rw [tN_eq fq500] at hP hI
                          refine lv_iconst (v := 1) hx hb d_Md_value_225 (by decide) ?_
                          refine lv_icmp_le hx hb d_Md_value_226 rfl (fun h501 => ?_) (fun h501 => ?_)
                          · have g501 : r498.toInt ≤ 1 := Int32.le_iff_toInt_le.mp h501
                            have w501 := ti_lo r498
                            refine lv_aload_n hx hb d_Md_value_263 rfl (lv_at hl 1 rfl) ?_
                            refine lv_iconst (v := 1) hx hb d_Md_value_264 (by decide) ?_
                            refine ux_callv (va_runV ⟨hx, hb, hml, hown, hts⟩ (s_Md_ill l D ad cA A TB hA hB  Mc50 hI 1) (cwV 1 hts (tb_goodV ml_Md_354 im_Md_ill se_Md_ill ii_Md kt_Md_ill) rfl rfl rfl (by decide +kernel) ⟨Nat.le_of_ble_eq_true rfl, Nat.le_of_ble_eq_true rfl⟩) (ux_preV (by decide) rfl rfl hP hK hi hN) rfl rfl hl.1 rfl (lv_room (Nat.le_of_ble_eq_true rfl)) d_Md_value_265 ⟨Nat.zero_le _, Nat.zero_le _⟩) hS (fun M503 H locs q504 hP hS => ?_)
                            obtain ⟨hI, fq504, q504p⟩ := q504
                            have hF := fr_call hF fq504 (fun a b q => by unfold mIl at q; unfold mVa; omega)
                            rw [show (1 : Int32).toInt = 1 from rfl] at q504p
                            refine lv_goto hx hb d_Md_value_268 rfl ?_
                            exact ih50 (0 * 300 + (250 - k2)) (by omega) i_5 k2 k3 k4 n1 v1 0 M503 _ _ ls rfl (show M503 0 31 = nI n1 from (fq504 _ _ (by unfold mIl; omega)).trans (hg_n1)) (show M503 0 32 = nI v1 from (fq504 _ _ (by unfold mIl; omega)).trans (hg_v1)) (show k2 ≤ 201 from by first | omega | assumption | exact Or.inl rfl | exact Or.inr rfl | rfl | decide) (show k3 ≤ 200 from by first | omega | assumption | exact Or.inl rfl | exact Or.inr rfl | rfl | decide) (show n1 ≤ k2 from by first | omega | assumption | exact Or.inl rfl | exact Or.inr rfl | rfl | decide) (show 0 ≤ 1 from by first | omega | assumption | exact Or.inl rfl | exact Or.inr rfl | rfl | decide) (show (i_5.toInt = 1 ∧ v1 = cP PB (M503 22) n1) ∨ (i_5.toInt = 0 ∧ v1 = cP PB (M503 22) n1 + 1) from by first | (have h11 : (1 : Int32).toInt = 1 := rfl; have h00 : (0 : Int32).toInt = 0 := rfl; have : cP PB (M503 22) (n1) = cP PB (Mc50 22) (n1) := cP_cong _ (fun j _ => fq504 _ _ (by unfold mIl; omega)); have : cP P40 (M503 22) (n1) = cP P40 (Mc50 22) (n1) := cP_cong _ (fun j _ => fq504 _ _ (by unfold mIl; omega)); omega)) (show k4 ≤ cP P40 (M503 22) n1 from by first | (have h11 : (1 : Int32).toInt = 1 := rfl; have h00 : (0 : Int32).toInt = 0 := rfl; have : cP PB (M503 22) (n1) = cP PB (Mc50 22) (n1) := cP_cong _ (fun j _ => fq504 _ _ (by unfold mIl; omega)); have : cP P40 (M503 22) (n1) = cP P40 (Mc50 22) (n1) := cP_cong _ (fun j _ => fq504 _ _ (by unfold mIl; omega)); omega)) (show 0 = 1 ∨ (M503 0 34).toInt = 1 from by first | (omega)) (show (M503 0 23 = M 0 23) ∧ (M503 0 24 = M 0 24) from by first | exact ⟨(fq504 _ _ (by unfold mIl; omega)).trans c50_7.1, (fq504 _ _ (by unfold mIl; omega)).trans c50_7.2⟩) hP hI hF hS (lv_sub hl [1, 2, 3, 4, 5, 6] rfl)
                          · have g501 : ¬ (r498.toInt ≤ 1) := fun q => h501 (Int32.le_iff_toInt_le.mpr q)
                            have u501 := ti_hi r498
                            refine lv_iload hx hb d_Md_value_229 (lv_at hl 0 rfl) ?_
                            refine ux_calli (va_runS ⟨hx, hb, hml, hown, hts⟩ (s_Md_rankOf l D ad cA A TB hA hB  Mc50 hI (nI c277)) (va_cwS 1 hts (tb_goodST ml_Md_348 sm_Md_rankOf ii_Md kt_Md_rankOf) rfl rfl rfl (by decide +kernel) ⟨Nat.le_of_ble_eq_true rfl, Nat.le_of_ble_eq_true rfl⟩) (ux_pre hP hK hi hN) rfl rfl hl.1 rfl (lv_room (Nat.le_of_ble_eq_true rfl)) d_Md_value_231 ⟨Nat.zero_le _, Nat.zero_le _⟩) hS (fun r505 M506 H locs q507 hP hS => ?_)
                            obtain ⟨hI, fq507, q507p⟩ := q507
                            rw [tN_eq fq507] at hP hI
                            refine lv_bipush (v := 7) hx hb d_Md_value_234 (by decide) ?_
                            refine lv_icmp_ge hx hb d_Md_value_236 rfl (fun h508 => ?_) (fun h508 => ?_)
                            · have g508 : 7 ≤ r505.toInt := Int32.le_iff_toInt_le.mp h508
                              have u508 := ti_hi r505
                              refine lv_aload_n hx hb d_Md_value_263 rfl (lv_at hl 1 rfl) ?_
                              refine lv_iconst (v := 1) hx hb d_Md_value_264 (by decide) ?_
                              refine ux_callv (va_runV ⟨hx, hb, hml, hown, hts⟩ (s_Md_ill l D ad cA A TB hA hB  Mc50 hI 1) (cwV 1 hts (tb_goodV ml_Md_354 im_Md_ill se_Md_ill ii_Md kt_Md_ill) rfl rfl rfl (by decide +kernel) ⟨Nat.le_of_ble_eq_true rfl, Nat.le_of_ble_eq_true rfl⟩) (ux_preV (by decide) rfl rfl hP hK hi hN) rfl rfl hl.1 rfl (lv_room (Nat.le_of_ble_eq_true rfl)) d_Md_value_265 ⟨Nat.zero_le _, Nat.zero_le _⟩) hS (fun M510 H locs q511 hP hS => ?_)
                              obtain ⟨hI, fq511, q511p⟩ := q511
                              have hF := fr_call hF fq511 (fun a b q => by unfold mIl at q; unfold mVa; omega)
                              rw [show (1 : Int32).toInt = 1 from rfl] at q511p
                              refine lv_goto hx hb d_Md_value_268 rfl ?_
                              exact ih50 (0 * 300 + (250 - k2)) (by omega) i_5 k2 k3 k4 n1 v1 0 M510 _ _ ls rfl (show M510 0 31 = nI n1 from (fq511 _ _ (by unfold mIl; omega)).trans (hg_n1)) (show M510 0 32 = nI v1 from (fq511 _ _ (by unfold mIl; omega)).trans (hg_v1)) (show k2 ≤ 201 from by first | omega | assumption | exact Or.inl rfl | exact Or.inr rfl | rfl | decide) (show k3 ≤ 200 from by first | omega | assumption | exact Or.inl rfl | exact Or.inr rfl | rfl | decide) (show n1 ≤ k2 from by first | omega | assumption | exact Or.inl rfl | exact Or.inr rfl | rfl | decide) (show 0 ≤ 1 from by first | omega | assumption | exact Or.inl rfl | exact Or.inr rfl | rfl | decide) (show (i_5.toInt = 1 ∧ v1 = cP PB (M510 22) n1) ∨ (i_5.toInt = 0 ∧ v1 = cP PB (M510 22) n1 + 1) from by first | (have h11 : (1 : Int32).toInt = 1 := rfl; have h00 : (0 : Int32).toInt = 0 := rfl; have : cP PB (M510 22) (n1) = cP PB (Mc50 22) (n1) := cP_cong _ (fun j _ => fq511 _ _ (by unfold mIl; omega)); have : cP P40 (M510 22) (n1) = cP P40 (Mc50 22) (n1) := cP_cong _ (fun j _ => fq511 _ _ (by unfold mIl; omega)); omega)) (show k4 ≤ cP P40 (M510 22) n1 from by first | (have h11 : (1 : Int32).toInt = 1 := rfl; have h00 : (0 : Int32).toInt = 0 := rfl; have : cP PB (M510 22) (n1) = cP PB (Mc50 22) (n1) := cP_cong _ (fun j _ => fq511 _ _ (by unfold mIl; omega)); have : cP P40 (M510 22) (n1) = cP P40 (Mc50 22) (n1) := cP_cong _ (fun j _ => fq511 _ _ (by unfold mIl; omega)); omega)) (show 0 = 1 ∨ (M510 0 34).toInt = 1 from by first | (omega)) (show (M510 0 23 = M 0 23) ∧ (M510 0 24 = M 0 24) from by first | exact ⟨(fq511 _ _ (by unfold mIl; omega)).trans c50_7.1, (fq511 _ _ (by unfold mIl; omega)).trans c50_7.2⟩) hP hI hF hS (lv_sub hl [1, 2, 3, 4, 5, 6] rfl)
                            · have g508 : ¬ (7 ≤ r505.toInt) := fun q => h508 (Int32.le_iff_toInt_le.mpr q)
                              have w508 := ti_lo r505
                              refine lv_aload_n hx hb d_Md_value_239 rfl (lv_at hl 1 rfl) ?_
                              refine lv_iload hx hb d_Md_value_240 (lv_at hl 0 rfl) ?_
                              refine ux_calli (va_runS ⟨hx, hb, hml, hown, hts⟩ (s_Md_rankOf l D ad cA A TB hA hB  Mc50 hI (nI c277)) (va_cwS 1 hts (tb_goodST ml_Md_348 sm_Md_rankOf ii_Md kt_Md_rankOf) rfl rfl rfl (by decide +kernel) ⟨Nat.le_of_ble_eq_true rfl, Nat.le_of_ble_eq_true rfl⟩) (ux_pre hP hK hi hN) rfl rfl hl.1 rfl (lv_room (Nat.le_of_ble_eq_true rfl)) d_Md_value_242 ⟨Nat.zero_le _, Nat.zero_le _⟩) hS (fun r512 M513 H locs q514 hP hS => ?_)
                              obtain ⟨hI, fq514, q514p⟩ := q514
                              rw [tN_eq fq514] at hP hI
                              refine ux_callv (va_runV ⟨hx, hb, hml, hown, hts⟩ (s_Md_applyFrom l D ad cA A TB hA hB  Mc50 hI n1 v1 (hg_n1) (hg_v1) (by omega) (by omega) (by omega) r512 (by omega)) (cwV 1 hts (tb_goodV ml_Md_367 im_Md_applyFrom se_Md_applyFrom ii_Md kt_Md_applyFrom) rfl rfl rfl (by decide +kernel) ⟨Nat.le_of_ble_eq_true rfl, Nat.le_of_ble_eq_true rfl⟩) (ux_preV (by decide) rfl rfl hP hK hi hN) rfl rfl hl.1 rfl (lv_room (Nat.le_of_ble_eq_true rfl)) d_Md_value_245 ⟨Nat.zero_le _, Nat.zero_le _⟩) hS (fun M516 H locs q517 hP hS => ?_)
                              obtain ⟨hI, fq517, q517p⟩ := q517
                              have hF := fr_call hF fq517 (fun a b q => by unfold mAp at q; unfold mVa; omega)
                              obtain ⟨n518, v519, hn518a, hv519a, hn518b, hv519b, hv519c, hn518d, hn518e⟩ := q517p
                              have hn518r : ∀ j, M516 22 j = Mc50 22 j := fun j => fq517 _ _ (by unfold mAp; omega)
                              have hn518B : cP PB (M516 22) n518 = cP PB (Mc50 22) n518 := cP_cong _ (fun j _ => hn518r j)
                              have hn5184 : cP P40 (M516 22) n518 = cP P40 (Mc50 22) n518 := cP_cong _ (fun j _ => hn518r j)
                              have hn518l := cP_le (P := P40) (f := Mc50 22) n518
                              have hn518t := congrArg rk (congrArg Int32.toInt (hn518r (n518 - 1)))
                              refine lv_aload_n hx hb d_Md_value_248 rfl (lv_at hl 1 rfl) ?_
                              refine lv_iload hx hb d_Md_value_249 (lv_at hl 0 rfl) ?_
                              refine ux_callv (va_runV ⟨hx, hb, hml, hown, hts⟩ (s_Md_sign l D ad cA A TB hA hB  M516 hI (n518) (hn518a) (by omega) (nI c277)) (cwV 1 hts (tb_goodV ml_Md_360 im_Md_sign se_Md_sign ii_Md kt_Md_sign) rfl rfl rfl (by decide +kernel) ⟨Nat.le_of_ble_eq_true rfl, Nat.le_of_ble_eq_true rfl⟩) (ux_preV (by decide) rfl rfl hP hK hi hN) rfl rfl hl.1 rfl (lv_room (Nat.le_of_ble_eq_true rfl)) d_Md_value_251 ⟨Nat.zero_le _, Nat.zero_le _⟩) hS (fun M521 H locs q522 hP hS => ?_)
                              obtain ⟨hI, fq522, q522p⟩ := q522
                              have hF := fr_call hF fq522 (fun a b q => by unfold mSg at q; unfold mVa; omega)
                              obtain ⟨q522a, q522b, q522c⟩ := q522p
                              have q522d := sg_B q522b q522c
                              have q522e := sg_4 q522b q522c
                              refine lv_iconst (v := 1) hx hb d_Md_value_254 (by decide) ?_
                              refine lv_istore hx hb d_Md_value_255 hl (by decide) rfl (fun ls hl => ?_)
                              have hl : lv_has ls 7 [(5, .int 1), (6, .int (nI c277)), (0, .ref (ad 0)), (1, .int (nI w)), (2, .int (nI k2)), (3, .int (nI k3)), (4, .int (nI k4))] := hl
                              refine lv_iinc (k := 4) (v := nI (k2 + 1)) hx hb d_Md_value_257 hl rfl (nI_add k2 1) (by decide) rfl (fun ls hl => ?_)
                              have hl : lv_has ls 7 [(2, .int (nI (k2 + 1))), (5, .int 1), (6, .int (nI c277)), (0, .ref (ad 0)), (1, .int (nI w)), (3, .int (nI k3)), (4, .int (nI k4))] := hl
                              refine lv_goto hx hb d_Md_value_260 rfl ?_
                              refine lv_goto hx hb d_Md_value_268 rfl ?_
                              exact ih50 (1 * 300 + (250 - (k2 + 1))) (by omega) 1 (k2 + 1) k3 k4 (n518 + 1) v519 1 M521 _ _ ls rfl (show M521 0 31 = nI (n518 + 1) from q522a) (show M521 0 32 = nI v519 from (fq522 _ _ (by unfold mSg; omega)).trans (hv519a)) (show (k2 + 1) ≤ 201 from by first | omega | assumption | exact Or.inl rfl | exact Or.inr rfl | rfl | decide) (show k3 ≤ 200 from by first | omega | assumption | exact Or.inl rfl | exact Or.inr rfl | rfl | decide) (show (n518 + 1) ≤ (k2 + 1) from by first | omega | assumption | exact Or.inl rfl | exact Or.inr rfl | rfl | decide) (show 1 ≤ 1 from by first | omega | assumption | exact Or.inl rfl | exact Or.inr rfl | rfl | decide) (show (1 = 1 ∧ v519 = cP PB (M521 22) (n518 + 1)) ∨ (1 = 0 ∧ v519 = cP PB (M521 22) (n518 + 1) + 1) from by first | (have h11 : (1 : Int32).toInt = 1 := rfl; have h00 : (0 : Int32).toInt = 0 := rfl; omega)) (show k4 ≤ cP P40 (M521 22) (n518 + 1) from by first | (have h11 : (1 : Int32).toInt = 1 := rfl; have h00 : (0 : Int32).toInt = 0 := rfl; omega)) (show 1 = 1 ∨ (M521 0 34).toInt = 1 from by first | exact Or.inl rfl) (show (M521 0 23 = M 0 23) ∧ (M521 0 24 = M 0 24) from by first | exact ⟨((fq522 _ _ (by unfold mSg; omega)).trans (fq517 _ _ (by unfold mAp; omega))).trans c50_7.1, ((fq522 _ _ (by unfold mSg; omega)).trans (fq517 _ _ (by unfold mAp; omega))).trans c50_7.2⟩) hP hI hF hS (lv_sub hl [3, 4, 0, 5, 6, 1] rfl)
                        · have g497 : ((c277 : Nat) : Int) = 41 := by have q := congrArg Int32.toInt h497; rw [nI_toInt (n := c277) (by omega)] at q; exact q
                          refine lv_iload hx hb d_Md_value_191 (lv_at hl 5 rfl) ?_
                          refine lv_if_le hx hb d_Md_value_193 rfl (fun h523 => ?_) (fun h523 => ?_)
                          · have g523 : ((k4 : Nat) : Int) ≤ 0 := by have q := Int32.le_iff_toInt_le.mp h523; rw [nI_toInt (n := k4) (by omega)] at q; exact q
                            refine lv_iload hx hb d_Md_value_220 (lv_at hl 0 rfl) ?_
                            refine ux_calli (va_runS ⟨hx, hb, hml, hown, hts⟩ (s_Md_rankOf l D ad cA A TB hA hB  Mc50 hI (nI c277)) (va_cwS 1 hts (tb_goodST ml_Md_348 sm_Md_rankOf ii_Md kt_Md_rankOf) rfl rfl rfl (by decide +kernel) ⟨Nat.le_of_ble_eq_true rfl, Nat.le_of_ble_eq_true rfl⟩) (ux_pre hP hK hi hN) rfl rfl hl.1 rfl (lv_room (Nat.le_of_ble_eq_true rfl)) d_Md_value_222 ⟨Nat.zero_le _, Nat.zero_le _⟩) hS (fun r524 M525 H locs q526 hP hS => ?_)
                            obtain ⟨hI, fq526, q526p⟩ := q526
                            rw [tN_eq fq526] at hP hI
                            refine lv_iconst (v := 1) hx hb d_Md_value_225 (by decide) ?_
                            refine lv_icmp_le hx hb d_Md_value_226 rfl (fun h527 => ?_) (fun h527 => ?_)
                            · have g527 : r524.toInt ≤ 1 := Int32.le_iff_toInt_le.mp h527
                              have w527 := ti_lo r524
                              refine lv_aload_n hx hb d_Md_value_263 rfl (lv_at hl 1 rfl) ?_
                              refine lv_iconst (v := 1) hx hb d_Md_value_264 (by decide) ?_
                              refine ux_callv (va_runV ⟨hx, hb, hml, hown, hts⟩ (s_Md_ill l D ad cA A TB hA hB  Mc50 hI 1) (cwV 1 hts (tb_goodV ml_Md_354 im_Md_ill se_Md_ill ii_Md kt_Md_ill) rfl rfl rfl (by decide +kernel) ⟨Nat.le_of_ble_eq_true rfl, Nat.le_of_ble_eq_true rfl⟩) (ux_preV (by decide) rfl rfl hP hK hi hN) rfl rfl hl.1 rfl (lv_room (Nat.le_of_ble_eq_true rfl)) d_Md_value_265 ⟨Nat.zero_le _, Nat.zero_le _⟩) hS (fun M529 H locs q530 hP hS => ?_)
                              obtain ⟨hI, fq530, q530p⟩ := q530
                              have hF := fr_call hF fq530 (fun a b q => by unfold mIl at q; unfold mVa; omega)
                              rw [show (1 : Int32).toInt = 1 from rfl] at q530p
                              refine lv_goto hx hb d_Md_value_268 rfl ?_
                              exact ih50 (0 * 300 + (250 - k2)) (by omega) i_5 k2 k3 k4 n1 v1 0 M529 _ _ ls rfl (show M529 0 31 = nI n1 from (fq530 _ _ (by unfold mIl; omega)).trans (hg_n1)) (show M529 0 32 = nI v1 from (fq530 _ _ (by unfold mIl; omega)).trans (hg_v1)) (show k2 ≤ 201 from by first | omega | assumption | exact Or.inl rfl | exact Or.inr rfl | rfl | decide) (show k3 ≤ 200 from by first | omega | assumption | exact Or.inl rfl | exact Or.inr rfl | rfl | decide) (show n1 ≤ k2 from by first | omega | assumption | exact Or.inl rfl | exact Or.inr rfl | rfl | decide) (show 0 ≤ 1 from by first | omega | assumption | exact Or.inl rfl | exact Or.inr rfl | rfl | decide) (show (i_5.toInt = 1 ∧ v1 = cP PB (M529 22) n1) ∨ (i_5.toInt = 0 ∧ v1 = cP PB (M529 22) n1 + 1) from by first | (have h11 : (1 : Int32).toInt = 1 := rfl; have h00 : (0 : Int32).toInt = 0 := rfl; have : cP PB (M529 22) (n1) = cP PB (Mc50 22) (n1) := cP_cong _ (fun j _ => fq530 _ _ (by unfold mIl; omega)); have : cP P40 (M529 22) (n1) = cP P40 (Mc50 22) (n1) := cP_cong _ (fun j _ => fq530 _ _ (by unfold mIl; omega)); omega)) (show k4 ≤ cP P40 (M529 22) n1 from by first | (have h11 : (1 : Int32).toInt = 1 := rfl; have h00 : (0 : Int32).toInt = 0 := rfl; have : cP PB (M529 22) (n1) = cP PB (Mc50 22) (n1) := cP_cong _ (fun j _ => fq530 _ _ (by unfold mIl; omega)); have : cP P40 (M529 22) (n1) = cP P40 (Mc50 22) (n1) := cP_cong _ (fun j _ => fq530 _ _ (by unfold mIl; omega)); omega)) (show 0 = 1 ∨ (M529 0 34).toInt = 1 from by first | (omega)) (show (M529 0 23 = M 0 23) ∧ (M529 0 24 = M 0 24) from by first | exact ⟨(fq530 _ _ (by unfold mIl; omega)).trans c50_7.1, (fq530 _ _ (by unfold mIl; omega)).trans c50_7.2⟩) hP hI hF hS (lv_sub hl [1, 2, 3, 4, 5, 6] rfl)
                            · have g527 : ¬ (r524.toInt ≤ 1) := fun q => h527 (Int32.le_iff_toInt_le.mpr q)
                              have u527 := ti_hi r524
                              refine lv_iload hx hb d_Md_value_229 (lv_at hl 0 rfl) ?_
                              refine ux_calli (va_runS ⟨hx, hb, hml, hown, hts⟩ (s_Md_rankOf l D ad cA A TB hA hB  Mc50 hI (nI c277)) (va_cwS 1 hts (tb_goodST ml_Md_348 sm_Md_rankOf ii_Md kt_Md_rankOf) rfl rfl rfl (by decide +kernel) ⟨Nat.le_of_ble_eq_true rfl, Nat.le_of_ble_eq_true rfl⟩) (ux_pre hP hK hi hN) rfl rfl hl.1 rfl (lv_room (Nat.le_of_ble_eq_true rfl)) d_Md_value_231 ⟨Nat.zero_le _, Nat.zero_le _⟩) hS (fun r531 M532 H locs q533 hP hS => ?_)
                              obtain ⟨hI, fq533, q533p⟩ := q533
                              rw [tN_eq fq533] at hP hI
                              refine lv_bipush (v := 7) hx hb d_Md_value_234 (by decide) ?_
                              refine lv_icmp_ge hx hb d_Md_value_236 rfl (fun h534 => ?_) (fun h534 => ?_)
                              · have g534 : 7 ≤ r531.toInt := Int32.le_iff_toInt_le.mp h534
                                have u534 := ti_hi r531
                                refine lv_aload_n hx hb d_Md_value_263 rfl (lv_at hl 1 rfl) ?_
                                refine lv_iconst (v := 1) hx hb d_Md_value_264 (by decide) ?_
                                refine ux_callv (va_runV ⟨hx, hb, hml, hown, hts⟩ (s_Md_ill l D ad cA A TB hA hB  Mc50 hI 1) (cwV 1 hts (tb_goodV ml_Md_354 im_Md_ill se_Md_ill ii_Md kt_Md_ill) rfl rfl rfl (by decide +kernel) ⟨Nat.le_of_ble_eq_true rfl, Nat.le_of_ble_eq_true rfl⟩) (ux_preV (by decide) rfl rfl hP hK hi hN) rfl rfl hl.1 rfl (lv_room (Nat.le_of_ble_eq_true rfl)) d_Md_value_265 ⟨Nat.zero_le _, Nat.zero_le _⟩) hS (fun M536 H locs q537 hP hS => ?_)
                                obtain ⟨hI, fq537, q537p⟩ := q537
                                have hF := fr_call hF fq537 (fun a b q => by unfold mIl at q; unfold mVa; omega)
                                rw [show (1 : Int32).toInt = 1 from rfl] at q537p
                                refine lv_goto hx hb d_Md_value_268 rfl ?_
                                exact ih50 (0 * 300 + (250 - k2)) (by omega) i_5 k2 k3 k4 n1 v1 0 M536 _ _ ls rfl (show M536 0 31 = nI n1 from (fq537 _ _ (by unfold mIl; omega)).trans (hg_n1)) (show M536 0 32 = nI v1 from (fq537 _ _ (by unfold mIl; omega)).trans (hg_v1)) (show k2 ≤ 201 from by first | omega | assumption | exact Or.inl rfl | exact Or.inr rfl | rfl | decide) (show k3 ≤ 200 from by first | omega | assumption | exact Or.inl rfl | exact Or.inr rfl | rfl | decide) (show n1 ≤ k2 from by first | omega | assumption | exact Or.inl rfl | exact Or.inr rfl | rfl | decide) (show 0 ≤ 1 from by first | omega | assumption | exact Or.inl rfl | exact Or.inr rfl | rfl | decide) (show (i_5.toInt = 1 ∧ v1 = cP PB (M536 22) n1) ∨ (i_5.toInt = 0 ∧ v1 = cP PB (M536 22) n1 + 1) from by first | (have h11 : (1 : Int32).toInt = 1 := rfl; have h00 : (0 : Int32).toInt = 0 := rfl; have : cP PB (M536 22) (n1) = cP PB (Mc50 22) (n1) := cP_cong _ (fun j _ => fq537 _ _ (by unfold mIl; omega)); have : cP P40 (M536 22) (n1) = cP P40 (Mc50 22) (n1) := cP_cong _ (fun j _ => fq537 _ _ (by unfold mIl; omega)); omega)) (show k4 ≤ cP P40 (M536 22) n1 from by first | (have h11 : (1 : Int32).toInt = 1 := rfl; have h00 : (0 : Int32).toInt = 0 := rfl; have : cP PB (M536 22) (n1) = cP PB (Mc50 22) (n1) := cP_cong _ (fun j _ => fq537 _ _ (by unfold mIl; omega)); have : cP P40 (M536 22) (n1) = cP P40 (Mc50 22) (n1) := cP_cong _ (fun j _ => fq537 _ _ (by unfold mIl; omega)); omega)) (show 0 = 1 ∨ (M536 0 34).toInt = 1 from by first | (omega)) (show (M536 0 23 = M 0 23) ∧ (M536 0 24 = M 0 24) from by first | exact ⟨(fq537 _ _ (by unfold mIl; omega)).trans c50_7.1, (fq537 _ _ (by unfold mIl; omega)).trans c50_7.2⟩) hP hI hF hS (lv_sub hl [1, 2, 3, 4, 5, 6] rfl)
                              · have g534 : ¬ (7 ≤ r531.toInt) := fun q => h534 (Int32.le_iff_toInt_le.mpr q)
                                have w534 := ti_lo r531
                                refine lv_aload_n hx hb d_Md_value_239 rfl (lv_at hl 1 rfl) ?_
                                refine lv_iload hx hb d_Md_value_240 (lv_at hl 0 rfl) ?_
                                refine ux_calli (va_runS ⟨hx, hb, hml, hown, hts⟩ (s_Md_rankOf l D ad cA A TB hA hB  Mc50 hI (nI c277)) (va_cwS 1 hts (tb_goodST ml_Md_348 sm_Md_rankOf ii_Md kt_Md_rankOf) rfl rfl rfl (by decide +kernel) ⟨Nat.le_of_ble_eq_true rfl, Nat.le_of_ble_eq_true rfl⟩) (ux_pre hP hK hi hN) rfl rfl hl.1 rfl (lv_room (Nat.le_of_ble_eq_true rfl)) d_Md_value_242 ⟨Nat.zero_le _, Nat.zero_le _⟩) hS (fun r538 M539 H locs q540 hP hS => ?_)
                                obtain ⟨hI, fq540, q540p⟩ := q540
                                rw [tN_eq fq540] at hP hI
                                refine ux_callv (va_runV ⟨hx, hb, hml, hown, hts⟩ (s_Md_applyFrom l D ad cA A TB hA hB  Mc50 hI n1 v1 (hg_n1) (hg_v1) (by omega) (by omega) (by omega) r538 (by omega)) (cwV 1 hts (tb_goodV ml_Md_367 im_Md_applyFrom se_Md_applyFrom ii_Md kt_Md_applyFrom) rfl rfl rfl (by decide +kernel) ⟨Nat.le_of_ble_eq_true rfl, Nat.le_of_ble_eq_true rfl⟩) (ux_preV (by decide) rfl rfl hP hK hi hN) rfl rfl hl.1 rfl (lv_room (Nat.le_of_ble_eq_true rfl)) d_Md_value_245 ⟨Nat.zero_le _, Nat.zero_le _⟩) hS (fun M542 H locs q543 hP hS => ?_)
                                obtain ⟨hI, fq543, q543p⟩ := q543
                                have hF := fr_call hF fq543 (fun a b q => by unfold mAp at q; unfold mVa; omega)
                                obtain ⟨n544, v545, hn544a, hv545a, hn544b, hv545b, hv545c, hn544d, hn544e⟩ := q543p
                                have hn544r : ∀ j, M542 22 j = Mc50 22 j := fun j => fq543 _ _ (by unfold mAp; omega)
                                have hn544B : cP PB (M542 22) n544 = cP PB (Mc50 22) n544 := cP_cong _ (fun j _ => hn544r j)
                                have hn5444 : cP P40 (M542 22) n544 = cP P40 (Mc50 22) n544 := cP_cong _ (fun j _ => hn544r j)
                                have hn544l := cP_le (P := P40) (f := Mc50 22) n544
                                have hn544t := congrArg rk (congrArg Int32.toInt (hn544r (n544 - 1)))
                                refine lv_aload_n hx hb d_Md_value_248 rfl (lv_at hl 1 rfl) ?_
                                refine lv_iload hx hb d_Md_value_249 (lv_at hl 0 rfl) ?_
                                refine ux_callv (va_runV ⟨hx, hb, hml, hown, hts⟩ (s_Md_sign l D ad cA A TB hA hB  M542 hI (n544) (hn544a) (by omega) (nI c277)) (cwV 1 hts (tb_goodV ml_Md_360 im_Md_sign se_Md_sign ii_Md kt_Md_sign) rfl rfl rfl (by decide +kernel) ⟨Nat.le_of_ble_eq_true rfl, Nat.le_of_ble_eq_true rfl⟩) (ux_preV (by decide) rfl rfl hP hK hi hN) rfl rfl hl.1 rfl (lv_room (Nat.le_of_ble_eq_true rfl)) d_Md_value_251 ⟨Nat.zero_le _, Nat.zero_le _⟩) hS (fun M547 H locs q548 hP hS => ?_)
                                obtain ⟨hI, fq548, q548p⟩ := q548
                                have hF := fr_call hF fq548 (fun a b q => by unfold mSg at q; unfold mVa; omega)
                                obtain ⟨q548a, q548b, q548c⟩ := q548p
                                have q548d := sg_B q548b q548c
                                have q548e := sg_4 q548b q548c
                                refine lv_iconst (v := 1) hx hb d_Md_value_254 (by decide) ?_
                                refine lv_istore hx hb d_Md_value_255 hl (by decide) rfl (fun ls hl => ?_)
                                have hl : lv_has ls 7 [(5, .int 1), (6, .int (nI c277)), (0, .ref (ad 0)), (1, .int (nI w)), (2, .int (nI k2)), (3, .int (nI k3)), (4, .int (nI k4))] := hl
                                refine lv_iinc (k := 4) (v := nI (k2 + 1)) hx hb d_Md_value_257 hl rfl (nI_add k2 1) (by decide) rfl (fun ls hl => ?_)
                                have hl : lv_has ls 7 [(2, .int (nI (k2 + 1))), (5, .int 1), (6, .int (nI c277)), (0, .ref (ad 0)), (1, .int (nI w)), (3, .int (nI k3)), (4, .int (nI k4))] := hl
                                refine lv_goto hx hb d_Md_value_260 rfl ?_
                                refine lv_goto hx hb d_Md_value_268 rfl ?_
                                exact ih50 (1 * 300 + (250 - (k2 + 1))) (by omega) 1 (k2 + 1) k3 k4 (n544 + 1) v545 1 M547 _ _ ls rfl (show M547 0 31 = nI (n544 + 1) from q548a) (show M547 0 32 = nI v545 from (fq548 _ _ (by unfold mSg; omega)).trans (hv545a)) (show (k2 + 1) ≤ 201 from by first | omega | assumption | exact Or.inl rfl | exact Or.inr rfl | rfl | decide) (show k3 ≤ 200 from by first | omega | assumption | exact Or.inl rfl | exact Or.inr rfl | rfl | decide) (show (n544 + 1) ≤ (k2 + 1) from by first | omega | assumption | exact Or.inl rfl | exact Or.inr rfl | rfl | decide) (show 1 ≤ 1 from by first | omega | assumption | exact Or.inl rfl | exact Or.inr rfl | rfl | decide) (show (1 = 1 ∧ v545 = cP PB (M547 22) (n544 + 1)) ∨ (1 = 0 ∧ v545 = cP PB (M547 22) (n544 + 1) + 1) from by first | (have h11 : (1 : Int32).toInt = 1 := rfl; have h00 : (0 : Int32).toInt = 0 := rfl; omega)) (show k4 ≤ cP P40 (M547 22) (n544 + 1) from by first | (have h11 : (1 : Int32).toInt = 1 := rfl; have h00 : (0 : Int32).toInt = 0 := rfl; omega)) (show 1 = 1 ∨ (M547 0 34).toInt = 1 from by first | exact Or.inl rfl) (show (M547 0 23 = M 0 23) ∧ (M547 0 24 = M 0 24) from by first | exact ⟨((fq548 _ _ (by unfold mSg; omega)).trans (fq543 _ _ (by unfold mAp; omega))).trans c50_7.1, ((fq548 _ _ (by unfold mSg; omega)).trans (fq543 _ _ (by unfold mAp; omega))).trans c50_7.2⟩) hP hI hF hS (lv_sub hl [3, 4, 0, 5, 6, 1] rfl)
                          · have g523 : ¬ (((k4 : Nat) : Int) ≤ 0) := fun q => h523 (Int32.le_iff_toInt_le.mpr (by rw [nI_toInt (n := k4) (by omega)]; exact q))
                            refine lv_aload_n hx hb d_Md_value_196 rfl (lv_at hl 1 rfl) ?_
                            refine lv_iconst (v := 1) hx hb d_Md_value_197 (by decide) ?_
                            refine ux_callv (va_runV ⟨hx, hb, hml, hown, hts⟩ (s_Md_applyFrom l D ad cA A TB hA hB  Mc50 hI n1 v1 (hg_n1) (hg_v1) (by omega) (by omega) (by omega) 1 (by decide)) (cwV 1 hts (tb_goodV ml_Md_367 im_Md_applyFrom se_Md_applyFrom ii_Md kt_Md_applyFrom) rfl rfl rfl (by decide +kernel) ⟨Nat.le_of_ble_eq_true rfl, Nat.le_of_ble_eq_true rfl⟩) (ux_preV (by decide) rfl rfl hP hK hi hN) rfl rfl hl.1 rfl (lv_room (Nat.le_of_ble_eq_true rfl)) d_Md_value_198 ⟨Nat.zero_le _, Nat.zero_le _⟩) hS (fun M550 H locs q551 hP hS => ?_)
                            obtain ⟨hI, fq551, q551p⟩ := q551
                            have hF := fr_call hF fq551 (fun a b q => by unfold mAp at q; unfold mVa; omega)
                            obtain ⟨n552, v553, hn552a, hv553a, hn552b, hv553b, hv553c, hn552d, hn552e⟩ := q551p
                            rw [show (1 : Int32).toInt = 1 from rfl] at hn552e
                            have hn552r : ∀ j, M550 22 j = Mc50 22 j := fun j => fq551 _ _ (by unfold mAp; omega)
                            have hn552B : cP PB (M550 22) n552 = cP PB (Mc50 22) n552 := cP_cong _ (fun j _ => hn552r j)
                            have hn5524 : cP P40 (M550 22) n552 = cP P40 (Mc50 22) n552 := cP_cong _ (fun j _ => hn552r j)
                            have hn552l := cP_le (P := P40) (f := Mc50 22) n552
                            have hn552t := congrArg rk (congrArg Int32.toInt (hn552r (n552 - 1)))
                            have hpop := pop_B (f := M550 22) (n := n552) (by omega) (by omega)
                            refine lv_aload_n hx hb d_Md_value_201 rfl (lv_at hl 1 rfl) ?_
                            refine lv_dup hx hb d_Md_value_202 rfl ?_
                            refine ux_get (C := R_Md) (T := F_Md) (N := 50) hx hb hT in_Md hown hK hP (by decide) rfl rfl 31 (by decide) (hT _ fl_Md_338) rfl d_Md_value_203 ?_
                            refine lv_topi (fun z554 hz554 => ?_)
                            rw [show M550 0 31 = nI n552 from hn552a] at hz554
                            rw [hz554]
                            refine lv_iconst (v := 1) hx hb d_Md_value_206 (by decide) ?_
                            refine lv_isub hx hb d_Md_value_207 ?_
                            refine lv_topi (fun z555 hz555 => ?_)
                            rw [show (nI n552) - (1 : Int32) = nI (n552 - 1) from (pk_sub (a := n552) (b := 1) (by omega)).trans (congrArg nI (show n552 - 1 = n552 - 1 by omega))] at hz555
                            rw [hz555]
                            refine ux_put (C := R_Md) (T := F_Md) (N := 50) hx hb hT in_Md t_Md t_Md_ok n_Md hown hK hi hP hS (by decide) rfl rfl 31 (by decide) (hT _ fl_Md_338) rfl (rfl) (rfl) rfl d_Md_value_208 (fun H locs hP hS => ?_)
                            have hI := IvM_wr (k := 0) (j := 31) (v := nI (n552 - 1)) hI (show (0 : Int) ≤ (nI (n552 - 1) : Int32).toInt from (by rw [nI_toInt (n := n552 - 1) (by omega)]; omega)) (show (nI (n552 - 1) : Int32).toInt ≤ (210 : Int) from (by rw [nI_toInt (n := n552 - 1) (by omega)]; omega)) (by unfold okW; omega)
                            have hF := fr_wr (k := 0) (j := 31) (v := nI (n552 - 1)) hF (by unfold mVa; omega)
                            generalize eM556 : ux_wr M550 0 31 (nI (n552 - 1)) = M556 at hP hI hF
                            have tM556 : (M556 0 31).toInt = ((n552 - 1 : Nat) : Int) := by rw [wr_at eM556]; exact nI_toInt (by omega)
                            refine lv_iinc (k := 5) (v := nI (k4 - 1)) hx hb d_Md_value_211 hl rfl (nI_dec (k := k4) (by omega) (by omega)) (by decide) rfl (fun ls hl => ?_)
                            have hl : lv_has ls 7 [(4, .int (nI (k4 - 1))), (6, .int (nI c277)), (0, .ref (ad 0)), (1, .int (nI w)), (2, .int (nI k2)), (3, .int (nI k3)), (5, .int i_5)] := hl
                            refine lv_iinc (k := 4) (v := nI (k2 + 1)) hx hb d_Md_value_214 hl rfl (nI_add k2 1) (by decide) rfl (fun ls hl => ?_)
                            have hl : lv_has ls 7 [(2, .int (nI (k2 + 1))), (4, .int (nI (k4 - 1))), (6, .int (nI c277)), (0, .ref (ad 0)), (1, .int (nI w)), (3, .int (nI k3)), (5, .int i_5)] := hl
                            refine lv_goto hx hb d_Md_value_217 rfl ?_
                            refine lv_goto hx hb d_Md_value_268 rfl ?_
                            exact ih50 (1 * 300 + (250 - (k2 + 1))) (by omega) i_5 (k2 + 1) k3 (k4 - 1) (n552 - 1) v553 1 M556 _ _ ls rfl (show M556 0 31 = nI (n552 - 1) from wr_at eM556) (show M556 0 32 = nI v553 from (wr_off eM556 (by omega)).trans (hv553a)) (show (k2 + 1) ≤ 201 from by first | omega | assumption | exact Or.inl rfl | exact Or.inr rfl | rfl | decide) (show k3 ≤ 200 from by first | omega | assumption | exact Or.inl rfl | exact Or.inr rfl | rfl | decide) (show (n552 - 1) ≤ (k2 + 1) from by first | omega | assumption | exact Or.inl rfl | exact Or.inr rfl | rfl | decide) (show 1 ≤ 1 from by first | omega | assumption | exact Or.inl rfl | exact Or.inr rfl | rfl | decide) (show (i_5.toInt = 1 ∧ v553 = cP PB (M556 22) (n552 - 1)) ∨ (i_5.toInt = 0 ∧ v553 = cP PB (M556 22) (n552 - 1) + 1) from by first | (have h11 : (1 : Int32).toInt = 1 := rfl; have h00 : (0 : Int32).toInt = 0 := rfl; have : cP PB (M556 22) (n552 - 1) = cP PB (M550 22) (n552 - 1) := cP_cong _ (fun j _ => wr_off eM556 (by omega)); have : cP P40 (M556 22) (n552 - 1) = cP P40 (M550 22) (n552 - 1) := cP_cong _ (fun j _ => wr_off eM556 (by omega)); omega)) (show (k4 - 1) ≤ cP P40 (M556 22) (n552 - 1) from by first | (have h11 : (1 : Int32).toInt = 1 := rfl; have h00 : (0 : Int32).toInt = 0 := rfl; have : cP PB (M556 22) (n552 - 1) = cP PB (M550 22) (n552 - 1) := cP_cong _ (fun j _ => wr_off eM556 (by omega)); have : cP P40 (M556 22) (n552 - 1) = cP P40 (M550 22) (n552 - 1) := cP_cong _ (fun j _ => wr_off eM556 (by omega)); omega)) (show 1 = 1 ∨ (M556 0 34).toInt = 1 from by first | exact Or.inl rfl) (show (M556 0 23 = M 0 23) ∧ (M556 0 24 = M 0 24) from by first | exact ⟨((wr_off eM556 (by omega)).trans (fq551 _ _ (by unfold mAp; omega))).trans c50_7.1, ((wr_off eM556 (by omega)).trans (fq551 _ _ (by unfold mAp; omega))).trans c50_7.2⟩) hP hI hF hS (lv_sub hl [3, 4, 0, 5, 1, 6] rfl)
                      · have g496 : ¬ (i_5.toInt = 0) := fun q => h496 (Int32.toInt_inj.mp q)
                        refine lv_aload_n hx hb d_Md_value_171 rfl (lv_at hl 1 rfl) ?_
                        refine lv_iload_n hx hb d_Md_value_172 rfl (lv_at hl 3 rfl) ?_
                        refine lv_iload_n hx hb d_Md_value_173 rfl (lv_at hl 4 rfl) ?_
                        refine ux_calli (va_runV ⟨hx, hb, hml, hown, hts⟩ (s_Md_operand l D ad cA A TB hA hB  Mc50 hI L hL ((hF _ _ (by unfold mVa; omega)).trans hlv) k2 k3 v1 (by omega) (by omega) (hg_v1) (by omega)) (cwV 2 hts (tb_goodV ml_Md_363 im_Md_operand se_Md_operand ii_Md kt_Md_operand) rfl rfl rfl (by decide +kernel) ⟨Nat.le_of_ble_eq_true rfl, Nat.le_of_ble_eq_true rfl⟩) (ux_preV (by decide) rfl rfl hP hK hi hN) rfl rfl hl.1 rfl (lv_room (Nat.le_of_ble_eq_true rfl)) d_Md_value_174 ⟨Nat.zero_le _, Nat.zero_le _⟩) hS (fun r557 M558 H locs q559 hP hS => ?_)
                        obtain ⟨hI, fq559, q559p⟩ := q559
                        have hF := fr_call hF fq559 (fun a b q => by unfold mOp at q; unfold mVa; omega)
                        obtain ⟨q559a, ⟨q9, hq9, hq9a, hq9b, hq9c⟩, hq9d⟩ := q559p
                        subst hq9
                        obtain ⟨g2, hg2, hg2b, hg2c⟩ : ∃ g2 : Nat, g2 ≤ 1 ∧ (g2 = 1 ∨ (M558 0 34).toInt = 1) ∧ (g2 = 0 ∨ k2 < q9) := by
                          rcases hq9c with z | z
                          · exact ⟨0, by omega, Or.inr z, Or.inl rfl⟩
                          · exact ⟨1, by omega, Or.inl rfl, Or.inr z⟩
                        refine lv_istore_n hx hb d_Md_value_177 rfl hl (by decide) rfl (fun ls hl => ?_)
                        have hl : lv_has ls 7 [(2, .int (nI q9)), (6, .int (nI c277)), (0, .ref (ad 0)), (1, .int (nI w)), (3, .int (nI k3)), (4, .int (nI k4)), (5, .int i_5)] := hl
                        refine lv_iconst (v := 0) hx hb d_Md_value_178 (by decide) ?_
                        refine lv_istore hx hb d_Md_value_179 hl (by decide) rfl (fun ls hl => ?_)
                        have hl : lv_has ls 7 [(5, .int 0), (2, .int (nI q9)), (6, .int (nI c277)), (0, .ref (ad 0)), (1, .int (nI w)), (3, .int (nI k3)), (4, .int (nI k4))] := hl
                        refine lv_goto hx hb d_Md_value_181 rfl ?_
                        refine lv_goto hx hb d_Md_value_268 rfl ?_
                        exact ih50 (g2 * 300 + (250 - q9)) (by omega) 0 q9 k3 k4 n1 (v1 + 1) g2 M558 _ _ ls rfl (show M558 0 31 = nI n1 from (fq559 _ _ (by unfold mOp; omega)).trans (hg_n1)) (show M558 0 32 = nI (v1 + 1) from q559a) (show q9 ≤ 201 from by first | omega | assumption | exact Or.inl rfl | exact Or.inr rfl | rfl | decide) (show k3 ≤ 200 from by first | omega | assumption | exact Or.inl rfl | exact Or.inr rfl | rfl | decide) (show n1 ≤ q9 from by first | omega | assumption | exact Or.inl rfl | exact Or.inr rfl | rfl | decide) (show g2 ≤ 1 from by first | omega | assumption | exact Or.inl rfl | exact Or.inr rfl | rfl | decide) (show (0 = 1 ∧ (v1 + 1) = cP PB (M558 22) n1) ∨ (0 = 0 ∧ (v1 + 1) = cP PB (M558 22) n1 + 1) from by first | (have h11 : (1 : Int32).toInt = 1 := rfl; have h00 : (0 : Int32).toInt = 0 := rfl; have : cP PB (M558 22) (n1) = cP PB (Mc50 22) (n1) := cP_cong _ (fun j _ => fq559 _ _ (by unfold mOp; omega)); have : cP P40 (M558 22) (n1) = cP P40 (Mc50 22) (n1) := cP_cong _ (fun j _ => fq559 _ _ (by unfold mOp; omega)); omega)) (show k4 ≤ cP P40 (M558 22) n1 from by first | (have h11 : (1 : Int32).toInt = 1 := rfl; have h00 : (0 : Int32).toInt = 0 := rfl; have : cP PB (M558 22) (n1) = cP PB (Mc50 22) (n1) := cP_cong _ (fun j _ => fq559 _ _ (by unfold mOp; omega)); have : cP P40 (M558 22) (n1) = cP P40 (Mc50 22) (n1) := cP_cong _ (fun j _ => fq559 _ _ (by unfold mOp; omega)); omega)) (show g2 = 1 ∨ (M558 0 34).toInt = 1 from by first | exact hg2b | (omega)) (show (M558 0 23 = M 0 23) ∧ (M558 0 24 = M 0 24) from by first | exact ⟨(fq559 _ _ (by unfold mOp; omega)).trans c50_7.1, (fq559 _ _ (by unfold mOp; omega)).trans c50_7.2⟩) hP hI hF hS (lv_sub hl [3, 4, 1, 5, 6, 0] rfl)
                    · have g495 : ((c277 : Nat) : Int) = 40 := by have q := congrArg Int32.toInt h495; rw [nI_toInt (n := c277) (by omega)] at q; exact q
                      refine lv_iinc (k := 5) (v := nI (k4 + 1)) hx hb d_Md_value_139 hl rfl (nI_add k4 1) (by decide) rfl (fun ls hl => ?_)
                      have hl : lv_has ls 7 [(4, .int (nI (k4 + 1))), (6, .int (nI c277)), (0, .ref (ad 0)), (1, .int (nI w)), (2, .int (nI k2)), (3, .int (nI k3)), (5, .int i_5)] := hl
                      refine lv_iload hx hb d_Md_value_142 (lv_at hl 0 rfl) ?_
                      refine lv_bipush (v := 8) hx hb d_Md_value_144 (by decide) ?_
                      refine lv_icmp_le hx hb d_Md_value_146 rfl (fun h560 => ?_) (fun h560 => ?_)
                      · have g560 : ((k4 + 1 : Nat) : Int) ≤ 8 := by have q := Int32.le_iff_toInt_le.mp h560; rw [nI_toInt (n := k4 + 1) (by omega)] at q; exact q
                        refine lv_aload_n hx hb d_Md_value_154 rfl (lv_at hl 2 rfl) ?_
                        refine lv_bipush (v := 40) hx hb d_Md_value_155 (by decide) ?_
                        refine ux_callv (va_runV ⟨hx, hb, hml, hown, hts⟩ (s_Md_sign l D ad cA A TB hA hB  Mc50 hI (n1) (hg_n1) (by omega) 40) (cwV 1 hts (tb_goodV ml_Md_360 im_Md_sign se_Md_sign ii_Md kt_Md_sign) rfl rfl rfl (by decide +kernel) ⟨Nat.le_of_ble_eq_true rfl, Nat.le_of_ble_eq_true rfl⟩) (ux_preV (by decide) rfl rfl hP hK hi hN) rfl rfl hl.1 rfl (lv_room (Nat.le_of_ble_eq_true rfl)) d_Md_value_157 ⟨Nat.zero_le _, Nat.zero_le _⟩) hS (fun M562 H locs q563 hP hS => ?_)
                        obtain ⟨hI, fq563, q563p⟩ := q563
                        have hF := fr_call hF fq563 (fun a b q => by unfold mSg at q; unfold mVa; omega)
                        obtain ⟨q563a, q563b, q563c⟩ := q563p
                        have q563d := sg_B q563b q563c
                        have q563e := sg_4 q563b q563c
                        rw [show (40 : Int32).toInt = 40 from rfl] at q563d q563e
                        have q563k : rk 40 = 0 := by decide
                        rw [q563k] at q563d
                        refine lv_iinc (k := 4) (v := nI (k2 + 1)) hx hb d_Md_value_160 hl rfl (nI_add k2 1) (by decide) rfl (fun ls hl => ?_)
                        have hl : lv_has ls 7 [(2, .int (nI (k2 + 1))), (4, .int (nI (k4 + 1))), (6, .int (nI c277)), (0, .ref (ad 0)), (1, .int (nI w)), (3, .int (nI k3)), (5, .int i_5)] := hl
                        refine lv_goto hx hb d_Md_value_163 rfl ?_
                        refine lv_goto hx hb d_Md_value_268 rfl ?_
                        exact ih50 (1 * 300 + (250 - (k2 + 1))) (by omega) i_5 (k2 + 1) k3 (k4 + 1) (n1 + 1) v1 1 M562 _ _ ls rfl (show M562 0 31 = nI (n1 + 1) from q563a) (show M562 0 32 = nI v1 from (fq563 _ _ (by unfold mSg; omega)).trans (hg_v1)) (show (k2 + 1) ≤ 201 from by first | omega | assumption | exact Or.inl rfl | exact Or.inr rfl | rfl | decide) (show k3 ≤ 200 from by first | omega | assumption | exact Or.inl rfl | exact Or.inr rfl | rfl | decide) (show (n1 + 1) ≤ (k2 + 1) from by first | omega | assumption | exact Or.inl rfl | exact Or.inr rfl | rfl | decide) (show 1 ≤ 1 from by first | omega | assumption | exact Or.inl rfl | exact Or.inr rfl | rfl | decide) (show (i_5.toInt = 1 ∧ v1 = cP PB (M562 22) (n1 + 1)) ∨ (i_5.toInt = 0 ∧ v1 = cP PB (M562 22) (n1 + 1) + 1) from by first | (have h11 : (1 : Int32).toInt = 1 := rfl; have h00 : (0 : Int32).toInt = 0 := rfl; omega)) (show (k4 + 1) ≤ cP P40 (M562 22) (n1 + 1) from by first | (have h11 : (1 : Int32).toInt = 1 := rfl; have h00 : (0 : Int32).toInt = 0 := rfl; omega)) (show 1 = 1 ∨ (M562 0 34).toInt = 1 from by first | exact Or.inl rfl) (show (M562 0 23 = M 0 23) ∧ (M562 0 24 = M 0 24) from by first | exact ⟨(fq563 _ _ (by unfold mSg; omega)).trans c50_7.1, (fq563 _ _ (by unfold mSg; omega)).trans c50_7.2⟩) hP hI hF hS (lv_sub hl [3, 4, 0, 5, 1, 6] rfl)
                      · have g560 : ¬ (((k4 + 1 : Nat) : Int) ≤ 8) := fun q => h560 (Int32.le_iff_toInt_le.mpr (by rw [nI_toInt (n := k4 + 1) (by omega)]; exact q))
                        refine lv_aload_n hx hb d_Md_value_149 rfl (lv_at hl 2 rfl) ?_
                        refine lv_iconst (v := 1) hx hb d_Md_value_150 (by decide) ?_
                        refine ux_callv (va_runV ⟨hx, hb, hml, hown, hts⟩ (s_Md_ill l D ad cA A TB hA hB  Mc50 hI 1) (cwV 1 hts (tb_goodV ml_Md_354 im_Md_ill se_Md_ill ii_Md kt_Md_ill) rfl rfl rfl (by decide +kernel) ⟨Nat.le_of_ble_eq_true rfl, Nat.le_of_ble_eq_true rfl⟩) (ux_preV (by decide) rfl rfl hP hK hi hN) rfl rfl hl.1 rfl (lv_room (Nat.le_of_ble_eq_true rfl)) d_Md_value_151 ⟨Nat.zero_le _, Nat.zero_le _⟩) hS (fun M565 H locs q566 hP hS => ?_)
                        obtain ⟨hI, fq566, q566p⟩ := q566
                        have hF := fr_call hF fq566 (fun a b q => by unfold mIl at q; unfold mVa; omega)
                        rw [show (1 : Int32).toInt = 1 from rfl] at q566p
                        refine lv_aload_n hx hb d_Md_value_154 rfl (lv_at hl 2 rfl) ?_
                        refine lv_bipush (v := 40) hx hb d_Md_value_155 (by decide) ?_
                        refine ux_callv (va_runV ⟨hx, hb, hml, hown, hts⟩ (s_Md_sign l D ad cA A TB hA hB  M565 hI (n1) ((fq566 _ _ (by unfold mIl; omega)).trans (hg_n1)) (by omega) 40) (cwV 1 hts (tb_goodV ml_Md_360 im_Md_sign se_Md_sign ii_Md kt_Md_sign) rfl rfl rfl (by decide +kernel) ⟨Nat.le_of_ble_eq_true rfl, Nat.le_of_ble_eq_true rfl⟩) (ux_preV (by decide) rfl rfl hP hK hi hN) rfl rfl hl.1 rfl (lv_room (Nat.le_of_ble_eq_true rfl)) d_Md_value_157 ⟨Nat.zero_le _, Nat.zero_le _⟩) hS (fun M568 H locs q569 hP hS => ?_)
                        obtain ⟨hI, fq569, q569p⟩ := q569
                        have hF := fr_call hF fq569 (fun a b q => by unfold mSg at q; unfold mVa; omega)
                        obtain ⟨q569a, q569b, q569c⟩ := q569p
                        have q569d := sg_B q569b q569c
                        have q569e := sg_4 q569b q569c
                        rw [show (40 : Int32).toInt = 40 from rfl] at q569d q569e
                        have q569k : rk 40 = 0 := by decide
                        rw [q569k] at q569d
                        refine lv_iinc (k := 4) (v := nI (k2 + 1)) hx hb d_Md_value_160 hl rfl (nI_add k2 1) (by decide) rfl (fun ls hl => ?_)
                        have hl : lv_has ls 7 [(2, .int (nI (k2 + 1))), (4, .int (nI (k4 + 1))), (6, .int (nI c277)), (0, .ref (ad 0)), (1, .int (nI w)), (3, .int (nI k3)), (5, .int i_5)] := hl
                        refine lv_goto hx hb d_Md_value_163 rfl ?_
                        refine lv_goto hx hb d_Md_value_268 rfl ?_
                        exact ih50 (0 * 300 + (250 - (k2 + 1))) (by omega) i_5 (k2 + 1) k3 (k4 + 1) (n1 + 1) v1 0 M568 _ _ ls rfl (show M568 0 31 = nI (n1 + 1) from q569a) (show M568 0 32 = nI v1 from (fq569 _ _ (by unfold mSg; omega)).trans ((fq566 _ _ (by unfold mIl; omega)).trans (hg_v1))) (show (k2 + 1) ≤ 201 from by first | omega | assumption | exact Or.inl rfl | exact Or.inr rfl | rfl | decide) (show k3 ≤ 200 from by first | omega | assumption | exact Or.inl rfl | exact Or.inr rfl | rfl | decide) (show (n1 + 1) ≤ (k2 + 1) from by first | omega | assumption | exact Or.inl rfl | exact Or.inr rfl | rfl | decide) (show 0 ≤ 1 from by first | omega | assumption | exact Or.inl rfl | exact Or.inr rfl | rfl | decide) (show (i_5.toInt = 1 ∧ v1 = cP PB (M568 22) (n1 + 1)) ∨ (i_5.toInt = 0 ∧ v1 = cP PB (M568 22) (n1 + 1) + 1) from by first | (have h11 : (1 : Int32).toInt = 1 := rfl; have h00 : (0 : Int32).toInt = 0 := rfl; have : cP PB (M565 22) (n1) = cP PB (Mc50 22) (n1) := cP_cong _ (fun j _ => fq566 _ _ (by unfold mIl; omega)); have : cP P40 (M565 22) (n1) = cP P40 (Mc50 22) (n1) := cP_cong _ (fun j _ => fq566 _ _ (by unfold mIl; omega)); omega)) (show (k4 + 1) ≤ cP P40 (M568 22) (n1 + 1) from by first | (have h11 : (1 : Int32).toInt = 1 := rfl; have h00 : (0 : Int32).toInt = 0 := rfl; have : cP PB (M565 22) (n1) = cP PB (Mc50 22) (n1) := cP_cong _ (fun j _ => fq566 _ _ (by unfold mIl; omega)); have : cP P40 (M565 22) (n1) = cP P40 (Mc50 22) (n1) := cP_cong _ (fun j _ => fq566 _ _ (by unfold mIl; omega)); omega)) (show 0 = 1 ∨ (M568 0 34).toInt = 1 from by first | (have := congrArg Int32.toInt (show M568 0 34 = M565 0 34 from fq569 _ _ (by unfold mSg; omega)); omega)) (show (M568 0 23 = M 0 23) ∧ (M568 0 24 = M 0 24) from by first | exact ⟨((fq569 _ _ (by unfold mSg; omega)).trans (fq566 _ _ (by unfold mIl; omega))).trans c50_7.1, ((fq569 _ _ (by unfold mSg; omega)).trans (fq566 _ _ (by unfold mIl; omega))).trans c50_7.2⟩) hP hI hF hS (lv_sub hl [3, 4, 0, 5, 1, 6] rfl)
                · have g429 : ((c277 : Nat) : Int) = 33 := by have q := congrArg Int32.toInt h429; rw [nI_toInt (n := c277) (by omega)] at q; exact q
                  refine lv_aload_n hx hb d_Md_value_103 rfl (lv_at hl 1 rfl) ?_
                  refine lv_iload hx hb d_Md_value_104 (lv_at hl 0 rfl) ?_
                  refine lv_bipush (v := 45) hx hb d_Md_value_106 (by decide) ?_
                  refine lv_icmp_ne hx hb d_Md_value_108 rfl (fun h570 => ?_) (fun h570 => ?_)
                  · have g570 : ¬ (((c277 : Nat) : Int) = 45) := fun q => h570 (Int32.toInt_inj.mp (by rw [nI_toInt (n := c277) (by omega)]; exact q))
                    refine lv_bipush (v := 33) hx hb d_Md_value_116 (by decide) ?_
                    refine ux_callv (va_runV ⟨hx, hb, hml, hown, hts⟩ (s_Md_sign l D ad cA A TB hA hB  Mc50 hI (n1) (hg_n1) (by omega) 33) (cwV 1 hts (tb_goodV ml_Md_360 im_Md_sign se_Md_sign ii_Md kt_Md_sign) rfl rfl rfl (by decide +kernel) ⟨Nat.le_of_ble_eq_true rfl, Nat.le_of_ble_eq_true rfl⟩) (ux_preV (by decide) rfl rfl hP hK hi hN) rfl rfl hl.1 rfl (lv_room (Nat.le_of_ble_eq_true rfl)) d_Md_value_118 ⟨Nat.zero_le _, Nat.zero_le _⟩) hS (fun M572 H locs q573 hP hS => ?_)
                    obtain ⟨hI, fq573, q573p⟩ := q573
                    have hF := fr_call hF fq573 (fun a b q => by unfold mSg at q; unfold mVa; omega)
                    obtain ⟨q573a, q573b, q573c⟩ := q573p
                    have q573d := sg_B q573b q573c
                    have q573e := sg_4 q573b q573c
                    rw [show (33 : Int32).toInt = 33 from rfl] at q573d q573e
                    have q573k : rk 33 = 7 := by decide
                    rw [q573k] at q573d
                    refine lv_iinc (k := 3) (v := nI (k2 + 1)) hx hb d_Md_value_121 hl rfl (nI_add k2 1) (by decide) rfl (fun ls hl => ?_)
                    have hl : lv_has ls 7 [(2, .int (nI (k2 + 1))), (6, .int (nI c277)), (0, .ref (ad 0)), (1, .int (nI w)), (3, .int (nI k3)), (4, .int (nI k4)), (5, .int i_5)] := hl
                    refine lv_goto hx hb d_Md_value_124 rfl ?_
                    refine lv_goto hx hb d_Md_value_268 rfl ?_
                    exact ih50 (1 * 300 + (250 - (k2 + 1))) (by omega) i_5 (k2 + 1) k3 k4 (n1 + 1) v1 1 M572 _ _ ls rfl (show M572 0 31 = nI (n1 + 1) from q573a) (show M572 0 32 = nI v1 from (fq573 _ _ (by unfold mSg; omega)).trans (hg_v1)) (show (k2 + 1) ≤ 201 from by first | omega | assumption | exact Or.inl rfl | exact Or.inr rfl | rfl | decide) (show k3 ≤ 200 from by first | omega | assumption | exact Or.inl rfl | exact Or.inr rfl | rfl | decide) (show (n1 + 1) ≤ (k2 + 1) from by first | omega | assumption | exact Or.inl rfl | exact Or.inr rfl | rfl | decide) (show 1 ≤ 1 from by first | omega | assumption | exact Or.inl rfl | exact Or.inr rfl | rfl | decide) (show (i_5.toInt = 1 ∧ v1 = cP PB (M572 22) (n1 + 1)) ∨ (i_5.toInt = 0 ∧ v1 = cP PB (M572 22) (n1 + 1) + 1) from by first | (have h11 : (1 : Int32).toInt = 1 := rfl; have h00 : (0 : Int32).toInt = 0 := rfl; omega)) (show k4 ≤ cP P40 (M572 22) (n1 + 1) from by first | (have h11 : (1 : Int32).toInt = 1 := rfl; have h00 : (0 : Int32).toInt = 0 := rfl; omega)) (show 1 = 1 ∨ (M572 0 34).toInt = 1 from by first | exact Or.inl rfl) (show (M572 0 23 = M 0 23) ∧ (M572 0 24 = M 0 24) from by first | exact ⟨(fq573 _ _ (by unfold mSg; omega)).trans c50_7.1, (fq573 _ _ (by unfold mSg; omega)).trans c50_7.2⟩) hP hI hF hS (lv_sub hl [2, 3, 0, 4, 5, 6] rfl)
                  · have g570 : ((c277 : Nat) : Int) = 45 := by have q := congrArg Int32.toInt h570; rw [nI_toInt (n := c277) (by omega)] at q; exact q
                    refine lv_bipush (v := 110) hx hb d_Md_value_111 (by decide) ?_
                    refine lv_goto hx hb d_Md_value_113 rfl ?_
                    refine ux_callv (va_runV ⟨hx, hb, hml, hown, hts⟩ (s_Md_sign l D ad cA A TB hA hB  Mc50 hI (n1) (hg_n1) (by omega) 110) (cwV 1 hts (tb_goodV ml_Md_360 im_Md_sign se_Md_sign ii_Md kt_Md_sign) rfl rfl rfl (by decide +kernel) ⟨Nat.le_of_ble_eq_true rfl, Nat.le_of_ble_eq_true rfl⟩) (ux_preV (by decide) rfl rfl hP hK hi hN) rfl rfl hl.1 rfl (lv_room (Nat.le_of_ble_eq_true rfl)) d_Md_value_118 ⟨Nat.zero_le _, Nat.zero_le _⟩) hS (fun M575 H locs q576 hP hS => ?_)
                    obtain ⟨hI, fq576, q576p⟩ := q576
                    have hF := fr_call hF fq576 (fun a b q => by unfold mSg at q; unfold mVa; omega)
                    obtain ⟨q576a, q576b, q576c⟩ := q576p
                    have q576d := sg_B q576b q576c
                    have q576e := sg_4 q576b q576c
                    rw [show (110 : Int32).toInt = 110 from rfl] at q576d q576e
                    have q576k : rk 110 = 7 := by decide
                    rw [q576k] at q576d
                    refine lv_iinc (k := 3) (v := nI (k2 + 1)) hx hb d_Md_value_121 hl rfl (nI_add k2 1) (by decide) rfl (fun ls hl => ?_)
                    have hl : lv_has ls 7 [(2, .int (nI (k2 + 1))), (6, .int (nI c277)), (0, .ref (ad 0)), (1, .int (nI w)), (3, .int (nI k3)), (4, .int (nI k4)), (5, .int i_5)] := hl
                    refine lv_goto hx hb d_Md_value_124 rfl ?_
                    refine lv_goto hx hb d_Md_value_268 rfl ?_
                    exact ih50 (1 * 300 + (250 - (k2 + 1))) (by omega) i_5 (k2 + 1) k3 k4 (n1 + 1) v1 1 M575 _ _ ls rfl (show M575 0 31 = nI (n1 + 1) from q576a) (show M575 0 32 = nI v1 from (fq576 _ _ (by unfold mSg; omega)).trans (hg_v1)) (show (k2 + 1) ≤ 201 from by first | omega | assumption | exact Or.inl rfl | exact Or.inr rfl | rfl | decide) (show k3 ≤ 200 from by first | omega | assumption | exact Or.inl rfl | exact Or.inr rfl | rfl | decide) (show (n1 + 1) ≤ (k2 + 1) from by first | omega | assumption | exact Or.inl rfl | exact Or.inr rfl | rfl | decide) (show 1 ≤ 1 from by first | omega | assumption | exact Or.inl rfl | exact Or.inr rfl | rfl | decide) (show (i_5.toInt = 1 ∧ v1 = cP PB (M575 22) (n1 + 1)) ∨ (i_5.toInt = 0 ∧ v1 = cP PB (M575 22) (n1 + 1) + 1) from by first | (have h11 : (1 : Int32).toInt = 1 := rfl; have h00 : (0 : Int32).toInt = 0 := rfl; omega)) (show k4 ≤ cP P40 (M575 22) (n1 + 1) from by first | (have h11 : (1 : Int32).toInt = 1 := rfl; have h00 : (0 : Int32).toInt = 0 := rfl; omega)) (show 1 = 1 ∨ (M575 0 34).toInt = 1 from by first | exact Or.inl rfl) (show (M575 0 23 = M 0 23) ∧ (M575 0 24 = M 0 24) from by first | exact ⟨(fq576 _ _ (by unfold mSg; omega)).trans c50_7.1, (fq576 _ _ (by unfold mSg; omega)).trans c50_7.2⟩) hP hI hF hS (lv_sub hl [2, 3, 0, 4, 5, 6] rfl)
          · have g279 : ((c277 : Nat) : Int) = 32 := by have q := congrArg Int32.toInt h279; rw [nI_toInt (n := c277) (by omega)] at q; exact q
            refine lv_iinc (k := 3) (v := nI (k2 + 1)) hx hb d_Md_value_78 hl rfl (nI_add k2 1) (by decide) rfl (fun ls hl => ?_)
            have hl : lv_has ls 7 [(2, .int (nI (k2 + 1))), (6, .int (nI c277)), (0, .ref (ad 0)), (1, .int (nI w)), (3, .int (nI k3)), (4, .int (nI k4)), (5, .int i_5)] := hl
            refine lv_goto hx hb d_Md_value_81 rfl ?_
            refine lv_goto hx hb d_Md_value_268 rfl ?_
            exact ih50 (1 * 300 + (250 - (k2 + 1))) (by omega) i_5 (k2 + 1) k3 k4 n1 v1 1 Mc50 _ _ ls rfl (show Mc50 0 31 = nI n1 from hg_n1) (show Mc50 0 32 = nI v1 from hg_v1) (show (k2 + 1) ≤ 201 from by first | omega | assumption | exact Or.inl rfl | exact Or.inr rfl | rfl | decide) (show k3 ≤ 200 from by first | omega | assumption | exact Or.inl rfl | exact Or.inr rfl | rfl | decide) (show n1 ≤ (k2 + 1) from by first | omega | assumption | exact Or.inl rfl | exact Or.inr rfl | rfl | decide) (show 1 ≤ 1 from by first | omega | assumption | exact Or.inl rfl | exact Or.inr rfl | rfl | decide) (show (i_5.toInt = 1 ∧ v1 = cP PB (Mc50 22) n1) ∨ (i_5.toInt = 0 ∧ v1 = cP PB (Mc50 22) n1 + 1) from by first | (have h11 : (1 : Int32).toInt = 1 := rfl; have h00 : (0 : Int32).toInt = 0 := rfl; omega)) (show k4 ≤ cP P40 (Mc50 22) n1 from by first | (have h11 : (1 : Int32).toInt = 1 := rfl; have h00 : (0 : Int32).toInt = 0 := rfl; omega)) (show 1 = 1 ∨ (Mc50 0 34).toInt = 1 from by first | exact Or.inl rfl) (show (Mc50 0 23 = M 0 23) ∧ (Mc50 0 24 = M 0 24) from by first | exact ⟨(rfl).trans c50_7.1, (rfl).trans c50_7.2⟩) hP hI hF hS (lv_sub hl [2, 3, 0, 4, 5, 6] rfl)
  refine lv_aload_n hx hb d_Md_value_0 rfl (lv_at hl 0 rfl) ?_
  refine ux_get (C := R_Md) (T := F_Md) (N := 50) hx hb hT in_Md hown hK hP (by decide) rfl rfl 20 (by decide) (hT _ fl_Md_67) rfl d_Md_value_1 ?_
  refine lv_aload_n hx hb d_Md_value_4 rfl (lv_at hl 0 rfl) ?_
  refine lv_iload_n hx hb d_Md_value_5 rfl (lv_at hl 1 rfl) ?_
  refine ux_calli (va_runV ⟨hx, hb, hml, hown, hts⟩ (s_Md_word l D ad cA A TB hA hB  M hI L hL (hlv) w) (cwV 1 hts (tb_goodV ml_Md_155 im_Md_word se_Md_word ii_Md kt_Md_word) rfl rfl rfl (by decide +kernel) ⟨Nat.le_of_ble_eq_true rfl, Nat.le_of_ble_eq_true rfl⟩) (ux_preV (by decide) rfl rfl hP hK hi hN) rfl rfl hl.1 rfl (lv_room (Nat.le_of_ble_eq_true rfl)) d_Md_value_6 ⟨Nat.zero_le _, Nat.zero_le _⟩) hS (fun r577 M578 H locs q579 hP hS => ?_)
  obtain ⟨hI, fq579, q579p⟩ := q579
  rw [tN_eq fq579] at hP hI
  subst q579p
  refine ux_iald hx hb hK hP (by decide) rfl (vp_in_nI (show 8 * L + w < 65 by omega) (by decide)) d_Md_value_9 ?_
  rw [nI_clamp (n := 8 * L + w) (by omega)]
  refine lv_topi (fun z581 hz581 => ?_)
  obtain ⟨c580, hc580, ec580⟩ := nat_of (x := M 18 (8 * L + w)) (n := 200) (hI.1 18 (8 * L + w)).1 (hI.1 18 (8 * L + w)).2
  rw [ec580] at hz581
  rw [hz581]
  have tc580 : (M 18 (8 * L + w)).toInt = (c580 : Int) := by rw [ec580]; exact nI_toInt (by omega)
  refine lv_istore_n hx hb d_Md_value_10 rfl hl (by decide) rfl (fun ls hl => ?_)
  have hl : lv_has ls 7 [(2, .int (nI c580)), (0, .ref (ad 0)), (1, .int (nI w))] := hl
  have hwd := (hI.2.1 (8 * L + w) (by omega)).2 hbr
  refine lv_iload_n hx hb d_Md_value_11 rfl (lv_at hl 0 rfl) ?_
  refine lv_aload_n hx hb d_Md_value_12 rfl (lv_at hl 1 rfl) ?_
  refine ux_get (C := R_Md) (T := F_Md) (N := 50) hx hb hT in_Md hown hK hP (by decide) rfl rfl 21 (by decide) (hT _ fl_Md_70) rfl d_Md_value_13 ?_
  refine lv_aload_n hx hb d_Md_value_16 rfl (lv_at hl 1 rfl) ?_
  refine lv_iload_n hx hb d_Md_value_17 rfl (lv_at hl 2 rfl) ?_
  refine ux_calli (va_runV ⟨hx, hb, hml, hown, hts⟩ (s_Md_word l D ad cA A TB hA hB  M hI L hL (hlv) w) (cwV 1 hts (tb_goodV ml_Md_155 im_Md_word se_Md_word ii_Md kt_Md_word) rfl rfl rfl (by decide +kernel) ⟨Nat.le_of_ble_eq_true rfl, Nat.le_of_ble_eq_true rfl⟩) (ux_preV (by decide) rfl rfl hP hK hi hN) rfl rfl hl.1 rfl (lv_room (Nat.le_of_ble_eq_true rfl)) d_Md_value_18 ⟨Nat.zero_le _, Nat.zero_le _⟩) hS (fun r582 M583 H locs q584 hP hS => ?_)
  obtain ⟨hI, fq584, q584p⟩ := q584
  rw [tN_eq fq584] at hP hI
  subst q584p
  refine ux_iald hx hb hK hP (by decide) rfl (vp_in_nI (show 8 * L + w < 65 by omega) (by decide)) d_Md_value_21 ?_
  rw [nI_clamp (n := 8 * L + w) (by omega)]
  refine lv_topi (fun z586 hz586 => ?_)
  obtain ⟨c585, hc585, ec585⟩ := nat_of (x := M 19 (8 * L + w)) (n := 200) (hI.1 19 (8 * L + w)).1 (hI.1 19 (8 * L + w)).2
  rw [ec585] at hz586
  rw [hz586]
  have tc585 : (M 19 (8 * L + w)).toInt = (c585 : Int) := by rw [ec585]; exact nI_toInt (by omega)
  refine lv_iadd hx hb d_Md_value_22 ?_
  refine lv_topi (fun z587 hz587 => ?_)
  rw [show (nI c580) + (nI c585) = nI (c580 + c585) from nI_add c580 c585] at hz587
  rw [hz587]
  refine lv_istore_n hx hb d_Md_value_23 rfl hl (by decide) rfl (fun ls hl => ?_)
  have hl : lv_has ls 7 [(3, .int (nI (c580 + c585))), (2, .int (nI c580)), (0, .ref (ad 0)), (1, .int (nI w))] := hl
  refine lv_aload_n hx hb d_Md_value_24 rfl (lv_at hl 2 rfl) ?_
  refine lv_iconst (v := 0) hx hb d_Md_value_25 (by decide) ?_
  refine ux_put (C := R_Md) (T := F_Md) (N := 50) hx hb hT in_Md t_Md t_Md_ok n_Md hown hK hi hP hS (by decide) rfl rfl 31 (by decide) (hT _ fl_Md_338) rfl (rfl) (rfl) rfl d_Md_value_26 (fun H locs hP hS => ?_)
  have hI := IvM_wr (k := 0) (j := 31) (v := 0) hI (show (0 : Int) ≤ (0 : Int32).toInt from (by decide)) (show (0 : Int32).toInt ≤ (210 : Int) from (by first | decide | (show (0 : Int) ≤ _; omega))) (by unfold okW; omega)
  have hF := fr_wr (k := 0) (j := 31) (v := 0) hF (by unfold mVa; omega)
  generalize eM588 : ux_wr M 0 31 0 = M588 at hP hI hF
  have tM588 : (M588 0 31).toInt = 0 := by rw [wr_at eM588]; rfl
  refine lv_aload_n hx hb d_Md_value_29 rfl (lv_at hl 2 rfl) ?_
  refine lv_iconst (v := 0) hx hb d_Md_value_30 (by decide) ?_
  refine ux_put (C := R_Md) (T := F_Md) (N := 50) hx hb hT in_Md t_Md t_Md_ok n_Md hown hK hi hP hS (by decide) rfl rfl 32 (by decide) (hT _ fl_Md_341) rfl (rfl) (rfl) rfl d_Md_value_31 (fun H locs hP hS => ?_)
  have hI := IvM_wr (k := 0) (j := 32) (v := 0) hI (show (0 : Int) ≤ (0 : Int32).toInt from (by decide)) (show (0 : Int32).toInt ≤ (210 : Int) from (by first | decide | (show (0 : Int) ≤ _; omega))) (by unfold okW; omega)
  have hF := fr_wr (k := 0) (j := 32) (v := 0) hF (by unfold mVa; omega)
  generalize eM589 : ux_wr M588 0 32 0 = M589 at hP hI hF
  have tM589 : (M589 0 32).toInt = 0 := by rw [wr_at eM589]; rfl
  refine lv_aload_n hx hb d_Md_value_34 rfl (lv_at hl 2 rfl) ?_
  refine lv_iconst (v := 0) hx hb d_Md_value_35 (by decide) ?_
  refine ux_put (C := R_Md) (T := F_Md) (N := 50) hx hb hT in_Md t_Md t_Md_ok n_Md hown hK hi hP hS (by decide) rfl rfl 33 (by decide) (hT _ fl_Md_331) rfl (rfl) (rfl) rfl d_Md_value_36 (fun H locs hP hS => ?_)
  have hI := IvM_free (k := 0) (j := 33) (v := 0) hI rfl rfl (by unfold okW; omega)
  have hF := fr_wr (k := 0) (j := 33) (v := 0) hF (by unfold mVa; omega)
  generalize eM590 : ux_wr M589 0 33 0 = M590 at hP hI hF
  refine lv_aload_n hx hb d_Md_value_39 rfl (lv_at hl 2 rfl) ?_
  refine lv_iconst (v := 0) hx hb d_Md_value_40 (by decide) ?_
  refine ux_put (C := R_Md) (T := F_Md) (N := 50) hx hb hT in_Md t_Md t_Md_ok n_Md hown hK hi hP hS (by decide) rfl rfl 34 (by decide) (hT _ fl_Md_328) rfl (rfl) (rfl) rfl d_Md_value_41 (fun H locs hP hS => ?_)
  have hI := IvM_free (k := 0) (j := 34) (v := 0) hI rfl rfl (by unfold okW; omega)
  have hF := fr_wr (k := 0) (j := 34) (v := 0) hF (by unfold mVa; omega)
  generalize eM591 : ux_wr M590 0 34 0 = M591 at hP hI hF
  refine lv_iconst (v := 0) hx hb d_Md_value_44 (by decide) ?_
  refine lv_istore hx hb d_Md_value_45 hl (by decide) rfl (fun ls hl => ?_)
  have hl : lv_has ls 7 [(4, .int 0), (3, .int (nI (c580 + c585))), (2, .int (nI c580)), (0, .ref (ad 0)), (1, .int (nI w))] := hl
  refine lv_iconst (v := 1) hx hb d_Md_value_47 (by decide) ?_
  refine lv_istore hx hb d_Md_value_48 hl (by decide) rfl (fun ls hl => ?_)
  have hl : lv_has ls 7 [(5, .int 1), (4, .int 0), (3, .int (nI (c580 + c585))), (2, .int (nI c580)), (0, .ref (ad 0)), (1, .int (nI w))] := hl
  exact cut50 (1 * 300 + (250 - c580)) 1 c580 (c580 + c585) 0 0 0 1 M591 _ _ ls rfl (show M591 0 31 = nI 0 from (wr_off eM591 (by omega)).trans ((wr_off eM590 (by omega)).trans ((wr_off eM589 (by omega)).trans (wr_at eM588)))) (show M591 0 32 = nI 0 from (wr_off eM591 (by omega)).trans ((wr_off eM590 (by omega)).trans (wr_at eM589))) (show c580 ≤ 201 from by first | omega | assumption | exact Or.inl rfl | exact Or.inr rfl | rfl | decide) (show (c580 + c585) ≤ 200 from by first | omega | assumption | exact Or.inl rfl | exact Or.inr rfl | rfl | decide) (show 0 ≤ c580 from by first | omega | assumption | exact Or.inl rfl | exact Or.inr rfl | rfl | decide) (show 1 ≤ 1 from by first | omega | assumption | exact Or.inl rfl | exact Or.inr rfl | rfl | decide) (show (1 = 1 ∧ 0 = cP PB (M591 22) 0) ∨ (1 = 0 ∧ 0 = cP PB (M591 22) 0 + 1) from by first | (have h11 : (1 : Int32).toInt = 1 := rfl; have h00 : (0 : Int32).toInt = 0 := rfl; have : cP PB (M591 22) (0) = cP PB (M 22) (0) := cP_cong _ (fun j _ => (wr_off eM591 (by omega)).trans ((wr_off eM590 (by omega)).trans ((wr_off eM589 (by omega)).trans (wr_off eM588 (by omega))))); have : cP P40 (M591 22) (0) = cP P40 (M 22) (0) := cP_cong _ (fun j _ => (wr_off eM591 (by omega)).trans ((wr_off eM590 (by omega)).trans ((wr_off eM589 (by omega)).trans (wr_off eM588 (by omega))))); have : cP PB (M 22) 0 = 0 := rfl; have : cP P40 (M 22) 0 = 0 := rfl; omega)) (show 0 ≤ cP P40 (M591 22) 0 from by first | (have h11 : (1 : Int32).toInt = 1 := rfl; have h00 : (0 : Int32).toInt = 0 := rfl; have : cP PB (M591 22) (0) = cP PB (M 22) (0) := cP_cong _ (fun j _ => (wr_off eM591 (by omega)).trans ((wr_off eM590 (by omega)).trans ((wr_off eM589 (by omega)).trans (wr_off eM588 (by omega))))); have : cP P40 (M591 22) (0) = cP P40 (M 22) (0) := cP_cong _ (fun j _ => (wr_off eM591 (by omega)).trans ((wr_off eM590 (by omega)).trans ((wr_off eM589 (by omega)).trans (wr_off eM588 (by omega))))); have : cP PB (M 22) 0 = 0 := rfl; have : cP P40 (M 22) 0 = 0 := rfl; omega)) (show 1 = 1 ∨ (M591 0 34).toInt = 1 from by first | exact Or.inl rfl) (show (M591 0 23 = M 0 23) ∧ (M591 0 24 = M 0 24) from by first | exact ⟨(wr_off eM591 (by omega)).trans ((wr_off eM590 (by omega)).trans ((wr_off eM589 (by omega)).trans (wr_off eM588 (by omega)))), (wr_off eM591 (by omega)).trans ((wr_off eM590 (by omega)).trans ((wr_off eM589 (by omega)).trans (wr_off eM588 (by omega))))⟩) hP hI hF hS (lv_sub hl [4, 5, 3, 2, 1, 0] rfl)
