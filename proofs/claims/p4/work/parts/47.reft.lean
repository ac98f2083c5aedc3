/-! The reference, safe: sums, continued; written by wip/gen/ref.py -/
theorem ap_cb {f : Nat → Int32} {n : Nat} (h1 : 1 ≤ n) (ht : 1 ≤ rk (f (n - 1)).toInt) : ((rk (f (n - 1)).toInt = 7 ∧ cP PB f n = cP PB f (n - 1)) ∨ (¬ rk (f (n - 1)).toInt = 7 ∧ cP PB f n = cP PB f (n - 1) + 1)) ∧ cP P40 f n = cP P40 f (n - 1) := by
  obtain ⟨q, rfl⟩ : ∃ q, n = q + 1 := ⟨n - 1, by omega⟩
  rw [show q + 1 - 1 = q by omega] at ht ⊢
  have hb := rk_b (f q).toInt
  rw [cP_B, cP_4]
  refine ⟨?_, ?_⟩
  · by_cases h7 : rk (f q).toInt = 7
    · rw [if_neg (by omega)]; exact Or.inl ⟨h7, rfl⟩
    · rw [if_pos (by omega)]; exact Or.inr ⟨h7, rfl⟩
  · rw [if_neg (fun e => by rw [e] at ht; exact absurd ht (by decide))]
    rfl

set_option maxHeartbeats 1600000 in
set_option maxRecDepth 100000 in
theorem s_Md_applyFrom (l : Launch) (D : va_G) (ad : Nat → Nat) (cA : Nat → ClassId) (A TB : Nat) (hA : A ≤ 100000000) (hB : TB ≤ 2000000000) (M : ux_M) (hI : IvM A TB M) (n v : Nat) (hn : M 0 31 = nI n) (hv : M 0 32 = nI v) (hn2 : n ≤ 210) (hv2 : v ≤ 210) (hB1 : v = cP PB (M 22) n + 1) (rank : Int32) (hr1 : 1 ≤ rank.toInt) : Met l y_Md_applyFrom w_Md_applyFrom ({ frames := 3, cells := 0, slots := 0, locals := 68 }) (va_Pc [.ref (ad 0), .int rank] (ux_B D shM KM ad cA M)) (va_Qv (fun M1 => IvM A TB M1 ∧ (∀ a b, ¬ mAp a b → M1 a b = M a b) ∧ (∃ n1 v1, M1 0 31 = nI n1 ∧ M1 0 32 = nI v1 ∧ n1 ≤ n ∧ v1 ≤ v ∧ v1 = cP PB (M 22) n1 + 1 ∧ cP P40 (M 22) n1 = cP P40 (M 22) n ∧ (n1 = 0 ∨ rk (M 22 (n1 - 1)).toInt < rank.toInt))) (ux_E D shM KM ad cA) (ux_A KM ad)) 0 0 (ux_A KM ad) := by
  refine Met.ofW (cc := b_Md_applyFrom) (maxL := 2) (ret := none) (by decide) rfl ?_
  intro p e s m args below meth c s₁ B hml hv
  obtain ⟨rfl, hP, hK, hi, hN⟩ := hv
  have hx := B.exec
  have hb := B.bytes
  have hr := B.returns
  have hts := atoms_spec (ws := w_Md_applyFrom) B.pre
  have hown : s.vm.findClass R_Md = some m.cls := findClass_of_methodNamed B.named
  have hlocks := B.notSynchronized
  have hT : ∀ w ∈ tb, w.before _ s = true := fun w h => hts w (List.mem_cons_of_mem _ h)
  have hS : va_S (ux_A KM ad) s.heap s.heap [] := va_S.rf
  have hl := lv_entry ([.ref (ad 0), .int rank]) (n := 2) (Nat.le_of_ble_eq_true rfl)
  rw [lg_entry_eq]
  generalize (lg_sl ([.ref (ad 0), .int rank]) ++ List.replicate (2 - (lg_sl ([.ref (ad 0), .int rank])).length) Slot.unset).toArray = ls at hl ⊢
  have hl : lv_has ls 2 [(0, .ref (ad 0)), (1, .int rank)] := hl
  have hF : ∀ a b, ¬ mAp a b → M a b = M a b := fun _ _ _ => rfl
  have cut0 : ∀ (nn : Nat) (n1 v1 : Nat) (Mc0 : ux_M) (H : Heap) (locs : List Loc) (ls : Array Slot), n1 = nn → (Mc0 0 31 = nI n1) → (Mc0 0 32 = nI v1) → (n1 ≤ n) → (v1 ≤ v) → (v1 = cP PB (M 22) n1 + 1) → (cP P40 (M 22) n1 = cP P40 (M 22) n) → va_P D classes (ux_w shM KM ad cA Mc0) H → IvM A TB Mc0 → (∀ a b, ¬ mAp a b → Mc0 a b = M a b) → va_S (ux_A KM ad) s.heap H locs → lv_has ls 2 [(0, .ref (ad 0)), (1, .int rank)] → W p l e (headSpec w_Md_applyFrom ({ frames := 3, cells := 0, slots := 0, locals := 68 })).room s m (([.ref (ad 0), .int rank] : List Value).toArray) below meth c H locs 0 0 (MQ below (va_Qv (fun M1 => IvM A TB M1 ∧ (∀ a b, ¬ mAp a b → M1 a b = M a b) ∧ (∃ n1 v1, M1 0 31 = nI n1 ∧ M1 0 32 = nI v1 ∧ n1 ≤ n ∧ v1 ≤ v ∧ v1 = cP PB (M 22) n1 + 1 ∧ cP P40 (M 22) n1 = cP P40 (M 22) n ∧ (n1 = 0 ∨ rk (M 22 (n1 - 1)).toInt < rank.toInt))) (ux_E D shM KM ad cA) (ux_A KM ad)) (([.ref (ad 0), .int rank] : List Value).toArray) s 0 0 (ux_A KM ad)) (F0 m 0 ls []) := by
    intro nn
    induction nn using Nat.strongRecOn with
    | ind nn ih0 =>
      intro n1 v1 Mc0 H locs ls hn hg_n1 hg_v1 c0_0 c0_1 c0_2 c0_3 hP hI hF hS hl
      refine lv_aload_n hx hb d_Md_applyFrom_0 rfl (lv_at hl 0 rfl) ?_
      refine ux_get (C := R_Md) (T := F_Md) (N := 50) hx hb hT in_Md hown hK hP (by decide) rfl rfl 31 (by decide) (hT _ fl_Md_338) rfl d_Md_applyFrom_1 ?_
      refine lv_topi (fun z1 hz1 => ?_)
      rw [show Mc0 0 31 = nI n1 from hg_n1] at hz1
      rw [hz1]
      refine lv_if_le hx hb d_Md_applyFrom_4 rfl (fun h2 => ?_) (fun h2 => ?_)
      · have g2 : ((n1 : Nat) : Int) ≤ 0 := by have q := Int32.le_iff_toInt_le.mp h2; rw [nI_toInt (n := n1) (by omega)] at q; exact q
        exact W.vret hx hb hr (fun t ht hW => ⟨⟨Mc0, rfl, ⟨hI, hF, ⟨n1, v1, hg_n1, hg_v1, c0_0, c0_1, c0_2, c0_3, by first | exact Or.inl (by omega) | exact Or.inr (by omega)⟩⟩, by unfold ux_E; rw [ht]; exact hP⟩, hS.F ht⟩) hS.2.2 d_Md_applyFrom_32
      · have g2 : ¬ (((n1 : Nat) : Int) ≤ 0) := fun q => h2 (Int32.le_iff_toInt_le.mpr (by rw [nI_toInt (n := n1) (by omega)]; exact q))
        refine lv_aload_n hx hb d_Md_applyFrom_7 rfl (lv_at hl 0 rfl) ?_
        refine ux_get (C := R_Md) (T := F_Md) (N := 50) hx hb hT in_Md hown hK hP (by decide) rfl rfl 29 (by decide) (hT _ fl_Md_79) rfl d_Md_applyFrom_8 ?_
        refine lv_aload_n hx hb d_Md_applyFrom_11 rfl (lv_at hl 0 rfl) ?_
        refine ux_get (C := R_Md) (T := F_Md) (N := 50) hx hb hT in_Md hown hK hP (by decide) rfl rfl 31 (by decide) (hT _ fl_Md_338) rfl d_Md_applyFrom_12 ?_
        refine lv_topi (fun z3 hz3 => ?_)
        rw [show Mc0 0 31 = nI n1 from hg_n1] at hz3
        rw [hz3]
        refine lv_iconst (v := 1) hx hb d_Md_applyFrom_15 (by decide) ?_
        refine lv_isub hx hb d_Md_applyFrom_16 ?_
        refine lv_topi (fun z4 hz4 => ?_)
        rw [show (nI n1) - (1 : Int32) = nI (n1 - 1) from (pk_sub (a := n1) (b := 1) (by omega)).trans (congrArg nI (show n1 - 1 = n1 - 1 by omega))] at hz4
        rw [hz4]
        refine ux_iald hx hb hK hP (by decide) rfl (vp_in_nI (show n1 - 1 < 210 by omega) (by decide)) d_Md_applyFrom_17 ?_
        rw [nI_clamp (n := n1 - 1) (by omega)]
        refine ux_calli (va_runS ⟨hx, hb, hml, hown, hts⟩ (s_Md_rankOf l D ad cA A TB hA hB  Mc0 hI (Mc0 22 (n1 - 1))) (va_cwS 1 hts (tb_goodST ml_Md_348 sm_Md_rankOf ii_Md kt_Md_rankOf) rfl rfl rfl (by decide +kernel) ⟨Nat.le_of_ble_eq_true rfl, Nat.le_of_ble_eq_true rfl⟩) (ux_pre hP hK hi hN) rfl rfl hl.1 rfl (lv_room (Nat.le_of_ble_eq_true rfl)) d_Md_applyFrom_18 ⟨Nat.zero_le _, Nat.zero_le _⟩) hS (fun r5 M6 H locs q7 hP hS => ?_)
        obtain ⟨hI, fq7, q7p⟩ := q7
        rw [tN_eq fq7] at hP hI
        have k8 := congrArg Int32.toInt (show Mc0 22 (n1 - 1) = M 22 (n1 - 1) from hF _ _ (by unfold mAp; omega))
        have hrk := congrArg rk (congrArg Int32.toInt (show Mc0 22 (n1 - 1) = M 22 (n1 - 1) from hF _ _ (by unfold mAp; omega)))
        refine lv_iload_n hx hb d_Md_applyFrom_21 rfl (lv_at hl 1 rfl) ?_
        refine lv_icmp_lt hx hb d_Md_applyFrom_22 rfl (fun h9 => ?_) (fun h9 => ?_)
        · have g9 : r5.toInt < rank.toInt := Int32.lt_iff_toInt_lt.mp h9
          have u9 := ti_hi rank
          have w9 := ti_lo r5
          exact W.vret hx hb hr (fun t ht hW => ⟨⟨Mc0, rfl, ⟨hI, hF, ⟨n1, v1, hg_n1, hg_v1, c0_0, c0_1, c0_2, c0_3, by first | exact Or.inl (by omega) | exact Or.inr (by omega)⟩⟩, by unfold ux_E; rw [ht]; exact hP⟩, hS.F ht⟩) hS.2.2 d_Md_applyFrom_32
        · have g9 : ¬ (r5.toInt < rank.toInt) := fun q => h9 (Int32.lt_iff_toInt_lt.mpr q)
          have u9 := ti_hi r5
          have w9 := ti_lo rank
          have hcb := ap_cb (f := M 22) (n := n1) (by omega) (by omega)
          refine lv_aload_n hx hb d_Md_applyFrom_25 rfl (lv_at hl 0 rfl) ?_
          refine ux_callv (va_runV ⟨hx, hb, hml, hown, hts⟩ (s_Md_apply l D ad cA A TB hA hB  Mc0 hI (n1 - 1) v1 ((hg_n1).trans (congrArg nI (by omega))) (hg_v1) (by omega) (by omega) (by omega) (by omega)) (cwV 0 hts (tb_goodV ml_Md_351 im_Md_apply se_Md_apply ii_Md kt_Md_apply) rfl rfl rfl (by decide +kernel) ⟨Nat.le_of_ble_eq_true rfl, Nat.le_of_ble_eq_true rfl⟩) (ux_preV (by decide) rfl rfl hP hK hi hN) rfl rfl hl.1 rfl (lv_room (Nat.le_of_ble_eq_true rfl)) d_Md_applyFrom_26 ⟨Nat.zero_le _, Nat.zero_le _⟩) hS (fun M11 H locs q12 hP hS => ?_)
          obtain ⟨hI, fq12, q12p⟩ := q12
          have hF := fr_call hF fq12 (fun a b q => by unfold mAp at q; unfold mAp; omega)
          obtain ⟨q12a, q12b⟩ := q12p
          obtain ⟨v2, hv2e, hv2c⟩ : ∃ v2, M11 0 32 = nI v2 ∧ ((rk (Mc0 22 (n1 - 1)).toInt = 7 ∧ v2 = v1) ∨ (¬ rk (Mc0 22 (n1 - 1)).toInt = 7 ∧ v2 = v1 - 1)) := by
            rcases q12b with ⟨q, z⟩ | ⟨q, z⟩
            · exact ⟨_, z, Or.inl ⟨q, rfl⟩⟩
            · exact ⟨_, z, Or.inr ⟨q, rfl⟩⟩
          refine lv_goto hx hb d_Md_applyFrom_29 rfl ?_
          exact ih0 ((n1 - 1)) (by omega) (n1 - 1) v2 M11 _ _ ls rfl (show M11 0 31 = nI (n1 - 1) from q12a) (show M11 0 32 = nI v2 from hv2e) (show (n1 - 1) ≤ n from by first | omega | assumption | exact Or.inl rfl | exact Or.inr rfl | rfl | decide) (show v2 ≤ v from by first | omega | assumption | exact Or.inl rfl | exact Or.inr rfl | rfl | decide) (show v2 = cP PB (M 22) (n1 - 1) + 1 from by first | omega | assumption | exact Or.inl rfl | exact Or.inr rfl | rfl | decide) (show cP P40 (M 22) (n1 - 1) = cP P40 (M 22) n from by first | omega | assumption | exact Or.inl rfl | exact Or.inr rfl | rfl | decide) hP hI hF hS (lv_sub hl [0, 1] rfl)
  exact cut0 (n) n v M _ _ ls rfl (show M 0 31 = nI n from hn) (show M 0 32 = nI v from hv) (show n ≤ n from by first | omega | assumption | exact Or.inl rfl | exact Or.inr rfl | rfl | decide) (show v ≤ v from by first | omega | assumption | exact Or.inl rfl | exact Or.inr rfl | rfl | decide) (show v = cP PB (M 22) n + 1 from by first | omega | assumption | exact Or.inl rfl | exact Or.inr rfl | rfl | decide) (show cP P40 (M 22) n = cP P40 (M 22) n from by first | omega | assumption | exact Or.inl rfl | exact Or.inr rfl | rfl | decide) hP hI hF hS (lv_sub hl [0, 1] rfl)

set_option maxHeartbeats 1600000 in
set_option maxRecDepth 100000 in
theorem s_Md_ofVariable (l : Launch) (D : va_G) (ad : Nat → Nat) (cA : Nat → ClassId) (A TB : Nat) (hA : A ≤ 100000000) (hB : TB ≤ 2000000000) (M : ux_M) (hI : IvM A TB M) (v : Nat) (hv : v ≤ 207) : Met l y_Md_ofVariable w_Md_ofVariable ({ frames := 2, cells := 0, slots := 0, locals := 51 }) (va_Pc [.ref (ad 0), .int (nI v)] (ux_B D shM KM ad cA M)) (va_Qi (fun r M1 => IvM A TB M1 ∧ (∀ a b, ¬ mOv a b → M1 a b = M a b) ∧ ((M 0 34).toInt = 1 → (M1 0 34).toInt = 1)) (ux_E D shM KM ad cA) (ux_A KM ad)) 0 0 (ux_A KM ad) := by
  refine Met.ofW (cc := b_Md_ofVariable) (maxL := 2) (ret := (some .int)) (by decide) rfl ?_
  intro p e s m args below meth c s₁ B hml hv
  obtain ⟨rfl, hP, hK, hi, hN⟩ := hv
  have hx := B.exec
  have hb := B.bytes
  have hr := B.returns
  have hts := atoms_spec (ws := w_Md_ofVariable) B.pre
  have hown : s.vm.findClass R_Md = some m.cls := findClass_of_methodNamed B.named
  have hlocks := B.notSynchronized
  have hT : ∀ w ∈ tb, w.before _ s = true := fun w h => hts w (List.mem_cons_of_mem _ h)
  have hS : va_S (ux_A KM ad) s.heap s.heap [] := va_S.rf
  have hl := lv_entry ([.ref (ad 0), .int (nI v)]) (n := 2) (Nat.le_of_ble_eq_true rfl)
  rw [lg_entry_eq]
  generalize (lg_sl ([.ref (ad 0), .int (nI v)]) ++ List.replicate (2 - (lg_sl ([.ref (ad 0), .int (nI v)])).length) Slot.unset).toArray = ls at hl ⊢
  have hl : lv_has ls 2 [(0, .ref (ad 0)), (1, .int (nI v))] := hl
  have hF : ∀ a b, ¬ mOv a b → M a b = M a b := fun _ _ _ => rfl
  refine lv_aload_n hx hb d_Md_ofVariable_0 rfl (lv_at hl 0 rfl) ?_
  refine ux_get (C := R_Md) (T := F_Md) (N := 50) hx hb hT in_Md hown hK hP (by decide) rfl rfl 3 (by decide) (hT _ fl_Md_13) rfl d_Md_ofVariable_1 ?_
  refine lv_iload_n hx hb d_Md_ofVariable_4 rfl (lv_at hl 1 rfl) ?_
  refine ux_iald hx hb hK hP (by decide) rfl (vp_in_nI (show v < 208 by omega) (by decide)) d_Md_ofVariable_5 ?_
  rw [nI_clamp (n := v) (by omega)]
  have b1 : (-1 : Int) ≤ (M 2 v).toInt ∧ (M 2 v).toInt ≤ 20 := hI.1 2 v
  refine lv_if_ge hx hb d_Md_ofVariable_6 rfl (fun h2 => ?_) (fun h2 => ?_)
  · have g2 : 0 ≤ (M 2 v).toInt := Int32.le_iff_toInt_le.mp h2
    have u2 := ti_hi (M 2 v)
    refine lv_aload_n hx hb d_Md_ofVariable_16 rfl (lv_at hl 0 rfl) ?_
    refine lv_iload_n hx hb d_Md_ofVariable_17 rfl (lv_at hl 1 rfl) ?_
    refine lv_iconst (v := 0) hx hb d_Md_ofVariable_18 (by decide) ?_
    refine ux_calli (va_runV ⟨hx, hb, hml, hown, hts⟩ (s_Md_digits_v l D ad cA A TB hA hB  M hI v 0 (by omega)) (cwV 2 hts (tb_goodV ml_Md_319 im_Md_digits se_Md_digits ii_Md kt_Md_digits) rfl rfl rfl (by decide +kernel) ⟨Nat.le_of_ble_eq_true rfl, Nat.le_of_ble_eq_true rfl⟩) (ux_preV (by decide) rfl rfl hP hK hi hN) rfl rfl hl.1 rfl (lv_room (Nat.le_of_ble_eq_true rfl)) d_Md_ofVariable_19 ⟨Nat.zero_le _, Nat.zero_le _⟩) hS (fun r3 M4 H locs q5 hP hS => ?_)
    obtain ⟨hI, fq5, q5p⟩ := q5
    have hF := fr_call hF fq5 (fun a b q => by unfold mDg at q; unfold mOv; omega)
    refine lv_if_ne hx hb d_Md_ofVariable_22 rfl (fun h6 => ?_) (fun h6 => ?_)
    · have g6 : ¬ (r3.toInt = 0) := fun q => h6 (Int32.toInt_inj.mp q)
      refine lv_aload_n hx hb d_Md_ofVariable_32 rfl (lv_at hl 0 rfl) ?_
      refine ux_get (C := R_Md) (T := F_Md) (N := 50) hx hb hT in_Md hown hK hP (by decide) rfl rfl 35 (by decide) (hT _ fl_Md_316) rfl d_Md_ofVariable_33 ?_
      exact W.iret (v := M4 0 35) hx hb hr (fun t ht hW => ⟨⟨M4 0 35, M4, rfl, ⟨hI, hF, (fun q => by have := congrArg Int32.toInt (show M4 0 34 = M 0 34 from fq5 _ _ (by unfold mDg; omega)); omega)⟩, by unfold ux_E; rw [ht]; exact hP⟩, hS.F ht⟩) hS.2.2 d_Md_ofVariable_36
    · have g6 : r3.toInt = 0 := congrArg Int32.toInt h6
      refine lv_aload_n hx hb d_Md_ofVariable_25 rfl (lv_at hl 0 rfl) ?_
      refine lv_iconst (v := 5) hx hb d_Md_ofVariable_26 (by decide) ?_
      refine ux_callv (va_runV ⟨hx, hb, hml, hown, hts⟩ (s_Md_ill l D ad cA A TB hA hB  M4 hI 5) (cwV 1 hts (tb_goodV ml_Md_354 im_Md_ill se_Md_ill ii_Md kt_Md_ill) rfl rfl rfl (by decide +kernel) ⟨Nat.le_of_ble_eq_true rfl, Nat.le_of_ble_eq_true rfl⟩) (ux_preV (by decide) rfl rfl hP hK hi hN) rfl rfl hl.1 rfl (lv_room (Nat.le_of_ble_eq_true rfl)) d_Md_ofVariable_27 ⟨Nat.zero_le _, Nat.zero_le _⟩) hS (fun M8 H locs q9 hP hS => ?_)
      obtain ⟨hI, fq9, q9p⟩ := q9
      have hF := fr_call hF fq9 (fun a b q => by unfold mIl at q; unfold mOv; omega)
      rw [show (5 : Int32).toInt = 5 from rfl] at q9p
      refine lv_iconst (v := 0) hx hb d_Md_ofVariable_30 (by decide) ?_
      exact W.iret (v := 0) hx hb hr (fun t ht hW => ⟨⟨0, M8, rfl, ⟨hI, hF, (fun q => by have := congrArg Int32.toInt (show M4 0 34 = M 0 34 from fq5 _ _ (by unfold mDg; omega)); omega)⟩, by unfold ux_E; rw [ht]; exact hP⟩, hS.F ht⟩) hS.2.2 d_Md_ofVariable_31
  · have g2 : ¬ (0 ≤ (M 2 v).toInt) := fun q => h2 (Int32.le_iff_toInt_le.mpr q)
    have w2 := ti_lo (M 2 v)
    refine lv_aload_n hx hb d_Md_ofVariable_9 rfl (lv_at hl 0 rfl) ?_
    refine lv_iconst (v := 4) hx hb d_Md_ofVariable_10 (by decide) ?_
    refine ux_callv (va_runV ⟨hx, hb, hml, hown, hts⟩ (s_Md_ill l D ad cA A TB hA hB  M hI 4) (cwV 1 hts (tb_goodV ml_Md_354 im_Md_ill se_Md_ill ii_Md kt_Md_ill) rfl rfl rfl (by decide +kernel) ⟨Nat.le_of_ble_eq_true rfl, Nat.le_of_ble_eq_true rfl⟩) (ux_preV (by decide) rfl rfl hP hK hi hN) rfl rfl hl.1 rfl (lv_room (Nat.le_of_ble_eq_true rfl)) d_Md_ofVariable_11 ⟨Nat.zero_le _, Nat.zero_le _⟩) hS (fun M11 H locs q12 hP hS => ?_)
    obtain ⟨hI, fq12, q12p⟩ := q12
    have hF := fr_call hF fq12 (fun a b q => by unfold mIl at q; unfold mOv; omega)
    rw [show (4 : Int32).toInt = 4 from rfl] at q12p
    refine lv_iconst (v := 0) hx hb d_Md_ofVariable_14 (by decide) ?_
    exact W.iret (v := 0) hx hb hr (fun t ht hW => ⟨⟨0, M11, rfl, ⟨hI, hF, (fun q => by omega)⟩, by unfold ux_E; rw [ht]; exact hP⟩, hS.F ht⟩) hS.2.2 d_Md_ofVariable_15
