/-! The reference, safe: numbers written, send, fires; written by wip/gen/ref.py -/
def nv (u : Int64) : Prop := 0 ≤ u.toInt ∧ u.toInt ≤ 2147483648
def wq (g : Nat) (u : Int64) : Prop := g < 10 ∧ u = Int64.ofNat (10 ^ g)
theorem wq_0 : wq 0 1 := ⟨by decide, rfl⟩
theorem nv_p {n : Int32} (h : 0 ≤ n.toInt) : nv n.toInt64 := by unfold nv; rw [Int32.toInt_toInt64]; have := ti_hi n; omega
theorem nv_m {n : Int32} (h : n.toInt < 0) : nv (- n.toInt64) := by
  unfold nv
  have := ti_lo n
  rw [Int64.toInt_neg, Int32.toInt_toInt64, Int.bmod_eq_of_le (by omega) (by omega)]
  omega
theorem nm_s {g : Nat} {u4 u2 x : Int64} (hu : nv u2) (hw : wq g u4) (hx : x = u2 / 10) (h : ¬ 0 < lg_cmp u4 x) : wq (g + 1) (u4 * 10) := by
  obtain ⟨hg, rfl⟩ := hw
  unfold nv at hu
  have e1 : x.toInt = u2.toInt / 10 := by
    rw [hx, Int64.toInt_div_of_ne_right _ _ (by decide), show (10 : Int64).toInt = 10 from rfl, Int.tdiv_eq_ediv_of_nonneg hu.1]
  have e2 : ¬ x < Int64.ofNat (10 ^ g) := fun q => h (by unfold lg_cmp; rw [if_pos q]; decide)
  rw [Int64.lt_iff_toInt_lt] at e2
  have k0 : ∀ g, g < 10 → (Int64.ofNat (10 ^ g)).toInt ≤ 214748364 → g < 9 := by decide +kernel
  have k3 : ∀ g, g < 9 → Int64.ofNat (10 ^ g) * 10 = Int64.ofNat (10 ^ (g + 1)) := by decide +kernel
  have h9 := k0 g hg (by omega)
  exact ⟨by omega, k3 g h9⟩
def mSe (a b : Nat) : Prop := (a = 0 ∧ (b = 44 ∨ b = 48 ∨ b = 25 ∨ b = 23 ∨ b = 24)) ∨ a = 30 ∨ a = 32 ∨ a = 21

set_option maxHeartbeats 1600000 in
set_option maxRecDepth 100000 in
theorem s_Md_number (l : Launch) (D : va_G) (ad : Nat → Nat) (cA : Nat → ClassId) (A TB : Nat) (hA : A ≤ 100000000) (hB : TB ≤ 2000000000) (M : ux_M) (hI : IvM A TB M) (num : Int32) : Met l y_Md_number w_Md_number ({ frames := 1, cells := 0, slots := 0, locals := 21 }) (va_Pc [.ref (ad 0), .int num] (ux_B D shM KM ad cA M)) (va_Qv (fun M1 => IvM A TB M1 ∧ (∀ a b, ¬ mRe a b → M1 a b = M a b) ∧ (True)) (ux_E D shM KM ad cA) (ux_A KM ad)) 0 0 (ux_A KM ad) := by
  refine Met.ofW (cc := b_Md_number) (maxL := 7) (ret := none) (by decide) rfl ?_
  intro p e s m args below meth c s₁ B hml hv
  obtain ⟨rfl, hP, hK, hi, hN⟩ := hv
  have hx := B.exec
  have hb := B.bytes
  have hr := B.returns
  have hts := atoms_spec (ws := w_Md_number) B.pre
  have hown : s.vm.findClass R_Md = some m.cls := findClass_of_methodNamed B.named
  have hlocks := B.notSynchronized
  have hT : ∀ w ∈ tb, w.before _ s = true := fun w h => hts w (List.mem_cons_of_mem _ h)
  have hS : va_S (ux_A KM ad) s.heap s.heap [] := va_S.rf
  have hl := lv_entry ([.ref (ad 0), .int num]) (n := 7) (Nat.le_of_ble_eq_true rfl)
  rw [lg_entry_eq]
  generalize (lg_sl ([.ref (ad 0), .int num]) ++ List.replicate (7 - (lg_sl ([.ref (ad 0), .int num])).length) Slot.unset).toArray = ls at hl ⊢
  have hl : lv_has ls 7 [(0, .ref (ad 0)), (1, .int num)] := hl
  have hF : ∀ a b, ¬ mRe a b → M a b = M a b := fun _ _ _ => rfl
  have cut55 : ∀ (nn : Nat) (lg2 lg4 : Int64) (k6 : Nat) (Mc55 : ux_M) (H : Heap) (locs : List Loc) (ls : Array Slot), 10 - k6 = nn → (k6 ≤ 10) → ((Mc55 0 25).toInt ≤ (k6 : Int) + 1) → va_P D classes (ux_w shM KM ad cA Mc55) H → IvM A TB Mc55 → (∀ a b, ¬ mRe a b → Mc55 a b = M a b) → va_S (ux_A KM ad) s.heap H locs → lv_has ls 7 [(0, .ref (ad 0)), (2, .long lg2), (4, .long lg4), (6, .int (nI k6))] → W p l e (headSpec w_Md_number ({ frames := 1, cells := 0, slots := 0, locals := 21 })).room s m (([.ref (ad 0), .int num] : List Value).toArray) below meth c H locs 0 0 (MQ below (va_Qv (fun M1 => IvM A TB M1 ∧ (∀ a b, ¬ mRe a b → M1 a b = M a b) ∧ (True)) (ux_E D shM KM ad cA) (ux_A KM ad)) (([.ref (ad 0), .int num] : List Value).toArray) s 0 0 (ux_A KM ad)) (F0 m 55 ls []) := by
    intro nn
    induction nn using Nat.strongRecOn with
    | ind nn ih55 =>
      intro lg2 lg4 k6 Mc55 H locs ls hn c55_0 c55_1 hP hI hF hS hl
      refine lv_iload hx hb d_Md_number_55 (lv_at hl 3 rfl) ?_
      refine lv_bipush (v := 10) hx hb d_Md_number_57 (by decide) ?_
      refine lv_icmp_ge hx hb d_Md_number_59 rfl (fun h1 => ?_) (fun h1 => ?_)
      · have g1 : 10 ≤ ((k6 : Nat) : Int) := by have q := Int32.le_iff_toInt_le.mp h1; rw [nI_toInt (n := k6) (by omega)] at q; exact q
        exact W.vret hx hb hr (fun t ht hW => ⟨⟨Mc55, rfl, ⟨hI, hF, trivial⟩, by unfold ux_E; rw [ht]; exact hP⟩, hS.F ht⟩) hS.2.2 d_Md_number_101
      · have g1 : ¬ (10 ≤ ((k6 : Nat) : Int)) := fun q => h1 (Int32.le_iff_toInt_le.mpr (by rw [nI_toInt (n := k6) (by omega)]; exact q))
        refine lv_lload hx hb d_Md_number_62 (lv_at hl 2 rfl) ?_
        refine lv_lconst (v := 0) hx hb d_Md_number_64 (by decide) ?_
        refine W.lcmp hx hb d_Md_number_65 ?_
        refine lv_if_le hx hb d_Md_number_66 rfl (fun h2 => ?_) (fun h2 => ?_)
        · have g2 : (lg_cmp lg4 0).toInt ≤ 0 := Int32.le_iff_toInt_le.mp h2
          have w2 := ti_lo (lg_cmp lg4 0)
          exact W.vret hx hb hr (fun t ht hW => ⟨⟨Mc55, rfl, ⟨hI, hF, trivial⟩, by unfold ux_E; rw [ht]; exact hP⟩, hS.F ht⟩) hS.2.2 d_Md_number_101
        · have g2 : ¬ ((lg_cmp lg4 0).toInt ≤ 0) := fun q => h2 (Int32.le_iff_toInt_le.mpr q)
          have u2 := ti_hi (lg_cmp lg4 0)
          have hu := lc_ne (by assumption)
          refine lv_aload_n hx hb d_Md_number_69 rfl (lv_at hl 0 rfl) ?_
          refine lv_ldc2 (v := 48) hx hb hown (hT _ co_Md_147) d_Md_number_70 ?_
          refine lv_lload_n hx hb d_Md_number_73 rfl (lv_at hl 1 rfl) ?_
          refine lv_lload hx hb d_Md_number_74 (lv_at hl 2 rfl) ?_
          refine lv_ldiv hx hb d_Md_number_76 (by first | assumption | decide) ?_
          refine lv_topl (fun x3 ex3 => ?_)
          refine lv_ldc2 (v := 10) hx hb hown (hT _ co_Md_141) d_Md_number_77 ?_
          refine lv_lrem hx hb d_Md_number_80 (by first | assumption | decide) ?_
          refine lv_topl (fun x4 ex4 => ?_)
          refine lv_ladd hx hb d_Md_number_81 ?_
          refine lv_topl (fun x5 ex5 => ?_)
          refine lv_l2i hx hb d_Md_number_82 rfl ?_
          refine lv_topi (fun x6 ex6 => ?_)
          refine lv_i2c hx hb d_Md_number_83 rfl ?_
          refine lv_topi (fun x7 ex7 => ?_)
          have fx7 : 0 ≤ x7.toInt ∧ x7.toInt ≤ 65535 := by rw [ex7]; exact ti_i2c _
          refine ux_callv (va_runV ⟨hx, hb, hml, hown, hts⟩ (s_Md_say l D ad cA A TB hA hB  Mc55 hI x7 (by omega)) (cwV 1 hts (tb_goodV ml_Md_143 im_Md_say se_Md_say ii_Md kt_Md_say) rfl rfl rfl (by decide +kernel) ⟨Nat.le_of_ble_eq_true rfl, Nat.le_of_ble_eq_true rfl⟩) (ux_preV (by decide) rfl rfl hP hK hi hN) rfl rfl hl.1 rfl (lv_room (Nat.le_of_ble_eq_true rfl)) d_Md_number_84 ⟨Nat.zero_le _, Nat.zero_le _⟩) hS (fun M9 H locs q10 hP hS => ?_)
          obtain ⟨hI, fq10, q10p⟩ := q10
          have hF := fr_call hF fq10 (fun a b q => by unfold mRe at q; unfold mRe; omega)
          refine lv_lload hx hb d_Md_number_87 (lv_at hl 2 rfl) ?_
          refine lv_ldc2 (v := 10) hx hb hown (hT _ co_Md_141) d_Md_number_89 ?_
          refine lv_ldiv hx hb d_Md_number_92 (by first | assumption | decide) ?_
          refine lv_topl (fun x11 ex11 => ?_)
          refine lv_lstore hx hb d_Md_number_93 hl (by decide) rfl (fun ls hl => ?_)
          have hl : lv_has ls 7 [(4, .long x11), (0, .ref (ad 0)), (2, .long lg2), (6, .int (nI k6))] := hl
          refine lv_iinc (k := 3) (v := nI (k6 + 1)) hx hb d_Md_number_95 hl rfl (nI_add k6 1) (by decide) rfl (fun ls hl => ?_)
          have hl : lv_has ls 7 [(6, .int (nI (k6 + 1))), (4, .long x11), (0, .ref (ad 0)), (2, .long lg2)] := hl
          refine lv_goto hx hb d_Md_number_98 rfl ?_
          exact ih55 (10 - (k6 + 1)) (by omega) lg2 x11 (k6 + 1) M9 _ _ ls rfl (show (k6 + 1) ≤ 10 from by first | omega | assumption | exact Or.inl rfl | exact Or.inr rfl | rfl | decide) (show (M9 0 25).toInt ≤ ((k6 + 1) : Int) + 1 from by first | omega | assumption | exact Or.inl rfl | exact Or.inr rfl | rfl | decide) hP hI hF hS (lv_sub hl [2, 3, 1, 0] rfl)
  have cut20 : ∀ (nn : Nat) (lg2 lg4 : Int64) (g : Nat) (Mc20 : ux_M) (H : Heap) (locs : List Loc) (ls : Array Slot), 10 - g = nn → (nv lg2) → (wq g lg4) → ((Mc20 0 25).toInt = 0) → va_P D classes (ux_w shM KM ad cA Mc20) H → IvM A TB Mc20 → (∀ a b, ¬ mRe a b → Mc20 a b = M a b) → va_S (ux_A KM ad) s.heap H locs → lv_has ls 7 [(0, .ref (ad 0)), (1, .int num), (2, .long lg2), (4, .long lg4)] → W p l e (headSpec w_Md_number ({ frames := 1, cells := 0, slots := 0, locals := 21 })).room s m (([.ref (ad 0), .int num] : List Value).toArray) below meth c H locs 0 0 (MQ below (va_Qv (fun M1 => IvM A TB M1 ∧ (∀ a b, ¬ mRe a b → M1 a b = M a b) ∧ (True)) (ux_E D shM KM ad cA) (ux_A KM ad)) (([.ref (ad 0), .int num] : List Value).toArray) s 0 0 (ux_A KM ad)) (F0 m 20 ls []) := by
    intro nn
    induction nn using Nat.strongRecOn with
    | ind nn ih20 =>
      intro lg2 lg4 g Mc20 H locs ls hn c20_0 c20_1 c20_2 hP hI hF hS hl
      have hg10 : g < 10 := (show _ ∧ _ from c20_1).1
      refine lv_lload hx hb d_Md_number_20 (lv_at hl 3 rfl) ?_
      refine lv_lload_n hx hb d_Md_number_22 rfl (lv_at hl 2 rfl) ?_
      refine lv_ldc2 (v := 10) hx hb hown (hT _ co_Md_141) d_Md_number_23 ?_
      refine lv_ldiv hx hb d_Md_number_26 (by first | assumption | decide) ?_
      refine lv_topl (fun x12 ex12 => ?_)
      refine W.lcmp hx hb d_Md_number_27 ?_
      refine lv_if_gt hx hb d_Md_number_28 rfl (fun h13 => ?_) (fun h13 => ?_)
      · have g13 : 0 < (lg_cmp lg4 x12).toInt := Int32.lt_iff_toInt_lt.mp h13
        have u13 := ti_hi (lg_cmp lg4 x12)
        refine lv_iload_n hx hb d_Md_number_42 rfl (lv_at hl 1 rfl) ?_
        refine lv_if_ge hx hb d_Md_number_43 rfl (fun h14 => ?_) (fun h14 => ?_)
        · have g14 : 0 ≤ num.toInt := Int32.le_iff_toInt_le.mp h14
          have u14 := ti_hi num
          refine lv_iconst (v := 0) hx hb d_Md_number_52 (by decide) ?_
          refine lv_istore hx hb d_Md_number_53 hl (by decide) rfl (fun ls hl => ?_)
          have hl : lv_has ls 7 [(6, .int 0), (0, .ref (ad 0)), (1, .int num), (2, .long lg2), (4, .long lg4)] := hl
          exact cut55 (10 - 0) lg2 lg4 0 Mc20 _ _ ls rfl (show 0 ≤ 10 from by first | omega | assumption | exact Or.inl rfl | exact Or.inr rfl | rfl | decide) (show (Mc20 0 25).toInt ≤ (0 : Int) + 1 from by first | omega | assumption | exact Or.inl rfl | exact Or.inr rfl | rfl | decide) hP hI hF hS (lv_sub hl [1, 3, 4, 0] rfl)
        · have g14 : ¬ (0 ≤ num.toInt) := fun q => h14 (Int32.le_iff_toInt_le.mpr q)
          have w14 := ti_lo num
          refine lv_aload_n hx hb d_Md_number_46 rfl (lv_at hl 0 rfl) ?_
          refine lv_bipush (v := 45) hx hb d_Md_number_47 (by decide) ?_
          refine ux_callv (va_runV ⟨hx, hb, hml, hown, hts⟩ (s_Md_say l D ad cA A TB hA hB  Mc20 hI 45 (by omega)) (cwV 1 hts (tb_goodV ml_Md_143 im_Md_say se_Md_say ii_Md kt_Md_say) rfl rfl rfl (by decide +kernel) ⟨Nat.le_of_ble_eq_true rfl, Nat.le_of_ble_eq_true rfl⟩) (ux_preV (by decide) rfl rfl hP hK hi hN) rfl rfl hl.1 rfl (lv_room (Nat.le_of_ble_eq_true rfl)) d_Md_number_49 ⟨Nat.zero_le _, Nat.zero_le _⟩) hS (fun M16 H locs q17 hP hS => ?_)
          obtain ⟨hI, fq17, q17p⟩ := q17
          have hF := fr_call hF fq17 (fun a b q => by unfold mRe at q; unfold mRe; omega)
          refine lv_iconst (v := 0) hx hb d_Md_number_52 (by decide) ?_
          refine lv_istore hx hb d_Md_number_53 hl (by decide) rfl (fun ls hl => ?_)
          have hl : lv_has ls 7 [(6, .int 0), (0, .ref (ad 0)), (1, .int num), (2, .long lg2), (4, .long lg4)] := hl
          exact cut55 (10 - 0) lg2 lg4 0 M16 _ _ ls rfl (show 0 ≤ 10 from by first | omega | assumption | exact Or.inl rfl | exact Or.inr rfl | rfl | decide) (show (M16 0 25).toInt ≤ (0 : Int) + 1 from by first | omega | assumption | exact Or.inl rfl | exact Or.inr rfl | rfl | decide) hP hI hF hS (lv_sub hl [1, 3, 4, 0] rfl)
      · have g13 : ¬ (0 < (lg_cmp lg4 x12).toInt) := fun q => h13 (Int32.lt_iff_toInt_lt.mpr q)
        have w13 := ti_lo (lg_cmp lg4 x12)
        refine lv_lload hx hb d_Md_number_31 (lv_at hl 3 rfl) ?_
        refine lv_ldc2 (v := 10) hx hb hown (hT _ co_Md_141) d_Md_number_33 ?_
        refine lv_lmul hx hb d_Md_number_36 ?_
        refine lv_topl (fun x18 ex18 => ?_)
        refine lv_lstore hx hb d_Md_number_37 hl (by decide) rfl (fun ls hl => ?_)
        have hl : lv_has ls 7 [(4, .long x18), (0, .ref (ad 0)), (1, .int num), (2, .long lg2)] := hl
        refine lv_goto hx hb d_Md_number_39 rfl ?_
        exact ih20 (10 - ((g + 1))) (by omega) lg2 x18 (g + 1) Mc20 _ _ ls rfl (show nv lg2 from by first | assumption | (subst_vars; exact nv_p (by omega)) | (subst_vars; exact nv_m (by omega))) (show wq ((g + 1)) x18 from by first | exact wq_0 | (subst_vars; exact nm_s c20_0 c20_1 rfl (by assumption))) (show (Mc20 0 25).toInt = 0 from by first | omega | assumption | exact Or.inl rfl | exact Or.inr rfl | rfl | decide) hP hI hF hS (lv_sub hl [1, 2, 3, 0] rfl)
  refine lv_aload_n hx hb d_Md_number_0 rfl (lv_at hl 0 rfl) ?_
  refine ux_callv (va_runV ⟨hx, hb, hml, hown, hts⟩ (s_Md_nothing l D ad cA A TB hA hB  M hI ) (cwV 0 hts (tb_goodV ml_Md_138 im_Md_nothing se_Md_nothing ii_Md kt_Md_nothing) rfl rfl rfl (by decide +kernel) ⟨Nat.le_of_ble_eq_true rfl, Nat.le_of_ble_eq_true rfl⟩) (ux_preV (by decide) rfl rfl hP hK hi hN) rfl rfl hl.1 rfl (lv_room (Nat.le_of_ble_eq_true rfl)) d_Md_number_1 ⟨Nat.zero_le _, Nat.zero_le _⟩) hS (fun M20 H locs q21 hP hS => ?_)
  obtain ⟨hI, fq21, q21p⟩ := q21
  have hF := fr_call hF fq21 (fun a b q => by unfold mRe at q; unfold mRe; omega)
  refine lv_iload_n hx hb d_Md_number_4 rfl (lv_at hl 1 rfl) ?_
  refine lv_if_ge hx hb d_Md_number_5 rfl (fun h22 => ?_) (fun h22 => ?_)
  · have g22 : 0 ≤ num.toInt := Int32.le_iff_toInt_le.mp h22
    have u22 := ti_hi num
    refine lv_iload_n hx hb d_Md_number_14 rfl (lv_at hl 1 rfl) ?_
    refine lv_i2l hx hb d_Md_number_15 rfl ?_
    refine lv_topl (fun x23 ex23 => ?_)
    refine lv_lstore_n hx hb d_Md_number_16 rfl hl (by decide) rfl (fun ls hl => ?_)
    have hl : lv_has ls 7 [(2, .long x23), (0, .ref (ad 0)), (1, .int num)] := hl
    refine lv_lconst (v := 1) hx hb d_Md_number_17 (by decide) ?_
    refine lv_lstore hx hb d_Md_number_18 hl (by decide) rfl (fun ls hl => ?_)
    have hl : lv_has ls 7 [(4, .long 1), (2, .long x23), (0, .ref (ad 0)), (1, .int num)] := hl
    exact cut20 (10 - 0) x23 1 0 M20 _ _ ls rfl (show nv x23 from by first | assumption | (subst_vars; exact nv_p (by omega)) | (subst_vars; exact nv_m (by omega))) (show wq 0 (1 : Int64) from by first | exact wq_0 | (subst_vars; exact nm_s c20_0 c20_1 rfl (by assumption))) (show (M20 0 25).toInt = 0 from by first | omega | assumption | exact Or.inl rfl | exact Or.inr rfl | rfl | decide) hP hI hF hS (lv_sub hl [2, 3, 1, 0] rfl)
  · have g22 : ¬ (0 ≤ num.toInt) := fun q => h22 (Int32.le_iff_toInt_le.mpr q)
    have w22 := ti_lo num
    refine lv_iload_n hx hb d_Md_number_8 rfl (lv_at hl 1 rfl) ?_
    refine lv_i2l hx hb d_Md_number_9 rfl ?_
    refine lv_topl (fun x24 ex24 => ?_)
    refine lv_lneg hx hb d_Md_number_10 ?_
    refine lv_topl (fun x25 ex25 => ?_)
    refine lv_goto hx hb d_Md_number_11 rfl ?_
    refine lv_lstore_n hx hb d_Md_number_16 rfl hl (by decide) rfl (fun ls hl => ?_)
    have hl : lv_has ls 7 [(2, .long x25), (0, .ref (ad 0)), (1, .int num)] := hl
    refine lv_lconst (v := 1) hx hb d_Md_number_17 (by decide) ?_
    refine lv_lstore hx hb d_Md_number_18 hl (by decide) rfl (fun ls hl => ?_)
    have hl : lv_has ls 7 [(4, .long 1), (2, .long x25), (0, .ref (ad 0)), (1, .int num)] := hl
    exact cut20 (10 - 0) x25 1 0 M20 _ _ ls rfl (show nv x25 from by first | assumption | (subst_vars; exact nv_p (by omega)) | (subst_vars; exact nv_m (by omega))) (show wq 0 (1 : Int64) from by first | exact wq_0 | (subst_vars; exact nm_s c20_0 c20_1 rfl (by assumption))) (show (M20 0 25).toInt = 0 from by first | omega | assumption | exact Or.inl rfl | exact Or.inr rfl | rfl | decide) hP hI hF hS (lv_sub hl [2, 3, 1, 0] rfl)
