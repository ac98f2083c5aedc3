/-! The reference, safe: waiting for the peer; written by wip/gen/ref.py -/
theorem fs_step2 {P : Nat → Prop} {k : Nat} (h : ∀ w : Nat, 3 ≤ w → w % 2 = 1 → w < k → P w) (hk : P k) (ho : k % 2 = 1) : ∀ w : Nat, 3 ≤ w → w % 2 = 1 → w < k + 2 → P w := fun w h1 h2 h3 => by
  by_cases e : w = k
  · rw [e]; exact hk
  · exact h w h1 h2 (by omega)

set_option maxHeartbeats 1600000 in
set_option maxRecDepth 100000 in
theorem s_Md_waits (l : Launch) (D : va_G) (ad : Nat → Nat) (cA : Nat → ClassId) (A TB : Nat) (hA : A ≤ 100000000) (hB : TB ≤ 2000000000) (M : ux_M) (hI : IvM A TB M) (L : Nat) (hL : L ≤ 7) (hlv : M 0 10 = nI L) : Met l y_Md_waits w_Md_waits ({ frames := 6, cells := 0, slots := 0, locals := 139 }) (va_Pc [.ref (ad 0)] (ux_B D shM KM ad cA M)) (va_Qi (fun r M1 => IvM A TB M1 ∧ (∀ a b, ¬ mFi a b → M1 a b = M a b) ∧ ((r = 0 ∨ r = 1) ∧ (r = 1 → (∀ a b, ¬ mDg a b → M1 a b = M a b) ∧ ((M 14 L).toInt = 4 ∨ (M 14 L).toInt = 6 ∨ (M 14 L).toInt = 8) ∧ ∀ w : Nat, 3 ≤ w → w % 2 = 1 → (w : Int) < (M 14 L).toInt → ¬ M 17 (8 * L + w) = 0) ∧ (r = 0 → M1 0 23 = 1 ∧ M1 0 24 = 1))) (ux_E D shM KM ad cA) (ux_A KM ad)) 0 0 (ux_A KM ad) := by
  refine Met.ofW (cc := b_Md_waits) (maxL := 3) (ret := (some .boolean)) (by decide) rfl ?_
  intro p e s m args below meth c s₁ B hml hv
  obtain ⟨rfl, hP, hK, hi, hN⟩ := hv
  have hx := B.exec
  have hb := B.bytes
  have hr := B.returns
  have hts := atoms_spec (ws := w_Md_waits) B.pre
  have hown : s.vm.findClass R_Md = some m.cls := findClass_of_methodNamed B.named
  have hlocks := B.notSynchronized
  have hT : ∀ w ∈ tb, w.before _ s = true := fun w h => hts w (List.mem_cons_of_mem _ h)
  have hS : va_S (ux_A KM ad) s.heap s.heap [] := va_S.rf
  have hl := lv_entry ([.ref (ad 0)]) (n := 3) (Nat.le_of_ble_eq_true rfl)
  rw [lg_entry_eq]
  generalize (lg_sl ([.ref (ad 0)]) ++ List.replicate (3 - (lg_sl ([.ref (ad 0)])).length) Slot.unset).toArray = ls at hl ⊢
  have hl : lv_has ls 3 [(0, .ref (ad 0))] := hl
  have hF : ∀ a b, ¬ mFi a b → M a b = M a b := fun _ _ _ => rfl
  have cut36 : ∀ (nn : Nat) (k1 k2 : Nat) (Mc36 : ux_M) (H : Heap) (locs : List Loc) (ls : Array Slot), 9 - k2 = nn → (3 ≤ k2) → (k2 ≤ 9) → (k2 % 2 = 1) → ((k1 : Int) = (M 14 L).toInt) → (k1 = 4 ∨ k1 = 6 ∨ k1 = 8) → (∀ w : Nat, 3 ≤ w → w % 2 = 1 → w < k2 → ¬ M 17 (8 * L + w) = 0) → (∀ a b, ¬ mDg a b → Mc36 a b = M a b) → va_P D classes (ux_w shM KM ad cA Mc36) H → IvM A TB Mc36 → (∀ a b, ¬ mFi a b → Mc36 a b = M a b) → va_S (ux_A KM ad) s.heap H locs → lv_has ls 3 [(0, .ref (ad 0)), (1, .int (nI k1)), (2, .int (nI k2))] → W p l e (headSpec w_Md_waits ({ frames := 6, cells := 0, slots := 0, locals := 139 })).room s m (([.ref (ad 0)] : List Value).toArray) below meth c H locs 0 0 (MQ below (va_Qi (fun r M1 => IvM A TB M1 ∧ (∀ a b, ¬ mFi a b → M1 a b = M a b) ∧ ((r = 0 ∨ r = 1) ∧ (r = 1 → (∀ a b, ¬ mDg a b → M1 a b = M a b) ∧ ((M 14 L).toInt = 4 ∨ (M 14 L).toInt = 6 ∨ (M 14 L).toInt = 8) ∧ ∀ w : Nat, 3 ≤ w → w % 2 = 1 → (w : Int) < (M 14 L).toInt → ¬ M 17 (8 * L + w) = 0) ∧ (r = 0 → M1 0 23 = 1 ∧ M1 0 24 = 1))) (ux_E D shM KM ad cA) (ux_A KM ad)) (([.ref (ad 0)] : List Value).toArray) s 0 0 (ux_A KM ad)) (F0 m 36 ls []) := by
    intro nn
    induction nn using Nat.strongRecOn with
    | ind nn ih36 =>
      intro k1 k2 Mc36 H locs ls hn c36_0 c36_1 c36_2 c36_3 c36_4 c36_5 c36_6 hP hI hF hS hl
      refine lv_iload_n hx hb d_Md_waits_36 rfl (lv_at hl 2 rfl) ?_
      refine lv_iload_n hx hb d_Md_waits_37 rfl (lv_at hl 1 rfl) ?_
      refine lv_icmp_ge hx hb d_Md_waits_38 rfl (fun h1 => ?_) (fun h1 => ?_)
      · have g1 : ((k1 : Nat) : Int) ≤ ((k2 : Nat) : Int) := by have q := Int32.le_iff_toInt_le.mp h1; rw [nI_toInt (n := k1) (by omega), nI_toInt (n := k2) (by omega)] at q; exact q
        have hwb : ∀ w : Nat, 3 ≤ w → w % 2 = 1 → w < k1 → ¬ M 17 (8 * L + w) = 0 := fun w h1 h2 h3 => c36_5 w h1 h2 (by omega)
        refine lv_aload_n hx hb d_Md_waits_67 rfl (lv_at hl 0 rfl) ?_
        have cut81 : ∀ (nn : Nat) (k2 : Nat) (Mc81 : ux_M) (H : Heap) (locs : List Loc) (ls : Array Slot), 10 - k2 = nn → (2 ≤ k2) → (k2 ≤ 10) → ((k1 : Int) = (M 14 L).toInt) → (k1 = 4 ∨ k1 = 6 ∨ k1 = 8) → (∀ a b, ¬ mDg a b → Mc81 a b = M a b) → va_P D classes (ux_w shM KM ad cA Mc81) H → IvM A TB Mc81 → (∀ a b, ¬ mFi a b → Mc81 a b = M a b) → va_S (ux_A KM ad) s.heap H locs → lv_has ls 3 [(0, .ref (ad 0)), (1, .int (nI k1)), (2, .int (nI k2))] → W p l e (headSpec w_Md_waits ({ frames := 6, cells := 0, slots := 0, locals := 139 })).room s m (([.ref (ad 0)] : List Value).toArray) below meth c H locs 0 0 (MQ below (va_Qi (fun r M1 => IvM A TB M1 ∧ (∀ a b, ¬ mFi a b → M1 a b = M a b) ∧ ((r = 0 ∨ r = 1) ∧ (r = 1 → (∀ a b, ¬ mDg a b → M1 a b = M a b) ∧ ((M 14 L).toInt = 4 ∨ (M 14 L).toInt = 6 ∨ (M 14 L).toInt = 8) ∧ ∀ w : Nat, 3 ≤ w → w % 2 = 1 → (w : Int) < (M 14 L).toInt → ¬ M 17 (8 * L + w) = 0) ∧ (r = 0 → M1 0 23 = 1 ∧ M1 0 24 = 1))) (ux_E D shM KM ad cA) (ux_A KM ad)) (([.ref (ad 0)] : List Value).toArray) s 0 0 (ux_A KM ad)) (F0 m 81 ls []) := by
          intro nn
          induction nn using Nat.strongRecOn with
          | ind nn ih81 =>
            intro k2 Mc81 H locs ls hn c81_0 c81_1 c81_2 c81_3 c81_4 hP hI hF hS hl
            refine lv_iload_n hx hb d_Md_waits_81 rfl (lv_at hl 2 rfl) ?_
            refine lv_iload_n hx hb d_Md_waits_82 rfl (lv_at hl 1 rfl) ?_
            refine lv_icmp_ge hx hb d_Md_waits_83 rfl (fun h2 => ?_) (fun h2 => ?_)
            · have g2 : ((k1 : Nat) : Int) ≤ ((k2 : Nat) : Int) := by have q := Int32.le_iff_toInt_le.mp h2; rw [nI_toInt (n := k1) (by omega), nI_toInt (n := k2) (by omega)] at q; exact q
              refine lv_iconst (v := 1) hx hb d_Md_waits_104 (by decide) ?_
              exact W.zret (v := 1) hx hb hr (rfl) (fun t ht hW => ⟨⟨1, Mc81, rfl, ⟨hI, hF, ⟨Or.inr rfl, fun _ => ⟨c81_4, by omega, fun w h1 h2 h3 => hwb w h1 h2 (by omega)⟩, fun q => absurd q (by decide)⟩⟩, by unfold ux_E; rw [ht]; exact hP⟩, hS.F ht⟩) hS.2.2 d_Md_waits_105
            · have g2 : ¬ (((k1 : Nat) : Int) ≤ ((k2 : Nat) : Int)) := fun q => h2 (Int32.le_iff_toInt_le.mpr (by rw [nI_toInt (n := k1) (by omega), nI_toInt (n := k2) (by omega)]; exact q))
              refine lv_aload_n hx hb d_Md_waits_86 rfl (lv_at hl 0 rfl) ?_
              refine lv_bipush (v := 120) hx hb d_Md_waits_87 (by decide) ?_
              refine lv_iload_n hx hb d_Md_waits_89 rfl (lv_at hl 2 rfl) ?_
              refine ux_calli (va_runV ⟨hx, hb, hml, hown, hts⟩ (s_Md_fitting l D ad cA A TB hA hB  Mc81 hI L hL ((hF _ _ (by unfold mFi; omega)).trans hlv) 120 k2 (by omega)) (cwV 2 hts (tb_goodV ml_Md_238 im_Md_fitting se_Md_fitting ii_Md kt_Md_fitting) rfl rfl rfl (by decide +kernel) ⟨Nat.le_of_ble_eq_true rfl, Nat.le_of_ble_eq_true rfl⟩) (ux_preV (by decide) rfl rfl hP hK hi hN) rfl rfl hl.1 rfl (lv_room (Nat.le_of_ble_eq_true rfl)) d_Md_waits_90 ⟨Nat.zero_le _, Nat.zero_le _⟩) hS (fun r3 M4 H locs q5 hP hS => ?_)
              obtain ⟨hI, fq5, q5p⟩ := q5
              have hF := fr_call hF fq5 (fun a b q => q)
              have hr_r3 : ¬ r3.toInt = 0 → r3 = 1 := fun z => by rcases q5p.1 with q | q; exact absurd (by rw [q]; rfl) z; exact q
              have hz_r3 : r3.toInt = 0 → r3 = 0 := fun z => by rcases q5p.1 with q | q; exact q; rw [q] at z; exact absurd z (by decide)
              refine lv_if_ne hx hb d_Md_waits_93 rfl (fun h6 => ?_) (fun h6 => ?_)
              · have g6 : ¬ (r3.toInt = 0) := fun q => h6 (Int32.toInt_inj.mp q)
                refine lv_iinc (k := 2) (v := nI (k2 + 2)) hx hb d_Md_waits_98 hl rfl (nI_add k2 2) (by decide) rfl (fun ls hl => ?_)
                have hl : lv_has ls 3 [(2, .int (nI (k2 + 2))), (0, .ref (ad 0)), (1, .int (nI k1))] := hl
                refine lv_goto hx hb d_Md_waits_101 rfl ?_
                exact ih81 (10 - (k2 + 2)) (by omega) (k2 + 2) M4 _ _ ls rfl (show 2 ≤ (k2 + 2) from by first | omega | assumption | exact Or.inl rfl | exact Or.inr rfl | rfl | decide) (show (k2 + 2) ≤ 10 from by first | omega | assumption | exact Or.inl rfl | exact Or.inr rfl | rfl | decide) (show (k1 : Int) = (M 14 L).toInt from by first | omega | assumption | exact Or.inl rfl | exact Or.inr rfl | rfl | decide) (show k1 = 4 ∨ k1 = 6 ∨ k1 = 8 from by first | omega | assumption | exact Or.inl rfl | exact Or.inr rfl | rfl | decide) (show ∀ a b, ¬ mDg a b → M4 a b = M a b from by first | exact fun a b q => ((q5p.2.1 (hr_r3 (by omega))).1 a b q).trans (c81_4 a b q)) hP hI hF hS (lv_sub hl [1, 2, 0] rfl)
              · have g6 : r3.toInt = 0 := congrArg Int32.toInt h6
                refine lv_iconst (v := 0) hx hb d_Md_waits_96 (by decide) ?_
                exact W.zret (v := 0) hx hb hr (rfl) (fun t ht hW => ⟨⟨0, M4, rfl, ⟨hI, hF, ⟨Or.inl rfl, fun q => absurd q (by decide), fun _ => q5p.2.2 (hz_r3 (by omega))⟩⟩, by unfold ux_E; rw [ht]; exact hP⟩, hS.F ht⟩) hS.2.2 d_Md_waits_97
        refine lv_bipush (v := 110) hx hb d_Md_waits_68 (by decide) ?_
        refine lv_iconst (v := 1) hx hb d_Md_waits_70 (by decide) ?_
        refine ux_calli (va_runV ⟨hx, hb, hml, hown, hts⟩ (s_Md_fitting l D ad cA A TB hA hB  Mc36 hI L hL ((hF _ _ (by unfold mFi; omega)).trans hlv) 110 1 (by omega)) (cwV 2 hts (tb_goodV ml_Md_238 im_Md_fitting se_Md_fitting ii_Md kt_Md_fitting) rfl rfl rfl (by decide +kernel) ⟨Nat.le_of_ble_eq_true rfl, Nat.le_of_ble_eq_true rfl⟩) (ux_preV (by decide) rfl rfl hP hK hi hN) rfl rfl hl.1 rfl (lv_room (Nat.le_of_ble_eq_true rfl)) d_Md_waits_71 ⟨Nat.zero_le _, Nat.zero_le _⟩) hS (fun r7 M8 H locs q9 hP hS => ?_)
        obtain ⟨hI, fq9, q9p⟩ := q9
        have hF := fr_call hF fq9 (fun a b q => q)
        have hr_r7 : ¬ r7.toInt = 0 → r7 = 1 := fun z => by rcases q9p.1 with q | q; exact absurd (by rw [q]; rfl) z; exact q
        have hz_r7 : r7.toInt = 0 → r7 = 0 := fun z => by rcases q9p.1 with q | q; exact q; rw [q] at z; exact absurd z (by decide)
        refine lv_if_ne hx hb d_Md_waits_74 rfl (fun h10 => ?_) (fun h10 => ?_)
        · have g10 : ¬ (r7.toInt = 0) := fun q => h10 (Int32.toInt_inj.mp q)
          refine lv_iconst (v := 2) hx hb d_Md_waits_79 (by decide) ?_
          refine lv_istore_n hx hb d_Md_waits_80 rfl hl (by decide) rfl (fun ls hl => ?_)
          have hl : lv_has ls 3 [(2, .int 2), (0, .ref (ad 0)), (1, .int (nI k1))] := hl
          exact cut81 (10 - 2) 2 M8 _ _ ls rfl (show 2 ≤ 2 from by first | omega | assumption | exact Or.inl rfl | exact Or.inr rfl | rfl | decide) (show 2 ≤ 10 from by first | omega | assumption | exact Or.inl rfl | exact Or.inr rfl | rfl | decide) (show (k1 : Int) = (M 14 L).toInt from by first | omega | assumption | exact Or.inl rfl | exact Or.inr rfl | rfl | decide) (show k1 = 4 ∨ k1 = 6 ∨ k1 = 8 from by first | omega | assumption | exact Or.inl rfl | exact Or.inr rfl | rfl | decide) (show ∀ a b, ¬ mDg a b → M8 a b = M a b from by first | exact fun a b q => ((q9p.2.1 (hr_r7 (by omega))).1 a b q).trans (c36_6 a b q)) hP hI hF hS (lv_sub hl [1, 2, 0] rfl)
        · have g10 : r7.toInt = 0 := congrArg Int32.toInt h10
          refine lv_iconst (v := 0) hx hb d_Md_waits_77 (by decide) ?_
          exact W.zret (v := 0) hx hb hr (rfl) (fun t ht hW => ⟨⟨0, M8, rfl, ⟨hI, hF, ⟨Or.inl rfl, fun q => absurd q (by decide), fun _ => q9p.2.2 (hz_r7 (by omega))⟩⟩, by unfold ux_E; rw [ht]; exact hP⟩, hS.F ht⟩) hS.2.2 d_Md_waits_78
      · have g1 : ¬ (((k1 : Nat) : Int) ≤ ((k2 : Nat) : Int)) := fun q => h1 (Int32.le_iff_toInt_le.mpr (by rw [nI_toInt (n := k1) (by omega), nI_toInt (n := k2) (by omega)]; exact q))
        refine lv_aload_n hx hb d_Md_waits_41 rfl (lv_at hl 0 rfl) ?_
        refine ux_get (C := R_Md) (T := F_Md) (N := 50) hx hb hT in_Md hown hK hP (by decide) rfl rfl 19 (by decide) (hT _ fl_Md_64) rfl d_Md_waits_42 ?_
        refine lv_aload_n hx hb d_Md_waits_45 rfl (lv_at hl 0 rfl) ?_
        refine lv_iload_n hx hb d_Md_waits_46 rfl (lv_at hl 2 rfl) ?_
        refine ux_calli (va_runV ⟨hx, hb, hml, hown, hts⟩ (s_Md_word l D ad cA A TB hA hB  Mc36 hI L hL ((hF _ _ (by unfold mFi; omega)).trans hlv) k2) (cwV 1 hts (tb_goodV ml_Md_155 im_Md_word se_Md_word ii_Md kt_Md_word) rfl rfl rfl (by decide +kernel) ⟨Nat.le_of_ble_eq_true rfl, Nat.le_of_ble_eq_true rfl⟩) (ux_preV (by decide) rfl rfl hP hK hi hN) rfl rfl hl.1 rfl (lv_room (Nat.le_of_ble_eq_true rfl)) d_Md_waits_47 ⟨Nat.zero_le _, Nat.zero_le _⟩) hS (fun r11 M12 H locs q13 hP hS => ?_)
        obtain ⟨hI, fq13, q13p⟩ := q13
        rw [tN_eq fq13] at hP hI
        subst q13p
        refine ux_zald hx hb hK hP (by decide) rfl (vp_in_nI (show 8 * L + k2 < 65 by omega) (by decide)) d_Md_waits_50 ?_
        rw [nI_clamp (n := 8 * L + k2) (by omega)]
        refine lv_if_ne hx hb d_Md_waits_51 rfl (fun h14 => ?_) (fun h14 => ?_)
        · have g14 : ¬ ((Mc36 17 (8 * L + k2)).toInt = 0) := fun q => h14 (Int32.toInt_inj.mp q)
          refine lv_iinc (k := 2) (v := nI (k2 + 2)) hx hb d_Md_waits_61 hl rfl (nI_add k2 2) (by decide) rfl (fun ls hl => ?_)
          have hl : lv_has ls 3 [(2, .int (nI (k2 + 2))), (0, .ref (ad 0)), (1, .int (nI k1))] := hl
          refine lv_goto hx hb d_Md_waits_64 rfl ?_
          exact ih36 (9 - (k2 + 2)) (by omega) k1 (k2 + 2) Mc36 _ _ ls rfl (show 3 ≤ (k2 + 2) from by first | omega | assumption | exact Or.inl rfl | exact Or.inr rfl | rfl | decide) (show (k2 + 2) ≤ 9 from by first | omega | assumption | exact Or.inl rfl | exact Or.inr rfl | rfl | decide) (show (k2 + 2) % 2 = 1 from by first | omega | assumption | exact Or.inl rfl | exact Or.inr rfl | rfl | decide) (show (k1 : Int) = (M 14 L).toInt from by first | omega | assumption | exact Or.inl rfl | exact Or.inr rfl | rfl | decide) (show k1 = 4 ∨ k1 = 6 ∨ k1 = 8 from by first | omega | assumption | exact Or.inl rfl | exact Or.inr rfl | rfl | decide) (show ∀ w : Nat, 3 ≤ w → w % 2 = 1 → w < (k2 + 2) → ¬ M 17 (8 * L + w) = 0 from by first | exact fs_step2 c36_5 (fun q => absurd ((hF _ _ (by unfold mFi; omega)).trans q) (by assumption)) c36_2) (show ∀ a b, ¬ mDg a b → Mc36 a b = M a b from by first | exact c36_6) hP hI hF hS (lv_sub hl [1, 2, 0] rfl)
        · have g14 : (Mc36 17 (8 * L + k2)).toInt = 0 := congrArg Int32.toInt h14
          refine lv_aload_n hx hb d_Md_waits_54 rfl (lv_at hl 0 rfl) ?_
          refine lv_iconst (v := 3) hx hb d_Md_waits_55 (by decide) ?_
          refine ux_callv (va_runV ⟨hx, hb, hml, hown, hts⟩ (s_Md_error l D ad cA A TB hA hB  Mc36 hI 3) (cwV 1 hts (tb_goodV ml_Md_166 im_Md_error se_Md_error ii_Md kt_Md_error) rfl rfl rfl (by decide +kernel) ⟨Nat.le_of_ble_eq_true rfl, Nat.le_of_ble_eq_true rfl⟩) (ux_preV (by decide) rfl rfl hP hK hi hN) rfl rfl hl.1 rfl (lv_room (Nat.le_of_ble_eq_true rfl)) d_Md_waits_56 ⟨Nat.zero_le _, Nat.zero_le _⟩) hS (fun M16 H locs q17 hP hS => ?_)
          obtain ⟨hI, fq17, q17p⟩ := q17
          have hF := fr_call hF fq17 (fun a b q => by unfold mEr at q; unfold mFi; omega)
          refine lv_iconst (v := 0) hx hb d_Md_waits_59 (by decide) ?_
          exact W.zret (v := 0) hx hb hr (rfl) (fun t ht hW => ⟨⟨0, M16, rfl, ⟨hI, hF, ⟨Or.inl rfl, fun q => absurd q (by decide), fun _ => q17p⟩⟩, by unfold ux_E; rw [ht]; exact hP⟩, hS.F ht⟩) hS.2.2 d_Md_waits_60
  refine lv_aload_n hx hb d_Md_waits_0 rfl (lv_at hl 0 rfl) ?_
  refine ux_get (C := R_Md) (T := F_Md) (N := 50) hx hb hT in_Md hown hK hP (by decide) rfl rfl 16 (by decide) (hT _ fl_Md_55) rfl d_Md_waits_1 ?_
  refine lv_aload_n hx hb d_Md_waits_4 rfl (lv_at hl 0 rfl) ?_
  refine ux_get (C := R_Md) (T := F_Md) (N := 50) hx hb hT in_Md hown hK hP (by decide) rfl rfl 10 (by decide) (hT _ fl_Md_36) rfl d_Md_waits_5 ?_
  refine lv_topi (fun z18 hz18 => ?_)
  rw [show M 0 10 = nI L from hlv] at hz18
  rw [hz18]
  refine ux_iald hx hb hK hP (by decide) rfl (vp_in_nI (show L < 8 by omega) (by decide)) d_Md_waits_8 ?_
  rw [nI_clamp (n := L) (by omega)]
  refine lv_topi (fun z20 hz20 => ?_)
  obtain ⟨c19, hc19, ec19⟩ := nat_of (x := M 14 L) (n := 8) (hI.1 14 L).1 (hI.1 14 L).2
  rw [ec19] at hz20
  rw [hz20]
  have tc19 : (M 14 L).toInt = (c19 : Int) := by rw [ec19]; exact nI_toInt (by omega)
  refine lv_istore_n hx hb d_Md_waits_9 rfl hl (by decide) rfl (fun ls hl => ?_)
  have hl : lv_has ls 3 [(1, .int (nI c19)), (0, .ref (ad 0))] := hl
  refine lv_iload_n hx hb d_Md_waits_10 rfl (lv_at hl 0 rfl) ?_
  refine lv_iconst (v := 4) hx hb d_Md_waits_11 (by decide) ?_
  refine lv_icmp_eq hx hb d_Md_waits_12 rfl (fun h21 => ?_) (fun h21 => ?_)
  · have g21 : ((c19 : Nat) : Int) = 4 := by have q := congrArg Int32.toInt h21; rw [nI_toInt (n := c19) (by omega)] at q; exact q
    refine lv_iconst (v := 3) hx hb d_Md_waits_34 (by decide) ?_
    refine lv_istore_n hx hb d_Md_waits_35 rfl hl (by decide) rfl (fun ls hl => ?_)
    have hl : lv_has ls 3 [(2, .int 3), (1, .int (nI c19)), (0, .ref (ad 0))] := hl
    exact cut36 (9 - 3) c19 3 M _ _ ls rfl (show 3 ≤ 3 from by first | omega | assumption | exact Or.inl rfl | exact Or.inr rfl | rfl | decide) (show 3 ≤ 9 from by first | omega | assumption | exact Or.inl rfl | exact Or.inr rfl | rfl | decide) (show 3 % 2 = 1 from by first | omega | assumption | exact Or.inl rfl | exact Or.inr rfl | rfl | decide) (show (c19 : Int) = (M 14 L).toInt from by first | omega | assumption | exact Or.inl rfl | exact Or.inr rfl | rfl | decide) (show c19 = 4 ∨ c19 = 6 ∨ c19 = 8 from by first | omega | assumption | exact Or.inl rfl | exact Or.inr rfl | rfl | decide) (show ∀ w : Nat, 3 ≤ w → w % 2 = 1 → w < 3 → ¬ M 17 (8 * L + w) = 0 from by first | (intro w h1 h2 h3; exfalso; omega)) (show ∀ a b, ¬ mDg a b → M a b = M a b from by first | exact fun _ _ _ => rfl) hP hI hF hS (lv_sub hl [2, 1, 0] rfl)
  · have g21 : ¬ (((c19 : Nat) : Int) = 4) := fun q => h21 (Int32.toInt_inj.mp (by rw [nI_toInt (n := c19) (by omega)]; exact q))
    refine lv_iload_n hx hb d_Md_waits_15 rfl (lv_at hl 0 rfl) ?_
    refine lv_bipush (v := 6) hx hb d_Md_waits_16 (by decide) ?_
    refine lv_icmp_eq hx hb d_Md_waits_18 rfl (fun h22 => ?_) (fun h22 => ?_)
    · have g22 : ((c19 : Nat) : Int) = 6 := by have q := congrArg Int32.toInt h22; rw [nI_toInt (n := c19) (by omega)] at q; exact q
      refine lv_iconst (v := 3) hx hb d_Md_waits_34 (by decide) ?_
      refine lv_istore_n hx hb d_Md_waits_35 rfl hl (by decide) rfl (fun ls hl => ?_)
      have hl : lv_has ls 3 [(2, .int 3), (1, .int (nI c19)), (0, .ref (ad 0))] := hl
      exact cut36 (9 - 3) c19 3 M _ _ ls rfl (show 3 ≤ 3 from by first | omega | assumption | exact Or.inl rfl | exact Or.inr rfl | rfl | decide) (show 3 ≤ 9 from by first | omega | assumption | exact Or.inl rfl | exact Or.inr rfl | rfl | decide) (show 3 % 2 = 1 from by first | omega | assumption | exact Or.inl rfl | exact Or.inr rfl | rfl | decide) (show (c19 : Int) = (M 14 L).toInt from by first | omega | assumption | exact Or.inl rfl | exact Or.inr rfl | rfl | decide) (show c19 = 4 ∨ c19 = 6 ∨ c19 = 8 from by first | omega | assumption | exact Or.inl rfl | exact Or.inr rfl | rfl | decide) (show ∀ w : Nat, 3 ≤ w → w % 2 = 1 → w < 3 → ¬ M 17 (8 * L + w) = 0 from by first | (intro w h1 h2 h3; exfalso; omega)) (show ∀ a b, ¬ mDg a b → M a b = M a b from by first | exact fun _ _ _ => rfl) hP hI hF hS (lv_sub hl [2, 1, 0] rfl)
    · have g22 : ¬ (((c19 : Nat) : Int) = 6) := fun q => h22 (Int32.toInt_inj.mp (by rw [nI_toInt (n := c19) (by omega)]; exact q))
      refine lv_iload_n hx hb d_Md_waits_21 rfl (lv_at hl 0 rfl) ?_
      refine lv_bipush (v := 8) hx hb d_Md_waits_22 (by decide) ?_
      refine lv_icmp_eq hx hb d_Md_waits_24 rfl (fun h23 => ?_) (fun h23 => ?_)
      · have g23 : ((c19 : Nat) : Int) = 8 := by have q := congrArg Int32.toInt h23; rw [nI_toInt (n := c19) (by omega)] at q; exact q
        refine lv_iconst (v := 3) hx hb d_Md_waits_34 (by decide) ?_
        refine lv_istore_n hx hb d_Md_waits_35 rfl hl (by decide) rfl (fun ls hl => ?_)
        have hl : lv_has ls 3 [(2, .int 3), (1, .int (nI c19)), (0, .ref (ad 0))] := hl
        exact cut36 (9 - 3) c19 3 M _ _ ls rfl (show 3 ≤ 3 from by first | omega | assumption | exact Or.inl rfl | exact Or.inr rfl | rfl | decide) (show 3 ≤ 9 from by first | omega | assumption | exact Or.inl rfl | exact Or.inr rfl | rfl | decide) (show 3 % 2 = 1 from by first | omega | assumption | exact Or.inl rfl | exact Or.inr rfl | rfl | decide) (show (c19 : Int) = (M 14 L).toInt from by first | omega | assumption | exact Or.inl rfl | exact Or.inr rfl | rfl | decide) (show c19 = 4 ∨ c19 = 6 ∨ c19 = 8 from by first | omega | assumption | exact Or.inl rfl | exact Or.inr rfl | rfl | decide) (show ∀ w : Nat, 3 ≤ w → w % 2 = 1 → w < 3 → ¬ M 17 (8 * L + w) = 0 from by first | (intro w h1 h2 h3; exfalso; omega)) (show ∀ a b, ¬ mDg a b → M a b = M a b from by first | exact fun _ _ _ => rfl) hP hI hF hS (lv_sub hl [2, 1, 0] rfl)
      · have g23 : ¬ (((c19 : Nat) : Int) = 8) := fun q => h23 (Int32.toInt_inj.mp (by rw [nI_toInt (n := c19) (by omega)]; exact q))
        refine lv_aload_n hx hb d_Md_waits_27 rfl (lv_at hl 1 rfl) ?_
        refine lv_iconst (v := 3) hx hb d_Md_waits_28 (by decide) ?_
        refine ux_callv (va_runV ⟨hx, hb, hml, hown, hts⟩ (s_Md_error l D ad cA A TB hA hB  M hI 3) (cwV 1 hts (tb_goodV ml_Md_166 im_Md_error se_Md_error ii_Md kt_Md_error) rfl rfl rfl (by decide +kernel) ⟨Nat.le_of_ble_eq_true rfl, Nat.le_of_ble_eq_true rfl⟩) (ux_preV (by decide) rfl rfl hP hK hi hN) rfl rfl hl.1 rfl (lv_room (Nat.le_of_ble_eq_true rfl)) d_Md_waits_29 ⟨Nat.zero_le _, Nat.zero_le _⟩) hS (fun M25 H locs q26 hP hS => ?_)
        obtain ⟨hI, fq26, q26p⟩ := q26
        have hF := fr_call hF fq26 (fun a b q => by unfold mEr at q; unfold mFi; omega)
        refine lv_iconst (v := 0) hx hb d_Md_waits_32 (by decide) ?_
        exact W.zret (v := 0) hx hb hr (rfl) (fun t ht hW => ⟨⟨0, M25, rfl, ⟨hI, hF, ⟨Or.inl rfl, fun q => absurd q (by decide), fun _ => q26p⟩⟩, by unfold ux_E; rw [ht]; exact hP⟩, hS.F ht⟩) hS.2.2 d_Md_waits_33

set_option maxHeartbeats 1600000 in
set_option maxRecDepth 100000 in
theorem s_Md_listen (l : Launch) (D : va_G) (ad : Nat → Nat) (cA : Nat → ClassId) (A TB : Nat) (hA : A ≤ 100000000) (hB : TB ≤ 2000000000) (M : ux_M) (hI : IvM A TB M) (L : Nat) (hL : L ≤ 7) (hlv : M 0 10 = nI L) (hA2 : 200 ≤ A) (hev : (M 14 L).toInt = 4 ∨ (M 14 L).toInt = 6 ∨ (M 14 L).toInt = 8) (hwb : ∀ w : Nat, 3 ≤ w → w % 2 = 1 → (w : Int) < (M 14 L).toInt → ¬ M 17 (8 * L + w) = 0) : Met l y_Md_listen w_Md_listen ({ frames := 6, cells := 0, slots := 0, locals := 134 }) (va_Pc [.ref (ad 0)] (ux_B D shM KM ad cA M)) (va_Qv (fun M1 => IvM A TB M1 ∧ (∀ a b, ¬ (mCm L) a b → M1 a b = M a b) ∧ (OutS M M1 L)) (ux_E D shM KM ad cA) (ux_A KM ad)) 0 0 (ux_A KM ad) := by
  refine Met.ofW (cc := b_Md_listen) (maxL := 5) (ret := none) (by decide) rfl ?_
  intro p e s m args below meth c s₁ B hml hv
  obtain ⟨rfl, hP, hK, hi, hN⟩ := hv
  have hx := B.exec
  have hb := B.bytes
  have hr := B.returns
  have hts := atoms_spec (ws := w_Md_listen) B.pre
  have hown : s.vm.findClass R_Md = some m.cls := findClass_of_methodNamed B.named
  have hlocks := B.notSynchronized
  have hT : ∀ w ∈ tb, w.before _ s = true := fun w h => hts w (List.mem_cons_of_mem _ h)
  have hS : va_S (ux_A KM ad) s.heap s.heap [] := va_S.rf
  have hl := lv_entry ([.ref (ad 0)]) (n := 5) (Nat.le_of_ble_eq_true rfl)
  rw [lg_entry_eq]
  generalize (lg_sl ([.ref (ad 0)]) ++ List.replicate (5 - (lg_sl ([.ref (ad 0)])).length) Slot.unset).toArray = ls at hl ⊢
  have hl : lv_has ls 5 [(0, .ref (ad 0))] := hl
  have hF : ∀ a b, ¬ (mCm L) a b → M a b = M a b := fun _ _ _ => rfl
  have cut28 : ∀ (nn : Nat) (i_2 i_3 i_4 : Int32) (Mc28 : ux_M) (H : Heap) (locs : List Loc) (ls : Array Slot), ((Mc28 0 27).toInt - (Mc28 0 28).toInt).toNat = nn → (i_3 = 0 ∨ ∃ w : Nat, i_3 = nI w ∧ 3 ≤ w ∧ w % 2 = 1 ∧ (w : Int) ≤ (M 14 L).toInt) → (Mc28 0 10 = nI L) → va_P D classes (ux_w shM KM ad cA Mc28) H → IvM A TB Mc28 → (∀ a b, ¬ (mCm L) a b → Mc28 a b = M a b) → va_S (ux_A KM ad) s.heap H locs → lv_has ls 5 [(0, .ref (ad 0)), (2, .int i_2), (3, .int i_3), (4, .int i_4)] → W p l e (headSpec w_Md_listen ({ frames := 6, cells := 0, slots := 0, locals := 134 })).room s m (([.ref (ad 0)] : List Value).toArray) below meth c H locs 0 0 (MQ below (va_Qv (fun M1 => IvM A TB M1 ∧ (∀ a b, ¬ (mCm L) a b → M1 a b = M a b) ∧ (OutS M M1 L)) (ux_E D shM KM ad cA) (ux_A KM ad)) (([.ref (ad 0)] : List Value).toArray) s 0 0 (ux_A KM ad)) (F0 m 28 ls []) := by
    intro nn
    induction nn using Nat.strongRecOn with
    | ind nn ih28 =>
      intro i_2 i_3 i_4 Mc28 H locs ls hn c28_0 c28_1 hP hI hF hS hl
      have hft := hI.2.2
      unfold Ft at hft
      refine lv_iload_n hx hb d_Md_listen_28 rfl (lv_at hl 2 rfl) ?_
      refine lv_if_ne hx hb d_Md_listen_29 rfl (fun h1 => ?_) (fun h1 => ?_)
      · have g1 : ¬ (i_3.toInt = 0) := fun q => h1 (Int32.toInt_inj.mp q)
        refine lv_iload_n hx hb d_Md_listen_61 rfl (lv_at hl 2 rfl) ?_
        refine lv_if_le hx hb d_Md_listen_62 rfl (fun h2 => ?_) (fun h2 => ?_)
        · have g2 : i_3.toInt ≤ 0 := Int32.le_iff_toInt_le.mp h2
          have w2 := ti_lo i_3
          refine lv_aload_n hx hb d_Md_listen_75 rfl (lv_at hl 0 rfl) ?_
          refine ux_callv (va_runV ⟨hx, hb, hml, hown, hts⟩ (s_Md_nothing l D ad cA A TB hA hB  Mc28 hI ) (cwV 0 hts (tb_goodV ml_Md_138 im_Md_nothing se_Md_nothing ii_Md kt_Md_nothing) rfl rfl rfl (by decide +kernel) ⟨Nat.le_of_ble_eq_true rfl, Nat.le_of_ble_eq_true rfl⟩) (ux_preV (by decide) rfl rfl hP hK hi hN) rfl rfl hl.1 rfl (lv_room (Nat.le_of_ble_eq_true rfl)) d_Md_listen_76 ⟨Nat.zero_le _, Nat.zero_le _⟩) hS (fun M4 H locs q5 hP hS => ?_)
          obtain ⟨hI, fq5, q5p⟩ := q5
          have hF := fr_call hF fq5 (fun a b q => by unfold mRe at q; unfold mCm; omega)
          refine lv_aload_n hx hb d_Md_listen_79 rfl (lv_at hl 0 rfl) ?_
          refine lv_bipush (v := 84) hx hb d_Md_listen_80 (by decide) ?_
          refine ux_callv (va_runV ⟨hx, hb, hml, hown, hts⟩ (s_Md_say l D ad cA A TB hA hB  M4 hI 84 (by omega)) (cwV 1 hts (tb_goodV ml_Md_143 im_Md_say se_Md_say ii_Md kt_Md_say) rfl rfl rfl (by decide +kernel) ⟨Nat.le_of_ble_eq_true rfl, Nat.le_of_ble_eq_true rfl⟩) (ux_preV (by decide) rfl rfl hP hK hi hN) rfl rfl hl.1 rfl (lv_room (Nat.le_of_ble_eq_true rfl)) d_Md_listen_82 ⟨Nat.zero_le _, Nat.zero_le _⟩) hS (fun M7 H locs q8 hP hS => ?_)
          obtain ⟨hI, fq8, q8p⟩ := q8
          have hF := fr_call hF fq8 (fun a b q => by unfold mRe at q; unfold mCm; omega)
          refine lv_aload_n hx hb d_Md_listen_85 rfl (lv_at hl 0 rfl) ?_
          refine lv_iconst (v := 0) hx hb d_Md_listen_86 (by decide) ?_
          refine ux_callv (va_runV ⟨hx, hb, hml, hown, hts⟩ (s_Md_done l D ad cA A TB hA hB  M7 hI 0) (cwV 1 hts (tb_goodV ml_Md_235 im_Md_done se_Md_done ii_Md kt_Md_done) rfl rfl rfl (by decide +kernel) ⟨Nat.le_of_ble_eq_true rfl, Nat.le_of_ble_eq_true rfl⟩) (ux_preV (by decide) rfl rfl hP hK hi hN) rfl rfl hl.1 rfl (lv_room (Nat.le_of_ble_eq_true rfl)) d_Md_listen_87 ⟨Nat.zero_le _, Nat.zero_le _⟩) hS (fun M10 H locs q11 hP hS => ?_)
          obtain ⟨hI, fq11, q11p⟩ := q11
          have hF := fr_call hF fq11 (fun a b q => by unfold mDn at q; unfold mCm; omega)
          exact W.vret hx hb hr (fun t ht hW => ⟨⟨M10, rfl, ⟨hI, hF, Or.inl ⟨((fq11 _ _ (by unfold mDn; omega)).trans ((fq8 _ _ (by unfold mRe; omega)).trans ((fq5 _ _ (by unfold mRe; omega)).trans (c28_1)))), q11p.1⟩⟩, by unfold ux_E; rw [ht]; exact hP⟩, hS.F ht⟩) hS.2.2 d_Md_listen_90
        · have g2 : ¬ (i_3.toInt ≤ 0) := fun q => h2 (Int32.le_iff_toInt_le.mpr q)
          have u2 := ti_hi i_3
          refine lv_aload_n hx hb d_Md_listen_65 rfl (lv_at hl 0 rfl) ?_
          refine lv_iload_n hx hb d_Md_listen_66 rfl (lv_at hl 2 rfl) ?_
          obtain ⟨wq, hwq0, hwq1, hwq2, hwq3⟩ := (show _ ∨ _ from c28_0).resolve_left (fun z => by have z := congrArg Int32.toInt z; rw [show (0 : Int32).toInt = 0 from rfl] at z; omega)
          subst hwq0
          have hbw : ¬ Mc28 17 (8 * L + wq) = 0 := fun q => hwb wq hwq1 hwq2 (by omega) ((hF _ _ (by unfold mCm; omega)).symm.trans q)
          refine lv_iconst (v := 2) hx hb d_Md_listen_67 (by decide) ?_
          refine ux_calli (va_runV ⟨hx, hb, hml, hown, hts⟩ (s_Md_enterWord l D ad cA A TB hA hB  Mc28 hI L hL (c28_1) hA2 wq (by omega) (by first | assumption | exact hq1 (by omega) | exact fun q => hb1 ((hF _ _ (by unfold mCm; omega)).symm.trans q)) 2 (by decide) (fun q => absurd q (by decide)) (fun q => absurd q (by decide))) (cwV 2 hts (tb_goodV ml_Md_284 im_Md_enterWord se_Md_enterWord ii_Md kt_Md_enterWord) rfl rfl rfl (by decide +kernel) ⟨Nat.le_of_ble_eq_true rfl, Nat.le_of_ble_eq_true rfl⟩) (ux_preV (by decide) rfl rfl hP hK hi hN) rfl rfl hl.1 rfl (lv_room (Nat.le_of_ble_eq_true rfl)) d_Md_listen_68 ⟨Nat.zero_le _, Nat.zero_le _⟩) hS (fun r12 M13 H locs q14 hP hS => ?_)
          obtain ⟨hI, fq14, q14p⟩ := q14
          have hF := fr_call hF fq14 (fun a b q => q)
          refine lv_pop hx hb d_Md_listen_71 rfl ?_
          refine lv_goto hx hb d_Md_listen_72 rfl ?_
          exact W.vret hx hb hr (fun t ht hW => ⟨⟨M13, rfl, ⟨hI, hF, (OutS_cong (by assumption) q14p.2)⟩, by unfold ux_E; rw [ht]; exact hP⟩, hS.F ht⟩) hS.2.2 d_Md_listen_90
      · have g1 : i_3.toInt = 0 := congrArg Int32.toInt h1
        refine lv_iload hx hb d_Md_listen_32 (lv_at hl 3 rfl) ?_
        refine lv_iload_n hx hb d_Md_listen_34 rfl (lv_at hl 1 rfl) ?_
        refine lv_icmp_ge hx hb d_Md_listen_35 rfl (fun h15 => ?_) (fun h15 => ?_)
        · have g15 : i_2.toInt ≤ i_4.toInt := Int32.le_iff_toInt_le.mp h15
          have u15 := ti_hi i_4
          have w15 := ti_lo i_2
          refine lv_iload_n hx hb d_Md_listen_61 rfl (lv_at hl 2 rfl) ?_
          refine lv_if_le hx hb d_Md_listen_62 rfl (fun h16 => ?_) (fun h16 => ?_)
          · have g16 : i_3.toInt ≤ 0 := Int32.le_iff_toInt_le.mp h16
            have w16 := ti_lo i_3
            refine lv_aload_n hx hb d_Md_listen_75 rfl (lv_at hl 0 rfl) ?_
            refine ux_callv (va_runV ⟨hx, hb, hml, hown, hts⟩ (s_Md_nothing l D ad cA A TB hA hB  Mc28 hI ) (cwV 0 hts (tb_goodV ml_Md_138 im_Md_nothing se_Md_nothing ii_Md kt_Md_nothing) rfl rfl rfl (by decide +kernel) ⟨Nat.le_of_ble_eq_true rfl, Nat.le_of_ble_eq_true rfl⟩) (ux_preV (by decide) rfl rfl hP hK hi hN) rfl rfl hl.1 rfl (lv_room (Nat.le_of_ble_eq_true rfl)) d_Md_listen_76 ⟨Nat.zero_le _, Nat.zero_le _⟩) hS (fun M18 H locs q19 hP hS => ?_)
            obtain ⟨hI, fq19, q19p⟩ := q19
            have hF := fr_call hF fq19 (fun a b q => by unfold mRe at q; unfold mCm; omega)
            refine lv_aload_n hx hb d_Md_listen_79 rfl (lv_at hl 0 rfl) ?_
            refine lv_bipush (v := 84) hx hb d_Md_listen_80 (by decide) ?_
            refine ux_callv (va_runV ⟨hx, hb, hml, hown, hts⟩ (s_Md_say l D ad cA A TB hA hB  M18 hI 84 (by omega)) (cwV 1 hts (tb_goodV ml_Md_143 im_Md_say se_Md_say ii_Md kt_Md_say) rfl rfl rfl (by decide +kernel) ⟨Nat.le_of_ble_eq_true rfl, Nat.le_of_ble_eq_true rfl⟩) (ux_preV (by decide) rfl rfl hP hK hi hN) rfl rfl hl.1 rfl (lv_room (Nat.le_of_ble_eq_true rfl)) d_Md_listen_82 ⟨Nat.zero_le _, Nat.zero_le _⟩) hS (fun M21 H locs q22 hP hS => ?_)
            obtain ⟨hI, fq22, q22p⟩ := q22
            have hF := fr_call hF fq22 (fun a b q => by unfold mRe at q; unfold mCm; omega)
            refine lv_aload_n hx hb d_Md_listen_85 rfl (lv_at hl 0 rfl) ?_
            refine lv_iconst (v := 0) hx hb d_Md_listen_86 (by decide) ?_
            refine ux_callv (va_runV ⟨hx, hb, hml, hown, hts⟩ (s_Md_done l D ad cA A TB hA hB  M21 hI 0) (cwV 1 hts (tb_goodV ml_Md_235 im_Md_done se_Md_done ii_Md kt_Md_done) rfl rfl rfl (by decide +kernel) ⟨Nat.le_of_ble_eq_true rfl, Nat.le_of_ble_eq_true rfl⟩) (ux_preV (by decide) rfl rfl hP hK hi hN) rfl rfl hl.1 rfl (lv_room (Nat.le_of_ble_eq_true rfl)) d_Md_listen_87 ⟨Nat.zero_le _, Nat.zero_le _⟩) hS (fun M24 H locs q25 hP hS => ?_)
            obtain ⟨hI, fq25, q25p⟩ := q25
            have hF := fr_call hF fq25 (fun a b q => by unfold mDn at q; unfold mCm; omega)
            exact W.vret hx hb hr (fun t ht hW => ⟨⟨M24, rfl, ⟨hI, hF, Or.inl ⟨((fq25 _ _ (by unfold mDn; omega)).trans ((fq22 _ _ (by unfold mRe; omega)).trans ((fq19 _ _ (by unfold mRe; omega)).trans (c28_1)))), q25p.1⟩⟩, by unfold ux_E; rw [ht]; exact hP⟩, hS.F ht⟩) hS.2.2 d_Md_listen_90
          · have g16 : ¬ (i_3.toInt ≤ 0) := fun q => h16 (Int32.le_iff_toInt_le.mpr q)
            have u16 := ti_hi i_3
            refine lv_aload_n hx hb d_Md_listen_65 rfl (lv_at hl 0 rfl) ?_
            refine lv_iload_n hx hb d_Md_listen_66 rfl (lv_at hl 2 rfl) ?_
            obtain ⟨wq, hwq0, hwq1, hwq2, hwq3⟩ := (show _ ∨ _ from c28_0).resolve_left (fun z => by have z := congrArg Int32.toInt z; rw [show (0 : Int32).toInt = 0 from rfl] at z; omega)
            subst hwq0
            have hbw : ¬ Mc28 17 (8 * L + wq) = 0 := fun q => hwb wq hwq1 hwq2 (by omega) ((hF _ _ (by unfold mCm; omega)).symm.trans q)
            refine lv_iconst (v := 2) hx hb d_Md_listen_67 (by decide) ?_
            refine ux_calli (va_runV ⟨hx, hb, hml, hown, hts⟩ (s_Md_enterWord l D ad cA A TB hA hB  Mc28 hI L hL (c28_1) hA2 wq (by omega) (by first | assumption | exact hq1 (by omega) | exact fun q => hb1 ((hF _ _ (by unfold mCm; omega)).symm.trans q)) 2 (by decide) (fun q => absurd q (by decide)) (fun q => absurd q (by decide))) (cwV 2 hts (tb_goodV ml_Md_284 im_Md_enterWord se_Md_enterWord ii_Md kt_Md_enterWord) rfl rfl rfl (by decide +kernel) ⟨Nat.le_of_ble_eq_true rfl, Nat.le_of_ble_eq_true rfl⟩) (ux_preV (by decide) rfl rfl hP hK hi hN) rfl rfl hl.1 rfl (lv_room (Nat.le_of_ble_eq_true rfl)) d_Md_listen_68 ⟨Nat.zero_le _, Nat.zero_le _⟩) hS (fun r26 M27 H locs q28 hP hS => ?_)
            obtain ⟨hI, fq28, q28p⟩ := q28
            have hF := fr_call hF fq28 (fun a b q => q)
            refine lv_pop hx hb d_Md_listen_71 rfl ?_
            refine lv_goto hx hb d_Md_listen_72 rfl ?_
            exact W.vret hx hb hr (fun t ht hW => ⟨⟨M27, rfl, ⟨hI, hF, (OutS_cong (by assumption) q28p.2)⟩, by unfold ux_E; rw [ht]; exact hP⟩, hS.F ht⟩) hS.2.2 d_Md_listen_90
        · have g15 : ¬ (i_2.toInt ≤ i_4.toInt) := fun q => h15 (Int32.le_iff_toInt_le.mpr q)
          have u15 := ti_hi i_2
          have w15 := ti_lo i_4
          refine lv_aload_n hx hb d_Md_listen_38 rfl (lv_at hl 0 rfl) ?_
          refine ux_calli (va_runV ⟨hx, hb, hml, hown, hts⟩ (s_Md_spend l D ad cA A TB hA hB  Mc28 hI ) (cwV 0 hts (tb_goodV ml_Md_246 im_Md_spend se_Md_spend ii_Md kt_Md_spend) rfl rfl rfl (by decide +kernel) ⟨Nat.le_of_ble_eq_true rfl, Nat.le_of_ble_eq_true rfl⟩) (ux_preV (by decide) rfl rfl hP hK hi hN) rfl rfl hl.1 rfl (lv_room (Nat.le_of_ble_eq_true rfl)) d_Md_listen_39 ⟨Nat.zero_le _, Nat.zero_le _⟩) hS (fun r29 M30 H locs q31 hP hS => ?_)
          obtain ⟨hI, fq31, q31p⟩ := q31
          have hF := fr_call hF fq31 (fun a b q => by unfold mSp at q; unfold mCm; omega)
          have hr_r29 : ¬ r29.toInt = 0 → r29 = 1 := fun z => by rcases q31p.1 with q | q; exact absurd (by rw [q]; rfl) z; exact q
          have hz_r29 : r29.toInt = 0 → r29 = 0 := fun z => by rcases q31p.1 with q | q; exact q; rw [q] at z; exact absurd z (by decide)
          refine lv_if_ne hx hb d_Md_listen_42 rfl (fun h32 => ?_) (fun h32 => ?_)
          · have g32 : ¬ (r29.toInt = 0) := fun q => h32 (Int32.toInt_inj.mp q)
            obtain ⟨hs1, hs2⟩ := q31p.2.1 (hr_r29 (by omega))
            have hs48 := congrArg Int32.toInt (hs1 0 48 (by omega))
            have hs27 := congrArg Int32.toInt (hs1 0 27 (by omega))
            have hft2 := hI.2.2
            unfold Ft at hft2
            refine lv_aload_n hx hb d_Md_listen_46 rfl (lv_at hl 0 rfl) ?_
            refine ux_callv (va_runV ⟨hx, hb, hml, hown, hts⟩ (s_Md_tick l D ad cA A TB hA hB  M30 hI (by omega)) (cwV 0 hts (tb_goodV ml_Md_380 im_Md_tick se_Md_tick ii_Md kt_Md_tick) rfl rfl rfl (by decide +kernel) ⟨Nat.le_of_ble_eq_true rfl, Nat.le_of_ble_eq_true rfl⟩) (ux_preV (by decide) rfl rfl hP hK hi hN) rfl rfl hl.1 rfl (lv_room (Nat.le_of_ble_eq_true rfl)) d_Md_listen_47 ⟨Nat.zero_le _, Nat.zero_le _⟩) hS (fun M34 H locs q35 hP hS => ?_)
            obtain ⟨hI, fq35, q35p⟩ := q35
            have hF := fr_call hF fq35 (fun a b q => by unfold mTi at q; unfold mCm; omega)
            have hG : M34 14 L = M 14 L := hF _ _ (by unfold mCm; omega)
            refine lv_aload_n hx hb d_Md_listen_50 rfl (lv_at hl 0 rfl) ?_
            refine ux_calli (va_runV ⟨hx, hb, hml, hown, hts⟩ (s_Md_fires l D ad cA A TB hA hB  M34 hI L hL ((fq35 _ _ (by unfold mTi; omega)).trans ((fq31 _ _ (by unfold mSp; omega)).trans (c28_1)))) (cwV 0 hts (tb_goodV ml_Md_376 im_Md_fires se_Md_fires ii_Md kt_Md_fires) rfl rfl rfl (by decide +kernel) ⟨Nat.le_of_ble_eq_true rfl, Nat.le_of_ble_eq_true rfl⟩) (ux_preV (by decide) rfl rfl hP hK hi hN) rfl rfl hl.1 rfl (lv_room (Nat.le_of_ble_eq_true rfl)) d_Md_listen_51 ⟨Nat.zero_le _, Nat.zero_le _⟩) hS (fun r36 M37 H locs q38 hP hS => ?_)
            obtain ⟨hI, fq38, q38p⟩ := q38
            have hF := fr_call hF fq38 (fun a b q => by unfold mFr at q; unfold mCm; omega)
            have q38c := congrArg Int32.toInt (fq38 14 L (by unfold mFr; omega))
            refine lv_istore_n hx hb d_Md_listen_54 rfl hl (by decide) rfl (fun ls hl => ?_)
            have hl : lv_has ls 5 [(3, .int r36), (0, .ref (ad 0)), (2, .int i_2), (4, .int i_4)] := hl
            have hv27 := congrArg Int32.toInt (show M37 0 27 = M30 0 27 from (fq38 _ _ (by unfold mFr; omega)).trans (fq35 _ _ (by unfold mTi; omega)))
            have hv28 := congrArg Int32.toInt (show M37 0 28 = M30 0 28 from (fq38 _ _ (by unfold mFr; omega)).trans (fq35 _ _ (by unfold mTi; omega)))
            obtain ⟨x39, ex39⟩ : ∃ z : Int32, z = i_4 + 1 := ⟨_, rfl⟩
            refine lv_iinc (k := 3) (v := x39) hx hb d_Md_listen_55 hl rfl ex39.symm (by decide) rfl (fun ls hl => ?_)
            have hl : lv_has ls 5 [(4, .int x39), (3, .int r36), (0, .ref (ad 0)), (2, .int i_2)] := hl
            try have fx39 : x39.toInt = i_4.toInt + 1 := by rw [ex39]; exact ti_add (by (try rw [show (1 : Int32).toInt = 1 from rfl]); omega) (by (try rw [show (1 : Int32).toInt = 1 from rfl]); omega)
            refine lv_goto hx hb d_Md_listen_58 rfl ?_
            exact ih28 (((M37 0 27).toInt - (M37 0 28).toInt).toNat) (by omega) i_2 r36 x39 M37 _ _ ls rfl (show r36 = 0 ∨ ∃ w : Nat, r36 = nI w ∧ 3 ≤ w ∧ w % 2 = 1 ∧ (w : Int) ≤ (M 14 L).toInt from by first | (rcases q38p with q | ⟨w, q1, q2, q3, q4⟩; exact Or.inl q; exact Or.inr ⟨w, q1, q2, q3, by have := congrArg Int32.toInt (show M34 14 L = M 14 L from hG); omega⟩)) (show M37 0 10 = nI L from by first | exact ((fq38 _ _ (by unfold mFr; omega)).trans ((fq35 _ _ (by unfold mTi; omega)).trans ((fq31 _ _ (by unfold mSp; omega)).trans (c28_1))))) hP hI hF hS (lv_sub hl [2, 3, 1, 0] rfl)
          · have g32 : r29.toInt = 0 := congrArg Int32.toInt h32
            exact W.vret hx hb hr (fun t ht hW => ⟨⟨M30, rfl, ⟨hI, hF, Or.inl ⟨((fq31 _ _ (by unfold mSp; omega)).trans (c28_1)), (q31p.2.2 (hz_r29 (by omega))).1⟩⟩, by unfold ux_E; rw [ht]; exact hP⟩, hS.F ht⟩) hS.2.2 d_Md_listen_45
  refine lv_aload_n hx hb d_Md_listen_0 rfl (lv_at hl 0 rfl) ?_
  refine lv_iconst (v := (-1)) hx hb d_Md_listen_1 (by decide) ?_
  refine lv_iconst (v := 1) hx hb d_Md_listen_2 (by decide) ?_
  refine ux_calli (va_runV ⟨hx, hb, hml, hown, hts⟩ (s_Md_digits_w l D ad cA A TB hA hB  M hI L hL (hlv) 1 (by omega)) (cwV 2 hts (tb_goodV ml_Md_319 im_Md_digits se_Md_digits ii_Md kt_Md_digits) rfl rfl rfl (by decide +kernel) ⟨Nat.le_of_ble_eq_true rfl, Nat.le_of_ble_eq_true rfl⟩) (ux_preV (by decide) rfl rfl hP hK hi hN) rfl rfl hl.1 rfl (lv_room (Nat.le_of_ble_eq_true rfl)) d_Md_listen_3 ⟨Nat.zero_le _, Nat.zero_le _⟩) hS (fun r40 M41 H locs q42 hP hS => ?_)
  obtain ⟨hI, fq42, q42p⟩ := q42
  have hF := fr_call hF fq42 (fun a b q => by unfold mDg at q; unfold mCm; omega)
  refine lv_istore_n hx hb d_Md_listen_6 rfl hl (by decide) rfl (fun ls hl => ?_)
  have hl : lv_has ls 5 [(1, .int r40), (0, .ref (ad 0))] := hl
  refine lv_iload_n hx hb d_Md_listen_7 rfl (lv_at hl 0 rfl) ?_
  refine lv_if_eq hx hb d_Md_listen_8 rfl (fun h43 => ?_) (fun h43 => ?_)
  · have g43 : r40.toInt = 0 := congrArg Int32.toInt h43
    refine lv_iconst (v := 0) hx hb d_Md_listen_18 (by decide) ?_
    refine lv_istore_n hx hb d_Md_listen_19 rfl hl (by decide) rfl (fun ls hl => ?_)
    have hl : lv_has ls 5 [(2, .int 0), (1, .int r40), (0, .ref (ad 0))] := hl
    have hG : M41 14 L = M 14 L := hF _ _ (by unfold mCm; omega)
    refine lv_aload_n hx hb d_Md_listen_20 rfl (lv_at hl 2 rfl) ?_
    refine ux_calli (va_runV ⟨hx, hb, hml, hown, hts⟩ (s_Md_fires l D ad cA A TB hA hB  M41 hI L hL ((fq42 _ _ (by unfold mDg; omega)).trans (hlv))) (cwV 0 hts (tb_goodV ml_Md_376 im_Md_fires se_Md_fires ii_Md kt_Md_fires) rfl rfl rfl (by decide +kernel) ⟨Nat.le_of_ble_eq_true rfl, Nat.le_of_ble_eq_true rfl⟩) (ux_preV (by decide) rfl rfl hP hK hi hN) rfl rfl hl.1 rfl (lv_room (Nat.le_of_ble_eq_true rfl)) d_Md_listen_21 ⟨Nat.zero_le _, Nat.zero_le _⟩) hS (fun r44 M45 H locs q46 hP hS => ?_)
    obtain ⟨hI, fq46, q46p⟩ := q46
    have hF := fr_call hF fq46 (fun a b q => by unfold mFr at q; unfold mCm; omega)
    have q46c := congrArg Int32.toInt (fq46 14 L (by unfold mFr; omega))
    refine lv_istore_n hx hb d_Md_listen_24 rfl hl (by decide) rfl (fun ls hl => ?_)
    have hl : lv_has ls 5 [(3, .int r44), (2, .int 0), (1, .int r40), (0, .ref (ad 0))] := hl
    refine lv_iconst (v := 0) hx hb d_Md_listen_25 (by decide) ?_
    refine lv_istore hx hb d_Md_listen_26 hl (by decide) rfl (fun ls hl => ?_)
    have hl : lv_has ls 5 [(4, .int 0), (3, .int r44), (2, .int 0), (1, .int r40), (0, .ref (ad 0))] := hl
    exact cut28 (((M45 0 27).toInt - (M45 0 28).toInt).toNat) 0 r44 0 M45 _ _ ls rfl (show r44 = 0 ∨ ∃ w : Nat, r44 = nI w ∧ 3 ≤ w ∧ w % 2 = 1 ∧ (w : Int) ≤ (M 14 L).toInt from by first | (rcases q46p with q | ⟨w, q1, q2, q3, q4⟩; exact Or.inl q; exact Or.inr ⟨w, q1, q2, q3, by have := congrArg Int32.toInt (show M41 14 L = M 14 L from hG); omega⟩)) (show M45 0 10 = nI L from by first | exact ((fq46 _ _ (by unfold mFr; omega)).trans ((fq42 _ _ (by unfold mDg; omega)).trans (hlv)))) hP hI hF hS (lv_sub hl [4, 2, 1, 0] rfl)
  · have g43 : ¬ (r40.toInt = 0) := fun q => h43 (Int32.toInt_inj.mp q)
    refine lv_aload_n hx hb d_Md_listen_11 rfl (lv_at hl 1 rfl) ?_
    refine ux_get (C := R_Md) (T := F_Md) (N := 50) hx hb hT in_Md hown hK hP (by decide) rfl rfl 35 (by decide) (hT _ fl_Md_316) rfl d_Md_listen_12 ?_
    refine lv_goto hx hb d_Md_listen_15 rfl ?_
    refine lv_istore_n hx hb d_Md_listen_19 rfl hl (by decide) rfl (fun ls hl => ?_)
    have hl : lv_has ls 5 [(2, .int (M41 0 35)), (1, .int r40), (0, .ref (ad 0))] := hl
    have hG : M41 14 L = M 14 L := hF _ _ (by unfold mCm; omega)
    refine lv_aload_n hx hb d_Md_listen_20 rfl (lv_at hl 2 rfl) ?_
    refine ux_calli (va_runV ⟨hx, hb, hml, hown, hts⟩ (s_Md_fires l D ad cA A TB hA hB  M41 hI L hL ((fq42 _ _ (by unfold mDg; omega)).trans (hlv))) (cwV 0 hts (tb_goodV ml_Md_376 im_Md_fires se_Md_fires ii_Md kt_Md_fires) rfl rfl rfl (by decide +kernel) ⟨Nat.le_of_ble_eq_true rfl, Nat.le_of_ble_eq_true rfl⟩) (ux_preV (by decide) rfl rfl hP hK hi hN) rfl rfl hl.1 rfl (lv_room (Nat.le_of_ble_eq_true rfl)) d_Md_listen_21 ⟨Nat.zero_le _, Nat.zero_le _⟩) hS (fun r47 M48 H locs q49 hP hS => ?_)
    obtain ⟨hI, fq49, q49p⟩ := q49
    have hF := fr_call hF fq49 (fun a b q => by unfold mFr at q; unfold mCm; omega)
    have q49c := congrArg Int32.toInt (fq49 14 L (by unfold mFr; omega))
    refine lv_istore_n hx hb d_Md_listen_24 rfl hl (by decide) rfl (fun ls hl => ?_)
    have hl : lv_has ls 5 [(3, .int r47), (2, .int (M41 0 35)), (1, .int r40), (0, .ref (ad 0))] := hl
    refine lv_iconst (v := 0) hx hb d_Md_listen_25 (by decide) ?_
    refine lv_istore hx hb d_Md_listen_26 hl (by decide) rfl (fun ls hl => ?_)
    have hl : lv_has ls 5 [(4, .int 0), (3, .int r47), (2, .int (M41 0 35)), (1, .int r40), (0, .ref (ad 0))] := hl
    exact cut28 (((M48 0 27).toInt - (M48 0 28).toInt).toNat) (M41 0 35) r47 0 M48 _ _ ls rfl (show r47 = 0 ∨ ∃ w : Nat, r47 = nI w ∧ 3 ≤ w ∧ w % 2 = 1 ∧ (w : Int) ≤ (M 14 L).toInt from by first | (rcases q49p with q | ⟨w, q1, q2, q3, q4⟩; exact Or.inl q; exact Or.inr ⟨w, q1, q2, q3, by have := congrArg Int32.toInt (show M41 14 L = M 14 L from hG); omega⟩)) (show M48 0 10 = nI L from by first | exact ((fq49 _ _ (by unfold mFr; omega)).trans ((fq42 _ _ (by unfold mDg; omega)).trans (hlv)))) hP hI hF hS (lv_sub hl [4, 2, 1, 0] rfl)
