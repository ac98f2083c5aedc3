/-! The reference, safe: what fires, a letter added; written by wip/gen/ref.py -/
def mAd (i a b : Nat) : Prop := (a = 19 ∧ b = i) ∨ (a = 20 ∧ 20 * i ≤ b) ∨ (a = 0 ∧ (b = 25 ∨ b = 23 ∨ b = 24)) ∨ a = 21

set_option maxHeartbeats 1600000 in
set_option maxRecDepth 100000 in
theorem s_Md_fires (l : Launch) (D : va_G) (ad : Nat → Nat) (cA : Nat → ClassId) (A TB : Nat) (hA : A ≤ 100000000) (hB : TB ≤ 2000000000) (M : ux_M) (hI : IvM A TB M) (L : Nat) (hL : L ≤ 7) (hlv : M 0 10 = nI L) : Met l y_Md_fires w_Md_fires ({ frames := 3, cells := 0, slots := 0, locals := 72 }) (va_Pc [.ref (ad 0)] (ux_B D shM KM ad cA M)) (va_Qi (fun r M1 => IvM A TB M1 ∧ (∀ a b, ¬ mFr a b → M1 a b = M a b) ∧ (r = 0 ∨ ∃ w, r = nI w ∧ 3 ≤ w ∧ w % 2 = 1 ∧ (w : Int) ≤ (M 14 L).toInt)) (ux_E D shM KM ad cA) (ux_A KM ad)) 0 0 (ux_A KM ad) := by
  refine Met.ofW (cc := b_Md_fires) (maxL := 4) (ret := (some .int)) (by decide) rfl ?_
  intro p e s m args below meth c s₁ B hml hv
  obtain ⟨rfl, hP, hK, hi, hN⟩ := hv
  have hx := B.exec
  have hb := B.bytes
  have hr := B.returns
  have hts := atoms_spec (ws := w_Md_fires) B.pre
  have hown : s.vm.findClass R_Md = some m.cls := findClass_of_methodNamed B.named
  have hlocks := B.notSynchronized
  have hT : ∀ w ∈ tb, w.before _ s = true := fun w h => hts w (List.mem_cons_of_mem _ h)
  have hS : va_S (ux_A KM ad) s.heap s.heap [] := va_S.rf
  have hl := lv_entry ([.ref (ad 0)]) (n := 4) (Nat.le_of_ble_eq_true rfl)
  rw [lg_entry_eq]
  generalize (lg_sl ([.ref (ad 0)]) ++ List.replicate (4 - (lg_sl ([.ref (ad 0)])).length) Slot.unset).toArray = ls at hl ⊢
  have hl : lv_has ls 4 [(0, .ref (ad 0))] := hl
  have hF : ∀ a b, ¬ mFr a b → M a b = M a b := fun _ _ _ => rfl
  have cut30 : ∀ (nn : Nat) (k1 : Nat) (Mc30 : ux_M) (H : Heap) (locs : List Loc) (ls : Array Slot), 21 - k1 = nn → (k1 ≤ 21) → va_P D classes (ux_w shM KM ad cA Mc30) H → IvM A TB Mc30 → (∀ a b, ¬ mFr a b → Mc30 a b = M a b) → va_S (ux_A KM ad) s.heap H locs → lv_has ls 4 [(0, .ref (ad 0)), (1, .int (nI k1))] → W p l e (headSpec w_Md_fires ({ frames := 3, cells := 0, slots := 0, locals := 72 })).room s m (([.ref (ad 0)] : List Value).toArray) below meth c H locs 0 0 (MQ below (va_Qi (fun r M1 => IvM A TB M1 ∧ (∀ a b, ¬ mFr a b → M1 a b = M a b) ∧ (r = 0 ∨ ∃ w, r = nI w ∧ 3 ≤ w ∧ w % 2 = 1 ∧ (w : Int) ≤ (M 14 L).toInt)) (ux_E D shM KM ad cA) (ux_A KM ad)) (([.ref (ad 0)] : List Value).toArray) s 0 0 (ux_A KM ad)) (F0 m 30 ls []) := by
    intro nn
    induction nn using Nat.strongRecOn with
    | ind nn ih30 =>
      intro k1 Mc30 H locs ls hn c30_0 hP hI hF hS hl
      have cut40 : ∀ (nn : Nat) (k2 : Nat) (Mc40 : ux_M) (H : Heap) (locs : List Loc) (ls : Array Slot), 10 - k2 = nn → (k2 ≤ 10) → (k2 % 2 = 0) → (2 ≤ k2) → (k1 ≤ 20) → ((k1 : Int) ≤ (Mc40 0 46).toInt) → va_P D classes (ux_w shM KM ad cA Mc40) H → IvM A TB Mc40 → (∀ a b, ¬ mFr a b → Mc40 a b = M a b) → va_S (ux_A KM ad) s.heap H locs → lv_has ls 4 [(0, .ref (ad 0)), (1, .int (nI k1)), (2, .int (nI k2))] → W p l e (headSpec w_Md_fires ({ frames := 3, cells := 0, slots := 0, locals := 72 })).room s m (([.ref (ad 0)] : List Value).toArray) below meth c H locs 0 0 (MQ below (va_Qi (fun r M1 => IvM A TB M1 ∧ (∀ a b, ¬ mFr a b → M1 a b = M a b) ∧ (r = 0 ∨ ∃ w, r = nI w ∧ 3 ≤ w ∧ w % 2 = 1 ∧ (w : Int) ≤ (M 14 L).toInt)) (ux_E D shM KM ad cA) (ux_A KM ad)) (([.ref (ad 0)] : List Value).toArray) s 0 0 (ux_A KM ad)) (F0 m 40 ls []) := by
        intro nn
        induction nn using Nat.strongRecOn with
        | ind nn ih40 =>
          intro k2 Mc40 H locs ls hn c40_0 c40_1 c40_2 c40_3 c40_4 hP hI hF hS hl
          have cut64 : ∀ (nn : Nat) (k3 : Nat) (Mc64 : ux_M) (H : Heap) (locs : List Loc) (ls : Array Slot), 20 - k3 = nn → (k1 ≤ k3) → (k3 ≤ 20) → ((k2 : Int) < (M 14 L).toInt) → (k1 ≤ 20) → (2 ≤ k2) → (k2 % 2 = 0) → ((k1 : Int) ≤ (Mc64 0 46).toInt) → va_P D classes (ux_w shM KM ad cA Mc64) H → IvM A TB Mc64 → (∀ a b, ¬ mFr a b → Mc64 a b = M a b) → va_S (ux_A KM ad) s.heap H locs → lv_has ls 4 [(0, .ref (ad 0)), (1, .int (nI k1)), (2, .int (nI k2)), (3, .int (nI k3))] → W p l e (headSpec w_Md_fires ({ frames := 3, cells := 0, slots := 0, locals := 72 })).room s m (([.ref (ad 0)] : List Value).toArray) below meth c H locs 0 0 (MQ below (va_Qi (fun r M1 => IvM A TB M1 ∧ (∀ a b, ¬ mFr a b → M1 a b = M a b) ∧ (r = 0 ∨ ∃ w, r = nI w ∧ 3 ≤ w ∧ w % 2 = 1 ∧ (w : Int) ≤ (M 14 L).toInt)) (ux_E D shM KM ad cA) (ux_A KM ad)) (([.ref (ad 0)] : List Value).toArray) s 0 0 (ux_A KM ad)) (F0 m 64 ls []) := by
            intro nn
            induction nn using Nat.strongRecOn with
            | ind nn ih64 =>
              intro k3 Mc64 H locs ls hn c64_0 c64_1 c64_2 c64_3 c64_4 c64_5 c64_6 hP hI hF hS hl
              refine lv_iload_n hx hb d_Md_fires_64 rfl (lv_at hl 3 rfl) ?_
              refine lv_aload_n hx hb d_Md_fires_65 rfl (lv_at hl 0 rfl) ?_
              refine ux_get (C := R_Md) (T := F_Md) (N := 50) hx hb hT in_Md hown hK hP (by decide) rfl rfl 46 (by decide) (hT _ fl_Md_132) rfl d_Md_fires_66 ?_
              refine lv_topi (fun z2 hz2 => ?_)
              obtain ⟨c1, hc1, ec1⟩ := nat_of (x := Mc64 0 46) (n := 20) (hI.1 0 46).1 (hI.1 0 46).2
              rw [ec1] at hz2
              rw [hz2]
              have tc1 : (Mc64 0 46).toInt = (c1 : Int) := by rw [ec1]; exact nI_toInt (by omega)
              refine lv_icmp_ge hx hb d_Md_fires_69 rfl (fun h3 => ?_) (fun h3 => ?_)
              · have g3 : ((c1 : Nat) : Int) ≤ ((k3 : Nat) : Int) := by have q := Int32.le_iff_toInt_le.mp h3; rw [nI_toInt (n := c1) (by omega), nI_toInt (n := k3) (by omega)] at q; exact q
                have k4 := congrArg Int32.toInt (show Mc64 14 (L) = M 14 (L) from hF _ _ (by unfold mFr; omega))
                refine lv_aload_n hx hb d_Md_fires_92 rfl (lv_at hl 0 rfl) ?_
                refine lv_dup hx hb d_Md_fires_93 rfl ?_
                refine ux_get (C := R_Md) (T := F_Md) (N := 50) hx hb hT in_Md hown hK hP (by decide) rfl rfl 46 (by decide) (hT _ fl_Md_132) rfl d_Md_fires_94 ?_
                refine lv_topi (fun z5 hz5 => ?_)
                rw [show Mc64 0 46 = nI c1 from ec1] at hz5
                rw [hz5]
                refine lv_iload_n hx hb d_Md_fires_97 rfl (lv_at hl 1 rfl) ?_
                refine lv_isub hx hb d_Md_fires_98 ?_
                refine lv_topi (fun z6 hz6 => ?_)
                rw [show (nI c1) - (nI k1) = nI (c1 - k1) from (pk_sub (a := c1) (b := k1) (by omega)).trans (congrArg nI (show c1 - k1 = c1 - k1 by omega))] at hz6
                rw [hz6]
                refine ux_put (C := R_Md) (T := F_Md) (N := 50) hx hb hT in_Md t_Md t_Md_ok n_Md hown hK hi hP hS (by decide) rfl rfl 46 (by decide) (hT _ fl_Md_132) rfl (rfl) (rfl) rfl d_Md_fires_99 (fun H locs hP hS => ?_)
                have hI := IvM_wr (k := 0) (j := 46) (v := nI (c1 - k1)) hI (show (0 : Int) ≤ (nI (c1 - k1) : Int32).toInt from (by rw [nI_toInt (n := c1 - k1) (by omega)]; omega)) (show (nI (c1 - k1) : Int32).toInt ≤ (20 : Int) from (by rw [nI_toInt (n := c1 - k1) (by omega)]; omega)) (by unfold okW; omega)
                have hF := fr_wr (k := 0) (j := 46) (v := nI (c1 - k1)) hF (by unfold mFr; omega)
                generalize eM7 : ux_wr Mc64 0 46 (nI (c1 - k1)) = M7 at hP hI hF
                have tM7 : (M7 0 46).toInt = ((c1 - k1 : Nat) : Int) := by rw [wr_at eM7]; exact nI_toInt (by omega)
                refine lv_iload_n hx hb d_Md_fires_102 rfl (lv_at hl 2 rfl) ?_
                refine lv_iconst (v := 1) hx hb d_Md_fires_103 (by decide) ?_
                refine lv_iadd hx hb d_Md_fires_104 ?_
                refine lv_topi (fun z8 hz8 => ?_)
                rw [show (nI k2) + (1 : Int32) = nI (k2 + 1) from nI_add k2 1] at hz8
                rw [hz8]
                exact W.iret (v := nI (k2 + 1)) hx hb hr (fun t ht hW => ⟨⟨nI (k2 + 1), M7, rfl, ⟨hI, hF, Or.inr ⟨k2 + 1, rfl, by omega, by omega, by omega⟩⟩, by unfold ux_E; rw [ht]; exact hP⟩, hS.F ht⟩) hS.2.2 d_Md_fires_105
              · have g3 : ¬ (((c1 : Nat) : Int) ≤ ((k3 : Nat) : Int)) := fun q => h3 (Int32.le_iff_toInt_le.mpr (by rw [nI_toInt (n := c1) (by omega), nI_toInt (n := k3) (by omega)]; exact q))
                refine lv_aload_n hx hb d_Md_fires_72 rfl (lv_at hl 0 rfl) ?_
                refine ux_get (C := R_Md) (T := F_Md) (N := 50) hx hb hT in_Md hown hK hP (by decide) rfl rfl 47 (by decide) (hT _ fl_Md_106) rfl d_Md_fires_73 ?_
                refine lv_iload_n hx hb d_Md_fires_76 rfl (lv_at hl 3 rfl) ?_
                refine lv_iload_n hx hb d_Md_fires_77 rfl (lv_at hl 1 rfl) ?_
                refine lv_isub hx hb d_Md_fires_78 ?_
                refine lv_topi (fun z9 hz9 => ?_)
                rw [show (nI k3) - (nI k1) = nI (k3 - k1) from (pk_sub (a := k3) (b := k1) (by omega)).trans (congrArg nI (show k3 - k1 = k3 - k1 by omega))] at hz9
                rw [hz9]
                refine lv_aload_n hx hb d_Md_fires_79 rfl (lv_at hl 0 rfl) ?_
                refine ux_get (C := R_Md) (T := F_Md) (N := 50) hx hb hT in_Md hown hK hP (by decide) rfl rfl 47 (by decide) (hT _ fl_Md_106) rfl d_Md_fires_80 ?_
                refine lv_iload_n hx hb d_Md_fires_83 rfl (lv_at hl 3 rfl) ?_
                refine ux_cald hx hb hK hP (by decide) rfl (vp_in_nI (show k3 < 20 by omega) (by decide)) d_Md_fires_84 ?_
                rw [nI_clamp (n := k3) (by omega)]
                refine lv_topi (fun z11 hz11 => ?_)
                obtain ⟨c10, hc10, ec10⟩ := nat_of (x := Mc64 31 k3) (n := 65535) (hI.1 31 k3).1 (hI.1 31 k3).2
                rw [ec10] at hz11
                rw [hz11]
                have tc10 : (Mc64 31 k3).toInt = (c10 : Int) := by rw [ec10]; exact nI_toInt (by omega)
                refine ux_cast hx hb hK hi hP hS (by decide) rfl (vp_in_nI (show k3 - k1 < 20 by omega) (by decide)) d_Md_fires_85 (fun H locs hP hS => ?_)
                have b12 := nar_c (nI c10)
                rw [nI_clamp (n := k3 - k1) (by omega)] at hP
                have hI := IvM_wr (k := 31) (j := k3 - k1) (v := vp_nar .char (nI c10)) hI (show (0 : Int) ≤ (vp_nar .char (nI c10) : Int32).toInt from (by omega)) (show (vp_nar .char (nI c10) : Int32).toInt ≤ (65535 : Int) from (by omega)) (by unfold okW; omega)
                have hF := fr_wr (k := 31) (j := k3 - k1) (v := vp_nar .char (nI c10)) hF (by unfold mFr; omega)
                generalize eM13 : ux_wr Mc64 31 (k3 - k1) (vp_nar .char (nI c10)) = M13 at hP hI hF
                have tM13 : (M13 31 (k3 - k1)).toInt = (vp_nar .char (nI c10)).toInt := by rw [wr_at eM13]
                refine lv_iinc (k := 3) (v := nI (k3 + 1)) hx hb d_Md_fires_86 hl rfl (nI_add k3 1) (by decide) rfl (fun ls hl => ?_)
                have hl : lv_has ls 4 [(3, .int (nI (k3 + 1))), (0, .ref (ad 0)), (1, .int (nI k1)), (2, .int (nI k2))] := hl
                refine lv_goto hx hb d_Md_fires_89 rfl ?_
                exact ih64 (20 - (k3 + 1)) (by omega) (k3 + 1) M13 _ _ ls rfl (show k1 ≤ (k3 + 1) from by first | omega | assumption | exact Or.inl rfl | exact Or.inr rfl | rfl | decide) (show (k3 + 1) ≤ 20 from by first | omega | assumption | exact Or.inl rfl | exact Or.inr rfl | rfl | decide) (show (k2 : Int) < (M 14 L).toInt from by first | omega | assumption | exact Or.inl rfl | exact Or.inr rfl | rfl | decide) (show k1 ≤ 20 from by first | omega | assumption | exact Or.inl rfl | exact Or.inr rfl | rfl | decide) (show 2 ≤ k2 from by first | omega | assumption | exact Or.inl rfl | exact Or.inr rfl | rfl | decide) (show k2 % 2 = 0 from by first | omega | assumption | exact Or.inl rfl | exact Or.inr rfl | rfl | decide) (show (k1 : Int) ≤ (M13 0 46).toInt from by first | (have := congrArg Int32.toInt (show M13 0 46 = Mc64 0 46 from wr_off eM13 (by omega)); omega)) hP hI hF hS (lv_sub hl [1, 2, 3, 0] rfl)
          refine lv_iload_n hx hb d_Md_fires_40 rfl (lv_at hl 2 rfl) ?_
          refine lv_aload_n hx hb d_Md_fires_41 rfl (lv_at hl 0 rfl) ?_
          refine ux_get (C := R_Md) (T := F_Md) (N := 50) hx hb hT in_Md hown hK hP (by decide) rfl rfl 16 (by decide) (hT _ fl_Md_55) rfl d_Md_fires_42 ?_
          refine lv_aload_n hx hb d_Md_fires_45 rfl (lv_at hl 0 rfl) ?_
          refine ux_get (C := R_Md) (T := F_Md) (N := 50) hx hb hT in_Md hown hK hP (by decide) rfl rfl 10 (by decide) (hT _ fl_Md_36) rfl d_Md_fires_46 ?_
          refine lv_topi (fun z14 hz14 => ?_)
          rw [show Mc40 0 10 = nI L from (hF _ _ (by unfold mFr; omega)).trans hlv] at hz14
          rw [hz14]
          refine ux_iald hx hb hK hP (by decide) rfl (vp_in_nI (show L < 8 by omega) (by decide)) d_Md_fires_49 ?_
          rw [nI_clamp (n := L) (by omega)]
          refine lv_topi (fun z16 hz16 => ?_)
          obtain ⟨c15, hc15, ec15⟩ := nat_of (x := Mc40 14 L) (n := 8) (hI.1 14 L).1 (hI.1 14 L).2
          rw [ec15] at hz16
          rw [hz16]
          have tc15 : (Mc40 14 L).toInt = (c15 : Int) := by rw [ec15]; exact nI_toInt (by omega)
          refine lv_icmp_ge hx hb d_Md_fires_50 rfl (fun h17 => ?_) (fun h17 => ?_)
          · have g17 : ((c15 : Nat) : Int) ≤ ((k2 : Nat) : Int) := by have q := Int32.le_iff_toInt_le.mp h17; rw [nI_toInt (n := c15) (by omega), nI_toInt (n := k2) (by omega)] at q; exact q
            refine lv_iinc (k := 1) (v := nI (k1 + 1)) hx hb d_Md_fires_112 hl rfl (nI_add k1 1) (by decide) rfl (fun ls hl => ?_)
            have hl : lv_has ls 4 [(1, .int (nI (k1 + 1))), (0, .ref (ad 0)), (2, .int (nI k2))] := hl
            refine lv_goto hx hb d_Md_fires_115 rfl ?_
            exact ih30 (21 - (k1 + 1)) (by omega) (k1 + 1) Mc40 _ _ ls rfl (show (k1 + 1) ≤ 21 from by first | omega | assumption | exact Or.inl rfl | exact Or.inr rfl | rfl | decide) hP hI hF hS (lv_sub hl [1, 0] rfl)
          · have g17 : ¬ (((c15 : Nat) : Int) ≤ ((k2 : Nat) : Int)) := fun q => h17 (Int32.le_iff_toInt_le.mpr (by rw [nI_toInt (n := c15) (by omega), nI_toInt (n := k2) (by omega)]; exact q))
            have k18 := congrArg Int32.toInt (show Mc40 14 (L) = M 14 (L) from hF _ _ (by unfold mFr; omega))
            refine lv_aload_n hx hb d_Md_fires_53 rfl (lv_at hl 0 rfl) ?_
            refine lv_iload_n hx hb d_Md_fires_54 rfl (lv_at hl 2 rfl) ?_
            refine lv_iload_n hx hb d_Md_fires_55 rfl (lv_at hl 1 rfl) ?_
            refine ux_calli (va_runV ⟨hx, hb, hml, hown, hts⟩ (s_Md_fits l D ad cA A TB hA hB  Mc40 hI L hL ((hF _ _ (by unfold mFr; omega)).trans hlv) k2 k1 (by omega) (by omega)) (cwV 2 hts (tb_goodV ml_Md_325 im_Md_fits se_Md_fits ii_Md kt_Md_fits) rfl rfl rfl (by decide +kernel) ⟨Nat.le_of_ble_eq_true rfl, Nat.le_of_ble_eq_true rfl⟩) (ux_preV (by decide) rfl rfl hP hK hi hN) rfl rfl hl.1 rfl (lv_room (Nat.le_of_ble_eq_true rfl)) d_Md_fires_56 ⟨Nat.zero_le _, Nat.zero_le _⟩) hS (fun r19 M20 H locs q21 hP hS => ?_)
            obtain ⟨hI, fq21, q21p⟩ := q21
            have hF := fr_call hF fq21 (fun a b q => by unfold mFt at q; unfold mFr; omega)
            refine lv_if_eq hx hb d_Md_fires_59 rfl (fun h22 => ?_) (fun h22 => ?_)
            · have g22 : r19.toInt = 0 := congrArg Int32.toInt h22
              refine lv_iinc (k := 2) (v := nI (k2 + 2)) hx hb d_Md_fires_106 hl rfl (nI_add k2 2) (by decide) rfl (fun ls hl => ?_)
              have hl : lv_has ls 4 [(2, .int (nI (k2 + 2))), (0, .ref (ad 0)), (1, .int (nI k1))] := hl
              refine lv_goto hx hb d_Md_fires_109 rfl ?_
              exact ih40 (10 - (k2 + 2)) (by omega) (k2 + 2) M20 _ _ ls rfl (show (k2 + 2) ≤ 10 from by first | omega | assumption | exact Or.inl rfl | exact Or.inr rfl | rfl | decide) (show (k2 + 2) % 2 = 0 from by first | omega | assumption | exact Or.inl rfl | exact Or.inr rfl | rfl | decide) (show 2 ≤ (k2 + 2) from by first | omega | assumption | exact Or.inl rfl | exact Or.inr rfl | rfl | decide) (show k1 ≤ 20 from by first | omega | assumption | exact Or.inl rfl | exact Or.inr rfl | rfl | decide) (show (k1 : Int) ≤ (M20 0 46).toInt from by first | (have := congrArg Int32.toInt (show M20 0 46 = Mc40 0 46 from fq21 _ _ (by unfold mFt; omega)); omega)) hP hI hF hS (lv_sub hl [1, 2, 0] rfl)
            · have g22 : ¬ (r19.toInt = 0) := fun q => h22 (Int32.toInt_inj.mp q)
              refine lv_iload_n hx hb d_Md_fires_62 rfl (lv_at hl 1 rfl) ?_
              refine lv_istore_n hx hb d_Md_fires_63 rfl hl (by decide) rfl (fun ls hl => ?_)
              have hl : lv_has ls 4 [(3, .int (nI k1)), (0, .ref (ad 0)), (1, .int (nI k1)), (2, .int (nI k2))] := hl
              exact cut64 (20 - k1) k1 M20 _ _ ls rfl (show k1 ≤ k1 from by first | omega | assumption | exact Or.inl rfl | exact Or.inr rfl | rfl | decide) (show k1 ≤ 20 from by first | omega | assumption | exact Or.inl rfl | exact Or.inr rfl | rfl | decide) (show (k2 : Int) < (M 14 L).toInt from by first | omega | assumption | exact Or.inl rfl | exact Or.inr rfl | rfl | decide) (show k1 ≤ 20 from by first | omega | assumption | exact Or.inl rfl | exact Or.inr rfl | rfl | decide) (show 2 ≤ k2 from by first | omega | assumption | exact Or.inl rfl | exact Or.inr rfl | rfl | decide) (show k2 % 2 = 0 from by first | omega | assumption | exact Or.inl rfl | exact Or.inr rfl | rfl | decide) (show (k1 : Int) ≤ (M20 0 46).toInt from by first | (have := congrArg Int32.toInt (show M20 0 46 = Mc40 0 46 from fq21 _ _ (by unfold mFt; omega)); omega)) hP hI hF hS (lv_sub hl [1, 2, 3, 0] rfl)
      refine lv_iload_n hx hb d_Md_fires_30 rfl (lv_at hl 1 rfl) ?_
      refine lv_aload_n hx hb d_Md_fires_31 rfl (lv_at hl 0 rfl) ?_
      refine ux_get (C := R_Md) (T := F_Md) (N := 50) hx hb hT in_Md hown hK hP (by decide) rfl rfl 46 (by decide) (hT _ fl_Md_132) rfl d_Md_fires_32 ?_
      refine lv_topi (fun z24 hz24 => ?_)
      obtain ⟨c23, hc23, ec23⟩ := nat_of (x := Mc30 0 46) (n := 20) (hI.1 0 46).1 (hI.1 0 46).2
      rw [ec23] at hz24
      rw [hz24]
      have tc23 : (Mc30 0 46).toInt = (c23 : Int) := by rw [ec23]; exact nI_toInt (by omega)
      refine lv_icmp_gt hx hb d_Md_fires_35 rfl (fun h25 => ?_) (fun h25 => ?_)
      · have g25 : ((c23 : Nat) : Int) < ((k1 : Nat) : Int) := by have q := Int32.lt_iff_toInt_lt.mp h25; rw [nI_toInt (n := c23) (by omega), nI_toInt (n := k1) (by omega)] at q; exact q
        refine lv_iconst (v := 0) hx hb d_Md_fires_118 (by decide) ?_
        exact W.iret (v := 0) hx hb hr (fun t ht hW => ⟨⟨0, Mc30, rfl, ⟨hI, hF, Or.inl rfl⟩, by unfold ux_E; rw [ht]; exact hP⟩, hS.F ht⟩) hS.2.2 d_Md_fires_119
      · have g25 : ¬ (((c23 : Nat) : Int) < ((k1 : Nat) : Int)) := fun q => h25 (Int32.lt_iff_toInt_lt.mpr (by rw [nI_toInt (n := c23) (by omega), nI_toInt (n := k1) (by omega)]; exact q))
        refine lv_iconst (v := 2) hx hb d_Md_fires_38 (by decide) ?_
        refine lv_istore_n hx hb d_Md_fires_39 rfl hl (by decide) rfl (fun ls hl => ?_)
        have hl : lv_has ls 4 [(2, .int 2), (0, .ref (ad 0)), (1, .int (nI k1))] := hl
        exact cut40 (10 - 2) 2 Mc30 _ _ ls rfl (show 2 ≤ 10 from by first | omega | assumption | exact Or.inl rfl | exact Or.inr rfl | rfl | decide) (show 2 % 2 = 0 from by first | omega | assumption | exact Or.inl rfl | exact Or.inr rfl | rfl | decide) (show 2 ≤ 2 from by first | omega | assumption | exact Or.inl rfl | exact Or.inr rfl | rfl | decide) (show k1 ≤ 20 from by first | omega | assumption | exact Or.inl rfl | exact Or.inr rfl | rfl | decide) (show (k1 : Int) ≤ (Mc30 0 46).toInt from by first | (omega)) hP hI hF hS (lv_sub hl [1, 2, 0] rfl)
  have cut2 : ∀ (nn : Nat) (k1 : Nat) (Mc2 : ux_M) (H : Heap) (locs : List Loc) (ls : Array Slot), 20 - k1 = nn → (k1 ≤ 20) → va_P D classes (ux_w shM KM ad cA Mc2) H → IvM A TB Mc2 → (∀ a b, ¬ mFr a b → Mc2 a b = M a b) → va_S (ux_A KM ad) s.heap H locs → lv_has ls 4 [(0, .ref (ad 0)), (1, .int (nI k1))] → W p l e (headSpec w_Md_fires ({ frames := 3, cells := 0, slots := 0, locals := 72 })).room s m (([.ref (ad 0)] : List Value).toArray) below meth c H locs 0 0 (MQ below (va_Qi (fun r M1 => IvM A TB M1 ∧ (∀ a b, ¬ mFr a b → M1 a b = M a b) ∧ (r = 0 ∨ ∃ w, r = nI w ∧ 3 ≤ w ∧ w % 2 = 1 ∧ (w : Int) ≤ (M 14 L).toInt)) (ux_E D shM KM ad cA) (ux_A KM ad)) (([.ref (ad 0)] : List Value).toArray) s 0 0 (ux_A KM ad)) (F0 m 2 ls []) := by
    intro nn
    induction nn using Nat.strongRecOn with
    | ind nn ih2 =>
      intro k1 Mc2 H locs ls hn c2_0 hP hI hF hS hl
      refine lv_iload_n hx hb d_Md_fires_2 rfl (lv_at hl 1 rfl) ?_
      refine lv_aload_n hx hb d_Md_fires_3 rfl (lv_at hl 0 rfl) ?_
      refine ux_get (C := R_Md) (T := F_Md) (N := 50) hx hb hT in_Md hown hK hP (by decide) rfl rfl 46 (by decide) (hT _ fl_Md_132) rfl d_Md_fires_4 ?_
      refine lv_topi (fun z27 hz27 => ?_)
      obtain ⟨c26, hc26, ec26⟩ := nat_of (x := Mc2 0 46) (n := 20) (hI.1 0 46).1 (hI.1 0 46).2
      rw [ec26] at hz27
      rw [hz27]
      have tc26 : (Mc2 0 46).toInt = (c26 : Int) := by rw [ec26]; exact nI_toInt (by omega)
      refine lv_icmp_ge hx hb d_Md_fires_7 rfl (fun h28 => ?_) (fun h28 => ?_)
      · have g28 : ((c26 : Nat) : Int) ≤ ((k1 : Nat) : Int) := by have q := Int32.le_iff_toInt_le.mp h28; rw [nI_toInt (n := c26) (by omega), nI_toInt (n := k1) (by omega)] at q; exact q
        refine lv_iconst (v := 0) hx hb d_Md_fires_28 (by decide) ?_
        refine lv_istore_n hx hb d_Md_fires_29 rfl hl (by decide) rfl (fun ls hl => ?_)
        have hl : lv_has ls 4 [(1, .int 0), (0, .ref (ad 0))] := hl
        exact cut30 (21 - 0) 0 Mc2 _ _ ls rfl (show 0 ≤ 21 from by first | omega | assumption | exact Or.inl rfl | exact Or.inr rfl | rfl | decide) hP hI hF hS (lv_sub hl [1, 0] rfl)
      · have g28 : ¬ (((c26 : Nat) : Int) ≤ ((k1 : Nat) : Int)) := fun q => h28 (Int32.le_iff_toInt_le.mpr (by rw [nI_toInt (n := c26) (by omega), nI_toInt (n := k1) (by omega)]; exact q))
        refine lv_aload_n hx hb d_Md_fires_10 rfl (lv_at hl 0 rfl) ?_
        refine ux_get (C := R_Md) (T := F_Md) (N := 50) hx hb hT in_Md hown hK hP (by decide) rfl rfl 36 (by decide) (hT _ fl_Md_85) rfl d_Md_fires_11 ?_
        refine lv_iload_n hx hb d_Md_fires_14 rfl (lv_at hl 1 rfl) ?_
        refine lv_aload_n hx hb d_Md_fires_15 rfl (lv_at hl 0 rfl) ?_
        refine ux_get (C := R_Md) (T := F_Md) (N := 50) hx hb hT in_Md hown hK hP (by decide) rfl rfl 47 (by decide) (hT _ fl_Md_106) rfl d_Md_fires_16 ?_
        refine lv_iload_n hx hb d_Md_fires_19 rfl (lv_at hl 1 rfl) ?_
        refine ux_cald hx hb hK hP (by decide) rfl (vp_in_nI (show k1 < 20 by omega) (by decide)) d_Md_fires_20 ?_
        rw [nI_clamp (n := k1) (by omega)]
        refine lv_topi (fun z30 hz30 => ?_)
        obtain ⟨c29, hc29, ec29⟩ := nat_of (x := Mc2 31 k1) (n := 65535) (hI.1 31 k1).1 (hI.1 31 k1).2
        rw [ec29] at hz30
        rw [hz30]
        have tc29 : (Mc2 31 k1).toInt = (c29 : Int) := by rw [ec29]; exact nI_toInt (by omega)
        refine ux_cast hx hb hK hi hP hS (by decide) rfl (vp_in_nI (show k1 < 20 by omega) (by decide)) d_Md_fires_21 (fun H locs hP hS => ?_)
        have b31 := nar_c (nI c29)
        rw [nI_clamp (n := k1) (by omega)] at hP
        have hI := IvM_wr (k := 24) (j := k1) (v := vp_nar .char (nI c29)) hI (show (0 : Int) ≤ (vp_nar .char (nI c29) : Int32).toInt from (by omega)) (show (vp_nar .char (nI c29) : Int32).toInt ≤ (65535 : Int) from (by omega)) (by unfold okW; omega)
        have hF := fr_wr (k := 24) (j := k1) (v := vp_nar .char (nI c29)) hF (by unfold mFr; omega)
        generalize eM32 : ux_wr Mc2 24 k1 (vp_nar .char (nI c29)) = M32 at hP hI hF
        have tM32 : (M32 24 k1).toInt = (vp_nar .char (nI c29)).toInt := by rw [wr_at eM32]
        refine lv_iinc (k := 1) (v := nI (k1 + 1)) hx hb d_Md_fires_22 hl rfl (nI_add k1 1) (by decide) rfl (fun ls hl => ?_)
        have hl : lv_has ls 4 [(1, .int (nI (k1 + 1))), (0, .ref (ad 0))] := hl
        refine lv_goto hx hb d_Md_fires_25 rfl ?_
        exact ih2 (20 - (k1 + 1)) (by omega) (k1 + 1) M32 _ _ ls rfl (show (k1 + 1) ≤ 20 from by first | omega | assumption | exact Or.inl rfl | exact Or.inr rfl | rfl | decide) hP hI hF hS (lv_sub hl [1, 0] rfl)
  refine lv_iconst (v := 0) hx hb d_Md_fires_0 (by decide) ?_
  refine lv_istore_n hx hb d_Md_fires_1 rfl hl (by decide) rfl (fun ls hl => ?_)
  have hl : lv_has ls 4 [(1, .int 0), (0, .ref (ad 0))] := hl
  exact cut2 (20 - 0) 0 M _ _ ls rfl (show 0 ≤ 20 from by first | omega | assumption | exact Or.inl rfl | exact Or.inr rfl | rfl | decide) hP hI hF hS (lv_sub hl [1, 0] rfl)

set_option maxHeartbeats 1600000 in
set_option maxRecDepth 100000 in
theorem s_Md_add (l : Launch) (D : va_G) (ad : Nat → Nat) (cA : Nat → ClassId) (A TB : Nat) (hA : A ≤ 100000000) (hB : TB ≤ 2000000000) (M : ux_M) (hI : IvM A TB M) (L : Nat) (hL : L ≤ 7) (hlv : M 0 10 = nI L) (cw : Nat) (hcw : M 14 L = nI cw) (hc7 : cw ≤ 7) (hob : M 17 (8 * L + cw) = 0) (ch : Int32) : Met l y_Md_add w_Md_add ({ frames := 2, cells := 0, slots := 0, locals := 42 }) (va_Pc [.ref (ad 0), .int ch] (ux_B D shM KM ad cA M)) (va_Qi (fun r M1 => IvM A TB M1 ∧ (∀ a b, ¬ (mAd (8 * L + cw)) a b → M1 a b = M a b) ∧ ((r = 0 ∨ r = 1) ∧ (r = 0 → M1 0 23 = 1 ∧ M1 0 24 = 1) ∧ (r = 1 → M1 0 23 = M 0 23 ∧ M1 0 24 = M 0 24))) (ux_E D shM KM ad cA) (ux_A KM ad)) 0 0 (ux_A KM ad) := by
  refine Met.ofW (cc := b_Md_add) (maxL := 3) (ret := (some .boolean)) (by decide) rfl ?_
  intro p e s m args below meth c s₁ B hml hv
  obtain ⟨rfl, hP, hK, hi, hN⟩ := hv
  have hx := B.exec
  have hb := B.bytes
  have hr := B.returns
  have hts := atoms_spec (ws := w_Md_add) B.pre
  have hown : s.vm.findClass R_Md = some m.cls := findClass_of_methodNamed B.named
  have hlocks := B.notSynchronized
  have hT : ∀ w ∈ tb, w.before _ s = true := fun w h => hts w (List.mem_cons_of_mem _ h)
  have hS : va_S (ux_A KM ad) s.heap s.heap [] := va_S.rf
  have hl := lv_entry ([.ref (ad 0), .int ch]) (n := 3) (Nat.le_of_ble_eq_true rfl)
  rw [lg_entry_eq]
  generalize (lg_sl ([.ref (ad 0), .int ch]) ++ List.replicate (3 - (lg_sl ([.ref (ad 0), .int ch])).length) Slot.unset).toArray = ls at hl ⊢
  have hl : lv_has ls 3 [(0, .ref (ad 0)), (1, .int ch)] := hl
  have hF : ∀ a b, ¬ (mAd (8 * L + cw)) a b → M a b = M a b := fun _ _ _ => rfl
  refine lv_aload_n hx hb d_Md_add_0 rfl (lv_at hl 0 rfl) ?_
  refine lv_aload_n hx hb d_Md_add_1 rfl (lv_at hl 0 rfl) ?_
  refine ux_get (C := R_Md) (T := F_Md) (N := 50) hx hb hT in_Md hown hK hP (by decide) rfl rfl 16 (by decide) (hT _ fl_Md_55) rfl d_Md_add_2 ?_
  refine lv_aload_n hx hb d_Md_add_5 rfl (lv_at hl 0 rfl) ?_
  refine ux_get (C := R_Md) (T := F_Md) (N := 50) hx hb hT in_Md hown hK hP (by decide) rfl rfl 10 (by decide) (hT _ fl_Md_36) rfl d_Md_add_6 ?_
  refine lv_topi (fun z1 hz1 => ?_)
  rw [show M 0 10 = nI L from hlv] at hz1
  rw [hz1]
  refine ux_iald hx hb hK hP (by decide) rfl (vp_in_nI (show L < 8 by omega) (by decide)) d_Md_add_9 ?_
  rw [nI_clamp (n := L) (by omega)]
  refine lv_topi (fun z2 hz2 => ?_)
  rw [show M 14 L = nI cw from hcw] at hz2
  rw [hz2]
  refine ux_calli (va_runV ⟨hx, hb, hml, hown, hts⟩ (s_Md_word l D ad cA A TB hA hB  M hI L hL (hlv) cw) (cwV 1 hts (tb_goodV ml_Md_155 im_Md_word se_Md_word ii_Md kt_Md_word) rfl rfl rfl (by decide +kernel) ⟨Nat.le_of_ble_eq_true rfl, Nat.le_of_ble_eq_true rfl⟩) (ux_preV (by decide) rfl rfl hP hK hi hN) rfl rfl hl.1 rfl (lv_room (Nat.le_of_ble_eq_true rfl)) d_Md_add_10 ⟨Nat.zero_le _, Nat.zero_le _⟩) hS (fun r3 M4 H locs q5 hP hS => ?_)
  obtain ⟨hI, fq5, q5p⟩ := q5
  rw [tN_eq fq5] at hP hI
  subst q5p
  refine lv_istore_n hx hb d_Md_add_13 rfl hl (by decide) rfl (fun ls hl => ?_)
  have hl : lv_has ls 3 [(2, .int (nI (8 * L + cw))), (0, .ref (ad 0)), (1, .int ch)] := hl
  refine lv_aload_n hx hb d_Md_add_14 rfl (lv_at hl 1 rfl) ?_
  refine ux_get (C := R_Md) (T := F_Md) (N := 50) hx hb hT in_Md hown hK hP (by decide) rfl rfl 21 (by decide) (hT _ fl_Md_70) rfl d_Md_add_15 ?_
  refine lv_iload_n hx hb d_Md_add_18 rfl (lv_at hl 0 rfl) ?_
  refine ux_iald hx hb hK hP (by decide) rfl (vp_in_nI (show 8 * L + cw < 65 by omega) (by decide)) d_Md_add_19 ?_
  rw [nI_clamp (n := 8 * L + cw) (by omega)]
  refine lv_topi (fun z7 hz7 => ?_)
  obtain ⟨c6, hc6, ec6⟩ := nat_of (x := M 19 (8 * L + cw)) (n := 200) (hI.1 19 (8 * L + cw)).1 (hI.1 19 (8 * L + cw)).2
  rw [ec6] at hz7
  rw [hz7]
  have tc6 : (M 19 (8 * L + cw)).toInt = (c6 : Int) := by rw [ec6]; exact nI_toInt (by omega)
  refine lv_bipush (v := 20) hx hb d_Md_add_20 (by decide) ?_
  refine lv_icmp_lt hx hb d_Md_add_22 rfl (fun h8 => ?_) (fun h8 => ?_)
  · have g8 : ((c6 : Nat) : Int) < 20 := by have q := Int32.lt_iff_toInt_lt.mp h8; rw [nI_toInt (n := c6) (by omega)] at q; exact q
    refine lv_aload_n hx hb d_Md_add_33 rfl (lv_at hl 1 rfl) ?_
    refine ux_get (C := R_Md) (T := F_Md) (N := 50) hx hb hT in_Md hown hK hP (by decide) rfl rfl 22 (by decide) (hT _ fl_Md_73) rfl d_Md_add_34 ?_
    refine lv_bipush (v := 20) hx hb d_Md_add_37 (by decide) ?_
    refine lv_iload_n hx hb d_Md_add_39 rfl (lv_at hl 0 rfl) ?_
    refine lv_imul hx hb d_Md_add_40 ?_
    refine lv_topi (fun z9 hz9 => ?_)
    rw [show (20 : Int32) * (nI (8 * L + cw)) = nI (20 * (8 * L + cw)) from pk_mul 20 (8 * L + cw)] at hz9
    rw [hz9]
    refine lv_aload_n hx hb d_Md_add_41 rfl (lv_at hl 1 rfl) ?_
    refine ux_get (C := R_Md) (T := F_Md) (N := 50) hx hb hT in_Md hown hK hP (by decide) rfl rfl 21 (by decide) (hT _ fl_Md_70) rfl d_Md_add_42 ?_
    refine lv_iload_n hx hb d_Md_add_45 rfl (lv_at hl 0 rfl) ?_
    refine ux_iald hx hb hK hP (by decide) rfl (vp_in_nI (show 8 * L + cw < 65 by omega) (by decide)) d_Md_add_46 ?_
    rw [nI_clamp (n := 8 * L + cw) (by omega)]
    refine lv_topi (fun z10 hz10 => ?_)
    rw [show M 19 (8 * L + cw) = nI c6 from ec6] at hz10
    rw [hz10]
    refine lv_iadd hx hb d_Md_add_47 ?_
    refine lv_topi (fun z11 hz11 => ?_)
    rw [show (nI (20 * (8 * L + cw))) + (nI c6) = nI ((20 * (8 * L + cw)) + c6) from nI_add (20 * (8 * L + cw)) c6] at hz11
    rw [hz11]
    refine lv_iload_n hx hb d_Md_add_48 rfl (lv_at hl 2 rfl) ?_
    refine ux_cast hx hb hK hi hP hS (by decide) rfl (vp_in_nI (show (20 * (8 * L + cw)) + c6 < 1300 by omega) (by decide)) d_Md_add_49 (fun H locs hP hS => ?_)
    have b12 := nar_c ch
    rw [nI_clamp (n := (20 * (8 * L + cw)) + c6) (by omega)] at hP
    have hI := IvM_wr (k := 20) (j := (20 * (8 * L + cw)) + c6) (v := vp_nar .char ch) hI (show (0 : Int) ≤ (vp_nar .char ch : Int32).toInt from (by omega)) (show (vp_nar .char ch : Int32).toInt ≤ (65535 : Int) from (by omega)) (by unfold okW; omega)
    have hF := fr_wr (k := 20) (j := (20 * (8 * L + cw)) + c6) (v := vp_nar .char ch) hF (by unfold mAd; omega)
    generalize eM13 : ux_wr M 20 ((20 * (8 * L + cw)) + c6) (vp_nar .char ch) = M13 at hP hI hF
    have tM13 : (M13 20 ((20 * (8 * L + cw)) + c6)).toInt = (vp_nar .char ch).toInt := by rw [wr_at eM13]
    refine lv_aload_n hx hb d_Md_add_50 rfl (lv_at hl 1 rfl) ?_
    refine ux_get (C := R_Md) (T := F_Md) (N := 50) hx hb hT in_Md hown hK hP (by decide) rfl rfl 21 (by decide) (hT _ fl_Md_70) rfl d_Md_add_51 ?_
    refine lv_iload_n hx hb d_Md_add_54 rfl (lv_at hl 0 rfl) ?_
    refine lv_dup2_11 hx hb d_Md_add_55 rfl rfl ?_
    refine ux_iald hx hb hK hP (by decide) rfl (vp_in_nI (show 8 * L + cw < 65 by omega) (by decide)) d_Md_add_56 ?_
    rw [nI_clamp (n := 8 * L + cw) (by omega)]
    refine lv_topi (fun z14 hz14 => ?_)
    rw [show M13 19 (8 * L + cw) = nI c6 from (wr_off eM13 (by omega)).trans (ec6)] at hz14
    rw [hz14]
    refine lv_iconst (v := 1) hx hb d_Md_add_57 (by decide) ?_
    refine lv_iadd hx hb d_Md_add_58 ?_
    refine lv_topi (fun z15 hz15 => ?_)
    rw [show (nI c6) + (1 : Int32) = nI (c6 + 1) from nI_add c6 1] at hz15
    rw [hz15]
    refine ux_iast hx hb hK hi hP hS (by decide) rfl (vp_in_nI (show 8 * L + cw < 65 by omega) (by decide)) d_Md_add_59 (fun H locs hP hS => ?_)
    rw [nI_clamp (n := 8 * L + cw) (by omega)] at hP
    have hI := IvM_wd (k := 19) (j := 8 * L + cw) (v := nI (c6 + 1)) hI (show (0 : Int) ≤ (nI (c6 + 1) : Int32).toInt from (by rw [nI_toInt (n := c6 + 1) (by omega)]; omega)) (show (nI (c6 + 1) : Int32).toInt ≤ (200 : Int) from (by rw [nI_toInt (n := c6 + 1) (by omega)]; omega)) (by decide) (fun _ => ⟨fun _ => by rw [ux_wr_at, nI_toInt (n := c6 + 1) (by omega)]; omega, fun q => absurd ((ux_wr_off (by omega)).trans ((hF _ _ (by unfold mAd; omega)).trans hob)) q⟩)
    have hF := fr_wr (k := 19) (j := 8 * L + cw) (v := nI (c6 + 1)) hF (by unfold mAd; omega)
    generalize eM16 : ux_wr M13 19 (8 * L + cw) (nI (c6 + 1)) = M16 at hP hI hF
    have tM16 : (M16 19 (8 * L + cw)).toInt = ((c6 + 1 : Nat) : Int) := by rw [wr_at eM16]; exact nI_toInt (by omega)
    refine lv_iconst (v := 1) hx hb d_Md_add_60 (by decide) ?_
    exact W.zret (v := 1) hx hb hr (rfl) (fun t ht hW => ⟨⟨1, M16, rfl, ⟨hI, hF, ⟨Or.inr rfl, fun q => absurd q (by decide), fun _ => ⟨(wr_off eM16 (by omega)).trans (wr_off eM13 (by omega)), (wr_off eM16 (by omega)).trans (wr_off eM13 (by omega))⟩⟩⟩, by unfold ux_E; rw [ht]; exact hP⟩, hS.F ht⟩) hS.2.2 d_Md_add_61
  · have g8 : ¬ (((c6 : Nat) : Int) < 20) := fun q => h8 (Int32.lt_iff_toInt_lt.mpr (by rw [nI_toInt (n := c6) (by omega)]; exact q))
    refine lv_aload_n hx hb d_Md_add_25 rfl (lv_at hl 1 rfl) ?_
    refine lv_bipush (v := 7) hx hb d_Md_add_26 (by decide) ?_
    refine ux_callv (va_runV ⟨hx, hb, hml, hown, hts⟩ (s_Md_error l D ad cA A TB hA hB  M hI 7) (cwV 1 hts (tb_goodV ml_Md_166 im_Md_error se_Md_error ii_Md kt_Md_error) rfl rfl rfl (by decide +kernel) ⟨Nat.le_of_ble_eq_true rfl, Nat.le_of_ble_eq_true rfl⟩) (ux_preV (by decide) rfl rfl hP hK hi hN) rfl rfl hl.1 rfl (lv_room (Nat.le_of_ble_eq_true rfl)) d_Md_add_28 ⟨Nat.zero_le _, Nat.zero_le _⟩) hS (fun M18 H locs q19 hP hS => ?_)
    obtain ⟨hI, fq19, q19p⟩ := q19
    have hF := fr_call hF fq19 (fun a b q => by unfold mEr at q; unfold mAd; omega)
    refine lv_iconst (v := 0) hx hb d_Md_add_31 (by decide) ?_
    exact W.zret (v := 0) hx hb hr (rfl) (fun t ht hW => ⟨⟨0, M18, rfl, ⟨hI, hF, ⟨Or.inl rfl, fun _ => by assumption, fun q => absurd q (by decide)⟩⟩, by unfold ux_E; rw [ht]; exact hP⟩, hS.F ht⟩) hS.2.2 d_Md_add_32
