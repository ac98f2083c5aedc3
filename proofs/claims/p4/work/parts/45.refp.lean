/-! The reference, safe: patterns, the peer; written by wip/gen/ref.py -/
def mFt (a _b : Nat) : Prop := a = 25
def mTi (a b : Nat) : Prop := (a = 0 ∧ (b = 44 ∨ b = 46 ∨ b = 38 ∨ b = 48)) ∨ a = 30 ∨ a = 31 ∨ a = 32
def mFr (a b : Nat) : Prop := (a = 0 ∧ b = 46) ∨ a = 25 ∨ a = 24 ∨ a = 31
theorem nb_I {x : Nat} (h : x ≤ 1) : narrow .boolean (.int (nI x)) = .int (nI x) := by
  obtain rfl | rfl : x = 0 ∨ x = 1 := by omega
  · rfl
  · rfl
theorem nb_I2 {x : Nat} (h : x ≤ 1) : nI x = 0 ∨ nI x = 1 := by
  obtain rfl | rfl : x = 0 ∨ x = 1 := by omega
  · exact Or.inl rfl
  · exact Or.inr rfl

set_option maxHeartbeats 1600000 in
set_option maxRecDepth 100000 in
theorem s_Md_fits (l : Launch) (D : va_G) (ad : Nat → Nat) (cA : Nat → ClassId) (A TB : Nat) (hA : A ≤ 100000000) (hB : TB ≤ 2000000000) (M : ux_M) (hI : IvM A TB M) (L : Nat) (hL : L ≤ 7) (hlv : M 0 10 = nI L) (w n : Nat) (hw : w ≤ 8) (hn : n ≤ 20) : Met l y_Md_fits w_Md_fits ({ frames := 2, cells := 0, slots := 0, locals := 44 }) (va_Pc [.ref (ad 0), .int (nI w), .int (nI n)] (ux_B D shM KM ad cA M)) (va_Qi (fun r M1 => IvM A TB M1 ∧ (∀ a b, ¬ mFt a b → M1 a b = M a b) ∧ (r = 0 ∨ r = 1)) (ux_E D shM KM ad cA) (ux_A KM ad)) 0 0 (ux_A KM ad) := by
  refine Met.ofW (cc := b_Md_fits) (maxL := 9) (ret := (some .boolean)) (by decide) rfl ?_
  intro p e s m args below meth c s₁ B hml hv
  obtain ⟨rfl, hP, hK, hi, hN⟩ := hv
  have hx := B.exec
  have hb := B.bytes
  have hr := B.returns
  have hts := atoms_spec (ws := w_Md_fits) B.pre
  have hown : s.vm.findClass R_Md = some m.cls := findClass_of_methodNamed B.named
  have hlocks := B.notSynchronized
  have hT : ∀ w ∈ tb, w.before _ s = true := fun w h => hts w (List.mem_cons_of_mem _ h)
  have hS : va_S (ux_A KM ad) s.heap s.heap [] := va_S.rf
  have hl := lv_entry ([.ref (ad 0), .int (nI w), .int (nI n)]) (n := 9) (Nat.le_of_ble_eq_true rfl)
  rw [lg_entry_eq]
  generalize (lg_sl ([.ref (ad 0), .int (nI w), .int (nI n)]) ++ List.replicate (9 - (lg_sl ([.ref (ad 0), .int (nI w), .int (nI n)])).length) Slot.unset).toArray = ls at hl ⊢
  have hl : lv_has ls 9 [(0, .ref (ad 0)), (1, .int (nI w)), (2, .int (nI n))] := hl
  have hF : ∀ a b, ¬ mFt a b → M a b = M a b := fun _ _ _ => rfl
  have cut41 : ∀ (nn : Nat) (k3 k4 : Nat) (Mc41 : ux_M) (H : Heap) (locs : List Loc) (ls : Array Slot), k3 - k4 = nn → (k4 ≤ 200) → (k3 ≤ 200) → ((k3 : Int) ≤ (M 19 (8 * L + w)).toInt) → va_P D classes (ux_w shM KM ad cA Mc41) H → IvM A TB Mc41 → (∀ a b, ¬ mFt a b → Mc41 a b = M a b) → va_S (ux_A KM ad) s.heap H locs → lv_has ls 9 [(0, .ref (ad 0)), (1, .int (nI w)), (2, .int (nI n)), (3, .int (nI k3)), (4, .int (nI k4))] → W p l e (headSpec w_Md_fits ({ frames := 2, cells := 0, slots := 0, locals := 44 })).room s m (([.ref (ad 0), .int (nI w), .int (nI n)] : List Value).toArray) below meth c H locs 0 0 (MQ below (va_Qi (fun r M1 => IvM A TB M1 ∧ (∀ a b, ¬ mFt a b → M1 a b = M a b) ∧ (r = 0 ∨ r = 1)) (ux_E D shM KM ad cA) (ux_A KM ad)) (([.ref (ad 0), .int (nI w), .int (nI n)] : List Value).toArray) s 0 0 (ux_A KM ad)) (F0 m 41 ls []) := by
    intro nn
    induction nn using Nat.strongRecOn with
    | ind nn ih41 =>
      intro k3 k4 Mc41 H locs ls hn c41_0 c41_1 c41_2 hP hI hF hS hl
      have cut90 : ∀ (nn : Nat) (i_5 i_6 : Int32) (k7 : Nat) (Mc90 : ux_M) (H : Heap) (locs : List Loc) (ls : Array Slot), 21 - k7 = nn → (1 ≤ k7) → (k7 ≤ 21) → (k4 < k3) → va_P D classes (ux_w shM KM ad cA Mc90) H → IvM A TB Mc90 → (∀ a b, ¬ mFt a b → Mc90 a b = M a b) → va_S (ux_A KM ad) s.heap H locs → lv_has ls 9 [(0, .ref (ad 0)), (1, .int (nI w)), (2, .int (nI n)), (3, .int (nI k3)), (4, .int (nI k4)), (5, .int i_5), (6, .int i_6), (7, .int (nI k7))] → W p l e (headSpec w_Md_fits ({ frames := 2, cells := 0, slots := 0, locals := 44 })).room s m (([.ref (ad 0), .int (nI w), .int (nI n)] : List Value).toArray) below meth c H locs 0 0 (MQ below (va_Qi (fun r M1 => IvM A TB M1 ∧ (∀ a b, ¬ mFt a b → M1 a b = M a b) ∧ (r = 0 ∨ r = 1)) (ux_E D shM KM ad cA) (ux_A KM ad)) (([.ref (ad 0), .int (nI w), .int (nI n)] : List Value).toArray) s 0 0 (ux_A KM ad)) (F0 m 90 ls []) := by
        intro nn
        induction nn using Nat.strongRecOn with
        | ind nn ih90 =>
          intro i_5 i_6 k7 Mc90 H locs ls hn c90_0 c90_1 c90_2 hP hI hF hS hl
          refine lv_iload hx hb d_Md_fits_90 (lv_at hl 7 rfl) ?_
          refine lv_iload_n hx hb d_Md_fits_92 rfl (lv_at hl 2 rfl) ?_
          refine lv_icmp_gt hx hb d_Md_fits_93 rfl (fun h1 => ?_) (fun h1 => ?_)
          · have g1 : ((n : Nat) : Int) < ((k7 : Nat) : Int) := by have q := Int32.lt_iff_toInt_lt.mp h1; rw [nI_toInt (n := n) (by omega), nI_toInt (n := k7) (by omega)] at q; exact q
            refine lv_iinc (k := 4) (v := nI (k4 + 1)) hx hb d_Md_fits_185 hl rfl (nI_add k4 1) (by decide) rfl (fun ls hl => ?_)
            have hl : lv_has ls 9 [(4, .int (nI (k4 + 1))), (0, .ref (ad 0)), (1, .int (nI w)), (2, .int (nI n)), (3, .int (nI k3)), (5, .int i_5), (6, .int i_6), (7, .int (nI k7))] := hl
            refine lv_goto hx hb d_Md_fits_188 rfl ?_
            exact ih41 (k3 - (k4 + 1)) (by omega) k3 (k4 + 1) Mc90 _ _ ls rfl (show (k4 + 1) ≤ 200 from by first | omega | assumption | exact Or.inl rfl | exact Or.inr rfl | rfl | decide) (show k3 ≤ 200 from by first | omega | assumption | exact Or.inl rfl | exact Or.inr rfl | rfl | decide) (show (k3 : Int) ≤ (M 19 (8 * L + w)).toInt from by first | omega | assumption | exact Or.inl rfl | exact Or.inr rfl | rfl | decide) hP hI hF hS (lv_sub hl [1, 2, 3, 4, 0] rfl)
          · have g1 : ¬ (((n : Nat) : Int) < ((k7 : Nat) : Int)) := fun q => h1 (Int32.lt_iff_toInt_lt.mpr (by rw [nI_toInt (n := n) (by omega), nI_toInt (n := k7) (by omega)]; exact q))
            refine lv_aload_n hx hb d_Md_fits_96 rfl (lv_at hl 0 rfl) ?_
            refine ux_get (C := R_Md) (T := F_Md) (N := 50) hx hb hT in_Md hown hK hP (by decide) rfl rfl 37 (by decide) (hT _ fl_Md_88) rfl d_Md_fits_97 ?_
            refine lv_iload hx hb d_Md_fits_100 (lv_at hl 7 rfl) ?_
            refine ux_zald hx hb hK hP (by decide) rfl (vp_in_nI (show k7 < 21 by omega) (by decide)) d_Md_fits_102 ?_
            rw [nI_clamp (n := k7) (by omega)]
            refine lv_topi (fun z3 hz3 => ?_)
            obtain ⟨c2, hc2, ec2⟩ := nat_of (x := Mc90 25 k7) (n := 1) (hI.1 25 k7).1 (hI.1 25 k7).2
            rw [ec2] at hz3
            rw [hz3]
            have tc2 : (Mc90 25 k7).toInt = (c2 : Int) := by rw [ec2]; exact nI_toInt (by omega)
            refine lv_istore hx hb d_Md_fits_103 hl (by decide) rfl (fun ls hl => ?_)
            have hl : lv_has ls 9 [(8, .int (nI c2)), (0, .ref (ad 0)), (1, .int (nI w)), (2, .int (nI n)), (3, .int (nI k3)), (4, .int (nI k4)), (5, .int i_5), (6, .int i_6), (7, .int (nI k7))] := hl
            refine lv_aload_n hx hb d_Md_fits_105 rfl (lv_at hl 1 rfl) ?_
            refine ux_get (C := R_Md) (T := F_Md) (N := 50) hx hb hT in_Md hown hK hP (by decide) rfl rfl 37 (by decide) (hT _ fl_Md_88) rfl d_Md_fits_106 ?_
            refine lv_iload hx hb d_Md_fits_109 (lv_at hl 8 rfl) ?_
            refine lv_iload hx hb d_Md_fits_111 (lv_at hl 6 rfl) ?_
            refine lv_bipush (v := 42) hx hb d_Md_fits_113 (by decide) ?_
            refine lv_icmp_ne hx hb d_Md_fits_115 rfl (fun h4 => ?_) (fun h4 => ?_)
            · have g4 : ¬ (i_5.toInt = 42) := fun q => h4 (Int32.toInt_inj.mp q)
              refine lv_iload hx hb d_Md_fits_143 (lv_at hl 7 rfl) ?_
              refine lv_if_eq hx hb d_Md_fits_145 rfl (fun h5 => ?_) (fun h5 => ?_)
              · have g5 : i_6.toInt = 0 := congrArg Int32.toInt h5
                refine lv_iconst (v := 0) hx hb d_Md_fits_173 (by decide) ?_
                refine ux_zast hx hb hK hi hP hS (by decide) rfl (vp_in_nI (show k7 < 21 by omega) (by decide)) d_Md_fits_174 (fun H locs hP hS => ?_)
                rw [show vp_nar .boolean 0 = 0 from rfl] at hP
                rw [nI_clamp (n := k7) (by omega)] at hP
                have hI := IvM_wr (k := 25) (j := k7) (v := 0) hI (show (0 : Int) ≤ (0 : Int32).toInt from (by decide)) (show (0 : Int32).toInt ≤ (1 : Int) from (by first | decide | (show (0 : Int) ≤ _; omega))) (by unfold okW; omega)
                have hF := fr_wr (k := 25) (j := k7) (v := 0) hF (by unfold mFt; omega)
                generalize eM6 : ux_wr Mc90 25 k7 0 = M6 at hP hI hF
                have tM6 : (M6 25 k7).toInt = 0 := by rw [wr_at eM6]; rfl
                refine lv_iload hx hb d_Md_fits_175 (lv_at hl 0 rfl) ?_
                refine lv_istore hx hb d_Md_fits_177 hl (by decide) rfl (fun ls hl => ?_)
                have hl : lv_has ls 9 [(6, .int (nI c2)), (8, .int (nI c2)), (0, .ref (ad 0)), (1, .int (nI w)), (2, .int (nI n)), (3, .int (nI k3)), (4, .int (nI k4)), (5, .int i_5), (7, .int (nI k7))] := hl
                refine lv_iinc (k := 8) (v := nI (k7 + 1)) hx hb d_Md_fits_179 hl rfl (nI_add k7 1) (by decide) rfl (fun ls hl => ?_)
                have hl : lv_has ls 9 [(7, .int (nI (k7 + 1))), (6, .int (nI c2)), (8, .int (nI c2)), (0, .ref (ad 0)), (1, .int (nI w)), (2, .int (nI n)), (3, .int (nI k3)), (4, .int (nI k4)), (5, .int i_5)] := hl
                refine lv_goto hx hb d_Md_fits_182 rfl ?_
                exact ih90 (21 - (k7 + 1)) (by omega) i_5 (nI c2) (k7 + 1) M6 _ _ ls rfl (show 1 ≤ (k7 + 1) from by first | omega | assumption | exact Or.inl rfl | exact Or.inr rfl | rfl | decide) (show (k7 + 1) ≤ 21 from by first | omega | assumption | exact Or.inl rfl | exact Or.inr rfl | rfl | decide) (show k4 < k3 from by first | omega | assumption | exact Or.inl rfl | exact Or.inr rfl | rfl | decide) hP hI hF hS (lv_sub hl [3, 4, 5, 6, 7, 8, 1, 0] rfl)
              · have g5 : ¬ (i_6.toInt = 0) := fun q => h5 (Int32.toInt_inj.mp q)
                refine lv_iload hx hb d_Md_fits_148 (lv_at hl 6 rfl) ?_
                refine lv_bipush (v := 63) hx hb d_Md_fits_150 (by decide) ?_
                refine lv_icmp_eq hx hb d_Md_fits_152 rfl (fun h7 => ?_) (fun h7 => ?_)
                · have g7 : i_5.toInt = 63 := congrArg Int32.toInt h7
                  refine lv_iconst (v := 1) hx hb d_Md_fits_169 (by decide) ?_
                  refine lv_goto hx hb d_Md_fits_170 rfl ?_
                  refine ux_zast hx hb hK hi hP hS (by decide) rfl (vp_in_nI (show k7 < 21 by omega) (by decide)) d_Md_fits_174 (fun H locs hP hS => ?_)
                  rw [show vp_nar .boolean 1 = 1 from rfl] at hP
                  rw [nI_clamp (n := k7) (by omega)] at hP
                  have hI := IvM_wr (k := 25) (j := k7) (v := 1) hI (show (0 : Int) ≤ (1 : Int32).toInt from (by decide)) (show (1 : Int32).toInt ≤ (1 : Int) from (by first | decide | (show (1 : Int) ≤ _; omega))) (by unfold okW; omega)
                  have hF := fr_wr (k := 25) (j := k7) (v := 1) hF (by unfold mFt; omega)
                  generalize eM8 : ux_wr Mc90 25 k7 1 = M8 at hP hI hF
                  have tM8 : (M8 25 k7).toInt = 1 := by rw [wr_at eM8]; rfl
                  refine lv_iload hx hb d_Md_fits_175 (lv_at hl 0 rfl) ?_
                  refine lv_istore hx hb d_Md_fits_177 hl (by decide) rfl (fun ls hl => ?_)
                  have hl : lv_has ls 9 [(6, .int (nI c2)), (8, .int (nI c2)), (0, .ref (ad 0)), (1, .int (nI w)), (2, .int (nI n)), (3, .int (nI k3)), (4, .int (nI k4)), (5, .int i_5), (7, .int (nI k7))] := hl
                  refine lv_iinc (k := 8) (v := nI (k7 + 1)) hx hb d_Md_fits_179 hl rfl (nI_add k7 1) (by decide) rfl (fun ls hl => ?_)
                  have hl : lv_has ls 9 [(7, .int (nI (k7 + 1))), (6, .int (nI c2)), (8, .int (nI c2)), (0, .ref (ad 0)), (1, .int (nI w)), (2, .int (nI n)), (3, .int (nI k3)), (4, .int (nI k4)), (5, .int i_5)] := hl
                  refine lv_goto hx hb d_Md_fits_182 rfl ?_
                  exact ih90 (21 - (k7 + 1)) (by omega) i_5 (nI c2) (k7 + 1) M8 _ _ ls rfl (show 1 ≤ (k7 + 1) from by first | omega | assumption | exact Or.inl rfl | exact Or.inr rfl | rfl | decide) (show (k7 + 1) ≤ 21 from by first | omega | assumption | exact Or.inl rfl | exact Or.inr rfl | rfl | decide) (show k4 < k3 from by first | omega | assumption | exact Or.inl rfl | exact Or.inr rfl | rfl | decide) hP hI hF hS (lv_sub hl [3, 4, 5, 6, 7, 8, 1, 0] rfl)
                · have g7 : ¬ (i_5.toInt = 63) := fun q => h7 (Int32.toInt_inj.mp q)
                  refine lv_iload hx hb d_Md_fits_155 (lv_at hl 6 rfl) ?_
                  refine lv_aload_n hx hb d_Md_fits_157 rfl (lv_at hl 1 rfl) ?_
                  refine ux_get (C := R_Md) (T := F_Md) (N := 50) hx hb hT in_Md hown hK hP (by decide) rfl rfl 36 (by decide) (hT _ fl_Md_85) rfl d_Md_fits_158 ?_
                  refine lv_iload hx hb d_Md_fits_161 (lv_at hl 8 rfl) ?_
                  refine lv_iconst (v := 1) hx hb d_Md_fits_163 (by decide) ?_
                  refine lv_isub hx hb d_Md_fits_164 ?_
                  refine lv_topi (fun z9 hz9 => ?_)
                  rw [show (nI k7) - (1 : Int32) = nI (k7 - 1) from (pk_sub (a := k7) (b := 1) (by omega)).trans (congrArg nI (show k7 - 1 = k7 - 1 by omega))] at hz9
                  rw [hz9]
                  refine ux_cald hx hb hK hP (by decide) rfl (vp_in_nI (show k7 - 1 < 20 by omega) (by decide)) d_Md_fits_165 ?_
                  rw [nI_clamp (n := k7 - 1) (by omega)]
                  refine lv_topi (fun z11 hz11 => ?_)
                  obtain ⟨c10, hc10, ec10⟩ := nat_of (x := Mc90 24 (k7 - 1)) (n := 65535) (hI.1 24 (k7 - 1)).1 (hI.1 24 (k7 - 1)).2
                  rw [ec10] at hz11
                  rw [hz11]
                  have tc10 : (Mc90 24 (k7 - 1)).toInt = (c10 : Int) := by rw [ec10]; exact nI_toInt (by omega)
                  refine lv_icmp_ne hx hb d_Md_fits_166 rfl (fun h12 => ?_) (fun h12 => ?_)
                  · have g12 : ¬ (i_5.toInt = ((c10 : Nat) : Int)) := fun q => h12 (Int32.toInt_inj.mp (by rw [nI_toInt (n := c10) (by omega)]; exact q))
                    refine lv_iconst (v := 0) hx hb d_Md_fits_173 (by decide) ?_
                    refine ux_zast hx hb hK hi hP hS (by decide) rfl (vp_in_nI (show k7 < 21 by omega) (by decide)) d_Md_fits_174 (fun H locs hP hS => ?_)
                    rw [show vp_nar .boolean 0 = 0 from rfl] at hP
                    rw [nI_clamp (n := k7) (by omega)] at hP
                    have hI := IvM_wr (k := 25) (j := k7) (v := 0) hI (show (0 : Int) ≤ (0 : Int32).toInt from (by decide)) (show (0 : Int32).toInt ≤ (1 : Int) from (by first | decide | (show (0 : Int) ≤ _; omega))) (by unfold okW; omega)
                    have hF := fr_wr (k := 25) (j := k7) (v := 0) hF (by unfold mFt; omega)
                    generalize eM13 : ux_wr Mc90 25 k7 0 = M13 at hP hI hF
                    have tM13 : (M13 25 k7).toInt = 0 := by rw [wr_at eM13]; rfl
                    refine lv_iload hx hb d_Md_fits_175 (lv_at hl 0 rfl) ?_
                    refine lv_istore hx hb d_Md_fits_177 hl (by decide) rfl (fun ls hl => ?_)
                    have hl : lv_has ls 9 [(6, .int (nI c2)), (8, .int (nI c2)), (0, .ref (ad 0)), (1, .int (nI w)), (2, .int (nI n)), (3, .int (nI k3)), (4, .int (nI k4)), (5, .int i_5), (7, .int (nI k7))] := hl
                    refine lv_iinc (k := 8) (v := nI (k7 + 1)) hx hb d_Md_fits_179 hl rfl (nI_add k7 1) (by decide) rfl (fun ls hl => ?_)
                    have hl : lv_has ls 9 [(7, .int (nI (k7 + 1))), (6, .int (nI c2)), (8, .int (nI c2)), (0, .ref (ad 0)), (1, .int (nI w)), (2, .int (nI n)), (3, .int (nI k3)), (4, .int (nI k4)), (5, .int i_5)] := hl
                    refine lv_goto hx hb d_Md_fits_182 rfl ?_
                    exact ih90 (21 - (k7 + 1)) (by omega) i_5 (nI c2) (k7 + 1) M13 _ _ ls rfl (show 1 ≤ (k7 + 1) from by first | omega | assumption | exact Or.inl rfl | exact Or.inr rfl | rfl | decide) (show (k7 + 1) ≤ 21 from by first | omega | assumption | exact Or.inl rfl | exact Or.inr rfl | rfl | decide) (show k4 < k3 from by first | omega | assumption | exact Or.inl rfl | exact Or.inr rfl | rfl | decide) hP hI hF hS (lv_sub hl [3, 4, 5, 6, 7, 8, 1, 0] rfl)
                  · have g12 : i_5.toInt = ((c10 : Nat) : Int) := by have q := congrArg Int32.toInt h12; rw [nI_toInt (n := c10) (by omega)] at q; exact q
                    refine lv_iconst (v := 1) hx hb d_Md_fits_169 (by decide) ?_
                    refine lv_goto hx hb d_Md_fits_170 rfl ?_
                    refine ux_zast hx hb hK hi hP hS (by decide) rfl (vp_in_nI (show k7 < 21 by omega) (by decide)) d_Md_fits_174 (fun H locs hP hS => ?_)
                    rw [show vp_nar .boolean 1 = 1 from rfl] at hP
                    rw [nI_clamp (n := k7) (by omega)] at hP
                    have hI := IvM_wr (k := 25) (j := k7) (v := 1) hI (show (0 : Int) ≤ (1 : Int32).toInt from (by decide)) (show (1 : Int32).toInt ≤ (1 : Int) from (by first | decide | (show (1 : Int) ≤ _; omega))) (by unfold okW; omega)
                    have hF := fr_wr (k := 25) (j := k7) (v := 1) hF (by unfold mFt; omega)
                    generalize eM14 : ux_wr Mc90 25 k7 1 = M14 at hP hI hF
                    have tM14 : (M14 25 k7).toInt = 1 := by rw [wr_at eM14]; rfl
                    refine lv_iload hx hb d_Md_fits_175 (lv_at hl 0 rfl) ?_
                    refine lv_istore hx hb d_Md_fits_177 hl (by decide) rfl (fun ls hl => ?_)
                    have hl : lv_has ls 9 [(6, .int (nI c2)), (8, .int (nI c2)), (0, .ref (ad 0)), (1, .int (nI w)), (2, .int (nI n)), (3, .int (nI k3)), (4, .int (nI k4)), (5, .int i_5), (7, .int (nI k7))] := hl
                    refine lv_iinc (k := 8) (v := nI (k7 + 1)) hx hb d_Md_fits_179 hl rfl (nI_add k7 1) (by decide) rfl (fun ls hl => ?_)
                    have hl : lv_has ls 9 [(7, .int (nI (k7 + 1))), (6, .int (nI c2)), (8, .int (nI c2)), (0, .ref (ad 0)), (1, .int (nI w)), (2, .int (nI n)), (3, .int (nI k3)), (4, .int (nI k4)), (5, .int i_5)] := hl
                    refine lv_goto hx hb d_Md_fits_182 rfl ?_
                    exact ih90 (21 - (k7 + 1)) (by omega) i_5 (nI c2) (k7 + 1) M14 _ _ ls rfl (show 1 ≤ (k7 + 1) from by first | omega | assumption | exact Or.inl rfl | exact Or.inr rfl | rfl | decide) (show (k7 + 1) ≤ 21 from by first | omega | assumption | exact Or.inl rfl | exact Or.inr rfl | rfl | decide) (show k4 < k3 from by first | omega | assumption | exact Or.inl rfl | exact Or.inr rfl | rfl | decide) hP hI hF hS (lv_sub hl [3, 4, 5, 6, 7, 8, 1, 0] rfl)
            · have g4 : i_5.toInt = 42 := congrArg Int32.toInt h4
              refine lv_iload hx hb d_Md_fits_118 (lv_at hl 0 rfl) ?_
              refine lv_if_ne hx hb d_Md_fits_120 rfl (fun h15 => ?_) (fun h15 => ?_)
              · have g15 : ¬ (((c2 : Nat) : Int) = 0) := fun q => h15 (Int32.toInt_inj.mp (by rw [nI_toInt (n := c2) (by omega)]; exact q))
                refine lv_iconst (v := 1) hx hb d_Md_fits_135 (by decide) ?_
                refine lv_goto hx hb d_Md_fits_136 rfl ?_
                refine ux_zast hx hb hK hi hP hS (by decide) rfl (vp_in_nI (show k7 < 21 by omega) (by decide)) d_Md_fits_174 (fun H locs hP hS => ?_)
                rw [show vp_nar .boolean 1 = 1 from rfl] at hP
                rw [nI_clamp (n := k7) (by omega)] at hP
                have hI := IvM_wr (k := 25) (j := k7) (v := 1) hI (show (0 : Int) ≤ (1 : Int32).toInt from (by decide)) (show (1 : Int32).toInt ≤ (1 : Int) from (by first | decide | (show (1 : Int) ≤ _; omega))) (by unfold okW; omega)
                have hF := fr_wr (k := 25) (j := k7) (v := 1) hF (by unfold mFt; omega)
                generalize eM16 : ux_wr Mc90 25 k7 1 = M16 at hP hI hF
                have tM16 : (M16 25 k7).toInt = 1 := by rw [wr_at eM16]; rfl
                refine lv_iload hx hb d_Md_fits_175 (lv_at hl 0 rfl) ?_
                refine lv_istore hx hb d_Md_fits_177 hl (by decide) rfl (fun ls hl => ?_)
                have hl : lv_has ls 9 [(6, .int (nI c2)), (8, .int (nI c2)), (0, .ref (ad 0)), (1, .int (nI w)), (2, .int (nI n)), (3, .int (nI k3)), (4, .int (nI k4)), (5, .int i_5), (7, .int (nI k7))] := hl
                refine lv_iinc (k := 8) (v := nI (k7 + 1)) hx hb d_Md_fits_179 hl rfl (nI_add k7 1) (by decide) rfl (fun ls hl => ?_)
                have hl : lv_has ls 9 [(7, .int (nI (k7 + 1))), (6, .int (nI c2)), (8, .int (nI c2)), (0, .ref (ad 0)), (1, .int (nI w)), (2, .int (nI n)), (3, .int (nI k3)), (4, .int (nI k4)), (5, .int i_5)] := hl
                refine lv_goto hx hb d_Md_fits_182 rfl ?_
                exact ih90 (21 - (k7 + 1)) (by omega) i_5 (nI c2) (k7 + 1) M16 _ _ ls rfl (show 1 ≤ (k7 + 1) from by first | omega | assumption | exact Or.inl rfl | exact Or.inr rfl | rfl | decide) (show (k7 + 1) ≤ 21 from by first | omega | assumption | exact Or.inl rfl | exact Or.inr rfl | rfl | decide) (show k4 < k3 from by first | omega | assumption | exact Or.inl rfl | exact Or.inr rfl | rfl | decide) hP hI hF hS (lv_sub hl [3, 4, 5, 6, 7, 8, 1, 0] rfl)
              · have g15 : ((c2 : Nat) : Int) = 0 := by have q := congrArg Int32.toInt h15; rw [nI_toInt (n := c2) (by omega)] at q; exact q
                refine lv_aload_n hx hb d_Md_fits_123 rfl (lv_at hl 1 rfl) ?_
                refine ux_get (C := R_Md) (T := F_Md) (N := 50) hx hb hT in_Md hown hK hP (by decide) rfl rfl 37 (by decide) (hT _ fl_Md_88) rfl d_Md_fits_124 ?_
                refine lv_iload hx hb d_Md_fits_127 (lv_at hl 8 rfl) ?_
                refine lv_iconst (v := 1) hx hb d_Md_fits_129 (by decide) ?_
                refine lv_isub hx hb d_Md_fits_130 ?_
                refine lv_topi (fun z17 hz17 => ?_)
                rw [show (nI k7) - (1 : Int32) = nI (k7 - 1) from (pk_sub (a := k7) (b := 1) (by omega)).trans (congrArg nI (show k7 - 1 = k7 - 1 by omega))] at hz17
                rw [hz17]
                refine ux_zald hx hb hK hP (by decide) rfl (vp_in_nI (show k7 - 1 < 21 by omega) (by decide)) d_Md_fits_131 ?_
                rw [nI_clamp (n := k7 - 1) (by omega)]
                refine lv_topi (fun z19 hz19 => ?_)
                obtain ⟨c18, hc18, ec18⟩ := nat_of (x := Mc90 25 (k7 - 1)) (n := 1) (hI.1 25 (k7 - 1)).1 (hI.1 25 (k7 - 1)).2
                rw [ec18] at hz19
                rw [hz19]
                have tc18 : (Mc90 25 (k7 - 1)).toInt = (c18 : Int) := by rw [ec18]; exact nI_toInt (by omega)
                refine lv_if_eq hx hb d_Md_fits_132 rfl (fun h20 => ?_) (fun h20 => ?_)
                · have g20 : ((c18 : Nat) : Int) = 0 := by have q := congrArg Int32.toInt h20; rw [nI_toInt (n := c18) (by omega)] at q; exact q
                  refine lv_iconst (v := 0) hx hb d_Md_fits_139 (by decide) ?_
                  refine lv_goto hx hb d_Md_fits_140 rfl ?_
                  refine ux_zast hx hb hK hi hP hS (by decide) rfl (vp_in_nI (show k7 < 21 by omega) (by decide)) d_Md_fits_174 (fun H locs hP hS => ?_)
                  rw [show vp_nar .boolean 0 = 0 from rfl] at hP
                  rw [nI_clamp (n := k7) (by omega)] at hP
                  have hI := IvM_wr (k := 25) (j := k7) (v := 0) hI (show (0 : Int) ≤ (0 : Int32).toInt from (by decide)) (show (0 : Int32).toInt ≤ (1 : Int) from (by first | decide | (show (0 : Int) ≤ _; omega))) (by unfold okW; omega)
                  have hF := fr_wr (k := 25) (j := k7) (v := 0) hF (by unfold mFt; omega)
                  generalize eM21 : ux_wr Mc90 25 k7 0 = M21 at hP hI hF
                  have tM21 : (M21 25 k7).toInt = 0 := by rw [wr_at eM21]; rfl
                  refine lv_iload hx hb d_Md_fits_175 (lv_at hl 0 rfl) ?_
                  refine lv_istore hx hb d_Md_fits_177 hl (by decide) rfl (fun ls hl => ?_)
                  have hl : lv_has ls 9 [(6, .int (nI c2)), (8, .int (nI c2)), (0, .ref (ad 0)), (1, .int (nI w)), (2, .int (nI n)), (3, .int (nI k3)), (4, .int (nI k4)), (5, .int i_5), (7, .int (nI k7))] := hl
                  refine lv_iinc (k := 8) (v := nI (k7 + 1)) hx hb d_Md_fits_179 hl rfl (nI_add k7 1) (by decide) rfl (fun ls hl => ?_)
                  have hl : lv_has ls 9 [(7, .int (nI (k7 + 1))), (6, .int (nI c2)), (8, .int (nI c2)), (0, .ref (ad 0)), (1, .int (nI w)), (2, .int (nI n)), (3, .int (nI k3)), (4, .int (nI k4)), (5, .int i_5)] := hl
                  refine lv_goto hx hb d_Md_fits_182 rfl ?_
                  exact ih90 (21 - (k7 + 1)) (by omega) i_5 (nI c2) (k7 + 1) M21 _ _ ls rfl (show 1 ≤ (k7 + 1) from by first | omega | assumption | exact Or.inl rfl | exact Or.inr rfl | rfl | decide) (show (k7 + 1) ≤ 21 from by first | omega | assumption | exact Or.inl rfl | exact Or.inr rfl | rfl | decide) (show k4 < k3 from by first | omega | assumption | exact Or.inl rfl | exact Or.inr rfl | rfl | decide) hP hI hF hS (lv_sub hl [3, 4, 5, 6, 7, 8, 1, 0] rfl)
                · have g20 : ¬ (((c18 : Nat) : Int) = 0) := fun q => h20 (Int32.toInt_inj.mp (by rw [nI_toInt (n := c18) (by omega)]; exact q))
                  refine lv_iconst (v := 1) hx hb d_Md_fits_135 (by decide) ?_
                  refine lv_goto hx hb d_Md_fits_136 rfl ?_
                  refine ux_zast hx hb hK hi hP hS (by decide) rfl (vp_in_nI (show k7 < 21 by omega) (by decide)) d_Md_fits_174 (fun H locs hP hS => ?_)
                  rw [show vp_nar .boolean 1 = 1 from rfl] at hP
                  rw [nI_clamp (n := k7) (by omega)] at hP
                  have hI := IvM_wr (k := 25) (j := k7) (v := 1) hI (show (0 : Int) ≤ (1 : Int32).toInt from (by decide)) (show (1 : Int32).toInt ≤ (1 : Int) from (by first | decide | (show (1 : Int) ≤ _; omega))) (by unfold okW; omega)
                  have hF := fr_wr (k := 25) (j := k7) (v := 1) hF (by unfold mFt; omega)
                  generalize eM22 : ux_wr Mc90 25 k7 1 = M22 at hP hI hF
                  have tM22 : (M22 25 k7).toInt = 1 := by rw [wr_at eM22]; rfl
                  refine lv_iload hx hb d_Md_fits_175 (lv_at hl 0 rfl) ?_
                  refine lv_istore hx hb d_Md_fits_177 hl (by decide) rfl (fun ls hl => ?_)
                  have hl : lv_has ls 9 [(6, .int (nI c2)), (8, .int (nI c2)), (0, .ref (ad 0)), (1, .int (nI w)), (2, .int (nI n)), (3, .int (nI k3)), (4, .int (nI k4)), (5, .int i_5), (7, .int (nI k7))] := hl
                  refine lv_iinc (k := 8) (v := nI (k7 + 1)) hx hb d_Md_fits_179 hl rfl (nI_add k7 1) (by decide) rfl (fun ls hl => ?_)
                  have hl : lv_has ls 9 [(7, .int (nI (k7 + 1))), (6, .int (nI c2)), (8, .int (nI c2)), (0, .ref (ad 0)), (1, .int (nI w)), (2, .int (nI n)), (3, .int (nI k3)), (4, .int (nI k4)), (5, .int i_5)] := hl
                  refine lv_goto hx hb d_Md_fits_182 rfl ?_
                  exact ih90 (21 - (k7 + 1)) (by omega) i_5 (nI c2) (k7 + 1) M22 _ _ ls rfl (show 1 ≤ (k7 + 1) from by first | omega | assumption | exact Or.inl rfl | exact Or.inr rfl | rfl | decide) (show (k7 + 1) ≤ 21 from by first | omega | assumption | exact Or.inl rfl | exact Or.inr rfl | rfl | decide) (show k4 < k3 from by first | omega | assumption | exact Or.inl rfl | exact Or.inr rfl | rfl | decide) hP hI hF hS (lv_sub hl [3, 4, 5, 6, 7, 8, 1, 0] rfl)
      refine lv_iload hx hb d_Md_fits_41 (lv_at hl 4 rfl) ?_
      refine lv_iload_n hx hb d_Md_fits_43 rfl (lv_at hl 3 rfl) ?_
      refine lv_icmp_ge hx hb d_Md_fits_44 rfl (fun h23 => ?_) (fun h23 => ?_)
      · have g23 : ((k3 : Nat) : Int) ≤ ((k4 : Nat) : Int) := by have q := Int32.le_iff_toInt_le.mp h23; rw [nI_toInt (n := k3) (by omega), nI_toInt (n := k4) (by omega)] at q; exact q
        refine lv_aload_n hx hb d_Md_fits_191 rfl (lv_at hl 0 rfl) ?_
        refine ux_get (C := R_Md) (T := F_Md) (N := 50) hx hb hT in_Md hown hK hP (by decide) rfl rfl 37 (by decide) (hT _ fl_Md_88) rfl d_Md_fits_192 ?_
        refine lv_iload_n hx hb d_Md_fits_195 rfl (lv_at hl 2 rfl) ?_
        refine ux_zald hx hb hK hP (by decide) rfl (vp_in_nI (show n < 21 by omega) (by decide)) d_Md_fits_196 ?_
        rw [nI_clamp (n := n) (by omega)]
        refine lv_topi (fun z25 hz25 => ?_)
        obtain ⟨c24, hc24, ec24⟩ := nat_of (x := Mc41 25 n) (n := 1) (hI.1 25 n).1 (hI.1 25 n).2
        rw [ec24] at hz25
        rw [hz25]
        have tc24 : (Mc41 25 n).toInt = (c24 : Int) := by rw [ec24]; exact nI_toInt (by omega)
        exact W.zret (v := nI c24) hx hb hr (nb_I (by omega)) (fun t ht hW => ⟨⟨nI c24, Mc41, rfl, ⟨hI, hF, nb_I2 (by omega)⟩, by unfold ux_E; rw [ht]; exact hP⟩, hS.F ht⟩) hS.2.2 d_Md_fits_197
      · have g23 : ¬ (((k3 : Nat) : Int) ≤ ((k4 : Nat) : Int)) := fun q => h23 (Int32.le_iff_toInt_le.mpr (by rw [nI_toInt (n := k3) (by omega), nI_toInt (n := k4) (by omega)]; exact q))
        have k26 := congrArg Int32.toInt (show Mc41 19 (8 * L + w) = M 19 (8 * L + w) from hF _ _ (by unfold mFt; omega))
        refine lv_aload_n hx hb d_Md_fits_47 rfl (lv_at hl 0 rfl) ?_
        refine lv_iload_n hx hb d_Md_fits_48 rfl (lv_at hl 1 rfl) ?_
        refine lv_iload hx hb d_Md_fits_49 (lv_at hl 4 rfl) ?_
        refine ux_calli (va_runV ⟨hx, hb, hml, hown, hts⟩ (s_Md_charOf l D ad cA A TB hA hB  Mc41 hI L hL ((hF _ _ (by unfold mFt; omega)).trans hlv) w k4 (by omega) (by omega)) (cwV 2 hts (tb_goodV ml_Md_162 im_Md_charOf se_Md_charOf ii_Md kt_Md_charOf) rfl rfl rfl (by decide +kernel) ⟨Nat.le_of_ble_eq_true rfl, Nat.le_of_ble_eq_true rfl⟩) (ux_preV (by decide) rfl rfl hP hK hi hN) rfl rfl hl.1 rfl (lv_room (Nat.le_of_ble_eq_true rfl)) d_Md_fits_51 ⟨Nat.zero_le _, Nat.zero_le _⟩) hS (fun r27 M28 H locs q29 hP hS => ?_)
        obtain ⟨hI, fq29, q29p⟩ := q29
        rw [tN_eq fq29] at hP hI
        obtain ⟨c30, hc30, ec30⟩ := nat_of (x := r27) (n := 65535) q29p.1.1 q29p.1.2
        have vc30 := q29p.2
        subst ec30
        have tc30 : (nI c30).toInt = (c30 : Int) := nI_toInt (by omega)
        refine lv_istore hx hb d_Md_fits_54 hl (by decide) rfl (fun ls hl => ?_)
        have hl : lv_has ls 9 [(5, .int (nI c30)), (0, .ref (ad 0)), (1, .int (nI w)), (2, .int (nI n)), (3, .int (nI k3)), (4, .int (nI k4))] := hl
        refine lv_aload_n hx hb d_Md_fits_56 rfl (lv_at hl 1 rfl) ?_
        refine ux_get (C := R_Md) (T := F_Md) (N := 50) hx hb hT in_Md hown hK hP (by decide) rfl rfl 37 (by decide) (hT _ fl_Md_88) rfl d_Md_fits_57 ?_
        refine lv_iconst (v := 0) hx hb d_Md_fits_60 (by decide) ?_
        refine ux_zald hx hb hK hP (by decide) rfl (vi (by decide) (by decide)) d_Md_fits_61 ?_
        rw [show (0 : Int32).toNatClampNeg = 0 from rfl]
        refine lv_topi (fun z32 hz32 => ?_)
        obtain ⟨c31, hc31, ec31⟩ := nat_of (x := Mc41 25 0) (n := 1) (hI.1 25 0).1 (hI.1 25 0).2
        rw [ec31] at hz32
        rw [hz32]
        have tc31 : (Mc41 25 0).toInt = (c31 : Int) := by rw [ec31]; exact nI_toInt (by omega)
        refine lv_istore hx hb d_Md_fits_62 hl (by decide) rfl (fun ls hl => ?_)
        have hl : lv_has ls 9 [(6, .int (nI c31)), (5, .int (nI c30)), (0, .ref (ad 0)), (1, .int (nI w)), (2, .int (nI n)), (3, .int (nI k3)), (4, .int (nI k4))] := hl
        refine lv_aload_n hx hb d_Md_fits_64 rfl (lv_at hl 2 rfl) ?_
        refine ux_get (C := R_Md) (T := F_Md) (N := 50) hx hb hT in_Md hown hK hP (by decide) rfl rfl 37 (by decide) (hT _ fl_Md_88) rfl d_Md_fits_65 ?_
        refine lv_iconst (v := 0) hx hb d_Md_fits_68 (by decide) ?_
        refine lv_iload hx hb d_Md_fits_69 (lv_at hl 0 rfl) ?_
        refine lv_if_eq hx hb d_Md_fits_71 rfl (fun h33 => ?_) (fun h33 => ?_)
        · have g33 : ((c31 : Nat) : Int) = 0 := by have q := congrArg Int32.toInt h33; rw [nI_toInt (n := c31) (by omega)] at q; exact q
          refine lv_iconst (v := 0) hx hb d_Md_fits_85 (by decide) ?_
          refine ux_zast hx hb hK hi hP hS (by decide) rfl (vi (by decide) (by decide)) d_Md_fits_86 (fun H locs hP hS => ?_)
          rw [show vp_nar .boolean 0 = 0 from rfl] at hP
          rw [show (0 : Int32).toNatClampNeg = 0 from rfl] at hP
          have hI := IvM_wr (k := 25) (j := 0) (v := 0) hI (show (0 : Int) ≤ (0 : Int32).toInt from (by decide)) (show (0 : Int32).toInt ≤ (1 : Int) from (by first | decide | (show (0 : Int) ≤ _; omega))) (by unfold okW; omega)
          have hF := fr_wr (k := 25) (j := 0) (v := 0) hF (by unfold mFt; omega)
          generalize eM34 : ux_wr Mc41 25 0 0 = M34 at hP hI hF
          have tM34 : (M34 25 0).toInt = 0 := by rw [wr_at eM34]; rfl
          refine lv_iconst (v := 1) hx hb d_Md_fits_87 (by decide) ?_
          refine lv_istore hx hb d_Md_fits_88 hl (by decide) rfl (fun ls hl => ?_)
          have hl : lv_has ls 9 [(7, .int 1), (6, .int (nI c31)), (5, .int (nI c30)), (0, .ref (ad 0)), (1, .int (nI w)), (2, .int (nI n)), (3, .int (nI k3)), (4, .int (nI k4))] := hl
          exact cut90 (21 - 1) (nI c30) (nI c31) 1 M34 _ _ ls rfl (show 1 ≤ 1 from by first | omega | assumption | exact Or.inl rfl | exact Or.inr rfl | rfl | decide) (show 1 ≤ 21 from by first | omega | assumption | exact Or.inl rfl | exact Or.inr rfl | rfl | decide) (show k4 < k3 from by first | omega | assumption | exact Or.inl rfl | exact Or.inr rfl | rfl | decide) hP hI hF hS (lv_sub hl [3, 4, 5, 6, 7, 2, 1, 0] rfl)
        · have g33 : ¬ (((c31 : Nat) : Int) = 0) := fun q => h33 (Int32.toInt_inj.mp (by rw [nI_toInt (n := c31) (by omega)]; exact q))
          refine lv_iload hx hb d_Md_fits_74 (lv_at hl 1 rfl) ?_
          refine lv_bipush (v := 42) hx hb d_Md_fits_76 (by decide) ?_
          refine lv_icmp_ne hx hb d_Md_fits_78 rfl (fun h35 => ?_) (fun h35 => ?_)
          · have g35 : ¬ (((c30 : Nat) : Int) = 42) := fun q => h35 (Int32.toInt_inj.mp (by rw [nI_toInt (n := c30) (by omega)]; exact q))
            refine lv_iconst (v := 0) hx hb d_Md_fits_85 (by decide) ?_
            refine ux_zast hx hb hK hi hP hS (by decide) rfl (vi (by decide) (by decide)) d_Md_fits_86 (fun H locs hP hS => ?_)
            rw [show vp_nar .boolean 0 = 0 from rfl] at hP
            rw [show (0 : Int32).toNatClampNeg = 0 from rfl] at hP
            have hI := IvM_wr (k := 25) (j := 0) (v := 0) hI (show (0 : Int) ≤ (0 : Int32).toInt from (by decide)) (show (0 : Int32).toInt ≤ (1 : Int) from (by first | decide | (show (0 : Int) ≤ _; omega))) (by unfold okW; omega)
            have hF := fr_wr (k := 25) (j := 0) (v := 0) hF (by unfold mFt; omega)
            generalize eM36 : ux_wr Mc41 25 0 0 = M36 at hP hI hF
            have tM36 : (M36 25 0).toInt = 0 := by rw [wr_at eM36]; rfl
            refine lv_iconst (v := 1) hx hb d_Md_fits_87 (by decide) ?_
            refine lv_istore hx hb d_Md_fits_88 hl (by decide) rfl (fun ls hl => ?_)
            have hl : lv_has ls 9 [(7, .int 1), (6, .int (nI c31)), (5, .int (nI c30)), (0, .ref (ad 0)), (1, .int (nI w)), (2, .int (nI n)), (3, .int (nI k3)), (4, .int (nI k4))] := hl
            exact cut90 (21 - 1) (nI c30) (nI c31) 1 M36 _ _ ls rfl (show 1 ≤ 1 from by first | omega | assumption | exact Or.inl rfl | exact Or.inr rfl | rfl | decide) (show 1 ≤ 21 from by first | omega | assumption | exact Or.inl rfl | exact Or.inr rfl | rfl | decide) (show k4 < k3 from by first | omega | assumption | exact Or.inl rfl | exact Or.inr rfl | rfl | decide) hP hI hF hS (lv_sub hl [3, 4, 5, 6, 7, 2, 1, 0] rfl)
          · have g35 : ((c30 : Nat) : Int) = 42 := by have q := congrArg Int32.toInt h35; rw [nI_toInt (n := c30) (by omega)] at q; exact q
            refine lv_iconst (v := 1) hx hb d_Md_fits_81 (by decide) ?_
            refine lv_goto hx hb d_Md_fits_82 rfl ?_
            refine ux_zast hx hb hK hi hP hS (by decide) rfl (vi (by decide) (by decide)) d_Md_fits_86 (fun H locs hP hS => ?_)
            rw [show vp_nar .boolean 1 = 1 from rfl] at hP
            rw [show (0 : Int32).toNatClampNeg = 0 from rfl] at hP
            have hI := IvM_wr (k := 25) (j := 0) (v := 1) hI (show (0 : Int) ≤ (1 : Int32).toInt from (by decide)) (show (1 : Int32).toInt ≤ (1 : Int) from (by first | decide | (show (1 : Int) ≤ _; omega))) (by unfold okW; omega)
            have hF := fr_wr (k := 25) (j := 0) (v := 1) hF (by unfold mFt; omega)
            generalize eM37 : ux_wr Mc41 25 0 1 = M37 at hP hI hF
            have tM37 : (M37 25 0).toInt = 1 := by rw [wr_at eM37]; rfl
            refine lv_iconst (v := 1) hx hb d_Md_fits_87 (by decide) ?_
            refine lv_istore hx hb d_Md_fits_88 hl (by decide) rfl (fun ls hl => ?_)
            have hl : lv_has ls 9 [(7, .int 1), (6, .int (nI c31)), (5, .int (nI c30)), (0, .ref (ad 0)), (1, .int (nI w)), (2, .int (nI n)), (3, .int (nI k3)), (4, .int (nI k4))] := hl
            exact cut90 (21 - 1) (nI c30) (nI c31) 1 M37 _ _ ls rfl (show 1 ≤ 1 from by first | omega | assumption | exact Or.inl rfl | exact Or.inr rfl | rfl | decide) (show 1 ≤ 21 from by first | omega | assumption | exact Or.inl rfl | exact Or.inr rfl | rfl | decide) (show k4 < k3 from by first | omega | assumption | exact Or.inl rfl | exact Or.inr rfl | rfl | decide) hP hI hF hS (lv_sub hl [3, 4, 5, 6, 7, 2, 1, 0] rfl)
  have cut9 : ∀ (nn : Nat) (k3 k4 : Nat) (Mc9 : ux_M) (H : Heap) (locs : List Loc) (ls : Array Slot), 21 - k4 = nn → (k4 ≤ 21) → (k3 ≤ 200) → ((k3 : Int) ≤ (M 19 (8 * L + w)).toInt) → va_P D classes (ux_w shM KM ad cA Mc9) H → IvM A TB Mc9 → (∀ a b, ¬ mFt a b → Mc9 a b = M a b) → va_S (ux_A KM ad) s.heap H locs → lv_has ls 9 [(0, .ref (ad 0)), (1, .int (nI w)), (2, .int (nI n)), (3, .int (nI k3)), (4, .int (nI k4))] → W p l e (headSpec w_Md_fits ({ frames := 2, cells := 0, slots := 0, locals := 44 })).room s m (([.ref (ad 0), .int (nI w), .int (nI n)] : List Value).toArray) below meth c H locs 0 0 (MQ below (va_Qi (fun r M1 => IvM A TB M1 ∧ (∀ a b, ¬ mFt a b → M1 a b = M a b) ∧ (r = 0 ∨ r = 1)) (ux_E D shM KM ad cA) (ux_A KM ad)) (([.ref (ad 0), .int (nI w), .int (nI n)] : List Value).toArray) s 0 0 (ux_A KM ad)) (F0 m 9 ls []) := by
    intro nn
    induction nn using Nat.strongRecOn with
    | ind nn ih9 =>
      intro k3 k4 Mc9 H locs ls hn c9_0 c9_1 c9_2 hP hI hF hS hl
      refine lv_iload hx hb d_Md_fits_9 (lv_at hl 4 rfl) ?_
      refine lv_iload_n hx hb d_Md_fits_11 rfl (lv_at hl 2 rfl) ?_
      refine lv_icmp_gt hx hb d_Md_fits_12 rfl (fun h38 => ?_) (fun h38 => ?_)
      · have g38 : ((n : Nat) : Int) < ((k4 : Nat) : Int) := by have q := Int32.lt_iff_toInt_lt.mp h38; rw [nI_toInt (n := n) (by omega), nI_toInt (n := k4) (by omega)] at q; exact q
        refine lv_iconst (v := 0) hx hb d_Md_fits_38 (by decide) ?_
        refine lv_istore hx hb d_Md_fits_39 hl (by decide) rfl (fun ls hl => ?_)
        have hl : lv_has ls 9 [(4, .int 0), (0, .ref (ad 0)), (1, .int (nI w)), (2, .int (nI n)), (3, .int (nI k3))] := hl
        exact cut41 (k3 - 0) k3 0 Mc9 _ _ ls rfl (show 0 ≤ 200 from by first | omega | assumption | exact Or.inl rfl | exact Or.inr rfl | rfl | decide) (show k3 ≤ 200 from by first | omega | assumption | exact Or.inl rfl | exact Or.inr rfl | rfl | decide) (show (k3 : Int) ≤ (M 19 (8 * L + w)).toInt from by first | omega | assumption | exact Or.inl rfl | exact Or.inr rfl | rfl | decide) hP hI hF hS (lv_sub hl [1, 2, 3, 4, 0] rfl)
      · have g38 : ¬ (((n : Nat) : Int) < ((k4 : Nat) : Int)) := fun q => h38 (Int32.lt_iff_toInt_lt.mpr (by rw [nI_toInt (n := n) (by omega), nI_toInt (n := k4) (by omega)]; exact q))
        refine lv_aload_n hx hb d_Md_fits_15 rfl (lv_at hl 0 rfl) ?_
        refine ux_get (C := R_Md) (T := F_Md) (N := 50) hx hb hT in_Md hown hK hP (by decide) rfl rfl 37 (by decide) (hT _ fl_Md_88) rfl d_Md_fits_16 ?_
        refine lv_iload hx hb d_Md_fits_19 (lv_at hl 4 rfl) ?_
        refine lv_iload hx hb d_Md_fits_21 (lv_at hl 4 rfl) ?_
        refine lv_if_ne hx hb d_Md_fits_23 rfl (fun h39 => ?_) (fun h39 => ?_)
        · have g39 : ¬ (((k4 : Nat) : Int) = 0) := fun q => h39 (Int32.toInt_inj.mp (by rw [nI_toInt (n := k4) (by omega)]; exact q))
          refine lv_iconst (v := 0) hx hb d_Md_fits_30 (by decide) ?_
          refine ux_zast hx hb hK hi hP hS (by decide) rfl (vp_in_nI (show k4 < 21 by omega) (by decide)) d_Md_fits_31 (fun H locs hP hS => ?_)
          rw [show vp_nar .boolean 0 = 0 from rfl] at hP
          rw [nI_clamp (n := k4) (by omega)] at hP
          have hI := IvM_wr (k := 25) (j := k4) (v := 0) hI (show (0 : Int) ≤ (0 : Int32).toInt from (by decide)) (show (0 : Int32).toInt ≤ (1 : Int) from (by first | decide | (show (0 : Int) ≤ _; omega))) (by unfold okW; omega)
          have hF := fr_wr (k := 25) (j := k4) (v := 0) hF (by unfold mFt; omega)
          generalize eM40 : ux_wr Mc9 25 k4 0 = M40 at hP hI hF
          have tM40 : (M40 25 k4).toInt = 0 := by rw [wr_at eM40]; rfl
          refine lv_iinc (k := 4) (v := nI (k4 + 1)) hx hb d_Md_fits_32 hl rfl (nI_add k4 1) (by decide) rfl (fun ls hl => ?_)
          have hl : lv_has ls 9 [(4, .int (nI (k4 + 1))), (0, .ref (ad 0)), (1, .int (nI w)), (2, .int (nI n)), (3, .int (nI k3))] := hl
          refine lv_goto hx hb d_Md_fits_35 rfl ?_
          exact ih9 (21 - (k4 + 1)) (by omega) k3 (k4 + 1) M40 _ _ ls rfl (show (k4 + 1) ≤ 21 from by first | omega | assumption | exact Or.inl rfl | exact Or.inr rfl | rfl | decide) (show k3 ≤ 200 from by first | omega | assumption | exact Or.inl rfl | exact Or.inr rfl | rfl | decide) (show (k3 : Int) ≤ (M 19 (8 * L + w)).toInt from by first | omega | assumption | exact Or.inl rfl | exact Or.inr rfl | rfl | decide) hP hI hF hS (lv_sub hl [1, 2, 3, 4, 0] rfl)
        · have g39 : ((k4 : Nat) : Int) = 0 := by have q := congrArg Int32.toInt h39; rw [nI_toInt (n := k4) (by omega)] at q; exact q
          refine lv_iconst (v := 1) hx hb d_Md_fits_26 (by decide) ?_
          refine lv_goto hx hb d_Md_fits_27 rfl ?_
          refine ux_zast hx hb hK hi hP hS (by decide) rfl (vp_in_nI (show k4 < 21 by omega) (by decide)) d_Md_fits_31 (fun H locs hP hS => ?_)
          rw [show vp_nar .boolean 1 = 1 from rfl] at hP
          rw [nI_clamp (n := k4) (by omega)] at hP
          have hI := IvM_wr (k := 25) (j := k4) (v := 1) hI (show (0 : Int) ≤ (1 : Int32).toInt from (by decide)) (show (1 : Int32).toInt ≤ (1 : Int) from (by first | decide | (show (1 : Int) ≤ _; omega))) (by unfold okW; omega)
          have hF := fr_wr (k := 25) (j := k4) (v := 1) hF (by unfold mFt; omega)
          generalize eM41 : ux_wr Mc9 25 k4 1 = M41 at hP hI hF
          have tM41 : (M41 25 k4).toInt = 1 := by rw [wr_at eM41]; rfl
          refine lv_iinc (k := 4) (v := nI (k4 + 1)) hx hb d_Md_fits_32 hl rfl (nI_add k4 1) (by decide) rfl (fun ls hl => ?_)
          have hl : lv_has ls 9 [(4, .int (nI (k4 + 1))), (0, .ref (ad 0)), (1, .int (nI w)), (2, .int (nI n)), (3, .int (nI k3))] := hl
          refine lv_goto hx hb d_Md_fits_35 rfl ?_
          exact ih9 (21 - (k4 + 1)) (by omega) k3 (k4 + 1) M41 _ _ ls rfl (show (k4 + 1) ≤ 21 from by first | omega | assumption | exact Or.inl rfl | exact Or.inr rfl | rfl | decide) (show k3 ≤ 200 from by first | omega | assumption | exact Or.inl rfl | exact Or.inr rfl | rfl | decide) (show (k3 : Int) ≤ (M 19 (8 * L + w)).toInt from by first | omega | assumption | exact Or.inl rfl | exact Or.inr rfl | rfl | decide) hP hI hF hS (lv_sub hl [1, 2, 3, 4, 0] rfl)
  refine lv_aload_n hx hb d_Md_fits_0 rfl (lv_at hl 0 rfl) ?_
  refine lv_iload_n hx hb d_Md_fits_1 rfl (lv_at hl 1 rfl) ?_
  refine ux_calli (va_runV ⟨hx, hb, hml, hown, hts⟩ (s_Md_sizeOf l D ad cA A TB hA hB  M hI L hL (hlv) w (by omega)) (cwV 1 hts (tb_goodV ml_Md_159 im_Md_sizeOf se_Md_sizeOf ii_Md kt_Md_sizeOf) rfl rfl rfl (by decide +kernel) ⟨Nat.le_of_ble_eq_true rfl, Nat.le_of_ble_eq_true rfl⟩) (ux_preV (by decide) rfl rfl hP hK hi hN) rfl rfl hl.1 rfl (lv_room (Nat.le_of_ble_eq_true rfl)) d_Md_fits_2 ⟨Nat.zero_le _, Nat.zero_le _⟩) hS (fun r42 M43 H locs q44 hP hS => ?_)
  obtain ⟨hI, fq44, q44p⟩ := q44
  rw [tN_eq fq44] at hP hI
  obtain ⟨c45, hc45, ec45⟩ := nat_of (x := M 19 (8 * L + w)) (n := 200) (hI.1 _ _).1 (hI.1 _ _).2
  rw [ec45] at q44p
  subst q44p
  have tc45 : (M 19 (8 * L + w)).toInt = (c45 : Int) := by rw [ec45]; exact nI_toInt (by omega)
  refine lv_istore_n hx hb d_Md_fits_5 rfl hl (by decide) rfl (fun ls hl => ?_)
  have hl : lv_has ls 9 [(3, .int (nI c45)), (0, .ref (ad 0)), (1, .int (nI w)), (2, .int (nI n))] := hl
  refine lv_iconst (v := 0) hx hb d_Md_fits_6 (by decide) ?_
  refine lv_istore hx hb d_Md_fits_7 hl (by decide) rfl (fun ls hl => ?_)
  have hl : lv_has ls 9 [(4, .int 0), (3, .int (nI c45)), (0, .ref (ad 0)), (1, .int (nI w)), (2, .int (nI n))] := hl
  exact cut9 (21 - 0) c45 0 M _ _ ls rfl (show 0 ≤ 21 from by first | omega | assumption | exact Or.inl rfl | exact Or.inr rfl | rfl | decide) (show c45 ≤ 200 from by first | omega | assumption | exact Or.inl rfl | exact Or.inr rfl | rfl | decide) (show (c45 : Int) ≤ (M 19 (8 * L + w)).toInt from by first | omega | assumption | exact Or.inl rfl | exact Or.inr rfl | rfl | decide) hP hI hF hS (lv_sub hl [2, 3, 4, 1, 0] rfl)

set_option maxHeartbeats 1600000 in
set_option maxRecDepth 100000 in
theorem s_Md_tick (l : Launch) (D : va_G) (ad : Nat → Nat) (cA : Nat → ClassId) (A TB : Nat) (hA : A ≤ 100000000) (hB : TB ≤ 2000000000) (M : ux_M) (hI : IvM A TB M)  (hsl : (M 0 48).toInt + 40 * ((M 0 27).toInt - (M 0 28).toInt) + 1 ≤ (TB : Int)) : Met l y_Md_tick w_Md_tick ({ frames := 1, cells := 0, slots := 0, locals := 21 }) (va_Pc [.ref (ad 0)] (ux_B D shM KM ad cA M)) (va_Qv (fun M1 => IvM A TB M1 ∧ (∀ a b, ¬ mTi a b → M1 a b = M a b) ∧ ((M1 0 48).toInt ≤ (M 0 48).toInt + 1)) (ux_E D shM KM ad cA) (ux_A KM ad)) 0 0 (ux_A KM ad) := by
  refine Met.ofW (cc := b_Md_tick) (maxL := 3) (ret := none) (by decide) rfl ?_
  intro p e s m args below meth c s₁ B hml hv
  obtain ⟨rfl, hP, hK, hi, hN⟩ := hv
  have hx := B.exec
  have hb := B.bytes
  have hr := B.returns
  have hts := atoms_spec (ws := w_Md_tick) B.pre
  have hown : s.vm.findClass R_Md = some m.cls := findClass_of_methodNamed B.named
  have hlocks := B.notSynchronized
  have hT : ∀ w ∈ tb, w.before _ s = true := fun w h => hts w (List.mem_cons_of_mem _ h)
  have hS : va_S (ux_A KM ad) s.heap s.heap [] := va_S.rf
  have hl := lv_entry ([.ref (ad 0)]) (n := 3) (Nat.le_of_ble_eq_true rfl)
  rw [lg_entry_eq]
  generalize (lg_sl ([.ref (ad 0)]) ++ List.replicate (3 - (lg_sl ([.ref (ad 0)])).length) Slot.unset).toArray = ls at hl ⊢
  have hl : lv_has ls 3 [(0, .ref (ad 0))] := hl
  have hF : ∀ a b, ¬ mTi a b → M a b = M a b := fun _ _ _ => rfl
  have cut71 : ∀ (nn : Nat) (i_1 : Int32) (k2 : Nat) (Mc71 : ux_M) (H : Heap) (locs : List Loc) (ls : Array Slot), 20 - k2 = nn → (k2 ≤ 20) → ((Mc71 0 48).toInt = (M 0 48).toInt) → va_P D classes (ux_w shM KM ad cA Mc71) H → IvM A TB Mc71 → (∀ a b, ¬ mTi a b → Mc71 a b = M a b) → va_S (ux_A KM ad) s.heap H locs → lv_has ls 3 [(0, .ref (ad 0)), (1, .int i_1), (2, .int (nI k2))] → W p l e (headSpec w_Md_tick ({ frames := 1, cells := 0, slots := 0, locals := 21 })).room s m (([.ref (ad 0)] : List Value).toArray) below meth c H locs 0 0 (MQ below (va_Qv (fun M1 => IvM A TB M1 ∧ (∀ a b, ¬ mTi a b → M1 a b = M a b) ∧ ((M1 0 48).toInt ≤ (M 0 48).toInt + 1)) (ux_E D shM KM ad cA) (ux_A KM ad)) (([.ref (ad 0)] : List Value).toArray) s 0 0 (ux_A KM ad)) (F0 m 71 ls []) := by
    intro nn
    induction nn using Nat.strongRecOn with
    | ind nn ih71 =>
      intro i_1 k2 Mc71 H locs ls hn c71_0 c71_1 hP hI hF hS hl
      refine lv_iload_n hx hb d_Md_tick_71 rfl (lv_at hl 2 rfl) ?_
      refine lv_aload_n hx hb d_Md_tick_72 rfl (lv_at hl 0 rfl) ?_
      refine ux_get (C := R_Md) (T := F_Md) (N := 50) hx hb hT in_Md hown hK hP (by decide) rfl rfl 39 (by decide) (hT _ fl_Md_123) rfl d_Md_tick_73 ?_
      refine lv_topi (fun z2 hz2 => ?_)
      obtain ⟨c1, hc1, ec1⟩ := nat_of (x := Mc71 0 39) (n := 20) (hI.1 0 39).1 (hI.1 0 39).2
      rw [ec1] at hz2
      rw [hz2]
      have tc1 : (Mc71 0 39).toInt = (c1 : Int) := by rw [ec1]; exact nI_toInt (by omega)
      refine lv_icmp_ge hx hb d_Md_tick_76 rfl (fun h3 => ?_) (fun h3 => ?_)
      · have g3 : ((c1 : Nat) : Int) ≤ ((k2 : Nat) : Int) := by have q := Int32.le_iff_toInt_le.mp h3; rw [nI_toInt (n := c1) (by omega), nI_toInt (n := k2) (by omega)] at q; exact q
        exact W.vret hx hb hr (fun t ht hW => ⟨⟨Mc71, rfl, ⟨hI, hF, (by omega)⟩, by unfold ux_E; rw [ht]; exact hP⟩, hS.F ht⟩) hS.2.2 d_Md_tick_215
      · have g3 : ¬ (((c1 : Nat) : Int) ≤ ((k2 : Nat) : Int)) := fun q => h3 (Int32.le_iff_toInt_le.mpr (by rw [nI_toInt (n := c1) (by omega), nI_toInt (n := k2) (by omega)]; exact q))
        refine lv_aload_n hx hb d_Md_tick_79 rfl (lv_at hl 0 rfl) ?_
        refine ux_get (C := R_Md) (T := F_Md) (N := 50) hx hb hT in_Md hown hK hP (by decide) rfl rfl 40 (by decide) (hT _ fl_Md_91) rfl d_Md_tick_80 ?_
        refine lv_iload_n hx hb d_Md_tick_83 rfl (lv_at hl 2 rfl) ?_
        refine ux_iald hx hb hK hP (by decide) rfl (vp_in_nI (show k2 < 20 by omega) (by decide)) d_Md_tick_84 ?_
        rw [nI_clamp (n := k2) (by omega)]
        refine lv_aload_n hx hb d_Md_tick_85 rfl (lv_at hl 0 rfl) ?_
        refine ux_get (C := R_Md) (T := F_Md) (N := 50) hx hb hT in_Md hown hK hP (by decide) rfl rfl 38 (by decide) (hT _ fl_Md_126) rfl d_Md_tick_86 ?_
        refine lv_icmp_ne hx hb d_Md_tick_89 rfl (fun h4 => ?_) (fun h4 => ?_)
        · have g4 : ¬ ((Mc71 26 k2).toInt = (Mc71 0 38).toInt) := fun q => h4 (Int32.toInt_inj.mp q)
          refine lv_iinc (k := 2) (v := nI (k2 + 1)) hx hb d_Md_tick_209 hl rfl (nI_add k2 1) (by decide) rfl (fun ls hl => ?_)
          have hl : lv_has ls 3 [(2, .int (nI (k2 + 1))), (0, .ref (ad 0)), (1, .int i_1)] := hl
          refine lv_goto hx hb d_Md_tick_212 rfl ?_
          exact ih71 (20 - (k2 + 1)) (by omega) i_1 (k2 + 1) Mc71 _ _ ls rfl (show (k2 + 1) ≤ 20 from by first | omega | assumption | exact Or.inl rfl | exact Or.inr rfl | rfl | decide) (show (Mc71 0 48).toInt = (M 0 48).toInt from by first | omega | assumption | exact Or.inl rfl | exact Or.inr rfl | rfl | decide) hP hI hF hS (lv_sub hl [1, 2, 0] rfl)
        · have g4 : (Mc71 26 k2).toInt = (Mc71 0 38).toInt := congrArg Int32.toInt h4
          refine lv_aload_n hx hb d_Md_tick_92 rfl (lv_at hl 0 rfl) ?_
          refine ux_get (C := R_Md) (T := F_Md) (N := 50) hx hb hT in_Md hown hK hP (by decide) rfl rfl 41 (by decide) (hT _ fl_Md_94) rfl d_Md_tick_93 ?_
          refine lv_iload_n hx hb d_Md_tick_96 rfl (lv_at hl 2 rfl) ?_
          refine ux_iald hx hb hK hP (by decide) rfl (vp_in_nI (show k2 < 20 by omega) (by decide)) d_Md_tick_97 ?_
          rw [nI_clamp (n := k2) (by omega)]
          refine lv_iload_n hx hb d_Md_tick_98 rfl (lv_at hl 1 rfl) ?_
          refine lv_icmp_ne hx hb d_Md_tick_99 rfl (fun h5 => ?_) (fun h5 => ?_)
          · have g5 : ¬ ((Mc71 27 k2).toInt = i_1.toInt) := fun q => h5 (Int32.toInt_inj.mp q)
            refine lv_iinc (k := 2) (v := nI (k2 + 1)) hx hb d_Md_tick_209 hl rfl (nI_add k2 1) (by decide) rfl (fun ls hl => ?_)
            have hl : lv_has ls 3 [(2, .int (nI (k2 + 1))), (0, .ref (ad 0)), (1, .int i_1)] := hl
            refine lv_goto hx hb d_Md_tick_212 rfl ?_
            exact ih71 (20 - (k2 + 1)) (by omega) i_1 (k2 + 1) Mc71 _ _ ls rfl (show (k2 + 1) ≤ 20 from by first | omega | assumption | exact Or.inl rfl | exact Or.inr rfl | rfl | decide) (show (Mc71 0 48).toInt = (M 0 48).toInt from by first | omega | assumption | exact Or.inl rfl | exact Or.inr rfl | rfl | decide) hP hI hF hS (lv_sub hl [1, 2, 0] rfl)
          · have g5 : (Mc71 27 k2).toInt = i_1.toInt := congrArg Int32.toInt h5
            refine lv_aload_n hx hb d_Md_tick_102 rfl (lv_at hl 0 rfl) ?_
            refine ux_get (C := R_Md) (T := F_Md) (N := 50) hx hb hT in_Md hown hK hP (by decide) rfl rfl 42 (by decide) (hT _ fl_Md_97) rfl d_Md_tick_103 ?_
            refine lv_iload_n hx hb d_Md_tick_106 rfl (lv_at hl 2 rfl) ?_
            refine ux_iald hx hb hK hP (by decide) rfl (vp_in_nI (show k2 < 20 by omega) (by decide)) d_Md_tick_107 ?_
            rw [nI_clamp (n := k2) (by omega)]
            refine lv_if_le hx hb d_Md_tick_108 rfl (fun h6 => ?_) (fun h6 => ?_)
            · have g6 : (Mc71 28 k2).toInt ≤ 0 := Int32.le_iff_toInt_le.mp h6
              have w6 := ti_lo (Mc71 28 k2)
              refine lv_aload_n hx hb d_Md_tick_198 rfl (lv_at hl 0 rfl) ?_
              refine lv_aload_n hx hb d_Md_tick_199 rfl (lv_at hl 0 rfl) ?_
              refine ux_get (C := R_Md) (T := F_Md) (N := 50) hx hb hT in_Md hown hK hP (by decide) rfl rfl 43 (by decide) (hT _ fl_Md_100) rfl d_Md_tick_200 ?_
              refine lv_iload_n hx hb d_Md_tick_203 rfl (lv_at hl 2 rfl) ?_
              refine ux_iald hx hb hK hP (by decide) rfl (vp_in_nI (show k2 < 20 by omega) (by decide)) d_Md_tick_204 ?_
              rw [nI_clamp (n := k2) (by omega)]
              refine ux_put (C := R_Md) (T := F_Md) (N := 50) hx hb hT in_Md t_Md t_Md_ok n_Md hown hK hi hP hS (by decide) rfl rfl 38 (by decide) (hT _ fl_Md_126) rfl (rfl) (rfl) rfl d_Md_tick_205 (fun H locs hP hS => ?_)
              have hI := IvM_free (k := 0) (j := 38) (v := Mc71 29 k2) hI rfl rfl (by unfold okW; omega)
              have hF := fr_wr (k := 0) (j := 38) (v := Mc71 29 k2) hF (by unfold mTi; omega)
              generalize eM7 : ux_wr Mc71 0 38 (Mc71 29 k2) = M7 at hP hI hF
              exact W.vret hx hb hr (fun t ht hW => ⟨⟨M7, rfl, ⟨hI, hF, (by have h1 := congrArg Int32.toInt (show M7 0 48 = Mc71 0 48 from wr_off eM7 (by omega)); omega)⟩, by unfold ux_E; rw [ht]; exact hP⟩, hS.F ht⟩) hS.2.2 d_Md_tick_208
            · have g6 : ¬ ((Mc71 28 k2).toInt ≤ 0) := fun q => h6 (Int32.le_iff_toInt_le.mpr q)
              have u6 := ti_hi (Mc71 28 k2)
              refine lv_aload_n hx hb d_Md_tick_111 rfl (lv_at hl 0 rfl) ?_
              refine lv_aload_n hx hb d_Md_tick_112 rfl (lv_at hl 0 rfl) ?_
              refine ux_get (C := R_Md) (T := F_Md) (N := 50) hx hb hT in_Md hown hK hP (by decide) rfl rfl 42 (by decide) (hT _ fl_Md_97) rfl d_Md_tick_113 ?_
              refine lv_iload_n hx hb d_Md_tick_116 rfl (lv_at hl 2 rfl) ?_
              refine ux_iald hx hb hK hP (by decide) rfl (vp_in_nI (show k2 < 20 by omega) (by decide)) d_Md_tick_117 ?_
              rw [nI_clamp (n := k2) (by omega)]
              refine lv_sipush (v := 256) hx hb d_Md_tick_118 (by decide) ?_
              refine lv_iadd hx hb d_Md_tick_121 ?_
              refine lv_topi (fun x8 ex8 => ?_)
              try have fx8 : x8.toInt = (Mc71 28 k2).toInt + 256 := by rw [ex8, ti_add (by (try rw [show (256 : Int32).toInt = 256 from rfl]); omega) (by (try rw [show (256 : Int32).toInt = 256 from rfl]); omega)]; (try rw [show (256 : Int32).toInt = 256 from rfl]); first | done | rfl | omega
              have k9 := congrArg Int32.toInt (show Mc71 0 (27) = M 0 (27) from hF _ _ (by unfold mTi; omega))
              have k10 := congrArg Int32.toInt (show Mc71 0 (28) = M 0 (28) from hF _ _ (by unfold mTi; omega))
              refine ux_callv (va_runV ⟨hx, hb, hml, hown, hts⟩ (s_Md_note l D ad cA A TB hA hB  Mc71 hI x8 (by omega)) (cwV 1 hts (tb_goodV ml_Md_373 im_Md_note se_Md_note ii_Md kt_Md_note) rfl rfl rfl (by decide +kernel) ⟨Nat.le_of_ble_eq_true rfl, Nat.le_of_ble_eq_true rfl⟩) (ux_preV (by decide) rfl rfl hP hK hi hN) rfl rfl hl.1 rfl (lv_room (Nat.le_of_ble_eq_true rfl)) d_Md_tick_122 ⟨Nat.zero_le _, Nat.zero_le _⟩) hS (fun M12 H locs q13 hP hS => ?_)
              obtain ⟨hI, fq13, q13p⟩ := q13
              have hF := fr_call hF fq13 (fun a b q => by unfold mNo at q; unfold mTi; omega)
              refine lv_aload_n hx hb d_Md_tick_125 rfl (lv_at hl 0 rfl) ?_
              refine ux_get (C := R_Md) (T := F_Md) (N := 50) hx hb hT in_Md hown hK hP (by decide) rfl rfl 47 (by decide) (hT _ fl_Md_106) rfl d_Md_tick_126 ?_
              refine lv_aload_n hx hb d_Md_tick_129 rfl (lv_at hl 0 rfl) ?_
              refine ux_get (C := R_Md) (T := F_Md) (N := 50) hx hb hT in_Md hown hK hP (by decide) rfl rfl 46 (by decide) (hT _ fl_Md_132) rfl d_Md_tick_130 ?_
              refine lv_topi (fun z15 hz15 => ?_)
              obtain ⟨c14, hc14, ec14⟩ := nat_of (x := M12 0 46) (n := 20) (hI.1 0 46).1 (hI.1 0 46).2
              rw [ec14] at hz15
              rw [hz15]
              have tc14 : (M12 0 46).toInt = (c14 : Int) := by rw [ec14]; exact nI_toInt (by omega)
              refine lv_bipush (v := 20) hx hb d_Md_tick_133 (by decide) ?_
              refine lv_icmp_ge hx hb d_Md_tick_135 rfl (fun h16 => ?_) (fun h16 => ?_)
              · have g16 : 20 ≤ ((c14 : Nat) : Int) := by have q := Int32.le_iff_toInt_le.mp h16; rw [nI_toInt (n := c14) (by omega)] at q; exact q
                refine lv_bipush (v := 19) hx hb d_Md_tick_145 (by decide) ?_
                refine lv_aload_n hx hb d_Md_tick_147 rfl (lv_at hl 0 rfl) ?_
                refine ux_get (C := R_Md) (T := F_Md) (N := 50) hx hb hT in_Md hown hK hP (by decide) rfl rfl 46 (by decide) (hT _ fl_Md_132) rfl d_Md_tick_148 ?_
                refine lv_topi (fun z17 hz17 => ?_)
                rw [show M12 0 46 = nI c14 from ec14] at hz17
                rw [hz17]
                refine lv_bipush (v := 20) hx hb d_Md_tick_151 (by decide) ?_
                refine lv_icmp_ge hx hb d_Md_tick_153 rfl (fun h18 => ?_) (fun h18 => ?_)
                · have g18 : 20 ≤ ((c14 : Nat) : Int) := by have q := Int32.le_iff_toInt_le.mp h18; rw [nI_toInt (n := c14) (by omega)] at q; exact q
                  refine lv_aload_n hx hb d_Md_tick_166 rfl (lv_at hl 0 rfl) ?_
                  refine ux_get (C := R_Md) (T := F_Md) (N := 50) hx hb hT in_Md hown hK hP (by decide) rfl rfl 47 (by decide) (hT _ fl_Md_106) rfl d_Md_tick_167 ?_
                  refine lv_bipush (v := 19) hx hb d_Md_tick_170 (by decide) ?_
                  refine ux_cald hx hb hK hP (by decide) rfl (vi (by decide) (by decide)) d_Md_tick_172 ?_
                  rw [show (19 : Int32).toNatClampNeg = 19 from rfl]
                  refine lv_topi (fun z20 hz20 => ?_)
                  obtain ⟨c19, hc19, ec19⟩ := nat_of (x := M12 31 19) (n := 65535) (hI.1 31 19).1 (hI.1 31 19).2
                  rw [ec19] at hz20
                  rw [hz20]
                  have tc19 : (M12 31 19).toInt = (c19 : Int) := by rw [ec19]; exact nI_toInt (by omega)
                  refine ux_cast hx hb hK hi hP hS (by decide) rfl (vi (by decide) (by decide)) d_Md_tick_173 (fun H locs hP hS => ?_)
                  have b21 := nar_c (nI c19)
                  rw [show (19 : Int32).toNatClampNeg = 19 from rfl] at hP
                  have hI := IvM_wr (k := 31) (j := 19) (v := vp_nar .char (nI c19)) hI (show (0 : Int) ≤ (vp_nar .char (nI c19) : Int32).toInt from (by omega)) (show (vp_nar .char (nI c19) : Int32).toInt ≤ (65535 : Int) from (by omega)) (by unfold okW; omega)
                  have hF := fr_wr (k := 31) (j := 19) (v := vp_nar .char (nI c19)) hF (by unfold mTi; omega)
                  generalize eM22 : ux_wr M12 31 19 (vp_nar .char (nI c19)) = M22 at hP hI hF
                  have tM22 : (M22 31 19).toInt = (vp_nar .char (nI c19)).toInt := by rw [wr_at eM22]
                  refine lv_aload_n hx hb d_Md_tick_174 rfl (lv_at hl 0 rfl) ?_
                  refine lv_aload_n hx hb d_Md_tick_175 rfl (lv_at hl 0 rfl) ?_
                  refine ux_get (C := R_Md) (T := F_Md) (N := 50) hx hb hT in_Md hown hK hP (by decide) rfl rfl 46 (by decide) (hT _ fl_Md_132) rfl d_Md_tick_176 ?_
                  refine lv_topi (fun z23 hz23 => ?_)
                  rw [show M22 0 46 = nI c14 from (wr_off eM22 (by omega)).trans (ec14)] at hz23
                  rw [hz23]
                  refine lv_bipush (v := 20) hx hb d_Md_tick_179 (by decide) ?_
                  refine lv_icmp_ge hx hb d_Md_tick_181 rfl (fun h24 => ?_) (fun h24 => ?_)
                  · have g24 : 20 ≤ ((c14 : Nat) : Int) := by have q := Int32.le_iff_toInt_le.mp h24; rw [nI_toInt (n := c14) (by omega)] at q; exact q
                    refine lv_bipush (v := 20) hx hb d_Md_tick_193 (by decide) ?_
                    refine ux_put (C := R_Md) (T := F_Md) (N := 50) hx hb hT in_Md t_Md t_Md_ok n_Md hown hK hi hP hS (by decide) rfl rfl 46 (by decide) (hT _ fl_Md_132) rfl (rfl) (rfl) rfl d_Md_tick_195 (fun H locs hP hS => ?_)
                    have hI := IvM_wr (k := 0) (j := 46) (v := 20) hI (show (0 : Int) ≤ (20 : Int32).toInt from (by decide)) (show (20 : Int32).toInt ≤ (20 : Int) from (by first | decide | (show (20 : Int) ≤ _; omega))) (by unfold okW; omega)
                    have hF := fr_wr (k := 0) (j := 46) (v := 20) hF (by unfold mTi; omega)
                    generalize eM25 : ux_wr M22 0 46 20 = M25 at hP hI hF
                    have tM25 : (M25 0 46).toInt = 20 := by rw [wr_at eM25]; rfl
                    refine lv_aload_n hx hb d_Md_tick_198 rfl (lv_at hl 0 rfl) ?_
                    refine lv_aload_n hx hb d_Md_tick_199 rfl (lv_at hl 0 rfl) ?_
                    refine ux_get (C := R_Md) (T := F_Md) (N := 50) hx hb hT in_Md hown hK hP (by decide) rfl rfl 43 (by decide) (hT _ fl_Md_100) rfl d_Md_tick_200 ?_
                    refine lv_iload_n hx hb d_Md_tick_203 rfl (lv_at hl 2 rfl) ?_
                    refine ux_iald hx hb hK hP (by decide) rfl (vp_in_nI (show k2 < 20 by omega) (by decide)) d_Md_tick_204 ?_
                    rw [nI_clamp (n := k2) (by omega)]
                    refine ux_put (C := R_Md) (T := F_Md) (N := 50) hx hb hT in_Md t_Md t_Md_ok n_Md hown hK hi hP hS (by decide) rfl rfl 38 (by decide) (hT _ fl_Md_126) rfl (rfl) (rfl) rfl d_Md_tick_205 (fun H locs hP hS => ?_)
                    have hI := IvM_free (k := 0) (j := 38) (v := M25 29 k2) hI rfl rfl (by unfold okW; omega)
                    have hF := fr_wr (k := 0) (j := 38) (v := M25 29 k2) hF (by unfold mTi; omega)
                    generalize eM26 : ux_wr M25 0 38 (M25 29 k2) = M26 at hP hI hF
                    exact W.vret hx hb hr (fun t ht hW => ⟨⟨M26, rfl, ⟨hI, hF, (by have h1 := congrArg Int32.toInt (show M26 0 48 = M12 0 48 from (wr_off eM26 (by omega)).trans ((wr_off eM25 (by omega)).trans (wr_off eM22 (by omega)))); omega)⟩, by unfold ux_E; rw [ht]; exact hP⟩, hS.F ht⟩) hS.2.2 d_Md_tick_208
                  · have g24 : ¬ (20 ≤ ((c14 : Nat) : Int)) := fun q => h24 (Int32.le_iff_toInt_le.mpr (by rw [nI_toInt (n := c14) (by omega)]; exact q))
                    refine lv_aload_n hx hb d_Md_tick_184 rfl (lv_at hl 0 rfl) ?_
                    refine ux_get (C := R_Md) (T := F_Md) (N := 50) hx hb hT in_Md hown hK hP (by decide) rfl rfl 46 (by decide) (hT _ fl_Md_132) rfl d_Md_tick_185 ?_
                    refine lv_topi (fun z27 hz27 => ?_)
                    rw [show M22 0 46 = nI c14 from (wr_off eM22 (by omega)).trans (ec14)] at hz27
                    rw [hz27]
                    refine lv_iconst (v := 1) hx hb d_Md_tick_188 (by decide) ?_
                    refine lv_iadd hx hb d_Md_tick_189 ?_
                    refine lv_topi (fun z28 hz28 => ?_)
                    rw [show (nI c14) + (1 : Int32) = nI (c14 + 1) from nI_add c14 1] at hz28
                    rw [hz28]
                    refine lv_goto hx hb d_Md_tick_190 rfl ?_
                    refine ux_put (C := R_Md) (T := F_Md) (N := 50) hx hb hT in_Md t_Md t_Md_ok n_Md hown hK hi hP hS (by decide) rfl rfl 46 (by decide) (hT _ fl_Md_132) rfl (rfl) (rfl) rfl d_Md_tick_195 (fun H locs hP hS => ?_)
                    have hI := IvM_wr (k := 0) (j := 46) (v := nI (c14 + 1)) hI (show (0 : Int) ≤ (nI (c14 + 1) : Int32).toInt from (by rw [nI_toInt (n := c14 + 1) (by omega)]; omega)) (show (nI (c14 + 1) : Int32).toInt ≤ (20 : Int) from (by rw [nI_toInt (n := c14 + 1) (by omega)]; omega)) (by unfold okW; omega)
                    have hF := fr_wr (k := 0) (j := 46) (v := nI (c14 + 1)) hF (by unfold mTi; omega)
                    generalize eM29 : ux_wr M22 0 46 (nI (c14 + 1)) = M29 at hP hI hF
                    have tM29 : (M29 0 46).toInt = ((c14 + 1 : Nat) : Int) := by rw [wr_at eM29]; exact nI_toInt (by omega)
                    refine lv_aload_n hx hb d_Md_tick_198 rfl (lv_at hl 0 rfl) ?_
                    refine lv_aload_n hx hb d_Md_tick_199 rfl (lv_at hl 0 rfl) ?_
                    refine ux_get (C := R_Md) (T := F_Md) (N := 50) hx hb hT in_Md hown hK hP (by decide) rfl rfl 43 (by decide) (hT _ fl_Md_100) rfl d_Md_tick_200 ?_
                    refine lv_iload_n hx hb d_Md_tick_203 rfl (lv_at hl 2 rfl) ?_
                    refine ux_iald hx hb hK hP (by decide) rfl (vp_in_nI (show k2 < 20 by omega) (by decide)) d_Md_tick_204 ?_
                    rw [nI_clamp (n := k2) (by omega)]
                    refine ux_put (C := R_Md) (T := F_Md) (N := 50) hx hb hT in_Md t_Md t_Md_ok n_Md hown hK hi hP hS (by decide) rfl rfl 38 (by decide) (hT _ fl_Md_126) rfl (rfl) (rfl) rfl d_Md_tick_205 (fun H locs hP hS => ?_)
                    have hI := IvM_free (k := 0) (j := 38) (v := M29 29 k2) hI rfl rfl (by unfold okW; omega)
                    have hF := fr_wr (k := 0) (j := 38) (v := M29 29 k2) hF (by unfold mTi; omega)
                    generalize eM30 : ux_wr M29 0 38 (M29 29 k2) = M30 at hP hI hF
                    exact W.vret hx hb hr (fun t ht hW => ⟨⟨M30, rfl, ⟨hI, hF, (by have h1 := congrArg Int32.toInt (show M30 0 48 = M12 0 48 from (wr_off eM30 (by omega)).trans ((wr_off eM29 (by omega)).trans (wr_off eM22 (by omega)))); omega)⟩, by unfold ux_E; rw [ht]; exact hP⟩, hS.F ht⟩) hS.2.2 d_Md_tick_208
                · have g18 : ¬ (20 ≤ ((c14 : Nat) : Int)) := fun q => h18 (Int32.le_iff_toInt_le.mpr (by rw [nI_toInt (n := c14) (by omega)]; exact q))
                  refine lv_aload_n hx hb d_Md_tick_156 rfl (lv_at hl 0 rfl) ?_
                  refine ux_get (C := R_Md) (T := F_Md) (N := 50) hx hb hT in_Md hown hK hP (by decide) rfl rfl 42 (by decide) (hT _ fl_Md_97) rfl d_Md_tick_157 ?_
                  refine lv_iload_n hx hb d_Md_tick_160 rfl (lv_at hl 2 rfl) ?_
                  refine ux_iald hx hb hK hP (by decide) rfl (vp_in_nI (show k2 < 20 by omega) (by decide)) d_Md_tick_161 ?_
                  rw [nI_clamp (n := k2) (by omega)]
                  refine lv_topi (fun z31 hz31 => ?_)
                  rw [show M12 28 k2 = Mc71 28 k2 from fq13 _ _ (by unfold mNo; omega)] at hz31
                  rw [hz31]
                  refine lv_i2c hx hb d_Md_tick_162 rfl ?_
                  refine lv_topi (fun x32 ex32 => ?_)
                  have fx32 : 0 ≤ x32.toInt ∧ x32.toInt ≤ 65535 := by rw [ex32]; exact ti_i2c _
                  refine lv_goto hx hb d_Md_tick_163 rfl ?_
                  refine ux_cast hx hb hK hi hP hS (by decide) rfl (vi (by decide) (by decide)) d_Md_tick_173 (fun H locs hP hS => ?_)
                  have b33 := nar_c x32
                  rw [show (19 : Int32).toNatClampNeg = 19 from rfl] at hP
                  have hI := IvM_wr (k := 31) (j := 19) (v := vp_nar .char x32) hI (show (0 : Int) ≤ (vp_nar .char x32 : Int32).toInt from (by omega)) (show (vp_nar .char x32 : Int32).toInt ≤ (65535 : Int) from (by omega)) (by unfold okW; omega)
                  have hF := fr_wr (k := 31) (j := 19) (v := vp_nar .char x32) hF (by unfold mTi; omega)
                  generalize eM34 : ux_wr M12 31 19 (vp_nar .char x32) = M34 at hP hI hF
                  have tM34 : (M34 31 19).toInt = (vp_nar .char x32).toInt := by rw [wr_at eM34]
                  refine lv_aload_n hx hb d_Md_tick_174 rfl (lv_at hl 0 rfl) ?_
                  refine lv_aload_n hx hb d_Md_tick_175 rfl (lv_at hl 0 rfl) ?_
                  refine ux_get (C := R_Md) (T := F_Md) (N := 50) hx hb hT in_Md hown hK hP (by decide) rfl rfl 46 (by decide) (hT _ fl_Md_132) rfl d_Md_tick_176 ?_
                  refine lv_topi (fun z35 hz35 => ?_)
                  rw [show M34 0 46 = nI c14 from (wr_off eM34 (by omega)).trans (ec14)] at hz35
                  rw [hz35]
                  refine lv_bipush (v := 20) hx hb d_Md_tick_179 (by decide) ?_
                  refine lv_icmp_ge hx hb d_Md_tick_181 rfl (fun h36 => ?_) (fun h36 => ?_)
                  · have g36 : 20 ≤ ((c14 : Nat) : Int) := by have q := Int32.le_iff_toInt_le.mp h36; rw [nI_toInt (n := c14) (by omega)] at q; exact q
                    refine lv_bipush (v := 20) hx hb d_Md_tick_193 (by decide) ?_
                    refine ux_put (C := R_Md) (T := F_Md) (N := 50) hx hb hT in_Md t_Md t_Md_ok n_Md hown hK hi hP hS (by decide) rfl rfl 46 (by decide) (hT _ fl_Md_132) rfl (rfl) (rfl) rfl d_Md_tick_195 (fun H locs hP hS => ?_)
                    have hI := IvM_wr (k := 0) (j := 46) (v := 20) hI (show (0 : Int) ≤ (20 : Int32).toInt from (by decide)) (show (20 : Int32).toInt ≤ (20 : Int) from (by first | decide | (show (20 : Int) ≤ _; omega))) (by unfold okW; omega)
                    have hF := fr_wr (k := 0) (j := 46) (v := 20) hF (by unfold mTi; omega)
                    generalize eM37 : ux_wr M34 0 46 20 = M37 at hP hI hF
                    have tM37 : (M37 0 46).toInt = 20 := by rw [wr_at eM37]; rfl
                    refine lv_aload_n hx hb d_Md_tick_198 rfl (lv_at hl 0 rfl) ?_
                    refine lv_aload_n hx hb d_Md_tick_199 rfl (lv_at hl 0 rfl) ?_
                    refine ux_get (C := R_Md) (T := F_Md) (N := 50) hx hb hT in_Md hown hK hP (by decide) rfl rfl 43 (by decide) (hT _ fl_Md_100) rfl d_Md_tick_200 ?_
                    refine lv_iload_n hx hb d_Md_tick_203 rfl (lv_at hl 2 rfl) ?_
                    refine ux_iald hx hb hK hP (by decide) rfl (vp_in_nI (show k2 < 20 by omega) (by decide)) d_Md_tick_204 ?_
                    rw [nI_clamp (n := k2) (by omega)]
                    refine ux_put (C := R_Md) (T := F_Md) (N := 50) hx hb hT in_Md t_Md t_Md_ok n_Md hown hK hi hP hS (by decide) rfl rfl 38 (by decide) (hT _ fl_Md_126) rfl (rfl) (rfl) rfl d_Md_tick_205 (fun H locs hP hS => ?_)
                    have hI := IvM_free (k := 0) (j := 38) (v := M37 29 k2) hI rfl rfl (by unfold okW; omega)
                    have hF := fr_wr (k := 0) (j := 38) (v := M37 29 k2) hF (by unfold mTi; omega)
                    generalize eM38 : ux_wr M37 0 38 (M37 29 k2) = M38 at hP hI hF
                    exact W.vret hx hb hr (fun t ht hW => ⟨⟨M38, rfl, ⟨hI, hF, (by have h1 := congrArg Int32.toInt (show M38 0 48 = M12 0 48 from (wr_off eM38 (by omega)).trans ((wr_off eM37 (by omega)).trans (wr_off eM34 (by omega)))); omega)⟩, by unfold ux_E; rw [ht]; exact hP⟩, hS.F ht⟩) hS.2.2 d_Md_tick_208
                  · have g36 : ¬ (20 ≤ ((c14 : Nat) : Int)) := fun q => h36 (Int32.le_iff_toInt_le.mpr (by rw [nI_toInt (n := c14) (by omega)]; exact q))
                    refine lv_aload_n hx hb d_Md_tick_184 rfl (lv_at hl 0 rfl) ?_
                    refine ux_get (C := R_Md) (T := F_Md) (N := 50) hx hb hT in_Md hown hK hP (by decide) rfl rfl 46 (by decide) (hT _ fl_Md_132) rfl d_Md_tick_185 ?_
                    refine lv_topi (fun z39 hz39 => ?_)
                    rw [show M34 0 46 = nI c14 from (wr_off eM34 (by omega)).trans (ec14)] at hz39
                    rw [hz39]
                    refine lv_iconst (v := 1) hx hb d_Md_tick_188 (by decide) ?_
                    refine lv_iadd hx hb d_Md_tick_189 ?_
                    refine lv_topi (fun z40 hz40 => ?_)
                    rw [show (nI c14) + (1 : Int32) = nI (c14 + 1) from nI_add c14 1] at hz40
                    rw [hz40]
                    refine lv_goto hx hb d_Md_tick_190 rfl ?_
                    refine ux_put (C := R_Md) (T := F_Md) (N := 50) hx hb hT in_Md t_Md t_Md_ok n_Md hown hK hi hP hS (by decide) rfl rfl 46 (by decide) (hT _ fl_Md_132) rfl (rfl) (rfl) rfl d_Md_tick_195 (fun H locs hP hS => ?_)
                    have hI := IvM_wr (k := 0) (j := 46) (v := nI (c14 + 1)) hI (show (0 : Int) ≤ (nI (c14 + 1) : Int32).toInt from (by rw [nI_toInt (n := c14 + 1) (by omega)]; omega)) (show (nI (c14 + 1) : Int32).toInt ≤ (20 : Int) from (by rw [nI_toInt (n := c14 + 1) (by omega)]; omega)) (by unfold okW; omega)
                    have hF := fr_wr (k := 0) (j := 46) (v := nI (c14 + 1)) hF (by unfold mTi; omega)
                    generalize eM41 : ux_wr M34 0 46 (nI (c14 + 1)) = M41 at hP hI hF
                    have tM41 : (M41 0 46).toInt = ((c14 + 1 : Nat) : Int) := by rw [wr_at eM41]; exact nI_toInt (by omega)
                    refine lv_aload_n hx hb d_Md_tick_198 rfl (lv_at hl 0 rfl) ?_
                    refine lv_aload_n hx hb d_Md_tick_199 rfl (lv_at hl 0 rfl) ?_
                    refine ux_get (C := R_Md) (T := F_Md) (N := 50) hx hb hT in_Md hown hK hP (by decide) rfl rfl 43 (by decide) (hT _ fl_Md_100) rfl d_Md_tick_200 ?_
                    refine lv_iload_n hx hb d_Md_tick_203 rfl (lv_at hl 2 rfl) ?_
                    refine ux_iald hx hb hK hP (by decide) rfl (vp_in_nI (show k2 < 20 by omega) (by decide)) d_Md_tick_204 ?_
                    rw [nI_clamp (n := k2) (by omega)]
                    refine ux_put (C := R_Md) (T := F_Md) (N := 50) hx hb hT in_Md t_Md t_Md_ok n_Md hown hK hi hP hS (by decide) rfl rfl 38 (by decide) (hT _ fl_Md_126) rfl (rfl) (rfl) rfl d_Md_tick_205 (fun H locs hP hS => ?_)
                    have hI := IvM_free (k := 0) (j := 38) (v := M41 29 k2) hI rfl rfl (by unfold okW; omega)
                    have hF := fr_wr (k := 0) (j := 38) (v := M41 29 k2) hF (by unfold mTi; omega)
                    generalize eM42 : ux_wr M41 0 38 (M41 29 k2) = M42 at hP hI hF
                    exact W.vret hx hb hr (fun t ht hW => ⟨⟨M42, rfl, ⟨hI, hF, (by have h1 := congrArg Int32.toInt (show M42 0 48 = M12 0 48 from (wr_off eM42 (by omega)).trans ((wr_off eM41 (by omega)).trans (wr_off eM34 (by omega)))); omega)⟩, by unfold ux_E; rw [ht]; exact hP⟩, hS.F ht⟩) hS.2.2 d_Md_tick_208
              · have g16 : ¬ (20 ≤ ((c14 : Nat) : Int)) := fun q => h16 (Int32.le_iff_toInt_le.mpr (by rw [nI_toInt (n := c14) (by omega)]; exact q))
                refine lv_aload_n hx hb d_Md_tick_138 rfl (lv_at hl 0 rfl) ?_
                refine ux_get (C := R_Md) (T := F_Md) (N := 50) hx hb hT in_Md hown hK hP (by decide) rfl rfl 46 (by decide) (hT _ fl_Md_132) rfl d_Md_tick_139 ?_
                refine lv_topi (fun z43 hz43 => ?_)
                rw [show M12 0 46 = nI c14 from ec14] at hz43
                rw [hz43]
                refine lv_goto hx hb d_Md_tick_142 rfl ?_
                refine lv_aload_n hx hb d_Md_tick_147 rfl (lv_at hl 0 rfl) ?_
                refine ux_get (C := R_Md) (T := F_Md) (N := 50) hx hb hT in_Md hown hK hP (by decide) rfl rfl 46 (by decide) (hT _ fl_Md_132) rfl d_Md_tick_148 ?_
                refine lv_topi (fun z44 hz44 => ?_)
                rw [show M12 0 46 = nI c14 from ec14] at hz44
                rw [hz44]
                refine lv_bipush (v := 20) hx hb d_Md_tick_151 (by decide) ?_
                refine lv_icmp_ge hx hb d_Md_tick_153 rfl (fun h45 => ?_) (fun h45 => ?_)
                · have g45 : 20 ≤ ((c14 : Nat) : Int) := by have q := Int32.le_iff_toInt_le.mp h45; rw [nI_toInt (n := c14) (by omega)] at q; exact q
                  refine lv_aload_n hx hb d_Md_tick_166 rfl (lv_at hl 0 rfl) ?_
                  refine ux_get (C := R_Md) (T := F_Md) (N := 50) hx hb hT in_Md hown hK hP (by decide) rfl rfl 47 (by decide) (hT _ fl_Md_106) rfl d_Md_tick_167 ?_
                  refine lv_bipush (v := 19) hx hb d_Md_tick_170 (by decide) ?_
                  refine ux_cald hx hb hK hP (by decide) rfl (vi (by decide) (by decide)) d_Md_tick_172 ?_
                  rw [show (19 : Int32).toNatClampNeg = 19 from rfl]
                  refine lv_topi (fun z47 hz47 => ?_)
                  obtain ⟨c46, hc46, ec46⟩ := nat_of (x := M12 31 19) (n := 65535) (hI.1 31 19).1 (hI.1 31 19).2
                  rw [ec46] at hz47
                  rw [hz47]
                  have tc46 : (M12 31 19).toInt = (c46 : Int) := by rw [ec46]; exact nI_toInt (by omega)
                  refine ux_cast hx hb hK hi hP hS (by decide) rfl (vp_in_nI (show c14 < 20 by omega) (by decide)) d_Md_tick_173 (fun H locs hP hS => ?_)
                  have b48 := nar_c (nI c46)
                  rw [nI_clamp (n := c14) (by omega)] at hP
                  have hI := IvM_wr (k := 31) (j := c14) (v := vp_nar .char (nI c46)) hI (show (0 : Int) ≤ (vp_nar .char (nI c46) : Int32).toInt from (by omega)) (show (vp_nar .char (nI c46) : Int32).toInt ≤ (65535 : Int) from (by omega)) (by unfold okW; omega)
                  have hF := fr_wr (k := 31) (j := c14) (v := vp_nar .char (nI c46)) hF (by unfold mTi; omega)
                  generalize eM49 : ux_wr M12 31 c14 (vp_nar .char (nI c46)) = M49 at hP hI hF
                  have tM49 : (M49 31 c14).toInt = (vp_nar .char (nI c46)).toInt := by rw [wr_at eM49]
                  refine lv_aload_n hx hb d_Md_tick_174 rfl (lv_at hl 0 rfl) ?_
                  refine lv_aload_n hx hb d_Md_tick_175 rfl (lv_at hl 0 rfl) ?_
                  refine ux_get (C := R_Md) (T := F_Md) (N := 50) hx hb hT in_Md hown hK hP (by decide) rfl rfl 46 (by decide) (hT _ fl_Md_132) rfl d_Md_tick_176 ?_
                  refine lv_topi (fun z50 hz50 => ?_)
                  rw [show M49 0 46 = nI c14 from (wr_off eM49 (by omega)).trans (ec14)] at hz50
                  rw [hz50]
                  refine lv_bipush (v := 20) hx hb d_Md_tick_179 (by decide) ?_
                  refine lv_icmp_ge hx hb d_Md_tick_181 rfl (fun h51 => ?_) (fun h51 => ?_)
                  · have g51 : 20 ≤ ((c14 : Nat) : Int) := by have q := Int32.le_iff_toInt_le.mp h51; rw [nI_toInt (n := c14) (by omega)] at q; exact q
                    refine lv_bipush (v := 20) hx hb d_Md_tick_193 (by decide) ?_
                    refine ux_put (C := R_Md) (T := F_Md) (N := 50) hx hb hT in_Md t_Md t_Md_ok n_Md hown hK hi hP hS (by decide) rfl rfl 46 (by decide) (hT _ fl_Md_132) rfl (rfl) (rfl) rfl d_Md_tick_195 (fun H locs hP hS => ?_)
                    have hI := IvM_wr (k := 0) (j := 46) (v := 20) hI (show (0 : Int) ≤ (20 : Int32).toInt from (by decide)) (show (20 : Int32).toInt ≤ (20 : Int) from (by first | decide | (show (20 : Int) ≤ _; omega))) (by unfold okW; omega)
                    have hF := fr_wr (k := 0) (j := 46) (v := 20) hF (by unfold mTi; omega)
                    generalize eM52 : ux_wr M49 0 46 20 = M52 at hP hI hF
                    have tM52 : (M52 0 46).toInt = 20 := by rw [wr_at eM52]; rfl
                    refine lv_aload_n hx hb d_Md_tick_198 rfl (lv_at hl 0 rfl) ?_
                    refine lv_aload_n hx hb d_Md_tick_199 rfl (lv_at hl 0 rfl) ?_
                    refine ux_get (C := R_Md) (T := F_Md) (N := 50) hx hb hT in_Md hown hK hP (by decide) rfl rfl 43 (by decide) (hT _ fl_Md_100) rfl d_Md_tick_200 ?_
                    refine lv_iload_n hx hb d_Md_tick_203 rfl (lv_at hl 2 rfl) ?_
                    refine ux_iald hx hb hK hP (by decide) rfl (vp_in_nI (show k2 < 20 by omega) (by decide)) d_Md_tick_204 ?_
                    rw [nI_clamp (n := k2) (by omega)]
                    refine ux_put (C := R_Md) (T := F_Md) (N := 50) hx hb hT in_Md t_Md t_Md_ok n_Md hown hK hi hP hS (by decide) rfl rfl 38 (by decide) (hT _ fl_Md_126) rfl (rfl) (rfl) rfl d_Md_tick_205 (fun H locs hP hS => ?_)
                    have hI := IvM_free (k := 0) (j := 38) (v := M52 29 k2) hI rfl rfl (by unfold okW; omega)
                    have hF := fr_wr (k := 0) (j := 38) (v := M52 29 k2) hF (by unfold mTi; omega)
                    generalize eM53 : ux_wr M52 0 38 (M52 29 k2) = M53 at hP hI hF
                    exact W.vret hx hb hr (fun t ht hW => ⟨⟨M53, rfl, ⟨hI, hF, (by have h1 := congrArg Int32.toInt (show M53 0 48 = M12 0 48 from (wr_off eM53 (by omega)).trans ((wr_off eM52 (by omega)).trans (wr_off eM49 (by omega)))); omega)⟩, by unfold ux_E; rw [ht]; exact hP⟩, hS.F ht⟩) hS.2.2 d_Md_tick_208
                  · have g51 : ¬ (20 ≤ ((c14 : Nat) : Int)) := fun q => h51 (Int32.le_iff_toInt_le.mpr (by rw [nI_toInt (n := c14) (by omega)]; exact q))
                    refine lv_aload_n hx hb d_Md_tick_184 rfl (lv_at hl 0 rfl) ?_
                    refine ux_get (C := R_Md) (T := F_Md) (N := 50) hx hb hT in_Md hown hK hP (by decide) rfl rfl 46 (by decide) (hT _ fl_Md_132) rfl d_Md_tick_185 ?_
                    refine lv_topi (fun z54 hz54 => ?_)
                    rw [show M49 0 46 = nI c14 from (wr_off eM49 (by omega)).trans (ec14)] at hz54
                    rw [hz54]
                    refine lv_iconst (v := 1) hx hb d_Md_tick_188 (by decide) ?_
                    refine lv_iadd hx hb d_Md_tick_189 ?_
                    refine lv_topi (fun z55 hz55 => ?_)
                    rw [show (nI c14) + (1 : Int32) = nI (c14 + 1) from nI_add c14 1] at hz55
                    rw [hz55]
                    refine lv_goto hx hb d_Md_tick_190 rfl ?_
                    refine ux_put (C := R_Md) (T := F_Md) (N := 50) hx hb hT in_Md t_Md t_Md_ok n_Md hown hK hi hP hS (by decide) rfl rfl 46 (by decide) (hT _ fl_Md_132) rfl (rfl) (rfl) rfl d_Md_tick_195 (fun H locs hP hS => ?_)
                    have hI := IvM_wr (k := 0) (j := 46) (v := nI (c14 + 1)) hI (show (0 : Int) ≤ (nI (c14 + 1) : Int32).toInt from (by rw [nI_toInt (n := c14 + 1) (by omega)]; omega)) (show (nI (c14 + 1) : Int32).toInt ≤ (20 : Int) from (by rw [nI_toInt (n := c14 + 1) (by omega)]; omega)) (by unfold okW; omega)
                    have hF := fr_wr (k := 0) (j := 46) (v := nI (c14 + 1)) hF (by unfold mTi; omega)
                    generalize eM56 : ux_wr M49 0 46 (nI (c14 + 1)) = M56 at hP hI hF
                    have tM56 : (M56 0 46).toInt = ((c14 + 1 : Nat) : Int) := by rw [wr_at eM56]; exact nI_toInt (by omega)
                    refine lv_aload_n hx hb d_Md_tick_198 rfl (lv_at hl 0 rfl) ?_
                    refine lv_aload_n hx hb d_Md_tick_199 rfl (lv_at hl 0 rfl) ?_
                    refine ux_get (C := R_Md) (T := F_Md) (N := 50) hx hb hT in_Md hown hK hP (by decide) rfl rfl 43 (by decide) (hT _ fl_Md_100) rfl d_Md_tick_200 ?_
                    refine lv_iload_n hx hb d_Md_tick_203 rfl (lv_at hl 2 rfl) ?_
                    refine ux_iald hx hb hK hP (by decide) rfl (vp_in_nI (show k2 < 20 by omega) (by decide)) d_Md_tick_204 ?_
                    rw [nI_clamp (n := k2) (by omega)]
                    refine ux_put (C := R_Md) (T := F_Md) (N := 50) hx hb hT in_Md t_Md t_Md_ok n_Md hown hK hi hP hS (by decide) rfl rfl 38 (by decide) (hT _ fl_Md_126) rfl (rfl) (rfl) rfl d_Md_tick_205 (fun H locs hP hS => ?_)
                    have hI := IvM_free (k := 0) (j := 38) (v := M56 29 k2) hI rfl rfl (by unfold okW; omega)
                    have hF := fr_wr (k := 0) (j := 38) (v := M56 29 k2) hF (by unfold mTi; omega)
                    generalize eM57 : ux_wr M56 0 38 (M56 29 k2) = M57 at hP hI hF
                    exact W.vret hx hb hr (fun t ht hW => ⟨⟨M57, rfl, ⟨hI, hF, (by have h1 := congrArg Int32.toInt (show M57 0 48 = M12 0 48 from (wr_off eM57 (by omega)).trans ((wr_off eM56 (by omega)).trans (wr_off eM49 (by omega)))); omega)⟩, by unfold ux_E; rw [ht]; exact hP⟩, hS.F ht⟩) hS.2.2 d_Md_tick_208
                · have g45 : ¬ (20 ≤ ((c14 : Nat) : Int)) := fun q => h45 (Int32.le_iff_toInt_le.mpr (by rw [nI_toInt (n := c14) (by omega)]; exact q))
                  refine lv_aload_n hx hb d_Md_tick_156 rfl (lv_at hl 0 rfl) ?_
                  refine ux_get (C := R_Md) (T := F_Md) (N := 50) hx hb hT in_Md hown hK hP (by decide) rfl rfl 42 (by decide) (hT _ fl_Md_97) rfl d_Md_tick_157 ?_
                  refine lv_iload_n hx hb d_Md_tick_160 rfl (lv_at hl 2 rfl) ?_
                  refine ux_iald hx hb hK hP (by decide) rfl (vp_in_nI (show k2 < 20 by omega) (by decide)) d_Md_tick_161 ?_
                  rw [nI_clamp (n := k2) (by omega)]
                  refine lv_topi (fun z58 hz58 => ?_)
                  rw [show M12 28 k2 = Mc71 28 k2 from fq13 _ _ (by unfold mNo; omega)] at hz58
                  rw [hz58]
                  refine lv_i2c hx hb d_Md_tick_162 rfl ?_
                  refine lv_topi (fun x59 ex59 => ?_)
                  have fx59 : 0 ≤ x59.toInt ∧ x59.toInt ≤ 65535 := by rw [ex59]; exact ti_i2c _
                  refine lv_goto hx hb d_Md_tick_163 rfl ?_
                  refine ux_cast hx hb hK hi hP hS (by decide) rfl (vp_in_nI (show c14 < 20 by omega) (by decide)) d_Md_tick_173 (fun H locs hP hS => ?_)
                  have b60 := nar_c x59
                  rw [nI_clamp (n := c14) (by omega)] at hP
                  have hI := IvM_wr (k := 31) (j := c14) (v := vp_nar .char x59) hI (show (0 : Int) ≤ (vp_nar .char x59 : Int32).toInt from (by omega)) (show (vp_nar .char x59 : Int32).toInt ≤ (65535 : Int) from (by omega)) (by unfold okW; omega)
                  have hF := fr_wr (k := 31) (j := c14) (v := vp_nar .char x59) hF (by unfold mTi; omega)
                  generalize eM61 : ux_wr M12 31 c14 (vp_nar .char x59) = M61 at hP hI hF
                  have tM61 : (M61 31 c14).toInt = (vp_nar .char x59).toInt := by rw [wr_at eM61]
                  refine lv_aload_n hx hb d_Md_tick_174 rfl (lv_at hl 0 rfl) ?_
                  refine lv_aload_n hx hb d_Md_tick_175 rfl (lv_at hl 0 rfl) ?_
                  refine ux_get (C := R_Md) (T := F_Md) (N := 50) hx hb hT in_Md hown hK hP (by decide) rfl rfl 46 (by decide) (hT _ fl_Md_132) rfl d_Md_tick_176 ?_
                  refine lv_topi (fun z62 hz62 => ?_)
                  rw [show M61 0 46 = nI c14 from (wr_off eM61 (by omega)).trans (ec14)] at hz62
                  rw [hz62]
                  refine lv_bipush (v := 20) hx hb d_Md_tick_179 (by decide) ?_
                  refine lv_icmp_ge hx hb d_Md_tick_181 rfl (fun h63 => ?_) (fun h63 => ?_)
                  · have g63 : 20 ≤ ((c14 : Nat) : Int) := by have q := Int32.le_iff_toInt_le.mp h63; rw [nI_toInt (n := c14) (by omega)] at q; exact q
                    refine lv_bipush (v := 20) hx hb d_Md_tick_193 (by decide) ?_
                    refine ux_put (C := R_Md) (T := F_Md) (N := 50) hx hb hT in_Md t_Md t_Md_ok n_Md hown hK hi hP hS (by decide) rfl rfl 46 (by decide) (hT _ fl_Md_132) rfl (rfl) (rfl) rfl d_Md_tick_195 (fun H locs hP hS => ?_)
                    have hI := IvM_wr (k := 0) (j := 46) (v := 20) hI (show (0 : Int) ≤ (20 : Int32).toInt from (by decide)) (show (20 : Int32).toInt ≤ (20 : Int) from (by first | decide | (show (20 : Int) ≤ _; omega))) (by unfold okW; omega)
                    have hF := fr_wr (k := 0) (j := 46) (v := 20) hF (by unfold mTi; omega)
                    generalize eM64 : ux_wr M61 0 46 20 = M64 at hP hI hF
                    have tM64 : (M64 0 46).toInt = 20 := by rw [wr_at eM64]; rfl
                    refine lv_aload_n hx hb d_Md_tick_198 rfl (lv_at hl 0 rfl) ?_
                    refine lv_aload_n hx hb d_Md_tick_199 rfl (lv_at hl 0 rfl) ?_
                    refine ux_get (C := R_Md) (T := F_Md) (N := 50) hx hb hT in_Md hown hK hP (by decide) rfl rfl 43 (by decide) (hT _ fl_Md_100) rfl d_Md_tick_200 ?_
                    refine lv_iload_n hx hb d_Md_tick_203 rfl (lv_at hl 2 rfl) ?_
                    refine ux_iald hx hb hK hP (by decide) rfl (vp_in_nI (show k2 < 20 by omega) (by decide)) d_Md_tick_204 ?_
                    rw [nI_clamp (n := k2) (by omega)]
                    refine ux_put (C := R_Md) (T := F_Md) (N := 50) hx hb hT in_Md t_Md t_Md_ok n_Md hown hK hi hP hS (by decide) rfl rfl 38 (by decide) (hT _ fl_Md_126) rfl (rfl) (rfl) rfl d_Md_tick_205 (fun H locs hP hS => ?_)
                    have hI := IvM_free (k := 0) (j := 38) (v := M64 29 k2) hI rfl rfl (by unfold okW; omega)
                    have hF := fr_wr (k := 0) (j := 38) (v := M64 29 k2) hF (by unfold mTi; omega)
                    generalize eM65 : ux_wr M64 0 38 (M64 29 k2) = M65 at hP hI hF
                    exact W.vret hx hb hr (fun t ht hW => ⟨⟨M65, rfl, ⟨hI, hF, (by have h1 := congrArg Int32.toInt (show M65 0 48 = M12 0 48 from (wr_off eM65 (by omega)).trans ((wr_off eM64 (by omega)).trans (wr_off eM61 (by omega)))); omega)⟩, by unfold ux_E; rw [ht]; exact hP⟩, hS.F ht⟩) hS.2.2 d_Md_tick_208
                  · have g63 : ¬ (20 ≤ ((c14 : Nat) : Int)) := fun q => h63 (Int32.le_iff_toInt_le.mpr (by rw [nI_toInt (n := c14) (by omega)]; exact q))
                    refine lv_aload_n hx hb d_Md_tick_184 rfl (lv_at hl 0 rfl) ?_
                    refine ux_get (C := R_Md) (T := F_Md) (N := 50) hx hb hT in_Md hown hK hP (by decide) rfl rfl 46 (by decide) (hT _ fl_Md_132) rfl d_Md_tick_185 ?_
                    refine lv_topi (fun z66 hz66 => ?_)
                    rw [show M61 0 46 = nI c14 from (wr_off eM61 (by omega)).trans (ec14)] at hz66
                    rw [hz66]
                    refine lv_iconst (v := 1) hx hb d_Md_tick_188 (by decide) ?_
                    refine lv_iadd hx hb d_Md_tick_189 ?_
                    refine lv_topi (fun z67 hz67 => ?_)
                    rw [show (nI c14) + (1 : Int32) = nI (c14 + 1) from nI_add c14 1] at hz67
                    rw [hz67]
                    refine lv_goto hx hb d_Md_tick_190 rfl ?_
                    refine ux_put (C := R_Md) (T := F_Md) (N := 50) hx hb hT in_Md t_Md t_Md_ok n_Md hown hK hi hP hS (by decide) rfl rfl 46 (by decide) (hT _ fl_Md_132) rfl (rfl) (rfl) rfl d_Md_tick_195 (fun H locs hP hS => ?_)
                    have hI := IvM_wr (k := 0) (j := 46) (v := nI (c14 + 1)) hI (show (0 : Int) ≤ (nI (c14 + 1) : Int32).toInt from (by rw [nI_toInt (n := c14 + 1) (by omega)]; omega)) (show (nI (c14 + 1) : Int32).toInt ≤ (20 : Int) from (by rw [nI_toInt (n := c14 + 1) (by omega)]; omega)) (by unfold okW; omega)
                    have hF := fr_wr (k := 0) (j := 46) (v := nI (c14 + 1)) hF (by unfold mTi; omega)
                    generalize eM68 : ux_wr M61 0 46 (nI (c14 + 1)) = M68 at hP hI hF
                    have tM68 : (M68 0 46).toInt = ((c14 + 1 : Nat) : Int) := by rw [wr_at eM68]; exact nI_toInt (by omega)
                    refine lv_aload_n hx hb d_Md_tick_198 rfl (lv_at hl 0 rfl) ?_
                    refine lv_aload_n hx hb d_Md_tick_199 rfl (lv_at hl 0 rfl) ?_
                    refine ux_get (C := R_Md) (T := F_Md) (N := 50) hx hb hT in_Md hown hK hP (by decide) rfl rfl 43 (by decide) (hT _ fl_Md_100) rfl d_Md_tick_200 ?_
                    refine lv_iload_n hx hb d_Md_tick_203 rfl (lv_at hl 2 rfl) ?_
                    refine ux_iald hx hb hK hP (by decide) rfl (vp_in_nI (show k2 < 20 by omega) (by decide)) d_Md_tick_204 ?_
                    rw [nI_clamp (n := k2) (by omega)]
                    refine ux_put (C := R_Md) (T := F_Md) (N := 50) hx hb hT in_Md t_Md t_Md_ok n_Md hown hK hi hP hS (by decide) rfl rfl 38 (by decide) (hT _ fl_Md_126) rfl (rfl) (rfl) rfl d_Md_tick_205 (fun H locs hP hS => ?_)
                    have hI := IvM_free (k := 0) (j := 38) (v := M68 29 k2) hI rfl rfl (by unfold okW; omega)
                    have hF := fr_wr (k := 0) (j := 38) (v := M68 29 k2) hF (by unfold mTi; omega)
                    generalize eM69 : ux_wr M68 0 38 (M68 29 k2) = M69 at hP hI hF
                    exact W.vret hx hb hr (fun t ht hW => ⟨⟨M69, rfl, ⟨hI, hF, (by have h1 := congrArg Int32.toInt (show M69 0 48 = M12 0 48 from (wr_off eM69 (by omega)).trans ((wr_off eM68 (by omega)).trans (wr_off eM61 (by omega)))); omega)⟩, by unfold ux_E; rw [ht]; exact hP⟩, hS.F ht⟩) hS.2.2 d_Md_tick_208
  have cut20 : ∀ (nn : Nat) (i_1 : Int32) (k2 : Nat) (Mc20 : ux_M) (H : Heap) (locs : List Loc) (ls : Array Slot), 40 - k2 = nn → (1 ≤ k2) → (k2 ≤ 40) → ((Mc20 0 48).toInt = (M 0 48).toInt) → va_P D classes (ux_w shM KM ad cA Mc20) H → IvM A TB Mc20 → (∀ a b, ¬ mTi a b → Mc20 a b = M a b) → va_S (ux_A KM ad) s.heap H locs → lv_has ls 3 [(0, .ref (ad 0)), (1, .int i_1), (2, .int (nI k2))] → W p l e (headSpec w_Md_tick ({ frames := 1, cells := 0, slots := 0, locals := 21 })).room s m (([.ref (ad 0)] : List Value).toArray) below meth c H locs 0 0 (MQ below (va_Qv (fun M1 => IvM A TB M1 ∧ (∀ a b, ¬ mTi a b → M1 a b = M a b) ∧ ((M1 0 48).toInt ≤ (M 0 48).toInt + 1)) (ux_E D shM KM ad cA) (ux_A KM ad)) (([.ref (ad 0)] : List Value).toArray) s 0 0 (ux_A KM ad)) (F0 m 20 ls []) := by
    intro nn
    induction nn using Nat.strongRecOn with
    | ind nn ih20 =>
      intro i_1 k2 Mc20 H locs ls hn c20_0 c20_1 c20_2 hP hI hF hS hl
      refine lv_iload_n hx hb d_Md_tick_20 rfl (lv_at hl 2 rfl) ?_
      refine lv_aload_n hx hb d_Md_tick_21 rfl (lv_at hl 0 rfl) ?_
      refine ux_get (C := R_Md) (T := F_Md) (N := 50) hx hb hT in_Md hown hK hP (by decide) rfl rfl 44 (by decide) (hT _ fl_Md_129) rfl d_Md_tick_22 ?_
      refine lv_topi (fun z71 hz71 => ?_)
      obtain ⟨c70, hc70, ec70⟩ := nat_of (x := Mc20 0 44) (n := 40) (hI.1 0 44).1 (hI.1 0 44).2
      rw [ec70] at hz71
      rw [hz71]
      have tc70 : (Mc20 0 44).toInt = (c70 : Int) := by rw [ec70]; exact nI_toInt (by omega)
      refine lv_icmp_ge hx hb d_Md_tick_25 rfl (fun h72 => ?_) (fun h72 => ?_)
      · have g72 : ((c70 : Nat) : Int) ≤ ((k2 : Nat) : Int) := by have q := Int32.le_iff_toInt_le.mp h72; rw [nI_toInt (n := c70) (by omega), nI_toInt (n := k2) (by omega)] at q; exact q
        refine lv_aload_n hx hb d_Md_tick_48 rfl (lv_at hl 0 rfl) ?_
        refine lv_aload_n hx hb d_Md_tick_49 rfl (lv_at hl 0 rfl) ?_
        refine ux_get (C := R_Md) (T := F_Md) (N := 50) hx hb hT in_Md hown hK hP (by decide) rfl rfl 44 (by decide) (hT _ fl_Md_129) rfl d_Md_tick_50 ?_
        refine lv_topi (fun z73 hz73 => ?_)
        rw [show Mc20 0 44 = nI c70 from ec70] at hz73
        rw [hz73]
        refine lv_if_le hx hb d_Md_tick_53 rfl (fun h74 => ?_) (fun h74 => ?_)
        · have g74 : ((c70 : Nat) : Int) ≤ 0 := by have q := Int32.le_iff_toInt_le.mp h74; rw [nI_toInt (n := c70) (by omega)] at q; exact q
          refine lv_iconst (v := 0) hx hb d_Md_tick_65 (by decide) ?_
          refine ux_put (C := R_Md) (T := F_Md) (N := 50) hx hb hT in_Md t_Md t_Md_ok n_Md hown hK hi hP hS (by decide) rfl rfl 44 (by decide) (hT _ fl_Md_129) rfl (rfl) (rfl) rfl d_Md_tick_66 (fun H locs hP hS => ?_)
          have hI := IvM_wr (k := 0) (j := 44) (v := 0) hI (show (0 : Int) ≤ (0 : Int32).toInt from (by decide)) (show (0 : Int32).toInt ≤ (40 : Int) from (by first | decide | (show (0 : Int) ≤ _; omega))) (by unfold okW; omega)
          have hF := fr_wr (k := 0) (j := 44) (v := 0) hF (by unfold mTi; omega)
          generalize eM75 : ux_wr Mc20 0 44 0 = M75 at hP hI hF
          have tM75 : (M75 0 44).toInt = 0 := by rw [wr_at eM75]; rfl
          have hk69 := congrArg Int32.toInt (show M75 0 48 = Mc20 0 48 from wr_off eM75 (by omega))
          refine lv_iconst (v := 0) hx hb d_Md_tick_69 (by decide) ?_
          refine lv_istore_n hx hb d_Md_tick_70 rfl hl (by decide) rfl (fun ls hl => ?_)
          have hl : lv_has ls 3 [(2, .int 0), (0, .ref (ad 0)), (1, .int i_1)] := hl
          exact cut71 (20 - 0) i_1 0 M75 _ _ ls rfl (show 0 ≤ 20 from by first | omega | assumption | exact Or.inl rfl | exact Or.inr rfl | rfl | decide) (show (M75 0 48).toInt = (M 0 48).toInt from by first | omega | assumption | exact Or.inl rfl | exact Or.inr rfl | rfl | decide) hP hI hF hS (lv_sub hl [1, 2, 0] rfl)
        · have g74 : ¬ (((c70 : Nat) : Int) ≤ 0) := fun q => h74 (Int32.le_iff_toInt_le.mpr (by rw [nI_toInt (n := c70) (by omega)]; exact q))
          refine lv_aload_n hx hb d_Md_tick_56 rfl (lv_at hl 0 rfl) ?_
          refine ux_get (C := R_Md) (T := F_Md) (N := 50) hx hb hT in_Md hown hK hP (by decide) rfl rfl 44 (by decide) (hT _ fl_Md_129) rfl d_Md_tick_57 ?_
          refine lv_topi (fun z76 hz76 => ?_)
          rw [show Mc20 0 44 = nI c70 from ec70] at hz76
          rw [hz76]
          refine lv_iconst (v := 1) hx hb d_Md_tick_60 (by decide) ?_
          refine lv_isub hx hb d_Md_tick_61 ?_
          refine lv_topi (fun z77 hz77 => ?_)
          rw [show (nI c70) - (1 : Int32) = nI (c70 - 1) from (pk_sub (a := c70) (b := 1) (by omega)).trans (congrArg nI (show c70 - 1 = c70 - 1 by omega))] at hz77
          rw [hz77]
          refine lv_goto hx hb d_Md_tick_62 rfl ?_
          refine ux_put (C := R_Md) (T := F_Md) (N := 50) hx hb hT in_Md t_Md t_Md_ok n_Md hown hK hi hP hS (by decide) rfl rfl 44 (by decide) (hT _ fl_Md_129) rfl (rfl) (rfl) rfl d_Md_tick_66 (fun H locs hP hS => ?_)
          have hI := IvM_wr (k := 0) (j := 44) (v := nI (c70 - 1)) hI (show (0 : Int) ≤ (nI (c70 - 1) : Int32).toInt from (by rw [nI_toInt (n := c70 - 1) (by omega)]; omega)) (show (nI (c70 - 1) : Int32).toInt ≤ (40 : Int) from (by rw [nI_toInt (n := c70 - 1) (by omega)]; omega)) (by unfold okW; omega)
          have hF := fr_wr (k := 0) (j := 44) (v := nI (c70 - 1)) hF (by unfold mTi; omega)
          generalize eM78 : ux_wr Mc20 0 44 (nI (c70 - 1)) = M78 at hP hI hF
          have tM78 : (M78 0 44).toInt = ((c70 - 1 : Nat) : Int) := by rw [wr_at eM78]; exact nI_toInt (by omega)
          have hk69 := congrArg Int32.toInt (show M78 0 48 = Mc20 0 48 from wr_off eM78 (by omega))
          refine lv_iconst (v := 0) hx hb d_Md_tick_69 (by decide) ?_
          refine lv_istore_n hx hb d_Md_tick_70 rfl hl (by decide) rfl (fun ls hl => ?_)
          have hl : lv_has ls 3 [(2, .int 0), (0, .ref (ad 0)), (1, .int i_1)] := hl
          exact cut71 (20 - 0) i_1 0 M78 _ _ ls rfl (show 0 ≤ 20 from by first | omega | assumption | exact Or.inl rfl | exact Or.inr rfl | rfl | decide) (show (M78 0 48).toInt = (M 0 48).toInt from by first | omega | assumption | exact Or.inl rfl | exact Or.inr rfl | rfl | decide) hP hI hF hS (lv_sub hl [1, 2, 0] rfl)
      · have g72 : ¬ (((c70 : Nat) : Int) ≤ ((k2 : Nat) : Int)) := fun q => h72 (Int32.le_iff_toInt_le.mpr (by rw [nI_toInt (n := c70) (by omega), nI_toInt (n := k2) (by omega)]; exact q))
        refine lv_aload_n hx hb d_Md_tick_28 rfl (lv_at hl 0 rfl) ?_
        refine ux_get (C := R_Md) (T := F_Md) (N := 50) hx hb hT in_Md hown hK hP (by decide) rfl rfl 45 (by decide) (hT _ fl_Md_103) rfl d_Md_tick_29 ?_
        refine lv_iload_n hx hb d_Md_tick_32 rfl (lv_at hl 2 rfl) ?_
        refine lv_iconst (v := 1) hx hb d_Md_tick_33 (by decide) ?_
        refine lv_isub hx hb d_Md_tick_34 ?_
        refine lv_topi (fun z79 hz79 => ?_)
        rw [show (nI k2) - (1 : Int32) = nI (k2 - 1) from (pk_sub (a := k2) (b := 1) (by omega)).trans (congrArg nI (show k2 - 1 = k2 - 1 by omega))] at hz79
        rw [hz79]
        refine lv_aload_n hx hb d_Md_tick_35 rfl (lv_at hl 0 rfl) ?_
        refine ux_get (C := R_Md) (T := F_Md) (N := 50) hx hb hT in_Md hown hK hP (by decide) rfl rfl 45 (by decide) (hT _ fl_Md_103) rfl d_Md_tick_36 ?_
        refine lv_iload_n hx hb d_Md_tick_39 rfl (lv_at hl 2 rfl) ?_
        refine ux_cald hx hb hK hP (by decide) rfl (vp_in_nI (show k2 < 40 by omega) (by decide)) d_Md_tick_40 ?_
        rw [nI_clamp (n := k2) (by omega)]
        refine lv_topi (fun z81 hz81 => ?_)
        obtain ⟨c80, hc80, ec80⟩ := nat_of (x := Mc20 30 k2) (n := 65535) (hI.1 30 k2).1 (hI.1 30 k2).2
        rw [ec80] at hz81
        rw [hz81]
        have tc80 : (Mc20 30 k2).toInt = (c80 : Int) := by rw [ec80]; exact nI_toInt (by omega)
        refine ux_cast hx hb hK hi hP hS (by decide) rfl (vp_in_nI (show k2 - 1 < 40 by omega) (by decide)) d_Md_tick_41 (fun H locs hP hS => ?_)
        have b82 := nar_c (nI c80)
        rw [nI_clamp (n := k2 - 1) (by omega)] at hP
        have hI := IvM_wr (k := 30) (j := k2 - 1) (v := vp_nar .char (nI c80)) hI (show (0 : Int) ≤ (vp_nar .char (nI c80) : Int32).toInt from (by omega)) (show (vp_nar .char (nI c80) : Int32).toInt ≤ (65535 : Int) from (by omega)) (by unfold okW; omega)
        have hF := fr_wr (k := 30) (j := k2 - 1) (v := vp_nar .char (nI c80)) hF (by unfold mTi; omega)
        generalize eM83 : ux_wr Mc20 30 (k2 - 1) (vp_nar .char (nI c80)) = M83 at hP hI hF
        have tM83 : (M83 30 (k2 - 1)).toInt = (vp_nar .char (nI c80)).toInt := by rw [wr_at eM83]
        have hk42 := congrArg Int32.toInt (show M83 0 48 = Mc20 0 48 from wr_off eM83 (by omega))
        refine lv_iinc (k := 2) (v := nI (k2 + 1)) hx hb d_Md_tick_42 hl rfl (nI_add k2 1) (by decide) rfl (fun ls hl => ?_)
        have hl : lv_has ls 3 [(2, .int (nI (k2 + 1))), (0, .ref (ad 0)), (1, .int i_1)] := hl
        refine lv_goto hx hb d_Md_tick_45 rfl ?_
        exact ih20 (40 - (k2 + 1)) (by omega) i_1 (k2 + 1) M83 _ _ ls rfl (show 1 ≤ (k2 + 1) from by first | omega | assumption | exact Or.inl rfl | exact Or.inr rfl | rfl | decide) (show (k2 + 1) ≤ 40 from by first | omega | assumption | exact Or.inl rfl | exact Or.inr rfl | rfl | decide) (show (M83 0 48).toInt = (M 0 48).toInt from by first | omega | assumption | exact Or.inl rfl | exact Or.inr rfl | rfl | decide) hP hI hF hS (lv_sub hl [1, 2, 0] rfl)
  refine lv_aload_n hx hb d_Md_tick_0 rfl (lv_at hl 0 rfl) ?_
  refine ux_get (C := R_Md) (T := F_Md) (N := 50) hx hb hT in_Md hown hK hP (by decide) rfl rfl 44 (by decide) (hT _ fl_Md_129) rfl d_Md_tick_1 ?_
  refine lv_topi (fun z85 hz85 => ?_)
  obtain ⟨c84, hc84, ec84⟩ := nat_of (x := M 0 44) (n := 40) (hI.1 0 44).1 (hI.1 0 44).2
  rw [ec84] at hz85
  rw [hz85]
  have tc84 : (M 0 44).toInt = (c84 : Int) := by rw [ec84]; exact nI_toInt (by omega)
  refine lv_if_le hx hb d_Md_tick_4 rfl (fun h86 => ?_) (fun h86 => ?_)
  · have g86 : ((c84 : Nat) : Int) ≤ 0 := by have q := Int32.le_iff_toInt_le.mp h86; rw [nI_toInt (n := c84) (by omega)] at q; exact q
    refine lv_iconst (v := 0) hx hb d_Md_tick_16 (by decide) ?_
    refine lv_istore_n hx hb d_Md_tick_17 rfl hl (by decide) rfl (fun ls hl => ?_)
    have hl : lv_has ls 3 [(1, .int 0), (0, .ref (ad 0))] := hl
    refine lv_iconst (v := 1) hx hb d_Md_tick_18 (by decide) ?_
    refine lv_istore_n hx hb d_Md_tick_19 rfl hl (by decide) rfl (fun ls hl => ?_)
    have hl : lv_has ls 3 [(2, .int 1), (1, .int 0), (0, .ref (ad 0))] := hl
    exact cut20 (40 - 1) 0 1 M _ _ ls rfl (show 1 ≤ 1 from by first | omega | assumption | exact Or.inl rfl | exact Or.inr rfl | rfl | decide) (show 1 ≤ 40 from by first | omega | assumption | exact Or.inl rfl | exact Or.inr rfl | rfl | decide) (show (M 0 48).toInt = (M 0 48).toInt from by first | omega | assumption | exact Or.inl rfl | exact Or.inr rfl | rfl | decide) hP hI hF hS (lv_sub hl [2, 1, 0] rfl)
  · have g86 : ¬ (((c84 : Nat) : Int) ≤ 0) := fun q => h86 (Int32.le_iff_toInt_le.mpr (by rw [nI_toInt (n := c84) (by omega)]; exact q))
    refine lv_aload_n hx hb d_Md_tick_7 rfl (lv_at hl 0 rfl) ?_
    refine ux_get (C := R_Md) (T := F_Md) (N := 50) hx hb hT in_Md hown hK hP (by decide) rfl rfl 45 (by decide) (hT _ fl_Md_103) rfl d_Md_tick_8 ?_
    refine lv_iconst (v := 0) hx hb d_Md_tick_11 (by decide) ?_
    refine ux_cald hx hb hK hP (by decide) rfl (vi (by decide) (by decide)) d_Md_tick_12 ?_
    rw [show (0 : Int32).toNatClampNeg = 0 from rfl]
    refine lv_topi (fun z88 hz88 => ?_)
    obtain ⟨c87, hc87, ec87⟩ := nat_of (x := M 30 0) (n := 65535) (hI.1 30 0).1 (hI.1 30 0).2
    rw [ec87] at hz88
    rw [hz88]
    have tc87 : (M 30 0).toInt = (c87 : Int) := by rw [ec87]; exact nI_toInt (by omega)
    refine lv_goto hx hb d_Md_tick_13 rfl ?_
    refine lv_istore_n hx hb d_Md_tick_17 rfl hl (by decide) rfl (fun ls hl => ?_)
    have hl : lv_has ls 3 [(1, .int (nI c87)), (0, .ref (ad 0))] := hl
    refine lv_iconst (v := 1) hx hb d_Md_tick_18 (by decide) ?_
    refine lv_istore_n hx hb d_Md_tick_19 rfl hl (by decide) rfl (fun ls hl => ?_)
    have hl : lv_has ls 3 [(2, .int 1), (1, .int (nI c87)), (0, .ref (ad 0))] := hl
    exact cut20 (40 - 1) (nI c87) 1 M _ _ ls rfl (show 1 ≤ 1 from by first | omega | assumption | exact Or.inl rfl | exact Or.inr rfl | rfl | decide) (show 1 ≤ 40 from by first | omega | assumption | exact Or.inl rfl | exact Or.inr rfl | rfl | decide) (show (M 0 48).toInt = (M 0 48).toInt from by first | omega | assumption | exact Or.inl rfl | exact Or.inr rfl | rfl | decide) hP hI hF hS (lv_sub hl [2, 1, 0] rfl)
