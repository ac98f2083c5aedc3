/-! The reference, safe: a whole run; written by wip/gen/ref.py -/
theorem RunJ_0 {Z : Nat} {M : ux_M} (h1 : M 0 10 = 0) (h2 : M 0 23 = 0) (h3 : M 13 0 = 0) (h4 : M 9 0 = 0) : RunJ Z M := by
  refine Or.inr ⟨0, by omega, h1, fun i hi => ?_, fun i hi => absurd hi (by omega), fun z => absurd (h2.symm.trans z) (by decide)⟩
  obtain rfl : i = 0 := by omega
  exact ⟨fun q => absurd h3 q, by rw [h4, show (0 : Int32).toInt = 0 from rfl]; omega⟩

set_option maxHeartbeats 1600000 in
set_option maxRecDepth 100000 in
theorem s_Md_run (l : Launch) (D : va_G) (ad : Nat → Nat) (cA : Nat → ClassId) (A TB0 TB : Nat) (hA : A ≤ 100000000) (hB : TB ≤ 2000000000) (hTB : TB0 + 4000 ≤ TB) (hAA : 50000000 ≤ A) (M : ux_M) (hI : IvM A TB0 M) (f : Int32) : Met l y_Md_run w_Md_run ({ frames := 11, cells := 0, slots := 0, locals := 250 }) (va_Pc [.ref (ad 0), .int f] (ux_B D shM KM ad cA M)) (va_Qi (fun r M1 => IvM A TB M1 ∧ (∀ a b, ¬ mRun a b → M1 a b = M a b) ∧ (M1 0 2 = rnM M f)) (ux_E D shM KM ad cA) (ux_A KM ad)) 0 0 (ux_A KM ad) := by
  refine Met.ofW (cc := b_Md_run) (maxL := 4) (ret := (some .int)) (by decide) rfl ?_
  intro p e s m args below meth c s₁ B hml hv
  obtain ⟨rfl, hP, hK, hi, hN⟩ := hv
  have hx := B.exec
  have hb := B.bytes
  have hr := B.returns
  have hts := atoms_spec (ws := w_Md_run) B.pre
  have hown : s.vm.findClass R_Md = some m.cls := findClass_of_methodNamed B.named
  have hlocks := B.notSynchronized
  have hT : ∀ w ∈ tb, w.before _ s = true := fun w h => hts w (List.mem_cons_of_mem _ h)
  have hS : va_S (ux_A KM ad) s.heap s.heap [] := va_S.rf
  have hl := lv_entry ([.ref (ad 0), .int f]) (n := 4) (Nat.le_of_ble_eq_true rfl)
  rw [lg_entry_eq]
  generalize (lg_sl ([.ref (ad 0), .int f]) ++ List.replicate (4 - (lg_sl ([.ref (ad 0), .int f])).length) Slot.unset).toArray = ls at hl ⊢
  have hl : lv_has ls 4 [(0, .ref (ad 0)), (1, .int f)] := hl
  have hF : ∀ a b, ¬ mRun a b → M a b = M a b := fun _ _ _ => rfl
  have hI0 := hI
  have hI := IvM_monoB hI (show TB0 ≤ TB by omega)
  refine lv_iload_n hx hb d_Md_run_0 rfl (lv_at hl 1 rfl) ?_
  refine lv_iconst (v := 1) hx hb d_Md_run_1 (by decide) ?_
  refine lv_bipush (v := 100) hx hb d_Md_run_2 (by decide) ?_
  refine ux_calli (va_runS ⟨hx, hb, hml, hown, hts⟩ (s_Md_outside l D ad cA A TB hA hB  M hI f 1 100) (va_cwS 3 hts (tb_goodST ml_Md_119 sm_Md_outside ii_Md kt_Md_outside) rfl rfl rfl (by decide +kernel) ⟨Nat.le_of_ble_eq_true rfl, Nat.le_of_ble_eq_true rfl⟩) (ux_pre hP hK hi hN) rfl rfl hl.1 rfl (lv_room (Nat.le_of_ble_eq_true rfl)) d_Md_run_4 ⟨Nat.zero_le _, Nat.zero_le _⟩) hS (fun r1 M2 H locs q3 hP hS => ?_)
  obtain ⟨hI, fq3, q3p⟩ := q3
  rw [tN_eq fq3] at hP hI
  have q3i : (r1.toInt = 0 ∧ 1 ≤ f.toInt ∧ f.toInt ≤ 100) ∨ (r1.toInt = 1 ∧ ¬ (1 ≤ f.toInt ∧ f.toInt ≤ 100)) := by rcases q3p with ⟨q, z⟩ | ⟨q, z⟩ <;> rw [q] <;> first | exact Or.inl ⟨rfl, z⟩ | exact Or.inr ⟨rfl, z⟩
  refine lv_if_eq hx hb d_Md_run_7 rfl (fun h4 => ?_) (fun h4 => ?_)
  · have g4 : r1.toInt = 0 := congrArg Int32.toInt h4
    have cut45 : ∀ (nn : Nat) (k3 : Nat) (Mc45 : ux_M) (H : Heap) (locs : List Loc) (ls : Array Slot), 10000000 - k3 = nn → (k3 ≤ 10000000) → (RunJ (200 + 4 * k3) Mc45) → (Mc45 0 2 = 1) → va_P D classes (ux_w shM KM ad cA Mc45) H → IvM A TB Mc45 → (∀ a b, ¬ mRun a b → Mc45 a b = M a b) → va_S (ux_A KM ad) s.heap H locs → lv_has ls 4 [(0, .ref (ad 0)), (2, .int 1), (3, .int (nI k3))] → W p l e (headSpec w_Md_run ({ frames := 11, cells := 0, slots := 0, locals := 250 })).room s m (([.ref (ad 0), .int f] : List Value).toArray) below meth c H locs 0 0 (MQ below (va_Qi (fun r M1 => IvM A TB M1 ∧ (∀ a b, ¬ mRun a b → M1 a b = M a b) ∧ (M1 0 2 = rnM M f)) (ux_E D shM KM ad cA) (ux_A KM ad)) (([.ref (ad 0), .int f] : List Value).toArray) s 0 0 (ux_A KM ad)) (F0 m 45 ls []) := by
      intro nn
      induction nn using Nat.strongRecOn with
      | ind nn ih45 =>
        intro k3 Mc45 H locs ls hn c45_0 c45_1 c45_2 hP hI hF hS hl
        refine lv_iload_n hx hb d_Md_run_45 rfl (lv_at hl 2 rfl) ?_
        refine lv_ldcw (v := 10000000) hx hb hown (hT _ co_Md_383) d_Md_run_46 ?_
        refine lv_icmp_ge hx hb d_Md_run_49 rfl (fun h5 => ?_) (fun h5 => ?_)
        · have g5 : 10000000 ≤ ((k3 : Nat) : Int) := by have q := Int32.le_iff_toInt_le.mp h5; rw [nI_toInt (n := k3) (by omega)] at q; exact q
          refine lv_aload_n hx hb d_Md_run_102 rfl (lv_at hl 0 rfl) ?_
          refine ux_get (C := R_Md) (T := F_Md) (N := 50) hx hb hT in_Md hown hK hP (by decide) rfl rfl 24 (by decide) (hT _ fl_Md_149) rfl d_Md_run_103 ?_
          refine lv_iconst (v := 3) hx hb d_Md_run_106 (by decide) ?_
          refine lv_icmp_eq hx hb d_Md_run_107 rfl (fun h6 => ?_) (fun h6 => ?_)
          · have g6 : (Mc45 0 24).toInt = 3 := congrArg Int32.toInt h6
            refine lv_aload_n hx hb d_Md_run_118 rfl (lv_at hl 0 rfl) ?_
            refine lv_bipush (v := 9) hx hb d_Md_run_119 (by decide) ?_
            refine ux_callv (va_runV ⟨hx, hb, hml, hown, hts⟩ (s_Md_error l D ad cA A TB hA hB  Mc45 hI 9) (cwV 1 hts (tb_goodV ml_Md_166 im_Md_error se_Md_error ii_Md kt_Md_error) rfl rfl rfl (by decide +kernel) ⟨Nat.le_of_ble_eq_true rfl, Nat.le_of_ble_eq_true rfl⟩) (ux_preV (by decide) rfl rfl hP hK hi hN) rfl rfl hl.1 rfl (lv_room (Nat.le_of_ble_eq_true rfl)) d_Md_run_121 ⟨Nat.zero_le _, Nat.zero_le _⟩) hS (fun M8 H locs q9 hP hS => ?_)
            obtain ⟨hI, fq9, q9p⟩ := q9
            have hF := fr_call hF fq9 (fun a b q => by unfold mEr at q; unfold mRun; omega)
            refine lv_aload_n hx hb d_Md_run_124 rfl (lv_at hl 0 rfl) ?_
            refine ux_get (C := R_Md) (T := F_Md) (N := 50) hx hb hT in_Md hown hK hP (by decide) rfl rfl 24 (by decide) (hT _ fl_Md_149) rfl d_Md_run_125 ?_
            refine lv_iconst (v := 2) hx hb d_Md_run_128 (by decide) ?_
            refine lv_icmp_ne hx hb d_Md_run_129 rfl (fun h10 => ?_) (fun h10 => ?_)
            · have g10 : ¬ ((M8 0 24).toInt = 2) := fun q => h10 (Int32.toInt_inj.mp q)
              refine lv_aload_n hx hb d_Md_run_136 rfl (lv_at hl 0 rfl) ?_
              refine ux_get (C := R_Md) (T := F_Md) (N := 50) hx hb hT in_Md hown hK hP (by decide) rfl rfl 24 (by decide) (hT _ fl_Md_149) rfl d_Md_run_137 ?_
              exact W.iret (v := M8 0 24) hx hb hr (fun t ht hW => ⟨⟨M8 0 24, M8, rfl, ⟨hI, hF, (by unfold rnM; rw [if_pos (by omega)]; exact (fq9 _ _ (by unfold mEr; omega)).trans (c45_2))⟩, by unfold ux_E; rw [ht]; exact hP⟩, hS.F ht⟩) hS.2.2 d_Md_run_140
            · have g10 : (M8 0 24).toInt = 2 := congrArg Int32.toInt h10
              refine lv_iconst (v := 0) hx hb d_Md_run_132 (by decide) ?_
              refine lv_goto hx hb d_Md_run_133 rfl ?_
              exact W.iret (v := 0) hx hb hr (fun t ht hW => ⟨⟨0, M8, rfl, ⟨hI, hF, (by unfold rnM; rw [if_pos (by omega)]; exact (fq9 _ _ (by unfold mEr; omega)).trans (c45_2))⟩, by unfold ux_E; rw [ht]; exact hP⟩, hS.F ht⟩) hS.2.2 d_Md_run_140
          · have g6 : ¬ ((Mc45 0 24).toInt = 3) := fun q => h6 (Int32.toInt_inj.mp q)
            refine lv_aload_n hx hb d_Md_run_110 rfl (lv_at hl 0 rfl) ?_
            refine ux_get (C := R_Md) (T := F_Md) (N := 50) hx hb hT in_Md hown hK hP (by decide) rfl rfl 24 (by decide) (hT _ fl_Md_149) rfl d_Md_run_111 ?_
            refine lv_iconst (v := 4) hx hb d_Md_run_114 (by decide) ?_
            refine lv_icmp_ne hx hb d_Md_run_115 rfl (fun h11 => ?_) (fun h11 => ?_)
            · have g11 : ¬ ((Mc45 0 24).toInt = 4) := fun q => h11 (Int32.toInt_inj.mp q)
              refine lv_aload_n hx hb d_Md_run_124 rfl (lv_at hl 0 rfl) ?_
              refine ux_get (C := R_Md) (T := F_Md) (N := 50) hx hb hT in_Md hown hK hP (by decide) rfl rfl 24 (by decide) (hT _ fl_Md_149) rfl d_Md_run_125 ?_
              refine lv_iconst (v := 2) hx hb d_Md_run_128 (by decide) ?_
              refine lv_icmp_ne hx hb d_Md_run_129 rfl (fun h12 => ?_) (fun h12 => ?_)
              · have g12 : ¬ ((Mc45 0 24).toInt = 2) := fun q => h12 (Int32.toInt_inj.mp q)
                refine lv_aload_n hx hb d_Md_run_136 rfl (lv_at hl 0 rfl) ?_
                refine ux_get (C := R_Md) (T := F_Md) (N := 50) hx hb hT in_Md hown hK hP (by decide) rfl rfl 24 (by decide) (hT _ fl_Md_149) rfl d_Md_run_137 ?_
                exact W.iret (v := Mc45 0 24) hx hb hr (fun t ht hW => ⟨⟨Mc45 0 24, Mc45, rfl, ⟨hI, hF, (by unfold rnM; rw [if_pos (by omega)]; exact c45_2)⟩, by unfold ux_E; rw [ht]; exact hP⟩, hS.F ht⟩) hS.2.2 d_Md_run_140
              · have g12 : (Mc45 0 24).toInt = 2 := congrArg Int32.toInt h12
                refine lv_iconst (v := 0) hx hb d_Md_run_132 (by decide) ?_
                refine lv_goto hx hb d_Md_run_133 rfl ?_
                exact W.iret (v := 0) hx hb hr (fun t ht hW => ⟨⟨0, Mc45, rfl, ⟨hI, hF, (by unfold rnM; rw [if_pos (by omega)]; exact c45_2)⟩, by unfold ux_E; rw [ht]; exact hP⟩, hS.F ht⟩) hS.2.2 d_Md_run_140
            · have g11 : (Mc45 0 24).toInt = 4 := congrArg Int32.toInt h11
              refine lv_aload_n hx hb d_Md_run_118 rfl (lv_at hl 0 rfl) ?_
              refine lv_bipush (v := 9) hx hb d_Md_run_119 (by decide) ?_
              refine ux_callv (va_runV ⟨hx, hb, hml, hown, hts⟩ (s_Md_error l D ad cA A TB hA hB  Mc45 hI 9) (cwV 1 hts (tb_goodV ml_Md_166 im_Md_error se_Md_error ii_Md kt_Md_error) rfl rfl rfl (by decide +kernel) ⟨Nat.le_of_ble_eq_true rfl, Nat.le_of_ble_eq_true rfl⟩) (ux_preV (by decide) rfl rfl hP hK hi hN) rfl rfl hl.1 rfl (lv_room (Nat.le_of_ble_eq_true rfl)) d_Md_run_121 ⟨Nat.zero_le _, Nat.zero_le _⟩) hS (fun M14 H locs q15 hP hS => ?_)
              obtain ⟨hI, fq15, q15p⟩ := q15
              have hF := fr_call hF fq15 (fun a b q => by unfold mEr at q; unfold mRun; omega)
              refine lv_aload_n hx hb d_Md_run_124 rfl (lv_at hl 0 rfl) ?_
              refine ux_get (C := R_Md) (T := F_Md) (N := 50) hx hb hT in_Md hown hK hP (by decide) rfl rfl 24 (by decide) (hT _ fl_Md_149) rfl d_Md_run_125 ?_
              refine lv_iconst (v := 2) hx hb d_Md_run_128 (by decide) ?_
              refine lv_icmp_ne hx hb d_Md_run_129 rfl (fun h16 => ?_) (fun h16 => ?_)
              · have g16 : ¬ ((M14 0 24).toInt = 2) := fun q => h16 (Int32.toInt_inj.mp q)
                refine lv_aload_n hx hb d_Md_run_136 rfl (lv_at hl 0 rfl) ?_
                refine ux_get (C := R_Md) (T := F_Md) (N := 50) hx hb hT in_Md hown hK hP (by decide) rfl rfl 24 (by decide) (hT _ fl_Md_149) rfl d_Md_run_137 ?_
                exact W.iret (v := M14 0 24) hx hb hr (fun t ht hW => ⟨⟨M14 0 24, M14, rfl, ⟨hI, hF, (by unfold rnM; rw [if_pos (by omega)]; exact (fq15 _ _ (by unfold mEr; omega)).trans (c45_2))⟩, by unfold ux_E; rw [ht]; exact hP⟩, hS.F ht⟩) hS.2.2 d_Md_run_140
              · have g16 : (M14 0 24).toInt = 2 := congrArg Int32.toInt h16
                refine lv_iconst (v := 0) hx hb d_Md_run_132 (by decide) ?_
                refine lv_goto hx hb d_Md_run_133 rfl ?_
                exact W.iret (v := 0) hx hb hr (fun t ht hW => ⟨⟨0, M14, rfl, ⟨hI, hF, (by unfold rnM; rw [if_pos (by omega)]; exact (fq15 _ _ (by unfold mEr; omega)).trans (c45_2))⟩, by unfold ux_E; rw [ht]; exact hP⟩, hS.F ht⟩) hS.2.2 d_Md_run_140
        · have g5 : ¬ (10000000 ≤ ((k3 : Nat) : Int)) := fun q => h5 (Int32.le_iff_toInt_le.mpr (by rw [nI_toInt (n := k3) (by omega)]; exact q))
          refine lv_iload_n hx hb d_Md_run_52 rfl (lv_at hl 1 rfl) ?_
          refine lv_if_eq hx hb d_Md_run_53 rfl (fun hz => absurd hz (by decide)) (fun _ => ?_)
          refine lv_aload_n hx hb d_Md_run_56 rfl (lv_at hl 0 rfl) ?_
          refine ux_get (C := R_Md) (T := F_Md) (N := 50) hx hb hT in_Md hown hK hP (by decide) rfl rfl 10 (by decide) (hT _ fl_Md_36) rfl d_Md_run_57 ?_
          have b17 : (-1 : Int) ≤ (Mc45 0 10).toInt ∧ (Mc45 0 10).toInt ≤ 7 := hI.1 0 10
          refine lv_if_lt hx hb d_Md_run_60 rfl (fun h18 => ?_) (fun h18 => ?_)
          · have g18 : (Mc45 0 10).toInt < 0 := Int32.lt_iff_toInt_lt.mp h18
            have w18 := ti_lo (Mc45 0 10)
            refine lv_aload_n hx hb d_Md_run_102 rfl (lv_at hl 0 rfl) ?_
            refine ux_get (C := R_Md) (T := F_Md) (N := 50) hx hb hT in_Md hown hK hP (by decide) rfl rfl 24 (by decide) (hT _ fl_Md_149) rfl d_Md_run_103 ?_
            refine lv_iconst (v := 3) hx hb d_Md_run_106 (by decide) ?_
            refine lv_icmp_eq hx hb d_Md_run_107 rfl (fun h19 => ?_) (fun h19 => ?_)
            · have g19 : (Mc45 0 24).toInt = 3 := congrArg Int32.toInt h19
              refine lv_aload_n hx hb d_Md_run_118 rfl (lv_at hl 0 rfl) ?_
              refine lv_bipush (v := 9) hx hb d_Md_run_119 (by decide) ?_
              refine ux_callv (va_runV ⟨hx, hb, hml, hown, hts⟩ (s_Md_error l D ad cA A TB hA hB  Mc45 hI 9) (cwV 1 hts (tb_goodV ml_Md_166 im_Md_error se_Md_error ii_Md kt_Md_error) rfl rfl rfl (by decide +kernel) ⟨Nat.le_of_ble_eq_true rfl, Nat.le_of_ble_eq_true rfl⟩) (ux_preV (by decide) rfl rfl hP hK hi hN) rfl rfl hl.1 rfl (lv_room (Nat.le_of_ble_eq_true rfl)) d_Md_run_121 ⟨Nat.zero_le _, Nat.zero_le _⟩) hS (fun M21 H locs q22 hP hS => ?_)
              obtain ⟨hI, fq22, q22p⟩ := q22
              have hF := fr_call hF fq22 (fun a b q => by unfold mEr at q; unfold mRun; omega)
              refine lv_aload_n hx hb d_Md_run_124 rfl (lv_at hl 0 rfl) ?_
              refine ux_get (C := R_Md) (T := F_Md) (N := 50) hx hb hT in_Md hown hK hP (by decide) rfl rfl 24 (by decide) (hT _ fl_Md_149) rfl d_Md_run_125 ?_
              refine lv_iconst (v := 2) hx hb d_Md_run_128 (by decide) ?_
              refine lv_icmp_ne hx hb d_Md_run_129 rfl (fun h23 => ?_) (fun h23 => ?_)
              · have g23 : ¬ ((M21 0 24).toInt = 2) := fun q => h23 (Int32.toInt_inj.mp q)
                refine lv_aload_n hx hb d_Md_run_136 rfl (lv_at hl 0 rfl) ?_
                refine ux_get (C := R_Md) (T := F_Md) (N := 50) hx hb hT in_Md hown hK hP (by decide) rfl rfl 24 (by decide) (hT _ fl_Md_149) rfl d_Md_run_137 ?_
                exact W.iret (v := M21 0 24) hx hb hr (fun t ht hW => ⟨⟨M21 0 24, M21, rfl, ⟨hI, hF, (by unfold rnM; rw [if_pos (by omega)]; exact (fq22 _ _ (by unfold mEr; omega)).trans (c45_2))⟩, by unfold ux_E; rw [ht]; exact hP⟩, hS.F ht⟩) hS.2.2 d_Md_run_140
              · have g23 : (M21 0 24).toInt = 2 := congrArg Int32.toInt h23
                refine lv_iconst (v := 0) hx hb d_Md_run_132 (by decide) ?_
                refine lv_goto hx hb d_Md_run_133 rfl ?_
                exact W.iret (v := 0) hx hb hr (fun t ht hW => ⟨⟨0, M21, rfl, ⟨hI, hF, (by unfold rnM; rw [if_pos (by omega)]; exact (fq22 _ _ (by unfold mEr; omega)).trans (c45_2))⟩, by unfold ux_E; rw [ht]; exact hP⟩, hS.F ht⟩) hS.2.2 d_Md_run_140
            · have g19 : ¬ ((Mc45 0 24).toInt = 3) := fun q => h19 (Int32.toInt_inj.mp q)
              refine lv_aload_n hx hb d_Md_run_110 rfl (lv_at hl 0 rfl) ?_
              refine ux_get (C := R_Md) (T := F_Md) (N := 50) hx hb hT in_Md hown hK hP (by decide) rfl rfl 24 (by decide) (hT _ fl_Md_149) rfl d_Md_run_111 ?_
              refine lv_iconst (v := 4) hx hb d_Md_run_114 (by decide) ?_
              refine lv_icmp_ne hx hb d_Md_run_115 rfl (fun h24 => ?_) (fun h24 => ?_)
              · have g24 : ¬ ((Mc45 0 24).toInt = 4) := fun q => h24 (Int32.toInt_inj.mp q)
                refine lv_aload_n hx hb d_Md_run_124 rfl (lv_at hl 0 rfl) ?_
                refine ux_get (C := R_Md) (T := F_Md) (N := 50) hx hb hT in_Md hown hK hP (by decide) rfl rfl 24 (by decide) (hT _ fl_Md_149) rfl d_Md_run_125 ?_
                refine lv_iconst (v := 2) hx hb d_Md_run_128 (by decide) ?_
                refine lv_icmp_ne hx hb d_Md_run_129 rfl (fun h25 => ?_) (fun h25 => ?_)
                · have g25 : ¬ ((Mc45 0 24).toInt = 2) := fun q => h25 (Int32.toInt_inj.mp q)
                  refine lv_aload_n hx hb d_Md_run_136 rfl (lv_at hl 0 rfl) ?_
                  refine ux_get (C := R_Md) (T := F_Md) (N := 50) hx hb hT in_Md hown hK hP (by decide) rfl rfl 24 (by decide) (hT _ fl_Md_149) rfl d_Md_run_137 ?_
                  exact W.iret (v := Mc45 0 24) hx hb hr (fun t ht hW => ⟨⟨Mc45 0 24, Mc45, rfl, ⟨hI, hF, (by unfold rnM; rw [if_pos (by omega)]; exact c45_2)⟩, by unfold ux_E; rw [ht]; exact hP⟩, hS.F ht⟩) hS.2.2 d_Md_run_140
                · have g25 : (Mc45 0 24).toInt = 2 := congrArg Int32.toInt h25
                  refine lv_iconst (v := 0) hx hb d_Md_run_132 (by decide) ?_
                  refine lv_goto hx hb d_Md_run_133 rfl ?_
                  exact W.iret (v := 0) hx hb hr (fun t ht hW => ⟨⟨0, Mc45, rfl, ⟨hI, hF, (by unfold rnM; rw [if_pos (by omega)]; exact c45_2)⟩, by unfold ux_E; rw [ht]; exact hP⟩, hS.F ht⟩) hS.2.2 d_Md_run_140
              · have g24 : (Mc45 0 24).toInt = 4 := congrArg Int32.toInt h24
                refine lv_aload_n hx hb d_Md_run_118 rfl (lv_at hl 0 rfl) ?_
                refine lv_bipush (v := 9) hx hb d_Md_run_119 (by decide) ?_
                refine ux_callv (va_runV ⟨hx, hb, hml, hown, hts⟩ (s_Md_error l D ad cA A TB hA hB  Mc45 hI 9) (cwV 1 hts (tb_goodV ml_Md_166 im_Md_error se_Md_error ii_Md kt_Md_error) rfl rfl rfl (by decide +kernel) ⟨Nat.le_of_ble_eq_true rfl, Nat.le_of_ble_eq_true rfl⟩) (ux_preV (by decide) rfl rfl hP hK hi hN) rfl rfl hl.1 rfl (lv_room (Nat.le_of_ble_eq_true rfl)) d_Md_run_121 ⟨Nat.zero_le _, Nat.zero_le _⟩) hS (fun M27 H locs q28 hP hS => ?_)
                obtain ⟨hI, fq28, q28p⟩ := q28
                have hF := fr_call hF fq28 (fun a b q => by unfold mEr at q; unfold mRun; omega)
                refine lv_aload_n hx hb d_Md_run_124 rfl (lv_at hl 0 rfl) ?_
                refine ux_get (C := R_Md) (T := F_Md) (N := 50) hx hb hT in_Md hown hK hP (by decide) rfl rfl 24 (by decide) (hT _ fl_Md_149) rfl d_Md_run_125 ?_
                refine lv_iconst (v := 2) hx hb d_Md_run_128 (by decide) ?_
                refine lv_icmp_ne hx hb d_Md_run_129 rfl (fun h29 => ?_) (fun h29 => ?_)
                · have g29 : ¬ ((M27 0 24).toInt = 2) := fun q => h29 (Int32.toInt_inj.mp q)
                  refine lv_aload_n hx hb d_Md_run_136 rfl (lv_at hl 0 rfl) ?_
                  refine ux_get (C := R_Md) (T := F_Md) (N := 50) hx hb hT in_Md hown hK hP (by decide) rfl rfl 24 (by decide) (hT _ fl_Md_149) rfl d_Md_run_137 ?_
                  exact W.iret (v := M27 0 24) hx hb hr (fun t ht hW => ⟨⟨M27 0 24, M27, rfl, ⟨hI, hF, (by unfold rnM; rw [if_pos (by omega)]; exact (fq28 _ _ (by unfold mEr; omega)).trans (c45_2))⟩, by unfold ux_E; rw [ht]; exact hP⟩, hS.F ht⟩) hS.2.2 d_Md_run_140
                · have g29 : (M27 0 24).toInt = 2 := congrArg Int32.toInt h29
                  refine lv_iconst (v := 0) hx hb d_Md_run_132 (by decide) ?_
                  refine lv_goto hx hb d_Md_run_133 rfl ?_
                  exact W.iret (v := 0) hx hb hr (fun t ht hW => ⟨⟨0, M27, rfl, ⟨hI, hF, (by unfold rnM; rw [if_pos (by omega)]; exact (fq28 _ _ (by unfold mEr; omega)).trans (c45_2))⟩, by unfold ux_E; rw [ht]; exact hP⟩, hS.F ht⟩) hS.2.2 d_Md_run_140
          · have g18 : ¬ ((Mc45 0 10).toInt < 0) := fun q => h18 (Int32.lt_iff_toInt_lt.mpr q)
            have u18 := ti_hi (Mc45 0 10)
            obtain ⟨L, hL, hlv, hJ⟩ := (show _ ∨ _ from c45_1).resolve_left (fun z => by have z := congrArg Int32.toInt z; rw [show (-1 : Int32).toInt = -1 from rfl] at z; omega)
            refine lv_aload_n hx hb d_Md_run_63 rfl (lv_at hl 0 rfl) ?_
            refine ux_get (C := R_Md) (T := F_Md) (N := 50) hx hb hT in_Md hown hK hP (by decide) rfl rfl 23 (by decide) (hT _ fl_Md_152) rfl d_Md_run_64 ?_
            refine lv_if_ne hx hb d_Md_run_67 rfl (fun h30 => ?_) (fun h30 => ?_)
            · have g30 : ¬ ((Mc45 0 23).toInt = 0) := fun q => h30 (Int32.toInt_inj.mp q)
              refine lv_aload_n hx hb d_Md_run_77 rfl (lv_at hl 0 rfl) ?_
              refine ux_get (C := R_Md) (T := F_Md) (N := 50) hx hb hT in_Md hown hK hP (by decide) rfl rfl 23 (by decide) (hT _ fl_Md_152) rfl d_Md_run_78 ?_
              refine lv_iconst (v := 1) hx hb d_Md_run_81 (by decide) ?_
              refine lv_icmp_ne hx hb d_Md_run_82 rfl (fun h31 => ?_) (fun h31 => ?_)
              · have g31 : ¬ ((Mc45 0 23).toInt = 1) := fun q => h31 (Int32.toInt_inj.mp q)
                rcases Nat.eq_zero_or_pos L with hL0 | hL0
                · have hlv0 : Mc45 0 10 = 0 := by rw [hlv, hL0]; rfl
                  refine lv_aload_n hx hb d_Md_run_92 rfl (lv_at hl 0 rfl) ?_
                  refine ux_callv (va_runV ⟨hx, hb, hml, hown, hts⟩ (s_Md_scriptEnded_0 l D ad cA A TB hA hB  Mc45 hI hlv0) (cwV 0 hts (tb_goodV ml_Md_390 im_Md_scriptEnded se_Md_scriptEnded ii_Md kt_Md_scriptEnded) rfl rfl rfl (by decide +kernel) ⟨Nat.le_of_ble_eq_true rfl, Nat.le_of_ble_eq_true rfl⟩) (ux_preV (by decide) rfl rfl hP hK hi hN) rfl rfl hl.1 rfl (lv_room (Nat.le_of_ble_eq_true rfl)) d_Md_run_93 ⟨Nat.zero_le _, Nat.zero_le _⟩) hS (fun M33 H locs q34 hP hS => ?_)
                  obtain ⟨hI, fq34, q34p⟩ := q34
                  have hF := fr_call hF fq34 (fun a b q => by unfold mS0 at q; unfold mRun; omega)
                  refine lv_iinc (k := 2) (v := nI (k3 + 1)) hx hb d_Md_run_96 hl rfl (nI_add k3 1) (by decide) rfl (fun ls hl => ?_)
                  have hl : lv_has ls 4 [(3, .int (nI (k3 + 1))), (0, .ref (ad 0)), (2, .int 1)] := hl
                  refine lv_goto hx hb d_Md_run_99 rfl ?_
                  exact ih45 (10000000 - (k3 + 1)) (by omega) (k3 + 1) M33 _ _ ls rfl (show (k3 + 1) ≤ 10000000 from by first | omega | assumption | exact Or.inl rfl | exact Or.inr rfl | rfl | decide) (show RunJ (200 + 4 * (k3 + 1)) M33 from by first | exact Or.inl q34p) (show M33 0 2 = 1 from by first | exact (fq34 _ _ (by unfold mS0; omega)).trans (c45_2)) hP hI hF hS (lv_sub hl [1, 2, 0] rfl)
                · obtain ⟨L, rfl⟩ : ∃ q, L = q + 1 := ⟨L - 1, by omega⟩
                  have hL6 : L ≤ 6 := by omega
                  have hL : L ≤ 7 := by omega
                  obtain ⟨an, han2, han⟩ := nat_of (x := Mc45 9 L) (n := A) (hI.1 9 L).1 (hI.1 9 L).2
                  have hanz : an ≤ 200 + 4 * k3 := by have q := (hJ.1 L (by omega)).2; rw [han, nI_toInt (by omega)] at q; omega
                  obtain ⟨ap, hap2, hap⟩ := nat_of (x := Mc45 9 (L + 1)) (n := A) (hI.1 9 (L + 1)).1 (hI.1 9 (L + 1)).2
                  have hapz : ap ≤ 200 + 4 * k3 := by have q := (hJ.1 (L + 1) (by omega)).2; rw [hap, nI_toInt (by omega)] at q; omega
                  refine lv_aload_n hx hb d_Md_run_92 rfl (lv_at hl 0 rfl) ?_
                  refine ux_callv (va_runV ⟨hx, hb, hml, hown, hts⟩ (s_Md_scriptEnded_s l D ad cA A TB hA hB  Mc45 hI L hL hL6 hlv (200 + 4 * k3) an han hanz (by omega) ap hap hapz (by omega) (hJ.1 L (by omega)).1 (hJ.2.1 L (by omega)) (by assumption)) (cwV 0 hts (tb_goodV ml_Md_390 im_Md_scriptEnded se_Md_scriptEnded ii_Md kt_Md_scriptEnded) rfl rfl rfl (by decide +kernel) ⟨Nat.le_of_ble_eq_true rfl, Nat.le_of_ble_eq_true rfl⟩) (ux_preV (by decide) rfl rfl hP hK hi hN) rfl rfl hl.1 rfl (lv_room (Nat.le_of_ble_eq_true rfl)) d_Md_run_93 ⟨Nat.zero_le _, Nat.zero_le _⟩) hS (fun M36 H locs q37 hP hS => ?_)
                  obtain ⟨hI, fq37, q37p⟩ := q37
                  have hF := fr_call hF fq37 (fun a b q => by unfold mRd at q; unfold mRun; omega)
                  refine lv_iinc (k := 2) (v := nI (k3 + 1)) hx hb d_Md_run_96 hl rfl (nI_add k3 1) (by decide) rfl (fun ls hl => ?_)
                  have hl : lv_has ls 4 [(3, .int (nI (k3 + 1))), (0, .ref (ad 0)), (2, .int 1)] := hl
                  refine lv_goto hx hb d_Md_run_99 rfl ?_
                  exact ih45 (10000000 - (k3 + 1)) (by omega) (k3 + 1) M36 _ _ ls rfl (show (k3 + 1) ≤ 10000000 from by first | omega | assumption | exact Or.inl rfl | exact Or.inr rfl | rfl | decide) (show RunJ (200 + 4 * (k3 + 1)) M36 from by first | exact RunJ_mono (Nx_Jm fq37 hL (fun i hi => (hJ.1 i (by omega)).1) (fun i hi => (hJ.1 i (by omega)).2) (fun i hi => hJ.2.1 i (by omega)) q37p) (by omega)) (show M36 0 2 = 1 from by first | exact (fq37 _ _ (by unfold mRd; omega)).trans (c45_2)) hP hI hF hS (lv_sub hl [1, 2, 0] rfl)
              · have g31 : (Mc45 0 23).toInt = 1 := congrArg Int32.toInt h31
                obtain ⟨an, han2, han⟩ := nat_of (x := Mc45 9 L) (n := A) (hI.1 9 L).1 (hI.1 9 L).2
                have hanz : an ≤ 200 + 4 * k3 := by have q := (hJ.1 L (by omega)).2; rw [han, nI_toInt (by omega)] at q; omega
                refine lv_aload_n hx hb d_Md_run_85 rfl (lv_at hl 0 rfl) ?_
                refine ux_callv (va_runV ⟨hx, hb, hml, hown, hts⟩ (s_Md_commandEnded l D ad cA A TB hA hB  Mc45 hI L hL hlv (200 + 4 * k3) an han hanz (by omega) (hJ.1 L (Nat.le_refl L)).1 (hJ.2.2 (by assumption))) (cwV 0 hts (tb_goodV ml_Md_387 im_Md_commandEnded se_Md_commandEnded ii_Md kt_Md_commandEnded) rfl rfl rfl (by decide +kernel) ⟨Nat.le_of_ble_eq_true rfl, Nat.le_of_ble_eq_true rfl⟩) (ux_preV (by decide) rfl rfl hP hK hi hN) rfl rfl hl.1 rfl (lv_room (Nat.le_of_ble_eq_true rfl)) d_Md_run_86 ⟨Nat.zero_le _, Nat.zero_le _⟩) hS (fun M39 H locs q40 hP hS => ?_)
                obtain ⟨hI, fq40, q40p⟩ := q40
                have hF := fr_call hF fq40 (fun a b q => by unfold mRd at q; unfold mRun; omega)
                refine lv_goto hx hb d_Md_run_89 rfl ?_
                refine lv_iinc (k := 2) (v := nI (k3 + 1)) hx hb d_Md_run_96 hl rfl (nI_add k3 1) (by decide) rfl (fun ls hl => ?_)
                have hl : lv_has ls 4 [(3, .int (nI (k3 + 1))), (0, .ref (ad 0)), (2, .int 1)] := hl
                refine lv_goto hx hb d_Md_run_99 rfl ?_
                exact ih45 (10000000 - (k3 + 1)) (by omega) (k3 + 1) M39 _ _ ls rfl (show (k3 + 1) ≤ 10000000 from by first | omega | assumption | exact Or.inl rfl | exact Or.inr rfl | rfl | decide) (show RunJ (200 + 4 * (k3 + 1)) M39 from by first | exact RunJ_mono (Nx_Jm fq40 hL (fun i hi => (hJ.1 i (by omega)).1) (fun i hi => (hJ.1 i (by omega)).2) (fun i hi => hJ.2.1 i (by omega)) q40p) (by omega)) (show M39 0 2 = 1 from by first | exact (fq40 _ _ (by unfold mRd; omega)).trans (c45_2)) hP hI hF hS (lv_sub hl [1, 2, 0] rfl)
            · have g30 : (Mc45 0 23).toInt = 0 := congrArg Int32.toInt h30
              obtain ⟨an, han2, han⟩ := nat_of (x := Mc45 9 L) (n := A) (hI.1 9 L).1 (hI.1 9 L).2
              have hanz : an ≤ 200 + 4 * k3 := by have q := (hJ.1 L (by omega)).2; rw [han, nI_toInt (by omega)] at q; omega
              obtain ⟨en, hen2, hen⟩ := nat_of (x := Mc45 10 L) (n := 200) (hI.1 10 L).1 (hI.1 10 L).2
              obtain ⟨cw, hcw2, hcw⟩ := nat_of (x := Mc45 14 L) (n := 8) (hI.1 14 L).1 (hI.1 14 L).2
              have hop : ¬ Mc45 13 L = 0 → cw ≤ 7 ∧ Mc45 17 (8 * L + cw) = 0 := fun z => by
                obtain ⟨c2, e1, e2, e3⟩ := (hJ.1 L (Nat.le_refl L)).1 z
                obtain rfl : cw = c2 := nI_inj (by omega) (by omega) (hcw.symm.trans e1)
                exact ⟨e2, e3⟩
              refine lv_aload_n hx hb d_Md_run_70 rfl (lv_at hl 0 rfl) ?_
              refine ux_callv (va_runV ⟨hx, hb, hml, hown, hts⟩ (s_Md_read l D ad cA A TB hA hB  Mc45 hI L hL hlv (200 + 4 * k3) an en cw han hen hcw hanz (by omega) (by omega) hen2 hcw2 (by assumption) hop) (cwV 0 hts (tb_goodV ml_Md_384 im_Md_read se_Md_read ii_Md kt_Md_read) rfl rfl rfl (by decide +kernel) ⟨Nat.le_of_ble_eq_true rfl, Nat.le_of_ble_eq_true rfl⟩) (ux_preV (by decide) rfl rfl hP hK hi hN) rfl rfl hl.1 rfl (lv_room (Nat.le_of_ble_eq_true rfl)) d_Md_run_71 ⟨Nat.zero_le _, Nat.zero_le _⟩) hS (fun M42 H locs q43 hP hS => ?_)
              obtain ⟨hI, fq43, q43p⟩ := q43
              have hF := fr_call hF fq43 (fun a b q => by unfold mRd at q; unfold mRun; omega)
              refine lv_goto hx hb d_Md_run_74 rfl ?_
              refine lv_iinc (k := 2) (v := nI (k3 + 1)) hx hb d_Md_run_96 hl rfl (nI_add k3 1) (by decide) rfl (fun ls hl => ?_)
              have hl : lv_has ls 4 [(3, .int (nI (k3 + 1))), (0, .ref (ad 0)), (2, .int 1)] := hl
              refine lv_goto hx hb d_Md_run_99 rfl ?_
              exact ih45 (10000000 - (k3 + 1)) (by omega) (k3 + 1) M42 _ _ ls rfl (show (k3 + 1) ≤ 10000000 from by first | omega | assumption | exact Or.inl rfl | exact Or.inr rfl | rfl | decide) (show RunJ (200 + 4 * (k3 + 1)) M42 from by first | exact RunJ_mono (Nx_Jm fq43 hL (fun i hi => (hJ.1 i (by omega)).1) (fun i hi => (hJ.1 i (by omega)).2) (fun i hi => hJ.2.1 i (by omega)) q43p) (by omega)) (show M42 0 2 = 1 from by first | exact (fq43 _ _ (by unfold mRd; omega)).trans (c45_2)) hP hI hF hS (lv_sub hl [1, 2, 0] rfl)
    refine lv_aload_n hx hb d_Md_run_12 rfl (lv_at hl 0 rfl) ?_
    refine lv_iload_n hx hb d_Md_run_13 rfl (lv_at hl 1 rfl) ?_
    refine ux_put (C := R_Md) (T := F_Md) (N := 50) hx hb hT in_Md t_Md t_Md_ok n_Md hown hK hi hP hS (by decide) rfl rfl 27 (by decide) (hT _ fl_Md_229) rfl (rfl) (rfl) rfl d_Md_run_14 (fun H locs hP hS => ?_)
    have hI := Eq.refl (ux_wr M 0 27 f)
    have hF := fr_wr (k := 0) (j := 27) (v := f) hF (by unfold mRun; omega)
    generalize eM44 : ux_wr M 0 27 f = M44 at hP hI hF
    have tM44 : (M44 0 27).toInt = f.toInt := by rw [wr_at eM44]
    refine lv_aload_n hx hb d_Md_run_17 rfl (lv_at hl 0 rfl) ?_
    refine lv_iconst (v := 0) hx hb d_Md_run_18 (by decide) ?_
    refine ux_put (C := R_Md) (T := F_Md) (N := 50) hx hb hT in_Md t_Md t_Md_ok n_Md hown hK hi hP hS (by decide) rfl rfl 28 (by decide) (hT _ fl_Md_232) rfl (rfl) (rfl) rfl d_Md_run_19 (fun H locs hP hS => ?_)
    have hI := IvM_fuel hI0 eM44 (by omega) (by omega) hTB
    have hF := fr_wr (k := 0) (j := 28) (v := 0) hF (by unfold mRun; omega)
    generalize eM45 : ux_wr M44 0 28 0 = M45 at hP hI hF
    have tM45 : (M45 0 28).toInt = 0 := by rw [wr_at eM45]; rfl
    refine lv_aload_n hx hb d_Md_run_22 rfl (lv_at hl 0 rfl) ?_
    refine lv_iconst (v := 1) hx hb d_Md_run_23 (by decide) ?_
    refine ux_put (C := R_Md) (T := F_Md) (N := 50) hx hb hT in_Md t_Md t_Md_ok n_Md hown hK hi hP hS (by decide) rfl rfl 2 (by decide) (hT _ fl_Md_115) rfl (rfl) (rfl) rfl d_Md_run_24 (fun H locs hP hS => ?_)
    have hI := IvM_free (k := 0) (j := 2) (v := 1) hI rfl rfl (by unfold okW; omega)
    have hF := fr_wr (k := 0) (j := 2) (v := 1) hF (by unfold mRun; omega)
    generalize eM46 : ux_wr M45 0 2 1 = M46 at hP hI hF
    refine lv_aload_n hx hb d_Md_run_27 rfl (lv_at hl 0 rfl) ?_
    refine lv_iconst (v := (-1)) hx hb d_Md_run_28 (by decide) ?_
    refine ux_put (C := R_Md) (T := F_Md) (N := 50) hx hb hT in_Md t_Md t_Md_ok n_Md hown hK hi hP hS (by decide) rfl rfl 10 (by decide) (hT _ fl_Md_36) rfl (rfl) (rfl) rfl d_Md_run_29 (fun H locs hP hS => ?_)
    have hI := IvM_wr (k := 0) (j := 10) (v := -1) hI (show (-1 : Int) ≤ (-1 : Int32).toInt from (by decide)) (show (-1 : Int32).toInt ≤ (7 : Int) from (by first | decide | (show (-1 : Int) ≤ _; omega))) (by unfold okW; omega)
    have hF := fr_wr (k := 0) (j := 10) (v := -1) hF (by unfold mRun; omega)
    generalize eM47 : ux_wr M46 0 10 (-1) = M47 at hP hI hF
    have tM47 : (M47 0 10).toInt = (-1) := by rw [wr_at eM47]; rfl
    refine lv_aload_n hx hb d_Md_run_32 rfl (lv_at hl 0 rfl) ?_
    refine lv_iconst (v := 0) hx hb d_Md_run_33 (by decide) ?_
    refine lv_aload_n hx hb d_Md_run_34 rfl (lv_at hl 0 rfl) ?_
    refine ux_get (C := R_Md) (T := F_Md) (N := 50) hx hb hT in_Md hown hK hP (by decide) rfl rfl 1 (by decide) (hT _ fl_Md_112) rfl d_Md_run_35 ?_
    refine lv_topi (fun z49 hz49 => ?_)
    obtain ⟨c48, hc48, ec48⟩ := nat_of (x := M47 0 1) (n := 200) (hI.1 0 1).1 (hI.1 0 1).2
    rw [ec48] at hz49
    rw [hz49]
    have tc48 : (M47 0 1).toInt = (c48 : Int) := by rw [ec48]; exact nI_toInt (by omega)
    refine lv_iconst (v := 0) hx hb d_Md_run_38 (by decide) ?_
    refine ux_calli (va_runV ⟨hx, hb, hml, hown, hts⟩ (s_Md_enter0 l D ad cA A TB hA hB  M47 hI (wr_at eM47) c48 (by omega)) (cwV 3 hts (tb_goodV ml_Md_173 im_Md_enter se_Md_enter ii_Md kt_Md_enter) rfl rfl rfl (by decide +kernel) ⟨Nat.le_of_ble_eq_true rfl, Nat.le_of_ble_eq_true rfl⟩) (ux_preV (by decide) rfl rfl hP hK hi hN) rfl rfl hl.1 rfl (lv_room (Nat.le_of_ble_eq_true rfl)) d_Md_run_39 ⟨Nat.zero_le _, Nat.zero_le _⟩) hS (fun r50 M51 H locs q52 hP hS => ?_)
    obtain ⟨hI, fq52, q52p⟩ := q52
    have hF := fr_call hF fq52 (fun a b q => by unfold mEn0 at q; unfold mRun; omega)
    obtain ⟨q52r, q52l, q52s, q52m, q52a⟩ := q52p
    subst q52r
    refine lv_istore_n hx hb d_Md_run_42 rfl hl (by decide) rfl (fun ls hl => ?_)
    have hl : lv_has ls 4 [(2, .int 1), (0, .ref (ad 0)), (1, .int f)] := hl
    refine lv_iconst (v := 0) hx hb d_Md_run_43 (by decide) ?_
    refine lv_istore_n hx hb d_Md_run_44 rfl hl (by decide) rfl (fun ls hl => ?_)
    have hl : lv_has ls 4 [(3, .int 0), (2, .int 1), (0, .ref (ad 0)), (1, .int f)] := hl
    exact cut45 (10000000 - 0) 0 M51 _ _ ls rfl (show 0 ≤ 10000000 from by first | omega | assumption | exact Or.inl rfl | exact Or.inr rfl | rfl | decide) (show RunJ (200 + 4 * 0) M51 from by first | exact RunJ_0 q52l q52s q52m q52a) (show M51 0 2 = 1 from by first | exact (fq52 _ _ (by unfold mEn0; omega)).trans ((wr_off eM47 (by omega)).trans (wr_at eM46))) hP hI hF hS (lv_sub hl [2, 1, 0] rfl)
  · have g4 : ¬ (r1.toInt = 0) := fun q => h4 (Int32.toInt_inj.mp q)
    refine lv_iconst (v := (-1)) hx hb d_Md_run_10 (by decide) ?_
    exact W.iret (v := -1) hx hb hr (fun t ht hW => ⟨⟨-1, M, rfl, ⟨hI, hF, (by unfold rnM; rw [if_neg (by omega)])⟩, by unfold ux_E; rw [ht]; exact hP⟩, hS.F ht⟩) hS.2.2 d_Md_run_11
