/-! The reference, safe: forms of words; written by wip/gen/ref.py -/
theorem okf_eq {M M1 : ux_M} {i : Nat} {f : Int32} (h : ∀ a b, ¬ mDg a b → M1 a b = M a b) (q : okf M1 i f) : okf M i f := by
  refine ⟨fun z => nmK_eq h (q.1 z), fun z => nmK_eq h (q.2.1 z), fun z => ?_⟩
  have e := h 19 i (by unfold mDg; omega)
  rw [← e]
  exact q.2.2 z
def fsel (fa fb fc : Int32) (w : Nat) : Int32 := if w = 1 then fa else if w = 2 then fb else fc
theorem fs_step {P : Nat → Prop} {k : Nat} (h : ∀ w : Nat, 1 ≤ w → w < k → P w) (hk : P k) : ∀ w : Nat, 1 ≤ w → w < k + 1 → P w := fun w h1 h2 => by
  by_cases e : w = k
  · rw [e]; exact hk
  · exact h w h1 (by omega)

set_option maxHeartbeats 1600000 in
set_option maxRecDepth 100000 in
theorem s_Md_isNumber (l : Launch) (D : va_G) (ad : Nat → Nat) (cA : Nat → ClassId) (A TB : Nat) (hA : A ≤ 100000000) (hB : TB ≤ 2000000000) (M : ux_M) (hI : IvM A TB M) (L : Nat) (hL : L ≤ 7) (hlv : M 0 10 = nI L) (w : Nat) (hw : w ≤ 8) : Met l y_Md_isNumber w_Md_isNumber ({ frames := 4, cells := 0, slots := 0, locals := 95 }) (va_Pc [.ref (ad 0), .int (nI w)] (ux_B D shM KM ad cA M)) (va_Qi (fun r M1 => IvM A TB M1 ∧ (∀ a b, ¬ mDg a b → M1 a b = M a b) ∧ (r = 0 ∨ r = 1)) (ux_E D shM KM ad cA) (ux_A KM ad)) 0 0 (ux_A KM ad) := by
  refine Met.ofW (cc := b_Md_isNumber) (maxL := 2) (ret := (some .boolean)) (by decide) rfl ?_
  intro p e s m args below meth c s₁ B hml hv
  obtain ⟨rfl, hP, hK, hi, hN⟩ := hv
  have hx := B.exec
  have hb := B.bytes
  have hr := B.returns
  have hts := atoms_spec (ws := w_Md_isNumber) B.pre
  have hown : s.vm.findClass R_Md = some m.cls := findClass_of_methodNamed B.named
  have hlocks := B.notSynchronized
  have hT : ∀ w ∈ tb, w.before _ s = true := fun w h => hts w (List.mem_cons_of_mem _ h)
  have hS : va_S (ux_A KM ad) s.heap s.heap [] := va_S.rf
  have hl := lv_entry ([.ref (ad 0), .int (nI w)]) (n := 2) (Nat.le_of_ble_eq_true rfl)
  rw [lg_entry_eq]
  generalize (lg_sl ([.ref (ad 0), .int (nI w)]) ++ List.replicate (2 - (lg_sl ([.ref (ad 0), .int (nI w)])).length) Slot.unset).toArray = ls at hl ⊢
  have hl : lv_has ls 2 [(0, .ref (ad 0)), (1, .int (nI w))] := hl
  have hF : ∀ a b, ¬ mDg a b → M a b = M a b := fun _ _ _ => rfl
  refine lv_aload_n hx hb d_Md_isNumber_0 rfl (lv_at hl 0 rfl) ?_
  refine lv_iconst (v := (-1)) hx hb d_Md_isNumber_1 (by decide) ?_
  refine lv_iload_n hx hb d_Md_isNumber_2 rfl (lv_at hl 1 rfl) ?_
  refine ux_calli (va_runV ⟨hx, hb, hml, hown, hts⟩ (s_Md_digits_w l D ad cA A TB hA hB  M hI L hL (hlv) w (by omega)) (cwV 2 hts (tb_goodV ml_Md_319 im_Md_digits se_Md_digits ii_Md kt_Md_digits) rfl rfl rfl (by decide +kernel) ⟨Nat.le_of_ble_eq_true rfl, Nat.le_of_ble_eq_true rfl⟩) (ux_preV (by decide) rfl rfl hP hK hi hN) rfl rfl hl.1 rfl (lv_room (Nat.le_of_ble_eq_true rfl)) d_Md_isNumber_3 ⟨Nat.zero_le _, Nat.zero_le _⟩) hS (fun r1 M2 H locs q3 hP hS => ?_)
  obtain ⟨hI, fq3, q3p⟩ := q3
  have hF := fr_call hF fq3 (fun a b q => by unfold mDg at q; unfold mDg; omega)
  exact W.zret (v := r1) hx hb hr (nb_n (by first | assumption | omega)) (fun t ht hW => ⟨⟨r1, M2, rfl, ⟨hI, hF, (by first | assumption | omega)⟩, by unfold ux_E; rw [ht]; exact hP⟩, hS.F ht⟩) hS.2.2 d_Md_isNumber_6

set_option maxHeartbeats 1600000 in
set_option maxRecDepth 100000 in
theorem s_Md_fitting (l : Launch) (D : va_G) (ad : Nat → Nat) (cA : Nat → ClassId) (A TB : Nat) (hA : A ≤ 100000000) (hB : TB ≤ 2000000000) (M : ux_M) (hI : IvM A TB M) (L : Nat) (hL : L ≤ 7) (hlv : M 0 10 = nI L) (fch : Int32) (w : Nat) (hw : w ≤ 8) : Met l y_Md_fitting w_Md_fitting ({ frames := 5, cells := 0, slots := 0, locals := 116 }) (va_Pc [.ref (ad 0), .int fch, .int (nI w)] (ux_B D shM KM ad cA M)) (va_Qi (fun r M1 => IvM A TB M1 ∧ (∀ a b, ¬ mFi a b → M1 a b = M a b) ∧ ((r = 0 ∨ r = 1) ∧ (r = 1 → (∀ a b, ¬ mDg a b → M1 a b = M a b) ∧ okf M (8 * L + w) fch) ∧ (r = 0 → M1 0 23 = 1 ∧ M1 0 24 = 1))) (ux_E D shM KM ad cA) (ux_A KM ad)) 0 0 (ux_A KM ad) := by
  refine Met.ofW (cc := b_Md_fitting) (maxL := 4) (ret := (some .boolean)) (by decide) rfl ?_
  intro p e s m args below meth c s₁ B hml hv
  obtain ⟨rfl, hP, hK, hi, hN⟩ := hv
  have hx := B.exec
  have hb := B.bytes
  have hr := B.returns
  have hts := atoms_spec (ws := w_Md_fitting) B.pre
  have hown : s.vm.findClass R_Md = some m.cls := findClass_of_methodNamed B.named
  have hlocks := B.notSynchronized
  have hT : ∀ w ∈ tb, w.before _ s = true := fun w h => hts w (List.mem_cons_of_mem _ h)
  have hS : va_S (ux_A KM ad) s.heap s.heap [] := va_S.rf
  have hl := lv_entry ([.ref (ad 0), .int fch, .int (nI w)]) (n := 4) (Nat.le_of_ble_eq_true rfl)
  rw [lg_entry_eq]
  generalize (lg_sl ([.ref (ad 0), .int fch, .int (nI w)]) ++ List.replicate (4 - (lg_sl ([.ref (ad 0), .int fch, .int (nI w)])).length) Slot.unset).toArray = ls at hl ⊢
  have hl : lv_has ls 4 [(0, .ref (ad 0)), (1, .int fch), (2, .int (nI w))] := hl
  have hF : ∀ a b, ¬ mFi a b → M a b = M a b := fun _ _ _ => rfl
  refine lv_iload_n hx hb d_Md_fitting_0 rfl (lv_at hl 1 rfl) ?_
  refine lv_bipush (v := 118) hx hb d_Md_fitting_1 (by decide) ?_
  refine lv_icmp_ne hx hb d_Md_fitting_3 rfl (fun h1 => ?_) (fun h1 => ?_)
  · have g1 : ¬ (fch.toInt = 118) := fun q => h1 (Int32.toInt_inj.mp q)
    refine lv_iload_n hx hb d_Md_fitting_16 rfl (lv_at hl 1 rfl) ?_
    refine lv_bipush (v := 112) hx hb d_Md_fitting_17 (by decide) ?_
    refine lv_icmp_ne hx hb d_Md_fitting_19 rfl (fun h2 => ?_) (fun h2 => ?_)
    · have g2 : ¬ (fch.toInt = 112) := fun q => h2 (Int32.toInt_inj.mp q)
      refine lv_iload_n hx hb d_Md_fitting_36 rfl (lv_at hl 1 rfl) ?_
      refine lv_bipush (v := 110) hx hb d_Md_fitting_37 (by decide) ?_
      refine lv_icmp_ne hx hb d_Md_fitting_39 rfl (fun h3 => ?_) (fun h3 => ?_)
      · have g3 : ¬ (fch.toInt = 110) := fun q => h3 (Int32.toInt_inj.mp q)
        refine lv_iload_n hx hb d_Md_fitting_54 rfl (lv_at hl 1 rfl) ?_
        refine lv_bipush (v := 120) hx hb d_Md_fitting_55 (by decide) ?_
        refine lv_icmp_ne hx hb d_Md_fitting_57 rfl (fun h4 => ?_) (fun h4 => ?_)
        · have g4 : ¬ (fch.toInt = 120) := fun q => h4 (Int32.toInt_inj.mp q)
          refine lv_iconst (v := 0) hx hb d_Md_fitting_75 (by decide) ?_
          refine lv_istore_n hx hb d_Md_fitting_76 rfl hl (by decide) rfl (fun ls hl => ?_)
          have hl : lv_has ls 4 [(3, .int 0), (0, .ref (ad 0)), (1, .int fch), (2, .int (nI w))] := hl
          refine lv_iload_n hx hb d_Md_fitting_77 rfl (lv_at hl 0 rfl) ?_
          refine lv_if_le hx hb d_Md_fitting_78 rfl (fun _ => ?_) (fun hz => absurd (by decide) hz)
          refine lv_iload_n hx hb d_Md_fitting_86 rfl (lv_at hl 0 rfl) ?_
          refine lv_if_ne hx hb d_Md_fitting_87 rfl (fun hz => absurd (by decide) hz) (fun _ => ?_)
          refine lv_iconst (v := 1) hx hb d_Md_fitting_90 (by decide) ?_
          refine lv_goto hx hb d_Md_fitting_91 rfl ?_
          exact W.zret (v := 1) hx hb hr (rfl) (fun t ht hW => ⟨⟨1, M, rfl, ⟨hI, hF, ⟨Or.inr rfl, fun _ => ⟨fun _ _ _ => rfl, fun q => by first | exact nk97 (by omega) | (exfalso; omega), fun q => by first | exact nk65 (by omega) | (exfalso; omega), fun q => by omega⟩, fun q => absurd q (by decide)⟩⟩, by unfold ux_E; rw [ht]; exact hP⟩, hS.F ht⟩) hS.2.2 d_Md_fitting_95
        · have g4 : fch.toInt = 120 := congrArg Int32.toInt h4
          refine lv_aload_n hx hb d_Md_fitting_60 rfl (lv_at hl 0 rfl) ?_
          refine lv_iload_n hx hb d_Md_fitting_61 rfl (lv_at hl 2 rfl) ?_
          refine ux_calli (va_runV ⟨hx, hb, hml, hown, hts⟩ (s_Md_sizeOf l D ad cA A TB hA hB  M hI L hL (hlv) w (by omega)) (cwV 1 hts (tb_goodV ml_Md_159 im_Md_sizeOf se_Md_sizeOf ii_Md kt_Md_sizeOf) rfl rfl rfl (by decide +kernel) ⟨Nat.le_of_ble_eq_true rfl, Nat.le_of_ble_eq_true rfl⟩) (ux_preV (by decide) rfl rfl hP hK hi hN) rfl rfl hl.1 rfl (lv_room (Nat.le_of_ble_eq_true rfl)) d_Md_fitting_62 ⟨Nat.zero_le _, Nat.zero_le _⟩) hS (fun r5 M6 H locs q7 hP hS => ?_)
          obtain ⟨hI, fq7, q7p⟩ := q7
          rw [tN_eq fq7] at hP hI
          obtain ⟨c8, hc8, ec8⟩ := nat_of (x := M 19 (8 * L + w)) (n := 200) (hI.1 _ _).1 (hI.1 _ _).2
          rw [ec8] at q7p
          subst q7p
          have tc8 : (M 19 (8 * L + w)).toInt = (c8 : Int) := by rw [ec8]; exact nI_toInt (by omega)
          refine lv_bipush (v := 20) hx hb d_Md_fitting_65 (by decide) ?_
          refine lv_icmp_le hx hb d_Md_fitting_67 rfl (fun h9 => ?_) (fun h9 => ?_)
          · have g9 : ((c8 : Nat) : Int) ≤ 20 := by have q := Int32.le_iff_toInt_le.mp h9; rw [nI_toInt (n := c8) (by omega)] at q; exact q
            refine lv_iconst (v := 0) hx hb d_Md_fitting_75 (by decide) ?_
            refine lv_istore_n hx hb d_Md_fitting_76 rfl hl (by decide) rfl (fun ls hl => ?_)
            have hl : lv_has ls 4 [(3, .int 0), (0, .ref (ad 0)), (1, .int fch), (2, .int (nI w))] := hl
            refine lv_iload_n hx hb d_Md_fitting_77 rfl (lv_at hl 0 rfl) ?_
            refine lv_if_le hx hb d_Md_fitting_78 rfl (fun _ => ?_) (fun hz => absurd (by decide) hz)
            refine lv_iload_n hx hb d_Md_fitting_86 rfl (lv_at hl 0 rfl) ?_
            refine lv_if_ne hx hb d_Md_fitting_87 rfl (fun hz => absurd (by decide) hz) (fun _ => ?_)
            refine lv_iconst (v := 1) hx hb d_Md_fitting_90 (by decide) ?_
            refine lv_goto hx hb d_Md_fitting_91 rfl ?_
            exact W.zret (v := 1) hx hb hr (rfl) (fun t ht hW => ⟨⟨1, M, rfl, ⟨hI, hF, ⟨Or.inr rfl, fun _ => ⟨fun _ _ _ => rfl, fun q => by first | exact nk97 (by omega) | (exfalso; omega), fun q => by first | exact nk65 (by omega) | (exfalso; omega), fun q => by omega⟩, fun q => absurd q (by decide)⟩⟩, by unfold ux_E; rw [ht]; exact hP⟩, hS.F ht⟩) hS.2.2 d_Md_fitting_95
          · have g9 : ¬ (((c8 : Nat) : Int) ≤ 20) := fun q => h9 (Int32.le_iff_toInt_le.mpr (by rw [nI_toInt (n := c8) (by omega)]; exact q))
            refine lv_bipush (v := 7) hx hb d_Md_fitting_70 (by decide) ?_
            refine lv_goto hx hb d_Md_fitting_72 rfl ?_
            refine lv_istore_n hx hb d_Md_fitting_76 rfl hl (by decide) rfl (fun ls hl => ?_)
            have hl : lv_has ls 4 [(3, .int 7), (0, .ref (ad 0)), (1, .int fch), (2, .int (nI w))] := hl
            refine lv_iload_n hx hb d_Md_fitting_77 rfl (lv_at hl 0 rfl) ?_
            refine lv_if_le hx hb d_Md_fitting_78 rfl (fun hz => absurd hz (by decide)) (fun _ => ?_)
            refine lv_aload_n hx hb d_Md_fitting_81 rfl (lv_at hl 1 rfl) ?_
            refine lv_iload_n hx hb d_Md_fitting_82 rfl (lv_at hl 0 rfl) ?_
            refine ux_callv (va_runV ⟨hx, hb, hml, hown, hts⟩ (s_Md_error l D ad cA A TB hA hB  M hI 7) (cwV 1 hts (tb_goodV ml_Md_166 im_Md_error se_Md_error ii_Md kt_Md_error) rfl rfl rfl (by decide +kernel) ⟨Nat.le_of_ble_eq_true rfl, Nat.le_of_ble_eq_true rfl⟩) (ux_preV (by decide) rfl rfl hP hK hi hN) rfl rfl hl.1 rfl (lv_room (Nat.le_of_ble_eq_true rfl)) d_Md_fitting_83 ⟨Nat.zero_le _, Nat.zero_le _⟩) hS (fun M11 H locs q12 hP hS => ?_)
            obtain ⟨hI, fq12, q12p⟩ := q12
            have hF := fr_call hF fq12 (fun a b q => by unfold mEr at q; unfold mFi; omega)
            refine lv_iload_n hx hb d_Md_fitting_86 rfl (lv_at hl 0 rfl) ?_
            refine lv_if_ne hx hb d_Md_fitting_87 rfl (fun _ => ?_) (fun hz => absurd hz (by decide))
            refine lv_iconst (v := 0) hx hb d_Md_fitting_94 (by decide) ?_
            exact W.zret (v := 0) hx hb hr (rfl) (fun t ht hW => ⟨⟨0, M11, rfl, ⟨hI, hF, ⟨Or.inl rfl, fun q => absurd q (by decide), fun _ => by first | assumption | (exfalso; omega)⟩⟩, by unfold ux_E; rw [ht]; exact hP⟩, hS.F ht⟩) hS.2.2 d_Md_fitting_95
      · have g3 : fch.toInt = 110 := congrArg Int32.toInt h3
        refine lv_aload_n hx hb d_Md_fitting_42 rfl (lv_at hl 0 rfl) ?_
        refine lv_iload_n hx hb d_Md_fitting_43 rfl (lv_at hl 2 rfl) ?_
        refine ux_calli (va_runV ⟨hx, hb, hml, hown, hts⟩ (s_Md_isNumber l D ad cA A TB hA hB  M hI L hL (hlv) w (by omega)) (cwV 1 hts (tb_goodV ml_Md_242 im_Md_isNumber se_Md_isNumber ii_Md kt_Md_isNumber) rfl rfl rfl (by decide +kernel) ⟨Nat.le_of_ble_eq_true rfl, Nat.le_of_ble_eq_true rfl⟩) (ux_preV (by decide) rfl rfl hP hK hi hN) rfl rfl hl.1 rfl (lv_room (Nat.le_of_ble_eq_true rfl)) d_Md_fitting_44 ⟨Nat.zero_le _, Nat.zero_le _⟩) hS (fun r13 M14 H locs q15 hP hS => ?_)
        obtain ⟨hI, fq15, q15p⟩ := q15
        have hF := fr_call hF fq15 (fun a b q => by unfold mDg at q; unfold mFi; omega)
        refine lv_if_ne hx hb d_Md_fitting_47 rfl (fun h16 => ?_) (fun h16 => ?_)
        · have g16 : ¬ (r13.toInt = 0) := fun q => h16 (Int32.toInt_inj.mp q)
          refine lv_iload_n hx hb d_Md_fitting_54 rfl (lv_at hl 1 rfl) ?_
          refine lv_bipush (v := 120) hx hb d_Md_fitting_55 (by decide) ?_
          refine lv_icmp_ne hx hb d_Md_fitting_57 rfl (fun h17 => ?_) (fun h17 => ?_)
          · have g17 : ¬ (fch.toInt = 120) := fun q => h17 (Int32.toInt_inj.mp q)
            refine lv_iconst (v := 0) hx hb d_Md_fitting_75 (by decide) ?_
            refine lv_istore_n hx hb d_Md_fitting_76 rfl hl (by decide) rfl (fun ls hl => ?_)
            have hl : lv_has ls 4 [(3, .int 0), (0, .ref (ad 0)), (1, .int fch), (2, .int (nI w))] := hl
            refine lv_iload_n hx hb d_Md_fitting_77 rfl (lv_at hl 0 rfl) ?_
            refine lv_if_le hx hb d_Md_fitting_78 rfl (fun _ => ?_) (fun hz => absurd (by decide) hz)
            refine lv_iload_n hx hb d_Md_fitting_86 rfl (lv_at hl 0 rfl) ?_
            refine lv_if_ne hx hb d_Md_fitting_87 rfl (fun hz => absurd (by decide) hz) (fun _ => ?_)
            refine lv_iconst (v := 1) hx hb d_Md_fitting_90 (by decide) ?_
            refine lv_goto hx hb d_Md_fitting_91 rfl ?_
            exact W.zret (v := 1) hx hb hr (rfl) (fun t ht hW => ⟨⟨1, M14, rfl, ⟨hI, hF, ⟨Or.inr rfl, fun _ => ⟨fq15, fun q => by first | exact nk97 (by omega) | (exfalso; omega), fun q => by first | exact nk65 (by omega) | (exfalso; omega), fun q => by omega⟩, fun q => absurd q (by decide)⟩⟩, by unfold ux_E; rw [ht]; exact hP⟩, hS.F ht⟩) hS.2.2 d_Md_fitting_95
          · have g17 : fch.toInt = 120 := congrArg Int32.toInt h17
            refine lv_aload_n hx hb d_Md_fitting_60 rfl (lv_at hl 0 rfl) ?_
            refine lv_iload_n hx hb d_Md_fitting_61 rfl (lv_at hl 2 rfl) ?_
            refine ux_calli (va_runV ⟨hx, hb, hml, hown, hts⟩ (s_Md_sizeOf l D ad cA A TB hA hB  M14 hI L hL ((hF _ _ (by unfold mFi; omega)).trans hlv) w (by omega)) (cwV 1 hts (tb_goodV ml_Md_159 im_Md_sizeOf se_Md_sizeOf ii_Md kt_Md_sizeOf) rfl rfl rfl (by decide +kernel) ⟨Nat.le_of_ble_eq_true rfl, Nat.le_of_ble_eq_true rfl⟩) (ux_preV (by decide) rfl rfl hP hK hi hN) rfl rfl hl.1 rfl (lv_room (Nat.le_of_ble_eq_true rfl)) d_Md_fitting_62 ⟨Nat.zero_le _, Nat.zero_le _⟩) hS (fun r18 M19 H locs q20 hP hS => ?_)
            obtain ⟨hI, fq20, q20p⟩ := q20
            rw [tN_eq fq20] at hP hI
            obtain ⟨c21, hc21, ec21⟩ := nat_of (x := M14 19 (8 * L + w)) (n := 200) (hI.1 _ _).1 (hI.1 _ _).2
            rw [ec21] at q20p
            subst q20p
            have tc21 : (M14 19 (8 * L + w)).toInt = (c21 : Int) := by rw [ec21]; exact nI_toInt (by omega)
            refine lv_bipush (v := 20) hx hb d_Md_fitting_65 (by decide) ?_
            refine lv_icmp_le hx hb d_Md_fitting_67 rfl (fun h22 => ?_) (fun h22 => ?_)
            · have g22 : ((c21 : Nat) : Int) ≤ 20 := by have q := Int32.le_iff_toInt_le.mp h22; rw [nI_toInt (n := c21) (by omega)] at q; exact q
              refine lv_iconst (v := 0) hx hb d_Md_fitting_75 (by decide) ?_
              refine lv_istore_n hx hb d_Md_fitting_76 rfl hl (by decide) rfl (fun ls hl => ?_)
              have hl : lv_has ls 4 [(3, .int 0), (0, .ref (ad 0)), (1, .int fch), (2, .int (nI w))] := hl
              refine lv_iload_n hx hb d_Md_fitting_77 rfl (lv_at hl 0 rfl) ?_
              refine lv_if_le hx hb d_Md_fitting_78 rfl (fun _ => ?_) (fun hz => absurd (by decide) hz)
              refine lv_iload_n hx hb d_Md_fitting_86 rfl (lv_at hl 0 rfl) ?_
              refine lv_if_ne hx hb d_Md_fitting_87 rfl (fun hz => absurd (by decide) hz) (fun _ => ?_)
              refine lv_iconst (v := 1) hx hb d_Md_fitting_90 (by decide) ?_
              refine lv_goto hx hb d_Md_fitting_91 rfl ?_
              exact W.zret (v := 1) hx hb hr (rfl) (fun t ht hW => ⟨⟨1, M14, rfl, ⟨hI, hF, ⟨Or.inr rfl, fun _ => ⟨fq15, fun q => by first | exact nk97 (by omega) | (exfalso; omega), fun q => by first | exact nk65 (by omega) | (exfalso; omega), fun q => by omega⟩, fun q => absurd q (by decide)⟩⟩, by unfold ux_E; rw [ht]; exact hP⟩, hS.F ht⟩) hS.2.2 d_Md_fitting_95
            · have g22 : ¬ (((c21 : Nat) : Int) ≤ 20) := fun q => h22 (Int32.le_iff_toInt_le.mpr (by rw [nI_toInt (n := c21) (by omega)]; exact q))
              refine lv_bipush (v := 7) hx hb d_Md_fitting_70 (by decide) ?_
              refine lv_goto hx hb d_Md_fitting_72 rfl ?_
              refine lv_istore_n hx hb d_Md_fitting_76 rfl hl (by decide) rfl (fun ls hl => ?_)
              have hl : lv_has ls 4 [(3, .int 7), (0, .ref (ad 0)), (1, .int fch), (2, .int (nI w))] := hl
              refine lv_iload_n hx hb d_Md_fitting_77 rfl (lv_at hl 0 rfl) ?_
              refine lv_if_le hx hb d_Md_fitting_78 rfl (fun hz => absurd hz (by decide)) (fun _ => ?_)
              refine lv_aload_n hx hb d_Md_fitting_81 rfl (lv_at hl 1 rfl) ?_
              refine lv_iload_n hx hb d_Md_fitting_82 rfl (lv_at hl 0 rfl) ?_
              refine ux_callv (va_runV ⟨hx, hb, hml, hown, hts⟩ (s_Md_error l D ad cA A TB hA hB  M14 hI 7) (cwV 1 hts (tb_goodV ml_Md_166 im_Md_error se_Md_error ii_Md kt_Md_error) rfl rfl rfl (by decide +kernel) ⟨Nat.le_of_ble_eq_true rfl, Nat.le_of_ble_eq_true rfl⟩) (ux_preV (by decide) rfl rfl hP hK hi hN) rfl rfl hl.1 rfl (lv_room (Nat.le_of_ble_eq_true rfl)) d_Md_fitting_83 ⟨Nat.zero_le _, Nat.zero_le _⟩) hS (fun M24 H locs q25 hP hS => ?_)
              obtain ⟨hI, fq25, q25p⟩ := q25
              have hF := fr_call hF fq25 (fun a b q => by unfold mEr at q; unfold mFi; omega)
              refine lv_iload_n hx hb d_Md_fitting_86 rfl (lv_at hl 0 rfl) ?_
              refine lv_if_ne hx hb d_Md_fitting_87 rfl (fun _ => ?_) (fun hz => absurd hz (by decide))
              refine lv_iconst (v := 0) hx hb d_Md_fitting_94 (by decide) ?_
              exact W.zret (v := 0) hx hb hr (rfl) (fun t ht hW => ⟨⟨0, M24, rfl, ⟨hI, hF, ⟨Or.inl rfl, fun q => absurd q (by decide), fun _ => by first | assumption | (exfalso; omega)⟩⟩, by unfold ux_E; rw [ht]; exact hP⟩, hS.F ht⟩) hS.2.2 d_Md_fitting_95
        · have g16 : r13.toInt = 0 := congrArg Int32.toInt h16
          refine lv_iconst (v := 5) hx hb d_Md_fitting_50 (by decide) ?_
          refine lv_goto hx hb d_Md_fitting_51 rfl ?_
          refine lv_istore_n hx hb d_Md_fitting_76 rfl hl (by decide) rfl (fun ls hl => ?_)
          have hl : lv_has ls 4 [(3, .int 5), (0, .ref (ad 0)), (1, .int fch), (2, .int (nI w))] := hl
          refine lv_iload_n hx hb d_Md_fitting_77 rfl (lv_at hl 0 rfl) ?_
          refine lv_if_le hx hb d_Md_fitting_78 rfl (fun hz => absurd hz (by decide)) (fun _ => ?_)
          refine lv_aload_n hx hb d_Md_fitting_81 rfl (lv_at hl 1 rfl) ?_
          refine lv_iload_n hx hb d_Md_fitting_82 rfl (lv_at hl 0 rfl) ?_
          refine ux_callv (va_runV ⟨hx, hb, hml, hown, hts⟩ (s_Md_error l D ad cA A TB hA hB  M14 hI 5) (cwV 1 hts (tb_goodV ml_Md_166 im_Md_error se_Md_error ii_Md kt_Md_error) rfl rfl rfl (by decide +kernel) ⟨Nat.le_of_ble_eq_true rfl, Nat.le_of_ble_eq_true rfl⟩) (ux_preV (by decide) rfl rfl hP hK hi hN) rfl rfl hl.1 rfl (lv_room (Nat.le_of_ble_eq_true rfl)) d_Md_fitting_83 ⟨Nat.zero_le _, Nat.zero_le _⟩) hS (fun M27 H locs q28 hP hS => ?_)
          obtain ⟨hI, fq28, q28p⟩ := q28
          have hF := fr_call hF fq28 (fun a b q => by unfold mEr at q; unfold mFi; omega)
          refine lv_iload_n hx hb d_Md_fitting_86 rfl (lv_at hl 0 rfl) ?_
          refine lv_if_ne hx hb d_Md_fitting_87 rfl (fun _ => ?_) (fun hz => absurd hz (by decide))
          refine lv_iconst (v := 0) hx hb d_Md_fitting_94 (by decide) ?_
          exact W.zret (v := 0) hx hb hr (rfl) (fun t ht hW => ⟨⟨0, M27, rfl, ⟨hI, hF, ⟨Or.inl rfl, fun q => absurd q (by decide), fun _ => by first | assumption | (exfalso; omega)⟩⟩, by unfold ux_E; rw [ht]; exact hP⟩, hS.F ht⟩) hS.2.2 d_Md_fitting_95
    · have g2 : fch.toInt = 112 := congrArg Int32.toInt h2
      refine lv_aload_n hx hb d_Md_fitting_22 rfl (lv_at hl 0 rfl) ?_
      refine lv_iload_n hx hb d_Md_fitting_23 rfl (lv_at hl 2 rfl) ?_
      refine lv_bipush (v := 65) hx hb d_Md_fitting_24 (by decide) ?_
      refine ux_calli (va_runV ⟨hx, hb, hml, hown, hts⟩ (s_Md_name l D ad cA A TB hA hB  M hI L hL (hlv) w (by omega) 65 (by decide) (by decide)) (cwV 2 hts (tb_goodV ml_Md_219 im_Md_name se_Md_name ii_Md kt_Md_name) rfl rfl rfl (by decide +kernel) ⟨Nat.le_of_ble_eq_true rfl, Nat.le_of_ble_eq_true rfl⟩) (ux_preV (by decide) rfl rfl hP hK hi hN) rfl rfl hl.1 rfl (lv_room (Nat.le_of_ble_eq_true rfl)) d_Md_fitting_26 ⟨Nat.zero_le _, Nat.zero_le _⟩) hS (fun r29 M30 H locs q31 hP hS => ?_)
      obtain ⟨hI, fq31, q31p⟩ := q31
      rw [tN_eq fq31] at hP hI
      obtain ⟨q31a, q31b, q31c⟩ := q31p
      have nk65 := q31c.mpr
      refine lv_if_ge hx hb d_Md_fitting_29 rfl (fun h32 => ?_) (fun h32 => ?_)
      · have g32 : 0 ≤ r29.toInt := Int32.le_iff_toInt_le.mp h32
        have u32 := ti_hi r29
        refine lv_iload_n hx hb d_Md_fitting_36 rfl (lv_at hl 1 rfl) ?_
        refine lv_bipush (v := 110) hx hb d_Md_fitting_37 (by decide) ?_
        refine lv_icmp_ne hx hb d_Md_fitting_39 rfl (fun h33 => ?_) (fun h33 => ?_)
        · have g33 : ¬ (fch.toInt = 110) := fun q => h33 (Int32.toInt_inj.mp q)
          refine lv_iload_n hx hb d_Md_fitting_54 rfl (lv_at hl 1 rfl) ?_
          refine lv_bipush (v := 120) hx hb d_Md_fitting_55 (by decide) ?_
          refine lv_icmp_ne hx hb d_Md_fitting_57 rfl (fun h34 => ?_) (fun h34 => ?_)
          · have g34 : ¬ (fch.toInt = 120) := fun q => h34 (Int32.toInt_inj.mp q)
            refine lv_iconst (v := 0) hx hb d_Md_fitting_75 (by decide) ?_
            refine lv_istore_n hx hb d_Md_fitting_76 rfl hl (by decide) rfl (fun ls hl => ?_)
            have hl : lv_has ls 4 [(3, .int 0), (0, .ref (ad 0)), (1, .int fch), (2, .int (nI w))] := hl
            refine lv_iload_n hx hb d_Md_fitting_77 rfl (lv_at hl 0 rfl) ?_
            refine lv_if_le hx hb d_Md_fitting_78 rfl (fun _ => ?_) (fun hz => absurd (by decide) hz)
            refine lv_iload_n hx hb d_Md_fitting_86 rfl (lv_at hl 0 rfl) ?_
            refine lv_if_ne hx hb d_Md_fitting_87 rfl (fun hz => absurd (by decide) hz) (fun _ => ?_)
            refine lv_iconst (v := 1) hx hb d_Md_fitting_90 (by decide) ?_
            refine lv_goto hx hb d_Md_fitting_91 rfl ?_
            exact W.zret (v := 1) hx hb hr (rfl) (fun t ht hW => ⟨⟨1, M, rfl, ⟨hI, hF, ⟨Or.inr rfl, fun _ => ⟨fun _ _ _ => rfl, fun q => by first | exact nk97 (by omega) | (exfalso; omega), fun q => by first | exact nk65 (by omega) | (exfalso; omega), fun q => by omega⟩, fun q => absurd q (by decide)⟩⟩, by unfold ux_E; rw [ht]; exact hP⟩, hS.F ht⟩) hS.2.2 d_Md_fitting_95
          · have g34 : fch.toInt = 120 := congrArg Int32.toInt h34
            refine lv_aload_n hx hb d_Md_fitting_60 rfl (lv_at hl 0 rfl) ?_
            refine lv_iload_n hx hb d_Md_fitting_61 rfl (lv_at hl 2 rfl) ?_
            refine ux_calli (va_runV ⟨hx, hb, hml, hown, hts⟩ (s_Md_sizeOf l D ad cA A TB hA hB  M hI L hL (hlv) w (by omega)) (cwV 1 hts (tb_goodV ml_Md_159 im_Md_sizeOf se_Md_sizeOf ii_Md kt_Md_sizeOf) rfl rfl rfl (by decide +kernel) ⟨Nat.le_of_ble_eq_true rfl, Nat.le_of_ble_eq_true rfl⟩) (ux_preV (by decide) rfl rfl hP hK hi hN) rfl rfl hl.1 rfl (lv_room (Nat.le_of_ble_eq_true rfl)) d_Md_fitting_62 ⟨Nat.zero_le _, Nat.zero_le _⟩) hS (fun r35 M36 H locs q37 hP hS => ?_)
            obtain ⟨hI, fq37, q37p⟩ := q37
            rw [tN_eq fq37] at hP hI
            obtain ⟨c38, hc38, ec38⟩ := nat_of (x := M 19 (8 * L + w)) (n := 200) (hI.1 _ _).1 (hI.1 _ _).2
            rw [ec38] at q37p
            subst q37p
            have tc38 : (M 19 (8 * L + w)).toInt = (c38 : Int) := by rw [ec38]; exact nI_toInt (by omega)
            refine lv_bipush (v := 20) hx hb d_Md_fitting_65 (by decide) ?_
            refine lv_icmp_le hx hb d_Md_fitting_67 rfl (fun h39 => ?_) (fun h39 => ?_)
            · have g39 : ((c38 : Nat) : Int) ≤ 20 := by have q := Int32.le_iff_toInt_le.mp h39; rw [nI_toInt (n := c38) (by omega)] at q; exact q
              refine lv_iconst (v := 0) hx hb d_Md_fitting_75 (by decide) ?_
              refine lv_istore_n hx hb d_Md_fitting_76 rfl hl (by decide) rfl (fun ls hl => ?_)
              have hl : lv_has ls 4 [(3, .int 0), (0, .ref (ad 0)), (1, .int fch), (2, .int (nI w))] := hl
              refine lv_iload_n hx hb d_Md_fitting_77 rfl (lv_at hl 0 rfl) ?_
              refine lv_if_le hx hb d_Md_fitting_78 rfl (fun _ => ?_) (fun hz => absurd (by decide) hz)
              refine lv_iload_n hx hb d_Md_fitting_86 rfl (lv_at hl 0 rfl) ?_
              refine lv_if_ne hx hb d_Md_fitting_87 rfl (fun hz => absurd (by decide) hz) (fun _ => ?_)
              refine lv_iconst (v := 1) hx hb d_Md_fitting_90 (by decide) ?_
              refine lv_goto hx hb d_Md_fitting_91 rfl ?_
              exact W.zret (v := 1) hx hb hr (rfl) (fun t ht hW => ⟨⟨1, M, rfl, ⟨hI, hF, ⟨Or.inr rfl, fun _ => ⟨fun _ _ _ => rfl, fun q => by first | exact nk97 (by omega) | (exfalso; omega), fun q => by first | exact nk65 (by omega) | (exfalso; omega), fun q => by omega⟩, fun q => absurd q (by decide)⟩⟩, by unfold ux_E; rw [ht]; exact hP⟩, hS.F ht⟩) hS.2.2 d_Md_fitting_95
            · have g39 : ¬ (((c38 : Nat) : Int) ≤ 20) := fun q => h39 (Int32.le_iff_toInt_le.mpr (by rw [nI_toInt (n := c38) (by omega)]; exact q))
              refine lv_bipush (v := 7) hx hb d_Md_fitting_70 (by decide) ?_
              refine lv_goto hx hb d_Md_fitting_72 rfl ?_
              refine lv_istore_n hx hb d_Md_fitting_76 rfl hl (by decide) rfl (fun ls hl => ?_)
              have hl : lv_has ls 4 [(3, .int 7), (0, .ref (ad 0)), (1, .int fch), (2, .int (nI w))] := hl
              refine lv_iload_n hx hb d_Md_fitting_77 rfl (lv_at hl 0 rfl) ?_
              refine lv_if_le hx hb d_Md_fitting_78 rfl (fun hz => absurd hz (by decide)) (fun _ => ?_)
              refine lv_aload_n hx hb d_Md_fitting_81 rfl (lv_at hl 1 rfl) ?_
              refine lv_iload_n hx hb d_Md_fitting_82 rfl (lv_at hl 0 rfl) ?_
              refine ux_callv (va_runV ⟨hx, hb, hml, hown, hts⟩ (s_Md_error l D ad cA A TB hA hB  M hI 7) (cwV 1 hts (tb_goodV ml_Md_166 im_Md_error se_Md_error ii_Md kt_Md_error) rfl rfl rfl (by decide +kernel) ⟨Nat.le_of_ble_eq_true rfl, Nat.le_of_ble_eq_true rfl⟩) (ux_preV (by decide) rfl rfl hP hK hi hN) rfl rfl hl.1 rfl (lv_room (Nat.le_of_ble_eq_true rfl)) d_Md_fitting_83 ⟨Nat.zero_le _, Nat.zero_le _⟩) hS (fun M41 H locs q42 hP hS => ?_)
              obtain ⟨hI, fq42, q42p⟩ := q42
              have hF := fr_call hF fq42 (fun a b q => by unfold mEr at q; unfold mFi; omega)
              refine lv_iload_n hx hb d_Md_fitting_86 rfl (lv_at hl 0 rfl) ?_
              refine lv_if_ne hx hb d_Md_fitting_87 rfl (fun _ => ?_) (fun hz => absurd hz (by decide))
              refine lv_iconst (v := 0) hx hb d_Md_fitting_94 (by decide) ?_
              exact W.zret (v := 0) hx hb hr (rfl) (fun t ht hW => ⟨⟨0, M41, rfl, ⟨hI, hF, ⟨Or.inl rfl, fun q => absurd q (by decide), fun _ => by first | assumption | (exfalso; omega)⟩⟩, by unfold ux_E; rw [ht]; exact hP⟩, hS.F ht⟩) hS.2.2 d_Md_fitting_95
        · have g33 : fch.toInt = 110 := congrArg Int32.toInt h33
          refine lv_aload_n hx hb d_Md_fitting_42 rfl (lv_at hl 0 rfl) ?_
          refine lv_iload_n hx hb d_Md_fitting_43 rfl (lv_at hl 2 rfl) ?_
          refine ux_calli (va_runV ⟨hx, hb, hml, hown, hts⟩ (s_Md_isNumber l D ad cA A TB hA hB  M hI L hL (hlv) w (by omega)) (cwV 1 hts (tb_goodV ml_Md_242 im_Md_isNumber se_Md_isNumber ii_Md kt_Md_isNumber) rfl rfl rfl (by decide +kernel) ⟨Nat.le_of_ble_eq_true rfl, Nat.le_of_ble_eq_true rfl⟩) (ux_preV (by decide) rfl rfl hP hK hi hN) rfl rfl hl.1 rfl (lv_room (Nat.le_of_ble_eq_true rfl)) d_Md_fitting_44 ⟨Nat.zero_le _, Nat.zero_le _⟩) hS (fun r43 M44 H locs q45 hP hS => ?_)
          obtain ⟨hI, fq45, q45p⟩ := q45
          have hF := fr_call hF fq45 (fun a b q => by unfold mDg at q; unfold mFi; omega)
          refine lv_if_ne hx hb d_Md_fitting_47 rfl (fun h46 => ?_) (fun h46 => ?_)
          · have g46 : ¬ (r43.toInt = 0) := fun q => h46 (Int32.toInt_inj.mp q)
            refine lv_iload_n hx hb d_Md_fitting_54 rfl (lv_at hl 1 rfl) ?_
            refine lv_bipush (v := 120) hx hb d_Md_fitting_55 (by decide) ?_
            refine lv_icmp_ne hx hb d_Md_fitting_57 rfl (fun h47 => ?_) (fun h47 => ?_)
            · have g47 : ¬ (fch.toInt = 120) := fun q => h47 (Int32.toInt_inj.mp q)
              refine lv_iconst (v := 0) hx hb d_Md_fitting_75 (by decide) ?_
              refine lv_istore_n hx hb d_Md_fitting_76 rfl hl (by decide) rfl (fun ls hl => ?_)
              have hl : lv_has ls 4 [(3, .int 0), (0, .ref (ad 0)), (1, .int fch), (2, .int (nI w))] := hl
              refine lv_iload_n hx hb d_Md_fitting_77 rfl (lv_at hl 0 rfl) ?_
              refine lv_if_le hx hb d_Md_fitting_78 rfl (fun _ => ?_) (fun hz => absurd (by decide) hz)
              refine lv_iload_n hx hb d_Md_fitting_86 rfl (lv_at hl 0 rfl) ?_
              refine lv_if_ne hx hb d_Md_fitting_87 rfl (fun hz => absurd (by decide) hz) (fun _ => ?_)
              refine lv_iconst (v := 1) hx hb d_Md_fitting_90 (by decide) ?_
              refine lv_goto hx hb d_Md_fitting_91 rfl ?_
              exact W.zret (v := 1) hx hb hr (rfl) (fun t ht hW => ⟨⟨1, M44, rfl, ⟨hI, hF, ⟨Or.inr rfl, fun _ => ⟨fq45, fun q => by first | exact nk97 (by omega) | (exfalso; omega), fun q => by first | exact nk65 (by omega) | (exfalso; omega), fun q => by omega⟩, fun q => absurd q (by decide)⟩⟩, by unfold ux_E; rw [ht]; exact hP⟩, hS.F ht⟩) hS.2.2 d_Md_fitting_95
            · have g47 : fch.toInt = 120 := congrArg Int32.toInt h47
              refine lv_aload_n hx hb d_Md_fitting_60 rfl (lv_at hl 0 rfl) ?_
              refine lv_iload_n hx hb d_Md_fitting_61 rfl (lv_at hl 2 rfl) ?_
              refine ux_calli (va_runV ⟨hx, hb, hml, hown, hts⟩ (s_Md_sizeOf l D ad cA A TB hA hB  M44 hI L hL ((hF _ _ (by unfold mFi; omega)).trans hlv) w (by omega)) (cwV 1 hts (tb_goodV ml_Md_159 im_Md_sizeOf se_Md_sizeOf ii_Md kt_Md_sizeOf) rfl rfl rfl (by decide +kernel) ⟨Nat.le_of_ble_eq_true rfl, Nat.le_of_ble_eq_true rfl⟩) (ux_preV (by decide) rfl rfl hP hK hi hN) rfl rfl hl.1 rfl (lv_room (Nat.le_of_ble_eq_true rfl)) d_Md_fitting_62 ⟨Nat.zero_le _, Nat.zero_le _⟩) hS (fun r48 M49 H locs q50 hP hS => ?_)
              obtain ⟨hI, fq50, q50p⟩ := q50
              rw [tN_eq fq50] at hP hI
              obtain ⟨c51, hc51, ec51⟩ := nat_of (x := M44 19 (8 * L + w)) (n := 200) (hI.1 _ _).1 (hI.1 _ _).2
              rw [ec51] at q50p
              subst q50p
              have tc51 : (M44 19 (8 * L + w)).toInt = (c51 : Int) := by rw [ec51]; exact nI_toInt (by omega)
              refine lv_bipush (v := 20) hx hb d_Md_fitting_65 (by decide) ?_
              refine lv_icmp_le hx hb d_Md_fitting_67 rfl (fun h52 => ?_) (fun h52 => ?_)
              · have g52 : ((c51 : Nat) : Int) ≤ 20 := by have q := Int32.le_iff_toInt_le.mp h52; rw [nI_toInt (n := c51) (by omega)] at q; exact q
                refine lv_iconst (v := 0) hx hb d_Md_fitting_75 (by decide) ?_
                refine lv_istore_n hx hb d_Md_fitting_76 rfl hl (by decide) rfl (fun ls hl => ?_)
                have hl : lv_has ls 4 [(3, .int 0), (0, .ref (ad 0)), (1, .int fch), (2, .int (nI w))] := hl
                refine lv_iload_n hx hb d_Md_fitting_77 rfl (lv_at hl 0 rfl) ?_
                refine lv_if_le hx hb d_Md_fitting_78 rfl (fun _ => ?_) (fun hz => absurd (by decide) hz)
                refine lv_iload_n hx hb d_Md_fitting_86 rfl (lv_at hl 0 rfl) ?_
                refine lv_if_ne hx hb d_Md_fitting_87 rfl (fun hz => absurd (by decide) hz) (fun _ => ?_)
                refine lv_iconst (v := 1) hx hb d_Md_fitting_90 (by decide) ?_
                refine lv_goto hx hb d_Md_fitting_91 rfl ?_
                exact W.zret (v := 1) hx hb hr (rfl) (fun t ht hW => ⟨⟨1, M44, rfl, ⟨hI, hF, ⟨Or.inr rfl, fun _ => ⟨fq45, fun q => by first | exact nk97 (by omega) | (exfalso; omega), fun q => by first | exact nk65 (by omega) | (exfalso; omega), fun q => by omega⟩, fun q => absurd q (by decide)⟩⟩, by unfold ux_E; rw [ht]; exact hP⟩, hS.F ht⟩) hS.2.2 d_Md_fitting_95
              · have g52 : ¬ (((c51 : Nat) : Int) ≤ 20) := fun q => h52 (Int32.le_iff_toInt_le.mpr (by rw [nI_toInt (n := c51) (by omega)]; exact q))
                refine lv_bipush (v := 7) hx hb d_Md_fitting_70 (by decide) ?_
                refine lv_goto hx hb d_Md_fitting_72 rfl ?_
                refine lv_istore_n hx hb d_Md_fitting_76 rfl hl (by decide) rfl (fun ls hl => ?_)
                have hl : lv_has ls 4 [(3, .int 7), (0, .ref (ad 0)), (1, .int fch), (2, .int (nI w))] := hl
                refine lv_iload_n hx hb d_Md_fitting_77 rfl (lv_at hl 0 rfl) ?_
                refine lv_if_le hx hb d_Md_fitting_78 rfl (fun hz => absurd hz (by decide)) (fun _ => ?_)
                refine lv_aload_n hx hb d_Md_fitting_81 rfl (lv_at hl 1 rfl) ?_
                refine lv_iload_n hx hb d_Md_fitting_82 rfl (lv_at hl 0 rfl) ?_
                refine ux_callv (va_runV ⟨hx, hb, hml, hown, hts⟩ (s_Md_error l D ad cA A TB hA hB  M44 hI 7) (cwV 1 hts (tb_goodV ml_Md_166 im_Md_error se_Md_error ii_Md kt_Md_error) rfl rfl rfl (by decide +kernel) ⟨Nat.le_of_ble_eq_true rfl, Nat.le_of_ble_eq_true rfl⟩) (ux_preV (by decide) rfl rfl hP hK hi hN) rfl rfl hl.1 rfl (lv_room (Nat.le_of_ble_eq_true rfl)) d_Md_fitting_83 ⟨Nat.zero_le _, Nat.zero_le _⟩) hS (fun M54 H locs q55 hP hS => ?_)
                obtain ⟨hI, fq55, q55p⟩ := q55
                have hF := fr_call hF fq55 (fun a b q => by unfold mEr at q; unfold mFi; omega)
                refine lv_iload_n hx hb d_Md_fitting_86 rfl (lv_at hl 0 rfl) ?_
                refine lv_if_ne hx hb d_Md_fitting_87 rfl (fun _ => ?_) (fun hz => absurd hz (by decide))
                refine lv_iconst (v := 0) hx hb d_Md_fitting_94 (by decide) ?_
                exact W.zret (v := 0) hx hb hr (rfl) (fun t ht hW => ⟨⟨0, M54, rfl, ⟨hI, hF, ⟨Or.inl rfl, fun q => absurd q (by decide), fun _ => by first | assumption | (exfalso; omega)⟩⟩, by unfold ux_E; rw [ht]; exact hP⟩, hS.F ht⟩) hS.2.2 d_Md_fitting_95
          · have g46 : r43.toInt = 0 := congrArg Int32.toInt h46
            refine lv_iconst (v := 5) hx hb d_Md_fitting_50 (by decide) ?_
            refine lv_goto hx hb d_Md_fitting_51 rfl ?_
            refine lv_istore_n hx hb d_Md_fitting_76 rfl hl (by decide) rfl (fun ls hl => ?_)
            have hl : lv_has ls 4 [(3, .int 5), (0, .ref (ad 0)), (1, .int fch), (2, .int (nI w))] := hl
            refine lv_iload_n hx hb d_Md_fitting_77 rfl (lv_at hl 0 rfl) ?_
            refine lv_if_le hx hb d_Md_fitting_78 rfl (fun hz => absurd hz (by decide)) (fun _ => ?_)
            refine lv_aload_n hx hb d_Md_fitting_81 rfl (lv_at hl 1 rfl) ?_
            refine lv_iload_n hx hb d_Md_fitting_82 rfl (lv_at hl 0 rfl) ?_
            refine ux_callv (va_runV ⟨hx, hb, hml, hown, hts⟩ (s_Md_error l D ad cA A TB hA hB  M44 hI 5) (cwV 1 hts (tb_goodV ml_Md_166 im_Md_error se_Md_error ii_Md kt_Md_error) rfl rfl rfl (by decide +kernel) ⟨Nat.le_of_ble_eq_true rfl, Nat.le_of_ble_eq_true rfl⟩) (ux_preV (by decide) rfl rfl hP hK hi hN) rfl rfl hl.1 rfl (lv_room (Nat.le_of_ble_eq_true rfl)) d_Md_fitting_83 ⟨Nat.zero_le _, Nat.zero_le _⟩) hS (fun M57 H locs q58 hP hS => ?_)
            obtain ⟨hI, fq58, q58p⟩ := q58
            have hF := fr_call hF fq58 (fun a b q => by unfold mEr at q; unfold mFi; omega)
            refine lv_iload_n hx hb d_Md_fitting_86 rfl (lv_at hl 0 rfl) ?_
            refine lv_if_ne hx hb d_Md_fitting_87 rfl (fun _ => ?_) (fun hz => absurd hz (by decide))
            refine lv_iconst (v := 0) hx hb d_Md_fitting_94 (by decide) ?_
            exact W.zret (v := 0) hx hb hr (rfl) (fun t ht hW => ⟨⟨0, M57, rfl, ⟨hI, hF, ⟨Or.inl rfl, fun q => absurd q (by decide), fun _ => by first | assumption | (exfalso; omega)⟩⟩, by unfold ux_E; rw [ht]; exact hP⟩, hS.F ht⟩) hS.2.2 d_Md_fitting_95
      · have g32 : ¬ (0 ≤ r29.toInt) := fun q => h32 (Int32.le_iff_toInt_le.mpr q)
        have w32 := ti_lo r29
        refine lv_iconst (v := 4) hx hb d_Md_fitting_32 (by decide) ?_
        refine lv_goto hx hb d_Md_fitting_33 rfl ?_
        refine lv_istore_n hx hb d_Md_fitting_76 rfl hl (by decide) rfl (fun ls hl => ?_)
        have hl : lv_has ls 4 [(3, .int 4), (0, .ref (ad 0)), (1, .int fch), (2, .int (nI w))] := hl
        refine lv_iload_n hx hb d_Md_fitting_77 rfl (lv_at hl 0 rfl) ?_
        refine lv_if_le hx hb d_Md_fitting_78 rfl (fun hz => absurd hz (by decide)) (fun _ => ?_)
        refine lv_aload_n hx hb d_Md_fitting_81 rfl (lv_at hl 1 rfl) ?_
        refine lv_iload_n hx hb d_Md_fitting_82 rfl (lv_at hl 0 rfl) ?_
        refine ux_callv (va_runV ⟨hx, hb, hml, hown, hts⟩ (s_Md_error l D ad cA A TB hA hB  M hI 4) (cwV 1 hts (tb_goodV ml_Md_166 im_Md_error se_Md_error ii_Md kt_Md_error) rfl rfl rfl (by decide +kernel) ⟨Nat.le_of_ble_eq_true rfl, Nat.le_of_ble_eq_true rfl⟩) (ux_preV (by decide) rfl rfl hP hK hi hN) rfl rfl hl.1 rfl (lv_room (Nat.le_of_ble_eq_true rfl)) d_Md_fitting_83 ⟨Nat.zero_le _, Nat.zero_le _⟩) hS (fun M60 H locs q61 hP hS => ?_)
        obtain ⟨hI, fq61, q61p⟩ := q61
        have hF := fr_call hF fq61 (fun a b q => by unfold mEr at q; unfold mFi; omega)
        refine lv_iload_n hx hb d_Md_fitting_86 rfl (lv_at hl 0 rfl) ?_
        refine lv_if_ne hx hb d_Md_fitting_87 rfl (fun _ => ?_) (fun hz => absurd hz (by decide))
        refine lv_iconst (v := 0) hx hb d_Md_fitting_94 (by decide) ?_
        exact W.zret (v := 0) hx hb hr (rfl) (fun t ht hW => ⟨⟨0, M60, rfl, ⟨hI, hF, ⟨Or.inl rfl, fun q => absurd q (by decide), fun _ => by first | assumption | (exfalso; omega)⟩⟩, by unfold ux_E; rw [ht]; exact hP⟩, hS.F ht⟩) hS.2.2 d_Md_fitting_95
  · have g1 : fch.toInt = 118 := congrArg Int32.toInt h1
    refine lv_aload_n hx hb d_Md_fitting_6 rfl (lv_at hl 0 rfl) ?_
    refine lv_iload_n hx hb d_Md_fitting_7 rfl (lv_at hl 2 rfl) ?_
    refine lv_bipush (v := 97) hx hb d_Md_fitting_8 (by decide) ?_
    refine ux_calli (va_runV ⟨hx, hb, hml, hown, hts⟩ (s_Md_name l D ad cA A TB hA hB  M hI L hL (hlv) w (by omega) 97 (by decide) (by decide)) (cwV 2 hts (tb_goodV ml_Md_219 im_Md_name se_Md_name ii_Md kt_Md_name) rfl rfl rfl (by decide +kernel) ⟨Nat.le_of_ble_eq_true rfl, Nat.le_of_ble_eq_true rfl⟩) (ux_preV (by decide) rfl rfl hP hK hi hN) rfl rfl hl.1 rfl (lv_room (Nat.le_of_ble_eq_true rfl)) d_Md_fitting_10 ⟨Nat.zero_le _, Nat.zero_le _⟩) hS (fun r62 M63 H locs q64 hP hS => ?_)
    obtain ⟨hI, fq64, q64p⟩ := q64
    rw [tN_eq fq64] at hP hI
    obtain ⟨q64a, q64b, q64c⟩ := q64p
    have nk97 := q64c.mpr
    refine lv_if_lt hx hb d_Md_fitting_13 rfl (fun h65 => ?_) (fun h65 => ?_)
    · have g65 : r62.toInt < 0 := Int32.lt_iff_toInt_lt.mp h65
      have w65 := ti_lo r62
      refine lv_iconst (v := 4) hx hb d_Md_fitting_32 (by decide) ?_
      refine lv_goto hx hb d_Md_fitting_33 rfl ?_
      refine lv_istore_n hx hb d_Md_fitting_76 rfl hl (by decide) rfl (fun ls hl => ?_)
      have hl : lv_has ls 4 [(3, .int 4), (0, .ref (ad 0)), (1, .int fch), (2, .int (nI w))] := hl
      refine lv_iload_n hx hb d_Md_fitting_77 rfl (lv_at hl 0 rfl) ?_
      refine lv_if_le hx hb d_Md_fitting_78 rfl (fun hz => absurd hz (by decide)) (fun _ => ?_)
      refine lv_aload_n hx hb d_Md_fitting_81 rfl (lv_at hl 1 rfl) ?_
      refine lv_iload_n hx hb d_Md_fitting_82 rfl (lv_at hl 0 rfl) ?_
      refine ux_callv (va_runV ⟨hx, hb, hml, hown, hts⟩ (s_Md_error l D ad cA A TB hA hB  M hI 4) (cwV 1 hts (tb_goodV ml_Md_166 im_Md_error se_Md_error ii_Md kt_Md_error) rfl rfl rfl (by decide +kernel) ⟨Nat.le_of_ble_eq_true rfl, Nat.le_of_ble_eq_true rfl⟩) (ux_preV (by decide) rfl rfl hP hK hi hN) rfl rfl hl.1 rfl (lv_room (Nat.le_of_ble_eq_true rfl)) d_Md_fitting_83 ⟨Nat.zero_le _, Nat.zero_le _⟩) hS (fun M67 H locs q68 hP hS => ?_)
      obtain ⟨hI, fq68, q68p⟩ := q68
      have hF := fr_call hF fq68 (fun a b q => by unfold mEr at q; unfold mFi; omega)
      refine lv_iload_n hx hb d_Md_fitting_86 rfl (lv_at hl 0 rfl) ?_
      refine lv_if_ne hx hb d_Md_fitting_87 rfl (fun _ => ?_) (fun hz => absurd hz (by decide))
      refine lv_iconst (v := 0) hx hb d_Md_fitting_94 (by decide) ?_
      exact W.zret (v := 0) hx hb hr (rfl) (fun t ht hW => ⟨⟨0, M67, rfl, ⟨hI, hF, ⟨Or.inl rfl, fun q => absurd q (by decide), fun _ => by first | assumption | (exfalso; omega)⟩⟩, by unfold ux_E; rw [ht]; exact hP⟩, hS.F ht⟩) hS.2.2 d_Md_fitting_95
    · have g65 : ¬ (r62.toInt < 0) := fun q => h65 (Int32.lt_iff_toInt_lt.mpr q)
      have u65 := ti_hi r62
      refine lv_iload_n hx hb d_Md_fitting_16 rfl (lv_at hl 1 rfl) ?_
      refine lv_bipush (v := 112) hx hb d_Md_fitting_17 (by decide) ?_
      refine lv_icmp_ne hx hb d_Md_fitting_19 rfl (fun h69 => ?_) (fun h69 => ?_)
      · have g69 : ¬ (fch.toInt = 112) := fun q => h69 (Int32.toInt_inj.mp q)
        refine lv_iload_n hx hb d_Md_fitting_36 rfl (lv_at hl 1 rfl) ?_
        refine lv_bipush (v := 110) hx hb d_Md_fitting_37 (by decide) ?_
        refine lv_icmp_ne hx hb d_Md_fitting_39 rfl (fun h70 => ?_) (fun h70 => ?_)
        · have g70 : ¬ (fch.toInt = 110) := fun q => h70 (Int32.toInt_inj.mp q)
          refine lv_iload_n hx hb d_Md_fitting_54 rfl (lv_at hl 1 rfl) ?_
          refine lv_bipush (v := 120) hx hb d_Md_fitting_55 (by decide) ?_
          refine lv_icmp_ne hx hb d_Md_fitting_57 rfl (fun h71 => ?_) (fun h71 => ?_)
          · have g71 : ¬ (fch.toInt = 120) := fun q => h71 (Int32.toInt_inj.mp q)
            refine lv_iconst (v := 0) hx hb d_Md_fitting_75 (by decide) ?_
            refine lv_istore_n hx hb d_Md_fitting_76 rfl hl (by decide) rfl (fun ls hl => ?_)
            have hl : lv_has ls 4 [(3, .int 0), (0, .ref (ad 0)), (1, .int fch), (2, .int (nI w))] := hl
            refine lv_iload_n hx hb d_Md_fitting_77 rfl (lv_at hl 0 rfl) ?_
            refine lv_if_le hx hb d_Md_fitting_78 rfl (fun _ => ?_) (fun hz => absurd (by decide) hz)
            refine lv_iload_n hx hb d_Md_fitting_86 rfl (lv_at hl 0 rfl) ?_
            refine lv_if_ne hx hb d_Md_fitting_87 rfl (fun hz => absurd (by decide) hz) (fun _ => ?_)
            refine lv_iconst (v := 1) hx hb d_Md_fitting_90 (by decide) ?_
            refine lv_goto hx hb d_Md_fitting_91 rfl ?_
            exact W.zret (v := 1) hx hb hr (rfl) (fun t ht hW => ⟨⟨1, M, rfl, ⟨hI, hF, ⟨Or.inr rfl, fun _ => ⟨fun _ _ _ => rfl, fun q => by first | exact nk97 (by omega) | (exfalso; omega), fun q => by first | exact nk65 (by omega) | (exfalso; omega), fun q => by omega⟩, fun q => absurd q (by decide)⟩⟩, by unfold ux_E; rw [ht]; exact hP⟩, hS.F ht⟩) hS.2.2 d_Md_fitting_95
          · have g71 : fch.toInt = 120 := congrArg Int32.toInt h71
            refine lv_aload_n hx hb d_Md_fitting_60 rfl (lv_at hl 0 rfl) ?_
            refine lv_iload_n hx hb d_Md_fitting_61 rfl (lv_at hl 2 rfl) ?_
            refine ux_calli (va_runV ⟨hx, hb, hml, hown, hts⟩ (s_Md_sizeOf l D ad cA A TB hA hB  M hI L hL (hlv) w (by omega)) (cwV 1 hts (tb_goodV ml_Md_159 im_Md_sizeOf se_Md_sizeOf ii_Md kt_Md_sizeOf) rfl rfl rfl (by decide +kernel) ⟨Nat.le_of_ble_eq_true rfl, Nat.le_of_ble_eq_true rfl⟩) (ux_preV (by decide) rfl rfl hP hK hi hN) rfl rfl hl.1 rfl (lv_room (Nat.le_of_ble_eq_true rfl)) d_Md_fitting_62 ⟨Nat.zero_le _, Nat.zero_le _⟩) hS (fun r72 M73 H locs q74 hP hS => ?_)
            obtain ⟨hI, fq74, q74p⟩ := q74
            rw [tN_eq fq74] at hP hI
            obtain ⟨c75, hc75, ec75⟩ := nat_of (x := M 19 (8 * L + w)) (n := 200) (hI.1 _ _).1 (hI.1 _ _).2
            rw [ec75] at q74p
            subst q74p
            have tc75 : (M 19 (8 * L + w)).toInt = (c75 : Int) := by rw [ec75]; exact nI_toInt (by omega)
            refine lv_bipush (v := 20) hx hb d_Md_fitting_65 (by decide) ?_
            refine lv_icmp_le hx hb d_Md_fitting_67 rfl (fun h76 => ?_) (fun h76 => ?_)
            · have g76 : ((c75 : Nat) : Int) ≤ 20 := by have q := Int32.le_iff_toInt_le.mp h76; rw [nI_toInt (n := c75) (by omega)] at q; exact q
              refine lv_iconst (v := 0) hx hb d_Md_fitting_75 (by decide) ?_
              refine lv_istore_n hx hb d_Md_fitting_76 rfl hl (by decide) rfl (fun ls hl => ?_)
              have hl : lv_has ls 4 [(3, .int 0), (0, .ref (ad 0)), (1, .int fch), (2, .int (nI w))] := hl
              refine lv_iload_n hx hb d_Md_fitting_77 rfl (lv_at hl 0 rfl) ?_
              refine lv_if_le hx hb d_Md_fitting_78 rfl (fun _ => ?_) (fun hz => absurd (by decide) hz)
              refine lv_iload_n hx hb d_Md_fitting_86 rfl (lv_at hl 0 rfl) ?_
              refine lv_if_ne hx hb d_Md_fitting_87 rfl (fun hz => absurd (by decide) hz) (fun _ => ?_)
              refine lv_iconst (v := 1) hx hb d_Md_fitting_90 (by decide) ?_
              refine lv_goto hx hb d_Md_fitting_91 rfl ?_
              exact W.zret (v := 1) hx hb hr (rfl) (fun t ht hW => ⟨⟨1, M, rfl, ⟨hI, hF, ⟨Or.inr rfl, fun _ => ⟨fun _ _ _ => rfl, fun q => by first | exact nk97 (by omega) | (exfalso; omega), fun q => by first | exact nk65 (by omega) | (exfalso; omega), fun q => by omega⟩, fun q => absurd q (by decide)⟩⟩, by unfold ux_E; rw [ht]; exact hP⟩, hS.F ht⟩) hS.2.2 d_Md_fitting_95
            · have g76 : ¬ (((c75 : Nat) : Int) ≤ 20) := fun q => h76 (Int32.le_iff_toInt_le.mpr (by rw [nI_toInt (n := c75) (by omega)]; exact q))
              refine lv_bipush (v := 7) hx hb d_Md_fitting_70 (by decide) ?_
              refine lv_goto hx hb d_Md_fitting_72 rfl ?_
              refine lv_istore_n hx hb d_Md_fitting_76 rfl hl (by decide) rfl (fun ls hl => ?_)
              have hl : lv_has ls 4 [(3, .int 7), (0, .ref (ad 0)), (1, .int fch), (2, .int (nI w))] := hl
              refine lv_iload_n hx hb d_Md_fitting_77 rfl (lv_at hl 0 rfl) ?_
              refine lv_if_le hx hb d_Md_fitting_78 rfl (fun hz => absurd hz (by decide)) (fun _ => ?_)
              refine lv_aload_n hx hb d_Md_fitting_81 rfl (lv_at hl 1 rfl) ?_
              refine lv_iload_n hx hb d_Md_fitting_82 rfl (lv_at hl 0 rfl) ?_
              refine ux_callv (va_runV ⟨hx, hb, hml, hown, hts⟩ (s_Md_error l D ad cA A TB hA hB  M hI 7) (cwV 1 hts (tb_goodV ml_Md_166 im_Md_error se_Md_error ii_Md kt_Md_error) rfl rfl rfl (by decide +kernel) ⟨Nat.le_of_ble_eq_true rfl, Nat.le_of_ble_eq_true rfl⟩) (ux_preV (by decide) rfl rfl hP hK hi hN) rfl rfl hl.1 rfl (lv_room (Nat.le_of_ble_eq_true rfl)) d_Md_fitting_83 ⟨Nat.zero_le _, Nat.zero_le _⟩) hS (fun M78 H locs q79 hP hS => ?_)
              obtain ⟨hI, fq79, q79p⟩ := q79
              have hF := fr_call hF fq79 (fun a b q => by unfold mEr at q; unfold mFi; omega)
              refine lv_iload_n hx hb d_Md_fitting_86 rfl (lv_at hl 0 rfl) ?_
              refine lv_if_ne hx hb d_Md_fitting_87 rfl (fun _ => ?_) (fun hz => absurd hz (by decide))
              refine lv_iconst (v := 0) hx hb d_Md_fitting_94 (by decide) ?_
              exact W.zret (v := 0) hx hb hr (rfl) (fun t ht hW => ⟨⟨0, M78, rfl, ⟨hI, hF, ⟨Or.inl rfl, fun q => absurd q (by decide), fun _ => by first | assumption | (exfalso; omega)⟩⟩, by unfold ux_E; rw [ht]; exact hP⟩, hS.F ht⟩) hS.2.2 d_Md_fitting_95
        · have g70 : fch.toInt = 110 := congrArg Int32.toInt h70
          refine lv_aload_n hx hb d_Md_fitting_42 rfl (lv_at hl 0 rfl) ?_
          refine lv_iload_n hx hb d_Md_fitting_43 rfl (lv_at hl 2 rfl) ?_
          refine ux_calli (va_runV ⟨hx, hb, hml, hown, hts⟩ (s_Md_isNumber l D ad cA A TB hA hB  M hI L hL (hlv) w (by omega)) (cwV 1 hts (tb_goodV ml_Md_242 im_Md_isNumber se_Md_isNumber ii_Md kt_Md_isNumber) rfl rfl rfl (by decide +kernel) ⟨Nat.le_of_ble_eq_true rfl, Nat.le_of_ble_eq_true rfl⟩) (ux_preV (by decide) rfl rfl hP hK hi hN) rfl rfl hl.1 rfl (lv_room (Nat.le_of_ble_eq_true rfl)) d_Md_fitting_44 ⟨Nat.zero_le _, Nat.zero_le _⟩) hS (fun r80 M81 H locs q82 hP hS => ?_)
          obtain ⟨hI, fq82, q82p⟩ := q82
          have hF := fr_call hF fq82 (fun a b q => by unfold mDg at q; unfold mFi; omega)
          refine lv_if_ne hx hb d_Md_fitting_47 rfl (fun h83 => ?_) (fun h83 => ?_)
          · have g83 : ¬ (r80.toInt = 0) := fun q => h83 (Int32.toInt_inj.mp q)
            refine lv_iload_n hx hb d_Md_fitting_54 rfl (lv_at hl 1 rfl) ?_
            refine lv_bipush (v := 120) hx hb d_Md_fitting_55 (by decide) ?_
            refine lv_icmp_ne hx hb d_Md_fitting_57 rfl (fun h84 => ?_) (fun h84 => ?_)
            · have g84 : ¬ (fch.toInt = 120) := fun q => h84 (Int32.toInt_inj.mp q)
              refine lv_iconst (v := 0) hx hb d_Md_fitting_75 (by decide) ?_
              refine lv_istore_n hx hb d_Md_fitting_76 rfl hl (by decide) rfl (fun ls hl => ?_)
              have hl : lv_has ls 4 [(3, .int 0), (0, .ref (ad 0)), (1, .int fch), (2, .int (nI w))] := hl
              refine lv_iload_n hx hb d_Md_fitting_77 rfl (lv_at hl 0 rfl) ?_
              refine lv_if_le hx hb d_Md_fitting_78 rfl (fun _ => ?_) (fun hz => absurd (by decide) hz)
              refine lv_iload_n hx hb d_Md_fitting_86 rfl (lv_at hl 0 rfl) ?_
              refine lv_if_ne hx hb d_Md_fitting_87 rfl (fun hz => absurd (by decide) hz) (fun _ => ?_)
              refine lv_iconst (v := 1) hx hb d_Md_fitting_90 (by decide) ?_
              refine lv_goto hx hb d_Md_fitting_91 rfl ?_
              exact W.zret (v := 1) hx hb hr (rfl) (fun t ht hW => ⟨⟨1, M81, rfl, ⟨hI, hF, ⟨Or.inr rfl, fun _ => ⟨fq82, fun q => by first | exact nk97 (by omega) | (exfalso; omega), fun q => by first | exact nk65 (by omega) | (exfalso; omega), fun q => by omega⟩, fun q => absurd q (by decide)⟩⟩, by unfold ux_E; rw [ht]; exact hP⟩, hS.F ht⟩) hS.2.2 d_Md_fitting_95
            · have g84 : fch.toInt = 120 := congrArg Int32.toInt h84
              refine lv_aload_n hx hb d_Md_fitting_60 rfl (lv_at hl 0 rfl) ?_
              refine lv_iload_n hx hb d_Md_fitting_61 rfl (lv_at hl 2 rfl) ?_
              refine ux_calli (va_runV ⟨hx, hb, hml, hown, hts⟩ (s_Md_sizeOf l D ad cA A TB hA hB  M81 hI L hL ((hF _ _ (by unfold mFi; omega)).trans hlv) w (by omega)) (cwV 1 hts (tb_goodV ml_Md_159 im_Md_sizeOf se_Md_sizeOf ii_Md kt_Md_sizeOf) rfl rfl rfl (by decide +kernel) ⟨Nat.le_of_ble_eq_true rfl, Nat.le_of_ble_eq_true rfl⟩) (ux_preV (by decide) rfl rfl hP hK hi hN) rfl rfl hl.1 rfl (lv_room (Nat.le_of_ble_eq_true rfl)) d_Md_fitting_62 ⟨Nat.zero_le _, Nat.zero_le _⟩) hS (fun r85 M86 H locs q87 hP hS => ?_)
              obtain ⟨hI, fq87, q87p⟩ := q87
              rw [tN_eq fq87] at hP hI
              obtain ⟨c88, hc88, ec88⟩ := nat_of (x := M81 19 (8 * L + w)) (n := 200) (hI.1 _ _).1 (hI.1 _ _).2
              rw [ec88] at q87p
              subst q87p
              have tc88 : (M81 19 (8 * L + w)).toInt = (c88 : Int) := by rw [ec88]; exact nI_toInt (by omega)
              refine lv_bipush (v := 20) hx hb d_Md_fitting_65 (by decide) ?_
              refine lv_icmp_le hx hb d_Md_fitting_67 rfl (fun h89 => ?_) (fun h89 => ?_)
              · have g89 : ((c88 : Nat) : Int) ≤ 20 := by have q := Int32.le_iff_toInt_le.mp h89; rw [nI_toInt (n := c88) (by omega)] at q; exact q
                refine lv_iconst (v := 0) hx hb d_Md_fitting_75 (by decide) ?_
                refine lv_istore_n hx hb d_Md_fitting_76 rfl hl (by decide) rfl (fun ls hl => ?_)
                have hl : lv_has ls 4 [(3, .int 0), (0, .ref (ad 0)), (1, .int fch), (2, .int (nI w))] := hl
                refine lv_iload_n hx hb d_Md_fitting_77 rfl (lv_at hl 0 rfl) ?_
                refine lv_if_le hx hb d_Md_fitting_78 rfl (fun _ => ?_) (fun hz => absurd (by decide) hz)
                refine lv_iload_n hx hb d_Md_fitting_86 rfl (lv_at hl 0 rfl) ?_
                refine lv_if_ne hx hb d_Md_fitting_87 rfl (fun hz => absurd (by decide) hz) (fun _ => ?_)
                refine lv_iconst (v := 1) hx hb d_Md_fitting_90 (by decide) ?_
                refine lv_goto hx hb d_Md_fitting_91 rfl ?_
                exact W.zret (v := 1) hx hb hr (rfl) (fun t ht hW => ⟨⟨1, M81, rfl, ⟨hI, hF, ⟨Or.inr rfl, fun _ => ⟨fq82, fun q => by first | exact nk97 (by omega) | (exfalso; omega), fun q => by first | exact nk65 (by omega) | (exfalso; omega), fun q => by omega⟩, fun q => absurd q (by decide)⟩⟩, by unfold ux_E; rw [ht]; exact hP⟩, hS.F ht⟩) hS.2.2 d_Md_fitting_95
              · have g89 : ¬ (((c88 : Nat) : Int) ≤ 20) := fun q => h89 (Int32.le_iff_toInt_le.mpr (by rw [nI_toInt (n := c88) (by omega)]; exact q))
                refine lv_bipush (v := 7) hx hb d_Md_fitting_70 (by decide) ?_
                refine lv_goto hx hb d_Md_fitting_72 rfl ?_
                refine lv_istore_n hx hb d_Md_fitting_76 rfl hl (by decide) rfl (fun ls hl => ?_)
                have hl : lv_has ls 4 [(3, .int 7), (0, .ref (ad 0)), (1, .int fch), (2, .int (nI w))] := hl
                refine lv_iload_n hx hb d_Md_fitting_77 rfl (lv_at hl 0 rfl) ?_
                refine lv_if_le hx hb d_Md_fitting_78 rfl (fun hz => absurd hz (by decide)) (fun _ => ?_)
                refine lv_aload_n hx hb d_Md_fitting_81 rfl (lv_at hl 1 rfl) ?_
                refine lv_iload_n hx hb d_Md_fitting_82 rfl (lv_at hl 0 rfl) ?_
                refine ux_callv (va_runV ⟨hx, hb, hml, hown, hts⟩ (s_Md_error l D ad cA A TB hA hB  M81 hI 7) (cwV 1 hts (tb_goodV ml_Md_166 im_Md_error se_Md_error ii_Md kt_Md_error) rfl rfl rfl (by decide +kernel) ⟨Nat.le_of_ble_eq_true rfl, Nat.le_of_ble_eq_true rfl⟩) (ux_preV (by decide) rfl rfl hP hK hi hN) rfl rfl hl.1 rfl (lv_room (Nat.le_of_ble_eq_true rfl)) d_Md_fitting_83 ⟨Nat.zero_le _, Nat.zero_le _⟩) hS (fun M91 H locs q92 hP hS => ?_)
                obtain ⟨hI, fq92, q92p⟩ := q92
                have hF := fr_call hF fq92 (fun a b q => by unfold mEr at q; unfold mFi; omega)
                refine lv_iload_n hx hb d_Md_fitting_86 rfl (lv_at hl 0 rfl) ?_
                refine lv_if_ne hx hb d_Md_fitting_87 rfl (fun _ => ?_) (fun hz => absurd hz (by decide))
                refine lv_iconst (v := 0) hx hb d_Md_fitting_94 (by decide) ?_
                exact W.zret (v := 0) hx hb hr (rfl) (fun t ht hW => ⟨⟨0, M91, rfl, ⟨hI, hF, ⟨Or.inl rfl, fun q => absurd q (by decide), fun _ => by first | assumption | (exfalso; omega)⟩⟩, by unfold ux_E; rw [ht]; exact hP⟩, hS.F ht⟩) hS.2.2 d_Md_fitting_95
          · have g83 : r80.toInt = 0 := congrArg Int32.toInt h83
            refine lv_iconst (v := 5) hx hb d_Md_fitting_50 (by decide) ?_
            refine lv_goto hx hb d_Md_fitting_51 rfl ?_
            refine lv_istore_n hx hb d_Md_fitting_76 rfl hl (by decide) rfl (fun ls hl => ?_)
            have hl : lv_has ls 4 [(3, .int 5), (0, .ref (ad 0)), (1, .int fch), (2, .int (nI w))] := hl
            refine lv_iload_n hx hb d_Md_fitting_77 rfl (lv_at hl 0 rfl) ?_
            refine lv_if_le hx hb d_Md_fitting_78 rfl (fun hz => absurd hz (by decide)) (fun _ => ?_)
            refine lv_aload_n hx hb d_Md_fitting_81 rfl (lv_at hl 1 rfl) ?_
            refine lv_iload_n hx hb d_Md_fitting_82 rfl (lv_at hl 0 rfl) ?_
            refine ux_callv (va_runV ⟨hx, hb, hml, hown, hts⟩ (s_Md_error l D ad cA A TB hA hB  M81 hI 5) (cwV 1 hts (tb_goodV ml_Md_166 im_Md_error se_Md_error ii_Md kt_Md_error) rfl rfl rfl (by decide +kernel) ⟨Nat.le_of_ble_eq_true rfl, Nat.le_of_ble_eq_true rfl⟩) (ux_preV (by decide) rfl rfl hP hK hi hN) rfl rfl hl.1 rfl (lv_room (Nat.le_of_ble_eq_true rfl)) d_Md_fitting_83 ⟨Nat.zero_le _, Nat.zero_le _⟩) hS (fun M94 H locs q95 hP hS => ?_)
            obtain ⟨hI, fq95, q95p⟩ := q95
            have hF := fr_call hF fq95 (fun a b q => by unfold mEr at q; unfold mFi; omega)
            refine lv_iload_n hx hb d_Md_fitting_86 rfl (lv_at hl 0 rfl) ?_
            refine lv_if_ne hx hb d_Md_fitting_87 rfl (fun _ => ?_) (fun hz => absurd hz (by decide))
            refine lv_iconst (v := 0) hx hb d_Md_fitting_94 (by decide) ?_
            exact W.zret (v := 0) hx hb hr (rfl) (fun t ht hW => ⟨⟨0, M94, rfl, ⟨hI, hF, ⟨Or.inl rfl, fun q => absurd q (by decide), fun _ => by first | assumption | (exfalso; omega)⟩⟩, by unfold ux_E; rw [ht]; exact hP⟩, hS.F ht⟩) hS.2.2 d_Md_fitting_95
      · have g69 : fch.toInt = 112 := congrArg Int32.toInt h69
        refine lv_aload_n hx hb d_Md_fitting_22 rfl (lv_at hl 0 rfl) ?_
        refine lv_iload_n hx hb d_Md_fitting_23 rfl (lv_at hl 2 rfl) ?_
        refine lv_bipush (v := 65) hx hb d_Md_fitting_24 (by decide) ?_
        refine ux_calli (va_runV ⟨hx, hb, hml, hown, hts⟩ (s_Md_name l D ad cA A TB hA hB  M hI L hL (hlv) w (by omega) 65 (by decide) (by decide)) (cwV 2 hts (tb_goodV ml_Md_219 im_Md_name se_Md_name ii_Md kt_Md_name) rfl rfl rfl (by decide +kernel) ⟨Nat.le_of_ble_eq_true rfl, Nat.le_of_ble_eq_true rfl⟩) (ux_preV (by decide) rfl rfl hP hK hi hN) rfl rfl hl.1 rfl (lv_room (Nat.le_of_ble_eq_true rfl)) d_Md_fitting_26 ⟨Nat.zero_le _, Nat.zero_le _⟩) hS (fun r96 M97 H locs q98 hP hS => ?_)
        obtain ⟨hI, fq98, q98p⟩ := q98
        rw [tN_eq fq98] at hP hI
        obtain ⟨q98a, q98b, q98c⟩ := q98p
        have nk65 := q98c.mpr
        refine lv_if_ge hx hb d_Md_fitting_29 rfl (fun h99 => ?_) (fun h99 => ?_)
        · have g99 : 0 ≤ r96.toInt := Int32.le_iff_toInt_le.mp h99
          have u99 := ti_hi r96
          refine lv_iload_n hx hb d_Md_fitting_36 rfl (lv_at hl 1 rfl) ?_
          refine lv_bipush (v := 110) hx hb d_Md_fitting_37 (by decide) ?_
          refine lv_icmp_ne hx hb d_Md_fitting_39 rfl (fun h100 => ?_) (fun h100 => ?_)
          · have g100 : ¬ (fch.toInt = 110) := fun q => h100 (Int32.toInt_inj.mp q)
            refine lv_iload_n hx hb d_Md_fitting_54 rfl (lv_at hl 1 rfl) ?_
            refine lv_bipush (v := 120) hx hb d_Md_fitting_55 (by decide) ?_
            refine lv_icmp_ne hx hb d_Md_fitting_57 rfl (fun h101 => ?_) (fun h101 => ?_)
            · have g101 : ¬ (fch.toInt = 120) := fun q => h101 (Int32.toInt_inj.mp q)
              refine lv_iconst (v := 0) hx hb d_Md_fitting_75 (by decide) ?_
              refine lv_istore_n hx hb d_Md_fitting_76 rfl hl (by decide) rfl (fun ls hl => ?_)
              have hl : lv_has ls 4 [(3, .int 0), (0, .ref (ad 0)), (1, .int fch), (2, .int (nI w))] := hl
              refine lv_iload_n hx hb d_Md_fitting_77 rfl (lv_at hl 0 rfl) ?_
              refine lv_if_le hx hb d_Md_fitting_78 rfl (fun _ => ?_) (fun hz => absurd (by decide) hz)
              refine lv_iload_n hx hb d_Md_fitting_86 rfl (lv_at hl 0 rfl) ?_
              refine lv_if_ne hx hb d_Md_fitting_87 rfl (fun hz => absurd (by decide) hz) (fun _ => ?_)
              refine lv_iconst (v := 1) hx hb d_Md_fitting_90 (by decide) ?_
              refine lv_goto hx hb d_Md_fitting_91 rfl ?_
              exact W.zret (v := 1) hx hb hr (rfl) (fun t ht hW => ⟨⟨1, M, rfl, ⟨hI, hF, ⟨Or.inr rfl, fun _ => ⟨fun _ _ _ => rfl, fun q => by first | exact nk97 (by omega) | (exfalso; omega), fun q => by first | exact nk65 (by omega) | (exfalso; omega), fun q => by omega⟩, fun q => absurd q (by decide)⟩⟩, by unfold ux_E; rw [ht]; exact hP⟩, hS.F ht⟩) hS.2.2 d_Md_fitting_95
            · have g101 : fch.toInt = 120 := congrArg Int32.toInt h101
              refine lv_aload_n hx hb d_Md_fitting_60 rfl (lv_at hl 0 rfl) ?_
              refine lv_iload_n hx hb d_Md_fitting_61 rfl (lv_at hl 2 rfl) ?_
              refine ux_calli (va_runV ⟨hx, hb, hml, hown, hts⟩ (s_Md_sizeOf l D ad cA A TB hA hB  M hI L hL (hlv) w (by omega)) (cwV 1 hts (tb_goodV ml_Md_159 im_Md_sizeOf se_Md_sizeOf ii_Md kt_Md_sizeOf) rfl rfl rfl (by decide +kernel) ⟨Nat.le_of_ble_eq_true rfl, Nat.le_of_ble_eq_true rfl⟩) (ux_preV (by decide) rfl rfl hP hK hi hN) rfl rfl hl.1 rfl (lv_room (Nat.le_of_ble_eq_true rfl)) d_Md_fitting_62 ⟨Nat.zero_le _, Nat.zero_le _⟩) hS (fun r102 M103 H locs q104 hP hS => ?_)
              obtain ⟨hI, fq104, q104p⟩ := q104
              rw [tN_eq fq104] at hP hI
              obtain ⟨c105, hc105, ec105⟩ := nat_of (x := M 19 (8 * L + w)) (n := 200) (hI.1 _ _).1 (hI.1 _ _).2
              rw [ec105] at q104p
              subst q104p
              have tc105 : (M 19 (8 * L + w)).toInt = (c105 : Int) := by rw [ec105]; exact nI_toInt (by omega)
              refine lv_bipush (v := 20) hx hb d_Md_fitting_65 (by decide) ?_
              refine lv_icmp_le hx hb d_Md_fitting_67 rfl (fun h106 => ?_) (fun h106 => ?_)
              · have g106 : ((c105 : Nat) : Int) ≤ 20 := by have q := Int32.le_iff_toInt_le.mp h106; rw [nI_toInt (n := c105) (by omega)] at q; exact q
                refine lv_iconst (v := 0) hx hb d_Md_fitting_75 (by decide) ?_
                refine lv_istore_n hx hb d_Md_fitting_76 rfl hl (by decide) rfl (fun ls hl => ?_)
                have hl : lv_has ls 4 [(3, .int 0), (0, .ref (ad 0)), (1, .int fch), (2, .int (nI w))] := hl
                refine lv_iload_n hx hb d_Md_fitting_77 rfl (lv_at hl 0 rfl) ?_
                refine lv_if_le hx hb d_Md_fitting_78 rfl (fun _ => ?_) (fun hz => absurd (by decide) hz)
                refine lv_iload_n hx hb d_Md_fitting_86 rfl (lv_at hl 0 rfl) ?_
                refine lv_if_ne hx hb d_Md_fitting_87 rfl (fun hz => absurd (by decide) hz) (fun _ => ?_)
                refine lv_iconst (v := 1) hx hb d_Md_fitting_90 (by decide) ?_
                refine lv_goto hx hb d_Md_fitting_91 rfl ?_
                exact W.zret (v := 1) hx hb hr (rfl) (fun t ht hW => ⟨⟨1, M, rfl, ⟨hI, hF, ⟨Or.inr rfl, fun _ => ⟨fun _ _ _ => rfl, fun q => by first | exact nk97 (by omega) | (exfalso; omega), fun q => by first | exact nk65 (by omega) | (exfalso; omega), fun q => by omega⟩, fun q => absurd q (by decide)⟩⟩, by unfold ux_E; rw [ht]; exact hP⟩, hS.F ht⟩) hS.2.2 d_Md_fitting_95
              · have g106 : ¬ (((c105 : Nat) : Int) ≤ 20) := fun q => h106 (Int32.le_iff_toInt_le.mpr (by rw [nI_toInt (n := c105) (by omega)]; exact q))
                refine lv_bipush (v := 7) hx hb d_Md_fitting_70 (by decide) ?_
                refine lv_goto hx hb d_Md_fitting_72 rfl ?_
                refine lv_istore_n hx hb d_Md_fitting_76 rfl hl (by decide) rfl (fun ls hl => ?_)
                have hl : lv_has ls 4 [(3, .int 7), (0, .ref (ad 0)), (1, .int fch), (2, .int (nI w))] := hl
                refine lv_iload_n hx hb d_Md_fitting_77 rfl (lv_at hl 0 rfl) ?_
                refine lv_if_le hx hb d_Md_fitting_78 rfl (fun hz => absurd hz (by decide)) (fun _ => ?_)
                refine lv_aload_n hx hb d_Md_fitting_81 rfl (lv_at hl 1 rfl) ?_
                refine lv_iload_n hx hb d_Md_fitting_82 rfl (lv_at hl 0 rfl) ?_
                refine ux_callv (va_runV ⟨hx, hb, hml, hown, hts⟩ (s_Md_error l D ad cA A TB hA hB  M hI 7) (cwV 1 hts (tb_goodV ml_Md_166 im_Md_error se_Md_error ii_Md kt_Md_error) rfl rfl rfl (by decide +kernel) ⟨Nat.le_of_ble_eq_true rfl, Nat.le_of_ble_eq_true rfl⟩) (ux_preV (by decide) rfl rfl hP hK hi hN) rfl rfl hl.1 rfl (lv_room (Nat.le_of_ble_eq_true rfl)) d_Md_fitting_83 ⟨Nat.zero_le _, Nat.zero_le _⟩) hS (fun M108 H locs q109 hP hS => ?_)
                obtain ⟨hI, fq109, q109p⟩ := q109
                have hF := fr_call hF fq109 (fun a b q => by unfold mEr at q; unfold mFi; omega)
                refine lv_iload_n hx hb d_Md_fitting_86 rfl (lv_at hl 0 rfl) ?_
                refine lv_if_ne hx hb d_Md_fitting_87 rfl (fun _ => ?_) (fun hz => absurd hz (by decide))
                refine lv_iconst (v := 0) hx hb d_Md_fitting_94 (by decide) ?_
                exact W.zret (v := 0) hx hb hr (rfl) (fun t ht hW => ⟨⟨0, M108, rfl, ⟨hI, hF, ⟨Or.inl rfl, fun q => absurd q (by decide), fun _ => by first | assumption | (exfalso; omega)⟩⟩, by unfold ux_E; rw [ht]; exact hP⟩, hS.F ht⟩) hS.2.2 d_Md_fitting_95
          · have g100 : fch.toInt = 110 := congrArg Int32.toInt h100
            refine lv_aload_n hx hb d_Md_fitting_42 rfl (lv_at hl 0 rfl) ?_
            refine lv_iload_n hx hb d_Md_fitting_43 rfl (lv_at hl 2 rfl) ?_
            refine ux_calli (va_runV ⟨hx, hb, hml, hown, hts⟩ (s_Md_isNumber l D ad cA A TB hA hB  M hI L hL (hlv) w (by omega)) (cwV 1 hts (tb_goodV ml_Md_242 im_Md_isNumber se_Md_isNumber ii_Md kt_Md_isNumber) rfl rfl rfl (by decide +kernel) ⟨Nat.le_of_ble_eq_true rfl, Nat.le_of_ble_eq_true rfl⟩) (ux_preV (by decide) rfl rfl hP hK hi hN) rfl rfl hl.1 rfl (lv_room (Nat.le_of_ble_eq_true rfl)) d_Md_fitting_44 ⟨Nat.zero_le _, Nat.zero_le _⟩) hS (fun r110 M111 H locs q112 hP hS => ?_)
            obtain ⟨hI, fq112, q112p⟩ := q112
            have hF := fr_call hF fq112 (fun a b q => by unfold mDg at q; unfold mFi; omega)
            refine lv_if_ne hx hb d_Md_fitting_47 rfl (fun h113 => ?_) (fun h113 => ?_)
            · have g113 : ¬ (r110.toInt = 0) := fun q => h113 (Int32.toInt_inj.mp q)
              refine lv_iload_n hx hb d_Md_fitting_54 rfl (lv_at hl 1 rfl) ?_
              refine lv_bipush (v := 120) hx hb d_Md_fitting_55 (by decide) ?_
              refine lv_icmp_ne hx hb d_Md_fitting_57 rfl (fun h114 => ?_) (fun h114 => ?_)
              · have g114 : ¬ (fch.toInt = 120) := fun q => h114 (Int32.toInt_inj.mp q)
                refine lv_iconst (v := 0) hx hb d_Md_fitting_75 (by decide) ?_
                refine lv_istore_n hx hb d_Md_fitting_76 rfl hl (by decide) rfl (fun ls hl => ?_)
                have hl : lv_has ls 4 [(3, .int 0), (0, .ref (ad 0)), (1, .int fch), (2, .int (nI w))] := hl
                refine lv_iload_n hx hb d_Md_fitting_77 rfl (lv_at hl 0 rfl) ?_
                refine lv_if_le hx hb d_Md_fitting_78 rfl (fun _ => ?_) (fun hz => absurd (by decide) hz)
                refine lv_iload_n hx hb d_Md_fitting_86 rfl (lv_at hl 0 rfl) ?_
                refine lv_if_ne hx hb d_Md_fitting_87 rfl (fun hz => absurd (by decide) hz) (fun _ => ?_)
                refine lv_iconst (v := 1) hx hb d_Md_fitting_90 (by decide) ?_
                refine lv_goto hx hb d_Md_fitting_91 rfl ?_
                exact W.zret (v := 1) hx hb hr (rfl) (fun t ht hW => ⟨⟨1, M111, rfl, ⟨hI, hF, ⟨Or.inr rfl, fun _ => ⟨fq112, fun q => by first | exact nk97 (by omega) | (exfalso; omega), fun q => by first | exact nk65 (by omega) | (exfalso; omega), fun q => by omega⟩, fun q => absurd q (by decide)⟩⟩, by unfold ux_E; rw [ht]; exact hP⟩, hS.F ht⟩) hS.2.2 d_Md_fitting_95
              · have g114 : fch.toInt = 120 := congrArg Int32.toInt h114
                refine lv_aload_n hx hb d_Md_fitting_60 rfl (lv_at hl 0 rfl) ?_
                refine lv_iload_n hx hb d_Md_fitting_61 rfl (lv_at hl 2 rfl) ?_
                refine ux_calli (va_runV ⟨hx, hb, hml, hown, hts⟩ (s_Md_sizeOf l D ad cA A TB hA hB  M111 hI L hL ((hF _ _ (by unfold mFi; omega)).trans hlv) w (by omega)) (cwV 1 hts (tb_goodV ml_Md_159 im_Md_sizeOf se_Md_sizeOf ii_Md kt_Md_sizeOf) rfl rfl rfl (by decide +kernel) ⟨Nat.le_of_ble_eq_true rfl, Nat.le_of_ble_eq_true rfl⟩) (ux_preV (by decide) rfl rfl hP hK hi hN) rfl rfl hl.1 rfl (lv_room (Nat.le_of_ble_eq_true rfl)) d_Md_fitting_62 ⟨Nat.zero_le _, Nat.zero_le _⟩) hS (fun r115 M116 H locs q117 hP hS => ?_)
                obtain ⟨hI, fq117, q117p⟩ := q117
                rw [tN_eq fq117] at hP hI
                obtain ⟨c118, hc118, ec118⟩ := nat_of (x := M111 19 (8 * L + w)) (n := 200) (hI.1 _ _).1 (hI.1 _ _).2
                rw [ec118] at q117p
                subst q117p
                have tc118 : (M111 19 (8 * L + w)).toInt = (c118 : Int) := by rw [ec118]; exact nI_toInt (by omega)
                refine lv_bipush (v := 20) hx hb d_Md_fitting_65 (by decide) ?_
                refine lv_icmp_le hx hb d_Md_fitting_67 rfl (fun h119 => ?_) (fun h119 => ?_)
                · have g119 : ((c118 : Nat) : Int) ≤ 20 := by have q := Int32.le_iff_toInt_le.mp h119; rw [nI_toInt (n := c118) (by omega)] at q; exact q
                  refine lv_iconst (v := 0) hx hb d_Md_fitting_75 (by decide) ?_
                  refine lv_istore_n hx hb d_Md_fitting_76 rfl hl (by decide) rfl (fun ls hl => ?_)
                  have hl : lv_has ls 4 [(3, .int 0), (0, .ref (ad 0)), (1, .int fch), (2, .int (nI w))] := hl
                  refine lv_iload_n hx hb d_Md_fitting_77 rfl (lv_at hl 0 rfl) ?_
                  refine lv_if_le hx hb d_Md_fitting_78 rfl (fun _ => ?_) (fun hz => absurd (by decide) hz)
                  refine lv_iload_n hx hb d_Md_fitting_86 rfl (lv_at hl 0 rfl) ?_
                  refine lv_if_ne hx hb d_Md_fitting_87 rfl (fun hz => absurd (by decide) hz) (fun _ => ?_)
                  refine lv_iconst (v := 1) hx hb d_Md_fitting_90 (by decide) ?_
                  refine lv_goto hx hb d_Md_fitting_91 rfl ?_
                  exact W.zret (v := 1) hx hb hr (rfl) (fun t ht hW => ⟨⟨1, M111, rfl, ⟨hI, hF, ⟨Or.inr rfl, fun _ => ⟨fq112, fun q => by first | exact nk97 (by omega) | (exfalso; omega), fun q => by first | exact nk65 (by omega) | (exfalso; omega), fun q => by omega⟩, fun q => absurd q (by decide)⟩⟩, by unfold ux_E; rw [ht]; exact hP⟩, hS.F ht⟩) hS.2.2 d_Md_fitting_95
                · have g119 : ¬ (((c118 : Nat) : Int) ≤ 20) := fun q => h119 (Int32.le_iff_toInt_le.mpr (by rw [nI_toInt (n := c118) (by omega)]; exact q))
                  refine lv_bipush (v := 7) hx hb d_Md_fitting_70 (by decide) ?_
                  refine lv_goto hx hb d_Md_fitting_72 rfl ?_
                  refine lv_istore_n hx hb d_Md_fitting_76 rfl hl (by decide) rfl (fun ls hl => ?_)
                  have hl : lv_has ls 4 [(3, .int 7), (0, .ref (ad 0)), (1, .int fch), (2, .int (nI w))] := hl
                  refine lv_iload_n hx hb d_Md_fitting_77 rfl (lv_at hl 0 rfl) ?_
                  refine lv_if_le hx hb d_Md_fitting_78 rfl (fun hz => absurd hz (by decide)) (fun _ => ?_)
                  refine lv_aload_n hx hb d_Md_fitting_81 rfl (lv_at hl 1 rfl) ?_
                  refine lv_iload_n hx hb d_Md_fitting_82 rfl (lv_at hl 0 rfl) ?_
                  refine ux_callv (va_runV ⟨hx, hb, hml, hown, hts⟩ (s_Md_error l D ad cA A TB hA hB  M111 hI 7) (cwV 1 hts (tb_goodV ml_Md_166 im_Md_error se_Md_error ii_Md kt_Md_error) rfl rfl rfl (by decide +kernel) ⟨Nat.le_of_ble_eq_true rfl, Nat.le_of_ble_eq_true rfl⟩) (ux_preV (by decide) rfl rfl hP hK hi hN) rfl rfl hl.1 rfl (lv_room (Nat.le_of_ble_eq_true rfl)) d_Md_fitting_83 ⟨Nat.zero_le _, Nat.zero_le _⟩) hS (fun M121 H locs q122 hP hS => ?_)
                  obtain ⟨hI, fq122, q122p⟩ := q122
                  have hF := fr_call hF fq122 (fun a b q => by unfold mEr at q; unfold mFi; omega)
                  refine lv_iload_n hx hb d_Md_fitting_86 rfl (lv_at hl 0 rfl) ?_
                  refine lv_if_ne hx hb d_Md_fitting_87 rfl (fun _ => ?_) (fun hz => absurd hz (by decide))
                  refine lv_iconst (v := 0) hx hb d_Md_fitting_94 (by decide) ?_
                  exact W.zret (v := 0) hx hb hr (rfl) (fun t ht hW => ⟨⟨0, M121, rfl, ⟨hI, hF, ⟨Or.inl rfl, fun q => absurd q (by decide), fun _ => by first | assumption | (exfalso; omega)⟩⟩, by unfold ux_E; rw [ht]; exact hP⟩, hS.F ht⟩) hS.2.2 d_Md_fitting_95
            · have g113 : r110.toInt = 0 := congrArg Int32.toInt h113
              refine lv_iconst (v := 5) hx hb d_Md_fitting_50 (by decide) ?_
              refine lv_goto hx hb d_Md_fitting_51 rfl ?_
              refine lv_istore_n hx hb d_Md_fitting_76 rfl hl (by decide) rfl (fun ls hl => ?_)
              have hl : lv_has ls 4 [(3, .int 5), (0, .ref (ad 0)), (1, .int fch), (2, .int (nI w))] := hl
              refine lv_iload_n hx hb d_Md_fitting_77 rfl (lv_at hl 0 rfl) ?_
              refine lv_if_le hx hb d_Md_fitting_78 rfl (fun hz => absurd hz (by decide)) (fun _ => ?_)
              refine lv_aload_n hx hb d_Md_fitting_81 rfl (lv_at hl 1 rfl) ?_
              refine lv_iload_n hx hb d_Md_fitting_82 rfl (lv_at hl 0 rfl) ?_
              refine ux_callv (va_runV ⟨hx, hb, hml, hown, hts⟩ (s_Md_error l D ad cA A TB hA hB  M111 hI 5) (cwV 1 hts (tb_goodV ml_Md_166 im_Md_error se_Md_error ii_Md kt_Md_error) rfl rfl rfl (by decide +kernel) ⟨Nat.le_of_ble_eq_true rfl, Nat.le_of_ble_eq_true rfl⟩) (ux_preV (by decide) rfl rfl hP hK hi hN) rfl rfl hl.1 rfl (lv_room (Nat.le_of_ble_eq_true rfl)) d_Md_fitting_83 ⟨Nat.zero_le _, Nat.zero_le _⟩) hS (fun M124 H locs q125 hP hS => ?_)
              obtain ⟨hI, fq125, q125p⟩ := q125
              have hF := fr_call hF fq125 (fun a b q => by unfold mEr at q; unfold mFi; omega)
              refine lv_iload_n hx hb d_Md_fitting_86 rfl (lv_at hl 0 rfl) ?_
              refine lv_if_ne hx hb d_Md_fitting_87 rfl (fun _ => ?_) (fun hz => absurd hz (by decide))
              refine lv_iconst (v := 0) hx hb d_Md_fitting_94 (by decide) ?_
              exact W.zret (v := 0) hx hb hr (rfl) (fun t ht hW => ⟨⟨0, M124, rfl, ⟨hI, hF, ⟨Or.inl rfl, fun q => absurd q (by decide), fun _ => by first | assumption | (exfalso; omega)⟩⟩, by unfold ux_E; rw [ht]; exact hP⟩, hS.F ht⟩) hS.2.2 d_Md_fitting_95
        · have g99 : ¬ (0 ≤ r96.toInt) := fun q => h99 (Int32.le_iff_toInt_le.mpr q)
          have w99 := ti_lo r96
          refine lv_iconst (v := 4) hx hb d_Md_fitting_32 (by decide) ?_
          refine lv_goto hx hb d_Md_fitting_33 rfl ?_
          refine lv_istore_n hx hb d_Md_fitting_76 rfl hl (by decide) rfl (fun ls hl => ?_)
          have hl : lv_has ls 4 [(3, .int 4), (0, .ref (ad 0)), (1, .int fch), (2, .int (nI w))] := hl
          refine lv_iload_n hx hb d_Md_fitting_77 rfl (lv_at hl 0 rfl) ?_
          refine lv_if_le hx hb d_Md_fitting_78 rfl (fun hz => absurd hz (by decide)) (fun _ => ?_)
          refine lv_aload_n hx hb d_Md_fitting_81 rfl (lv_at hl 1 rfl) ?_
          refine lv_iload_n hx hb d_Md_fitting_82 rfl (lv_at hl 0 rfl) ?_
          refine ux_callv (va_runV ⟨hx, hb, hml, hown, hts⟩ (s_Md_error l D ad cA A TB hA hB  M hI 4) (cwV 1 hts (tb_goodV ml_Md_166 im_Md_error se_Md_error ii_Md kt_Md_error) rfl rfl rfl (by decide +kernel) ⟨Nat.le_of_ble_eq_true rfl, Nat.le_of_ble_eq_true rfl⟩) (ux_preV (by decide) rfl rfl hP hK hi hN) rfl rfl hl.1 rfl (lv_room (Nat.le_of_ble_eq_true rfl)) d_Md_fitting_83 ⟨Nat.zero_le _, Nat.zero_le _⟩) hS (fun M127 H locs q128 hP hS => ?_)
          obtain ⟨hI, fq128, q128p⟩ := q128
          have hF := fr_call hF fq128 (fun a b q => by unfold mEr at q; unfold mFi; omega)
          refine lv_iload_n hx hb d_Md_fitting_86 rfl (lv_at hl 0 rfl) ?_
          refine lv_if_ne hx hb d_Md_fitting_87 rfl (fun _ => ?_) (fun hz => absurd hz (by decide))
          refine lv_iconst (v := 0) hx hb d_Md_fitting_94 (by decide) ?_
          exact W.zret (v := 0) hx hb hr (rfl) (fun t ht hW => ⟨⟨0, M127, rfl, ⟨hI, hF, ⟨Or.inl rfl, fun q => absurd q (by decide), fun _ => by first | assumption | (exfalso; omega)⟩⟩, by unfold ux_E; rw [ht]; exact hP⟩, hS.F ht⟩) hS.2.2 d_Md_fitting_95

set_option maxHeartbeats 1600000 in
set_option maxRecDepth 100000 in
theorem s_Md_forms (l : Launch) (D : va_G) (ad : Nat → Nat) (cA : Nat → ClassId) (A TB : Nat) (hA : A ≤ 100000000) (hB : TB ≤ 2000000000) (M : ux_M) (hI : IvM A TB M) (L : Nat) (hL : L ≤ 7) (hlv : M 0 10 = nI L) (fa fb fc : Int32) : Met l y_Md_forms w_Md_forms ({ frames := 6, cells := 0, slots := 0, locals := 139 }) (va_Pc [.ref (ad 0), .int fa, .int fb, .int fc] (ux_B D shM KM ad cA M)) (va_Qi (fun r M1 => IvM A TB M1 ∧ (∀ a b, ¬ mFi a b → M1 a b = M a b) ∧ ((r = 0 ∨ r = 1) ∧ (r = 1 → (∀ a b, ¬ mDg a b → M1 a b = M a b) ∧ ∀ w : Nat, 1 ≤ w → w < 4 → (w : Int) < (M 14 L).toInt → okf M (8 * L + w) (fsel fa fb fc w) ∧ ((fsel fa fb fc w).toInt = 119 → ¬ M 17 (8 * L + w) = 0)) ∧ (r = 0 → M1 0 23 = 1 ∧ M1 0 24 = 1))) (ux_E D shM KM ad cA) (ux_A KM ad)) 0 0 (ux_A KM ad) := by
  refine Met.ofW (cc := b_Md_forms) (maxL := 7) (ret := (some .boolean)) (by decide) rfl ?_
  intro p e s m args below meth c s₁ B hml hv
  obtain ⟨rfl, hP, hK, hi, hN⟩ := hv
  have hx := B.exec
  have hb := B.bytes
  have hr := B.returns
  have hts := atoms_spec (ws := w_Md_forms) B.pre
  have hown : s.vm.findClass R_Md = some m.cls := findClass_of_methodNamed B.named
  have hlocks := B.notSynchronized
  have hT : ∀ w ∈ tb, w.before _ s = true := fun w h => hts w (List.mem_cons_of_mem _ h)
  have hS : va_S (ux_A KM ad) s.heap s.heap [] := va_S.rf
  have hl := lv_entry ([.ref (ad 0), .int fa, .int fb, .int fc]) (n := 7) (Nat.le_of_ble_eq_true rfl)
  rw [lg_entry_eq]
  generalize (lg_sl ([.ref (ad 0), .int fa, .int fb, .int fc]) ++ List.replicate (7 - (lg_sl ([.ref (ad 0), .int fa, .int fb, .int fc])).length) Slot.unset).toArray = ls at hl ⊢
  have hl : lv_has ls 7 [(0, .ref (ad 0)), (1, .int fa), (2, .int fb), (3, .int fc)] := hl
  have hF : ∀ a b, ¬ mFi a b → M a b = M a b := fun _ _ _ => rfl
  have cut14 : ∀ (nn : Nat) (k4 k5 : Nat) (Mc14 : ux_M) (H : Heap) (locs : List Loc) (ls : Array Slot), 4 - k5 = nn → (1 ≤ k5) → (k5 ≤ 4) → (k4 ≤ 8) → ((k4 : Int) = (M 14 L).toInt) → (∀ w : Nat, 1 ≤ w → w < k5 → ((fsel fa fb fc w).toInt = 119 → ¬ Mc14 17 (8 * L + w) = 0)) → (∀ a b, ¬ mDg a b → Mc14 a b = M a b) → va_P D classes (ux_w shM KM ad cA Mc14) H → IvM A TB Mc14 → (∀ a b, ¬ mFi a b → Mc14 a b = M a b) → va_S (ux_A KM ad) s.heap H locs → lv_has ls 7 [(0, .ref (ad 0)), (1, .int fa), (2, .int fb), (3, .int fc), (4, .int (nI k4)), (5, .int (nI k5))] → W p l e (headSpec w_Md_forms ({ frames := 6, cells := 0, slots := 0, locals := 139 })).room s m (([.ref (ad 0), .int fa, .int fb, .int fc] : List Value).toArray) below meth c H locs 0 0 (MQ below (va_Qi (fun r M1 => IvM A TB M1 ∧ (∀ a b, ¬ mFi a b → M1 a b = M a b) ∧ ((r = 0 ∨ r = 1) ∧ (r = 1 → (∀ a b, ¬ mDg a b → M1 a b = M a b) ∧ ∀ w : Nat, 1 ≤ w → w < 4 → (w : Int) < (M 14 L).toInt → okf M (8 * L + w) (fsel fa fb fc w) ∧ ((fsel fa fb fc w).toInt = 119 → ¬ M 17 (8 * L + w) = 0)) ∧ (r = 0 → M1 0 23 = 1 ∧ M1 0 24 = 1))) (ux_E D shM KM ad cA) (ux_A KM ad)) (([.ref (ad 0), .int fa, .int fb, .int fc] : List Value).toArray) s 0 0 (ux_A KM ad)) (F0 m 14 ls []) := by
    intro nn
    induction nn using Nat.strongRecOn with
    | ind nn ih14 =>
      intro k4 k5 Mc14 H locs ls hn c14_0 c14_1 c14_2 c14_3 c14_4 c14_5 hP hI hF hS hl
      refine lv_iload hx hb d_Md_forms_14 (lv_at hl 5 rfl) ?_
      refine lv_iload hx hb d_Md_forms_16 (lv_at hl 4 rfl) ?_
      refine lv_icmp_ge hx hb d_Md_forms_18 rfl (fun h1 => ?_) (fun h1 => ?_)
      · have g1 : ((k4 : Nat) : Int) ≤ ((k5 : Nat) : Int) := by have q := Int32.le_iff_toInt_le.mp h1; rw [nI_toInt (n := k4) (by omega), nI_toInt (n := k5) (by omega)] at q; exact q
        have hbr : ∀ w : Nat, 1 ≤ w → w < 4 → (w : Int) < (M 14 L).toInt → (fsel fa fb fc w).toInt = 119 → ¬ M 17 (8 * L + w) = 0 := fun w h1 h2 h3 h4 => by
          have q := c14_4 w h1 (by omega) h4
          rw [hF 17 _ (by unfold mFi; omega)] at q
          exact q
        refine lv_iconst (v := 1) hx hb d_Md_forms_84 (by decide) ?_
        have cut87 : ∀ (nn : Nat) (k5 : Nat) (Mc87 : ux_M) (H : Heap) (locs : List Loc) (ls : Array Slot), 4 - k5 = nn → (1 ≤ k5) → (k5 ≤ 4) → (∀ w : Nat, 1 ≤ w → w < k5 → okf M (8 * L + w) (fsel fa fb fc w)) → (∀ a b, ¬ mDg a b → Mc87 a b = M a b) → va_P D classes (ux_w shM KM ad cA Mc87) H → IvM A TB Mc87 → (∀ a b, ¬ mFi a b → Mc87 a b = M a b) → va_S (ux_A KM ad) s.heap H locs → lv_has ls 7 [(0, .ref (ad 0)), (1, .int fa), (2, .int fb), (3, .int fc), (4, .int (nI k4)), (5, .int (nI k5))] → W p l e (headSpec w_Md_forms ({ frames := 6, cells := 0, slots := 0, locals := 139 })).room s m (([.ref (ad 0), .int fa, .int fb, .int fc] : List Value).toArray) below meth c H locs 0 0 (MQ below (va_Qi (fun r M1 => IvM A TB M1 ∧ (∀ a b, ¬ mFi a b → M1 a b = M a b) ∧ ((r = 0 ∨ r = 1) ∧ (r = 1 → (∀ a b, ¬ mDg a b → M1 a b = M a b) ∧ ∀ w : Nat, 1 ≤ w → w < 4 → (w : Int) < (M 14 L).toInt → okf M (8 * L + w) (fsel fa fb fc w) ∧ ((fsel fa fb fc w).toInt = 119 → ¬ M 17 (8 * L + w) = 0)) ∧ (r = 0 → M1 0 23 = 1 ∧ M1 0 24 = 1))) (ux_E D shM KM ad cA) (ux_A KM ad)) (([.ref (ad 0), .int fa, .int fb, .int fc] : List Value).toArray) s 0 0 (ux_A KM ad)) (F0 m 87 ls []) := by
          intro nn
          induction nn using Nat.strongRecOn with
          | ind nn ih87 =>
            intro k5 Mc87 H locs ls hn c87_0 c87_1 c87_2 c87_3 hP hI hF hS hl
            refine lv_iload hx hb d_Md_forms_87 (lv_at hl 5 rfl) ?_
            refine lv_iload hx hb d_Md_forms_89 (lv_at hl 4 rfl) ?_
            refine lv_icmp_ge hx hb d_Md_forms_91 rfl (fun h2 => ?_) (fun h2 => ?_)
            · have g2 : ((k4 : Nat) : Int) ≤ ((k5 : Nat) : Int) := by have q := Int32.le_iff_toInt_le.mp h2; rw [nI_toInt (n := k4) (by omega), nI_toInt (n := k5) (by omega)] at q; exact q
              refine lv_iconst (v := 1) hx hb d_Md_forms_142 (by decide) ?_
              exact W.zret (v := 1) hx hb hr (rfl) (fun t ht hW => ⟨⟨1, Mc87, rfl, ⟨hI, hF, ⟨Or.inr rfl, fun _ => ⟨c87_3, fun w h1 h2 h3 => ⟨c87_2 w h1 (by omega), hbr w h1 h2 h3⟩⟩, fun q => absurd q (by decide)⟩⟩, by unfold ux_E; rw [ht]; exact hP⟩, hS.F ht⟩) hS.2.2 d_Md_forms_143
            · have g2 : ¬ (((k4 : Nat) : Int) ≤ ((k5 : Nat) : Int)) := fun q => h2 (Int32.le_iff_toInt_le.mpr (by rw [nI_toInt (n := k4) (by omega), nI_toInt (n := k5) (by omega)]; exact q))
              refine lv_iload hx hb d_Md_forms_94 (lv_at hl 5 rfl) ?_
              refine lv_iconst (v := 4) hx hb d_Md_forms_96 (by decide) ?_
              refine lv_icmp_ge hx hb d_Md_forms_97 rfl (fun h3 => ?_) (fun h3 => ?_)
              · have g3 : 4 ≤ ((k5 : Nat) : Int) := by have q := Int32.le_iff_toInt_le.mp h3; rw [nI_toInt (n := k5) (by omega)] at q; exact q
                refine lv_iconst (v := 1) hx hb d_Md_forms_142 (by decide) ?_
                exact W.zret (v := 1) hx hb hr (rfl) (fun t ht hW => ⟨⟨1, Mc87, rfl, ⟨hI, hF, ⟨Or.inr rfl, fun _ => ⟨c87_3, fun w h1 h2 h3 => ⟨c87_2 w h1 (by omega), hbr w h1 h2 h3⟩⟩, fun q => absurd q (by decide)⟩⟩, by unfold ux_E; rw [ht]; exact hP⟩, hS.F ht⟩) hS.2.2 d_Md_forms_143
              · have g3 : ¬ (4 ≤ ((k5 : Nat) : Int)) := fun q => h3 (Int32.le_iff_toInt_le.mpr (by rw [nI_toInt (n := k5) (by omega)]; exact q))
                refine lv_iload hx hb d_Md_forms_100 (lv_at hl 5 rfl) ?_
                refine lv_iconst (v := 1) hx hb d_Md_forms_102 (by decide) ?_
                refine lv_icmp_ne hx hb d_Md_forms_103 rfl (fun h4 => ?_) (fun h4 => ?_)
                · have g4 : ¬ (((k5 : Nat) : Int) = 1) := fun q => h4 (Int32.toInt_inj.mp (by rw [nI_toInt (n := k5) (by omega)]; exact q))
                  refine lv_iload hx hb d_Md_forms_110 (lv_at hl 5 rfl) ?_
                  refine lv_iconst (v := 2) hx hb d_Md_forms_112 (by decide) ?_
                  refine lv_icmp_ne hx hb d_Md_forms_113 rfl (fun h5 => ?_) (fun h5 => ?_)
                  · have g5 : ¬ (((k5 : Nat) : Int) = 2) := fun q => h5 (Int32.toInt_inj.mp (by rw [nI_toInt (n := k5) (by omega)]; exact q))
                    refine lv_iload_n hx hb d_Md_forms_120 rfl (lv_at hl 3 rfl) ?_
                    refine lv_istore hx hb d_Md_forms_121 hl (by decide) rfl (fun ls hl => ?_)
                    have hl : lv_has ls 7 [(6, .int fc), (0, .ref (ad 0)), (1, .int fa), (2, .int fb), (3, .int fc), (4, .int (nI k4)), (5, .int (nI k5))] := hl
                    refine lv_aload_n hx hb d_Md_forms_123 rfl (lv_at hl 1 rfl) ?_
                    refine lv_iload hx hb d_Md_forms_124 (lv_at hl 0 rfl) ?_
                    refine lv_iload hx hb d_Md_forms_126 (lv_at hl 6 rfl) ?_
                    refine ux_calli (va_runV ⟨hx, hb, hml, hown, hts⟩ (s_Md_fitting l D ad cA A TB hA hB  Mc87 hI L hL ((hF _ _ (by unfold mFi; omega)).trans hlv) fc k5 (by omega)) (cwV 2 hts (tb_goodV ml_Md_238 im_Md_fitting se_Md_fitting ii_Md kt_Md_fitting) rfl rfl rfl (by decide +kernel) ⟨Nat.le_of_ble_eq_true rfl, Nat.le_of_ble_eq_true rfl⟩) (ux_preV (by decide) rfl rfl hP hK hi hN) rfl rfl hl.1 rfl (lv_room (Nat.le_of_ble_eq_true rfl)) d_Md_forms_128 ⟨Nat.zero_le _, Nat.zero_le _⟩) hS (fun r6 M7 H locs q8 hP hS => ?_)
                    obtain ⟨hI, fq8, q8p⟩ := q8
                    have hF := fr_call hF fq8 (fun a b q => by unfold mFi at q; unfold mFi; omega)
                    have q8i : r6.toInt = 0 ∨ r6.toInt = 1 := by rcases q8p.1 with q | q <;> rw [q] <;> first | exact Or.inl rfl | exact Or.inr rfl
                    have hr_r6 : ¬ r6.toInt = 0 → r6 = 1 := fun z => by rcases q8p.1 with q | q; exact absurd (by rw [q]; rfl) z; exact q
                    have hz_r6 : r6.toInt = 0 → r6 = 0 := fun z => by rcases q8p.1 with q | q; exact q; rw [q] at z; exact absurd z (by decide)
                    refine lv_if_ne hx hb d_Md_forms_131 rfl (fun h9 => ?_) (fun h9 => ?_)
                    · have g9 : ¬ (r6.toInt = 0) := fun q => h9 (Int32.toInt_inj.mp q)
                      refine lv_iinc (k := 6) (v := nI (k5 + 1)) hx hb d_Md_forms_136 hl rfl (nI_add k5 1) (by decide) rfl (fun ls hl => ?_)
                      have hl : lv_has ls 7 [(5, .int (nI (k5 + 1))), (6, .int fc), (0, .ref (ad 0)), (1, .int fa), (2, .int fb), (3, .int fc), (4, .int (nI k4))] := hl
                      refine lv_goto hx hb d_Md_forms_139 rfl ?_
                      exact ih87 (4 - (k5 + 1)) (by omega) (k5 + 1) M7 _ _ ls rfl (show 1 ≤ (k5 + 1) from by first | omega | assumption | exact Or.inl rfl | exact Or.inr rfl | rfl | decide) (show (k5 + 1) ≤ 4 from by first | omega | assumption | exact Or.inl rfl | exact Or.inr rfl | rfl | decide) (show ∀ w : Nat, 1 ≤ w → w < (k5 + 1) → okf M (8 * L + w) (fsel fa fb fc w) from by first | exact fs_step c87_2 (by have z := okf_eq c87_3 (q8p.2.1 (hr_r6 (by omega))).2; unfold fsel; first | (rw [if_pos (by omega)]; exact z) | (rw [if_neg (by omega), if_pos (by omega)]; exact z) | (rw [if_neg (by omega), if_neg (by omega)]; exact z))) (show ∀ a b, ¬ mDg a b → M7 a b = M a b from by first | exact fun a b q => ((q8p.2.1 (hr_r6 (by omega))).1 a b q).trans (c87_3 a b q)) hP hI hF hS (lv_sub hl [2, 3, 4, 5, 6, 0] rfl)
                    · have g9 : r6.toInt = 0 := congrArg Int32.toInt h9
                      refine lv_iconst (v := 0) hx hb d_Md_forms_134 (by decide) ?_
                      exact W.zret (v := 0) hx hb hr (rfl) (fun t ht hW => ⟨⟨0, M7, rfl, ⟨hI, hF, ⟨Or.inl rfl, fun q => absurd q (by decide), fun _ => by first | assumption | exact q8p.2.2 (hz_r6 (by omega))⟩⟩, by unfold ux_E; rw [ht]; exact hP⟩, hS.F ht⟩) hS.2.2 d_Md_forms_135
                  · have g5 : ((k5 : Nat) : Int) = 2 := by have q := congrArg Int32.toInt h5; rw [nI_toInt (n := k5) (by omega)] at q; exact q
                    refine lv_iload_n hx hb d_Md_forms_116 rfl (lv_at hl 2 rfl) ?_
                    refine lv_goto hx hb d_Md_forms_117 rfl ?_
                    refine lv_istore hx hb d_Md_forms_121 hl (by decide) rfl (fun ls hl => ?_)
                    have hl : lv_has ls 7 [(6, .int fb), (0, .ref (ad 0)), (1, .int fa), (2, .int fb), (3, .int fc), (4, .int (nI k4)), (5, .int (nI k5))] := hl
                    refine lv_aload_n hx hb d_Md_forms_123 rfl (lv_at hl 1 rfl) ?_
                    refine lv_iload hx hb d_Md_forms_124 (lv_at hl 0 rfl) ?_
                    refine lv_iload hx hb d_Md_forms_126 (lv_at hl 6 rfl) ?_
                    refine ux_calli (va_runV ⟨hx, hb, hml, hown, hts⟩ (s_Md_fitting l D ad cA A TB hA hB  Mc87 hI L hL ((hF _ _ (by unfold mFi; omega)).trans hlv) fb k5 (by omega)) (cwV 2 hts (tb_goodV ml_Md_238 im_Md_fitting se_Md_fitting ii_Md kt_Md_fitting) rfl rfl rfl (by decide +kernel) ⟨Nat.le_of_ble_eq_true rfl, Nat.le_of_ble_eq_true rfl⟩) (ux_preV (by decide) rfl rfl hP hK hi hN) rfl rfl hl.1 rfl (lv_room (Nat.le_of_ble_eq_true rfl)) d_Md_forms_128 ⟨Nat.zero_le _, Nat.zero_le _⟩) hS (fun r10 M11 H locs q12 hP hS => ?_)
                    obtain ⟨hI, fq12, q12p⟩ := q12
                    have hF := fr_call hF fq12 (fun a b q => by unfold mFi at q; unfold mFi; omega)
                    have q12i : r10.toInt = 0 ∨ r10.toInt = 1 := by rcases q12p.1 with q | q <;> rw [q] <;> first | exact Or.inl rfl | exact Or.inr rfl
                    have hr_r10 : ¬ r10.toInt = 0 → r10 = 1 := fun z => by rcases q12p.1 with q | q; exact absurd (by rw [q]; rfl) z; exact q
                    have hz_r10 : r10.toInt = 0 → r10 = 0 := fun z => by rcases q12p.1 with q | q; exact q; rw [q] at z; exact absurd z (by decide)
                    refine lv_if_ne hx hb d_Md_forms_131 rfl (fun h13 => ?_) (fun h13 => ?_)
                    · have g13 : ¬ (r10.toInt = 0) := fun q => h13 (Int32.toInt_inj.mp q)
                      refine lv_iinc (k := 6) (v := nI (k5 + 1)) hx hb d_Md_forms_136 hl rfl (nI_add k5 1) (by decide) rfl (fun ls hl => ?_)
                      have hl : lv_has ls 7 [(5, .int (nI (k5 + 1))), (6, .int fb), (0, .ref (ad 0)), (1, .int fa), (2, .int fb), (3, .int fc), (4, .int (nI k4))] := hl
                      refine lv_goto hx hb d_Md_forms_139 rfl ?_
                      exact ih87 (4 - (k5 + 1)) (by omega) (k5 + 1) M11 _ _ ls rfl (show 1 ≤ (k5 + 1) from by first | omega | assumption | exact Or.inl rfl | exact Or.inr rfl | rfl | decide) (show (k5 + 1) ≤ 4 from by first | omega | assumption | exact Or.inl rfl | exact Or.inr rfl | rfl | decide) (show ∀ w : Nat, 1 ≤ w → w < (k5 + 1) → okf M (8 * L + w) (fsel fa fb fc w) from by first | exact fs_step c87_2 (by have z := okf_eq c87_3 (q12p.2.1 (hr_r10 (by omega))).2; unfold fsel; first | (rw [if_pos (by omega)]; exact z) | (rw [if_neg (by omega), if_pos (by omega)]; exact z) | (rw [if_neg (by omega), if_neg (by omega)]; exact z))) (show ∀ a b, ¬ mDg a b → M11 a b = M a b from by first | exact fun a b q => ((q12p.2.1 (hr_r10 (by omega))).1 a b q).trans (c87_3 a b q)) hP hI hF hS (lv_sub hl [2, 3, 4, 5, 6, 0] rfl)
                    · have g13 : r10.toInt = 0 := congrArg Int32.toInt h13
                      refine lv_iconst (v := 0) hx hb d_Md_forms_134 (by decide) ?_
                      exact W.zret (v := 0) hx hb hr (rfl) (fun t ht hW => ⟨⟨0, M11, rfl, ⟨hI, hF, ⟨Or.inl rfl, fun q => absurd q (by decide), fun _ => by first | assumption | exact q12p.2.2 (hz_r10 (by omega))⟩⟩, by unfold ux_E; rw [ht]; exact hP⟩, hS.F ht⟩) hS.2.2 d_Md_forms_135
                · have g4 : ((k5 : Nat) : Int) = 1 := by have q := congrArg Int32.toInt h4; rw [nI_toInt (n := k5) (by omega)] at q; exact q
                  refine lv_iload_n hx hb d_Md_forms_106 rfl (lv_at hl 1 rfl) ?_
                  refine lv_goto hx hb d_Md_forms_107 rfl ?_
                  refine lv_istore hx hb d_Md_forms_121 hl (by decide) rfl (fun ls hl => ?_)
                  have hl : lv_has ls 7 [(6, .int fa), (0, .ref (ad 0)), (1, .int fa), (2, .int fb), (3, .int fc), (4, .int (nI k4)), (5, .int (nI k5))] := hl
                  refine lv_aload_n hx hb d_Md_forms_123 rfl (lv_at hl 1 rfl) ?_
                  refine lv_iload hx hb d_Md_forms_124 (lv_at hl 0 rfl) ?_
                  refine lv_iload hx hb d_Md_forms_126 (lv_at hl 6 rfl) ?_
                  refine ux_calli (va_runV ⟨hx, hb, hml, hown, hts⟩ (s_Md_fitting l D ad cA A TB hA hB  Mc87 hI L hL ((hF _ _ (by unfold mFi; omega)).trans hlv) fa k5 (by omega)) (cwV 2 hts (tb_goodV ml_Md_238 im_Md_fitting se_Md_fitting ii_Md kt_Md_fitting) rfl rfl rfl (by decide +kernel) ⟨Nat.le_of_ble_eq_true rfl, Nat.le_of_ble_eq_true rfl⟩) (ux_preV (by decide) rfl rfl hP hK hi hN) rfl rfl hl.1 rfl (lv_room (Nat.le_of_ble_eq_true rfl)) d_Md_forms_128 ⟨Nat.zero_le _, Nat.zero_le _⟩) hS (fun r14 M15 H locs q16 hP hS => ?_)
                  obtain ⟨hI, fq16, q16p⟩ := q16
                  have hF := fr_call hF fq16 (fun a b q => by unfold mFi at q; unfold mFi; omega)
                  have q16i : r14.toInt = 0 ∨ r14.toInt = 1 := by rcases q16p.1 with q | q <;> rw [q] <;> first | exact Or.inl rfl | exact Or.inr rfl
                  have hr_r14 : ¬ r14.toInt = 0 → r14 = 1 := fun z => by rcases q16p.1 with q | q; exact absurd (by rw [q]; rfl) z; exact q
                  have hz_r14 : r14.toInt = 0 → r14 = 0 := fun z => by rcases q16p.1 with q | q; exact q; rw [q] at z; exact absurd z (by decide)
                  refine lv_if_ne hx hb d_Md_forms_131 rfl (fun h17 => ?_) (fun h17 => ?_)
                  · have g17 : ¬ (r14.toInt = 0) := fun q => h17 (Int32.toInt_inj.mp q)
                    refine lv_iinc (k := 6) (v := nI (k5 + 1)) hx hb d_Md_forms_136 hl rfl (nI_add k5 1) (by decide) rfl (fun ls hl => ?_)
                    have hl : lv_has ls 7 [(5, .int (nI (k5 + 1))), (6, .int fa), (0, .ref (ad 0)), (1, .int fa), (2, .int fb), (3, .int fc), (4, .int (nI k4))] := hl
                    refine lv_goto hx hb d_Md_forms_139 rfl ?_
                    exact ih87 (4 - (k5 + 1)) (by omega) (k5 + 1) M15 _ _ ls rfl (show 1 ≤ (k5 + 1) from by first | omega | assumption | exact Or.inl rfl | exact Or.inr rfl | rfl | decide) (show (k5 + 1) ≤ 4 from by first | omega | assumption | exact Or.inl rfl | exact Or.inr rfl | rfl | decide) (show ∀ w : Nat, 1 ≤ w → w < (k5 + 1) → okf M (8 * L + w) (fsel fa fb fc w) from by first | exact fs_step c87_2 (by have z := okf_eq c87_3 (q16p.2.1 (hr_r14 (by omega))).2; unfold fsel; first | (rw [if_pos (by omega)]; exact z) | (rw [if_neg (by omega), if_pos (by omega)]; exact z) | (rw [if_neg (by omega), if_neg (by omega)]; exact z))) (show ∀ a b, ¬ mDg a b → M15 a b = M a b from by first | exact fun a b q => ((q16p.2.1 (hr_r14 (by omega))).1 a b q).trans (c87_3 a b q)) hP hI hF hS (lv_sub hl [2, 3, 4, 5, 6, 0] rfl)
                  · have g17 : r14.toInt = 0 := congrArg Int32.toInt h17
                    refine lv_iconst (v := 0) hx hb d_Md_forms_134 (by decide) ?_
                    exact W.zret (v := 0) hx hb hr (rfl) (fun t ht hW => ⟨⟨0, M15, rfl, ⟨hI, hF, ⟨Or.inl rfl, fun q => absurd q (by decide), fun _ => by first | assumption | exact q16p.2.2 (hz_r14 (by omega))⟩⟩, by unfold ux_E; rw [ht]; exact hP⟩, hS.F ht⟩) hS.2.2 d_Md_forms_135
        refine lv_istore hx hb d_Md_forms_85 hl (by decide) rfl (fun ls hl => ?_)
        have hl : lv_has ls 7 [(5, .int 1), (0, .ref (ad 0)), (1, .int fa), (2, .int fb), (3, .int fc), (4, .int (nI k4))] := hl
        exact cut87 (4 - 1) 1 Mc14 _ _ ls rfl (show 1 ≤ 1 from by first | omega | assumption | exact Or.inl rfl | exact Or.inr rfl | rfl | decide) (show 1 ≤ 4 from by first | omega | assumption | exact Or.inl rfl | exact Or.inr rfl | rfl | decide) (show ∀ w : Nat, 1 ≤ w → w < 1 → okf M (8 * L + w) (fsel fa fb fc w) from by first | (intro w h1 h2; exfalso; omega)) (show ∀ a b, ¬ mDg a b → Mc14 a b = M a b from by first | exact c14_5) hP hI hF hS (lv_sub hl [1, 2, 3, 4, 5, 0] rfl)
      · have g1 : ¬ (((k4 : Nat) : Int) ≤ ((k5 : Nat) : Int)) := fun q => h1 (Int32.le_iff_toInt_le.mpr (by rw [nI_toInt (n := k4) (by omega), nI_toInt (n := k5) (by omega)]; exact q))
        refine lv_iload hx hb d_Md_forms_21 (lv_at hl 5 rfl) ?_
        refine lv_iconst (v := 4) hx hb d_Md_forms_23 (by decide) ?_
        refine lv_icmp_ge hx hb d_Md_forms_24 rfl (fun h18 => ?_) (fun h18 => ?_)
        · have g18 : 4 ≤ ((k5 : Nat) : Int) := by have q := Int32.le_iff_toInt_le.mp h18; rw [nI_toInt (n := k5) (by omega)] at q; exact q
          have hbr : ∀ w : Nat, 1 ≤ w → w < 4 → (w : Int) < (M 14 L).toInt → (fsel fa fb fc w).toInt = 119 → ¬ M 17 (8 * L + w) = 0 := fun w h1 h2 h3 h4 => by
            have q := c14_4 w h1 (by omega) h4
            rw [hF 17 _ (by unfold mFi; omega)] at q
            exact q
          refine lv_iconst (v := 1) hx hb d_Md_forms_84 (by decide) ?_
          have cut87 : ∀ (nn : Nat) (k5 : Nat) (Mc87 : ux_M) (H : Heap) (locs : List Loc) (ls : Array Slot), 4 - k5 = nn → (1 ≤ k5) → (k5 ≤ 4) → (∀ w : Nat, 1 ≤ w → w < k5 → okf M (8 * L + w) (fsel fa fb fc w)) → (∀ a b, ¬ mDg a b → Mc87 a b = M a b) → va_P D classes (ux_w shM KM ad cA Mc87) H → IvM A TB Mc87 → (∀ a b, ¬ mFi a b → Mc87 a b = M a b) → va_S (ux_A KM ad) s.heap H locs → lv_has ls 7 [(0, .ref (ad 0)), (1, .int fa), (2, .int fb), (3, .int fc), (4, .int (nI k4)), (5, .int (nI k5))] → W p l e (headSpec w_Md_forms ({ frames := 6, cells := 0, slots := 0, locals := 139 })).room s m (([.ref (ad 0), .int fa, .int fb, .int fc] : List Value).toArray) below meth c H locs 0 0 (MQ below (va_Qi (fun r M1 => IvM A TB M1 ∧ (∀ a b, ¬ mFi a b → M1 a b = M a b) ∧ ((r = 0 ∨ r = 1) ∧ (r = 1 → (∀ a b, ¬ mDg a b → M1 a b = M a b) ∧ ∀ w : Nat, 1 ≤ w → w < 4 → (w : Int) < (M 14 L).toInt → okf M (8 * L + w) (fsel fa fb fc w) ∧ ((fsel fa fb fc w).toInt = 119 → ¬ M 17 (8 * L + w) = 0)) ∧ (r = 0 → M1 0 23 = 1 ∧ M1 0 24 = 1))) (ux_E D shM KM ad cA) (ux_A KM ad)) (([.ref (ad 0), .int fa, .int fb, .int fc] : List Value).toArray) s 0 0 (ux_A KM ad)) (F0 m 87 ls []) := by
            intro nn
            induction nn using Nat.strongRecOn with
            | ind nn ih87 =>
              intro k5 Mc87 H locs ls hn c87_0 c87_1 c87_2 c87_3 hP hI hF hS hl
              refine lv_iload hx hb d_Md_forms_87 (lv_at hl 5 rfl) ?_
              refine lv_iload hx hb d_Md_forms_89 (lv_at hl 4 rfl) ?_
              refine lv_icmp_ge hx hb d_Md_forms_91 rfl (fun h19 => ?_) (fun h19 => ?_)
              · have g19 : ((k4 : Nat) : Int) ≤ ((k5 : Nat) : Int) := by have q := Int32.le_iff_toInt_le.mp h19; rw [nI_toInt (n := k4) (by omega), nI_toInt (n := k5) (by omega)] at q; exact q
                refine lv_iconst (v := 1) hx hb d_Md_forms_142 (by decide) ?_
                exact W.zret (v := 1) hx hb hr (rfl) (fun t ht hW => ⟨⟨1, Mc87, rfl, ⟨hI, hF, ⟨Or.inr rfl, fun _ => ⟨c87_3, fun w h1 h2 h3 => ⟨c87_2 w h1 (by omega), hbr w h1 h2 h3⟩⟩, fun q => absurd q (by decide)⟩⟩, by unfold ux_E; rw [ht]; exact hP⟩, hS.F ht⟩) hS.2.2 d_Md_forms_143
              · have g19 : ¬ (((k4 : Nat) : Int) ≤ ((k5 : Nat) : Int)) := fun q => h19 (Int32.le_iff_toInt_le.mpr (by rw [nI_toInt (n := k4) (by omega), nI_toInt (n := k5) (by omega)]; exact q))
                refine lv_iload hx hb d_Md_forms_94 (lv_at hl 5 rfl) ?_
                refine lv_iconst (v := 4) hx hb d_Md_forms_96 (by decide) ?_
                refine lv_icmp_ge hx hb d_Md_forms_97 rfl (fun h20 => ?_) (fun h20 => ?_)
                · have g20 : 4 ≤ ((k5 : Nat) : Int) := by have q := Int32.le_iff_toInt_le.mp h20; rw [nI_toInt (n := k5) (by omega)] at q; exact q
                  refine lv_iconst (v := 1) hx hb d_Md_forms_142 (by decide) ?_
                  exact W.zret (v := 1) hx hb hr (rfl) (fun t ht hW => ⟨⟨1, Mc87, rfl, ⟨hI, hF, ⟨Or.inr rfl, fun _ => ⟨c87_3, fun w h1 h2 h3 => ⟨c87_2 w h1 (by omega), hbr w h1 h2 h3⟩⟩, fun q => absurd q (by decide)⟩⟩, by unfold ux_E; rw [ht]; exact hP⟩, hS.F ht⟩) hS.2.2 d_Md_forms_143
                · have g20 : ¬ (4 ≤ ((k5 : Nat) : Int)) := fun q => h20 (Int32.le_iff_toInt_le.mpr (by rw [nI_toInt (n := k5) (by omega)]; exact q))
                  refine lv_iload hx hb d_Md_forms_100 (lv_at hl 5 rfl) ?_
                  refine lv_iconst (v := 1) hx hb d_Md_forms_102 (by decide) ?_
                  refine lv_icmp_ne hx hb d_Md_forms_103 rfl (fun h21 => ?_) (fun h21 => ?_)
                  · have g21 : ¬ (((k5 : Nat) : Int) = 1) := fun q => h21 (Int32.toInt_inj.mp (by rw [nI_toInt (n := k5) (by omega)]; exact q))
                    refine lv_iload hx hb d_Md_forms_110 (lv_at hl 5 rfl) ?_
                    refine lv_iconst (v := 2) hx hb d_Md_forms_112 (by decide) ?_
                    refine lv_icmp_ne hx hb d_Md_forms_113 rfl (fun h22 => ?_) (fun h22 => ?_)
                    · have g22 : ¬ (((k5 : Nat) : Int) = 2) := fun q => h22 (Int32.toInt_inj.mp (by rw [nI_toInt (n := k5) (by omega)]; exact q))
                      refine lv_iload_n hx hb d_Md_forms_120 rfl (lv_at hl 3 rfl) ?_
                      refine lv_istore hx hb d_Md_forms_121 hl (by decide) rfl (fun ls hl => ?_)
                      have hl : lv_has ls 7 [(6, .int fc), (0, .ref (ad 0)), (1, .int fa), (2, .int fb), (3, .int fc), (4, .int (nI k4)), (5, .int (nI k5))] := hl
                      refine lv_aload_n hx hb d_Md_forms_123 rfl (lv_at hl 1 rfl) ?_
                      refine lv_iload hx hb d_Md_forms_124 (lv_at hl 0 rfl) ?_
                      refine lv_iload hx hb d_Md_forms_126 (lv_at hl 6 rfl) ?_
                      refine ux_calli (va_runV ⟨hx, hb, hml, hown, hts⟩ (s_Md_fitting l D ad cA A TB hA hB  Mc87 hI L hL ((hF _ _ (by unfold mFi; omega)).trans hlv) fc k5 (by omega)) (cwV 2 hts (tb_goodV ml_Md_238 im_Md_fitting se_Md_fitting ii_Md kt_Md_fitting) rfl rfl rfl (by decide +kernel) ⟨Nat.le_of_ble_eq_true rfl, Nat.le_of_ble_eq_true rfl⟩) (ux_preV (by decide) rfl rfl hP hK hi hN) rfl rfl hl.1 rfl (lv_room (Nat.le_of_ble_eq_true rfl)) d_Md_forms_128 ⟨Nat.zero_le _, Nat.zero_le _⟩) hS (fun r23 M24 H locs q25 hP hS => ?_)
                      obtain ⟨hI, fq25, q25p⟩ := q25
                      have hF := fr_call hF fq25 (fun a b q => by unfold mFi at q; unfold mFi; omega)
                      have q25i : r23.toInt = 0 ∨ r23.toInt = 1 := by rcases q25p.1 with q | q <;> rw [q] <;> first | exact Or.inl rfl | exact Or.inr rfl
                      have hr_r23 : ¬ r23.toInt = 0 → r23 = 1 := fun z => by rcases q25p.1 with q | q; exact absurd (by rw [q]; rfl) z; exact q
                      have hz_r23 : r23.toInt = 0 → r23 = 0 := fun z => by rcases q25p.1 with q | q; exact q; rw [q] at z; exact absurd z (by decide)
                      refine lv_if_ne hx hb d_Md_forms_131 rfl (fun h26 => ?_) (fun h26 => ?_)
                      · have g26 : ¬ (r23.toInt = 0) := fun q => h26 (Int32.toInt_inj.mp q)
                        refine lv_iinc (k := 6) (v := nI (k5 + 1)) hx hb d_Md_forms_136 hl rfl (nI_add k5 1) (by decide) rfl (fun ls hl => ?_)
                        have hl : lv_has ls 7 [(5, .int (nI (k5 + 1))), (6, .int fc), (0, .ref (ad 0)), (1, .int fa), (2, .int fb), (3, .int fc), (4, .int (nI k4))] := hl
                        refine lv_goto hx hb d_Md_forms_139 rfl ?_
                        exact ih87 (4 - (k5 + 1)) (by omega) (k5 + 1) M24 _ _ ls rfl (show 1 ≤ (k5 + 1) from by first | omega | assumption | exact Or.inl rfl | exact Or.inr rfl | rfl | decide) (show (k5 + 1) ≤ 4 from by first | omega | assumption | exact Or.inl rfl | exact Or.inr rfl | rfl | decide) (show ∀ w : Nat, 1 ≤ w → w < (k5 + 1) → okf M (8 * L + w) (fsel fa fb fc w) from by first | exact fs_step c87_2 (by have z := okf_eq c87_3 (q25p.2.1 (hr_r23 (by omega))).2; unfold fsel; first | (rw [if_pos (by omega)]; exact z) | (rw [if_neg (by omega), if_pos (by omega)]; exact z) | (rw [if_neg (by omega), if_neg (by omega)]; exact z))) (show ∀ a b, ¬ mDg a b → M24 a b = M a b from by first | exact fun a b q => ((q25p.2.1 (hr_r23 (by omega))).1 a b q).trans (c87_3 a b q)) hP hI hF hS (lv_sub hl [2, 3, 4, 5, 6, 0] rfl)
                      · have g26 : r23.toInt = 0 := congrArg Int32.toInt h26
                        refine lv_iconst (v := 0) hx hb d_Md_forms_134 (by decide) ?_
                        exact W.zret (v := 0) hx hb hr (rfl) (fun t ht hW => ⟨⟨0, M24, rfl, ⟨hI, hF, ⟨Or.inl rfl, fun q => absurd q (by decide), fun _ => by first | assumption | exact q25p.2.2 (hz_r23 (by omega))⟩⟩, by unfold ux_E; rw [ht]; exact hP⟩, hS.F ht⟩) hS.2.2 d_Md_forms_135
                    · have g22 : ((k5 : Nat) : Int) = 2 := by have q := congrArg Int32.toInt h22; rw [nI_toInt (n := k5) (by omega)] at q; exact q
                      refine lv_iload_n hx hb d_Md_forms_116 rfl (lv_at hl 2 rfl) ?_
                      refine lv_goto hx hb d_Md_forms_117 rfl ?_
                      refine lv_istore hx hb d_Md_forms_121 hl (by decide) rfl (fun ls hl => ?_)
                      have hl : lv_has ls 7 [(6, .int fb), (0, .ref (ad 0)), (1, .int fa), (2, .int fb), (3, .int fc), (4, .int (nI k4)), (5, .int (nI k5))] := hl
                      refine lv_aload_n hx hb d_Md_forms_123 rfl (lv_at hl 1 rfl) ?_
                      refine lv_iload hx hb d_Md_forms_124 (lv_at hl 0 rfl) ?_
                      refine lv_iload hx hb d_Md_forms_126 (lv_at hl 6 rfl) ?_
                      refine ux_calli (va_runV ⟨hx, hb, hml, hown, hts⟩ (s_Md_fitting l D ad cA A TB hA hB  Mc87 hI L hL ((hF _ _ (by unfold mFi; omega)).trans hlv) fb k5 (by omega)) (cwV 2 hts (tb_goodV ml_Md_238 im_Md_fitting se_Md_fitting ii_Md kt_Md_fitting) rfl rfl rfl (by decide +kernel) ⟨Nat.le_of_ble_eq_true rfl, Nat.le_of_ble_eq_true rfl⟩) (ux_preV (by decide) rfl rfl hP hK hi hN) rfl rfl hl.1 rfl (lv_room (Nat.le_of_ble_eq_true rfl)) d_Md_forms_128 ⟨Nat.zero_le _, Nat.zero_le _⟩) hS (fun r27 M28 H locs q29 hP hS => ?_)
                      obtain ⟨hI, fq29, q29p⟩ := q29
                      have hF := fr_call hF fq29 (fun a b q => by unfold mFi at q; unfold mFi; omega)
                      have q29i : r27.toInt = 0 ∨ r27.toInt = 1 := by rcases q29p.1 with q | q <;> rw [q] <;> first | exact Or.inl rfl | exact Or.inr rfl
                      have hr_r27 : ¬ r27.toInt = 0 → r27 = 1 := fun z => by rcases q29p.1 with q | q; exact absurd (by rw [q]; rfl) z; exact q
                      have hz_r27 : r27.toInt = 0 → r27 = 0 := fun z => by rcases q29p.1 with q | q; exact q; rw [q] at z; exact absurd z (by decide)
                      refine lv_if_ne hx hb d_Md_forms_131 rfl (fun h30 => ?_) (fun h30 => ?_)
                      · have g30 : ¬ (r27.toInt = 0) := fun q => h30 (Int32.toInt_inj.mp q)
                        refine lv_iinc (k := 6) (v := nI (k5 + 1)) hx hb d_Md_forms_136 hl rfl (nI_add k5 1) (by decide) rfl (fun ls hl => ?_)
                        have hl : lv_has ls 7 [(5, .int (nI (k5 + 1))), (6, .int fb), (0, .ref (ad 0)), (1, .int fa), (2, .int fb), (3, .int fc), (4, .int (nI k4))] := hl
                        refine lv_goto hx hb d_Md_forms_139 rfl ?_
                        exact ih87 (4 - (k5 + 1)) (by omega) (k5 + 1) M28 _ _ ls rfl (show 1 ≤ (k5 + 1) from by first | omega | assumption | exact Or.inl rfl | exact Or.inr rfl | rfl | decide) (show (k5 + 1) ≤ 4 from by first | omega | assumption | exact Or.inl rfl | exact Or.inr rfl | rfl | decide) (show ∀ w : Nat, 1 ≤ w → w < (k5 + 1) → okf M (8 * L + w) (fsel fa fb fc w) from by first | exact fs_step c87_2 (by have z := okf_eq c87_3 (q29p.2.1 (hr_r27 (by omega))).2; unfold fsel; first | (rw [if_pos (by omega)]; exact z) | (rw [if_neg (by omega), if_pos (by omega)]; exact z) | (rw [if_neg (by omega), if_neg (by omega)]; exact z))) (show ∀ a b, ¬ mDg a b → M28 a b = M a b from by first | exact fun a b q => ((q29p.2.1 (hr_r27 (by omega))).1 a b q).trans (c87_3 a b q)) hP hI hF hS (lv_sub hl [2, 3, 4, 5, 6, 0] rfl)
                      · have g30 : r27.toInt = 0 := congrArg Int32.toInt h30
                        refine lv_iconst (v := 0) hx hb d_Md_forms_134 (by decide) ?_
                        exact W.zret (v := 0) hx hb hr (rfl) (fun t ht hW => ⟨⟨0, M28, rfl, ⟨hI, hF, ⟨Or.inl rfl, fun q => absurd q (by decide), fun _ => by first | assumption | exact q29p.2.2 (hz_r27 (by omega))⟩⟩, by unfold ux_E; rw [ht]; exact hP⟩, hS.F ht⟩) hS.2.2 d_Md_forms_135
                  · have g21 : ((k5 : Nat) : Int) = 1 := by have q := congrArg Int32.toInt h21; rw [nI_toInt (n := k5) (by omega)] at q; exact q
                    refine lv_iload_n hx hb d_Md_forms_106 rfl (lv_at hl 1 rfl) ?_
                    refine lv_goto hx hb d_Md_forms_107 rfl ?_
                    refine lv_istore hx hb d_Md_forms_121 hl (by decide) rfl (fun ls hl => ?_)
                    have hl : lv_has ls 7 [(6, .int fa), (0, .ref (ad 0)), (1, .int fa), (2, .int fb), (3, .int fc), (4, .int (nI k4)), (5, .int (nI k5))] := hl
                    refine lv_aload_n hx hb d_Md_forms_123 rfl (lv_at hl 1 rfl) ?_
                    refine lv_iload hx hb d_Md_forms_124 (lv_at hl 0 rfl) ?_
                    refine lv_iload hx hb d_Md_forms_126 (lv_at hl 6 rfl) ?_
                    refine ux_calli (va_runV ⟨hx, hb, hml, hown, hts⟩ (s_Md_fitting l D ad cA A TB hA hB  Mc87 hI L hL ((hF _ _ (by unfold mFi; omega)).trans hlv) fa k5 (by omega)) (cwV 2 hts (tb_goodV ml_Md_238 im_Md_fitting se_Md_fitting ii_Md kt_Md_fitting) rfl rfl rfl (by decide +kernel) ⟨Nat.le_of_ble_eq_true rfl, Nat.le_of_ble_eq_true rfl⟩) (ux_preV (by decide) rfl rfl hP hK hi hN) rfl rfl hl.1 rfl (lv_room (Nat.le_of_ble_eq_true rfl)) d_Md_forms_128 ⟨Nat.zero_le _, Nat.zero_le _⟩) hS (fun r31 M32 H locs q33 hP hS => ?_)
                    obtain ⟨hI, fq33, q33p⟩ := q33
                    have hF := fr_call hF fq33 (fun a b q => by unfold mFi at q; unfold mFi; omega)
                    have q33i : r31.toInt = 0 ∨ r31.toInt = 1 := by rcases q33p.1 with q | q <;> rw [q] <;> first | exact Or.inl rfl | exact Or.inr rfl
                    have hr_r31 : ¬ r31.toInt = 0 → r31 = 1 := fun z => by rcases q33p.1 with q | q; exact absurd (by rw [q]; rfl) z; exact q
                    have hz_r31 : r31.toInt = 0 → r31 = 0 := fun z => by rcases q33p.1 with q | q; exact q; rw [q] at z; exact absurd z (by decide)
                    refine lv_if_ne hx hb d_Md_forms_131 rfl (fun h34 => ?_) (fun h34 => ?_)
                    · have g34 : ¬ (r31.toInt = 0) := fun q => h34 (Int32.toInt_inj.mp q)
                      refine lv_iinc (k := 6) (v := nI (k5 + 1)) hx hb d_Md_forms_136 hl rfl (nI_add k5 1) (by decide) rfl (fun ls hl => ?_)
                      have hl : lv_has ls 7 [(5, .int (nI (k5 + 1))), (6, .int fa), (0, .ref (ad 0)), (1, .int fa), (2, .int fb), (3, .int fc), (4, .int (nI k4))] := hl
                      refine lv_goto hx hb d_Md_forms_139 rfl ?_
                      exact ih87 (4 - (k5 + 1)) (by omega) (k5 + 1) M32 _ _ ls rfl (show 1 ≤ (k5 + 1) from by first | omega | assumption | exact Or.inl rfl | exact Or.inr rfl | rfl | decide) (show (k5 + 1) ≤ 4 from by first | omega | assumption | exact Or.inl rfl | exact Or.inr rfl | rfl | decide) (show ∀ w : Nat, 1 ≤ w → w < (k5 + 1) → okf M (8 * L + w) (fsel fa fb fc w) from by first | exact fs_step c87_2 (by have z := okf_eq c87_3 (q33p.2.1 (hr_r31 (by omega))).2; unfold fsel; first | (rw [if_pos (by omega)]; exact z) | (rw [if_neg (by omega), if_pos (by omega)]; exact z) | (rw [if_neg (by omega), if_neg (by omega)]; exact z))) (show ∀ a b, ¬ mDg a b → M32 a b = M a b from by first | exact fun a b q => ((q33p.2.1 (hr_r31 (by omega))).1 a b q).trans (c87_3 a b q)) hP hI hF hS (lv_sub hl [2, 3, 4, 5, 6, 0] rfl)
                    · have g34 : r31.toInt = 0 := congrArg Int32.toInt h34
                      refine lv_iconst (v := 0) hx hb d_Md_forms_134 (by decide) ?_
                      exact W.zret (v := 0) hx hb hr (rfl) (fun t ht hW => ⟨⟨0, M32, rfl, ⟨hI, hF, ⟨Or.inl rfl, fun q => absurd q (by decide), fun _ => by first | assumption | exact q33p.2.2 (hz_r31 (by omega))⟩⟩, by unfold ux_E; rw [ht]; exact hP⟩, hS.F ht⟩) hS.2.2 d_Md_forms_135
          refine lv_istore hx hb d_Md_forms_85 hl (by decide) rfl (fun ls hl => ?_)
          have hl : lv_has ls 7 [(5, .int 1), (0, .ref (ad 0)), (1, .int fa), (2, .int fb), (3, .int fc), (4, .int (nI k4))] := hl
          exact cut87 (4 - 1) 1 Mc14 _ _ ls rfl (show 1 ≤ 1 from by first | omega | assumption | exact Or.inl rfl | exact Or.inr rfl | rfl | decide) (show 1 ≤ 4 from by first | omega | assumption | exact Or.inl rfl | exact Or.inr rfl | rfl | decide) (show ∀ w : Nat, 1 ≤ w → w < 1 → okf M (8 * L + w) (fsel fa fb fc w) from by first | (intro w h1 h2; exfalso; omega)) (show ∀ a b, ¬ mDg a b → Mc14 a b = M a b from by first | exact c14_5) hP hI hF hS (lv_sub hl [1, 2, 3, 4, 5, 0] rfl)
        · have g18 : ¬ (4 ≤ ((k5 : Nat) : Int)) := fun q => h18 (Int32.le_iff_toInt_le.mpr (by rw [nI_toInt (n := k5) (by omega)]; exact q))
          refine lv_iload hx hb d_Md_forms_27 (lv_at hl 5 rfl) ?_
          refine lv_iconst (v := 1) hx hb d_Md_forms_29 (by decide) ?_
          refine lv_icmp_ne hx hb d_Md_forms_30 rfl (fun h35 => ?_) (fun h35 => ?_)
          · have g35 : ¬ (((k5 : Nat) : Int) = 1) := fun q => h35 (Int32.toInt_inj.mp (by rw [nI_toInt (n := k5) (by omega)]; exact q))
            refine lv_iload hx hb d_Md_forms_37 (lv_at hl 5 rfl) ?_
            refine lv_iconst (v := 2) hx hb d_Md_forms_39 (by decide) ?_
            refine lv_icmp_ne hx hb d_Md_forms_40 rfl (fun h36 => ?_) (fun h36 => ?_)
            · have g36 : ¬ (((k5 : Nat) : Int) = 2) := fun q => h36 (Int32.toInt_inj.mp (by rw [nI_toInt (n := k5) (by omega)]; exact q))
              refine lv_iload_n hx hb d_Md_forms_47 rfl (lv_at hl 3 rfl) ?_
              refine lv_istore hx hb d_Md_forms_48 hl (by decide) rfl (fun ls hl => ?_)
              have hl : lv_has ls 7 [(6, .int fc), (0, .ref (ad 0)), (1, .int fa), (2, .int fb), (3, .int fc), (4, .int (nI k4)), (5, .int (nI k5))] := hl
              refine lv_iload hx hb d_Md_forms_50 (lv_at hl 0 rfl) ?_
              refine lv_bipush (v := 119) hx hb d_Md_forms_52 (by decide) ?_
              refine lv_icmp_ne hx hb d_Md_forms_54 rfl (fun h37 => ?_) (fun h37 => ?_)
              · have g37 : ¬ (fc.toInt = 119) := fun q => h37 (Int32.toInt_inj.mp q)
                refine lv_iinc (k := 6) (v := nI (k5 + 1)) hx hb d_Md_forms_78 hl rfl (nI_add k5 1) (by decide) rfl (fun ls hl => ?_)
                have hl : lv_has ls 7 [(5, .int (nI (k5 + 1))), (6, .int fc), (0, .ref (ad 0)), (1, .int fa), (2, .int fb), (3, .int fc), (4, .int (nI k4))] := hl
                refine lv_goto hx hb d_Md_forms_81 rfl ?_
                exact ih14 (4 - (k5 + 1)) (by omega) k4 (k5 + 1) Mc14 _ _ ls rfl (show 1 ≤ (k5 + 1) from by first | omega | assumption | exact Or.inl rfl | exact Or.inr rfl | rfl | decide) (show (k5 + 1) ≤ 4 from by first | omega | assumption | exact Or.inl rfl | exact Or.inr rfl | rfl | decide) (show k4 ≤ 8 from by first | omega | assumption | exact Or.inl rfl | exact Or.inr rfl | rfl | decide) (show (k4 : Int) = (M 14 L).toInt from by first | omega | assumption | exact Or.inl rfl | exact Or.inr rfl | rfl | decide) (show ∀ w : Nat, 1 ≤ w → w < (k5 + 1) → ((fsel fa fb fc w).toInt = 119 → ¬ Mc14 17 (8 * L + w) = 0) from by first | exact fs_step c14_4 (by intro q; unfold fsel at q; first | (rw [if_pos (by omega)] at q; first | (exfalso; omega) | assumption) | (rw [if_neg (by omega), if_pos (by omega)] at q; first | (exfalso; omega) | assumption) | (rw [if_neg (by omega), if_neg (by omega)] at q; first | (exfalso; omega) | assumption))) (show ∀ a b, ¬ mDg a b → Mc14 a b = M a b from by first | exact c14_5) hP hI hF hS (lv_sub hl [2, 3, 4, 5, 6, 0] rfl)
              · have g37 : fc.toInt = 119 := congrArg Int32.toInt h37
                refine lv_aload_n hx hb d_Md_forms_57 rfl (lv_at hl 1 rfl) ?_
                refine ux_get (C := R_Md) (T := F_Md) (N := 50) hx hb hT in_Md hown hK hP (by decide) rfl rfl 19 (by decide) (hT _ fl_Md_64) rfl d_Md_forms_58 ?_
                refine lv_aload_n hx hb d_Md_forms_61 rfl (lv_at hl 1 rfl) ?_
                refine lv_iload hx hb d_Md_forms_62 (lv_at hl 6 rfl) ?_
                refine ux_calli (va_runV ⟨hx, hb, hml, hown, hts⟩ (s_Md_word l D ad cA A TB hA hB  Mc14 hI L hL ((hF _ _ (by unfold mFi; omega)).trans hlv) k5) (cwV 1 hts (tb_goodV ml_Md_155 im_Md_word se_Md_word ii_Md kt_Md_word) rfl rfl rfl (by decide +kernel) ⟨Nat.le_of_ble_eq_true rfl, Nat.le_of_ble_eq_true rfl⟩) (ux_preV (by decide) rfl rfl hP hK hi hN) rfl rfl hl.1 rfl (lv_room (Nat.le_of_ble_eq_true rfl)) d_Md_forms_64 ⟨Nat.zero_le _, Nat.zero_le _⟩) hS (fun r38 M39 H locs q40 hP hS => ?_)
                obtain ⟨hI, fq40, q40p⟩ := q40
                rw [tN_eq fq40] at hP hI
                subst q40p
                refine ux_zald hx hb hK hP (by decide) rfl (vp_in_nI (show 8 * L + k5 < 65 by omega) (by decide)) d_Md_forms_67 ?_
                rw [nI_clamp (n := 8 * L + k5) (by omega)]
                refine lv_if_ne hx hb d_Md_forms_68 rfl (fun h41 => ?_) (fun h41 => ?_)
                · have g41 : ¬ ((Mc14 17 (8 * L + k5)).toInt = 0) := fun q => h41 (Int32.toInt_inj.mp q)
                  refine lv_iinc (k := 6) (v := nI (k5 + 1)) hx hb d_Md_forms_78 hl rfl (nI_add k5 1) (by decide) rfl (fun ls hl => ?_)
                  have hl : lv_has ls 7 [(5, .int (nI (k5 + 1))), (6, .int fc), (0, .ref (ad 0)), (1, .int fa), (2, .int fb), (3, .int fc), (4, .int (nI k4))] := hl
                  refine lv_goto hx hb d_Md_forms_81 rfl ?_
                  exact ih14 (4 - (k5 + 1)) (by omega) k4 (k5 + 1) Mc14 _ _ ls rfl (show 1 ≤ (k5 + 1) from by first | omega | assumption | exact Or.inl rfl | exact Or.inr rfl | rfl | decide) (show (k5 + 1) ≤ 4 from by first | omega | assumption | exact Or.inl rfl | exact Or.inr rfl | rfl | decide) (show k4 ≤ 8 from by first | omega | assumption | exact Or.inl rfl | exact Or.inr rfl | rfl | decide) (show (k4 : Int) = (M 14 L).toInt from by first | omega | assumption | exact Or.inl rfl | exact Or.inr rfl | rfl | decide) (show ∀ w : Nat, 1 ≤ w → w < (k5 + 1) → ((fsel fa fb fc w).toInt = 119 → ¬ Mc14 17 (8 * L + w) = 0) from by first | exact fs_step c14_4 (by intro q; unfold fsel at q; first | (rw [if_pos (by omega)] at q; first | (exfalso; omega) | assumption) | (rw [if_neg (by omega), if_pos (by omega)] at q; first | (exfalso; omega) | assumption) | (rw [if_neg (by omega), if_neg (by omega)] at q; first | (exfalso; omega) | assumption))) (show ∀ a b, ¬ mDg a b → Mc14 a b = M a b from by first | exact c14_5) hP hI hF hS (lv_sub hl [2, 3, 4, 5, 6, 0] rfl)
                · have g41 : (Mc14 17 (8 * L + k5)).toInt = 0 := congrArg Int32.toInt h41
                  refine lv_aload_n hx hb d_Md_forms_71 rfl (lv_at hl 1 rfl) ?_
                  refine lv_iconst (v := 3) hx hb d_Md_forms_72 (by decide) ?_
                  refine ux_callv (va_runV ⟨hx, hb, hml, hown, hts⟩ (s_Md_error l D ad cA A TB hA hB  Mc14 hI 3) (cwV 1 hts (tb_goodV ml_Md_166 im_Md_error se_Md_error ii_Md kt_Md_error) rfl rfl rfl (by decide +kernel) ⟨Nat.le_of_ble_eq_true rfl, Nat.le_of_ble_eq_true rfl⟩) (ux_preV (by decide) rfl rfl hP hK hi hN) rfl rfl hl.1 rfl (lv_room (Nat.le_of_ble_eq_true rfl)) d_Md_forms_73 ⟨Nat.zero_le _, Nat.zero_le _⟩) hS (fun M43 H locs q44 hP hS => ?_)
                  obtain ⟨hI, fq44, q44p⟩ := q44
                  have hF := fr_call hF fq44 (fun a b q => by unfold mEr at q; unfold mFi; omega)
                  refine lv_iconst (v := 0) hx hb d_Md_forms_76 (by decide) ?_
                  exact W.zret (v := 0) hx hb hr (rfl) (fun t ht hW => ⟨⟨0, M43, rfl, ⟨hI, hF, ⟨Or.inl rfl, fun q => absurd q (by decide), fun _ => by first | assumption | exact q33p.2.2 (hz_r31 (by omega))⟩⟩, by unfold ux_E; rw [ht]; exact hP⟩, hS.F ht⟩) hS.2.2 d_Md_forms_77
            · have g36 : ((k5 : Nat) : Int) = 2 := by have q := congrArg Int32.toInt h36; rw [nI_toInt (n := k5) (by omega)] at q; exact q
              refine lv_iload_n hx hb d_Md_forms_43 rfl (lv_at hl 2 rfl) ?_
              refine lv_goto hx hb d_Md_forms_44 rfl ?_
              refine lv_istore hx hb d_Md_forms_48 hl (by decide) rfl (fun ls hl => ?_)
              have hl : lv_has ls 7 [(6, .int fb), (0, .ref (ad 0)), (1, .int fa), (2, .int fb), (3, .int fc), (4, .int (nI k4)), (5, .int (nI k5))] := hl
              refine lv_iload hx hb d_Md_forms_50 (lv_at hl 0 rfl) ?_
              refine lv_bipush (v := 119) hx hb d_Md_forms_52 (by decide) ?_
              refine lv_icmp_ne hx hb d_Md_forms_54 rfl (fun h45 => ?_) (fun h45 => ?_)
              · have g45 : ¬ (fb.toInt = 119) := fun q => h45 (Int32.toInt_inj.mp q)
                refine lv_iinc (k := 6) (v := nI (k5 + 1)) hx hb d_Md_forms_78 hl rfl (nI_add k5 1) (by decide) rfl (fun ls hl => ?_)
                have hl : lv_has ls 7 [(5, .int (nI (k5 + 1))), (6, .int fb), (0, .ref (ad 0)), (1, .int fa), (2, .int fb), (3, .int fc), (4, .int (nI k4))] := hl
                refine lv_goto hx hb d_Md_forms_81 rfl ?_
                exact ih14 (4 - (k5 + 1)) (by omega) k4 (k5 + 1) Mc14 _ _ ls rfl (show 1 ≤ (k5 + 1) from by first | omega | assumption | exact Or.inl rfl | exact Or.inr rfl | rfl | decide) (show (k5 + 1) ≤ 4 from by first | omega | assumption | exact Or.inl rfl | exact Or.inr rfl | rfl | decide) (show k4 ≤ 8 from by first | omega | assumption | exact Or.inl rfl | exact Or.inr rfl | rfl | decide) (show (k4 : Int) = (M 14 L).toInt from by first | omega | assumption | exact Or.inl rfl | exact Or.inr rfl | rfl | decide) (show ∀ w : Nat, 1 ≤ w → w < (k5 + 1) → ((fsel fa fb fc w).toInt = 119 → ¬ Mc14 17 (8 * L + w) = 0) from by first | exact fs_step c14_4 (by intro q; unfold fsel at q; first | (rw [if_pos (by omega)] at q; first | (exfalso; omega) | assumption) | (rw [if_neg (by omega), if_pos (by omega)] at q; first | (exfalso; omega) | assumption) | (rw [if_neg (by omega), if_neg (by omega)] at q; first | (exfalso; omega) | assumption))) (show ∀ a b, ¬ mDg a b → Mc14 a b = M a b from by first | exact c14_5) hP hI hF hS (lv_sub hl [2, 3, 4, 5, 6, 0] rfl)
              · have g45 : fb.toInt = 119 := congrArg Int32.toInt h45
                refine lv_aload_n hx hb d_Md_forms_57 rfl (lv_at hl 1 rfl) ?_
                refine ux_get (C := R_Md) (T := F_Md) (N := 50) hx hb hT in_Md hown hK hP (by decide) rfl rfl 19 (by decide) (hT _ fl_Md_64) rfl d_Md_forms_58 ?_
                refine lv_aload_n hx hb d_Md_forms_61 rfl (lv_at hl 1 rfl) ?_
                refine lv_iload hx hb d_Md_forms_62 (lv_at hl 6 rfl) ?_
                refine ux_calli (va_runV ⟨hx, hb, hml, hown, hts⟩ (s_Md_word l D ad cA A TB hA hB  Mc14 hI L hL ((hF _ _ (by unfold mFi; omega)).trans hlv) k5) (cwV 1 hts (tb_goodV ml_Md_155 im_Md_word se_Md_word ii_Md kt_Md_word) rfl rfl rfl (by decide +kernel) ⟨Nat.le_of_ble_eq_true rfl, Nat.le_of_ble_eq_true rfl⟩) (ux_preV (by decide) rfl rfl hP hK hi hN) rfl rfl hl.1 rfl (lv_room (Nat.le_of_ble_eq_true rfl)) d_Md_forms_64 ⟨Nat.zero_le _, Nat.zero_le _⟩) hS (fun r46 M47 H locs q48 hP hS => ?_)
                obtain ⟨hI, fq48, q48p⟩ := q48
                rw [tN_eq fq48] at hP hI
                subst q48p
                refine ux_zald hx hb hK hP (by decide) rfl (vp_in_nI (show 8 * L + k5 < 65 by omega) (by decide)) d_Md_forms_67 ?_
                rw [nI_clamp (n := 8 * L + k5) (by omega)]
                refine lv_if_ne hx hb d_Md_forms_68 rfl (fun h49 => ?_) (fun h49 => ?_)
                · have g49 : ¬ ((Mc14 17 (8 * L + k5)).toInt = 0) := fun q => h49 (Int32.toInt_inj.mp q)
                  refine lv_iinc (k := 6) (v := nI (k5 + 1)) hx hb d_Md_forms_78 hl rfl (nI_add k5 1) (by decide) rfl (fun ls hl => ?_)
                  have hl : lv_has ls 7 [(5, .int (nI (k5 + 1))), (6, .int fb), (0, .ref (ad 0)), (1, .int fa), (2, .int fb), (3, .int fc), (4, .int (nI k4))] := hl
                  refine lv_goto hx hb d_Md_forms_81 rfl ?_
                  exact ih14 (4 - (k5 + 1)) (by omega) k4 (k5 + 1) Mc14 _ _ ls rfl (show 1 ≤ (k5 + 1) from by first | omega | assumption | exact Or.inl rfl | exact Or.inr rfl | rfl | decide) (show (k5 + 1) ≤ 4 from by first | omega | assumption | exact Or.inl rfl | exact Or.inr rfl | rfl | decide) (show k4 ≤ 8 from by first | omega | assumption | exact Or.inl rfl | exact Or.inr rfl | rfl | decide) (show (k4 : Int) = (M 14 L).toInt from by first | omega | assumption | exact Or.inl rfl | exact Or.inr rfl | rfl | decide) (show ∀ w : Nat, 1 ≤ w → w < (k5 + 1) → ((fsel fa fb fc w).toInt = 119 → ¬ Mc14 17 (8 * L + w) = 0) from by first | exact fs_step c14_4 (by intro q; unfold fsel at q; first | (rw [if_pos (by omega)] at q; first | (exfalso; omega) | assumption) | (rw [if_neg (by omega), if_pos (by omega)] at q; first | (exfalso; omega) | assumption) | (rw [if_neg (by omega), if_neg (by omega)] at q; first | (exfalso; omega) | assumption))) (show ∀ a b, ¬ mDg a b → Mc14 a b = M a b from by first | exact c14_5) hP hI hF hS (lv_sub hl [2, 3, 4, 5, 6, 0] rfl)
                · have g49 : (Mc14 17 (8 * L + k5)).toInt = 0 := congrArg Int32.toInt h49
                  refine lv_aload_n hx hb d_Md_forms_71 rfl (lv_at hl 1 rfl) ?_
                  refine lv_iconst (v := 3) hx hb d_Md_forms_72 (by decide) ?_
                  refine ux_callv (va_runV ⟨hx, hb, hml, hown, hts⟩ (s_Md_error l D ad cA A TB hA hB  Mc14 hI 3) (cwV 1 hts (tb_goodV ml_Md_166 im_Md_error se_Md_error ii_Md kt_Md_error) rfl rfl rfl (by decide +kernel) ⟨Nat.le_of_ble_eq_true rfl, Nat.le_of_ble_eq_true rfl⟩) (ux_preV (by decide) rfl rfl hP hK hi hN) rfl rfl hl.1 rfl (lv_room (Nat.le_of_ble_eq_true rfl)) d_Md_forms_73 ⟨Nat.zero_le _, Nat.zero_le _⟩) hS (fun M51 H locs q52 hP hS => ?_)
                  obtain ⟨hI, fq52, q52p⟩ := q52
                  have hF := fr_call hF fq52 (fun a b q => by unfold mEr at q; unfold mFi; omega)
                  refine lv_iconst (v := 0) hx hb d_Md_forms_76 (by decide) ?_
                  exact W.zret (v := 0) hx hb hr (rfl) (fun t ht hW => ⟨⟨0, M51, rfl, ⟨hI, hF, ⟨Or.inl rfl, fun q => absurd q (by decide), fun _ => by first | assumption | exact q33p.2.2 (hz_r31 (by omega))⟩⟩, by unfold ux_E; rw [ht]; exact hP⟩, hS.F ht⟩) hS.2.2 d_Md_forms_77
          · have g35 : ((k5 : Nat) : Int) = 1 := by have q := congrArg Int32.toInt h35; rw [nI_toInt (n := k5) (by omega)] at q; exact q
            refine lv_iload_n hx hb d_Md_forms_33 rfl (lv_at hl 1 rfl) ?_
            refine lv_goto hx hb d_Md_forms_34 rfl ?_
            refine lv_istore hx hb d_Md_forms_48 hl (by decide) rfl (fun ls hl => ?_)
            have hl : lv_has ls 7 [(6, .int fa), (0, .ref (ad 0)), (1, .int fa), (2, .int fb), (3, .int fc), (4, .int (nI k4)), (5, .int (nI k5))] := hl
            refine lv_iload hx hb d_Md_forms_50 (lv_at hl 0 rfl) ?_
            refine lv_bipush (v := 119) hx hb d_Md_forms_52 (by decide) ?_
            refine lv_icmp_ne hx hb d_Md_forms_54 rfl (fun h53 => ?_) (fun h53 => ?_)
            · have g53 : ¬ (fa.toInt = 119) := fun q => h53 (Int32.toInt_inj.mp q)
              refine lv_iinc (k := 6) (v := nI (k5 + 1)) hx hb d_Md_forms_78 hl rfl (nI_add k5 1) (by decide) rfl (fun ls hl => ?_)
              have hl : lv_has ls 7 [(5, .int (nI (k5 + 1))), (6, .int fa), (0, .ref (ad 0)), (1, .int fa), (2, .int fb), (3, .int fc), (4, .int (nI k4))] := hl
              refine lv_goto hx hb d_Md_forms_81 rfl ?_
              exact ih14 (4 - (k5 + 1)) (by omega) k4 (k5 + 1) Mc14 _ _ ls rfl (show 1 ≤ (k5 + 1) from by first | omega | assumption | exact Or.inl rfl | exact Or.inr rfl | rfl | decide) (show (k5 + 1) ≤ 4 from by first | omega | assumption | exact Or.inl rfl | exact Or.inr rfl | rfl | decide) (show k4 ≤ 8 from by first | omega | assumption | exact Or.inl rfl | exact Or.inr rfl | rfl | decide) (show (k4 : Int) = (M 14 L).toInt from by first | omega | assumption | exact Or.inl rfl | exact Or.inr rfl | rfl | decide) (show ∀ w : Nat, 1 ≤ w → w < (k5 + 1) → ((fsel fa fb fc w).toInt = 119 → ¬ Mc14 17 (8 * L + w) = 0) from by first | exact fs_step c14_4 (by intro q; unfold fsel at q; first | (rw [if_pos (by omega)] at q; first | (exfalso; omega) | assumption) | (rw [if_neg (by omega), if_pos (by omega)] at q; first | (exfalso; omega) | assumption) | (rw [if_neg (by omega), if_neg (by omega)] at q; first | (exfalso; omega) | assumption))) (show ∀ a b, ¬ mDg a b → Mc14 a b = M a b from by first | exact c14_5) hP hI hF hS (lv_sub hl [2, 3, 4, 5, 6, 0] rfl)
            · have g53 : fa.toInt = 119 := congrArg Int32.toInt h53
              refine lv_aload_n hx hb d_Md_forms_57 rfl (lv_at hl 1 rfl) ?_
              refine ux_get (C := R_Md) (T := F_Md) (N := 50) hx hb hT in_Md hown hK hP (by decide) rfl rfl 19 (by decide) (hT _ fl_Md_64) rfl d_Md_forms_58 ?_
              refine lv_aload_n hx hb d_Md_forms_61 rfl (lv_at hl 1 rfl) ?_
              refine lv_iload hx hb d_Md_forms_62 (lv_at hl 6 rfl) ?_
              refine ux_calli (va_runV ⟨hx, hb, hml, hown, hts⟩ (s_Md_word l D ad cA A TB hA hB  Mc14 hI L hL ((hF _ _ (by unfold mFi; omega)).trans hlv) k5) (cwV 1 hts (tb_goodV ml_Md_155 im_Md_word se_Md_word ii_Md kt_Md_word) rfl rfl rfl (by decide +kernel) ⟨Nat.le_of_ble_eq_true rfl, Nat.le_of_ble_eq_true rfl⟩) (ux_preV (by decide) rfl rfl hP hK hi hN) rfl rfl hl.1 rfl (lv_room (Nat.le_of_ble_eq_true rfl)) d_Md_forms_64 ⟨Nat.zero_le _, Nat.zero_le _⟩) hS (fun r54 M55 H locs q56 hP hS => ?_)
              obtain ⟨hI, fq56, q56p⟩ := q56
              rw [tN_eq fq56] at hP hI
              subst q56p
              refine ux_zald hx hb hK hP (by decide) rfl (vp_in_nI (show 8 * L + k5 < 65 by omega) (by decide)) d_Md_forms_67 ?_
              rw [nI_clamp (n := 8 * L + k5) (by omega)]
              refine lv_if_ne hx hb d_Md_forms_68 rfl (fun h57 => ?_) (fun h57 => ?_)
              · have g57 : ¬ ((Mc14 17 (8 * L + k5)).toInt = 0) := fun q => h57 (Int32.toInt_inj.mp q)
                refine lv_iinc (k := 6) (v := nI (k5 + 1)) hx hb d_Md_forms_78 hl rfl (nI_add k5 1) (by decide) rfl (fun ls hl => ?_)
                have hl : lv_has ls 7 [(5, .int (nI (k5 + 1))), (6, .int fa), (0, .ref (ad 0)), (1, .int fa), (2, .int fb), (3, .int fc), (4, .int (nI k4))] := hl
                refine lv_goto hx hb d_Md_forms_81 rfl ?_
                exact ih14 (4 - (k5 + 1)) (by omega) k4 (k5 + 1) Mc14 _ _ ls rfl (show 1 ≤ (k5 + 1) from by first | omega | assumption | exact Or.inl rfl | exact Or.inr rfl | rfl | decide) (show (k5 + 1) ≤ 4 from by first | omega | assumption | exact Or.inl rfl | exact Or.inr rfl | rfl | decide) (show k4 ≤ 8 from by first | omega | assumption | exact Or.inl rfl | exact Or.inr rfl | rfl | decide) (show (k4 : Int) = (M 14 L).toInt from by first | omega | assumption | exact Or.inl rfl | exact Or.inr rfl | rfl | decide) (show ∀ w : Nat, 1 ≤ w → w < (k5 + 1) → ((fsel fa fb fc w).toInt = 119 → ¬ Mc14 17 (8 * L + w) = 0) from by first | exact fs_step c14_4 (by intro q; unfold fsel at q; first | (rw [if_pos (by omega)] at q; first | (exfalso; omega) | assumption) | (rw [if_neg (by omega), if_pos (by omega)] at q; first | (exfalso; omega) | assumption) | (rw [if_neg (by omega), if_neg (by omega)] at q; first | (exfalso; omega) | assumption))) (show ∀ a b, ¬ mDg a b → Mc14 a b = M a b from by first | exact c14_5) hP hI hF hS (lv_sub hl [2, 3, 4, 5, 6, 0] rfl)
              · have g57 : (Mc14 17 (8 * L + k5)).toInt = 0 := congrArg Int32.toInt h57
                refine lv_aload_n hx hb d_Md_forms_71 rfl (lv_at hl 1 rfl) ?_
                refine lv_iconst (v := 3) hx hb d_Md_forms_72 (by decide) ?_
                refine ux_callv (va_runV ⟨hx, hb, hml, hown, hts⟩ (s_Md_error l D ad cA A TB hA hB  Mc14 hI 3) (cwV 1 hts (tb_goodV ml_Md_166 im_Md_error se_Md_error ii_Md kt_Md_error) rfl rfl rfl (by decide +kernel) ⟨Nat.le_of_ble_eq_true rfl, Nat.le_of_ble_eq_true rfl⟩) (ux_preV (by decide) rfl rfl hP hK hi hN) rfl rfl hl.1 rfl (lv_room (Nat.le_of_ble_eq_true rfl)) d_Md_forms_73 ⟨Nat.zero_le _, Nat.zero_le _⟩) hS (fun M59 H locs q60 hP hS => ?_)
                obtain ⟨hI, fq60, q60p⟩ := q60
                have hF := fr_call hF fq60 (fun a b q => by unfold mEr at q; unfold mFi; omega)
                refine lv_iconst (v := 0) hx hb d_Md_forms_76 (by decide) ?_
                exact W.zret (v := 0) hx hb hr (rfl) (fun t ht hW => ⟨⟨0, M59, rfl, ⟨hI, hF, ⟨Or.inl rfl, fun q => absurd q (by decide), fun _ => by first | assumption | exact q33p.2.2 (hz_r31 (by omega))⟩⟩, by unfold ux_E; rw [ht]; exact hP⟩, hS.F ht⟩) hS.2.2 d_Md_forms_77
  refine lv_aload_n hx hb d_Md_forms_0 rfl (lv_at hl 0 rfl) ?_
  refine ux_get (C := R_Md) (T := F_Md) (N := 50) hx hb hT in_Md hown hK hP (by decide) rfl rfl 16 (by decide) (hT _ fl_Md_55) rfl d_Md_forms_1 ?_
  refine lv_aload_n hx hb d_Md_forms_4 rfl (lv_at hl 0 rfl) ?_
  refine ux_get (C := R_Md) (T := F_Md) (N := 50) hx hb hT in_Md hown hK hP (by decide) rfl rfl 10 (by decide) (hT _ fl_Md_36) rfl d_Md_forms_5 ?_
  refine lv_topi (fun z61 hz61 => ?_)
  rw [show M 0 10 = nI L from hlv] at hz61
  rw [hz61]
  refine ux_iald hx hb hK hP (by decide) rfl (vp_in_nI (show L < 8 by omega) (by decide)) d_Md_forms_8 ?_
  rw [nI_clamp (n := L) (by omega)]
  refine lv_topi (fun z63 hz63 => ?_)
  obtain ⟨c62, hc62, ec62⟩ := nat_of (x := M 14 L) (n := 8) (hI.1 14 L).1 (hI.1 14 L).2
  rw [ec62] at hz63
  rw [hz63]
  have tc62 : (M 14 L).toInt = (c62 : Int) := by rw [ec62]; exact nI_toInt (by omega)
  refine lv_istore hx hb d_Md_forms_9 hl (by decide) rfl (fun ls hl => ?_)
  have hl : lv_has ls 7 [(4, .int (nI c62)), (0, .ref (ad 0)), (1, .int fa), (2, .int fb), (3, .int fc)] := hl
  refine lv_iconst (v := 1) hx hb d_Md_forms_11 (by decide) ?_
  refine lv_istore hx hb d_Md_forms_12 hl (by decide) rfl (fun ls hl => ?_)
  have hl : lv_has ls 7 [(5, .int 1), (4, .int (nI c62)), (0, .ref (ad 0)), (1, .int fa), (2, .int fb), (3, .int fc)] := hl
  exact cut14 (4 - 1) c62 1 M _ _ ls rfl (show 1 ≤ 1 from by first | omega | assumption | exact Or.inl rfl | exact Or.inr rfl | rfl | decide) (show 1 ≤ 4 from by first | omega | assumption | exact Or.inl rfl | exact Or.inr rfl | rfl | decide) (show c62 ≤ 8 from by first | omega | assumption | exact Or.inl rfl | exact Or.inr rfl | rfl | decide) (show (c62 : Int) = (M 14 L).toInt from by first | omega | assumption | exact Or.inl rfl | exact Or.inr rfl | rfl | decide) (show ∀ w : Nat, 1 ≤ w → w < 1 → ((fsel fa fb fc w).toInt = 119 → ¬ M 17 (8 * L + w) = 0) from by first | (intro w h1 h2; exfalso; omega)) (show ∀ a b, ¬ mDg a b → M a b = M a b from by first | exact fun _ _ _ => rfl) hP hI hF hS (lv_sub hl [2, 3, 4, 5, 1, 0] rfl)
