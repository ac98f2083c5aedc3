/-! The reference, safe: sums; written by wip/gen/ref.py -/
def rk (x : Int) : Int := if x = 110 ∨ x = 33 then 7 else if x = 42 ∨ x = 47 ∨ x = 37 then 6 else if x = 43 ∨ x = 45 then 5 else if x = 60 ∨ x = 62 ∨ x = 61 then 4 else if x = 38 then 3 else if x = 124 then 2 else 0
theorem rk7 (x : Int) : rk x = 7 ↔ (x = 110 ∨ x = 33) := by
  unfold rk
  repeat' split
  all_goals omega
theorem rk_b (x : Int) : 0 ≤ rk x ∧ rk x ≤ 7 ∧ rk x ≠ 1 := by
  unfold rk
  repeat' split
  all_goals omega
def PB (x : Int) : Bool := decide (1 ≤ rk x ∧ rk x ≤ 6)
def P40 (x : Int) : Bool := decide (x = 40)
def cP (P : Int → Bool) (f : Nat → Int32) : Nat → Nat
  | 0 => 0
  | n + 1 => cP P f n + (if P (f n).toInt then 1 else 0)
theorem cP_cong {P : Int → Bool} {f g : Nat → Int32} : ∀ n, (∀ j, j < n → f j = g j) → cP P f n = cP P g n := by
  intro n
  induction n with
  | zero => intro _; rfl
  | succ n ih => intro h; simp only [cP]; rw [ih (fun j hj => h j (by omega)), h n (by omega)]
theorem cP_B {f : Nat → Int32} {n : Nat} : cP PB f (n + 1) = cP PB f n + (if 1 ≤ rk (f n).toInt ∧ rk (f n).toInt ≤ 6 then 1 else 0) := by
  simp only [cP, PB, decide_eq_true_eq]
theorem cP_4 {f : Nat → Int32} {n : Nat} : cP P40 f (n + 1) = cP P40 f n + (if (f n).toInt = 40 then 1 else 0) := by
  simp only [cP, P40, decide_eq_true_eq]
def mIl (a b : Nat) : Prop := a = 0 ∧ b = 34
def mZe (a b : Nat) : Prop := a = 0 ∧ b = 33
def mSg (a b : Nat) : Prop := (a = 0 ∧ b = 31) ∨ a = 22
def mAp (a b : Nat) : Prop := (a = 0 ∧ (b = 31 ∨ b = 32 ∨ b = 33)) ∨ a = 23
def mOp (a b : Nat) : Prop := (a = 0 ∧ (b = 32 ∨ b = 34 ∨ b = 35)) ∨ a = 23
def mOv (a b : Nat) : Prop := a = 0 ∧ (b = 34 ∨ b = 35)

set_option maxHeartbeats 1600000 in
set_option maxRecDepth 100000 in
theorem s_Md_ill (l : Launch) (D : va_G) (ad : Nat → Nat) (cA : Nat → ClassId) (A TB : Nat) (hA : A ≤ 100000000) (hB : TB ≤ 2000000000) (M : ux_M) (hI : IvM A TB M) (k1 : Int32) : Met l y_Md_ill w_Md_ill ({ frames := 0, cells := 0, slots := 0, locals := 0 }) (va_Pc [.ref (ad 0), .int k1] (ux_B D shM KM ad cA M)) (va_Qv (fun M1 => IvM A TB M1 ∧ (∀ a b, ¬ mIl a b → M1 a b = M a b) ∧ ((k1.toInt = 1 → (M1 0 34).toInt = 1) ∧ ((M 0 34).toInt = 1 → (M1 0 34).toInt = 1))) (ux_E D shM KM ad cA) (ux_A KM ad)) 0 0 (ux_A KM ad) := by
  refine Met.ofW (cc := b_Md_ill) (maxL := 2) (ret := none) (by decide) rfl ?_
  intro p e s m args below meth c s₁ B hml hv
  obtain ⟨rfl, hP, hK, hi, hN⟩ := hv
  have hx := B.exec
  have hb := B.bytes
  have hr := B.returns
  have hts := atoms_spec (ws := w_Md_ill) B.pre
  have hown : s.vm.findClass R_Md = some m.cls := findClass_of_methodNamed B.named
  have hlocks := B.notSynchronized
  have hT : ∀ w ∈ tb, w.before _ s = true := fun w h => hts w (List.mem_cons_of_mem _ h)
  have hS : va_S (ux_A KM ad) s.heap s.heap [] := va_S.rf
  have hl := lv_entry ([.ref (ad 0), .int k1]) (n := 2) (Nat.le_of_ble_eq_true rfl)
  rw [lg_entry_eq]
  generalize (lg_sl ([.ref (ad 0), .int k1]) ++ List.replicate (2 - (lg_sl ([.ref (ad 0), .int k1])).length) Slot.unset).toArray = ls at hl ⊢
  have hl : lv_has ls 2 [(0, .ref (ad 0)), (1, .int k1)] := hl
  have hF : ∀ a b, ¬ mIl a b → M a b = M a b := fun _ _ _ => rfl
  refine lv_aload_n hx hb d_Md_ill_0 rfl (lv_at hl 0 rfl) ?_
  refine lv_aload_n hx hb d_Md_ill_1 rfl (lv_at hl 0 rfl) ?_
  refine ux_get (C := R_Md) (T := F_Md) (N := 50) hx hb hT in_Md hown hK hP (by decide) rfl rfl 34 (by decide) (hT _ fl_Md_328) rfl d_Md_ill_2 ?_
  refine lv_iconst (v := 1) hx hb d_Md_ill_5 (by decide) ?_
  refine lv_icmp_eq hx hb d_Md_ill_6 rfl (fun h1 => ?_) (fun h1 => ?_)
  · have g1 : (M 0 34).toInt = 1 := congrArg Int32.toInt h1
    refine lv_iconst (v := 1) hx hb d_Md_ill_14 (by decide) ?_
    refine lv_goto hx hb d_Md_ill_15 rfl ?_
    refine ux_put (C := R_Md) (T := F_Md) (N := 50) hx hb hT in_Md t_Md t_Md_ok n_Md hown hK hi hP hS (by decide) rfl rfl 34 (by decide) (hT _ fl_Md_328) rfl (rfl) (rfl) rfl d_Md_ill_33 (fun H locs hP hS => ?_)
    have hI := IvM_free (k := 0) (j := 34) (v := 1) hI rfl rfl (by unfold okW; omega)
    have hF := fr_wr (k := 0) (j := 34) (v := 1) hF (by unfold mIl; omega)
    generalize eM2 : ux_wr M 0 34 1 = M2 at hP hI hF
    exact W.vret hx hb hr (fun t ht hW => ⟨⟨M2, rfl, ⟨hI, hF, (by rw [wr_at eM2]; have hm1 : (1 : Int32).toInt = 1 := rfl; omega)⟩, by unfold ux_E; rw [ht]; exact hP⟩, hS.F ht⟩) hS.2.2 d_Md_ill_36
  · have g1 : ¬ ((M 0 34).toInt = 1) := fun q => h1 (Int32.toInt_inj.mp q)
    refine lv_iload_n hx hb d_Md_ill_9 rfl (lv_at hl 1 rfl) ?_
    refine lv_iconst (v := 1) hx hb d_Md_ill_10 (by decide) ?_
    refine lv_icmp_ne hx hb d_Md_ill_11 rfl (fun h3 => ?_) (fun h3 => ?_)
    · have g3 : ¬ (k1.toInt = 1) := fun q => h3 (Int32.toInt_inj.mp q)
      refine lv_aload_n hx hb d_Md_ill_18 rfl (lv_at hl 0 rfl) ?_
      refine ux_get (C := R_Md) (T := F_Md) (N := 50) hx hb hT in_Md hown hK hP (by decide) rfl rfl 34 (by decide) (hT _ fl_Md_328) rfl d_Md_ill_19 ?_
      refine lv_if_ne hx hb d_Md_ill_22 rfl (fun h4 => ?_) (fun h4 => ?_)
      · have g4 : ¬ ((M 0 34).toInt = 0) := fun q => h4 (Int32.toInt_inj.mp q)
        refine lv_aload_n hx hb d_Md_ill_29 rfl (lv_at hl 0 rfl) ?_
        refine ux_get (C := R_Md) (T := F_Md) (N := 50) hx hb hT in_Md hown hK hP (by decide) rfl rfl 34 (by decide) (hT _ fl_Md_328) rfl d_Md_ill_30 ?_
        refine ux_put (C := R_Md) (T := F_Md) (N := 50) hx hb hT in_Md t_Md t_Md_ok n_Md hown hK hi hP hS (by decide) rfl rfl 34 (by decide) (hT _ fl_Md_328) rfl (rfl) (rfl) rfl d_Md_ill_33 (fun H locs hP hS => ?_)
        have hI := IvM_free (k := 0) (j := 34) (v := M 0 34) hI rfl rfl (by unfold okW; omega)
        have hF := fr_wr (k := 0) (j := 34) (v := M 0 34) hF (by unfold mIl; omega)
        generalize eM5 : ux_wr M 0 34 (M 0 34) = M5 at hP hI hF
        exact W.vret hx hb hr (fun t ht hW => ⟨⟨M5, rfl, ⟨hI, hF, (by rw [wr_at eM5]; have hm1 : (1 : Int32).toInt = 1 := rfl; omega)⟩, by unfold ux_E; rw [ht]; exact hP⟩, hS.F ht⟩) hS.2.2 d_Md_ill_36
      · have g4 : (M 0 34).toInt = 0 := congrArg Int32.toInt h4
        refine lv_iload_n hx hb d_Md_ill_25 rfl (lv_at hl 1 rfl) ?_
        refine lv_goto hx hb d_Md_ill_26 rfl ?_
        refine ux_put (C := R_Md) (T := F_Md) (N := 50) hx hb hT in_Md t_Md t_Md_ok n_Md hown hK hi hP hS (by decide) rfl rfl 34 (by decide) (hT _ fl_Md_328) rfl (rfl) (rfl) rfl d_Md_ill_33 (fun H locs hP hS => ?_)
        have hI := IvM_free (k := 0) (j := 34) (v := k1) hI rfl rfl (by unfold okW; omega)
        have hF := fr_wr (k := 0) (j := 34) (v := k1) hF (by unfold mIl; omega)
        generalize eM6 : ux_wr M 0 34 k1 = M6 at hP hI hF
        exact W.vret hx hb hr (fun t ht hW => ⟨⟨M6, rfl, ⟨hI, hF, (by rw [wr_at eM6]; have hm1 : (1 : Int32).toInt = 1 := rfl; omega)⟩, by unfold ux_E; rw [ht]; exact hP⟩, hS.F ht⟩) hS.2.2 d_Md_ill_36
    · have g3 : k1.toInt = 1 := congrArg Int32.toInt h3
      refine lv_iconst (v := 1) hx hb d_Md_ill_14 (by decide) ?_
      refine lv_goto hx hb d_Md_ill_15 rfl ?_
      refine ux_put (C := R_Md) (T := F_Md) (N := 50) hx hb hT in_Md t_Md t_Md_ok n_Md hown hK hi hP hS (by decide) rfl rfl 34 (by decide) (hT _ fl_Md_328) rfl (rfl) (rfl) rfl d_Md_ill_33 (fun H locs hP hS => ?_)
      have hI := IvM_free (k := 0) (j := 34) (v := 1) hI rfl rfl (by unfold okW; omega)
      have hF := fr_wr (k := 0) (j := 34) (v := 1) hF (by unfold mIl; omega)
      generalize eM7 : ux_wr M 0 34 1 = M7 at hP hI hF
      exact W.vret hx hb hr (fun t ht hW => ⟨⟨M7, rfl, ⟨hI, hF, (by rw [wr_at eM7]; have hm1 : (1 : Int32).toInt = 1 := rfl; omega)⟩, by unfold ux_E; rw [ht]; exact hP⟩, hS.F ht⟩) hS.2.2 d_Md_ill_36

set_option maxHeartbeats 1600000 in
set_option maxRecDepth 100000 in
theorem s_Md_rankOf (l : Launch) (D : va_G) (ad : Nat → Nat) (cA : Nat → ClassId) (A TB : Nat) (hA : A ≤ 100000000) (hB : TB ≤ 2000000000) (M : ux_M) (hI : IvM A TB M) (sg : Int32) : Met l y_Md_rankOf w_Md_rankOf ({ frames := 0, cells := 0, slots := 0, locals := 0 }) (va_Pc [.int sg] (ux_B D shM KM ad cA M)) (va_Qi (fun r M1 => IvM A TB M1 ∧ (∀ a b, ¬ tN a b → M1 a b = M a b) ∧ (r.toInt = rk sg.toInt)) (ux_E D shM KM ad cA) (ux_A KM ad)) 0 0 (ux_A KM ad) := by
  refine Met.ofW (cc := b_Md_rankOf) (maxL := 1) (ret := (some .int)) (by decide) rfl ?_
  intro p e s m args below meth c s₁ B hml hv
  obtain ⟨rfl, hP, hK, hi, hN⟩ := hv
  have hx := B.exec
  have hb := B.bytes
  have hr := B.returns
  have hts := atoms_spec (ws := w_Md_rankOf) B.pre
  have hown : s.vm.findClass R_Md = some m.cls := findClass_of_methodNamed B.named
  have hlocks := B.notSynchronized
  have hT : ∀ w ∈ tb, w.before _ s = true := fun w h => hts w (List.mem_cons_of_mem _ h)
  have hS : va_S (ux_A KM ad) s.heap s.heap [] := va_S.rf
  have hl := lv_entry ([.int sg]) (n := 1) (Nat.le_of_ble_eq_true rfl)
  rw [lg_entry_eq]
  generalize (lg_sl ([.int sg]) ++ List.replicate (1 - (lg_sl ([.int sg])).length) Slot.unset).toArray = ls at hl ⊢
  have hl : lv_has ls 1 [(0, .int sg)] := hl
  have hF : ∀ a b, ¬ tN a b → M a b = M a b := fun _ _ _ => rfl
  refine lv_iload_n hx hb d_Md_rankOf_0 rfl (lv_at hl 0 rfl) ?_
  by_cases h1 : sg = 33
  · have g1 : sg.toInt = 33 := congrArg Int32.toInt h1
    refine lv_lookup (off := 107) (tgt := 108) hx hb d_Md_rankOf_1 (by decide) (by rw [g1]; rfl) (by decide) ?_
    refine lv_bipush (v := 7) hx hb d_Md_rankOf_108 (by decide) ?_
    exact W.iret (v := 7) hx hb hr (fun t ht hW => ⟨⟨7, M, rfl, ⟨hI, hF, (by have hm : (7 : Int32).toInt = 7 := rfl; unfold rk; repeat' split; all_goals omega)⟩, by unfold ux_E; rw [ht]; exact hP⟩, hS.F ht⟩) hS.2.2 d_Md_rankOf_110
  have g1 : ¬ sg.toInt = 33 := fun q => h1 (Int32.toInt_inj.mp q)
  by_cases h2 : sg = 37
  · have g2 : sg.toInt = 37 := congrArg Int32.toInt h2
    refine lv_lookup (off := 110) (tgt := 111) hx hb d_Md_rankOf_1 (by decide) (by rw [g2]; rfl) (by decide) ?_
    refine lv_bipush (v := 6) hx hb d_Md_rankOf_111 (by decide) ?_
    exact W.iret (v := 6) hx hb hr (fun t ht hW => ⟨⟨6, M, rfl, ⟨hI, hF, (by have hm : (6 : Int32).toInt = 6 := rfl; unfold rk; repeat' split; all_goals omega)⟩, by unfold ux_E; rw [ht]; exact hP⟩, hS.F ht⟩) hS.2.2 d_Md_rankOf_113
  have g2 : ¬ sg.toInt = 37 := fun q => h2 (Int32.toInt_inj.mp q)
  by_cases h3 : sg = 38
  · have g3 : sg.toInt = 38 := congrArg Int32.toInt h3
    refine lv_lookup (off := 117) (tgt := 118) hx hb d_Md_rankOf_1 (by decide) (by rw [g3]; rfl) (by decide) ?_
    refine lv_iconst (v := 3) hx hb d_Md_rankOf_118 (by decide) ?_
    exact W.iret (v := 3) hx hb hr (fun t ht hW => ⟨⟨3, M, rfl, ⟨hI, hF, (by have hm : (3 : Int32).toInt = 3 := rfl; unfold rk; repeat' split; all_goals omega)⟩, by unfold ux_E; rw [ht]; exact hP⟩, hS.F ht⟩) hS.2.2 d_Md_rankOf_119
  have g3 : ¬ sg.toInt = 38 := fun q => h3 (Int32.toInt_inj.mp q)
  by_cases h4 : sg = 42
  · have g4 : sg.toInt = 42 := congrArg Int32.toInt h4
    refine lv_lookup (off := 110) (tgt := 111) hx hb d_Md_rankOf_1 (by decide) (by rw [g4]; rfl) (by decide) ?_
    refine lv_bipush (v := 6) hx hb d_Md_rankOf_111 (by decide) ?_
    exact W.iret (v := 6) hx hb hr (fun t ht hW => ⟨⟨6, M, rfl, ⟨hI, hF, (by have hm : (6 : Int32).toInt = 6 := rfl; unfold rk; repeat' split; all_goals omega)⟩, by unfold ux_E; rw [ht]; exact hP⟩, hS.F ht⟩) hS.2.2 d_Md_rankOf_113
  have g4 : ¬ sg.toInt = 42 := fun q => h4 (Int32.toInt_inj.mp q)
  by_cases h5 : sg = 43
  · have g5 : sg.toInt = 43 := congrArg Int32.toInt h5
    refine lv_lookup (off := 113) (tgt := 114) hx hb d_Md_rankOf_1 (by decide) (by rw [g5]; rfl) (by decide) ?_
    refine lv_iconst (v := 5) hx hb d_Md_rankOf_114 (by decide) ?_
    exact W.iret (v := 5) hx hb hr (fun t ht hW => ⟨⟨5, M, rfl, ⟨hI, hF, (by have hm : (5 : Int32).toInt = 5 := rfl; unfold rk; repeat' split; all_goals omega)⟩, by unfold ux_E; rw [ht]; exact hP⟩, hS.F ht⟩) hS.2.2 d_Md_rankOf_115
  have g5 : ¬ sg.toInt = 43 := fun q => h5 (Int32.toInt_inj.mp q)
  by_cases h6 : sg = 45
  · have g6 : sg.toInt = 45 := congrArg Int32.toInt h6
    refine lv_lookup (off := 113) (tgt := 114) hx hb d_Md_rankOf_1 (by decide) (by rw [g6]; rfl) (by decide) ?_
    refine lv_iconst (v := 5) hx hb d_Md_rankOf_114 (by decide) ?_
    exact W.iret (v := 5) hx hb hr (fun t ht hW => ⟨⟨5, M, rfl, ⟨hI, hF, (by have hm : (5 : Int32).toInt = 5 := rfl; unfold rk; repeat' split; all_goals omega)⟩, by unfold ux_E; rw [ht]; exact hP⟩, hS.F ht⟩) hS.2.2 d_Md_rankOf_115
  have g6 : ¬ sg.toInt = 45 := fun q => h6 (Int32.toInt_inj.mp q)
  by_cases h7 : sg = 47
  · have g7 : sg.toInt = 47 := congrArg Int32.toInt h7
    refine lv_lookup (off := 110) (tgt := 111) hx hb d_Md_rankOf_1 (by decide) (by rw [g7]; rfl) (by decide) ?_
    refine lv_bipush (v := 6) hx hb d_Md_rankOf_111 (by decide) ?_
    exact W.iret (v := 6) hx hb hr (fun t ht hW => ⟨⟨6, M, rfl, ⟨hI, hF, (by have hm : (6 : Int32).toInt = 6 := rfl; unfold rk; repeat' split; all_goals omega)⟩, by unfold ux_E; rw [ht]; exact hP⟩, hS.F ht⟩) hS.2.2 d_Md_rankOf_113
  have g7 : ¬ sg.toInt = 47 := fun q => h7 (Int32.toInt_inj.mp q)
  by_cases h8 : sg = 60
  · have g8 : sg.toInt = 60 := congrArg Int32.toInt h8
    refine lv_lookup (off := 115) (tgt := 116) hx hb d_Md_rankOf_1 (by decide) (by rw [g8]; rfl) (by decide) ?_
    refine lv_iconst (v := 4) hx hb d_Md_rankOf_116 (by decide) ?_
    exact W.iret (v := 4) hx hb hr (fun t ht hW => ⟨⟨4, M, rfl, ⟨hI, hF, (by have hm : (4 : Int32).toInt = 4 := rfl; unfold rk; repeat' split; all_goals omega)⟩, by unfold ux_E; rw [ht]; exact hP⟩, hS.F ht⟩) hS.2.2 d_Md_rankOf_117
  have g8 : ¬ sg.toInt = 60 := fun q => h8 (Int32.toInt_inj.mp q)
  by_cases h9 : sg = 61
  · have g9 : sg.toInt = 61 := congrArg Int32.toInt h9
    refine lv_lookup (off := 115) (tgt := 116) hx hb d_Md_rankOf_1 (by decide) (by rw [g9]; rfl) (by decide) ?_
    refine lv_iconst (v := 4) hx hb d_Md_rankOf_116 (by decide) ?_
    exact W.iret (v := 4) hx hb hr (fun t ht hW => ⟨⟨4, M, rfl, ⟨hI, hF, (by have hm : (4 : Int32).toInt = 4 := rfl; unfold rk; repeat' split; all_goals omega)⟩, by unfold ux_E; rw [ht]; exact hP⟩, hS.F ht⟩) hS.2.2 d_Md_rankOf_117
  have g9 : ¬ sg.toInt = 61 := fun q => h9 (Int32.toInt_inj.mp q)
  by_cases h10 : sg = 62
  · have g10 : sg.toInt = 62 := congrArg Int32.toInt h10
    refine lv_lookup (off := 115) (tgt := 116) hx hb d_Md_rankOf_1 (by decide) (by rw [g10]; rfl) (by decide) ?_
    refine lv_iconst (v := 4) hx hb d_Md_rankOf_116 (by decide) ?_
    exact W.iret (v := 4) hx hb hr (fun t ht hW => ⟨⟨4, M, rfl, ⟨hI, hF, (by have hm : (4 : Int32).toInt = 4 := rfl; unfold rk; repeat' split; all_goals omega)⟩, by unfold ux_E; rw [ht]; exact hP⟩, hS.F ht⟩) hS.2.2 d_Md_rankOf_117
  have g10 : ¬ sg.toInt = 62 := fun q => h10 (Int32.toInt_inj.mp q)
  by_cases h11 : sg = 110
  · have g11 : sg.toInt = 110 := congrArg Int32.toInt h11
    refine lv_lookup (off := 107) (tgt := 108) hx hb d_Md_rankOf_1 (by decide) (by rw [g11]; rfl) (by decide) ?_
    refine lv_bipush (v := 7) hx hb d_Md_rankOf_108 (by decide) ?_
    exact W.iret (v := 7) hx hb hr (fun t ht hW => ⟨⟨7, M, rfl, ⟨hI, hF, (by have hm : (7 : Int32).toInt = 7 := rfl; unfold rk; repeat' split; all_goals omega)⟩, by unfold ux_E; rw [ht]; exact hP⟩, hS.F ht⟩) hS.2.2 d_Md_rankOf_110
  have g11 : ¬ sg.toInt = 110 := fun q => h11 (Int32.toInt_inj.mp q)
  by_cases h12 : sg = 124
  · have g12 : sg.toInt = 124 := congrArg Int32.toInt h12
    refine lv_lookup (off := 119) (tgt := 120) hx hb d_Md_rankOf_1 (by decide) (by rw [g12]; rfl) (by decide) ?_
    refine lv_iconst (v := 2) hx hb d_Md_rankOf_120 (by decide) ?_
    exact W.iret (v := 2) hx hb hr (fun t ht hW => ⟨⟨2, M, rfl, ⟨hI, hF, (by have hm : (2 : Int32).toInt = 2 := rfl; unfold rk; repeat' split; all_goals omega)⟩, by unfold ux_E; rw [ht]; exact hP⟩, hS.F ht⟩) hS.2.2 d_Md_rankOf_121
  have g12 : ¬ sg.toInt = 124 := fun q => h12 (Int32.toInt_inj.mp q)
  refine lv_lookup (off := 121) (tgt := 122) hx hb d_Md_rankOf_1 (by decide) (by show Op.lookupswitch.offset [(33, 107), (37, 110), (38, 117), (42, 110), (43, 113), (45, 113), (47, 110), (60, 115), (61, 115), (62, 115), (110, 107), (124, 119)] 121 sg.toInt = 121; rw [Op.lookupswitch.offset_cons, if_neg (show ¬ (33 : Int) = sg.toInt by omega), Op.lookupswitch.offset_cons, if_neg (show ¬ (37 : Int) = sg.toInt by omega), Op.lookupswitch.offset_cons, if_neg (show ¬ (38 : Int) = sg.toInt by omega), Op.lookupswitch.offset_cons, if_neg (show ¬ (42 : Int) = sg.toInt by omega), Op.lookupswitch.offset_cons, if_neg (show ¬ (43 : Int) = sg.toInt by omega), Op.lookupswitch.offset_cons, if_neg (show ¬ (45 : Int) = sg.toInt by omega), Op.lookupswitch.offset_cons, if_neg (show ¬ (47 : Int) = sg.toInt by omega), Op.lookupswitch.offset_cons, if_neg (show ¬ (60 : Int) = sg.toInt by omega), Op.lookupswitch.offset_cons, if_neg (show ¬ (61 : Int) = sg.toInt by omega), Op.lookupswitch.offset_cons, if_neg (show ¬ (62 : Int) = sg.toInt by omega), Op.lookupswitch.offset_cons, if_neg (show ¬ (110 : Int) = sg.toInt by omega), Op.lookupswitch.offset_cons, if_neg (show ¬ (124 : Int) = sg.toInt by omega)]; rfl) (by decide) ?_
  refine lv_iconst (v := 0) hx hb d_Md_rankOf_122 (by decide) ?_
  exact W.iret (v := 0) hx hb hr (fun t ht hW => ⟨⟨0, M, rfl, ⟨hI, hF, (by have hm : (0 : Int32).toInt = 0 := rfl; unfold rk; repeat' split; all_goals omega)⟩, by unfold ux_E; rw [ht]; exact hP⟩, hS.F ht⟩) hS.2.2 d_Md_rankOf_123

set_option maxHeartbeats 1600000 in
set_option maxRecDepth 100000 in
theorem s_Md_quotient (l : Launch) (D : va_G) (ad : Nat → Nat) (cA : Nat → ClassId) (A TB : Nat) (hA : A ≤ 100000000) (hB : TB ≤ 2000000000) (M : ux_M) (hI : IvM A TB M) (a1 b1 rs : Int32) : Met l y_Md_quotient w_Md_quotient ({ frames := 0, cells := 0, slots := 0, locals := 0 }) (va_Pc [.ref (ad 0), .int a1, .int b1, .int rs] (ux_B D shM KM ad cA M)) (va_Qi (fun r M1 => IvM A TB M1 ∧ (∀ a b, ¬ mZe a b → M1 a b = M a b) ∧ (True)) (ux_E D shM KM ad cA) (ux_A KM ad)) 0 0 (ux_A KM ad) := by
  refine Met.ofW (cc := b_Md_quotient) (maxL := 4) (ret := (some .int)) (by decide) rfl ?_
  intro p e s m args below meth c s₁ B hml hv
  obtain ⟨rfl, hP, hK, hi, hN⟩ := hv
  have hx := B.exec
  have hb := B.bytes
  have hr := B.returns
  have hts := atoms_spec (ws := w_Md_quotient) B.pre
  have hown : s.vm.findClass R_Md = some m.cls := findClass_of_methodNamed B.named
  have hlocks := B.notSynchronized
  have hT : ∀ w ∈ tb, w.before _ s = true := fun w h => hts w (List.mem_cons_of_mem _ h)
  have hS : va_S (ux_A KM ad) s.heap s.heap [] := va_S.rf
  have hl := lv_entry ([.ref (ad 0), .int a1, .int b1, .int rs]) (n := 4) (Nat.le_of_ble_eq_true rfl)
  rw [lg_entry_eq]
  generalize (lg_sl ([.ref (ad 0), .int a1, .int b1, .int rs]) ++ List.replicate (4 - (lg_sl ([.ref (ad 0), .int a1, .int b1, .int rs])).length) Slot.unset).toArray = ls at hl ⊢
  have hl : lv_has ls 4 [(0, .ref (ad 0)), (1, .int a1), (2, .int b1), (3, .int rs)] := hl
  have hF : ∀ a b, ¬ mZe a b → M a b = M a b := fun _ _ _ => rfl
  refine lv_iload_n hx hb d_Md_quotient_0 rfl (lv_at hl 2 rfl) ?_
  refine lv_if_ne hx hb d_Md_quotient_1 rfl (fun h1 => ?_) (fun h1 => ?_)
  · have g1 : ¬ (b1.toInt = 0) := fun q => h1 (Int32.toInt_inj.mp q)
    refine lv_iload_n hx hb d_Md_quotient_11 rfl (lv_at hl 3 rfl) ?_
    refine lv_if_eq hx hb d_Md_quotient_12 rfl (fun h2 => ?_) (fun h2 => ?_)
    · have g2 : rs.toInt = 0 := congrArg Int32.toInt h2
      refine lv_iload_n hx hb d_Md_quotient_21 rfl (lv_at hl 1 rfl) ?_
      refine lv_iload_n hx hb d_Md_quotient_22 rfl (lv_at hl 2 rfl) ?_
      refine lv_idiv hx hb d_Md_quotient_23 (fun q => absurd (congrArg Int32.toInt q) (show ¬ b1.toInt = 0 by omega)) ?_
      refine lv_topi (fun x3 ex3 => ?_)
      exact W.iret (v := x3) hx hb hr (fun t ht hW => ⟨⟨x3, M, rfl, ⟨hI, hF, trivial⟩, by unfold ux_E; rw [ht]; exact hP⟩, hS.F ht⟩) hS.2.2 d_Md_quotient_24
    · have g2 : ¬ (rs.toInt = 0) := fun q => h2 (Int32.toInt_inj.mp q)
      refine lv_iload_n hx hb d_Md_quotient_15 rfl (lv_at hl 1 rfl) ?_
      refine lv_iload_n hx hb d_Md_quotient_16 rfl (lv_at hl 2 rfl) ?_
      refine lv_irem hx hb d_Md_quotient_17 (fun q => absurd (congrArg Int32.toInt q) (show ¬ b1.toInt = 0 by omega)) ?_
      refine lv_topi (fun x4 ex4 => ?_)
      refine lv_goto hx hb d_Md_quotient_18 rfl ?_
      exact W.iret (v := x4) hx hb hr (fun t ht hW => ⟨⟨x4, M, rfl, ⟨hI, hF, trivial⟩, by unfold ux_E; rw [ht]; exact hP⟩, hS.F ht⟩) hS.2.2 d_Md_quotient_24
  · have g1 : b1.toInt = 0 := congrArg Int32.toInt h1
    refine lv_aload_n hx hb d_Md_quotient_4 rfl (lv_at hl 0 rfl) ?_
    refine lv_iconst (v := 1) hx hb d_Md_quotient_5 (by decide) ?_
    refine ux_put (C := R_Md) (T := F_Md) (N := 50) hx hb hT in_Md t_Md t_Md_ok n_Md hown hK hi hP hS (by decide) rfl rfl 33 (by decide) (hT _ fl_Md_331) rfl (rfl) (rfl) rfl d_Md_quotient_6 (fun H locs hP hS => ?_)
    have hI := IvM_free (k := 0) (j := 33) (v := 1) hI rfl rfl (by unfold okW; omega)
    have hF := fr_wr (k := 0) (j := 33) (v := 1) hF (by unfold mZe; omega)
    generalize eM5 : ux_wr M 0 33 1 = M5 at hP hI hF
    refine lv_iconst (v := 0) hx hb d_Md_quotient_9 (by decide) ?_
    exact W.iret (v := 0) hx hb hr (fun t ht hW => ⟨⟨0, M5, rfl, ⟨hI, hF, trivial⟩, by unfold ux_E; rw [ht]; exact hP⟩, hS.F ht⟩) hS.2.2 d_Md_quotient_10

set_option maxHeartbeats 1600000 in
set_option maxRecDepth 100000 in
theorem s_Md_joined (l : Launch) (D : va_G) (ad : Nat → Nat) (cA : Nat → ClassId) (A TB : Nat) (hA : A ≤ 100000000) (hB : TB ≤ 2000000000) (M : ux_M) (hI : IvM A TB M) (sg a1 b1 : Int32) : Met l y_Md_joined w_Md_joined ({ frames := 1, cells := 0, slots := 0, locals := 23 }) (va_Pc [.ref (ad 0), .int sg, .int a1, .int b1] (ux_B D shM KM ad cA M)) (va_Qi (fun r M1 => IvM A TB M1 ∧ (∀ a b, ¬ mZe a b → M1 a b = M a b) ∧ (True)) (ux_E D shM KM ad cA) (ux_A KM ad)) 0 0 (ux_A KM ad) := by
  refine Met.ofW (cc := b_Md_joined) (maxL := 4) (ret := (some .int)) (by decide) rfl ?_
  intro p e s m args below meth c s₁ B hml hv
  obtain ⟨rfl, hP, hK, hi, hN⟩ := hv
  have hx := B.exec
  have hb := B.bytes
  have hr := B.returns
  have hts := atoms_spec (ws := w_Md_joined) B.pre
  have hown : s.vm.findClass R_Md = some m.cls := findClass_of_methodNamed B.named
  have hlocks := B.notSynchronized
  have hT : ∀ w ∈ tb, w.before _ s = true := fun w h => hts w (List.mem_cons_of_mem _ h)
  have hS : va_S (ux_A KM ad) s.heap s.heap [] := va_S.rf
  have hl := lv_entry ([.ref (ad 0), .int sg, .int a1, .int b1]) (n := 4) (Nat.le_of_ble_eq_true rfl)
  rw [lg_entry_eq]
  generalize (lg_sl ([.ref (ad 0), .int sg, .int a1, .int b1]) ++ List.replicate (4 - (lg_sl ([.ref (ad 0), .int sg, .int a1, .int b1])).length) Slot.unset).toArray = ls at hl ⊢
  have hl : lv_has ls 4 [(0, .ref (ad 0)), (1, .int sg), (2, .int a1), (3, .int b1)] := hl
  have hF : ∀ a b, ¬ mZe a b → M a b = M a b := fun _ _ _ => rfl
  refine lv_iload_n hx hb d_Md_joined_0 rfl (lv_at hl 1 rfl) ?_
  by_cases h1 : sg = 37
  · have g1 : sg.toInt = 37 := congrArg Int32.toInt h1
    refine lv_tableIn (off := 131) (tgt := 132) hx hb d_Md_joined_1 (by rw [g1]; decide) (by rw [g1]; decide) (by rw [g1]; rfl) (by decide) ?_
    refine lv_aload_n hx hb d_Md_joined_132 rfl (lv_at hl 0 rfl) ?_
    refine lv_iload_n hx hb d_Md_joined_133 rfl (lv_at hl 2 rfl) ?_
    refine lv_iload_n hx hb d_Md_joined_134 rfl (lv_at hl 3 rfl) ?_
    refine lv_iconst (v := 1) hx hb d_Md_joined_135 (by decide) ?_
    refine ux_calli (va_runV ⟨hx, hb, hml, hown, hts⟩ (s_Md_quotient l D ad cA A TB hA hB  M hI a1 b1 1) (cwV 3 hts (tb_goodV ml_Md_334 im_Md_quotient se_Md_quotient ii_Md kt_Md_quotient) rfl rfl rfl (by decide +kernel) ⟨Nat.le_of_ble_eq_true rfl, Nat.le_of_ble_eq_true rfl⟩) (ux_preV (by decide) rfl rfl hP hK hi hN) rfl rfl hl.1 rfl (lv_room (Nat.le_of_ble_eq_true rfl)) d_Md_joined_136 ⟨Nat.zero_le _, Nat.zero_le _⟩) hS (fun r2 M3 H locs q4 hP hS => ?_)
    obtain ⟨hI, fq4, q4p⟩ := q4
    have hF := fr_call hF fq4 (fun a b q => by unfold mZe at q; unfold mZe; omega)
    exact W.iret (v := r2) hx hb hr (fun t ht hW => ⟨⟨r2, M3, rfl, ⟨hI, hF, trivial⟩, by unfold ux_E; rw [ht]; exact hP⟩, hS.F ht⟩) hS.2.2 d_Md_joined_139
  have g1 : ¬ sg.toInt = 37 := fun q => h1 (Int32.toInt_inj.mp q)
  by_cases h5 : sg = 38
  · have g5 : sg.toInt = 38 := congrArg Int32.toInt h5
    refine lv_tableIn (off := 180) (tgt := 181) hx hb d_Md_joined_1 (by rw [g5]; decide) (by rw [g5]; decide) (by rw [g5]; rfl) (by decide) ?_
    refine lv_iload_n hx hb d_Md_joined_181 rfl (lv_at hl 2 rfl) ?_
    refine lv_if_eq hx hb d_Md_joined_182 rfl (fun h6 => ?_) (fun h6 => ?_)
    · have g6 : a1.toInt = 0 := congrArg Int32.toInt h6
      refine lv_iconst (v := 0) hx hb d_Md_joined_193 (by decide) ?_
      exact W.iret (v := 0) hx hb hr (fun t ht hW => ⟨⟨0, M, rfl, ⟨hI, hF, trivial⟩, by unfold ux_E; rw [ht]; exact hP⟩, hS.F ht⟩) hS.2.2 d_Md_joined_194
    · have g6 : ¬ (a1.toInt = 0) := fun q => h6 (Int32.toInt_inj.mp q)
      refine lv_iload_n hx hb d_Md_joined_185 rfl (lv_at hl 3 rfl) ?_
      refine lv_if_eq hx hb d_Md_joined_186 rfl (fun h7 => ?_) (fun h7 => ?_)
      · have g7 : b1.toInt = 0 := congrArg Int32.toInt h7
        refine lv_iconst (v := 0) hx hb d_Md_joined_193 (by decide) ?_
        exact W.iret (v := 0) hx hb hr (fun t ht hW => ⟨⟨0, M, rfl, ⟨hI, hF, trivial⟩, by unfold ux_E; rw [ht]; exact hP⟩, hS.F ht⟩) hS.2.2 d_Md_joined_194
      · have g7 : ¬ (b1.toInt = 0) := fun q => h7 (Int32.toInt_inj.mp q)
        refine lv_iconst (v := 1) hx hb d_Md_joined_189 (by decide) ?_
        refine lv_goto hx hb d_Md_joined_190 rfl ?_
        exact W.iret (v := 1) hx hb hr (fun t ht hW => ⟨⟨1, M, rfl, ⟨hI, hF, trivial⟩, by unfold ux_E; rw [ht]; exact hP⟩, hS.F ht⟩) hS.2.2 d_Md_joined_194
  have g5 : ¬ sg.toInt = 38 := fun q => h5 (Int32.toInt_inj.mp q)
  by_cases h8 : sg = 42
  · have g8 : sg.toInt = 42 := congrArg Int32.toInt h8
    refine lv_tableIn (off := 119) (tgt := 120) hx hb d_Md_joined_1 (by rw [g8]; decide) (by rw [g8]; decide) (by rw [g8]; rfl) (by decide) ?_
    refine lv_iload_n hx hb d_Md_joined_120 rfl (lv_at hl 2 rfl) ?_
    refine lv_iload_n hx hb d_Md_joined_121 rfl (lv_at hl 3 rfl) ?_
    refine lv_imul hx hb d_Md_joined_122 ?_
    refine lv_topi (fun x9 ex9 => ?_)
    try have fx9 : x9.toInt = a1.toInt * b1.toInt := by rw [ex9, ti_mul (by omega) (by omega)]; first | done | rfl
    exact W.iret (v := x9) hx hb hr (fun t ht hW => ⟨⟨x9, M, rfl, ⟨hI, hF, trivial⟩, by unfold ux_E; rw [ht]; exact hP⟩, hS.F ht⟩) hS.2.2 d_Md_joined_123
  have g8 : ¬ sg.toInt = 42 := fun q => h8 (Int32.toInt_inj.mp q)
  by_cases h10 : sg = 43
  · have g10 : sg.toInt = 43 := congrArg Int32.toInt h10
    refine lv_tableIn (off := 139) (tgt := 140) hx hb d_Md_joined_1 (by rw [g10]; decide) (by rw [g10]; decide) (by rw [g10]; rfl) (by decide) ?_
    refine lv_iload_n hx hb d_Md_joined_140 rfl (lv_at hl 2 rfl) ?_
    refine lv_iload_n hx hb d_Md_joined_141 rfl (lv_at hl 3 rfl) ?_
    refine lv_iadd hx hb d_Md_joined_142 ?_
    refine lv_topi (fun x11 ex11 => ?_)
    try have fx11 : x11.toInt = a1.toInt + b1.toInt := by rw [ex11, ti_add (by omega) (by omega)]; first | done | rfl
    exact W.iret (v := x11) hx hb hr (fun t ht hW => ⟨⟨x11, M, rfl, ⟨hI, hF, trivial⟩, by unfold ux_E; rw [ht]; exact hP⟩, hS.F ht⟩) hS.2.2 d_Md_joined_143
  have g10 : ¬ sg.toInt = 43 := fun q => h10 (Int32.toInt_inj.mp q)
  by_cases h12 : sg = 45
  · have g12 : sg.toInt = 45 := congrArg Int32.toInt h12
    refine lv_tableIn (off := 143) (tgt := 144) hx hb d_Md_joined_1 (by rw [g12]; decide) (by rw [g12]; decide) (by rw [g12]; rfl) (by decide) ?_
    refine lv_iload_n hx hb d_Md_joined_144 rfl (lv_at hl 2 rfl) ?_
    refine lv_iload_n hx hb d_Md_joined_145 rfl (lv_at hl 3 rfl) ?_
    refine lv_isub hx hb d_Md_joined_146 ?_
    refine lv_topi (fun x13 ex13 => ?_)
    try have fx13 : x13.toInt = a1.toInt - b1.toInt := by rw [ex13, ti_sub (by omega) (by omega)]; first | done | rfl
    exact W.iret (v := x13) hx hb hr (fun t ht hW => ⟨⟨x13, M, rfl, ⟨hI, hF, trivial⟩, by unfold ux_E; rw [ht]; exact hP⟩, hS.F ht⟩) hS.2.2 d_Md_joined_147
  have g12 : ¬ sg.toInt = 45 := fun q => h12 (Int32.toInt_inj.mp q)
  by_cases h14 : sg = 47
  · have g14 : sg.toInt = 47 := congrArg Int32.toInt h14
    refine lv_tableIn (off := 123) (tgt := 124) hx hb d_Md_joined_1 (by rw [g14]; decide) (by rw [g14]; decide) (by rw [g14]; rfl) (by decide) ?_
    refine lv_aload_n hx hb d_Md_joined_124 rfl (lv_at hl 0 rfl) ?_
    refine lv_iload_n hx hb d_Md_joined_125 rfl (lv_at hl 2 rfl) ?_
    refine lv_iload_n hx hb d_Md_joined_126 rfl (lv_at hl 3 rfl) ?_
    refine lv_iconst (v := 0) hx hb d_Md_joined_127 (by decide) ?_
    refine ux_calli (va_runV ⟨hx, hb, hml, hown, hts⟩ (s_Md_quotient l D ad cA A TB hA hB  M hI a1 b1 0) (cwV 3 hts (tb_goodV ml_Md_334 im_Md_quotient se_Md_quotient ii_Md kt_Md_quotient) rfl rfl rfl (by decide +kernel) ⟨Nat.le_of_ble_eq_true rfl, Nat.le_of_ble_eq_true rfl⟩) (ux_preV (by decide) rfl rfl hP hK hi hN) rfl rfl hl.1 rfl (lv_room (Nat.le_of_ble_eq_true rfl)) d_Md_joined_128 ⟨Nat.zero_le _, Nat.zero_le _⟩) hS (fun r15 M16 H locs q17 hP hS => ?_)
    obtain ⟨hI, fq17, q17p⟩ := q17
    have hF := fr_call hF fq17 (fun a b q => by unfold mZe at q; unfold mZe; omega)
    exact W.iret (v := r15) hx hb hr (fun t ht hW => ⟨⟨r15, M16, rfl, ⟨hI, hF, trivial⟩, by unfold ux_E; rw [ht]; exact hP⟩, hS.F ht⟩) hS.2.2 d_Md_joined_131
  have g14 : ¬ sg.toInt = 47 := fun q => h14 (Int32.toInt_inj.mp q)
  by_cases h18 : sg = 60
  · have g18 : sg.toInt = 60 := congrArg Int32.toInt h18
    refine lv_tableIn (off := 147) (tgt := 148) hx hb d_Md_joined_1 (by rw [g18]; decide) (by rw [g18]; decide) (by rw [g18]; rfl) (by decide) ?_
    refine lv_iload_n hx hb d_Md_joined_148 rfl (lv_at hl 2 rfl) ?_
    refine lv_iload_n hx hb d_Md_joined_149 rfl (lv_at hl 3 rfl) ?_
    refine lv_icmp_ge hx hb d_Md_joined_150 rfl (fun h19 => ?_) (fun h19 => ?_)
    · have g19 : b1.toInt ≤ a1.toInt := Int32.le_iff_toInt_le.mp h19
      have u19 := ti_hi a1
      have w19 := ti_lo b1
      refine lv_iconst (v := 0) hx hb d_Md_joined_157 (by decide) ?_
      exact W.iret (v := 0) hx hb hr (fun t ht hW => ⟨⟨0, M, rfl, ⟨hI, hF, trivial⟩, by unfold ux_E; rw [ht]; exact hP⟩, hS.F ht⟩) hS.2.2 d_Md_joined_158
    · have g19 : ¬ (b1.toInt ≤ a1.toInt) := fun q => h19 (Int32.le_iff_toInt_le.mpr q)
      have u19 := ti_hi b1
      have w19 := ti_lo a1
      refine lv_iconst (v := 1) hx hb d_Md_joined_153 (by decide) ?_
      refine lv_goto hx hb d_Md_joined_154 rfl ?_
      exact W.iret (v := 1) hx hb hr (fun t ht hW => ⟨⟨1, M, rfl, ⟨hI, hF, trivial⟩, by unfold ux_E; rw [ht]; exact hP⟩, hS.F ht⟩) hS.2.2 d_Md_joined_158
  have g18 : ¬ sg.toInt = 60 := fun q => h18 (Int32.toInt_inj.mp q)
  by_cases h20 : sg = 61
  · have g20 : sg.toInt = 61 := congrArg Int32.toInt h20
    refine lv_tableIn (off := 169) (tgt := 170) hx hb d_Md_joined_1 (by rw [g20]; decide) (by rw [g20]; decide) (by rw [g20]; rfl) (by decide) ?_
    refine lv_iload_n hx hb d_Md_joined_170 rfl (lv_at hl 2 rfl) ?_
    refine lv_iload_n hx hb d_Md_joined_171 rfl (lv_at hl 3 rfl) ?_
    refine lv_icmp_ne hx hb d_Md_joined_172 rfl (fun h21 => ?_) (fun h21 => ?_)
    · have g21 : ¬ (a1.toInt = b1.toInt) := fun q => h21 (Int32.toInt_inj.mp q)
      refine lv_iconst (v := 0) hx hb d_Md_joined_179 (by decide) ?_
      exact W.iret (v := 0) hx hb hr (fun t ht hW => ⟨⟨0, M, rfl, ⟨hI, hF, trivial⟩, by unfold ux_E; rw [ht]; exact hP⟩, hS.F ht⟩) hS.2.2 d_Md_joined_180
    · have g21 : a1.toInt = b1.toInt := congrArg Int32.toInt h21
      refine lv_iconst (v := 1) hx hb d_Md_joined_175 (by decide) ?_
      refine lv_goto hx hb d_Md_joined_176 rfl ?_
      exact W.iret (v := 1) hx hb hr (fun t ht hW => ⟨⟨1, M, rfl, ⟨hI, hF, trivial⟩, by unfold ux_E; rw [ht]; exact hP⟩, hS.F ht⟩) hS.2.2 d_Md_joined_180
  have g20 : ¬ sg.toInt = 61 := fun q => h20 (Int32.toInt_inj.mp q)
  by_cases h22 : sg = 62
  · have g22 : sg.toInt = 62 := congrArg Int32.toInt h22
    refine lv_tableIn (off := 158) (tgt := 159) hx hb d_Md_joined_1 (by rw [g22]; decide) (by rw [g22]; decide) (by rw [g22]; rfl) (by decide) ?_
    refine lv_iload_n hx hb d_Md_joined_159 rfl (lv_at hl 2 rfl) ?_
    refine lv_iload_n hx hb d_Md_joined_160 rfl (lv_at hl 3 rfl) ?_
    refine lv_icmp_le hx hb d_Md_joined_161 rfl (fun h23 => ?_) (fun h23 => ?_)
    · have g23 : a1.toInt ≤ b1.toInt := Int32.le_iff_toInt_le.mp h23
      have u23 := ti_hi b1
      have w23 := ti_lo a1
      refine lv_iconst (v := 0) hx hb d_Md_joined_168 (by decide) ?_
      exact W.iret (v := 0) hx hb hr (fun t ht hW => ⟨⟨0, M, rfl, ⟨hI, hF, trivial⟩, by unfold ux_E; rw [ht]; exact hP⟩, hS.F ht⟩) hS.2.2 d_Md_joined_169
    · have g23 : ¬ (a1.toInt ≤ b1.toInt) := fun q => h23 (Int32.le_iff_toInt_le.mpr q)
      have u23 := ti_hi a1
      have w23 := ti_lo b1
      refine lv_iconst (v := 1) hx hb d_Md_joined_164 (by decide) ?_
      refine lv_goto hx hb d_Md_joined_165 rfl ?_
      exact W.iret (v := 1) hx hb hr (fun t ht hW => ⟨⟨1, M, rfl, ⟨hI, hF, trivial⟩, by unfold ux_E; rw [ht]; exact hP⟩, hS.F ht⟩) hS.2.2 d_Md_joined_169
  have g22 : ¬ sg.toInt = 62 := fun q => h22 (Int32.toInt_inj.mp q)
  refine lv_tableDf (tgt := 195) hx hb d_Md_joined_1 (by
      by_cases hr : sg.toInt < 37 ∨ 62 < sg.toInt
      · exact hr.elim Or.inl (fun q => Or.inr (Or.inl q))
      · have k : ∀ n, n < 26 → (n = 0 ∨ n = 1 ∨ n = 5 ∨ n = 6 ∨ n = 8 ∨ n = 10 ∨ n = 23 ∨ n = 24 ∨ n = 25 ∨ (#[131, 180, 194, 194, 194, 119, 139, 194, 143, 194, 123, 194, 194, 194, 194, 194, 194, 194, 194, 194, 194, 194, 194, 147, 169, 158] : Array Int)[n]? = some 194) := by decide
        rcases k (sg.toInt - 37).toNat (by omega) with q | q | q | q | q | q | q | q | q | q
        all_goals first | exact Or.inr (Or.inr q) | (exfalso; omega)) (by decide) ?_
  refine lv_iload_n hx hb d_Md_joined_195 rfl (lv_at hl 2 rfl) ?_
  refine lv_if_ne hx hb d_Md_joined_196 rfl (fun h24 => ?_) (fun h24 => ?_)
  · have g24 : ¬ (a1.toInt = 0) := fun q => h24 (Int32.toInt_inj.mp q)
    refine lv_iconst (v := 1) hx hb d_Md_joined_203 (by decide) ?_
    refine lv_goto hx hb d_Md_joined_204 rfl ?_
    exact W.iret (v := 1) hx hb hr (fun t ht hW => ⟨⟨1, M, rfl, ⟨hI, hF, trivial⟩, by unfold ux_E; rw [ht]; exact hP⟩, hS.F ht⟩) hS.2.2 d_Md_joined_208
  · have g24 : a1.toInt = 0 := congrArg Int32.toInt h24
    refine lv_iload_n hx hb d_Md_joined_199 rfl (lv_at hl 3 rfl) ?_
    refine lv_if_eq hx hb d_Md_joined_200 rfl (fun h25 => ?_) (fun h25 => ?_)
    · have g25 : b1.toInt = 0 := congrArg Int32.toInt h25
      refine lv_iconst (v := 0) hx hb d_Md_joined_207 (by decide) ?_
      exact W.iret (v := 0) hx hb hr (fun t ht hW => ⟨⟨0, M, rfl, ⟨hI, hF, trivial⟩, by unfold ux_E; rw [ht]; exact hP⟩, hS.F ht⟩) hS.2.2 d_Md_joined_208
    · have g25 : ¬ (b1.toInt = 0) := fun q => h25 (Int32.toInt_inj.mp q)
      refine lv_iconst (v := 1) hx hb d_Md_joined_203 (by decide) ?_
      refine lv_goto hx hb d_Md_joined_204 rfl ?_
      exact W.iret (v := 1) hx hb hr (fun t ht hW => ⟨⟨1, M, rfl, ⟨hI, hF, trivial⟩, by unfold ux_E; rw [ht]; exact hP⟩, hS.F ht⟩) hS.2.2 d_Md_joined_208

set_option maxHeartbeats 1600000 in
set_option maxRecDepth 100000 in
theorem s_Md_apply (l : Launch) (D : va_G) (ad : Nat → Nat) (cA : Nat → ClassId) (A TB : Nat) (hA : A ≤ 100000000) (hB : TB ≤ 2000000000) (M : ux_M) (hI : IvM A TB M) (n v : Nat) (hn : M 0 31 = nI (n + 1)) (hv : M 0 32 = nI v) (hn2 : n + 1 ≤ 210) (hv2 : v ≤ 210) (hv1 : 1 ≤ v) (hv3 : 2 ≤ v ∨ rk (M 22 n).toInt = 7) : Met l y_Md_apply w_Md_apply ({ frames := 2, cells := 0, slots := 0, locals := 46 }) (va_Pc [.ref (ad 0)] (ux_B D shM KM ad cA M)) (va_Qv (fun M1 => IvM A TB M1 ∧ (∀ a b, ¬ mAp a b → M1 a b = M a b) ∧ (M1 0 31 = nI n ∧ ((rk (M 22 n).toInt = 7 ∧ M1 0 32 = nI v) ∨ (¬ rk (M 22 n).toInt = 7 ∧ M1 0 32 = nI (v - 1))))) (ux_E D shM KM ad cA) (ux_A KM ad)) 0 0 (ux_A KM ad) := by
  refine Met.ofW (cc := b_Md_apply) (maxL := 3) (ret := none) (by decide) rfl ?_
  intro p e s m args below meth c s₁ B hml hv
  obtain ⟨rfl, hP, hK, hi, hN⟩ := hv
  have hx := B.exec
  have hb := B.bytes
  have hr := B.returns
  have hts := atoms_spec (ws := w_Md_apply) B.pre
  have hown : s.vm.findClass R_Md = some m.cls := findClass_of_methodNamed B.named
  have hlocks := B.notSynchronized
  have hT : ∀ w ∈ tb, w.before _ s = true := fun w h => hts w (List.mem_cons_of_mem _ h)
  have hS : va_S (ux_A KM ad) s.heap s.heap [] := va_S.rf
  have hl := lv_entry ([.ref (ad 0)]) (n := 3) (Nat.le_of_ble_eq_true rfl)
  rw [lg_entry_eq]
  generalize (lg_sl ([.ref (ad 0)]) ++ List.replicate (3 - (lg_sl ([.ref (ad 0)])).length) Slot.unset).toArray = ls at hl ⊢
  have hl : lv_has ls 3 [(0, .ref (ad 0))] := hl
  have hF : ∀ a b, ¬ mAp a b → M a b = M a b := fun _ _ _ => rfl
  refine lv_aload_n hx hb d_Md_apply_0 rfl (lv_at hl 0 rfl) ?_
  refine lv_dup hx hb d_Md_apply_1 rfl ?_
  refine ux_get (C := R_Md) (T := F_Md) (N := 50) hx hb hT in_Md hown hK hP (by decide) rfl rfl 31 (by decide) (hT _ fl_Md_338) rfl d_Md_apply_2 ?_
  refine lv_topi (fun z1 hz1 => ?_)
  rw [show M 0 31 = nI (n + 1) from hn] at hz1
  rw [hz1]
  refine lv_iconst (v := 1) hx hb d_Md_apply_5 (by decide) ?_
  refine lv_isub hx hb d_Md_apply_6 ?_
  refine lv_topi (fun z2 hz2 => ?_)
  rw [show (nI (n + 1)) - (1 : Int32) = nI n from (pk_sub (a := n + 1) (b := 1) (by omega)).trans (congrArg nI (show (n + 1) - 1 = n by omega))] at hz2
  rw [hz2]
  refine ux_put (C := R_Md) (T := F_Md) (N := 50) hx hb hT in_Md t_Md t_Md_ok n_Md hown hK hi hP hS (by decide) rfl rfl 31 (by decide) (hT _ fl_Md_338) rfl (rfl) (rfl) rfl d_Md_apply_7 (fun H locs hP hS => ?_)
  have hI := IvM_wr (k := 0) (j := 31) (v := nI n) hI (show (0 : Int) ≤ (nI n : Int32).toInt from (by rw [nI_toInt (n := n) (by omega)]; omega)) (show (nI n : Int32).toInt ≤ (210 : Int) from (by rw [nI_toInt (n := n) (by omega)]; omega)) (by unfold okW; omega)
  have hF := fr_wr (k := 0) (j := 31) (v := nI n) hF (by unfold mAp; omega)
  generalize eM3 : ux_wr M 0 31 (nI n) = M3 at hP hI hF
  have tM3 : (M3 0 31).toInt = ((n : Nat) : Int) := by rw [wr_at eM3]; exact nI_toInt (by omega)
  refine lv_aload_n hx hb d_Md_apply_10 rfl (lv_at hl 0 rfl) ?_
  refine ux_get (C := R_Md) (T := F_Md) (N := 50) hx hb hT in_Md hown hK hP (by decide) rfl rfl 29 (by decide) (hT _ fl_Md_79) rfl d_Md_apply_11 ?_
  refine lv_aload_n hx hb d_Md_apply_14 rfl (lv_at hl 0 rfl) ?_
  refine ux_get (C := R_Md) (T := F_Md) (N := 50) hx hb hT in_Md hown hK hP (by decide) rfl rfl 31 (by decide) (hT _ fl_Md_338) rfl d_Md_apply_15 ?_
  refine lv_topi (fun z4 hz4 => ?_)
  rw [show M3 0 31 = nI n from wr_at eM3] at hz4
  rw [hz4]
  refine ux_iald hx hb hK hP (by decide) rfl (vp_in_nI (show n < 210 by omega) (by decide)) d_Md_apply_18 ?_
  rw [nI_clamp (n := n) (by omega)]
  refine lv_istore_n hx hb d_Md_apply_19 rfl hl (by decide) rfl (fun ls hl => ?_)
  have hl : lv_has ls 3 [(1, .int (M3 22 n)), (0, .ref (ad 0))] := hl
  have k5 := congrArg Int32.toInt (show M3 22 (n) = M 22 (n) from hF _ _ (by unfold mAp; omega))
  refine lv_aload_n hx hb d_Md_apply_20 rfl (lv_at hl 1 rfl) ?_
  refine ux_get (C := R_Md) (T := F_Md) (N := 50) hx hb hT in_Md hown hK hP (by decide) rfl rfl 30 (by decide) (hT _ fl_Md_82) rfl d_Md_apply_21 ?_
  refine lv_aload_n hx hb d_Md_apply_24 rfl (lv_at hl 1 rfl) ?_
  refine ux_get (C := R_Md) (T := F_Md) (N := 50) hx hb hT in_Md hown hK hP (by decide) rfl rfl 32 (by decide) (hT _ fl_Md_341) rfl d_Md_apply_25 ?_
  refine lv_topi (fun z6 hz6 => ?_)
  rw [show M3 0 32 = nI v from (wr_off eM3 (by omega)).trans (hv)] at hz6
  rw [hz6]
  refine lv_iconst (v := 1) hx hb d_Md_apply_28 (by decide) ?_
  refine lv_isub hx hb d_Md_apply_29 ?_
  refine lv_topi (fun z7 hz7 => ?_)
  rw [show (nI v) - (1 : Int32) = nI (v - 1) from (pk_sub (a := v) (b := 1) (by omega)).trans (congrArg nI (show v - 1 = v - 1 by omega))] at hz7
  rw [hz7]
  refine ux_iald hx hb hK hP (by decide) rfl (vp_in_nI (show v - 1 < 210 by omega) (by decide)) d_Md_apply_30 ?_
  rw [nI_clamp (n := v - 1) (by omega)]
  refine lv_istore_n hx hb d_Md_apply_31 rfl hl (by decide) rfl (fun ls hl => ?_)
  have hl : lv_has ls 3 [(2, .int (M3 23 (v - 1))), (1, .int (M3 22 n)), (0, .ref (ad 0))] := hl
  refine lv_iload_n hx hb d_Md_apply_32 rfl (lv_at hl 1 rfl) ?_
  refine lv_bipush (v := 110) hx hb d_Md_apply_33 (by decide) ?_
  refine lv_icmp_eq hx hb d_Md_apply_35 rfl (fun h8 => ?_) (fun h8 => ?_)
  · have g8 : (M3 22 n).toInt = 110 := congrArg Int32.toInt h8
    have hr7 := rk7 (M 22 n).toInt
    refine lv_aload_n hx hb d_Md_apply_44 rfl (lv_at hl 2 rfl) ?_
    refine ux_get (C := R_Md) (T := F_Md) (N := 50) hx hb hT in_Md hown hK hP (by decide) rfl rfl 30 (by decide) (hT _ fl_Md_82) rfl d_Md_apply_45 ?_
    refine lv_aload_n hx hb d_Md_apply_48 rfl (lv_at hl 2 rfl) ?_
    refine ux_get (C := R_Md) (T := F_Md) (N := 50) hx hb hT in_Md hown hK hP (by decide) rfl rfl 32 (by decide) (hT _ fl_Md_341) rfl d_Md_apply_49 ?_
    refine lv_topi (fun z9 hz9 => ?_)
    rw [show M3 0 32 = nI v from (wr_off eM3 (by omega)).trans (hv)] at hz9
    rw [hz9]
    refine lv_iconst (v := 1) hx hb d_Md_apply_52 (by decide) ?_
    refine lv_isub hx hb d_Md_apply_53 ?_
    refine lv_topi (fun z10 hz10 => ?_)
    rw [show (nI v) - (1 : Int32) = nI (v - 1) from (pk_sub (a := v) (b := 1) (by omega)).trans (congrArg nI (show v - 1 = v - 1 by omega))] at hz10
    rw [hz10]
    refine lv_iload_n hx hb d_Md_apply_54 rfl (lv_at hl 1 rfl) ?_
    refine lv_bipush (v := 110) hx hb d_Md_apply_55 (by decide) ?_
    refine lv_icmp_ne hx hb d_Md_apply_57 rfl (fun h11 => ?_) (fun h11 => ?_)
    · have g11 : ¬ ((M3 22 n).toInt = 110) := fun q => h11 (Int32.toInt_inj.mp q)
      refine lv_iload_n hx hb d_Md_apply_65 rfl (lv_at hl 0 rfl) ?_
      refine lv_if_ne hx hb d_Md_apply_66 rfl (fun h12 => ?_) (fun h12 => ?_)
      · have g12 : ¬ ((M3 23 (v - 1)).toInt = 0) := fun q => h12 (Int32.toInt_inj.mp q)
        refine lv_iconst (v := 0) hx hb d_Md_apply_73 (by decide) ?_
        refine ux_iast hx hb hK hi hP hS (by decide) rfl (vp_in_nI (show v - 1 < 210 by omega) (by decide)) d_Md_apply_74 (fun H locs hP hS => ?_)
        rw [nI_clamp (n := v - 1) (by omega)] at hP
        have hI := IvM_free (k := 23) (j := v - 1) (v := 0) hI rfl rfl (by unfold okW; omega)
        have hF := fr_wr (k := 23) (j := v - 1) (v := 0) hF (by unfold mAp; omega)
        generalize eM13 : ux_wr M3 23 (v - 1) 0 = M13 at hP hI hF
        exact W.vret hx hb hr (fun t ht hW => ⟨⟨M13, rfl, ⟨hI, hF, ⟨(wr_off eM13 (by omega)).trans (wr_at eM3), Or.inl ⟨by omega, (wr_off eM13 (by omega)).trans ((wr_off eM3 (by omega)).trans (hv))⟩⟩⟩, by unfold ux_E; rw [ht]; exact hP⟩, hS.F ht⟩) hS.2.2 d_Md_apply_75
      · have g12 : (M3 23 (v - 1)).toInt = 0 := congrArg Int32.toInt h12
        refine lv_iconst (v := 1) hx hb d_Md_apply_69 (by decide) ?_
        refine lv_goto hx hb d_Md_apply_70 rfl ?_
        refine ux_iast hx hb hK hi hP hS (by decide) rfl (vp_in_nI (show v - 1 < 210 by omega) (by decide)) d_Md_apply_74 (fun H locs hP hS => ?_)
        rw [nI_clamp (n := v - 1) (by omega)] at hP
        have hI := IvM_free (k := 23) (j := v - 1) (v := 1) hI rfl rfl (by unfold okW; omega)
        have hF := fr_wr (k := 23) (j := v - 1) (v := 1) hF (by unfold mAp; omega)
        generalize eM14 : ux_wr M3 23 (v - 1) 1 = M14 at hP hI hF
        exact W.vret hx hb hr (fun t ht hW => ⟨⟨M14, rfl, ⟨hI, hF, ⟨(wr_off eM14 (by omega)).trans (wr_at eM3), Or.inl ⟨by omega, (wr_off eM14 (by omega)).trans ((wr_off eM3 (by omega)).trans (hv))⟩⟩⟩, by unfold ux_E; rw [ht]; exact hP⟩, hS.F ht⟩) hS.2.2 d_Md_apply_75
    · have g11 : (M3 22 n).toInt = 110 := congrArg Int32.toInt h11
      refine lv_iload_n hx hb d_Md_apply_60 rfl (lv_at hl 0 rfl) ?_
      refine lv_ineg hx hb d_Md_apply_61 ?_
      refine lv_topi (fun x15 ex15 => ?_)
      try have fx15 : x15.toInt = - (M3 23 (v - 1)).toInt := by rw [ex15]; exact ti_neg (by omega)
      refine lv_goto hx hb d_Md_apply_62 rfl ?_
      refine ux_iast hx hb hK hi hP hS (by decide) rfl (vp_in_nI (show v - 1 < 210 by omega) (by decide)) d_Md_apply_74 (fun H locs hP hS => ?_)
      rw [nI_clamp (n := v - 1) (by omega)] at hP
      have hI := IvM_free (k := 23) (j := v - 1) (v := x15) hI rfl rfl (by unfold okW; omega)
      have hF := fr_wr (k := 23) (j := v - 1) (v := x15) hF (by unfold mAp; omega)
      generalize eM16 : ux_wr M3 23 (v - 1) x15 = M16 at hP hI hF
      exact W.vret hx hb hr (fun t ht hW => ⟨⟨M16, rfl, ⟨hI, hF, ⟨(wr_off eM16 (by omega)).trans (wr_at eM3), Or.inl ⟨by omega, (wr_off eM16 (by omega)).trans ((wr_off eM3 (by omega)).trans (hv))⟩⟩⟩, by unfold ux_E; rw [ht]; exact hP⟩, hS.F ht⟩) hS.2.2 d_Md_apply_75
  · have g8 : ¬ ((M3 22 n).toInt = 110) := fun q => h8 (Int32.toInt_inj.mp q)
    refine lv_iload_n hx hb d_Md_apply_38 rfl (lv_at hl 1 rfl) ?_
    refine lv_bipush (v := 33) hx hb d_Md_apply_39 (by decide) ?_
    refine lv_icmp_ne hx hb d_Md_apply_41 rfl (fun h17 => ?_) (fun h17 => ?_)
    · have g17 : ¬ ((M3 22 n).toInt = 33) := fun q => h17 (Int32.toInt_inj.mp q)
      have hr7 := rk7 (M 22 n).toInt
      refine lv_aload_n hx hb d_Md_apply_76 rfl (lv_at hl 2 rfl) ?_
      refine lv_dup hx hb d_Md_apply_77 rfl ?_
      refine ux_get (C := R_Md) (T := F_Md) (N := 50) hx hb hT in_Md hown hK hP (by decide) rfl rfl 32 (by decide) (hT _ fl_Md_341) rfl d_Md_apply_78 ?_
      refine lv_topi (fun z18 hz18 => ?_)
      rw [show M3 0 32 = nI v from (wr_off eM3 (by omega)).trans (hv)] at hz18
      rw [hz18]
      refine lv_iconst (v := 1) hx hb d_Md_apply_81 (by decide) ?_
      refine lv_isub hx hb d_Md_apply_82 ?_
      refine lv_topi (fun z19 hz19 => ?_)
      rw [show (nI v) - (1 : Int32) = nI (v - 1) from (pk_sub (a := v) (b := 1) (by omega)).trans (congrArg nI (show v - 1 = v - 1 by omega))] at hz19
      rw [hz19]
      refine ux_put (C := R_Md) (T := F_Md) (N := 50) hx hb hT in_Md t_Md t_Md_ok n_Md hown hK hi hP hS (by decide) rfl rfl 32 (by decide) (hT _ fl_Md_341) rfl (rfl) (rfl) rfl d_Md_apply_83 (fun H locs hP hS => ?_)
      have hI := IvM_wr (k := 0) (j := 32) (v := nI (v - 1)) hI (show (0 : Int) ≤ (nI (v - 1) : Int32).toInt from (by rw [nI_toInt (n := v - 1) (by omega)]; omega)) (show (nI (v - 1) : Int32).toInt ≤ (210 : Int) from (by rw [nI_toInt (n := v - 1) (by omega)]; omega)) (by unfold okW; omega)
      have hF := fr_wr (k := 0) (j := 32) (v := nI (v - 1)) hF (by unfold mAp; omega)
      generalize eM20 : ux_wr M3 0 32 (nI (v - 1)) = M20 at hP hI hF
      have tM20 : (M20 0 32).toInt = ((v - 1 : Nat) : Int) := by rw [wr_at eM20]; exact nI_toInt (by omega)
      refine lv_aload_n hx hb d_Md_apply_86 rfl (lv_at hl 2 rfl) ?_
      refine ux_get (C := R_Md) (T := F_Md) (N := 50) hx hb hT in_Md hown hK hP (by decide) rfl rfl 30 (by decide) (hT _ fl_Md_82) rfl d_Md_apply_87 ?_
      refine lv_aload_n hx hb d_Md_apply_90 rfl (lv_at hl 2 rfl) ?_
      refine ux_get (C := R_Md) (T := F_Md) (N := 50) hx hb hT in_Md hown hK hP (by decide) rfl rfl 32 (by decide) (hT _ fl_Md_341) rfl d_Md_apply_91 ?_
      refine lv_topi (fun z21 hz21 => ?_)
      rw [show M20 0 32 = nI (v - 1) from wr_at eM20] at hz21
      rw [hz21]
      refine lv_iconst (v := 1) hx hb d_Md_apply_94 (by decide) ?_
      refine lv_isub hx hb d_Md_apply_95 ?_
      refine lv_topi (fun z22 hz22 => ?_)
      rw [show (nI (v - 1)) - (1 : Int32) = nI ((v - 1) - 1) from (pk_sub (a := v - 1) (b := 1) (by omega)).trans (congrArg nI (show (v - 1) - 1 = (v - 1) - 1 by omega))] at hz22
      rw [hz22]
      refine lv_aload_n hx hb d_Md_apply_96 rfl (lv_at hl 2 rfl) ?_
      refine lv_iload_n hx hb d_Md_apply_97 rfl (lv_at hl 1 rfl) ?_
      refine lv_aload_n hx hb d_Md_apply_98 rfl (lv_at hl 2 rfl) ?_
      refine ux_get (C := R_Md) (T := F_Md) (N := 50) hx hb hT in_Md hown hK hP (by decide) rfl rfl 30 (by decide) (hT _ fl_Md_82) rfl d_Md_apply_99 ?_
      refine lv_aload_n hx hb d_Md_apply_102 rfl (lv_at hl 2 rfl) ?_
      refine ux_get (C := R_Md) (T := F_Md) (N := 50) hx hb hT in_Md hown hK hP (by decide) rfl rfl 32 (by decide) (hT _ fl_Md_341) rfl d_Md_apply_103 ?_
      refine lv_topi (fun z23 hz23 => ?_)
      rw [show M20 0 32 = nI (v - 1) from wr_at eM20] at hz23
      rw [hz23]
      refine lv_iconst (v := 1) hx hb d_Md_apply_106 (by decide) ?_
      refine lv_isub hx hb d_Md_apply_107 ?_
      refine lv_topi (fun z24 hz24 => ?_)
      rw [show (nI (v - 1)) - (1 : Int32) = nI ((v - 1) - 1) from (pk_sub (a := v - 1) (b := 1) (by omega)).trans (congrArg nI (show (v - 1) - 1 = (v - 1) - 1 by omega))] at hz24
      rw [hz24]
      refine ux_iald hx hb hK hP (by decide) rfl (vp_in_nI (show (v - 1) - 1 < 210 by omega) (by decide)) d_Md_apply_108 ?_
      rw [nI_clamp (n := (v - 1) - 1) (by omega)]
      refine lv_iload_n hx hb d_Md_apply_109 rfl (lv_at hl 0 rfl) ?_
      refine ux_calli (va_runV ⟨hx, hb, hml, hown, hts⟩ (s_Md_joined l D ad cA A TB hA hB  M20 hI (M3 22 n) (M20 23 ((v - 1) - 1)) (M3 23 (v - 1))) (cwV 3 hts (tb_goodV ml_Md_344 im_Md_joined se_Md_joined ii_Md kt_Md_joined) rfl rfl rfl (by decide +kernel) ⟨Nat.le_of_ble_eq_true rfl, Nat.le_of_ble_eq_true rfl⟩) (ux_preV (by decide) rfl rfl hP hK hi hN) rfl rfl hl.1 rfl (lv_room (Nat.le_of_ble_eq_true rfl)) d_Md_apply_110 ⟨Nat.zero_le _, Nat.zero_le _⟩) hS (fun r25 M26 H locs q27 hP hS => ?_)
      obtain ⟨hI, fq27, q27p⟩ := q27
      have hF := fr_call hF fq27 (fun a b q => by unfold mZe at q; unfold mAp; omega)
      refine ux_iast hx hb hK hi hP hS (by decide) rfl (vp_in_nI (show (v - 1) - 1 < 210 by omega) (by decide)) d_Md_apply_113 (fun H locs hP hS => ?_)
      rw [nI_clamp (n := (v - 1) - 1) (by omega)] at hP
      have hI := IvM_free (k := 23) (j := (v - 1) - 1) (v := r25) hI rfl rfl (by unfold okW; omega)
      have hF := fr_wr (k := 23) (j := (v - 1) - 1) (v := r25) hF (by unfold mAp; omega)
      generalize eM28 : ux_wr M26 23 ((v - 1) - 1) r25 = M28 at hP hI hF
      exact W.vret hx hb hr (fun t ht hW => ⟨⟨M28, rfl, ⟨hI, hF, ⟨(wr_off eM28 (by omega)).trans ((fq27 _ _ (by unfold mZe; omega)).trans ((wr_off eM20 (by omega)).trans (wr_at eM3))), Or.inr ⟨by omega, (wr_off eM28 (by omega)).trans ((fq27 _ _ (by unfold mZe; omega)).trans (wr_at eM20))⟩⟩⟩, by unfold ux_E; rw [ht]; exact hP⟩, hS.F ht⟩) hS.2.2 d_Md_apply_114
    · have g17 : (M3 22 n).toInt = 33 := congrArg Int32.toInt h17
      have hr7 := rk7 (M 22 n).toInt
      refine lv_aload_n hx hb d_Md_apply_44 rfl (lv_at hl 2 rfl) ?_
      refine ux_get (C := R_Md) (T := F_Md) (N := 50) hx hb hT in_Md hown hK hP (by decide) rfl rfl 30 (by decide) (hT _ fl_Md_82) rfl d_Md_apply_45 ?_
      refine lv_aload_n hx hb d_Md_apply_48 rfl (lv_at hl 2 rfl) ?_
      refine ux_get (C := R_Md) (T := F_Md) (N := 50) hx hb hT in_Md hown hK hP (by decide) rfl rfl 32 (by decide) (hT _ fl_Md_341) rfl d_Md_apply_49 ?_
      refine lv_topi (fun z29 hz29 => ?_)
      rw [show M3 0 32 = nI v from (wr_off eM3 (by omega)).trans (hv)] at hz29
      rw [hz29]
      refine lv_iconst (v := 1) hx hb d_Md_apply_52 (by decide) ?_
      refine lv_isub hx hb d_Md_apply_53 ?_
      refine lv_topi (fun z30 hz30 => ?_)
      rw [show (nI v) - (1 : Int32) = nI (v - 1) from (pk_sub (a := v) (b := 1) (by omega)).trans (congrArg nI (show v - 1 = v - 1 by omega))] at hz30
      rw [hz30]
      refine lv_iload_n hx hb d_Md_apply_54 rfl (lv_at hl 1 rfl) ?_
      refine lv_bipush (v := 110) hx hb d_Md_apply_55 (by decide) ?_
      refine lv_icmp_ne hx hb d_Md_apply_57 rfl (fun h31 => ?_) (fun h31 => ?_)
      · have g31 : ¬ ((M3 22 n).toInt = 110) := fun q => h31 (Int32.toInt_inj.mp q)
        refine lv_iload_n hx hb d_Md_apply_65 rfl (lv_at hl 0 rfl) ?_
        refine lv_if_ne hx hb d_Md_apply_66 rfl (fun h32 => ?_) (fun h32 => ?_)
        · have g32 : ¬ ((M3 23 (v - 1)).toInt = 0) := fun q => h32 (Int32.toInt_inj.mp q)
          refine lv_iconst (v := 0) hx hb d_Md_apply_73 (by decide) ?_
          refine ux_iast hx hb hK hi hP hS (by decide) rfl (vp_in_nI (show v - 1 < 210 by omega) (by decide)) d_Md_apply_74 (fun H locs hP hS => ?_)
          rw [nI_clamp (n := v - 1) (by omega)] at hP
          have hI := IvM_free (k := 23) (j := v - 1) (v := 0) hI rfl rfl (by unfold okW; omega)
          have hF := fr_wr (k := 23) (j := v - 1) (v := 0) hF (by unfold mAp; omega)
          generalize eM33 : ux_wr M3 23 (v - 1) 0 = M33 at hP hI hF
          exact W.vret hx hb hr (fun t ht hW => ⟨⟨M33, rfl, ⟨hI, hF, ⟨(wr_off eM33 (by omega)).trans (wr_at eM3), Or.inl ⟨by omega, (wr_off eM33 (by omega)).trans ((wr_off eM3 (by omega)).trans (hv))⟩⟩⟩, by unfold ux_E; rw [ht]; exact hP⟩, hS.F ht⟩) hS.2.2 d_Md_apply_75
        · have g32 : (M3 23 (v - 1)).toInt = 0 := congrArg Int32.toInt h32
          refine lv_iconst (v := 1) hx hb d_Md_apply_69 (by decide) ?_
          refine lv_goto hx hb d_Md_apply_70 rfl ?_
          refine ux_iast hx hb hK hi hP hS (by decide) rfl (vp_in_nI (show v - 1 < 210 by omega) (by decide)) d_Md_apply_74 (fun H locs hP hS => ?_)
          rw [nI_clamp (n := v - 1) (by omega)] at hP
          have hI := IvM_free (k := 23) (j := v - 1) (v := 1) hI rfl rfl (by unfold okW; omega)
          have hF := fr_wr (k := 23) (j := v - 1) (v := 1) hF (by unfold mAp; omega)
          generalize eM34 : ux_wr M3 23 (v - 1) 1 = M34 at hP hI hF
          exact W.vret hx hb hr (fun t ht hW => ⟨⟨M34, rfl, ⟨hI, hF, ⟨(wr_off eM34 (by omega)).trans (wr_at eM3), Or.inl ⟨by omega, (wr_off eM34 (by omega)).trans ((wr_off eM3 (by omega)).trans (hv))⟩⟩⟩, by unfold ux_E; rw [ht]; exact hP⟩, hS.F ht⟩) hS.2.2 d_Md_apply_75
      · have g31 : (M3 22 n).toInt = 110 := congrArg Int32.toInt h31
        refine lv_iload_n hx hb d_Md_apply_60 rfl (lv_at hl 0 rfl) ?_
        refine lv_ineg hx hb d_Md_apply_61 ?_
        refine lv_topi (fun x35 ex35 => ?_)
        try have fx35 : x35.toInt = - (M3 23 (v - 1)).toInt := by rw [ex35]; exact ti_neg (by omega)
        refine lv_goto hx hb d_Md_apply_62 rfl ?_
        refine ux_iast hx hb hK hi hP hS (by decide) rfl (vp_in_nI (show v - 1 < 210 by omega) (by decide)) d_Md_apply_74 (fun H locs hP hS => ?_)
        rw [nI_clamp (n := v - 1) (by omega)] at hP
        have hI := IvM_free (k := 23) (j := v - 1) (v := x35) hI rfl rfl (by unfold okW; omega)
        have hF := fr_wr (k := 23) (j := v - 1) (v := x35) hF (by unfold mAp; omega)
        generalize eM36 : ux_wr M3 23 (v - 1) x35 = M36 at hP hI hF
        exact W.vret hx hb hr (fun t ht hW => ⟨⟨M36, rfl, ⟨hI, hF, ⟨(wr_off eM36 (by omega)).trans (wr_at eM3), Or.inl ⟨by omega, (wr_off eM36 (by omega)).trans ((wr_off eM3 (by omega)).trans (hv))⟩⟩⟩, by unfold ux_E; rw [ht]; exact hP⟩, hS.F ht⟩) hS.2.2 d_Md_apply_75
