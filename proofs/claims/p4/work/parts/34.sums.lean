/-! Sums, safe: written by wip/gen/cls.py -/
def c40 (f : Nat → Int32) : Nat → Nat
  | 0 => 0
  | n + 1 => c40 f n + (if f n = 40 then 1 else 0)
theorem c40_le (f : Nat → Int32) : ∀ n, c40 f n ≤ n := by
  intro n
  induction n with
  | zero => exact Nat.le_refl 0
  | succ n ih => simp only [c40]; split <;> omega
theorem c40_cong {f g : Nat → Int32} : ∀ n, (∀ j, j < n → f j = g j) → c40 f n = c40 g n := by
  intro n
  induction n with
  | zero => intro _; rfl
  | succ n ih => intro h; simp only [c40]; rw [ih (fun j hj => h j (by omega)), h n (by omega)]
theorem c40_p {f : Nat → Int32} {x z y : Int32} (h1 : 1 ≤ x.toInt) (hz : z.toInt = x.toInt - 1) (hy : y.toInt = x.toInt - 1) (h : ¬ (f z.toNatClampNeg).toInt = 40) : c40 f y.toNatClampNeg = c40 f x.toNatClampNeg := by
  have e1 := ti_clamp (x := x) (by omega)
  have e2 := ti_clamp (x := y) (by omega)
  have e3 := ti_clamp (x := z) (by omega)
  have ex : x.toNatClampNeg = y.toNatClampNeg + 1 := by omega
  have ez : z.toNatClampNeg = y.toNatClampNeg := by omega
  rw [ex]
  simp only [c40]
  rw [← ez, if_neg (fun q => h (by rw [q]; rfl))]
  omega
theorem c40_1 {f : Nat → Int32} {x y : Int32} (h1 : 1 ≤ x.toInt) (hy : y.toInt = x.toInt - 1) : c40 f x.toNatClampNeg ≤ c40 f y.toNatClampNeg + 1 := by
  have e1 := ti_clamp (x := x) (by omega)
  have e2 := ti_clamp (x := y) (by omega)
  have ex : x.toNatClampNeg = y.toNatClampNeg + 1 := by omega
  rw [ex]
  simp only [c40]
  split <;> omega
theorem c40_x {f : Nat → Int32} {x : Int32} (h : 0 ≤ x.toInt) : (c40 f x.toNatClampNeg : Int) ≤ x.toInt := by
  have e := ti_clamp h
  have := c40_le f x.toNatClampNeg
  omega
def SmI (M : ux_M) : Prop := (M 50 6).toInt ≤ (c40 (M 52) (M 50 5).toNatClampNeg : Int)
theorem SmI_of {M M' : ux_M} {a b : Int32} (h6 : M' 50 6 = a) (h5 : M' 50 5 = b) (hr : ∀ j, M' 52 j = M 52 j) (h : a.toInt ≤ (c40 (M 52) b.toNatClampNeg : Int)) : SmI M' := by
  unfold SmI
  rw [h6, h5, c40_cong (f := M' 52) (g := M 52) _ (fun j _ => hr j)]
  exact h
theorem c40_push {M M1 M2 : ux_M} {x y ch : Int32} (e1 : ux_wr M 52 x.toNatClampNeg (vp_nar .char ch) = M1) (hr : ∀ j, M2 52 j = M1 52 j) (hx : 0 ≤ x.toInt) (hy : y.toInt = x.toInt + 1) : c40 (M 52) x.toNatClampNeg ≤ c40 (M2 52) y.toNatClampNeg ∧ (ch.toInt = 40 → c40 (M 52) x.toNatClampNeg + 1 ≤ c40 (M2 52) y.toNatClampNeg) := by
  have a1 := ti_clamp hx
  have a2 := ti_clamp (x := y) (by omega)
  have ey : y.toNatClampNeg = x.toNatClampNeg + 1 := by omega
  rw [ey]
  simp only [c40]
  have e : c40 (M2 52) x.toNatClampNeg = c40 (M 52) x.toNatClampNeg := c40_cong _ (fun j hj => (hr j).trans (wr_off e1 (by omega)))
  rw [e, hr, wr_at e1]
  refine ⟨by omega, fun h => ?_⟩
  have hc : ch = 40 := Int32.toInt_inj.mp h
  subst hc
  rw [if_pos (show vp_nar .char 40 = 40 from rfl)]
  omega
def tSo (a b : Nat) : Prop := (a = 50 ∧ (b = 4 ∨ b = 10)) ∨ a = 51
def tSp (a b : Nat) : Prop := (a = 50 ∧ b = 5) ∨ a = 52
def tSj (a b : Nat) : Prop := a = 50 ∧ b = 12
def tSa (a b : Nat) : Prop := (a = 50 ∧ (b = 4 ∨ b = 5 ∨ b = 12)) ∨ a = 51
def tSn (a b : Nat) : Prop := (a = 50 ∧ (b = 4 ∨ b = 7 ∨ b = 10 ∨ b = 11)) ∨ a = 51
def tSb (a _b : Nat) : Prop := a = 50
def tSm (a _b : Nat) : Prop := a = 50 ∨ a = 51 ∨ a = 52
def isv (ch : Int32) : Int32 := if ch < 97 then 0 else if 122 < ch then 0 else 1
theorem isv_b (ch : Int32) : isv ch = 0 ∨ isv ch = 1 := by
  unfold isv
  by_cases h1 : ch < 97
  · rw [if_pos h1]; exact Or.inl rfl
  · by_cases h2 : 122 < ch
    · rw [if_neg h1, if_pos h2]; exact Or.inl rfl
    · rw [if_neg h1, if_neg h2]; exact Or.inr rfl
theorem isv_1 {ch : Int32} (h : ¬ (isv ch).toInt = 0) : 97 ≤ ch.toInt := by
  unfold isv at h
  by_cases h1 : ch < 97
  · rw [if_pos h1] at h; exact absurd rfl h
  · rw [Int32.lt_iff_toInt_lt] at h1
    have : (97 : Int32).toInt = 97 := rfl
    omega
def isp (ch : Int32) : Int32 := if ch < 65 then 0 else if 90 < ch then 0 else 1
theorem isp_b (ch : Int32) : isp ch = 0 ∨ isp ch = 1 := by
  unfold isp
  by_cases h1 : ch < 65
  · rw [if_pos h1]; exact Or.inl rfl
  · by_cases h2 : 90 < ch
    · rw [if_neg h1, if_pos h2]; exact Or.inl rfl
    · rw [if_neg h1, if_neg h2]; exact Or.inr rfl

set_option maxHeartbeats 8000000 in
set_option maxRecDepth 100000 in
theorem s_PS_isVariable (l : Launch) (D : va_G) (ad : Nat → Nat) (cA : Nat → ClassId) (M : ux_M) (hI : IvX M) (ch : Int32) : Met l y_PS_isVariable w_PS_isVariable ({ frames := 0, cells := 0, slots := 0, locals := 0 }) (va_Pc [.int ch] (ux_B D shX KX ad cA M)) (va_Qi (fun r M1 => IvX M1 ∧ (∀ a b, ¬ tN a b → M1 a b = M a b) ∧ (r = isv ch)) (ux_E D shX KX ad cA) (ux_A KX ad)) 0 0 (ux_A KX ad) := by
  refine Met.ofW (cc := b_PS_isVariable) (maxL := 1) (ret := (some .boolean)) (by decide) rfl ?_
  intro p e s m args below meth c s₁ B hml hv
  obtain ⟨rfl, hP, hK, hi, hN⟩ := hv
  have hx := B.exec
  have hb := B.bytes
  have hr := B.returns
  have hts := atoms_spec (ws := w_PS_isVariable) B.pre
  have hown : s.vm.findClass R_PS = some m.cls := findClass_of_methodNamed B.named
  have hlocks := B.notSynchronized
  have hT : ∀ w ∈ tb, w.before _ s = true := fun w h => hts w (List.mem_cons_of_mem _ h)
  have hS : va_S (ux_A KX ad) s.heap s.heap [] := va_S.rf
  have hl := lv_entry ([.int ch]) (n := 1) (Nat.le_of_ble_eq_true rfl)
  rw [lg_entry_eq]
  generalize (lg_sl ([.int ch]) ++ List.replicate (1 - (lg_sl ([.int ch])).length) Slot.unset).toArray = ls at hl ⊢
  have hl : lv_has ls 1 [(0, .int ch)] := hl
  have hF : ∀ a b, ¬ tN a b → M a b = M a b := fun _ _ _ => rfl
  refine lv_iload_n hx hb d_PS_isVariable_0 rfl (lv_at hl 0 rfl) ?_
  refine lv_bipush (v := 97) hx hb d_PS_isVariable_1 (by decide) ?_
  refine lv_icmp_lt hx hb d_PS_isVariable_3 rfl (fun h1 => ?_) (fun h1 => ?_)
  · have g1 : ch.toInt < 97 := Int32.lt_iff_toInt_lt.mp h1
    have w1 := ti_lo ch
    refine lv_iconst (v := 0) hx hb d_PS_isVariable_16 (by decide) ?_
    exact W.zret (v := 0) hx hb hr (rfl) (fun t ht hW => ⟨⟨0, M, rfl, ⟨hI, hF, (by unfold isv; first | rw [if_pos (by assumption)] | rw [if_neg (by assumption), if_pos (by assumption)] | rw [if_neg (by assumption), if_neg (by assumption)])⟩, by unfold ux_E; rw [ht]; exact hP⟩, hS.F ht⟩) hS.2.2 d_PS_isVariable_17
  · have g1 : ¬ (ch.toInt < 97) := fun q => h1 (Int32.lt_iff_toInt_lt.mpr q)
    have u1 := ti_hi ch
    refine lv_iload_n hx hb d_PS_isVariable_6 rfl (lv_at hl 0 rfl) ?_
    refine lv_bipush (v := 122) hx hb d_PS_isVariable_7 (by decide) ?_
    refine lv_icmp_gt hx hb d_PS_isVariable_9 rfl (fun h2 => ?_) (fun h2 => ?_)
    · have g2 : 122 < ch.toInt := Int32.lt_iff_toInt_lt.mp h2
      have u2 := ti_hi ch
      refine lv_iconst (v := 0) hx hb d_PS_isVariable_16 (by decide) ?_
      exact W.zret (v := 0) hx hb hr (rfl) (fun t ht hW => ⟨⟨0, M, rfl, ⟨hI, hF, (by unfold isv; first | rw [if_pos (by assumption)] | rw [if_neg (by assumption), if_pos (by assumption)] | rw [if_neg (by assumption), if_neg (by assumption)])⟩, by unfold ux_E; rw [ht]; exact hP⟩, hS.F ht⟩) hS.2.2 d_PS_isVariable_17
    · have g2 : ¬ (122 < ch.toInt) := fun q => h2 (Int32.lt_iff_toInt_lt.mpr q)
      have w2 := ti_lo ch
      refine lv_iconst (v := 1) hx hb d_PS_isVariable_12 (by decide) ?_
      refine lv_goto hx hb d_PS_isVariable_13 rfl ?_
      exact W.zret (v := 1) hx hb hr (rfl) (fun t ht hW => ⟨⟨1, M, rfl, ⟨hI, hF, (by unfold isv; first | rw [if_pos (by assumption)] | rw [if_neg (by assumption), if_pos (by assumption)] | rw [if_neg (by assumption), if_neg (by assumption)])⟩, by unfold ux_E; rw [ht]; exact hP⟩, hS.F ht⟩) hS.2.2 d_PS_isVariable_17

set_option maxHeartbeats 8000000 in
set_option maxRecDepth 100000 in
theorem s_PS_isProcedure (l : Launch) (D : va_G) (ad : Nat → Nat) (cA : Nat → ClassId) (M : ux_M) (hI : IvX M) (ch : Int32) : Met l y_PS_isProcedure w_PS_isProcedure ({ frames := 0, cells := 0, slots := 0, locals := 0 }) (va_Pc [.int ch] (ux_B D shX KX ad cA M)) (va_Qi (fun r M1 => IvX M1 ∧ (∀ a b, ¬ tN a b → M1 a b = M a b) ∧ (r = isp ch)) (ux_E D shX KX ad cA) (ux_A KX ad)) 0 0 (ux_A KX ad) := by
  refine Met.ofW (cc := b_PS_isProcedure) (maxL := 1) (ret := (some .boolean)) (by decide) rfl ?_
  intro p e s m args below meth c s₁ B hml hv
  obtain ⟨rfl, hP, hK, hi, hN⟩ := hv
  have hx := B.exec
  have hb := B.bytes
  have hr := B.returns
  have hts := atoms_spec (ws := w_PS_isProcedure) B.pre
  have hown : s.vm.findClass R_PS = some m.cls := findClass_of_methodNamed B.named
  have hlocks := B.notSynchronized
  have hT : ∀ w ∈ tb, w.before _ s = true := fun w h => hts w (List.mem_cons_of_mem _ h)
  have hS : va_S (ux_A KX ad) s.heap s.heap [] := va_S.rf
  have hl := lv_entry ([.int ch]) (n := 1) (Nat.le_of_ble_eq_true rfl)
  rw [lg_entry_eq]
  generalize (lg_sl ([.int ch]) ++ List.replicate (1 - (lg_sl ([.int ch])).length) Slot.unset).toArray = ls at hl ⊢
  have hl : lv_has ls 1 [(0, .int ch)] := hl
  have hF : ∀ a b, ¬ tN a b → M a b = M a b := fun _ _ _ => rfl
  refine lv_iload_n hx hb d_PS_isProcedure_0 rfl (lv_at hl 0 rfl) ?_
  refine lv_bipush (v := 65) hx hb d_PS_isProcedure_1 (by decide) ?_
  refine lv_icmp_lt hx hb d_PS_isProcedure_3 rfl (fun h1 => ?_) (fun h1 => ?_)
  · have g1 : ch.toInt < 65 := Int32.lt_iff_toInt_lt.mp h1
    have w1 := ti_lo ch
    refine lv_iconst (v := 0) hx hb d_PS_isProcedure_16 (by decide) ?_
    exact W.zret (v := 0) hx hb hr (rfl) (fun t ht hW => ⟨⟨0, M, rfl, ⟨hI, hF, (by unfold isp; first | rw [if_pos (by assumption)] | rw [if_neg (by assumption), if_pos (by assumption)] | rw [if_neg (by assumption), if_neg (by assumption)])⟩, by unfold ux_E; rw [ht]; exact hP⟩, hS.F ht⟩) hS.2.2 d_PS_isProcedure_17
  · have g1 : ¬ (ch.toInt < 65) := fun q => h1 (Int32.lt_iff_toInt_lt.mpr q)
    have u1 := ti_hi ch
    refine lv_iload_n hx hb d_PS_isProcedure_6 rfl (lv_at hl 0 rfl) ?_
    refine lv_bipush (v := 90) hx hb d_PS_isProcedure_7 (by decide) ?_
    refine lv_icmp_gt hx hb d_PS_isProcedure_9 rfl (fun h2 => ?_) (fun h2 => ?_)
    · have g2 : 90 < ch.toInt := Int32.lt_iff_toInt_lt.mp h2
      have u2 := ti_hi ch
      refine lv_iconst (v := 0) hx hb d_PS_isProcedure_16 (by decide) ?_
      exact W.zret (v := 0) hx hb hr (rfl) (fun t ht hW => ⟨⟨0, M, rfl, ⟨hI, hF, (by unfold isp; first | rw [if_pos (by assumption)] | rw [if_neg (by assumption), if_pos (by assumption)] | rw [if_neg (by assumption), if_neg (by assumption)])⟩, by unfold ux_E; rw [ht]; exact hP⟩, hS.F ht⟩) hS.2.2 d_PS_isProcedure_17
    · have g2 : ¬ (90 < ch.toInt) := fun q => h2 (Int32.lt_iff_toInt_lt.mpr q)
      have w2 := ti_lo ch
      refine lv_iconst (v := 1) hx hb d_PS_isProcedure_12 (by decide) ?_
      refine lv_goto hx hb d_PS_isProcedure_13 rfl ?_
      exact W.zret (v := 1) hx hb hr (rfl) (fun t ht hW => ⟨⟨1, M, rfl, ⟨hI, hF, (by unfold isp; first | rw [if_pos (by assumption)] | rw [if_neg (by assumption), if_pos (by assumption)] | rw [if_neg (by assumption), if_neg (by assumption)])⟩, by unfold ux_E; rw [ht]; exact hP⟩, hS.F ht⟩) hS.2.2 d_PS_isProcedure_17

set_option maxHeartbeats 8000000 in
set_option maxRecDepth 100000 in
theorem s_Sm_rankOf (l : Launch) (D : va_G) (ad : Nat → Nat) (cA : Nat → ClassId) (M : ux_M) (hI : IvX M) (ch : Int32) : Met l y_Sm_rankOf w_Sm_rankOf ({ frames := 0, cells := 0, slots := 0, locals := 0 }) (va_Pc [.int ch] (ux_B D shX KX ad cA M)) (va_Qi (fun r M1 => IvX M1 ∧ (∀ a b, ¬ tN a b → M1 a b = M a b) ∧ (ch.toInt = 40 → r.toInt = 0)) (ux_E D shX KX ad cA) (ux_A KX ad)) 0 0 (ux_A KX ad) := by
  refine Met.ofW (cc := b_Sm_rankOf) (maxL := 1) (ret := (some .int)) (by decide) rfl ?_
  intro p e s m args below meth c s₁ B hml hv
  obtain ⟨rfl, hP, hK, hi, hN⟩ := hv
  have hx := B.exec
  have hb := B.bytes
  have hr := B.returns
  have hts := atoms_spec (ws := w_Sm_rankOf) B.pre
  have hown : s.vm.findClass R_Sm = some m.cls := findClass_of_methodNamed B.named
  have hlocks := B.notSynchronized
  have hT : ∀ w ∈ tb, w.before _ s = true := fun w h => hts w (List.mem_cons_of_mem _ h)
  have hS : va_S (ux_A KX ad) s.heap s.heap [] := va_S.rf
  have hl := lv_entry ([.int ch]) (n := 1) (Nat.le_of_ble_eq_true rfl)
  rw [lg_entry_eq]
  generalize (lg_sl ([.int ch]) ++ List.replicate (1 - (lg_sl ([.int ch])).length) Slot.unset).toArray = ls at hl ⊢
  have hl : lv_has ls 1 [(0, .int ch)] := hl
  have hF : ∀ a b, ¬ tN a b → M a b = M a b := fun _ _ _ => rfl
  refine lv_iload_n hx hb d_Sm_rankOf_0 rfl (lv_at hl 0 rfl) ?_
  by_cases h1 : ch = 33
  · have g1 : ch.toInt = 33 := congrArg Int32.toInt h1
    refine lv_lookup (off := 107) (tgt := 108) hx hb d_Sm_rankOf_1 (by decide) (by rw [g1]; rfl) (by decide) ?_
    refine lv_bipush (v := 6) hx hb d_Sm_rankOf_108 (by decide) ?_
    exact W.iret (v := 6) hx hb hr (fun t ht hW => ⟨⟨6, M, rfl, ⟨hI, hF, (by (try rw [show (6 : Int32).toInt = 6 from rfl]); first | omega | assumption)⟩, by unfold ux_E; rw [ht]; exact hP⟩, hS.F ht⟩) hS.2.2 d_Sm_rankOf_110
  have g1 : ¬ ch.toInt = 33 := fun q => h1 (Int32.toInt_inj.mp q)
  by_cases h2 : ch = 37
  · have g2 : ch.toInt = 37 := congrArg Int32.toInt h2
    refine lv_lookup (off := 110) (tgt := 111) hx hb d_Sm_rankOf_1 (by decide) (by rw [g2]; rfl) (by decide) ?_
    refine lv_iconst (v := 5) hx hb d_Sm_rankOf_111 (by decide) ?_
    exact W.iret (v := 5) hx hb hr (fun t ht hW => ⟨⟨5, M, rfl, ⟨hI, hF, (by (try rw [show (5 : Int32).toInt = 5 from rfl]); first | omega | assumption)⟩, by unfold ux_E; rw [ht]; exact hP⟩, hS.F ht⟩) hS.2.2 d_Sm_rankOf_112
  have g2 : ¬ ch.toInt = 37 := fun q => h2 (Int32.toInt_inj.mp q)
  by_cases h3 : ch = 38
  · have g3 : ch.toInt = 38 := congrArg Int32.toInt h3
    refine lv_lookup (off := 116) (tgt := 117) hx hb d_Sm_rankOf_1 (by decide) (by rw [g3]; rfl) (by decide) ?_
    refine lv_iconst (v := 2) hx hb d_Sm_rankOf_117 (by decide) ?_
    exact W.iret (v := 2) hx hb hr (fun t ht hW => ⟨⟨2, M, rfl, ⟨hI, hF, (by (try rw [show (2 : Int32).toInt = 2 from rfl]); first | omega | assumption)⟩, by unfold ux_E; rw [ht]; exact hP⟩, hS.F ht⟩) hS.2.2 d_Sm_rankOf_118
  have g3 : ¬ ch.toInt = 38 := fun q => h3 (Int32.toInt_inj.mp q)
  by_cases h4 : ch = 42
  · have g4 : ch.toInt = 42 := congrArg Int32.toInt h4
    refine lv_lookup (off := 110) (tgt := 111) hx hb d_Sm_rankOf_1 (by decide) (by rw [g4]; rfl) (by decide) ?_
    refine lv_iconst (v := 5) hx hb d_Sm_rankOf_111 (by decide) ?_
    exact W.iret (v := 5) hx hb hr (fun t ht hW => ⟨⟨5, M, rfl, ⟨hI, hF, (by (try rw [show (5 : Int32).toInt = 5 from rfl]); first | omega | assumption)⟩, by unfold ux_E; rw [ht]; exact hP⟩, hS.F ht⟩) hS.2.2 d_Sm_rankOf_112
  have g4 : ¬ ch.toInt = 42 := fun q => h4 (Int32.toInt_inj.mp q)
  by_cases h5 : ch = 43
  · have g5 : ch.toInt = 43 := congrArg Int32.toInt h5
    refine lv_lookup (off := 112) (tgt := 113) hx hb d_Sm_rankOf_1 (by decide) (by rw [g5]; rfl) (by decide) ?_
    refine lv_iconst (v := 4) hx hb d_Sm_rankOf_113 (by decide) ?_
    exact W.iret (v := 4) hx hb hr (fun t ht hW => ⟨⟨4, M, rfl, ⟨hI, hF, (by (try rw [show (4 : Int32).toInt = 4 from rfl]); first | omega | assumption)⟩, by unfold ux_E; rw [ht]; exact hP⟩, hS.F ht⟩) hS.2.2 d_Sm_rankOf_114
  have g5 : ¬ ch.toInt = 43 := fun q => h5 (Int32.toInt_inj.mp q)
  by_cases h6 : ch = 45
  · have g6 : ch.toInt = 45 := congrArg Int32.toInt h6
    refine lv_lookup (off := 112) (tgt := 113) hx hb d_Sm_rankOf_1 (by decide) (by rw [g6]; rfl) (by decide) ?_
    refine lv_iconst (v := 4) hx hb d_Sm_rankOf_113 (by decide) ?_
    exact W.iret (v := 4) hx hb hr (fun t ht hW => ⟨⟨4, M, rfl, ⟨hI, hF, (by (try rw [show (4 : Int32).toInt = 4 from rfl]); first | omega | assumption)⟩, by unfold ux_E; rw [ht]; exact hP⟩, hS.F ht⟩) hS.2.2 d_Sm_rankOf_114
  have g6 : ¬ ch.toInt = 45 := fun q => h6 (Int32.toInt_inj.mp q)
  by_cases h7 : ch = 47
  · have g7 : ch.toInt = 47 := congrArg Int32.toInt h7
    refine lv_lookup (off := 110) (tgt := 111) hx hb d_Sm_rankOf_1 (by decide) (by rw [g7]; rfl) (by decide) ?_
    refine lv_iconst (v := 5) hx hb d_Sm_rankOf_111 (by decide) ?_
    exact W.iret (v := 5) hx hb hr (fun t ht hW => ⟨⟨5, M, rfl, ⟨hI, hF, (by (try rw [show (5 : Int32).toInt = 5 from rfl]); first | omega | assumption)⟩, by unfold ux_E; rw [ht]; exact hP⟩, hS.F ht⟩) hS.2.2 d_Sm_rankOf_112
  have g7 : ¬ ch.toInt = 47 := fun q => h7 (Int32.toInt_inj.mp q)
  by_cases h8 : ch = 60
  · have g8 : ch.toInt = 60 := congrArg Int32.toInt h8
    refine lv_lookup (off := 114) (tgt := 115) hx hb d_Sm_rankOf_1 (by decide) (by rw [g8]; rfl) (by decide) ?_
    refine lv_iconst (v := 3) hx hb d_Sm_rankOf_115 (by decide) ?_
    exact W.iret (v := 3) hx hb hr (fun t ht hW => ⟨⟨3, M, rfl, ⟨hI, hF, (by (try rw [show (3 : Int32).toInt = 3 from rfl]); first | omega | assumption)⟩, by unfold ux_E; rw [ht]; exact hP⟩, hS.F ht⟩) hS.2.2 d_Sm_rankOf_116
  have g8 : ¬ ch.toInt = 60 := fun q => h8 (Int32.toInt_inj.mp q)
  by_cases h9 : ch = 61
  · have g9 : ch.toInt = 61 := congrArg Int32.toInt h9
    refine lv_lookup (off := 114) (tgt := 115) hx hb d_Sm_rankOf_1 (by decide) (by rw [g9]; rfl) (by decide) ?_
    refine lv_iconst (v := 3) hx hb d_Sm_rankOf_115 (by decide) ?_
    exact W.iret (v := 3) hx hb hr (fun t ht hW => ⟨⟨3, M, rfl, ⟨hI, hF, (by (try rw [show (3 : Int32).toInt = 3 from rfl]); first | omega | assumption)⟩, by unfold ux_E; rw [ht]; exact hP⟩, hS.F ht⟩) hS.2.2 d_Sm_rankOf_116
  have g9 : ¬ ch.toInt = 61 := fun q => h9 (Int32.toInt_inj.mp q)
  by_cases h10 : ch = 62
  · have g10 : ch.toInt = 62 := congrArg Int32.toInt h10
    refine lv_lookup (off := 114) (tgt := 115) hx hb d_Sm_rankOf_1 (by decide) (by rw [g10]; rfl) (by decide) ?_
    refine lv_iconst (v := 3) hx hb d_Sm_rankOf_115 (by decide) ?_
    exact W.iret (v := 3) hx hb hr (fun t ht hW => ⟨⟨3, M, rfl, ⟨hI, hF, (by (try rw [show (3 : Int32).toInt = 3 from rfl]); first | omega | assumption)⟩, by unfold ux_E; rw [ht]; exact hP⟩, hS.F ht⟩) hS.2.2 d_Sm_rankOf_116
  have g10 : ¬ ch.toInt = 62 := fun q => h10 (Int32.toInt_inj.mp q)
  by_cases h11 : ch = 124
  · have g11 : ch.toInt = 124 := congrArg Int32.toInt h11
    refine lv_lookup (off := 118) (tgt := 119) hx hb d_Sm_rankOf_1 (by decide) (by rw [g11]; rfl) (by decide) ?_
    refine lv_iconst (v := 1) hx hb d_Sm_rankOf_119 (by decide) ?_
    exact W.iret (v := 1) hx hb hr (fun t ht hW => ⟨⟨1, M, rfl, ⟨hI, hF, (by (try rw [show (1 : Int32).toInt = 1 from rfl]); first | omega | assumption)⟩, by unfold ux_E; rw [ht]; exact hP⟩, hS.F ht⟩) hS.2.2 d_Sm_rankOf_120
  have g11 : ¬ ch.toInt = 124 := fun q => h11 (Int32.toInt_inj.mp q)
  by_cases h12 : ch = 126
  · have g12 : ch.toInt = 126 := congrArg Int32.toInt h12
    refine lv_lookup (off := 107) (tgt := 108) hx hb d_Sm_rankOf_1 (by decide) (by rw [g12]; rfl) (by decide) ?_
    refine lv_bipush (v := 6) hx hb d_Sm_rankOf_108 (by decide) ?_
    exact W.iret (v := 6) hx hb hr (fun t ht hW => ⟨⟨6, M, rfl, ⟨hI, hF, (by (try rw [show (6 : Int32).toInt = 6 from rfl]); first | omega | assumption)⟩, by unfold ux_E; rw [ht]; exact hP⟩, hS.F ht⟩) hS.2.2 d_Sm_rankOf_110
  have g12 : ¬ ch.toInt = 126 := fun q => h12 (Int32.toInt_inj.mp q)
  refine lv_lookup (off := 120) (tgt := 121) hx hb d_Sm_rankOf_1 (by decide) (by show Op.lookupswitch.offset [(33, 107), (37, 110), (38, 116), (42, 110), (43, 112), (45, 112), (47, 110), (60, 114), (61, 114), (62, 114), (124, 118), (126, 107)] 120 ch.toInt = 120; rw [Op.lookupswitch.offset_cons, if_neg (show ¬ (33 : Int) = ch.toInt by omega), Op.lookupswitch.offset_cons, if_neg (show ¬ (37 : Int) = ch.toInt by omega), Op.lookupswitch.offset_cons, if_neg (show ¬ (38 : Int) = ch.toInt by omega), Op.lookupswitch.offset_cons, if_neg (show ¬ (42 : Int) = ch.toInt by omega), Op.lookupswitch.offset_cons, if_neg (show ¬ (43 : Int) = ch.toInt by omega), Op.lookupswitch.offset_cons, if_neg (show ¬ (45 : Int) = ch.toInt by omega), Op.lookupswitch.offset_cons, if_neg (show ¬ (47 : Int) = ch.toInt by omega), Op.lookupswitch.offset_cons, if_neg (show ¬ (60 : Int) = ch.toInt by omega), Op.lookupswitch.offset_cons, if_neg (show ¬ (61 : Int) = ch.toInt by omega), Op.lookupswitch.offset_cons, if_neg (show ¬ (62 : Int) = ch.toInt by omega), Op.lookupswitch.offset_cons, if_neg (show ¬ (124 : Int) = ch.toInt by omega), Op.lookupswitch.offset_cons, if_neg (show ¬ (126 : Int) = ch.toInt by omega)]; rfl) (by decide) ?_
  refine lv_iconst (v := 0) hx hb d_Sm_rankOf_121 (by decide) ?_
  exact W.iret (v := 0) hx hb hr (fun t ht hW => ⟨⟨0, M, rfl, ⟨hI, hF, (by (try rw [show (0 : Int32).toInt = 0 from rfl]); first | omega | assumption)⟩, by unfold ux_E; rw [ht]; exact hP⟩, hS.F ht⟩) hS.2.2 d_Sm_rankOf_122

set_option maxHeartbeats 8000000 in
set_option maxRecDepth 100000 in
theorem s_Sm_changed (l : Launch) (D : va_G) (ad : Nat → Nat) (cA : Nat → ClassId) (M : ux_M) (hI : IvX M) (ch x : Int32) : Met l y_Sm_changed w_Sm_changed ({ frames := 0, cells := 0, slots := 0, locals := 0 }) (va_Pc [.int ch, .int x] (ux_B D shX KX ad cA M)) (va_Qi (fun r M1 => IvX M1 ∧ (∀ a b, ¬ tN a b → M1 a b = M a b) ∧ (True)) (ux_E D shX KX ad cA) (ux_A KX ad)) 0 0 (ux_A KX ad) := by
  refine Met.ofW (cc := b_Sm_changed) (maxL := 2) (ret := (some .int)) (by decide) rfl ?_
  intro p e s m args below meth c s₁ B hml hv
  obtain ⟨rfl, hP, hK, hi, hN⟩ := hv
  have hx := B.exec
  have hb := B.bytes
  have hr := B.returns
  have hts := atoms_spec (ws := w_Sm_changed) B.pre
  have hown : s.vm.findClass R_Sm = some m.cls := findClass_of_methodNamed B.named
  have hlocks := B.notSynchronized
  have hT : ∀ w ∈ tb, w.before _ s = true := fun w h => hts w (List.mem_cons_of_mem _ h)
  have hS : va_S (ux_A KX ad) s.heap s.heap [] := va_S.rf
  have hl := lv_entry ([.int ch, .int x]) (n := 2) (Nat.le_of_ble_eq_true rfl)
  rw [lg_entry_eq]
  generalize (lg_sl ([.int ch, .int x]) ++ List.replicate (2 - (lg_sl ([.int ch, .int x])).length) Slot.unset).toArray = ls at hl ⊢
  have hl : lv_has ls 2 [(0, .int ch), (1, .int x)] := hl
  have hF : ∀ a b, ¬ tN a b → M a b = M a b := fun _ _ _ => rfl
  refine lv_iload_n hx hb d_Sm_changed_0 rfl (lv_at hl 0 rfl) ?_
  refine lv_bipush (v := 126) hx hb d_Sm_changed_1 (by decide) ?_
  refine lv_icmp_ne hx hb d_Sm_changed_3 rfl (fun h1 => ?_) (fun h1 => ?_)
  · have g1 : ¬ (ch.toInt = 126) := fun q => h1 (Int32.toInt_inj.mp q)
    refine lv_iload_n hx hb d_Sm_changed_9 rfl (lv_at hl 1 rfl) ?_
    refine lv_if_ne hx hb d_Sm_changed_10 rfl (fun h2 => ?_) (fun h2 => ?_)
    · have g2 : ¬ (x.toInt = 0) := fun q => h2 (Int32.toInt_inj.mp q)
      refine lv_iconst (v := 0) hx hb d_Sm_changed_17 (by decide) ?_
      exact W.iret (v := 0) hx hb hr (fun t ht hW => ⟨⟨0, M, rfl, ⟨hI, hF, trivial⟩, by unfold ux_E; rw [ht]; exact hP⟩, hS.F ht⟩) hS.2.2 d_Sm_changed_18
    · have g2 : x.toInt = 0 := congrArg Int32.toInt h2
      refine lv_iconst (v := 1) hx hb d_Sm_changed_13 (by decide) ?_
      refine lv_goto hx hb d_Sm_changed_14 rfl ?_
      exact W.iret (v := 1) hx hb hr (fun t ht hW => ⟨⟨1, M, rfl, ⟨hI, hF, trivial⟩, by unfold ux_E; rw [ht]; exact hP⟩, hS.F ht⟩) hS.2.2 d_Sm_changed_18
  · have g1 : ch.toInt = 126 := congrArg Int32.toInt h1
    refine lv_iload_n hx hb d_Sm_changed_6 rfl (lv_at hl 1 rfl) ?_
    refine lv_ineg hx hb d_Sm_changed_7 ?_
    refine lv_topi (fun x3 ex3 => ?_)
    try have fx3 : x3.toInt = - x.toInt := by rw [ex3]; exact ti_neg (by omega)
    exact W.iret (v := x3) hx hb hr (fun t ht hW => ⟨⟨x3, M, rfl, ⟨hI, hF, trivial⟩, by unfold ux_E; rw [ht]; exact hP⟩, hS.F ht⟩) hS.2.2 d_Sm_changed_8

set_option maxHeartbeats 8000000 in
set_option maxRecDepth 100000 in
theorem s_Sm_joined (l : Launch) (D : va_G) (ad : Nat → Nat) (cA : Nat → ClassId) (M : ux_M) (hI : IvX M) (ch x y : Int32) : Met l y_Sm_joined w_Sm_joined ({ frames := 0, cells := 0, slots := 0, locals := 0 }) (va_Pc [.ref (ad 50), .int ch, .int x, .int y] (ux_B D shX KX ad cA M)) (va_Qi (fun r M1 => IvX M1 ∧ (∀ a b, ¬ tSj a b → M1 a b = M a b) ∧ (True)) (ux_E D shX KX ad cA) (ux_A KX ad)) 0 0 (ux_A KX ad) := by
  refine Met.ofW (cc := b_Sm_joined) (maxL := 4) (ret := (some .int)) (by decide) rfl ?_
  intro p e s m args below meth c s₁ B hml hv
  obtain ⟨rfl, hP, hK, hi, hN⟩ := hv
  have hx := B.exec
  have hb := B.bytes
  have hr := B.returns
  have hts := atoms_spec (ws := w_Sm_joined) B.pre
  have hown : s.vm.findClass R_Sm = some m.cls := findClass_of_methodNamed B.named
  have hlocks := B.notSynchronized
  have hT : ∀ w ∈ tb, w.before _ s = true := fun w h => hts w (List.mem_cons_of_mem _ h)
  have hS : va_S (ux_A KX ad) s.heap s.heap [] := va_S.rf
  have hl := lv_entry ([.ref (ad 50), .int ch, .int x, .int y]) (n := 4) (Nat.le_of_ble_eq_true rfl)
  rw [lg_entry_eq]
  generalize (lg_sl ([.ref (ad 50), .int ch, .int x, .int y]) ++ List.replicate (4 - (lg_sl ([.ref (ad 50), .int ch, .int x, .int y])).length) Slot.unset).toArray = ls at hl ⊢
  have hl : lv_has ls 4 [(0, .ref (ad 50)), (1, .int ch), (2, .int x), (3, .int y)] := hl
  have hF : ∀ a b, ¬ tSj a b → M a b = M a b := fun _ _ _ => rfl
  refine lv_iload_n hx hb d_Sm_joined_0 rfl (lv_at hl 1 rfl) ?_
  by_cases h1 : ch = 37
  · have g1 : ch.toInt = 37 := congrArg Int32.toInt h1
    refine lv_tableIn (off := 123) (tgt := 124) hx hb d_Sm_joined_1 (by rw [g1]; decide) (by rw [g1]; decide) (by rw [g1]; rfl) (by decide) ?_
    refine lv_iload_n hx hb d_Sm_joined_124 rfl (lv_at hl 3 rfl) ?_
    refine lv_if_ne hx hb d_Sm_joined_125 rfl (fun h2 => ?_) (fun h2 => ?_)
    · have g2 : ¬ (y.toInt = 0) := fun q => h2 (Int32.toInt_inj.mp q)
      refine lv_iload_n hx hb d_Sm_joined_135 rfl (lv_at hl 1 rfl) ?_
      refine lv_bipush (v := 47) hx hb d_Sm_joined_136 (by decide) ?_
      refine lv_icmp_ne hx hb d_Sm_joined_138 rfl (fun h3 => ?_) (fun h3 => ?_)
      · have g3 : ¬ (ch.toInt = 47) := fun q => h3 (Int32.toInt_inj.mp q)
        refine lv_iload_n hx hb d_Sm_joined_147 rfl (lv_at hl 2 rfl) ?_
        refine lv_iload_n hx hb d_Sm_joined_148 rfl (lv_at hl 3 rfl) ?_
        refine lv_irem hx hb d_Sm_joined_149 (fun q => absurd (congrArg Int32.toInt q) (show ¬ y.toInt = 0 by omega)) ?_
        refine lv_topi (fun x4 ex4 => ?_)
        exact W.iret (v := x4) hx hb hr (fun t ht hW => ⟨⟨x4, M, rfl, ⟨hI, hF, trivial⟩, by unfold ux_E; rw [ht]; exact hP⟩, hS.F ht⟩) hS.2.2 d_Sm_joined_150
      · have g3 : ch.toInt = 47 := congrArg Int32.toInt h3
        refine lv_iload_n hx hb d_Sm_joined_141 rfl (lv_at hl 2 rfl) ?_
        refine lv_iload_n hx hb d_Sm_joined_142 rfl (lv_at hl 3 rfl) ?_
        refine lv_idiv hx hb d_Sm_joined_143 (fun q => absurd (congrArg Int32.toInt q) (show ¬ y.toInt = 0 by omega)) ?_
        refine lv_topi (fun x5 ex5 => ?_)
        refine lv_goto hx hb d_Sm_joined_144 rfl ?_
        exact W.iret (v := x5) hx hb hr (fun t ht hW => ⟨⟨x5, M, rfl, ⟨hI, hF, trivial⟩, by unfold ux_E; rw [ht]; exact hP⟩, hS.F ht⟩) hS.2.2 d_Sm_joined_150
    · have g2 : y.toInt = 0 := congrArg Int32.toInt h2
      refine lv_aload_n hx hb d_Sm_joined_128 rfl (lv_at hl 0 rfl) ?_
      refine lv_iconst (v := 1) hx hb d_Sm_joined_129 (by decide) ?_
      refine ux_put (C := R_Sm) (T := F_Sm) (N := 14) hx hb hT in_Sm t_Sm t_Sm_ok n_Sm hown hK hi hP hS (by decide) rfl rfl 12 (by decide) (hT _ fl_Sm_72) rfl (rfl) (rfl) rfl d_Sm_joined_130 (fun H locs hP hS => ?_)
      have hI := IvX_free (k := 50) (j := 12) (v := 1) hI (by unfold ppn; omega) (by unfold pch; omega)
      have hF := fr_wr (k := 50) (j := 12) (v := 1) hF (by unfold tSj; omega)
      generalize eM6 : ux_wr M 50 12 1 = M6 at hP hI hF
      refine lv_iconst (v := 0) hx hb d_Sm_joined_133 (by decide) ?_
      exact W.iret (v := 0) hx hb hr (fun t ht hW => ⟨⟨0, M6, rfl, ⟨hI, hF, trivial⟩, by unfold ux_E; rw [ht]; exact hP⟩, hS.F ht⟩) hS.2.2 d_Sm_joined_134
  have g1 : ¬ ch.toInt = 37 := fun q => h1 (Int32.toInt_inj.mp q)
  by_cases h7 : ch = 38
  · have g7 : ch.toInt = 38 := congrArg Int32.toInt h7
    refine lv_tableIn (off := 191) (tgt := 192) hx hb d_Sm_joined_1 (by rw [g7]; decide) (by rw [g7]; decide) (by rw [g7]; rfl) (by decide) ?_
    refine lv_iload_n hx hb d_Sm_joined_192 rfl (lv_at hl 2 rfl) ?_
    refine lv_if_eq hx hb d_Sm_joined_193 rfl (fun h8 => ?_) (fun h8 => ?_)
    · have g8 : x.toInt = 0 := congrArg Int32.toInt h8
      refine lv_iconst (v := 0) hx hb d_Sm_joined_204 (by decide) ?_
      exact W.iret (v := 0) hx hb hr (fun t ht hW => ⟨⟨0, M, rfl, ⟨hI, hF, trivial⟩, by unfold ux_E; rw [ht]; exact hP⟩, hS.F ht⟩) hS.2.2 d_Sm_joined_205
    · have g8 : ¬ (x.toInt = 0) := fun q => h8 (Int32.toInt_inj.mp q)
      refine lv_iload_n hx hb d_Sm_joined_196 rfl (lv_at hl 3 rfl) ?_
      refine lv_if_eq hx hb d_Sm_joined_197 rfl (fun h9 => ?_) (fun h9 => ?_)
      · have g9 : y.toInt = 0 := congrArg Int32.toInt h9
        refine lv_iconst (v := 0) hx hb d_Sm_joined_204 (by decide) ?_
        exact W.iret (v := 0) hx hb hr (fun t ht hW => ⟨⟨0, M, rfl, ⟨hI, hF, trivial⟩, by unfold ux_E; rw [ht]; exact hP⟩, hS.F ht⟩) hS.2.2 d_Sm_joined_205
      · have g9 : ¬ (y.toInt = 0) := fun q => h9 (Int32.toInt_inj.mp q)
        refine lv_iconst (v := 1) hx hb d_Sm_joined_200 (by decide) ?_
        refine lv_goto hx hb d_Sm_joined_201 rfl ?_
        exact W.iret (v := 1) hx hb hr (fun t ht hW => ⟨⟨1, M, rfl, ⟨hI, hF, trivial⟩, by unfold ux_E; rw [ht]; exact hP⟩, hS.F ht⟩) hS.2.2 d_Sm_joined_205
  have g7 : ¬ ch.toInt = 38 := fun q => h7 (Int32.toInt_inj.mp q)
  by_cases h10 : ch = 42
  · have g10 : ch.toInt = 42 := congrArg Int32.toInt h10
    refine lv_tableIn (off := 119) (tgt := 120) hx hb d_Sm_joined_1 (by rw [g10]; decide) (by rw [g10]; decide) (by rw [g10]; rfl) (by decide) ?_
    refine lv_iload_n hx hb d_Sm_joined_120 rfl (lv_at hl 2 rfl) ?_
    refine lv_iload_n hx hb d_Sm_joined_121 rfl (lv_at hl 3 rfl) ?_
    refine lv_imul hx hb d_Sm_joined_122 ?_
    refine lv_topi (fun x11 ex11 => ?_)
    try have fx11 : x11.toInt = x.toInt * y.toInt := by rw [ex11]; exact ti_mul (by omega) (by omega)
    exact W.iret (v := x11) hx hb hr (fun t ht hW => ⟨⟨x11, M, rfl, ⟨hI, hF, trivial⟩, by unfold ux_E; rw [ht]; exact hP⟩, hS.F ht⟩) hS.2.2 d_Sm_joined_123
  have g10 : ¬ ch.toInt = 42 := fun q => h10 (Int32.toInt_inj.mp q)
  by_cases h12 : ch = 43
  · have g12 : ch.toInt = 43 := congrArg Int32.toInt h12
    refine lv_tableIn (off := 150) (tgt := 151) hx hb d_Sm_joined_1 (by rw [g12]; decide) (by rw [g12]; decide) (by rw [g12]; rfl) (by decide) ?_
    refine lv_iload_n hx hb d_Sm_joined_151 rfl (lv_at hl 2 rfl) ?_
    refine lv_iload_n hx hb d_Sm_joined_152 rfl (lv_at hl 3 rfl) ?_
    refine lv_iadd hx hb d_Sm_joined_153 ?_
    refine lv_topi (fun x13 ex13 => ?_)
    try have fx13 : x13.toInt = x.toInt + y.toInt := by rw [ex13]; exact ti_add (by omega) (by omega)
    exact W.iret (v := x13) hx hb hr (fun t ht hW => ⟨⟨x13, M, rfl, ⟨hI, hF, trivial⟩, by unfold ux_E; rw [ht]; exact hP⟩, hS.F ht⟩) hS.2.2 d_Sm_joined_154
  have g12 : ¬ ch.toInt = 43 := fun q => h12 (Int32.toInt_inj.mp q)
  by_cases h14 : ch = 45
  · have g14 : ch.toInt = 45 := congrArg Int32.toInt h14
    refine lv_tableIn (off := 154) (tgt := 155) hx hb d_Sm_joined_1 (by rw [g14]; decide) (by rw [g14]; decide) (by rw [g14]; rfl) (by decide) ?_
    refine lv_iload_n hx hb d_Sm_joined_155 rfl (lv_at hl 2 rfl) ?_
    refine lv_iload_n hx hb d_Sm_joined_156 rfl (lv_at hl 3 rfl) ?_
    refine lv_isub hx hb d_Sm_joined_157 ?_
    refine lv_topi (fun x15 ex15 => ?_)
    try have fx15 : x15.toInt = x.toInt - y.toInt := by rw [ex15]; exact ti_sub (by omega) (by omega)
    exact W.iret (v := x15) hx hb hr (fun t ht hW => ⟨⟨x15, M, rfl, ⟨hI, hF, trivial⟩, by unfold ux_E; rw [ht]; exact hP⟩, hS.F ht⟩) hS.2.2 d_Sm_joined_158
  have g14 : ¬ ch.toInt = 45 := fun q => h14 (Int32.toInt_inj.mp q)
  by_cases h16 : ch = 47
  · have g16 : ch.toInt = 47 := congrArg Int32.toInt h16
    refine lv_tableIn (off := 123) (tgt := 124) hx hb d_Sm_joined_1 (by rw [g16]; decide) (by rw [g16]; decide) (by rw [g16]; rfl) (by decide) ?_
    refine lv_iload_n hx hb d_Sm_joined_124 rfl (lv_at hl 3 rfl) ?_
    refine lv_if_ne hx hb d_Sm_joined_125 rfl (fun h17 => ?_) (fun h17 => ?_)
    · have g17 : ¬ (y.toInt = 0) := fun q => h17 (Int32.toInt_inj.mp q)
      refine lv_iload_n hx hb d_Sm_joined_135 rfl (lv_at hl 1 rfl) ?_
      refine lv_bipush (v := 47) hx hb d_Sm_joined_136 (by decide) ?_
      refine lv_icmp_ne hx hb d_Sm_joined_138 rfl (fun h18 => ?_) (fun h18 => ?_)
      · have g18 : ¬ (ch.toInt = 47) := fun q => h18 (Int32.toInt_inj.mp q)
        refine lv_iload_n hx hb d_Sm_joined_147 rfl (lv_at hl 2 rfl) ?_
        refine lv_iload_n hx hb d_Sm_joined_148 rfl (lv_at hl 3 rfl) ?_
        refine lv_irem hx hb d_Sm_joined_149 (fun q => absurd (congrArg Int32.toInt q) (show ¬ y.toInt = 0 by omega)) ?_
        refine lv_topi (fun x19 ex19 => ?_)
        exact W.iret (v := x19) hx hb hr (fun t ht hW => ⟨⟨x19, M, rfl, ⟨hI, hF, trivial⟩, by unfold ux_E; rw [ht]; exact hP⟩, hS.F ht⟩) hS.2.2 d_Sm_joined_150
      · have g18 : ch.toInt = 47 := congrArg Int32.toInt h18
        refine lv_iload_n hx hb d_Sm_joined_141 rfl (lv_at hl 2 rfl) ?_
        refine lv_iload_n hx hb d_Sm_joined_142 rfl (lv_at hl 3 rfl) ?_
        refine lv_idiv hx hb d_Sm_joined_143 (fun q => absurd (congrArg Int32.toInt q) (show ¬ y.toInt = 0 by omega)) ?_
        refine lv_topi (fun x20 ex20 => ?_)
        refine lv_goto hx hb d_Sm_joined_144 rfl ?_
        exact W.iret (v := x20) hx hb hr (fun t ht hW => ⟨⟨x20, M, rfl, ⟨hI, hF, trivial⟩, by unfold ux_E; rw [ht]; exact hP⟩, hS.F ht⟩) hS.2.2 d_Sm_joined_150
    · have g17 : y.toInt = 0 := congrArg Int32.toInt h17
      refine lv_aload_n hx hb d_Sm_joined_128 rfl (lv_at hl 0 rfl) ?_
      refine lv_iconst (v := 1) hx hb d_Sm_joined_129 (by decide) ?_
      refine ux_put (C := R_Sm) (T := F_Sm) (N := 14) hx hb hT in_Sm t_Sm t_Sm_ok n_Sm hown hK hi hP hS (by decide) rfl rfl 12 (by decide) (hT _ fl_Sm_72) rfl (rfl) (rfl) rfl d_Sm_joined_130 (fun H locs hP hS => ?_)
      have hI := IvX_free (k := 50) (j := 12) (v := 1) hI (by unfold ppn; omega) (by unfold pch; omega)
      have hF := fr_wr (k := 50) (j := 12) (v := 1) hF (by unfold tSj; omega)
      generalize eM21 : ux_wr M 50 12 1 = M21 at hP hI hF
      refine lv_iconst (v := 0) hx hb d_Sm_joined_133 (by decide) ?_
      exact W.iret (v := 0) hx hb hr (fun t ht hW => ⟨⟨0, M21, rfl, ⟨hI, hF, trivial⟩, by unfold ux_E; rw [ht]; exact hP⟩, hS.F ht⟩) hS.2.2 d_Sm_joined_134
  have g16 : ¬ ch.toInt = 47 := fun q => h16 (Int32.toInt_inj.mp q)
  by_cases h22 : ch = 60
  · have g22 : ch.toInt = 60 := congrArg Int32.toInt h22
    refine lv_tableIn (off := 158) (tgt := 159) hx hb d_Sm_joined_1 (by rw [g22]; decide) (by rw [g22]; decide) (by rw [g22]; rfl) (by decide) ?_
    refine lv_iload_n hx hb d_Sm_joined_159 rfl (lv_at hl 2 rfl) ?_
    refine lv_iload_n hx hb d_Sm_joined_160 rfl (lv_at hl 3 rfl) ?_
    refine lv_icmp_ge hx hb d_Sm_joined_161 rfl (fun h23 => ?_) (fun h23 => ?_)
    · have g23 : y.toInt ≤ x.toInt := Int32.le_iff_toInt_le.mp h23
      have u23 := ti_hi x
      have w23 := ti_lo y
      refine lv_iconst (v := 0) hx hb d_Sm_joined_168 (by decide) ?_
      exact W.iret (v := 0) hx hb hr (fun t ht hW => ⟨⟨0, M, rfl, ⟨hI, hF, trivial⟩, by unfold ux_E; rw [ht]; exact hP⟩, hS.F ht⟩) hS.2.2 d_Sm_joined_169
    · have g23 : ¬ (y.toInt ≤ x.toInt) := fun q => h23 (Int32.le_iff_toInt_le.mpr q)
      have u23 := ti_hi y
      have w23 := ti_lo x
      refine lv_iconst (v := 1) hx hb d_Sm_joined_164 (by decide) ?_
      refine lv_goto hx hb d_Sm_joined_165 rfl ?_
      exact W.iret (v := 1) hx hb hr (fun t ht hW => ⟨⟨1, M, rfl, ⟨hI, hF, trivial⟩, by unfold ux_E; rw [ht]; exact hP⟩, hS.F ht⟩) hS.2.2 d_Sm_joined_169
  have g22 : ¬ ch.toInt = 60 := fun q => h22 (Int32.toInt_inj.mp q)
  by_cases h24 : ch = 61
  · have g24 : ch.toInt = 61 := congrArg Int32.toInt h24
    refine lv_tableIn (off := 180) (tgt := 181) hx hb d_Sm_joined_1 (by rw [g24]; decide) (by rw [g24]; decide) (by rw [g24]; rfl) (by decide) ?_
    refine lv_iload_n hx hb d_Sm_joined_181 rfl (lv_at hl 2 rfl) ?_
    refine lv_iload_n hx hb d_Sm_joined_182 rfl (lv_at hl 3 rfl) ?_
    refine lv_icmp_ne hx hb d_Sm_joined_183 rfl (fun h25 => ?_) (fun h25 => ?_)
    · have g25 : ¬ (x.toInt = y.toInt) := fun q => h25 (Int32.toInt_inj.mp q)
      refine lv_iconst (v := 0) hx hb d_Sm_joined_190 (by decide) ?_
      exact W.iret (v := 0) hx hb hr (fun t ht hW => ⟨⟨0, M, rfl, ⟨hI, hF, trivial⟩, by unfold ux_E; rw [ht]; exact hP⟩, hS.F ht⟩) hS.2.2 d_Sm_joined_191
    · have g25 : x.toInt = y.toInt := congrArg Int32.toInt h25
      refine lv_iconst (v := 1) hx hb d_Sm_joined_186 (by decide) ?_
      refine lv_goto hx hb d_Sm_joined_187 rfl ?_
      exact W.iret (v := 1) hx hb hr (fun t ht hW => ⟨⟨1, M, rfl, ⟨hI, hF, trivial⟩, by unfold ux_E; rw [ht]; exact hP⟩, hS.F ht⟩) hS.2.2 d_Sm_joined_191
  have g24 : ¬ ch.toInt = 61 := fun q => h24 (Int32.toInt_inj.mp q)
  by_cases h26 : ch = 62
  · have g26 : ch.toInt = 62 := congrArg Int32.toInt h26
    refine lv_tableIn (off := 169) (tgt := 170) hx hb d_Sm_joined_1 (by rw [g26]; decide) (by rw [g26]; decide) (by rw [g26]; rfl) (by decide) ?_
    refine lv_iload_n hx hb d_Sm_joined_170 rfl (lv_at hl 2 rfl) ?_
    refine lv_iload_n hx hb d_Sm_joined_171 rfl (lv_at hl 3 rfl) ?_
    refine lv_icmp_le hx hb d_Sm_joined_172 rfl (fun h27 => ?_) (fun h27 => ?_)
    · have g27 : x.toInt ≤ y.toInt := Int32.le_iff_toInt_le.mp h27
      have u27 := ti_hi y
      have w27 := ti_lo x
      refine lv_iconst (v := 0) hx hb d_Sm_joined_179 (by decide) ?_
      exact W.iret (v := 0) hx hb hr (fun t ht hW => ⟨⟨0, M, rfl, ⟨hI, hF, trivial⟩, by unfold ux_E; rw [ht]; exact hP⟩, hS.F ht⟩) hS.2.2 d_Sm_joined_180
    · have g27 : ¬ (x.toInt ≤ y.toInt) := fun q => h27 (Int32.le_iff_toInt_le.mpr q)
      have u27 := ti_hi x
      have w27 := ti_lo y
      refine lv_iconst (v := 1) hx hb d_Sm_joined_175 (by decide) ?_
      refine lv_goto hx hb d_Sm_joined_176 rfl ?_
      exact W.iret (v := 1) hx hb hr (fun t ht hW => ⟨⟨1, M, rfl, ⟨hI, hF, trivial⟩, by unfold ux_E; rw [ht]; exact hP⟩, hS.F ht⟩) hS.2.2 d_Sm_joined_180
  have g26 : ¬ ch.toInt = 62 := fun q => h26 (Int32.toInt_inj.mp q)
  refine lv_tableDf (tgt := 206) hx hb d_Sm_joined_1 (by
      by_cases hr : ch.toInt < 37 ∨ 62 < ch.toInt
      · exact hr.elim Or.inl (fun q => Or.inr (Or.inl q))
      · have k : ∀ n, n < 26 → (n = 0 ∨ n = 1 ∨ n = 5 ∨ n = 6 ∨ n = 8 ∨ n = 10 ∨ n = 23 ∨ n = 24 ∨ n = 25 ∨ (#[123, 191, 205, 205, 205, 119, 150, 205, 154, 205, 123, 205, 205, 205, 205, 205, 205, 205, 205, 205, 205, 205, 205, 158, 180, 169] : Array Int)[n]? = some 205) := by decide
        rcases k (ch.toInt - 37).toNat (by omega) with q | q | q | q | q | q | q | q | q | q
        all_goals first | exact Or.inr (Or.inr q) | (exfalso; omega)) (by decide) ?_
  refine lv_iload_n hx hb d_Sm_joined_206 rfl (lv_at hl 2 rfl) ?_
  refine lv_if_ne hx hb d_Sm_joined_207 rfl (fun h28 => ?_) (fun h28 => ?_)
  · have g28 : ¬ (x.toInt = 0) := fun q => h28 (Int32.toInt_inj.mp q)
    refine lv_iconst (v := 1) hx hb d_Sm_joined_214 (by decide) ?_
    refine lv_goto hx hb d_Sm_joined_215 rfl ?_
    exact W.iret (v := 1) hx hb hr (fun t ht hW => ⟨⟨1, M, rfl, ⟨hI, hF, trivial⟩, by unfold ux_E; rw [ht]; exact hP⟩, hS.F ht⟩) hS.2.2 d_Sm_joined_219
  · have g28 : x.toInt = 0 := congrArg Int32.toInt h28
    refine lv_iload_n hx hb d_Sm_joined_210 rfl (lv_at hl 3 rfl) ?_
    refine lv_if_eq hx hb d_Sm_joined_211 rfl (fun h29 => ?_) (fun h29 => ?_)
    · have g29 : y.toInt = 0 := congrArg Int32.toInt h29
      refine lv_iconst (v := 0) hx hb d_Sm_joined_218 (by decide) ?_
      exact W.iret (v := 0) hx hb hr (fun t ht hW => ⟨⟨0, M, rfl, ⟨hI, hF, trivial⟩, by unfold ux_E; rw [ht]; exact hP⟩, hS.F ht⟩) hS.2.2 d_Sm_joined_219
    · have g29 : ¬ (y.toInt = 0) := fun q => h29 (Int32.toInt_inj.mp q)
      refine lv_iconst (v := 1) hx hb d_Sm_joined_214 (by decide) ?_
      refine lv_goto hx hb d_Sm_joined_215 rfl ?_
      exact W.iret (v := 1) hx hb hr (fun t ht hW => ⟨⟨1, M, rfl, ⟨hI, hF, trivial⟩, by unfold ux_E; rw [ht]; exact hP⟩, hS.F ht⟩) hS.2.2 d_Sm_joined_219

set_option maxHeartbeats 8000000 in
set_option maxRecDepth 100000 in
theorem s_Sm_pushOperand (l : Launch) (D : va_G) (ad : Nat → Nat) (cA : Nat → ClassId) (M : ux_M) (hI : IvX M) (x : Int32) : Met l y_Sm_pushOperand w_Sm_pushOperand ({ frames := 0, cells := 0, slots := 0, locals := 0 }) (va_Pc [.ref (ad 50), .int x] (ux_B D shX KX ad cA M)) (va_Qv (fun M1 => IvX M1 ∧ (∀ a b, ¬ tSo a b → M1 a b = M a b) ∧ (True)) (ux_E D shX KX ad cA) (ux_A KX ad)) 0 0 (ux_A KX ad) := by
  refine Met.ofW (cc := b_Sm_pushOperand) (maxL := 2) (ret := none) (by decide) rfl ?_
  intro p e s m args below meth c s₁ B hml hv
  obtain ⟨rfl, hP, hK, hi, hN⟩ := hv
  have hx := B.exec
  have hb := B.bytes
  have hr := B.returns
  have hts := atoms_spec (ws := w_Sm_pushOperand) B.pre
  have hown : s.vm.findClass R_Sm = some m.cls := findClass_of_methodNamed B.named
  have hlocks := B.notSynchronized
  have hT : ∀ w ∈ tb, w.before _ s = true := fun w h => hts w (List.mem_cons_of_mem _ h)
  have hS : va_S (ux_A KX ad) s.heap s.heap [] := va_S.rf
  have hl := lv_entry ([.ref (ad 50), .int x]) (n := 2) (Nat.le_of_ble_eq_true rfl)
  rw [lg_entry_eq]
  generalize (lg_sl ([.ref (ad 50), .int x]) ++ List.replicate (2 - (lg_sl ([.ref (ad 50), .int x])).length) Slot.unset).toArray = ls at hl ⊢
  have hl : lv_has ls 2 [(0, .ref (ad 50)), (1, .int x)] := hl
  have hF : ∀ a b, ¬ tSo a b → M a b = M a b := fun _ _ _ => rfl
  refine lv_aload_n hx hb d_Sm_pushOperand_0 rfl (lv_at hl 0 rfl) ?_
  refine ux_get (C := R_Sm) (T := F_Sm) (N := 14) hx hb hT in_Sm hown hK hP (by decide) rfl rfl 4 (by decide) (hT _ fl_Sm_87) rfl d_Sm_pushOperand_1 ?_
  have b1 := iv0 (M := M) (a := 50) (b := 4) hI (by unfold p0; omega)
  have b2 := iv200 (M := M) (a := 50) (b := 4) hI (by unfold p200; omega)
  refine lv_sipush (v := 200) hx hb d_Sm_pushOperand_4 (by decide) ?_
  refine lv_icmp_ge hx hb d_Sm_pushOperand_7 rfl (fun h3 => ?_) (fun h3 => ?_)
  · have g3 : 200 ≤ (M 50 4).toInt := Int32.le_iff_toInt_le.mp h3
    have u3 := ti_hi (M 50 4)
    refine lv_aload_n hx hb d_Sm_pushOperand_30 rfl (lv_at hl 0 rfl) ?_
    refine lv_iconst (v := 0) hx hb d_Sm_pushOperand_31 (by decide) ?_
    refine ux_put (C := R_Sm) (T := F_Sm) (N := 14) hx hb hT in_Sm t_Sm t_Sm_ok n_Sm hown hK hi hP hS (by decide) rfl rfl 10 (by decide) (hT _ fl_Sm_37) rfl (rfl) (rfl) rfl d_Sm_pushOperand_32 (fun H locs hP hS => ?_)
    have hI := IvX_free (k := 50) (j := 10) (v := 0) hI (by unfold ppn; omega) (by unfold pch; omega)
    have hF := fr_wr (k := 50) (j := 10) (v := 0) hF (by unfold tSo; omega)
    generalize eM4 : ux_wr M 50 10 0 = M4 at hP hI hF
    exact W.vret hx hb hr (fun t ht hW => ⟨⟨M4, rfl, ⟨hI, hF, trivial⟩, by unfold ux_E; rw [ht]; exact hP⟩, hS.F ht⟩) hS.2.2 d_Sm_pushOperand_35
  · have g3 : ¬ (200 ≤ (M 50 4).toInt) := fun q => h3 (Int32.le_iff_toInt_le.mpr q)
    have w3 := ti_lo (M 50 4)
    refine lv_aload_n hx hb d_Sm_pushOperand_10 rfl (lv_at hl 0 rfl) ?_
    refine ux_get (C := R_Sm) (T := F_Sm) (N := 14) hx hb hT in_Sm hown hK hP (by decide) rfl rfl 2 (by decide) (hT _ fl_Sm_9) rfl d_Sm_pushOperand_11 ?_
    refine lv_aload_n hx hb d_Sm_pushOperand_14 rfl (lv_at hl 0 rfl) ?_
    refine ux_get (C := R_Sm) (T := F_Sm) (N := 14) hx hb hT in_Sm hown hK hP (by decide) rfl rfl 4 (by decide) (hT _ fl_Sm_87) rfl d_Sm_pushOperand_15 ?_
    have b5 := iv0 (M := M) (a := 50) (b := 4) hI (by unfold p0; omega)
    have b6 := iv200 (M := M) (a := 50) (b := 4) hI (by unfold p200; omega)
    refine lv_iload_n hx hb d_Sm_pushOperand_18 rfl (lv_at hl 1 rfl) ?_
    refine ux_iast hx hb hK hi hP hS (by decide) rfl ((vi (show 0 ≤ (M 50 4).toInt by omega) (show (M 50 4).toInt < ((200 : Nat) : Int) by omega))) d_Sm_pushOperand_19 (fun H locs hP hS => ?_)
    have hI := IvX_free (k := 51) (j := (M 50 4).toNatClampNeg) (v := x) hI (by unfold ppn; omega) (by unfold pch; omega)
    have hF := fr_wr (k := 51) (j := (M 50 4).toNatClampNeg) (v := x) hF (by unfold tSo; omega)
    generalize eM7 : ux_wr M 51 ((M 50 4).toNatClampNeg) x = M7 at hP hI hF
    refine lv_aload_n hx hb d_Sm_pushOperand_20 rfl (lv_at hl 0 rfl) ?_
    refine lv_dup hx hb d_Sm_pushOperand_21 rfl ?_
    refine ux_get (C := R_Sm) (T := F_Sm) (N := 14) hx hb hT in_Sm hown hK hP (by decide) rfl rfl 4 (by decide) (hT _ fl_Sm_87) rfl d_Sm_pushOperand_22 ?_
    refine lv_topi (fun z8 hz8 => ?_)
    rw [show M7 50 4 = M 50 4 from wr_off eM7 (by omega)] at hz8
    rw [hz8]
    refine lv_iconst (v := 1) hx hb d_Sm_pushOperand_25 (by decide) ?_
    refine lv_iadd hx hb d_Sm_pushOperand_26 ?_
    refine lv_topi (fun x9 ex9 => ?_)
    try have fx9 : x9.toInt = (M 50 4).toInt + 1 := by rw [ex9]; exact ti_add (by (try rw [show (1 : Int32).toInt = 1 from rfl]); omega) (by (try rw [show (1 : Int32).toInt = 1 from rfl]); omega)
    refine ux_put (C := R_Sm) (T := F_Sm) (N := 14) hx hb hT in_Sm t_Sm t_Sm_ok n_Sm hown hK hi hP hS (by decide) rfl rfl 4 (by decide) (hT _ fl_Sm_87) rfl (rfl) (rfl) rfl d_Sm_pushOperand_27 (fun H locs hP hS => ?_)
    have hI := IvX_wr (k := 50) (j := 4) (v := x9) hI (fun q => by unfold p0 at q; omega) (fun q => by unfold p8 at q; omega) (fun q => by unfold p20 at q; omega) (fun q => by unfold p40 at q; omega) (fun q => by unfold p200 at q; omega) (fun q => by unfold pch at q; omega)
    have hF := fr_wr (k := 50) (j := 4) (v := x9) hF (by unfold tSo; omega)
    generalize eM10 : ux_wr M7 50 4 x9 = M10 at hP hI hF
    refine lv_aload_n hx hb d_Sm_pushOperand_30 rfl (lv_at hl 0 rfl) ?_
    refine lv_iconst (v := 0) hx hb d_Sm_pushOperand_31 (by decide) ?_
    refine ux_put (C := R_Sm) (T := F_Sm) (N := 14) hx hb hT in_Sm t_Sm t_Sm_ok n_Sm hown hK hi hP hS (by decide) rfl rfl 10 (by decide) (hT _ fl_Sm_37) rfl (rfl) (rfl) rfl d_Sm_pushOperand_32 (fun H locs hP hS => ?_)
    have hI := IvX_free (k := 50) (j := 10) (v := 0) hI (by unfold ppn; omega) (by unfold pch; omega)
    have hF := fr_wr (k := 50) (j := 10) (v := 0) hF (by unfold tSo; omega)
    generalize eM11 : ux_wr M10 50 10 0 = M11 at hP hI hF
    exact W.vret hx hb hr (fun t ht hW => ⟨⟨M11, rfl, ⟨hI, hF, trivial⟩, by unfold ux_E; rw [ht]; exact hP⟩, hS.F ht⟩) hS.2.2 d_Sm_pushOperand_35

set_option maxHeartbeats 8000000 in
set_option maxRecDepth 100000 in
theorem s_Sm_pushSign (l : Launch) (D : va_G) (ad : Nat → Nat) (cA : Nat → ClassId) (M : ux_M) (hI : IvX M) (ch : Int32) (hs2 : (M 50 5).toInt < 200) : Met l y_Sm_pushSign w_Sm_pushSign ({ frames := 0, cells := 0, slots := 0, locals := 0 }) (va_Pc [.ref (ad 50), .int ch] (ux_B D shX KX ad cA M)) (va_Qv (fun M1 => IvX M1 ∧ (∀ a b, ¬ tSp a b → M1 a b = M a b) ∧ ((M1 50 5).toInt = (M 50 5).toInt + 1 ∧ c40 (M 52) (M 50 5).toNatClampNeg ≤ c40 (M1 52) (M1 50 5).toNatClampNeg ∧ (ch.toInt = 40 → c40 (M 52) (M 50 5).toNatClampNeg + 1 ≤ c40 (M1 52) (M1 50 5).toNatClampNeg))) (ux_E D shX KX ad cA) (ux_A KX ad)) 0 0 (ux_A KX ad) := by
  refine Met.ofW (cc := b_Sm_pushSign) (maxL := 2) (ret := none) (by decide) rfl ?_
  intro p e s m args below meth c s₁ B hml hv
  obtain ⟨rfl, hP, hK, hi, hN⟩ := hv
  have hx := B.exec
  have hb := B.bytes
  have hr := B.returns
  have hts := atoms_spec (ws := w_Sm_pushSign) B.pre
  have hown : s.vm.findClass R_Sm = some m.cls := findClass_of_methodNamed B.named
  have hlocks := B.notSynchronized
  have hT : ∀ w ∈ tb, w.before _ s = true := fun w h => hts w (List.mem_cons_of_mem _ h)
  have hS : va_S (ux_A KX ad) s.heap s.heap [] := va_S.rf
  have hl := lv_entry ([.ref (ad 50), .int ch]) (n := 2) (Nat.le_of_ble_eq_true rfl)
  rw [lg_entry_eq]
  generalize (lg_sl ([.ref (ad 50), .int ch]) ++ List.replicate (2 - (lg_sl ([.ref (ad 50), .int ch])).length) Slot.unset).toArray = ls at hl ⊢
  have hl : lv_has ls 2 [(0, .ref (ad 50)), (1, .int ch)] := hl
  have hF : ∀ a b, ¬ tSp a b → M a b = M a b := fun _ _ _ => rfl
  refine lv_aload_n hx hb d_Sm_pushSign_0 rfl (lv_at hl 0 rfl) ?_
  refine ux_get (C := R_Sm) (T := F_Sm) (N := 14) hx hb hT in_Sm hown hK hP (by decide) rfl rfl 5 (by decide) (hT _ fl_Sm_90) rfl d_Sm_pushSign_1 ?_
  have b1 := iv0 (M := M) (a := 50) (b := 5) hI (by unfold p0; omega)
  have b2 := iv200 (M := M) (a := 50) (b := 5) hI (by unfold p200; omega)
  refine lv_sipush (v := 200) hx hb d_Sm_pushSign_4 (by decide) ?_
  refine lv_icmp_ge hx hb d_Sm_pushSign_7 rfl (fun h3 => ?_) (fun h3 => ?_)
  · have g3 : 200 ≤ (M 50 5).toInt := Int32.le_iff_toInt_le.mp h3
    have u3 := ti_hi (M 50 5)
    exact W.vret hx hb hr (fun t ht hW => ⟨⟨M, rfl, ⟨hI, hF, (by exfalso; omega)⟩, by unfold ux_E; rw [ht]; exact hP⟩, hS.F ht⟩) hS.2.2 d_Sm_pushSign_30
  · have g3 : ¬ (200 ≤ (M 50 5).toInt) := fun q => h3 (Int32.le_iff_toInt_le.mpr q)
    have w3 := ti_lo (M 50 5)
    refine lv_aload_n hx hb d_Sm_pushSign_10 rfl (lv_at hl 0 rfl) ?_
    refine ux_get (C := R_Sm) (T := F_Sm) (N := 14) hx hb hT in_Sm hown hK hP (by decide) rfl rfl 3 (by decide) (hT _ fl_Sm_15) rfl d_Sm_pushSign_11 ?_
    refine lv_aload_n hx hb d_Sm_pushSign_14 rfl (lv_at hl 0 rfl) ?_
    refine ux_get (C := R_Sm) (T := F_Sm) (N := 14) hx hb hT in_Sm hown hK hP (by decide) rfl rfl 5 (by decide) (hT _ fl_Sm_90) rfl d_Sm_pushSign_15 ?_
    have b4 := iv0 (M := M) (a := 50) (b := 5) hI (by unfold p0; omega)
    have b5 := iv200 (M := M) (a := 50) (b := 5) hI (by unfold p200; omega)
    refine lv_iload_n hx hb d_Sm_pushSign_18 rfl (lv_at hl 1 rfl) ?_
    refine ux_cast hx hb hK hi hP hS (by decide) rfl ((vi (show 0 ≤ (M 50 5).toInt by omega) (show (M 50 5).toInt < ((200 : Nat) : Int) by omega))) d_Sm_pushSign_19 (fun H locs hP hS => ?_)
    have b6 := nar_c ch
    have hI := IvX_ch (k := 52) (j := (M 50 5).toNatClampNeg) (v := vp_nar .char ch) hI (by unfold ppn; omega) (by omega)
    have hF := fr_wr (k := 52) (j := (M 50 5).toNatClampNeg) (v := vp_nar .char ch) hF (by unfold tSp; omega)
    generalize eM7 : ux_wr M 52 ((M 50 5).toNatClampNeg) (vp_nar .char ch) = M7 at hP hI hF
    refine lv_aload_n hx hb d_Sm_pushSign_20 rfl (lv_at hl 0 rfl) ?_
    refine lv_dup hx hb d_Sm_pushSign_21 rfl ?_
    refine ux_get (C := R_Sm) (T := F_Sm) (N := 14) hx hb hT in_Sm hown hK hP (by decide) rfl rfl 5 (by decide) (hT _ fl_Sm_90) rfl d_Sm_pushSign_22 ?_
    refine lv_topi (fun z8 hz8 => ?_)
    rw [show M7 50 5 = M 50 5 from wr_off eM7 (by omega)] at hz8
    rw [hz8]
    refine lv_iconst (v := 1) hx hb d_Sm_pushSign_25 (by decide) ?_
    refine lv_iadd hx hb d_Sm_pushSign_26 ?_
    refine lv_topi (fun x9 ex9 => ?_)
    try have fx9 : x9.toInt = (M 50 5).toInt + 1 := by rw [ex9]; exact ti_add (by (try rw [show (1 : Int32).toInt = 1 from rfl]); omega) (by (try rw [show (1 : Int32).toInt = 1 from rfl]); omega)
    refine ux_put (C := R_Sm) (T := F_Sm) (N := 14) hx hb hT in_Sm t_Sm t_Sm_ok n_Sm hown hK hi hP hS (by decide) rfl rfl 5 (by decide) (hT _ fl_Sm_90) rfl (rfl) (rfl) rfl d_Sm_pushSign_27 (fun H locs hP hS => ?_)
    have hI := IvX_wr (k := 50) (j := 5) (v := x9) hI (fun q => by unfold p0 at q; omega) (fun q => by unfold p8 at q; omega) (fun q => by unfold p20 at q; omega) (fun q => by unfold p40 at q; omega) (fun q => by unfold p200 at q; omega) (fun q => by unfold pch at q; omega)
    have hF := fr_wr (k := 50) (j := 5) (v := x9) hF (by unfold tSp; omega)
    generalize eM10 : ux_wr M7 50 5 x9 = M10 at hP hI hF
    exact W.vret hx hb hr (fun t ht hW => ⟨⟨M10, rfl, ⟨hI, hF, ⟨by rw [wr_at eM10]; omega, (c40_push eM7 (fun j => wr_off eM10 (by omega)) (by omega) (by rw [wr_at eM10]; omega)).1, (c40_push eM7 (fun j => wr_off eM10 (by omega)) (by omega) (by rw [wr_at eM10]; omega)).2⟩⟩, by unfold ux_E; rw [ht]; exact hP⟩, hS.F ht⟩) hS.2.2 d_Sm_pushSign_30

set_option maxHeartbeats 8000000 in
set_option maxRecDepth 100000 in
theorem s_Sm_begin (l : Launch) (D : va_G) (ad : Nat → Nat) (cA : Nat → ClassId) (M : ux_M) (hI : IvX M) (a b f : Int32) : Met l y_Sm_begin w_Sm_begin ({ frames := 1, cells := 0, slots := 0, locals := 21 }) (va_Pc [.ref (ad 50), .int a, .int b, .int f] (ux_B D shX KX ad cA M)) (va_Qv (fun M1 => IvX M1 ∧ (∀ a b, ¬ tSb a b → M1 a b = M a b) ∧ ((M1 50 5).toInt = 0 ∧ (M1 50 6).toInt = 0)) (ux_E D shX KX ad cA) (ux_A KX ad)) 0 0 (ux_A KX ad) := by
  refine Met.ofW (cc := b_Sm_begin) (maxL := 4) (ret := none) (by decide) rfl ?_
  intro p e s m args below meth c s₁ B hml hv
  obtain ⟨rfl, hP, hK, hi, hN⟩ := hv
  have hx := B.exec
  have hb := B.bytes
  have hr := B.returns
  have hts := atoms_spec (ws := w_Sm_begin) B.pre
  have hown : s.vm.findClass R_Sm = some m.cls := findClass_of_methodNamed B.named
  have hlocks := B.notSynchronized
  have hT : ∀ w ∈ tb, w.before _ s = true := fun w h => hts w (List.mem_cons_of_mem _ h)
  have hS : va_S (ux_A KX ad) s.heap s.heap [] := va_S.rf
  have hl := lv_entry ([.ref (ad 50), .int a, .int b, .int f]) (n := 4) (Nat.le_of_ble_eq_true rfl)
  rw [lg_entry_eq]
  generalize (lg_sl ([.ref (ad 50), .int a, .int b, .int f]) ++ List.replicate (4 - (lg_sl ([.ref (ad 50), .int a, .int b, .int f])).length) Slot.unset).toArray = ls at hl ⊢
  have hl : lv_has ls 4 [(0, .ref (ad 50)), (1, .int a), (2, .int b), (3, .int f)] := hl
  have hF : ∀ a b, ¬ tSb a b → M a b = M a b := fun _ _ _ => rfl
  refine lv_aload_n hx hb d_Sm_begin_0 rfl (lv_at hl 0 rfl) ?_
  refine lv_iload_n hx hb d_Sm_begin_1 rfl (lv_at hl 1 rfl) ?_
  refine lv_iconst (v := 0) hx hb d_Sm_begin_2 (by decide) ?_
  refine va_mmax hx hb (by rw [hml]; exact hl.1.symm) hown (hT _ ml_Sm_75) (hT _ sm_Ma_max) (hT _ ii_Ma) (hT _ kt_Ma_max) (Nat.le_of_ble_eq_true rfl) (Nat.le_of_ble_eq_true rfl) (Nat.zero_le _) (Nat.zero_le _) d_Sm_begin_3 ?_
  have b1 := vmax_f a 0
  rw [show (0 : Int32).toInt = 0 from rfl] at b1
  refine lv_topi (fun x2 ex2 => ?_)
  rw [show vmax a 0 = x2 from ex2.symm] at b1
  refine ux_put (C := R_Sm) (T := F_Sm) (N := 14) hx hb hT in_Sm t_Sm t_Sm_ok n_Sm hown hK hi hP hS (by decide) rfl rfl 7 (by decide) (hT _ fl_Sm_30) rfl (rfl) (rfl) rfl d_Sm_begin_6 (fun H locs hP hS => ?_)
  have hI := IvX_wr (k := 50) (j := 7) (v := x2) hI (fun q => by unfold p0 at q; omega) (fun q => by unfold p8 at q; omega) (fun q => by unfold p20 at q; omega) (fun q => by unfold p40 at q; omega) (fun q => by unfold p200 at q; omega) (fun q => by unfold pch at q; omega)
  have hF := fr_wr (k := 50) (j := 7) (v := x2) hF (by unfold tSb; omega)
  generalize eM3 : ux_wr M 50 7 x2 = M3 at hP hI hF
  refine lv_aload_n hx hb d_Sm_begin_9 rfl (lv_at hl 0 rfl) ?_
  refine lv_iload_n hx hb d_Sm_begin_10 rfl (lv_at hl 2 rfl) ?_
  refine lv_sipush (v := 200) hx hb d_Sm_begin_11 (by decide) ?_
  refine va_mmin hx hb (by rw [hml]; exact hl.1.symm) hown (hT _ ml_Sm_81) (hT _ sm_Ma_min) (hT _ ii_Ma) (hT _ kt_Ma_min) (Nat.le_of_ble_eq_true rfl) (Nat.le_of_ble_eq_true rfl) (Nat.zero_le _) (Nat.zero_le _) d_Sm_begin_14 ?_
  have b4 := vmin_f b 200
  rw [show (200 : Int32).toInt = 200 from rfl] at b4
  refine lv_topi (fun x5 ex5 => ?_)
  rw [show vmin b 200 = x5 from ex5.symm] at b4
  refine ux_put (C := R_Sm) (T := F_Sm) (N := 14) hx hb hT in_Sm t_Sm t_Sm_ok n_Sm hown hK hi hP hS (by decide) rfl rfl 8 (by decide) (hT _ fl_Sm_34) rfl (rfl) (rfl) rfl d_Sm_begin_17 (fun H locs hP hS => ?_)
  have hI := IvX_wr (k := 50) (j := 8) (v := x5) hI (fun q => by unfold p0 at q; omega) (fun q => by unfold p8 at q; omega) (fun q => by unfold p20 at q; omega) (fun q => by unfold p40 at q; omega) (fun q => by unfold p200 at q; omega) (fun q => by unfold pch at q; omega)
  have hF := fr_wr (k := 50) (j := 8) (v := x5) hF (by unfold tSb; omega)
  generalize eM6 : ux_wr M3 50 8 x5 = M6 at hP hI hF
  refine lv_aload_n hx hb d_Sm_begin_20 rfl (lv_at hl 0 rfl) ?_
  refine lv_iload_n hx hb d_Sm_begin_21 rfl (lv_at hl 3 rfl) ?_
  refine ux_put (C := R_Sm) (T := F_Sm) (N := 14) hx hb hT in_Sm t_Sm t_Sm_ok n_Sm hown hK hi hP hS (by decide) rfl rfl 9 (by decide) (hT _ fl_Sm_84) rfl (rfl) (rfl) rfl d_Sm_begin_22 (fun H locs hP hS => ?_)
  have hI := IvX_free (k := 50) (j := 9) (v := f) hI (by unfold ppn; omega) (by unfold pch; omega)
  have hF := fr_wr (k := 50) (j := 9) (v := f) hF (by unfold tSb; omega)
  generalize eM7 : ux_wr M6 50 9 f = M7 at hP hI hF
  refine lv_aload_n hx hb d_Sm_begin_25 rfl (lv_at hl 0 rfl) ?_
  refine lv_iconst (v := 0) hx hb d_Sm_begin_26 (by decide) ?_
  refine ux_put (C := R_Sm) (T := F_Sm) (N := 14) hx hb hT in_Sm t_Sm t_Sm_ok n_Sm hown hK hi hP hS (by decide) rfl rfl 4 (by decide) (hT _ fl_Sm_87) rfl (rfl) (rfl) rfl d_Sm_begin_27 (fun H locs hP hS => ?_)
  have hI := IvX_wr (k := 50) (j := 4) (v := 0) hI (fun q => by first | decide | unfold p0 at q; omega) (fun q => by first | decide | unfold p8 at q; omega) (fun q => by first | decide | unfold p20 at q; omega) (fun q => by first | decide | unfold p40 at q; omega) (fun q => by first | decide | unfold p200 at q; omega) (fun q => by unfold pch at q; omega)
  have hF := fr_wr (k := 50) (j := 4) (v := 0) hF (by unfold tSb; omega)
  generalize eM8 : ux_wr M7 50 4 0 = M8 at hP hI hF
  refine lv_aload_n hx hb d_Sm_begin_30 rfl (lv_at hl 0 rfl) ?_
  refine lv_iconst (v := 0) hx hb d_Sm_begin_31 (by decide) ?_
  refine ux_put (C := R_Sm) (T := F_Sm) (N := 14) hx hb hT in_Sm t_Sm t_Sm_ok n_Sm hown hK hi hP hS (by decide) rfl rfl 5 (by decide) (hT _ fl_Sm_90) rfl (rfl) (rfl) rfl d_Sm_begin_32 (fun H locs hP hS => ?_)
  have hI := IvX_wr (k := 50) (j := 5) (v := 0) hI (fun q => by first | decide | unfold p0 at q; omega) (fun q => by first | decide | unfold p8 at q; omega) (fun q => by first | decide | unfold p20 at q; omega) (fun q => by first | decide | unfold p40 at q; omega) (fun q => by first | decide | unfold p200 at q; omega) (fun q => by unfold pch at q; omega)
  have hF := fr_wr (k := 50) (j := 5) (v := 0) hF (by unfold tSb; omega)
  generalize eM9 : ux_wr M8 50 5 0 = M9 at hP hI hF
  refine lv_aload_n hx hb d_Sm_begin_35 rfl (lv_at hl 0 rfl) ?_
  refine lv_iconst (v := 0) hx hb d_Sm_begin_36 (by decide) ?_
  refine ux_put (C := R_Sm) (T := F_Sm) (N := 14) hx hb hT in_Sm t_Sm t_Sm_ok n_Sm hown hK hi hP hS (by decide) rfl rfl 6 (by decide) (hT _ fl_Sm_59) rfl (rfl) (rfl) rfl d_Sm_begin_37 (fun H locs hP hS => ?_)
  have hI := IvX_wr (k := 50) (j := 6) (v := 0) hI (fun q => by first | decide | unfold p0 at q; omega) (fun q => by first | decide | unfold p8 at q; omega) (fun q => by first | decide | unfold p20 at q; omega) (fun q => by first | decide | unfold p40 at q; omega) (fun q => by first | decide | unfold p200 at q; omega) (fun q => by unfold pch at q; omega)
  have hF := fr_wr (k := 50) (j := 6) (v := 0) hF (by unfold tSb; omega)
  generalize eM10 : ux_wr M9 50 6 0 = M10 at hP hI hF
  refine lv_aload_n hx hb d_Sm_begin_40 rfl (lv_at hl 0 rfl) ?_
  refine lv_iconst (v := 1) hx hb d_Sm_begin_41 (by decide) ?_
  refine ux_put (C := R_Sm) (T := F_Sm) (N := 14) hx hb hT in_Sm t_Sm t_Sm_ok n_Sm hown hK hi hP hS (by decide) rfl rfl 10 (by decide) (hT _ fl_Sm_37) rfl (rfl) (rfl) rfl d_Sm_begin_42 (fun H locs hP hS => ?_)
  have hI := IvX_free (k := 50) (j := 10) (v := 1) hI (by unfold ppn; omega) (by unfold pch; omega)
  have hF := fr_wr (k := 50) (j := 10) (v := 1) hF (by unfold tSb; omega)
  generalize eM11 : ux_wr M10 50 10 1 = M11 at hP hI hF
  refine lv_aload_n hx hb d_Sm_begin_45 rfl (lv_at hl 0 rfl) ?_
  refine lv_iconst (v := 0) hx hb d_Sm_begin_46 (by decide) ?_
  refine ux_put (C := R_Sm) (T := F_Sm) (N := 14) hx hb hT in_Sm t_Sm t_Sm_ok n_Sm hown hK hi hP hS (by decide) rfl rfl 11 (by decide) (hT _ fl_Sm_69) rfl (rfl) (rfl) rfl d_Sm_begin_47 (fun H locs hP hS => ?_)
  have hI := IvX_free (k := 50) (j := 11) (v := 0) hI (by unfold ppn; omega) (by unfold pch; omega)
  have hF := fr_wr (k := 50) (j := 11) (v := 0) hF (by unfold tSb; omega)
  generalize eM12 : ux_wr M11 50 11 0 = M12 at hP hI hF
  refine lv_aload_n hx hb d_Sm_begin_50 rfl (lv_at hl 0 rfl) ?_
  refine lv_iconst (v := 0) hx hb d_Sm_begin_51 (by decide) ?_
  refine ux_put (C := R_Sm) (T := F_Sm) (N := 14) hx hb hT in_Sm t_Sm t_Sm_ok n_Sm hown hK hi hP hS (by decide) rfl rfl 12 (by decide) (hT _ fl_Sm_72) rfl (rfl) (rfl) rfl d_Sm_begin_52 (fun H locs hP hS => ?_)
  have hI := IvX_free (k := 50) (j := 12) (v := 0) hI (by unfold ppn; omega) (by unfold pch; omega)
  have hF := fr_wr (k := 50) (j := 12) (v := 0) hF (by unfold tSb; omega)
  generalize eM13 : ux_wr M12 50 12 0 = M13 at hP hI hF
  exact W.vret hx hb hr (fun t ht hW => ⟨⟨M13, rfl, ⟨hI, hF, ⟨by rw [(wr_off eM13 (by omega)).trans ((wr_off eM12 (by omega)).trans ((wr_off eM11 (by omega)).trans ((wr_off eM10 (by omega)).trans (wr_at eM9))))]; rfl, by rw [(wr_off eM13 (by omega)).trans ((wr_off eM12 (by omega)).trans ((wr_off eM11 (by omega)).trans (wr_at eM10)))]; rfl⟩⟩, by unfold ux_E; rw [ht]; exact hP⟩, hS.F ht⟩) hS.2.2 d_Sm_begin_55

set_option maxHeartbeats 8000000 in
set_option maxRecDepth 100000 in
theorem s_Sm_applyDownTo (l : Launch) (D : va_G) (ad : Nat → Nat) (cA : Nat → ClassId) (M : ux_M) (hI : IvX M) (rank : Int32) (hr1 : 1 ≤ rank.toInt) : Met l y_Sm_applyDownTo w_Sm_applyDownTo ({ frames := 1, cells := 0, slots := 0, locals := 23 }) (va_Pc [.ref (ad 50), .int rank] (ux_B D shX KX ad cA M)) (va_Qv (fun M1 => IvX M1 ∧ (∀ a b, ¬ tSa a b → M1 a b = M a b) ∧ ((M1 50 5).toInt ≤ (M 50 5).toInt ∧ c40 (M 52) (M1 50 5).toNatClampNeg = c40 (M 52) (M 50 5).toNatClampNeg)) (ux_E D shX KX ad cA) (ux_A KX ad)) 0 0 (ux_A KX ad) := by
  refine Met.ofW (cc := b_Sm_applyDownTo) (maxL := 7) (ret := none) (by decide) rfl ?_
  intro p e s m args below meth c s₁ B hml hv
  obtain ⟨rfl, hP, hK, hi, hN⟩ := hv
  have hx := B.exec
  have hb := B.bytes
  have hr := B.returns
  have hts := atoms_spec (ws := w_Sm_applyDownTo) B.pre
  have hown : s.vm.findClass R_Sm = some m.cls := findClass_of_methodNamed B.named
  have hlocks := B.notSynchronized
  have hT : ∀ w ∈ tb, w.before _ s = true := fun w h => hts w (List.mem_cons_of_mem _ h)
  have hS : va_S (ux_A KX ad) s.heap s.heap [] := va_S.rf
  have hl := lv_entry ([.ref (ad 50), .int rank]) (n := 7) (Nat.le_of_ble_eq_true rfl)
  rw [lg_entry_eq]
  generalize (lg_sl ([.ref (ad 50), .int rank]) ++ List.replicate (7 - (lg_sl ([.ref (ad 50), .int rank])).length) Slot.unset).toArray = ls at hl ⊢
  have hl : lv_has ls 7 [(0, .ref (ad 50)), (1, .int rank)] := hl
  have hF : ∀ a b, ¬ tSa a b → M a b = M a b := fun _ _ _ => rfl
  have cut5 : ∀ (nn : Nat) (i_2 : Int32) (Mc5 : ux_M) (H : Heap) (locs : List Loc) (ls : Array Slot), i_2.toInt.toNat = nn → (0 ≤ i_2.toInt) → (i_2.toInt ≤ 200) → (i_2.toInt ≤ (M 50 5).toInt) → (c40 (M 52) i_2.toNatClampNeg = c40 (M 52) (M 50 5).toNatClampNeg) → ((Mc5 50 5).toInt = i_2.toInt) → va_P D classes (ux_w shX KX ad cA Mc5) H → IvX Mc5 → (∀ a b, ¬ tSa a b → Mc5 a b = M a b) → va_S (ux_A KX ad) s.heap H locs → lv_has ls 7 [(0, .ref (ad 50)), (1, .int rank), (2, .int i_2)] → W p l e (headSpec w_Sm_applyDownTo ({ frames := 1, cells := 0, slots := 0, locals := 23 })).room s m (([.ref (ad 50), .int rank] : List Value).toArray) below meth c H locs 0 0 (MQ below (va_Qv (fun M1 => IvX M1 ∧ (∀ a b, ¬ tSa a b → M1 a b = M a b) ∧ ((M1 50 5).toInt ≤ (M 50 5).toInt ∧ c40 (M 52) (M1 50 5).toNatClampNeg = c40 (M 52) (M 50 5).toNatClampNeg)) (ux_E D shX KX ad cA) (ux_A KX ad)) (([.ref (ad 50), .int rank] : List Value).toArray) s 0 0 (ux_A KX ad)) (F0 m 5 ls []) := by
    intro nn
    induction nn using Nat.strongRecOn with
    | ind nn ih5 =>
      intro i_2 Mc5 H locs ls hn c5_0 c5_1 c5_2 c5_3 c5_4 hP hI hF hS hl
      refine lv_iload_n hx hb d_Sm_applyDownTo_5 rfl (lv_at hl 2 rfl) ?_
      refine lv_if_le hx hb d_Sm_applyDownTo_6 rfl (fun h1 => ?_) (fun h1 => ?_)
      · have g1 : i_2.toInt ≤ 0 := Int32.le_iff_toInt_le.mp h1
        have w1 := ti_lo i_2
        exact W.vret hx hb hr (fun t ht hW => ⟨⟨Mc5, rfl, ⟨hI, hF, (by have hq : Mc5 50 5 = i_2 := Int32.toInt_inj.mp c5_4; rw [hq]; exact ⟨by omega, by assumption⟩)⟩, by unfold ux_E; rw [ht]; exact hP⟩, hS.F ht⟩) hS.2.2 d_Sm_applyDownTo_143
      · have g1 : ¬ (i_2.toInt ≤ 0) := fun q => h1 (Int32.le_iff_toInt_le.mpr q)
        have u1 := ti_hi i_2
        refine lv_aload_n hx hb d_Sm_applyDownTo_9 rfl (lv_at hl 0 rfl) ?_
        refine ux_get (C := R_Sm) (T := F_Sm) (N := 14) hx hb hT in_Sm hown hK hP (by decide) rfl rfl 3 (by decide) (hT _ fl_Sm_15) rfl d_Sm_applyDownTo_10 ?_
        refine lv_iload_n hx hb d_Sm_applyDownTo_13 rfl (lv_at hl 2 rfl) ?_
        refine lv_iconst (v := 1) hx hb d_Sm_applyDownTo_14 (by decide) ?_
        refine lv_isub hx hb d_Sm_applyDownTo_15 ?_
        refine lv_topi (fun x2 ex2 => ?_)
        try have fx2 : x2.toInt = i_2.toInt - 1 := by rw [ex2]; exact ti_sub (by (try rw [show (1 : Int32).toInt = 1 from rfl]); omega) (by (try rw [show (1 : Int32).toInt = 1 from rfl]); omega)
        obtain ⟨z16, ez16⟩ : ∃ z, z = x2 := ⟨_, rfl⟩
        have hz16 : z16.toInt = i_2.toInt - 1 := by rw [ez16]; omega
        refine ux_cald hx hb hK hP (by decide) rfl ((vi (show 0 ≤ x2.toInt by omega) (show x2.toInt < ((200 : Nat) : Int) by omega))) d_Sm_applyDownTo_16 ?_
        refine lv_istore_n hx hb d_Sm_applyDownTo_17 rfl hl (by decide) rfl (fun ls hl => ?_)
        have hl : lv_has ls 7 [(3, .int (Mc5 52 x2.toNatClampNeg)), (0, .ref (ad 50)), (1, .int rank), (2, .int i_2)] := hl
        refine lv_iload_n hx hb d_Sm_applyDownTo_18 rfl (lv_at hl 0 rfl) ?_
        refine ux_calli (va_runS ⟨hx, hb, hml, hown, hts⟩ (s_Sm_rankOf l D ad cA Mc5 hI (Mc5 52 x2.toNatClampNeg)) (va_cwS 1 hts (tb_goodST ml_Sm_121 sm_Sm_rankOf ii_Sm kt_Sm_rankOf) rfl rfl rfl (by decide +kernel) ⟨Nat.le_of_ble_eq_true rfl, Nat.le_of_ble_eq_true rfl⟩) (ux_pre hP hK hi hN) rfl rfl hl.1 rfl (lv_room (Nat.le_of_ble_eq_true rfl)) d_Sm_applyDownTo_19 ⟨Nat.zero_le _, Nat.zero_le _⟩) hS (fun r3 M4 H locs q5 hP hS => ?_)
        obtain ⟨hI, fq5, q5p⟩ := q5
        rw [tN_eq fq5] at hP hI
        refine lv_bipush (v := 6) hx hb d_Sm_applyDownTo_22 (by decide) ?_
        refine lv_icmp_ne hx hb d_Sm_applyDownTo_24 rfl (fun h6 => ?_) (fun h6 => ?_)
        · have g6 : ¬ (r3.toInt = 6) := fun q => h6 (Int32.toInt_inj.mp q)
          refine lv_iconst (v := 2) hx hb d_Sm_applyDownTo_31 (by decide) ?_
          refine lv_istore hx hb d_Sm_applyDownTo_32 hl (by decide) rfl (fun ls hl => ?_)
          have hl : lv_has ls 7 [(4, .int 2), (3, .int (Mc5 52 x2.toNatClampNeg)), (0, .ref (ad 50)), (1, .int rank), (2, .int i_2)] := hl
          refine lv_iload_n hx hb d_Sm_applyDownTo_34 rfl (lv_at hl 1 rfl) ?_
          refine ux_calli (va_runS ⟨hx, hb, hml, hown, hts⟩ (s_Sm_rankOf l D ad cA Mc5 hI (Mc5 52 x2.toNatClampNeg)) (va_cwS 1 hts (tb_goodST ml_Sm_121 sm_Sm_rankOf ii_Sm kt_Sm_rankOf) rfl rfl rfl (by decide +kernel) ⟨Nat.le_of_ble_eq_true rfl, Nat.le_of_ble_eq_true rfl⟩) (ux_pre hP hK hi hN) rfl rfl hl.1 rfl (lv_room (Nat.le_of_ble_eq_true rfl)) d_Sm_applyDownTo_35 ⟨Nat.zero_le _, Nat.zero_le _⟩) hS (fun r7 M8 H locs q9 hP hS => ?_)
          obtain ⟨hI, fq9, q9p⟩ := q9
          rw [tN_eq fq9] at hP hI
          refine lv_iload_n hx hb d_Sm_applyDownTo_38 rfl (lv_at hl 3 rfl) ?_
          refine lv_icmp_lt hx hb d_Sm_applyDownTo_39 rfl (fun h10 => ?_) (fun h10 => ?_)
          · have g10 : r7.toInt < rank.toInt := Int32.lt_iff_toInt_lt.mp h10
            have u10 := ti_hi rank
            have w10 := ti_lo r7
            exact W.vret hx hb hr (fun t ht hW => ⟨⟨Mc5, rfl, ⟨hI, hF, (by have hq : Mc5 50 5 = i_2 := Int32.toInt_inj.mp c5_4; rw [hq]; exact ⟨by omega, by assumption⟩)⟩, by unfold ux_E; rw [ht]; exact hP⟩, hS.F ht⟩) hS.2.2 d_Sm_applyDownTo_51
          · have g10 : ¬ (r7.toInt < rank.toInt) := fun q => h10 (Int32.lt_iff_toInt_lt.mpr q)
            have u10 := ti_hi r7
            have w10 := ti_lo rank
            refine lv_aload_n hx hb d_Sm_applyDownTo_42 rfl (lv_at hl 2 rfl) ?_
            refine ux_get (C := R_Sm) (T := F_Sm) (N := 14) hx hb hT in_Sm hown hK hP (by decide) rfl rfl 4 (by decide) (hT _ fl_Sm_87) rfl d_Sm_applyDownTo_43 ?_
            have b11 := iv0 (M := Mc5) (a := 50) (b := 4) hI (by unfold p0; omega)
            have b12 := iv200 (M := Mc5) (a := 50) (b := 4) hI (by unfold p200; omega)
            refine lv_iload hx hb d_Sm_applyDownTo_46 (lv_at hl 0 rfl) ?_
            refine lv_icmp_ge hx hb d_Sm_applyDownTo_48 rfl (fun h13 => ?_) (fun h13 => ?_)
            · have g13 : 2 ≤ (Mc5 50 4).toInt := Int32.le_iff_toInt_le.mp h13
              have u13 := ti_hi (Mc5 50 4)
              have hns : ¬ (M 52 z16.toNatClampNeg).toInt = 40 := by rw [← hF 52 _ (by unfold tSa; omega), ez16]; omega
              refine lv_aload_n hx hb d_Sm_applyDownTo_52 rfl (lv_at hl 2 rfl) ?_
              refine ux_get (C := R_Sm) (T := F_Sm) (N := 14) hx hb hT in_Sm hown hK hP (by decide) rfl rfl 2 (by decide) (hT _ fl_Sm_9) rfl d_Sm_applyDownTo_53 ?_
              refine lv_aload_n hx hb d_Sm_applyDownTo_56 rfl (lv_at hl 2 rfl) ?_
              refine ux_get (C := R_Sm) (T := F_Sm) (N := 14) hx hb hT in_Sm hown hK hP (by decide) rfl rfl 4 (by decide) (hT _ fl_Sm_87) rfl d_Sm_applyDownTo_57 ?_
              have b14 := iv0 (M := Mc5) (a := 50) (b := 4) hI (by unfold p0; omega)
              have b15 := iv200 (M := Mc5) (a := 50) (b := 4) hI (by unfold p200; omega)
              refine lv_iconst (v := 1) hx hb d_Sm_applyDownTo_60 (by decide) ?_
              refine lv_isub hx hb d_Sm_applyDownTo_61 ?_
              refine lv_topi (fun x16 ex16 => ?_)
              try have fx16 : x16.toInt = (Mc5 50 4).toInt - 1 := by rw [ex16]; exact ti_sub (by (try rw [show (1 : Int32).toInt = 1 from rfl]); omega) (by (try rw [show (1 : Int32).toInt = 1 from rfl]); omega)
              refine ux_iald hx hb hK hP (by decide) rfl ((vi (show 0 ≤ x16.toInt by omega) (show x16.toInt < ((200 : Nat) : Int) by omega))) d_Sm_applyDownTo_62 ?_
              refine lv_istore hx hb d_Sm_applyDownTo_63 hl (by decide) rfl (fun ls hl => ?_)
              have hl : lv_has ls 7 [(5, .int (Mc5 51 x16.toNatClampNeg)), (4, .int 2), (3, .int (Mc5 52 x2.toNatClampNeg)), (0, .ref (ad 50)), (1, .int rank), (2, .int i_2)] := hl
              refine lv_aload_n hx hb d_Sm_applyDownTo_65 rfl (lv_at hl 3 rfl) ?_
              refine lv_dup hx hb d_Sm_applyDownTo_66 rfl ?_
              refine ux_get (C := R_Sm) (T := F_Sm) (N := 14) hx hb hT in_Sm hown hK hP (by decide) rfl rfl 4 (by decide) (hT _ fl_Sm_87) rfl d_Sm_applyDownTo_67 ?_
              have b17 := iv0 (M := Mc5) (a := 50) (b := 4) hI (by unfold p0; omega)
              have b18 := iv200 (M := Mc5) (a := 50) (b := 4) hI (by unfold p200; omega)
              refine lv_iload hx hb d_Sm_applyDownTo_70 (lv_at hl 1 rfl) ?_
              refine lv_isub hx hb d_Sm_applyDownTo_72 ?_
              refine lv_topi (fun x19 ex19 => ?_)
              try have fx19 : x19.toInt = (Mc5 50 4).toInt - 2 := by rw [ex19]; exact ti_sub (by (try rw [show (2 : Int32).toInt = 2 from rfl]); omega) (by (try rw [show (2 : Int32).toInt = 2 from rfl]); omega)
              refine ux_put (C := R_Sm) (T := F_Sm) (N := 14) hx hb hT in_Sm t_Sm t_Sm_ok n_Sm hown hK hi hP hS (by decide) rfl rfl 4 (by decide) (hT _ fl_Sm_87) rfl (rfl) (rfl) rfl d_Sm_applyDownTo_73 (fun H locs hP hS => ?_)
              have hI := IvX_wr (k := 50) (j := 4) (v := x19) hI (fun q => by unfold p0 at q; omega) (fun q => by unfold p8 at q; omega) (fun q => by unfold p20 at q; omega) (fun q => by unfold p40 at q; omega) (fun q => by unfold p200 at q; omega) (fun q => by unfold pch at q; omega)
              have hF := fr_wr (k := 50) (j := 4) (v := x19) hF (by unfold tSa; omega)
              generalize eM20 : ux_wr Mc5 50 4 x19 = M20 at hP hI hF
              refine lv_aload_n hx hb d_Sm_applyDownTo_76 rfl (lv_at hl 3 rfl) ?_
              refine ux_get (C := R_Sm) (T := F_Sm) (N := 14) hx hb hT in_Sm hown hK hP (by decide) rfl rfl 2 (by decide) (hT _ fl_Sm_9) rfl d_Sm_applyDownTo_77 ?_
              refine lv_aload_n hx hb d_Sm_applyDownTo_80 rfl (lv_at hl 3 rfl) ?_
              refine ux_get (C := R_Sm) (T := F_Sm) (N := 14) hx hb hT in_Sm hown hK hP (by decide) rfl rfl 4 (by decide) (hT _ fl_Sm_87) rfl d_Sm_applyDownTo_81 ?_
              refine lv_topi (fun z21 hz21 => ?_)
              rw [show M20 50 4 = x19 from wr_at eM20] at hz21
              rw [hz21]
              refine ux_iald hx hb hK hP (by decide) rfl ((vi (show 0 ≤ x19.toInt by omega) (show x19.toInt < ((200 : Nat) : Int) by omega))) d_Sm_applyDownTo_84 ?_
              refine lv_istore hx hb d_Sm_applyDownTo_85 hl (by decide) rfl (fun ls hl => ?_)
              have hl : lv_has ls 7 [(6, .int (M20 51 x19.toNatClampNeg)), (5, .int (Mc5 51 x16.toNatClampNeg)), (4, .int 2), (3, .int (Mc5 52 x2.toNatClampNeg)), (0, .ref (ad 50)), (1, .int rank), (2, .int i_2)] := hl
              refine lv_aload_n hx hb d_Sm_applyDownTo_87 rfl (lv_at hl 4 rfl) ?_
              refine ux_get (C := R_Sm) (T := F_Sm) (N := 14) hx hb hT in_Sm hown hK hP (by decide) rfl rfl 2 (by decide) (hT _ fl_Sm_9) rfl d_Sm_applyDownTo_88 ?_
              refine lv_aload_n hx hb d_Sm_applyDownTo_91 rfl (lv_at hl 4 rfl) ?_
              refine ux_get (C := R_Sm) (T := F_Sm) (N := 14) hx hb hT in_Sm hown hK hP (by decide) rfl rfl 4 (by decide) (hT _ fl_Sm_87) rfl d_Sm_applyDownTo_92 ?_
              refine lv_topi (fun z22 hz22 => ?_)
              rw [show M20 50 4 = x19 from wr_at eM20] at hz22
              rw [hz22]
              refine lv_iload hx hb d_Sm_applyDownTo_95 (lv_at hl 2 rfl) ?_
              refine lv_iconst (v := 1) hx hb d_Sm_applyDownTo_97 (by decide) ?_
              refine lv_icmp_ne hx hb d_Sm_applyDownTo_98 rfl (fun _ => ?_) (fun hz => absurd hz (by decide))
              refine lv_aload_n hx hb d_Sm_applyDownTo_110 rfl (lv_at hl 4 rfl) ?_
              refine lv_iload_n hx hb d_Sm_applyDownTo_111 rfl (lv_at hl 3 rfl) ?_
              refine lv_iload hx hb d_Sm_applyDownTo_112 (lv_at hl 0 rfl) ?_
              refine lv_iload hx hb d_Sm_applyDownTo_114 (lv_at hl 1 rfl) ?_
              refine ux_calli (va_runV ⟨hx, hb, hml, hown, hts⟩ (s_Sm_joined l D ad cA M20 hI (Mc5 52 x2.toNatClampNeg) (M20 51 x19.toNatClampNeg) (Mc5 51 x16.toNatClampNeg)) (cwV 3 hts (tb_goodV ml_Sm_129 im_Sm_joined se_Sm_joined ii_Sm kt_Sm_joined) rfl rfl rfl (by decide +kernel) ⟨Nat.le_of_ble_eq_true rfl, Nat.le_of_ble_eq_true rfl⟩) (ux_preV (by decide) rfl rfl hP hK hi hN) rfl rfl hl.1 rfl (lv_room (Nat.le_of_ble_eq_true rfl)) d_Sm_applyDownTo_116 ⟨Nat.zero_le _, Nat.zero_le _⟩) hS (fun r23 M24 H locs q25 hP hS => ?_)
              obtain ⟨hI, fq25, q25p⟩ := q25
              have hF := fr_call hF fq25 (fun a b q => by unfold tSj at q; unfold tSa; omega)
              refine ux_iast hx hb hK hi hP hS (by decide) rfl ((vi (show 0 ≤ x19.toInt by omega) (show x19.toInt < ((200 : Nat) : Int) by omega))) d_Sm_applyDownTo_119 (fun H locs hP hS => ?_)
              have hI := IvX_free (k := 51) (j := x19.toNatClampNeg) (v := r23) hI (by unfold ppn; omega) (by unfold pch; omega)
              have hF := fr_wr (k := 51) (j := x19.toNatClampNeg) (v := r23) hF (by unfold tSa; omega)
              generalize eM26 : ux_wr M24 51 x19.toNatClampNeg r23 = M26 at hP hI hF
              refine lv_aload_n hx hb d_Sm_applyDownTo_120 rfl (lv_at hl 4 rfl) ?_
              refine lv_dup hx hb d_Sm_applyDownTo_121 rfl ?_
              refine ux_get (C := R_Sm) (T := F_Sm) (N := 14) hx hb hT in_Sm hown hK hP (by decide) rfl rfl 4 (by decide) (hT _ fl_Sm_87) rfl d_Sm_applyDownTo_122 ?_
              refine lv_topi (fun z27 hz27 => ?_)
              rw [show M26 50 4 = x19 from (wr_off eM26 (by omega)).trans ((fq25 _ _ (by unfold tSj; omega)).trans (wr_at eM20))] at hz27
              rw [hz27]
              refine lv_iconst (v := 1) hx hb d_Sm_applyDownTo_125 (by decide) ?_
              refine lv_iadd hx hb d_Sm_applyDownTo_126 ?_
              refine lv_topi (fun x28 ex28 => ?_)
              try have fx28 : x28.toInt = x19.toInt + 1 := by rw [ex28]; exact ti_add (by (try rw [show (1 : Int32).toInt = 1 from rfl]); omega) (by (try rw [show (1 : Int32).toInt = 1 from rfl]); omega)
              refine ux_put (C := R_Sm) (T := F_Sm) (N := 14) hx hb hT in_Sm t_Sm t_Sm_ok n_Sm hown hK hi hP hS (by decide) rfl rfl 4 (by decide) (hT _ fl_Sm_87) rfl (rfl) (rfl) rfl d_Sm_applyDownTo_127 (fun H locs hP hS => ?_)
              have hI := IvX_wr (k := 50) (j := 4) (v := x28) hI (fun q => by unfold p0 at q; omega) (fun q => by unfold p8 at q; omega) (fun q => by unfold p20 at q; omega) (fun q => by unfold p40 at q; omega) (fun q => by unfold p200 at q; omega) (fun q => by unfold pch at q; omega)
              have hF := fr_wr (k := 50) (j := 4) (v := x28) hF (by unfold tSa; omega)
              generalize eM29 : ux_wr M26 50 4 x28 = M29 at hP hI hF
              refine lv_aload_n hx hb d_Sm_applyDownTo_130 rfl (lv_at hl 4 rfl) ?_
              refine lv_iload_n hx hb d_Sm_applyDownTo_131 rfl (lv_at hl 6 rfl) ?_
              refine lv_iconst (v := 1) hx hb d_Sm_applyDownTo_132 (by decide) ?_
              refine lv_isub hx hb d_Sm_applyDownTo_133 ?_
              refine lv_topi (fun x30 ex30 => ?_)
              try have fx30 : x30.toInt = i_2.toInt - 1 := by rw [ex30]; exact ti_sub (by (try rw [show (1 : Int32).toInt = 1 from rfl]); omega) (by (try rw [show (1 : Int32).toInt = 1 from rfl]); omega)
              refine ux_put (C := R_Sm) (T := F_Sm) (N := 14) hx hb hT in_Sm t_Sm t_Sm_ok n_Sm hown hK hi hP hS (by decide) rfl rfl 5 (by decide) (hT _ fl_Sm_90) rfl (rfl) (rfl) rfl d_Sm_applyDownTo_134 (fun H locs hP hS => ?_)
              have hI := IvX_wr (k := 50) (j := 5) (v := x30) hI (fun q => by unfold p0 at q; omega) (fun q => by unfold p8 at q; omega) (fun q => by unfold p20 at q; omega) (fun q => by unfold p40 at q; omega) (fun q => by unfold p200 at q; omega) (fun q => by unfold pch at q; omega)
              have hF := fr_wr (k := 50) (j := 5) (v := x30) hF (by unfold tSa; omega)
              generalize eM31 : ux_wr M29 50 5 x30 = M31 at hP hI hF
              have hsc : (M31 50 5).toInt = x30.toInt := by rw [wr_at eM31]
              obtain ⟨x32, ex32⟩ : ∃ z : Int32, z = i_2 + (-1) := ⟨_, rfl⟩
              refine lv_iinc (k := 6) (v := x32) hx hb d_Sm_applyDownTo_137 hl rfl ex32.symm (by decide) rfl (fun ls hl => ?_)
              have hl : lv_has ls 7 [(2, .int x32), (6, .int (M20 51 x19.toNatClampNeg)), (5, .int (Mc5 51 x16.toNatClampNeg)), (4, .int 2), (3, .int (Mc5 52 x2.toNatClampNeg)), (0, .ref (ad 50)), (1, .int rank)] := hl
              try have fx32 : x32.toInt = i_2.toInt + (-1) := by rw [ex32]; exact ti_add (by (try rw [show ((-1) : Int32).toInt = (-1) from rfl]); omega) (by (try rw [show ((-1) : Int32).toInt = (-1) from rfl]); omega)
              refine lv_goto hx hb d_Sm_applyDownTo_140 rfl ?_
              exact ih5 (x32.toInt.toNat) (by omega) x32 M31 _ _ ls rfl (show 0 ≤ x32.toInt from by first | omega | assumption | exact Or.inl rfl | exact Or.inr rfl | rfl | decide) (show x32.toInt ≤ 200 from by first | omega | assumption | exact Or.inl rfl | exact Or.inr rfl | rfl | decide) (show x32.toInt ≤ (M 50 5).toInt from by first | omega | assumption | exact Or.inl rfl | exact Or.inr rfl | rfl | decide) (show c40 (M 52) x32.toNatClampNeg = c40 (M 52) (M 50 5).toNatClampNeg from by first | rfl | exact (c40_p (f := M 52) (x := i_2) (z := z16) (by omega) (by omega) (by omega) hns).trans (by assumption)) (show (M31 50 5).toInt = x32.toInt from by first | omega | assumption | exact Or.inl rfl | exact Or.inr rfl | rfl | decide) hP hI hF hS (lv_sub hl [5, 6, 0] rfl)
            · have g13 : ¬ (2 ≤ (Mc5 50 4).toInt) := fun q => h13 (Int32.le_iff_toInt_le.mpr q)
              have w13 := ti_lo (Mc5 50 4)
              exact W.vret hx hb hr (fun t ht hW => ⟨⟨Mc5, rfl, ⟨hI, hF, (by have hq : Mc5 50 5 = i_2 := Int32.toInt_inj.mp c5_4; rw [hq]; exact ⟨by omega, by assumption⟩)⟩, by unfold ux_E; rw [ht]; exact hP⟩, hS.F ht⟩) hS.2.2 d_Sm_applyDownTo_51
        · have g6 : r3.toInt = 6 := congrArg Int32.toInt h6
          refine lv_iconst (v := 1) hx hb d_Sm_applyDownTo_27 (by decide) ?_
          refine lv_goto hx hb d_Sm_applyDownTo_28 rfl ?_
          refine lv_istore hx hb d_Sm_applyDownTo_32 hl (by decide) rfl (fun ls hl => ?_)
          have hl : lv_has ls 7 [(4, .int 1), (3, .int (Mc5 52 x2.toNatClampNeg)), (0, .ref (ad 50)), (1, .int rank), (2, .int i_2)] := hl
          refine lv_iload_n hx hb d_Sm_applyDownTo_34 rfl (lv_at hl 1 rfl) ?_
          refine ux_calli (va_runS ⟨hx, hb, hml, hown, hts⟩ (s_Sm_rankOf l D ad cA Mc5 hI (Mc5 52 x2.toNatClampNeg)) (va_cwS 1 hts (tb_goodST ml_Sm_121 sm_Sm_rankOf ii_Sm kt_Sm_rankOf) rfl rfl rfl (by decide +kernel) ⟨Nat.le_of_ble_eq_true rfl, Nat.le_of_ble_eq_true rfl⟩) (ux_pre hP hK hi hN) rfl rfl hl.1 rfl (lv_room (Nat.le_of_ble_eq_true rfl)) d_Sm_applyDownTo_35 ⟨Nat.zero_le _, Nat.zero_le _⟩) hS (fun r33 M34 H locs q35 hP hS => ?_)
          obtain ⟨hI, fq35, q35p⟩ := q35
          rw [tN_eq fq35] at hP hI
          refine lv_iload_n hx hb d_Sm_applyDownTo_38 rfl (lv_at hl 3 rfl) ?_
          refine lv_icmp_lt hx hb d_Sm_applyDownTo_39 rfl (fun h36 => ?_) (fun h36 => ?_)
          · have g36 : r33.toInt < rank.toInt := Int32.lt_iff_toInt_lt.mp h36
            have u36 := ti_hi rank
            have w36 := ti_lo r33
            exact W.vret hx hb hr (fun t ht hW => ⟨⟨Mc5, rfl, ⟨hI, hF, (by have hq : Mc5 50 5 = i_2 := Int32.toInt_inj.mp c5_4; rw [hq]; exact ⟨by omega, by assumption⟩)⟩, by unfold ux_E; rw [ht]; exact hP⟩, hS.F ht⟩) hS.2.2 d_Sm_applyDownTo_51
          · have g36 : ¬ (r33.toInt < rank.toInt) := fun q => h36 (Int32.lt_iff_toInt_lt.mpr q)
            have u36 := ti_hi r33
            have w36 := ti_lo rank
            refine lv_aload_n hx hb d_Sm_applyDownTo_42 rfl (lv_at hl 2 rfl) ?_
            refine ux_get (C := R_Sm) (T := F_Sm) (N := 14) hx hb hT in_Sm hown hK hP (by decide) rfl rfl 4 (by decide) (hT _ fl_Sm_87) rfl d_Sm_applyDownTo_43 ?_
            have b37 := iv0 (M := Mc5) (a := 50) (b := 4) hI (by unfold p0; omega)
            have b38 := iv200 (M := Mc5) (a := 50) (b := 4) hI (by unfold p200; omega)
            refine lv_iload hx hb d_Sm_applyDownTo_46 (lv_at hl 0 rfl) ?_
            refine lv_icmp_ge hx hb d_Sm_applyDownTo_48 rfl (fun h39 => ?_) (fun h39 => ?_)
            · have g39 : 1 ≤ (Mc5 50 4).toInt := Int32.le_iff_toInt_le.mp h39
              have u39 := ti_hi (Mc5 50 4)
              have hns : ¬ (M 52 z16.toNatClampNeg).toInt = 40 := by rw [← hF 52 _ (by unfold tSa; omega), ez16]; omega
              refine lv_aload_n hx hb d_Sm_applyDownTo_52 rfl (lv_at hl 2 rfl) ?_
              refine ux_get (C := R_Sm) (T := F_Sm) (N := 14) hx hb hT in_Sm hown hK hP (by decide) rfl rfl 2 (by decide) (hT _ fl_Sm_9) rfl d_Sm_applyDownTo_53 ?_
              refine lv_aload_n hx hb d_Sm_applyDownTo_56 rfl (lv_at hl 2 rfl) ?_
              refine ux_get (C := R_Sm) (T := F_Sm) (N := 14) hx hb hT in_Sm hown hK hP (by decide) rfl rfl 4 (by decide) (hT _ fl_Sm_87) rfl d_Sm_applyDownTo_57 ?_
              have b40 := iv0 (M := Mc5) (a := 50) (b := 4) hI (by unfold p0; omega)
              have b41 := iv200 (M := Mc5) (a := 50) (b := 4) hI (by unfold p200; omega)
              refine lv_iconst (v := 1) hx hb d_Sm_applyDownTo_60 (by decide) ?_
              refine lv_isub hx hb d_Sm_applyDownTo_61 ?_
              refine lv_topi (fun x42 ex42 => ?_)
              try have fx42 : x42.toInt = (Mc5 50 4).toInt - 1 := by rw [ex42]; exact ti_sub (by (try rw [show (1 : Int32).toInt = 1 from rfl]); omega) (by (try rw [show (1 : Int32).toInt = 1 from rfl]); omega)
              refine ux_iald hx hb hK hP (by decide) rfl ((vi (show 0 ≤ x42.toInt by omega) (show x42.toInt < ((200 : Nat) : Int) by omega))) d_Sm_applyDownTo_62 ?_
              refine lv_istore hx hb d_Sm_applyDownTo_63 hl (by decide) rfl (fun ls hl => ?_)
              have hl : lv_has ls 7 [(5, .int (Mc5 51 x42.toNatClampNeg)), (4, .int 1), (3, .int (Mc5 52 x2.toNatClampNeg)), (0, .ref (ad 50)), (1, .int rank), (2, .int i_2)] := hl
              refine lv_aload_n hx hb d_Sm_applyDownTo_65 rfl (lv_at hl 3 rfl) ?_
              refine lv_dup hx hb d_Sm_applyDownTo_66 rfl ?_
              refine ux_get (C := R_Sm) (T := F_Sm) (N := 14) hx hb hT in_Sm hown hK hP (by decide) rfl rfl 4 (by decide) (hT _ fl_Sm_87) rfl d_Sm_applyDownTo_67 ?_
              have b43 := iv0 (M := Mc5) (a := 50) (b := 4) hI (by unfold p0; omega)
              have b44 := iv200 (M := Mc5) (a := 50) (b := 4) hI (by unfold p200; omega)
              refine lv_iload hx hb d_Sm_applyDownTo_70 (lv_at hl 1 rfl) ?_
              refine lv_isub hx hb d_Sm_applyDownTo_72 ?_
              refine lv_topi (fun x45 ex45 => ?_)
              try have fx45 : x45.toInt = (Mc5 50 4).toInt - 1 := by rw [ex45]; exact ti_sub (by (try rw [show (1 : Int32).toInt = 1 from rfl]); omega) (by (try rw [show (1 : Int32).toInt = 1 from rfl]); omega)
              refine ux_put (C := R_Sm) (T := F_Sm) (N := 14) hx hb hT in_Sm t_Sm t_Sm_ok n_Sm hown hK hi hP hS (by decide) rfl rfl 4 (by decide) (hT _ fl_Sm_87) rfl (rfl) (rfl) rfl d_Sm_applyDownTo_73 (fun H locs hP hS => ?_)
              have hI := IvX_wr (k := 50) (j := 4) (v := x45) hI (fun q => by unfold p0 at q; omega) (fun q => by unfold p8 at q; omega) (fun q => by unfold p20 at q; omega) (fun q => by unfold p40 at q; omega) (fun q => by unfold p200 at q; omega) (fun q => by unfold pch at q; omega)
              have hF := fr_wr (k := 50) (j := 4) (v := x45) hF (by unfold tSa; omega)
              generalize eM46 : ux_wr Mc5 50 4 x45 = M46 at hP hI hF
              refine lv_aload_n hx hb d_Sm_applyDownTo_76 rfl (lv_at hl 3 rfl) ?_
              refine ux_get (C := R_Sm) (T := F_Sm) (N := 14) hx hb hT in_Sm hown hK hP (by decide) rfl rfl 2 (by decide) (hT _ fl_Sm_9) rfl d_Sm_applyDownTo_77 ?_
              refine lv_aload_n hx hb d_Sm_applyDownTo_80 rfl (lv_at hl 3 rfl) ?_
              refine ux_get (C := R_Sm) (T := F_Sm) (N := 14) hx hb hT in_Sm hown hK hP (by decide) rfl rfl 4 (by decide) (hT _ fl_Sm_87) rfl d_Sm_applyDownTo_81 ?_
              refine lv_topi (fun z47 hz47 => ?_)
              rw [show M46 50 4 = x45 from wr_at eM46] at hz47
              rw [hz47]
              refine ux_iald hx hb hK hP (by decide) rfl ((vi (show 0 ≤ x45.toInt by omega) (show x45.toInt < ((200 : Nat) : Int) by omega))) d_Sm_applyDownTo_84 ?_
              refine lv_istore hx hb d_Sm_applyDownTo_85 hl (by decide) rfl (fun ls hl => ?_)
              have hl : lv_has ls 7 [(6, .int (M46 51 x45.toNatClampNeg)), (5, .int (Mc5 51 x42.toNatClampNeg)), (4, .int 1), (3, .int (Mc5 52 x2.toNatClampNeg)), (0, .ref (ad 50)), (1, .int rank), (2, .int i_2)] := hl
              refine lv_aload_n hx hb d_Sm_applyDownTo_87 rfl (lv_at hl 4 rfl) ?_
              refine ux_get (C := R_Sm) (T := F_Sm) (N := 14) hx hb hT in_Sm hown hK hP (by decide) rfl rfl 2 (by decide) (hT _ fl_Sm_9) rfl d_Sm_applyDownTo_88 ?_
              refine lv_aload_n hx hb d_Sm_applyDownTo_91 rfl (lv_at hl 4 rfl) ?_
              refine ux_get (C := R_Sm) (T := F_Sm) (N := 14) hx hb hT in_Sm hown hK hP (by decide) rfl rfl 4 (by decide) (hT _ fl_Sm_87) rfl d_Sm_applyDownTo_92 ?_
              refine lv_topi (fun z48 hz48 => ?_)
              rw [show M46 50 4 = x45 from wr_at eM46] at hz48
              rw [hz48]
              refine lv_iload hx hb d_Sm_applyDownTo_95 (lv_at hl 2 rfl) ?_
              refine lv_iconst (v := 1) hx hb d_Sm_applyDownTo_97 (by decide) ?_
              refine lv_icmp_ne hx hb d_Sm_applyDownTo_98 rfl (fun hz => absurd (by decide) hz) (fun _ => ?_)
              refine lv_iload_n hx hb d_Sm_applyDownTo_101 rfl (lv_at hl 3 rfl) ?_
              refine lv_iload hx hb d_Sm_applyDownTo_102 (lv_at hl 1 rfl) ?_
              refine ux_calli (va_runS ⟨hx, hb, hml, hown, hts⟩ (s_Sm_changed l D ad cA M46 hI (Mc5 52 x2.toNatClampNeg) (Mc5 51 x42.toNatClampNeg)) (va_cwS 2 hts (tb_goodST ml_Sm_125 sm_Sm_changed ii_Sm kt_Sm_changed) rfl rfl rfl (by decide +kernel) ⟨Nat.le_of_ble_eq_true rfl, Nat.le_of_ble_eq_true rfl⟩) (ux_pre hP hK hi hN) rfl rfl hl.1 rfl (lv_room (Nat.le_of_ble_eq_true rfl)) d_Sm_applyDownTo_104 ⟨Nat.zero_le _, Nat.zero_le _⟩) hS (fun r49 M50 H locs q51 hP hS => ?_)
              obtain ⟨hI, fq51, q51p⟩ := q51
              rw [tN_eq fq51] at hP hI
              refine lv_goto hx hb d_Sm_applyDownTo_107 rfl ?_
              refine ux_iast hx hb hK hi hP hS (by decide) rfl ((vi (show 0 ≤ x45.toInt by omega) (show x45.toInt < ((200 : Nat) : Int) by omega))) d_Sm_applyDownTo_119 (fun H locs hP hS => ?_)
              have hI := IvX_free (k := 51) (j := x45.toNatClampNeg) (v := r49) hI (by unfold ppn; omega) (by unfold pch; omega)
              have hF := fr_wr (k := 51) (j := x45.toNatClampNeg) (v := r49) hF (by unfold tSa; omega)
              generalize eM52 : ux_wr M46 51 x45.toNatClampNeg r49 = M52 at hP hI hF
              refine lv_aload_n hx hb d_Sm_applyDownTo_120 rfl (lv_at hl 4 rfl) ?_
              refine lv_dup hx hb d_Sm_applyDownTo_121 rfl ?_
              refine ux_get (C := R_Sm) (T := F_Sm) (N := 14) hx hb hT in_Sm hown hK hP (by decide) rfl rfl 4 (by decide) (hT _ fl_Sm_87) rfl d_Sm_applyDownTo_122 ?_
              refine lv_topi (fun z53 hz53 => ?_)
              rw [show M52 50 4 = x45 from (wr_off eM52 (by omega)).trans (wr_at eM46)] at hz53
              rw [hz53]
              refine lv_iconst (v := 1) hx hb d_Sm_applyDownTo_125 (by decide) ?_
              refine lv_iadd hx hb d_Sm_applyDownTo_126 ?_
              refine lv_topi (fun x54 ex54 => ?_)
              try have fx54 : x54.toInt = x45.toInt + 1 := by rw [ex54]; exact ti_add (by (try rw [show (1 : Int32).toInt = 1 from rfl]); omega) (by (try rw [show (1 : Int32).toInt = 1 from rfl]); omega)
              refine ux_put (C := R_Sm) (T := F_Sm) (N := 14) hx hb hT in_Sm t_Sm t_Sm_ok n_Sm hown hK hi hP hS (by decide) rfl rfl 4 (by decide) (hT _ fl_Sm_87) rfl (rfl) (rfl) rfl d_Sm_applyDownTo_127 (fun H locs hP hS => ?_)
              have hI := IvX_wr (k := 50) (j := 4) (v := x54) hI (fun q => by unfold p0 at q; omega) (fun q => by unfold p8 at q; omega) (fun q => by unfold p20 at q; omega) (fun q => by unfold p40 at q; omega) (fun q => by unfold p200 at q; omega) (fun q => by unfold pch at q; omega)
              have hF := fr_wr (k := 50) (j := 4) (v := x54) hF (by unfold tSa; omega)
              generalize eM55 : ux_wr M52 50 4 x54 = M55 at hP hI hF
              refine lv_aload_n hx hb d_Sm_applyDownTo_130 rfl (lv_at hl 4 rfl) ?_
              refine lv_iload_n hx hb d_Sm_applyDownTo_131 rfl (lv_at hl 6 rfl) ?_
              refine lv_iconst (v := 1) hx hb d_Sm_applyDownTo_132 (by decide) ?_
              refine lv_isub hx hb d_Sm_applyDownTo_133 ?_
              refine lv_topi (fun x56 ex56 => ?_)
              try have fx56 : x56.toInt = i_2.toInt - 1 := by rw [ex56]; exact ti_sub (by (try rw [show (1 : Int32).toInt = 1 from rfl]); omega) (by (try rw [show (1 : Int32).toInt = 1 from rfl]); omega)
              refine ux_put (C := R_Sm) (T := F_Sm) (N := 14) hx hb hT in_Sm t_Sm t_Sm_ok n_Sm hown hK hi hP hS (by decide) rfl rfl 5 (by decide) (hT _ fl_Sm_90) rfl (rfl) (rfl) rfl d_Sm_applyDownTo_134 (fun H locs hP hS => ?_)
              have hI := IvX_wr (k := 50) (j := 5) (v := x56) hI (fun q => by unfold p0 at q; omega) (fun q => by unfold p8 at q; omega) (fun q => by unfold p20 at q; omega) (fun q => by unfold p40 at q; omega) (fun q => by unfold p200 at q; omega) (fun q => by unfold pch at q; omega)
              have hF := fr_wr (k := 50) (j := 5) (v := x56) hF (by unfold tSa; omega)
              generalize eM57 : ux_wr M55 50 5 x56 = M57 at hP hI hF
              have hsc : (M57 50 5).toInt = x56.toInt := by rw [wr_at eM57]
              obtain ⟨x58, ex58⟩ : ∃ z : Int32, z = i_2 + (-1) := ⟨_, rfl⟩
              refine lv_iinc (k := 6) (v := x58) hx hb d_Sm_applyDownTo_137 hl rfl ex58.symm (by decide) rfl (fun ls hl => ?_)
              have hl : lv_has ls 7 [(2, .int x58), (6, .int (M46 51 x45.toNatClampNeg)), (5, .int (Mc5 51 x42.toNatClampNeg)), (4, .int 1), (3, .int (Mc5 52 x2.toNatClampNeg)), (0, .ref (ad 50)), (1, .int rank)] := hl
              try have fx58 : x58.toInt = i_2.toInt + (-1) := by rw [ex58]; exact ti_add (by (try rw [show ((-1) : Int32).toInt = (-1) from rfl]); omega) (by (try rw [show ((-1) : Int32).toInt = (-1) from rfl]); omega)
              refine lv_goto hx hb d_Sm_applyDownTo_140 rfl ?_
              exact ih5 (x58.toInt.toNat) (by omega) x58 M57 _ _ ls rfl (show 0 ≤ x58.toInt from by first | omega | assumption | exact Or.inl rfl | exact Or.inr rfl | rfl | decide) (show x58.toInt ≤ 200 from by first | omega | assumption | exact Or.inl rfl | exact Or.inr rfl | rfl | decide) (show x58.toInt ≤ (M 50 5).toInt from by first | omega | assumption | exact Or.inl rfl | exact Or.inr rfl | rfl | decide) (show c40 (M 52) x58.toNatClampNeg = c40 (M 52) (M 50 5).toNatClampNeg from by first | rfl | exact (c40_p (f := M 52) (x := i_2) (z := z16) (by omega) (by omega) (by omega) hns).trans (by assumption)) (show (M57 50 5).toInt = x58.toInt from by first | omega | assumption | exact Or.inl rfl | exact Or.inr rfl | rfl | decide) hP hI hF hS (lv_sub hl [5, 6, 0] rfl)
            · have g39 : ¬ (1 ≤ (Mc5 50 4).toInt) := fun q => h39 (Int32.le_iff_toInt_le.mpr q)
              have w39 := ti_lo (Mc5 50 4)
              exact W.vret hx hb hr (fun t ht hW => ⟨⟨Mc5, rfl, ⟨hI, hF, (by have hq : Mc5 50 5 = i_2 := Int32.toInt_inj.mp c5_4; rw [hq]; exact ⟨by omega, by assumption⟩)⟩, by unfold ux_E; rw [ht]; exact hP⟩, hS.F ht⟩) hS.2.2 d_Sm_applyDownTo_51
  have hsc0 := iv0 (a := 50) (b := 5) hI (by unfold p0; omega)
  have hsc2 := iv200 (a := 50) (b := 5) hI (by unfold p200; omega)
  refine lv_aload_n hx hb d_Sm_applyDownTo_0 rfl (lv_at hl 0 rfl) ?_
  refine ux_get (C := R_Sm) (T := F_Sm) (N := 14) hx hb hT in_Sm hown hK hP (by decide) rfl rfl 5 (by decide) (hT _ fl_Sm_90) rfl d_Sm_applyDownTo_1 ?_
  have b59 := iv0 (M := M) (a := 50) (b := 5) hI (by unfold p0; omega)
  have b60 := iv200 (M := M) (a := 50) (b := 5) hI (by unfold p200; omega)
  refine lv_istore_n hx hb d_Sm_applyDownTo_4 rfl hl (by decide) rfl (fun ls hl => ?_)
  have hl : lv_has ls 7 [(2, .int (M 50 5)), (0, .ref (ad 50)), (1, .int rank)] := hl
  exact cut5 ((M 50 5).toInt.toNat) (M 50 5) M _ _ ls rfl (show 0 ≤ (M 50 5).toInt from by first | omega | assumption | exact Or.inl rfl | exact Or.inr rfl | rfl | decide) (show (M 50 5).toInt ≤ 200 from by first | omega | assumption | exact Or.inl rfl | exact Or.inr rfl | rfl | decide) (show (M 50 5).toInt ≤ (M 50 5).toInt from by first | omega | assumption | exact Or.inl rfl | exact Or.inr rfl | rfl | decide) (show c40 (M 52) (M 50 5).toNatClampNeg = c40 (M 52) (M 50 5).toNatClampNeg from by first | rfl | exact (c40_p (f := M 52) (x := i_2) (z := z16) (by omega) (by omega) (by omega) hns).trans (by assumption)) (show (M 50 5).toInt = (M 50 5).toInt from by first | omega | assumption | exact Or.inl rfl | exact Or.inr rfl | rfl | decide) hP hI hF hS (lv_sub hl [1, 2, 0] rfl)

set_option maxHeartbeats 8000000 in
set_option maxRecDepth 100000 in
theorem s_Sm_takeNumber (l : Launch) (D : va_G) (ad : Nat → Nat) (cA : Nat → ClassId) (M : ux_M) (hI : IvX M) (ch : Int32) : Met l y_Sm_takeNumber w_Sm_takeNumber ({ frames := 1, cells := 0, slots := 0, locals := 21 }) (va_Pc [.ref (ad 50), .int ch] (ux_B D shX KX ad cA M)) (va_Qi (fun r M1 => IvX M1 ∧ (∀ a b, ¬ tSn a b → M1 a b = M a b) ∧ (r = 0 ∨ r = 1)) (ux_E D shX KX ad cA) (ux_A KX ad)) 0 0 (ux_A KX ad) := by
  refine Met.ofW (cc := b_Sm_takeNumber) (maxL := 4) (ret := (some .boolean)) (by decide) rfl ?_
  intro p e s m args below meth c s₁ B hml hv
  obtain ⟨rfl, hP, hK, hi, hN⟩ := hv
  have hx := B.exec
  have hb := B.bytes
  have hr := B.returns
  have hts := atoms_spec (ws := w_Sm_takeNumber) B.pre
  have hown : s.vm.findClass R_Sm = some m.cls := findClass_of_methodNamed B.named
  have hlocks := B.notSynchronized
  have hT : ∀ w ∈ tb, w.before _ s = true := fun w h => hts w (List.mem_cons_of_mem _ h)
  have hS : va_S (ux_A KX ad) s.heap s.heap [] := va_S.rf
  have hl := lv_entry ([.ref (ad 50), .int ch]) (n := 4) (Nat.le_of_ble_eq_true rfl)
  rw [lg_entry_eq]
  generalize (lg_sl ([.ref (ad 50), .int ch]) ++ List.replicate (4 - (lg_sl ([.ref (ad 50), .int ch])).length) Slot.unset).toArray = ls at hl ⊢
  have hl : lv_has ls 4 [(0, .ref (ad 50)), (1, .int ch)] := hl
  have hF : ∀ a b, ¬ tSn a b → M a b = M a b := fun _ _ _ => rfl
  have cut7 : ∀ (nn : Nat) (i_2 i_3 : Int32) (Mc7 : ux_M) (H : Heap) (locs : List Loc) (ls : Array Slot), ((10 : Int) - i_3.toInt).toNat = nn → (0 ≤ i_3.toInt) → va_P D classes (ux_w shX KX ad cA Mc7) H → IvX Mc7 → (∀ a b, ¬ tSn a b → Mc7 a b = M a b) → va_S (ux_A KX ad) s.heap H locs → lv_has ls 4 [(0, .ref (ad 50)), (2, .int i_2), (3, .int i_3)] → W p l e (headSpec w_Sm_takeNumber ({ frames := 1, cells := 0, slots := 0, locals := 21 })).room s m (([.ref (ad 50), .int ch] : List Value).toArray) below meth c H locs 0 0 (MQ below (va_Qi (fun r M1 => IvX M1 ∧ (∀ a b, ¬ tSn a b → M1 a b = M a b) ∧ (r = 0 ∨ r = 1)) (ux_E D shX KX ad cA) (ux_A KX ad)) (([.ref (ad 50), .int ch] : List Value).toArray) s 0 0 (ux_A KX ad)) (F0 m 7 ls []) := by
    intro nn
    induction nn using Nat.strongRecOn with
    | ind nn ih7 =>
      intro i_2 i_3 Mc7 H locs ls hn c7_0 hP hI hF hS hl
      refine lv_iload_n hx hb d_Sm_takeNumber_7 rfl (lv_at hl 2 rfl) ?_
      refine lv_bipush (v := 10) hx hb d_Sm_takeNumber_8 (by decide) ?_
      refine lv_icmp_ge hx hb d_Sm_takeNumber_10 rfl (fun h1 => ?_) (fun h1 => ?_)
      · have g1 : 10 ≤ i_3.toInt := Int32.le_iff_toInt_le.mp h1
        have u1 := ti_hi i_3
        refine lv_aload_n hx hb d_Sm_takeNumber_73 rfl (lv_at hl 0 rfl) ?_
        refine lv_iload_n hx hb d_Sm_takeNumber_74 rfl (lv_at hl 1 rfl) ?_
        refine ux_callv (va_runV ⟨hx, hb, hml, hown, hts⟩ (s_Sm_pushOperand l D ad cA Mc7 hI i_2) (cwV 1 hts (tb_goodV ml_Sm_97 im_Sm_pushOperand se_Sm_pushOperand ii_Sm kt_Sm_pushOperand) rfl rfl rfl (by decide +kernel) ⟨Nat.le_of_ble_eq_true rfl, Nat.le_of_ble_eq_true rfl⟩) (ux_preV (by decide) rfl rfl hP hK hi hN) rfl rfl hl.1 rfl (lv_room (Nat.le_of_ble_eq_true rfl)) d_Sm_takeNumber_75 ⟨Nat.zero_le _, Nat.zero_le _⟩) hS (fun M3 H locs q4 hP hS => ?_)
        obtain ⟨hI, fq4, q4p⟩ := q4
        have hF := fr_call hF fq4 (fun a b q => by unfold tSo at q; unfold tSn; omega)
        refine lv_iconst (v := 1) hx hb d_Sm_takeNumber_78 (by decide) ?_
        exact W.zret (v := 1) hx hb hr (rfl) (fun t ht hW => ⟨⟨1, M3, rfl, ⟨hI, hF, Or.inr rfl⟩, by unfold ux_E; rw [ht]; exact hP⟩, hS.F ht⟩) hS.2.2 d_Sm_takeNumber_79
      · have g1 : ¬ (10 ≤ i_3.toInt) := fun q => h1 (Int32.le_iff_toInt_le.mpr q)
        have w1 := ti_lo i_3
        refine lv_aload_n hx hb d_Sm_takeNumber_13 rfl (lv_at hl 0 rfl) ?_
        refine ux_get (C := R_Sm) (T := F_Sm) (N := 14) hx hb hT in_Sm hown hK hP (by decide) rfl rfl 7 (by decide) (hT _ fl_Sm_30) rfl d_Sm_takeNumber_14 ?_
        have b5 := iv0 (M := Mc7) (a := 50) (b := 7) hI (by unfold p0; omega)
        refine lv_aload_n hx hb d_Sm_takeNumber_17 rfl (lv_at hl 0 rfl) ?_
        refine ux_get (C := R_Sm) (T := F_Sm) (N := 14) hx hb hT in_Sm hown hK hP (by decide) rfl rfl 8 (by decide) (hT _ fl_Sm_34) rfl d_Sm_takeNumber_18 ?_
        have b6 := iv200 (M := Mc7) (a := 50) (b := 8) hI (by unfold p200; omega)
        refine lv_icmp_ge hx hb d_Sm_takeNumber_21 rfl (fun h7 => ?_) (fun h7 => ?_)
        · have g7 : (Mc7 50 8).toInt ≤ (Mc7 50 7).toInt := Int32.le_iff_toInt_le.mp h7
          have u7 := ti_hi (Mc7 50 7)
          have w7 := ti_lo (Mc7 50 8)
          refine lv_aload_n hx hb d_Sm_takeNumber_73 rfl (lv_at hl 0 rfl) ?_
          refine lv_iload_n hx hb d_Sm_takeNumber_74 rfl (lv_at hl 1 rfl) ?_
          refine ux_callv (va_runV ⟨hx, hb, hml, hown, hts⟩ (s_Sm_pushOperand l D ad cA Mc7 hI i_2) (cwV 1 hts (tb_goodV ml_Sm_97 im_Sm_pushOperand se_Sm_pushOperand ii_Sm kt_Sm_pushOperand) rfl rfl rfl (by decide +kernel) ⟨Nat.le_of_ble_eq_true rfl, Nat.le_of_ble_eq_true rfl⟩) (ux_preV (by decide) rfl rfl hP hK hi hN) rfl rfl hl.1 rfl (lv_room (Nat.le_of_ble_eq_true rfl)) d_Sm_takeNumber_75 ⟨Nat.zero_le _, Nat.zero_le _⟩) hS (fun M9 H locs q10 hP hS => ?_)
          obtain ⟨hI, fq10, q10p⟩ := q10
          have hF := fr_call hF fq10 (fun a b q => by unfold tSo at q; unfold tSn; omega)
          refine lv_iconst (v := 1) hx hb d_Sm_takeNumber_78 (by decide) ?_
          exact W.zret (v := 1) hx hb hr (rfl) (fun t ht hW => ⟨⟨1, M9, rfl, ⟨hI, hF, Or.inr rfl⟩, by unfold ux_E; rw [ht]; exact hP⟩, hS.F ht⟩) hS.2.2 d_Sm_takeNumber_79
        · have g7 : ¬ ((Mc7 50 8).toInt ≤ (Mc7 50 7).toInt) := fun q => h7 (Int32.le_iff_toInt_le.mpr q)
          have u7 := ti_hi (Mc7 50 8)
          have w7 := ti_lo (Mc7 50 7)
          refine lv_aload_n hx hb d_Sm_takeNumber_24 rfl (lv_at hl 0 rfl) ?_
          refine ux_get (C := R_Sm) (T := F_Sm) (N := 14) hx hb hT in_Sm hown hK hP (by decide) rfl rfl 0 (by decide) (hT _ fl_Sm_19) rfl d_Sm_takeNumber_25 ?_
          refine lv_aload_n hx hb d_Sm_takeNumber_28 rfl (lv_at hl 0 rfl) ?_
          refine ux_get (C := R_Sm) (T := F_Sm) (N := 14) hx hb hT in_Sm hown hK hP (by decide) rfl rfl 7 (by decide) (hT _ fl_Sm_30) rfl d_Sm_takeNumber_29 ?_
          have b11 := iv0 (M := Mc7) (a := 50) (b := 7) hI (by unfold p0; omega)
          refine ux_cald hx hb hK hP (by decide) rfl ((vi (show 0 ≤ (Mc7 50 7).toInt by omega) (show (Mc7 50 7).toInt < ((200 : Nat) : Int) by omega))) d_Sm_takeNumber_32 ?_
          refine ux_calli (va_runSN ⟨hx, hb, hml, hown, hts⟩ (s_PS_isDigit l D ad cA Mc7 hI (Mc7 1 ((Mc7 50 7).toNatClampNeg))) ⟨va_cnB 1 hts (tb_good _ _ kt_PS_isDigit) rfl rfl rfl (hN _ nm_Sm_49) (hT _ ii_PS) (by decide +kernel) ⟨Nat.le_of_ble_eq_true rfl, Nat.le_of_ble_eq_true rfl⟩, hT _ sm_PS_isDigit, trivial⟩ (ux_pre hP hK hi hN) rfl rfl hl.1 rfl (lv_room (Nat.le_of_ble_eq_true rfl)) d_Sm_takeNumber_33 ⟨Nat.zero_le _, Nat.zero_le _⟩) hS (fun r12 M13 H locs q14 hP hS => ?_)
          obtain ⟨hI, fq14, q14p⟩ := q14
          rw [tN_eq fq14] at hP hI
          subst q14p
          have b15 := dgt_b (Mc7 1 ((Mc7 50 7).toNatClampNeg))
          refine lv_if_eq hx hb d_Sm_takeNumber_36 rfl (fun h16 => ?_) (fun h16 => ?_)
          · have g16 : (dgt (Mc7 1 ((Mc7 50 7).toNatClampNeg))).toInt = 0 := congrArg Int32.toInt h16
            refine lv_aload_n hx hb d_Sm_takeNumber_73 rfl (lv_at hl 0 rfl) ?_
            refine lv_iload_n hx hb d_Sm_takeNumber_74 rfl (lv_at hl 1 rfl) ?_
            refine ux_callv (va_runV ⟨hx, hb, hml, hown, hts⟩ (s_Sm_pushOperand l D ad cA Mc7 hI i_2) (cwV 1 hts (tb_goodV ml_Sm_97 im_Sm_pushOperand se_Sm_pushOperand ii_Sm kt_Sm_pushOperand) rfl rfl rfl (by decide +kernel) ⟨Nat.le_of_ble_eq_true rfl, Nat.le_of_ble_eq_true rfl⟩) (ux_preV (by decide) rfl rfl hP hK hi hN) rfl rfl hl.1 rfl (lv_room (Nat.le_of_ble_eq_true rfl)) d_Sm_takeNumber_75 ⟨Nat.zero_le _, Nat.zero_le _⟩) hS (fun M18 H locs q19 hP hS => ?_)
            obtain ⟨hI, fq19, q19p⟩ := q19
            have hF := fr_call hF fq19 (fun a b q => by unfold tSo at q; unfold tSn; omega)
            refine lv_iconst (v := 1) hx hb d_Sm_takeNumber_78 (by decide) ?_
            exact W.zret (v := 1) hx hb hr (rfl) (fun t ht hW => ⟨⟨1, M18, rfl, ⟨hI, hF, Or.inr rfl⟩, by unfold ux_E; rw [ht]; exact hP⟩, hS.F ht⟩) hS.2.2 d_Sm_takeNumber_79
          · have g16 : ¬ ((dgt (Mc7 1 ((Mc7 50 7).toNatClampNeg))).toInt = 0) := fun q => h16 (Int32.toInt_inj.mp q)
            refine lv_iload_n hx hb d_Sm_takeNumber_39 rfl (lv_at hl 1 rfl) ?_
            refine lv_bipush (v := 10) hx hb d_Sm_takeNumber_40 (by decide) ?_
            refine lv_imul hx hb d_Sm_takeNumber_42 ?_
            refine lv_topi (fun x20 ex20 => ?_)
            try have fx20 : x20.toInt = i_2.toInt * 10 := by rw [ex20]; exact ti_mul (by (try rw [show (10 : Int32).toInt = 10 from rfl]); omega) (by (try rw [show (10 : Int32).toInt = 10 from rfl]); omega)
            refine lv_aload_n hx hb d_Sm_takeNumber_43 rfl (lv_at hl 0 rfl) ?_
            refine ux_get (C := R_Sm) (T := F_Sm) (N := 14) hx hb hT in_Sm hown hK hP (by decide) rfl rfl 0 (by decide) (hT _ fl_Sm_19) rfl d_Sm_takeNumber_44 ?_
            refine lv_aload_n hx hb d_Sm_takeNumber_47 rfl (lv_at hl 0 rfl) ?_
            refine ux_get (C := R_Sm) (T := F_Sm) (N := 14) hx hb hT in_Sm hown hK hP (by decide) rfl rfl 7 (by decide) (hT _ fl_Sm_30) rfl d_Sm_takeNumber_48 ?_
            have b21 := iv0 (M := Mc7) (a := 50) (b := 7) hI (by unfold p0; omega)
            refine ux_cald hx hb hK hP (by decide) rfl ((vi (show 0 ≤ (Mc7 50 7).toInt by omega) (show (Mc7 50 7).toInt < ((200 : Nat) : Int) by omega))) d_Sm_takeNumber_51 ?_
            refine lv_bipush (v := 48) hx hb d_Sm_takeNumber_52 (by decide) ?_
            refine lv_isub hx hb d_Sm_takeNumber_54 ?_
            refine lv_topi (fun x22 ex22 => ?_)
            try have fx22 : x22.toInt = (Mc7 1 ((Mc7 50 7).toNatClampNeg)).toInt - 48 := by rw [ex22]; exact ti_sub (by (try rw [show (48 : Int32).toInt = 48 from rfl]); omega) (by (try rw [show (48 : Int32).toInt = 48 from rfl]); omega)
            refine lv_iadd hx hb d_Sm_takeNumber_55 ?_
            refine lv_topi (fun x23 ex23 => ?_)
            try have fx23 : x23.toInt = x20.toInt + x22.toInt := by rw [ex23]; exact ti_add (by omega) (by omega)
            refine lv_istore_n hx hb d_Sm_takeNumber_56 rfl hl (by decide) rfl (fun ls hl => ?_)
            have hl : lv_has ls 4 [(2, .int x23), (0, .ref (ad 50)), (3, .int i_3)] := hl
            refine lv_aload_n hx hb d_Sm_takeNumber_57 rfl (lv_at hl 1 rfl) ?_
            refine lv_dup hx hb d_Sm_takeNumber_58 rfl ?_
            refine ux_get (C := R_Sm) (T := F_Sm) (N := 14) hx hb hT in_Sm hown hK hP (by decide) rfl rfl 7 (by decide) (hT _ fl_Sm_30) rfl d_Sm_takeNumber_59 ?_
            have b24 := iv0 (M := Mc7) (a := 50) (b := 7) hI (by unfold p0; omega)
            refine lv_iconst (v := 1) hx hb d_Sm_takeNumber_62 (by decide) ?_
            refine lv_iadd hx hb d_Sm_takeNumber_63 ?_
            refine lv_topi (fun x25 ex25 => ?_)
            try have fx25 : x25.toInt = (Mc7 50 7).toInt + 1 := by rw [ex25]; exact ti_add (by (try rw [show (1 : Int32).toInt = 1 from rfl]); omega) (by (try rw [show (1 : Int32).toInt = 1 from rfl]); omega)
            refine ux_put (C := R_Sm) (T := F_Sm) (N := 14) hx hb hT in_Sm t_Sm t_Sm_ok n_Sm hown hK hi hP hS (by decide) rfl rfl 7 (by decide) (hT _ fl_Sm_30) rfl (rfl) (rfl) rfl d_Sm_takeNumber_64 (fun H locs hP hS => ?_)
            have hI := IvX_wr (k := 50) (j := 7) (v := x25) hI (fun q => by unfold p0 at q; omega) (fun q => by unfold p8 at q; omega) (fun q => by unfold p20 at q; omega) (fun q => by unfold p40 at q; omega) (fun q => by unfold p200 at q; omega) (fun q => by unfold pch at q; omega)
            have hF := fr_wr (k := 50) (j := 7) (v := x25) hF (by unfold tSn; omega)
            generalize eM26 : ux_wr Mc7 50 7 x25 = M26 at hP hI hF
            obtain ⟨x27, ex27⟩ : ∃ z : Int32, z = i_3 + 1 := ⟨_, rfl⟩
            refine lv_iinc (k := 2) (v := x27) hx hb d_Sm_takeNumber_67 hl rfl ex27.symm (by decide) rfl (fun ls hl => ?_)
            have hl : lv_has ls 4 [(3, .int x27), (2, .int x23), (0, .ref (ad 50))] := hl
            try have fx27 : x27.toInt = i_3.toInt + 1 := by rw [ex27]; exact ti_add (by (try rw [show (1 : Int32).toInt = 1 from rfl]); omega) (by (try rw [show (1 : Int32).toInt = 1 from rfl]); omega)
            refine lv_goto hx hb d_Sm_takeNumber_70 rfl ?_
            exact ih7 (((10 : Int) - x27.toInt).toNat) (by omega) x23 x27 M26 _ _ ls rfl (show 0 ≤ x27.toInt from by first | omega | assumption | exact Or.inl rfl | exact Or.inr rfl | rfl | decide) hP hI hF hS (lv_sub hl [2, 1, 0] rfl)
  refine lv_iload_n hx hb d_Sm_takeNumber_0 rfl (lv_at hl 1 rfl) ?_
  refine lv_bipush (v := 48) hx hb d_Sm_takeNumber_1 (by decide) ?_
  refine lv_isub hx hb d_Sm_takeNumber_3 ?_
  refine lv_topi (fun x28 ex28 => ?_)
  try have fx28 : x28.toInt = ch.toInt - 48 := by rw [ex28]; exact ti_sub (by (try rw [show (48 : Int32).toInt = 48 from rfl]); omega) (by (try rw [show (48 : Int32).toInt = 48 from rfl]); omega)
  refine lv_istore_n hx hb d_Sm_takeNumber_4 rfl hl (by decide) rfl (fun ls hl => ?_)
  have hl : lv_has ls 4 [(2, .int x28), (0, .ref (ad 50)), (1, .int ch)] := hl
  refine lv_iconst (v := 1) hx hb d_Sm_takeNumber_5 (by decide) ?_
  refine lv_istore_n hx hb d_Sm_takeNumber_6 rfl hl (by decide) rfl (fun ls hl => ?_)
  have hl : lv_has ls 4 [(3, .int 1), (2, .int x28), (0, .ref (ad 50)), (1, .int ch)] := hl
  exact cut7 (((10 : Int) - 1).toNat) x28 1 M _ _ ls rfl (show 0 ≤ 1 from by first | omega | assumption | exact Or.inl rfl | exact Or.inr rfl | rfl | decide) hP hI hF hS (lv_sub hl [2, 1, 0] rfl)

set_option maxHeartbeats 8000000 in
set_option maxRecDepth 100000 in
theorem s_Sm_takeVariable (l : Launch) (D : va_G) (ad : Nat → Nat) (cA : Nat → ClassId) (M : ux_M) (hI : IvX M)  : Met l y_Sm_takeVariable w_Sm_takeVariable ({ frames := 2, cells := 0, slots := 0, locals := 47 }) (va_Pc [.ref (ad 50)] (ux_B D shX KX ad cA M)) (va_Qi (fun r M1 => IvX M1 ∧ (∀ a b, ¬ tSn a b → M1 a b = M a b) ∧ (r = 0 ∨ r = 1)) (ux_E D shX KX ad cA) (ux_A KX ad)) 0 0 (ux_A KX ad) := by
  refine Met.ofW (cc := b_Sm_takeVariable) (maxL := 4) (ret := (some .boolean)) (by decide) rfl ?_
  intro p e s m args below meth c s₁ B hml hv
  obtain ⟨rfl, hP, hK, hi, hN⟩ := hv
  have hx := B.exec
  have hb := B.bytes
  have hr := B.returns
  have hts := atoms_spec (ws := w_Sm_takeVariable) B.pre
  have hown : s.vm.findClass R_Sm = some m.cls := findClass_of_methodNamed B.named
  have hlocks := B.notSynchronized
  have hT : ∀ w ∈ tb, w.before _ s = true := fun w h => hts w (List.mem_cons_of_mem _ h)
  have hS : va_S (ux_A KX ad) s.heap s.heap [] := va_S.rf
  have hl := lv_entry ([.ref (ad 50)]) (n := 4) (Nat.le_of_ble_eq_true rfl)
  rw [lg_entry_eq]
  generalize (lg_sl ([.ref (ad 50)]) ++ List.replicate (4 - (lg_sl ([.ref (ad 50)])).length) Slot.unset).toArray = ls at hl ⊢
  have hl : lv_has ls 4 [(0, .ref (ad 50))] := hl
  have hF : ∀ a b, ¬ tSn a b → M a b = M a b := fun _ _ _ => rfl
  refine lv_aload_n hx hb d_Sm_takeVariable_0 rfl (lv_at hl 0 rfl) ?_
  refine ux_get (C := R_Sm) (T := F_Sm) (N := 14) hx hb hT in_Sm hown hK hP (by decide) rfl rfl 7 (by decide) (hT _ fl_Sm_30) rfl d_Sm_takeVariable_1 ?_
  have b1 := iv0 (M := M) (a := 50) (b := 7) hI (by unfold p0; omega)
  refine lv_aload_n hx hb d_Sm_takeVariable_4 rfl (lv_at hl 0 rfl) ?_
  refine ux_get (C := R_Sm) (T := F_Sm) (N := 14) hx hb hT in_Sm hown hK hP (by decide) rfl rfl 8 (by decide) (hT _ fl_Sm_34) rfl d_Sm_takeVariable_5 ?_
  have b2 := iv200 (M := M) (a := 50) (b := 8) hI (by unfold p200; omega)
  refine lv_icmp_ge hx hb d_Sm_takeVariable_8 rfl (fun h3 => ?_) (fun h3 => ?_)
  · have g3 : (M 50 8).toInt ≤ (M 50 7).toInt := Int32.le_iff_toInt_le.mp h3
    have u3 := ti_hi (M 50 7)
    have w3 := ti_lo (M 50 8)
    refine lv_iconst (v := 0) hx hb d_Sm_takeVariable_26 (by decide) ?_
    exact W.zret (v := 0) hx hb hr (rfl) (fun t ht hW => ⟨⟨0, M, rfl, ⟨hI, hF, Or.inl rfl⟩, by unfold ux_E; rw [ht]; exact hP⟩, hS.F ht⟩) hS.2.2 d_Sm_takeVariable_27
  · have g3 : ¬ ((M 50 8).toInt ≤ (M 50 7).toInt) := fun q => h3 (Int32.le_iff_toInt_le.mpr q)
    have u3 := ti_hi (M 50 8)
    have w3 := ti_lo (M 50 7)
    refine lv_aload_n hx hb d_Sm_takeVariable_11 rfl (lv_at hl 0 rfl) ?_
    refine ux_get (C := R_Sm) (T := F_Sm) (N := 14) hx hb hT in_Sm hown hK hP (by decide) rfl rfl 0 (by decide) (hT _ fl_Sm_19) rfl d_Sm_takeVariable_12 ?_
    refine lv_aload_n hx hb d_Sm_takeVariable_15 rfl (lv_at hl 0 rfl) ?_
    refine ux_get (C := R_Sm) (T := F_Sm) (N := 14) hx hb hT in_Sm hown hK hP (by decide) rfl rfl 7 (by decide) (hT _ fl_Sm_30) rfl d_Sm_takeVariable_16 ?_
    have b4 := iv0 (M := M) (a := 50) (b := 7) hI (by unfold p0; omega)
    refine ux_cald hx hb hK hP (by decide) rfl ((vi (show 0 ≤ (M 50 7).toInt by omega) (show (M 50 7).toInt < ((200 : Nat) : Int) by omega))) d_Sm_takeVariable_19 ?_
    refine ux_calli (va_runSN ⟨hx, hb, hml, hown, hts⟩ (s_PS_isVariable l D ad cA M hI (M 1 ((M 50 7).toNatClampNeg))) ⟨va_cnB 1 hts (tb_good _ _ kt_PS_isVariable) rfl rfl rfl (hN _ nm_Sm_100) (hT _ ii_PS) (by decide +kernel) ⟨Nat.le_of_ble_eq_true rfl, Nat.le_of_ble_eq_true rfl⟩, hT _ sm_PS_isVariable, trivial⟩ (ux_pre hP hK hi hN) rfl rfl hl.1 rfl (lv_room (Nat.le_of_ble_eq_true rfl)) d_Sm_takeVariable_20 ⟨Nat.zero_le _, Nat.zero_le _⟩) hS (fun r5 M6 H locs q7 hP hS => ?_)
    obtain ⟨hI, fq7, q7p⟩ := q7
    rw [tN_eq fq7] at hP hI
    subst q7p
    have b8 := isv_b (M 1 ((M 50 7).toNatClampNeg))
    refine lv_if_ne hx hb d_Sm_takeVariable_23 rfl (fun h9 => ?_) (fun h9 => ?_)
    · have g9 : ¬ ((isv (M 1 ((M 50 7).toNatClampNeg))).toInt = 0) := fun q => h9 (Int32.toInt_inj.mp q)
      refine lv_aload_n hx hb d_Sm_takeVariable_28 rfl (lv_at hl 0 rfl) ?_
      refine ux_get (C := R_Sm) (T := F_Sm) (N := 14) hx hb hT in_Sm hown hK hP (by decide) rfl rfl 0 (by decide) (hT _ fl_Sm_19) rfl d_Sm_takeVariable_29 ?_
      refine lv_aload_n hx hb d_Sm_takeVariable_32 rfl (lv_at hl 0 rfl) ?_
      refine ux_get (C := R_Sm) (T := F_Sm) (N := 14) hx hb hT in_Sm hown hK hP (by decide) rfl rfl 7 (by decide) (hT _ fl_Sm_30) rfl d_Sm_takeVariable_33 ?_
      have b10 := iv0 (M := M) (a := 50) (b := 7) hI (by unfold p0; omega)
      refine ux_cald hx hb hK hP (by decide) rfl ((vi (show 0 ≤ (M 50 7).toInt by omega) (show (M 50 7).toInt < ((200 : Nat) : Int) by omega))) d_Sm_takeVariable_36 ?_
      refine lv_bipush (v := 97) hx hb d_Sm_takeVariable_37 (by decide) ?_
      refine lv_isub hx hb d_Sm_takeVariable_39 ?_
      refine lv_topi (fun x11 ex11 => ?_)
      try have fx11 : x11.toInt = (M 1 ((M 50 7).toNatClampNeg)).toInt - 97 := by rw [ex11]; exact ti_sub (by (try rw [show (97 : Int32).toInt = 97 from rfl]); omega) (by (try rw [show (97 : Int32).toInt = 97 from rfl]); omega)
      refine lv_istore_n hx hb d_Sm_takeVariable_40 rfl hl (by decide) rfl (fun ls hl => ?_)
      have hl : lv_has ls 4 [(1, .int x11), (0, .ref (ad 50))] := hl
      refine lv_aload_n hx hb d_Sm_takeVariable_41 rfl (lv_at hl 1 rfl) ?_
      refine lv_dup hx hb d_Sm_takeVariable_42 rfl ?_
      refine ux_get (C := R_Sm) (T := F_Sm) (N := 14) hx hb hT in_Sm hown hK hP (by decide) rfl rfl 7 (by decide) (hT _ fl_Sm_30) rfl d_Sm_takeVariable_43 ?_
      have b12 := iv0 (M := M) (a := 50) (b := 7) hI (by unfold p0; omega)
      refine lv_iconst (v := 1) hx hb d_Sm_takeVariable_46 (by decide) ?_
      refine lv_iadd hx hb d_Sm_takeVariable_47 ?_
      refine lv_topi (fun x13 ex13 => ?_)
      try have fx13 : x13.toInt = (M 50 7).toInt + 1 := by rw [ex13]; exact ti_add (by (try rw [show (1 : Int32).toInt = 1 from rfl]); omega) (by (try rw [show (1 : Int32).toInt = 1 from rfl]); omega)
      refine ux_put (C := R_Sm) (T := F_Sm) (N := 14) hx hb hT in_Sm t_Sm t_Sm_ok n_Sm hown hK hi hP hS (by decide) rfl rfl 7 (by decide) (hT _ fl_Sm_30) rfl (rfl) (rfl) rfl d_Sm_takeVariable_48 (fun H locs hP hS => ?_)
      have hI := IvX_wr (k := 50) (j := 7) (v := x13) hI (fun q => by unfold p0 at q; omega) (fun q => by unfold p8 at q; omega) (fun q => by unfold p20 at q; omega) (fun q => by unfold p40 at q; omega) (fun q => by unfold p200 at q; omega) (fun q => by unfold pch at q; omega)
      have hF := fr_wr (k := 50) (j := 7) (v := x13) hF (by unfold tSn; omega)
      generalize eM14 : ux_wr M 50 7 x13 = M14 at hP hI hF
      refine lv_aload_n hx hb d_Sm_takeVariable_51 rfl (lv_at hl 1 rfl) ?_
      refine ux_get (C := R_Sm) (T := F_Sm) (N := 14) hx hb hT in_Sm hown hK hP (by decide) rfl rfl 1 (by decide) (hT _ fl_Sm_22) rfl d_Sm_takeVariable_52 ?_
      refine lv_aload_n hx hb d_Sm_takeVariable_55 rfl (lv_at hl 1 rfl) ?_
      refine ux_get (C := R_Sm) (T := F_Sm) (N := 14) hx hb hT in_Sm hown hK hP (by decide) rfl rfl 9 (by decide) (hT _ fl_Sm_84) rfl d_Sm_takeVariable_56 ?_
      refine lv_iload_n hx hb d_Sm_takeVariable_59 rfl (lv_at hl 0 rfl) ?_
      refine ux_callr (va_runV ⟨hx, hb, hml, hown, hts⟩ (c_Vs_meant l D ad cA M14 (M14 50 9) x11) (cwV 2 hts (tb_goodV ml_Sm_103 im_Vs_meant se_Vs_meant ii_Vs kt_Vs_meant) rfl rfl rfl (by decide +kernel) ⟨Nat.le_of_ble_eq_true rfl, Nat.le_of_ble_eq_true rfl⟩) (ux_preV (by decide) rfl rfl hP hK hi hN) rfl rfl hl.1 rfl (lv_room (Nat.le_of_ble_eq_true rfl)) d_Sm_takeVariable_60 ⟨Nat.zero_le _, Nat.zero_le _⟩) hS (fun M16 H locs q17 hP hS => ?_)
      rw [q17] at hP
      obtain ⟨v18, hv18, ev18⟩ := vme_in M14 (M14 50 9) x11
      rw [ev18]
      refine lv_astore_n hx hb d_Sm_takeVariable_63 rfl hl (by decide) rfl (fun ls hl => ?_)
      have hl : lv_has ls 4 [(2, .ref (ad (18 + 3 * v18))), (1, .int x11), (0, .ref (ad 50))] := hl
      refine lv_aload_n hx hb d_Sm_takeVariable_64 rfl (lv_at hl 0 rfl) ?_
      refine lv_iload_n hx hb d_Sm_takeVariable_65 rfl (lv_at hl 1 rfl) ?_
      refine ux_calli (va_runV ⟨hx, hb, hml, hown, hts⟩ (s_Vl_isNumber l D ad cA M14 hI (18 + 3 * v18) (19 + 3 * v18) (20 + 3 * v18) 26 (vV_fr hv18) x11) (cwV 1 hts (tb_goodV ml_Sm_109 im_Vl_isNumber se_Vl_isNumber ii_Vl kt_Vl_isNumber) rfl rfl rfl (by decide +kernel) ⟨Nat.le_of_ble_eq_true rfl, Nat.le_of_ble_eq_true rfl⟩) (ux_preV (fk 18 (by decide) hv18) (F18 hv18) rfl hP hK hi hN) rfl rfl hl.1 rfl (lv_room (Nat.le_of_ble_eq_true rfl)) d_Sm_takeVariable_66 ⟨Nat.zero_le _, Nat.zero_le _⟩) hS (fun r19 M20 H locs q21 hP hS => ?_)
      obtain ⟨hI, fq21, q21p⟩ := q21
      rw [tN_eq fq21] at hP hI
      refine lv_istore_n hx hb d_Sm_takeVariable_69 rfl hl (by decide) rfl (fun ls hl => ?_)
      have hl : lv_has ls 4 [(3, .int r19), (2, .ref (ad (18 + 3 * v18))), (1, .int x11), (0, .ref (ad 50))] := hl
      refine lv_iload_n hx hb d_Sm_takeVariable_70 rfl (lv_at hl 0 rfl) ?_
      refine lv_if_ne hx hb d_Sm_takeVariable_71 rfl (fun h22 => ?_) (fun h22 => ?_)
      · have g22 : ¬ (r19.toInt = 0) := fun q => h22 (Int32.toInt_inj.mp q)
        refine lv_aload_n hx hb d_Sm_takeVariable_99 rfl (lv_at hl 3 rfl) ?_
        refine lv_iload_n hx hb d_Sm_takeVariable_100 rfl (lv_at hl 0 rfl) ?_
        refine lv_if_eq hx hb d_Sm_takeVariable_101 rfl (fun h23 => ?_) (fun h23 => ?_)
        · have g23 : r19.toInt = 0 := congrArg Int32.toInt h23
          refine lv_iconst (v := 0) hx hb d_Sm_takeVariable_112 (by decide) ?_
          refine ux_callv (va_runV ⟨hx, hb, hml, hown, hts⟩ (s_Sm_pushOperand l D ad cA M14 hI 0) (cwV 1 hts (tb_goodV ml_Sm_97 im_Sm_pushOperand se_Sm_pushOperand ii_Sm kt_Sm_pushOperand) rfl rfl rfl (by decide +kernel) ⟨Nat.le_of_ble_eq_true rfl, Nat.le_of_ble_eq_true rfl⟩) (ux_preV (by decide) rfl rfl hP hK hi hN) rfl rfl hl.1 rfl (lv_room (Nat.le_of_ble_eq_true rfl)) d_Sm_takeVariable_113 ⟨Nat.zero_le _, Nat.zero_le _⟩) hS (fun M25 H locs q26 hP hS => ?_)
          obtain ⟨hI, fq26, q26p⟩ := q26
          have hF := fr_call hF fq26 (fun a b q => by unfold tSo at q; unfold tSn; omega)
          refine lv_iconst (v := 1) hx hb d_Sm_takeVariable_116 (by decide) ?_
          exact W.zret (v := 1) hx hb hr (rfl) (fun t ht hW => ⟨⟨1, M25, rfl, ⟨hI, hF, Or.inr rfl⟩, by unfold ux_E; rw [ht]; exact hP⟩, hS.F ht⟩) hS.2.2 d_Sm_takeVariable_117
        · have g23 : ¬ (r19.toInt = 0) := fun q => h23 (Int32.toInt_inj.mp q)
          refine lv_aload_n hx hb d_Sm_takeVariable_104 rfl (lv_at hl 1 rfl) ?_
          refine lv_iload_n hx hb d_Sm_takeVariable_105 rfl (lv_at hl 2 rfl) ?_
          refine ux_calli (va_runV ⟨hx, hb, hml, hown, hts⟩ (s_Vl_numberOf l D ad cA M14 hI (18 + 3 * v18) (19 + 3 * v18) (20 + 3 * v18) 26 (vV_fr hv18) x11) (cwV 1 hts (tb_goodV ml_Sm_118 im_Vl_numberOf se_Vl_numberOf ii_Vl kt_Vl_numberOf) rfl rfl rfl (by decide +kernel) ⟨Nat.le_of_ble_eq_true rfl, Nat.le_of_ble_eq_true rfl⟩) (ux_preV (fk 18 (by decide) hv18) (F18 hv18) rfl hP hK hi hN) rfl rfl hl.1 rfl (lv_room (Nat.le_of_ble_eq_true rfl)) d_Sm_takeVariable_106 ⟨Nat.zero_le _, Nat.zero_le _⟩) hS (fun r27 M28 H locs q29 hP hS => ?_)
          obtain ⟨hI, fq29, q29p⟩ := q29
          rw [tN_eq fq29] at hP hI
          refine lv_goto hx hb d_Sm_takeVariable_109 rfl ?_
          refine ux_callv (va_runV ⟨hx, hb, hml, hown, hts⟩ (s_Sm_pushOperand l D ad cA M14 hI r27) (cwV 1 hts (tb_goodV ml_Sm_97 im_Sm_pushOperand se_Sm_pushOperand ii_Sm kt_Sm_pushOperand) rfl rfl rfl (by decide +kernel) ⟨Nat.le_of_ble_eq_true rfl, Nat.le_of_ble_eq_true rfl⟩) (ux_preV (by decide) rfl rfl hP hK hi hN) rfl rfl hl.1 rfl (lv_room (Nat.le_of_ble_eq_true rfl)) d_Sm_takeVariable_113 ⟨Nat.zero_le _, Nat.zero_le _⟩) hS (fun M31 H locs q32 hP hS => ?_)
          obtain ⟨hI, fq32, q32p⟩ := q32
          have hF := fr_call hF fq32 (fun a b q => by unfold tSo at q; unfold tSn; omega)
          refine lv_iconst (v := 1) hx hb d_Sm_takeVariable_116 (by decide) ?_
          exact W.zret (v := 1) hx hb hr (rfl) (fun t ht hW => ⟨⟨1, M31, rfl, ⟨hI, hF, Or.inr rfl⟩, by unfold ux_E; rw [ht]; exact hP⟩, hS.F ht⟩) hS.2.2 d_Sm_takeVariable_117
      · have g22 : r19.toInt = 0 := congrArg Int32.toInt h22
        refine lv_aload_n hx hb d_Sm_takeVariable_74 rfl (lv_at hl 3 rfl) ?_
        refine ux_get (C := R_Sm) (T := F_Sm) (N := 14) hx hb hT in_Sm hown hK hP (by decide) rfl rfl 11 (by decide) (hT _ fl_Sm_69) rfl d_Sm_takeVariable_75 ?_
        refine lv_if_ne hx hb d_Sm_takeVariable_78 rfl (fun h33 => ?_) (fun h33 => ?_)
        · have g33 : ¬ ((M14 50 11).toInt = 0) := fun q => h33 (Int32.toInt_inj.mp q)
          refine lv_aload_n hx hb d_Sm_takeVariable_99 rfl (lv_at hl 3 rfl) ?_
          refine lv_iload_n hx hb d_Sm_takeVariable_100 rfl (lv_at hl 0 rfl) ?_
          refine lv_if_eq hx hb d_Sm_takeVariable_101 rfl (fun h34 => ?_) (fun h34 => ?_)
          · have g34 : r19.toInt = 0 := congrArg Int32.toInt h34
            refine lv_iconst (v := 0) hx hb d_Sm_takeVariable_112 (by decide) ?_
            refine ux_callv (va_runV ⟨hx, hb, hml, hown, hts⟩ (s_Sm_pushOperand l D ad cA M14 hI 0) (cwV 1 hts (tb_goodV ml_Sm_97 im_Sm_pushOperand se_Sm_pushOperand ii_Sm kt_Sm_pushOperand) rfl rfl rfl (by decide +kernel) ⟨Nat.le_of_ble_eq_true rfl, Nat.le_of_ble_eq_true rfl⟩) (ux_preV (by decide) rfl rfl hP hK hi hN) rfl rfl hl.1 rfl (lv_room (Nat.le_of_ble_eq_true rfl)) d_Sm_takeVariable_113 ⟨Nat.zero_le _, Nat.zero_le _⟩) hS (fun M36 H locs q37 hP hS => ?_)
            obtain ⟨hI, fq37, q37p⟩ := q37
            have hF := fr_call hF fq37 (fun a b q => by unfold tSo at q; unfold tSn; omega)
            refine lv_iconst (v := 1) hx hb d_Sm_takeVariable_116 (by decide) ?_
            exact W.zret (v := 1) hx hb hr (rfl) (fun t ht hW => ⟨⟨1, M36, rfl, ⟨hI, hF, Or.inr rfl⟩, by unfold ux_E; rw [ht]; exact hP⟩, hS.F ht⟩) hS.2.2 d_Sm_takeVariable_117
          · have g34 : ¬ (r19.toInt = 0) := fun q => h34 (Int32.toInt_inj.mp q)
            refine lv_aload_n hx hb d_Sm_takeVariable_104 rfl (lv_at hl 1 rfl) ?_
            refine lv_iload_n hx hb d_Sm_takeVariable_105 rfl (lv_at hl 2 rfl) ?_
            refine ux_calli (va_runV ⟨hx, hb, hml, hown, hts⟩ (s_Vl_numberOf l D ad cA M14 hI (18 + 3 * v18) (19 + 3 * v18) (20 + 3 * v18) 26 (vV_fr hv18) x11) (cwV 1 hts (tb_goodV ml_Sm_118 im_Vl_numberOf se_Vl_numberOf ii_Vl kt_Vl_numberOf) rfl rfl rfl (by decide +kernel) ⟨Nat.le_of_ble_eq_true rfl, Nat.le_of_ble_eq_true rfl⟩) (ux_preV (fk 18 (by decide) hv18) (F18 hv18) rfl hP hK hi hN) rfl rfl hl.1 rfl (lv_room (Nat.le_of_ble_eq_true rfl)) d_Sm_takeVariable_106 ⟨Nat.zero_le _, Nat.zero_le _⟩) hS (fun r38 M39 H locs q40 hP hS => ?_)
            obtain ⟨hI, fq40, q40p⟩ := q40
            rw [tN_eq fq40] at hP hI
            refine lv_goto hx hb d_Sm_takeVariable_109 rfl ?_
            refine ux_callv (va_runV ⟨hx, hb, hml, hown, hts⟩ (s_Sm_pushOperand l D ad cA M14 hI r38) (cwV 1 hts (tb_goodV ml_Sm_97 im_Sm_pushOperand se_Sm_pushOperand ii_Sm kt_Sm_pushOperand) rfl rfl rfl (by decide +kernel) ⟨Nat.le_of_ble_eq_true rfl, Nat.le_of_ble_eq_true rfl⟩) (ux_preV (by decide) rfl rfl hP hK hi hN) rfl rfl hl.1 rfl (lv_room (Nat.le_of_ble_eq_true rfl)) d_Sm_takeVariable_113 ⟨Nat.zero_le _, Nat.zero_le _⟩) hS (fun M42 H locs q43 hP hS => ?_)
            obtain ⟨hI, fq43, q43p⟩ := q43
            have hF := fr_call hF fq43 (fun a b q => by unfold tSo at q; unfold tSn; omega)
            refine lv_iconst (v := 1) hx hb d_Sm_takeVariable_116 (by decide) ?_
            exact W.zret (v := 1) hx hb hr (rfl) (fun t ht hW => ⟨⟨1, M42, rfl, ⟨hI, hF, Or.inr rfl⟩, by unfold ux_E; rw [ht]; exact hP⟩, hS.F ht⟩) hS.2.2 d_Sm_takeVariable_117
        · have g33 : (M14 50 11).toInt = 0 := congrArg Int32.toInt h33
          refine lv_aload_n hx hb d_Sm_takeVariable_81 rfl (lv_at hl 3 rfl) ?_
          refine lv_aload_n hx hb d_Sm_takeVariable_82 rfl (lv_at hl 1 rfl) ?_
          refine lv_iload_n hx hb d_Sm_takeVariable_83 rfl (lv_at hl 2 rfl) ?_
          refine ux_calli (va_runV ⟨hx, hb, hml, hown, hts⟩ (c_Vl_sizeOf l D shX KX ad cA M14 (18 + 3 * v18) (19 + 3 * v18) (20 + 3 * v18) 26 (VF_fr hv18) x11) (cwV 1 hts (tb_goodV ml_Sm_114 im_Vl_sizeOf se_Vl_sizeOf ii_Vl kt_Vl_sizeOf) rfl rfl rfl (by decide +kernel) ⟨Nat.le_of_ble_eq_true rfl, Nat.le_of_ble_eq_true rfl⟩) (ux_preV (fk 18 (by decide) hv18) (F18 hv18) rfl hP hK hi hN) rfl rfl hl.1 rfl (lv_room (Nat.le_of_ble_eq_true rfl)) d_Sm_takeVariable_84 ⟨Nat.zero_le _, Nat.zero_le _⟩) hS (fun r44 M45 H locs q46 hP hS => ?_)
          obtain ⟨q46m, q46e⟩ := q46
          rw [q46m] at hP
          subst q46e
          refine lv_iconst (v := (-1)) hx hb d_Sm_takeVariable_87 (by decide) ?_
          refine lv_icmp_ne hx hb d_Sm_takeVariable_88 rfl (fun h47 => ?_) (fun h47 => ?_)
          · have g47 : ¬ ((vz M14 (20 + 3 * v18) 26 x11).toInt = (-1)) := fun q => h47 (Int32.toInt_inj.mp q)
            refine lv_iconst (v := 5) hx hb d_Sm_takeVariable_95 (by decide) ?_
            refine ux_put (C := R_Sm) (T := F_Sm) (N := 14) hx hb hT in_Sm t_Sm t_Sm_ok n_Sm hown hK hi hP hS (by decide) rfl rfl 11 (by decide) (hT _ fl_Sm_69) rfl (rfl) (rfl) rfl d_Sm_takeVariable_96 (fun H locs hP hS => ?_)
            have hI := IvX_free (k := 50) (j := 11) (v := 5) hI (by unfold ppn; omega) (by unfold pch; omega)
            have hF := fr_wr (k := 50) (j := 11) (v := 5) hF (by unfold tSn; omega)
            generalize eM48 : ux_wr M14 50 11 5 = M48 at hP hI hF
            refine lv_aload_n hx hb d_Sm_takeVariable_99 rfl (lv_at hl 3 rfl) ?_
            refine lv_iload_n hx hb d_Sm_takeVariable_100 rfl (lv_at hl 0 rfl) ?_
            refine lv_if_eq hx hb d_Sm_takeVariable_101 rfl (fun h49 => ?_) (fun h49 => ?_)
            · have g49 : r19.toInt = 0 := congrArg Int32.toInt h49
              refine lv_iconst (v := 0) hx hb d_Sm_takeVariable_112 (by decide) ?_
              refine ux_callv (va_runV ⟨hx, hb, hml, hown, hts⟩ (s_Sm_pushOperand l D ad cA M48 hI 0) (cwV 1 hts (tb_goodV ml_Sm_97 im_Sm_pushOperand se_Sm_pushOperand ii_Sm kt_Sm_pushOperand) rfl rfl rfl (by decide +kernel) ⟨Nat.le_of_ble_eq_true rfl, Nat.le_of_ble_eq_true rfl⟩) (ux_preV (by decide) rfl rfl hP hK hi hN) rfl rfl hl.1 rfl (lv_room (Nat.le_of_ble_eq_true rfl)) d_Sm_takeVariable_113 ⟨Nat.zero_le _, Nat.zero_le _⟩) hS (fun M51 H locs q52 hP hS => ?_)
              obtain ⟨hI, fq52, q52p⟩ := q52
              have hF := fr_call hF fq52 (fun a b q => by unfold tSo at q; unfold tSn; omega)
              refine lv_iconst (v := 1) hx hb d_Sm_takeVariable_116 (by decide) ?_
              exact W.zret (v := 1) hx hb hr (rfl) (fun t ht hW => ⟨⟨1, M51, rfl, ⟨hI, hF, Or.inr rfl⟩, by unfold ux_E; rw [ht]; exact hP⟩, hS.F ht⟩) hS.2.2 d_Sm_takeVariable_117
            · have g49 : ¬ (r19.toInt = 0) := fun q => h49 (Int32.toInt_inj.mp q)
              refine lv_aload_n hx hb d_Sm_takeVariable_104 rfl (lv_at hl 1 rfl) ?_
              refine lv_iload_n hx hb d_Sm_takeVariable_105 rfl (lv_at hl 2 rfl) ?_
              refine ux_calli (va_runV ⟨hx, hb, hml, hown, hts⟩ (s_Vl_numberOf l D ad cA M48 hI (18 + 3 * v18) (19 + 3 * v18) (20 + 3 * v18) 26 (vV_fr hv18) x11) (cwV 1 hts (tb_goodV ml_Sm_118 im_Vl_numberOf se_Vl_numberOf ii_Vl kt_Vl_numberOf) rfl rfl rfl (by decide +kernel) ⟨Nat.le_of_ble_eq_true rfl, Nat.le_of_ble_eq_true rfl⟩) (ux_preV (fk 18 (by decide) hv18) (F18 hv18) rfl hP hK hi hN) rfl rfl hl.1 rfl (lv_room (Nat.le_of_ble_eq_true rfl)) d_Sm_takeVariable_106 ⟨Nat.zero_le _, Nat.zero_le _⟩) hS (fun r53 M54 H locs q55 hP hS => ?_)
              obtain ⟨hI, fq55, q55p⟩ := q55
              rw [tN_eq fq55] at hP hI
              refine lv_goto hx hb d_Sm_takeVariable_109 rfl ?_
              refine ux_callv (va_runV ⟨hx, hb, hml, hown, hts⟩ (s_Sm_pushOperand l D ad cA M48 hI r53) (cwV 1 hts (tb_goodV ml_Sm_97 im_Sm_pushOperand se_Sm_pushOperand ii_Sm kt_Sm_pushOperand) rfl rfl rfl (by decide +kernel) ⟨Nat.le_of_ble_eq_true rfl, Nat.le_of_ble_eq_true rfl⟩) (ux_preV (by decide) rfl rfl hP hK hi hN) rfl rfl hl.1 rfl (lv_room (Nat.le_of_ble_eq_true rfl)) d_Sm_takeVariable_113 ⟨Nat.zero_le _, Nat.zero_le _⟩) hS (fun M57 H locs q58 hP hS => ?_)
              obtain ⟨hI, fq58, q58p⟩ := q58
              have hF := fr_call hF fq58 (fun a b q => by unfold tSo at q; unfold tSn; omega)
              refine lv_iconst (v := 1) hx hb d_Sm_takeVariable_116 (by decide) ?_
              exact W.zret (v := 1) hx hb hr (rfl) (fun t ht hW => ⟨⟨1, M57, rfl, ⟨hI, hF, Or.inr rfl⟩, by unfold ux_E; rw [ht]; exact hP⟩, hS.F ht⟩) hS.2.2 d_Sm_takeVariable_117
          · have g47 : (vz M14 (20 + 3 * v18) 26 x11).toInt = (-1) := congrArg Int32.toInt h47
            refine lv_iconst (v := 4) hx hb d_Sm_takeVariable_91 (by decide) ?_
            refine lv_goto hx hb d_Sm_takeVariable_92 rfl ?_
            refine ux_put (C := R_Sm) (T := F_Sm) (N := 14) hx hb hT in_Sm t_Sm t_Sm_ok n_Sm hown hK hi hP hS (by decide) rfl rfl 11 (by decide) (hT _ fl_Sm_69) rfl (rfl) (rfl) rfl d_Sm_takeVariable_96 (fun H locs hP hS => ?_)
            have hI := IvX_free (k := 50) (j := 11) (v := 4) hI (by unfold ppn; omega) (by unfold pch; omega)
            have hF := fr_wr (k := 50) (j := 11) (v := 4) hF (by unfold tSn; omega)
            generalize eM59 : ux_wr M14 50 11 4 = M59 at hP hI hF
            refine lv_aload_n hx hb d_Sm_takeVariable_99 rfl (lv_at hl 3 rfl) ?_
            refine lv_iload_n hx hb d_Sm_takeVariable_100 rfl (lv_at hl 0 rfl) ?_
            refine lv_if_eq hx hb d_Sm_takeVariable_101 rfl (fun h60 => ?_) (fun h60 => ?_)
            · have g60 : r19.toInt = 0 := congrArg Int32.toInt h60
              refine lv_iconst (v := 0) hx hb d_Sm_takeVariable_112 (by decide) ?_
              refine ux_callv (va_runV ⟨hx, hb, hml, hown, hts⟩ (s_Sm_pushOperand l D ad cA M59 hI 0) (cwV 1 hts (tb_goodV ml_Sm_97 im_Sm_pushOperand se_Sm_pushOperand ii_Sm kt_Sm_pushOperand) rfl rfl rfl (by decide +kernel) ⟨Nat.le_of_ble_eq_true rfl, Nat.le_of_ble_eq_true rfl⟩) (ux_preV (by decide) rfl rfl hP hK hi hN) rfl rfl hl.1 rfl (lv_room (Nat.le_of_ble_eq_true rfl)) d_Sm_takeVariable_113 ⟨Nat.zero_le _, Nat.zero_le _⟩) hS (fun M62 H locs q63 hP hS => ?_)
              obtain ⟨hI, fq63, q63p⟩ := q63
              have hF := fr_call hF fq63 (fun a b q => by unfold tSo at q; unfold tSn; omega)
              refine lv_iconst (v := 1) hx hb d_Sm_takeVariable_116 (by decide) ?_
              exact W.zret (v := 1) hx hb hr (rfl) (fun t ht hW => ⟨⟨1, M62, rfl, ⟨hI, hF, Or.inr rfl⟩, by unfold ux_E; rw [ht]; exact hP⟩, hS.F ht⟩) hS.2.2 d_Sm_takeVariable_117
            · have g60 : ¬ (r19.toInt = 0) := fun q => h60 (Int32.toInt_inj.mp q)
              refine lv_aload_n hx hb d_Sm_takeVariable_104 rfl (lv_at hl 1 rfl) ?_
              refine lv_iload_n hx hb d_Sm_takeVariable_105 rfl (lv_at hl 2 rfl) ?_
              refine ux_calli (va_runV ⟨hx, hb, hml, hown, hts⟩ (s_Vl_numberOf l D ad cA M59 hI (18 + 3 * v18) (19 + 3 * v18) (20 + 3 * v18) 26 (vV_fr hv18) x11) (cwV 1 hts (tb_goodV ml_Sm_118 im_Vl_numberOf se_Vl_numberOf ii_Vl kt_Vl_numberOf) rfl rfl rfl (by decide +kernel) ⟨Nat.le_of_ble_eq_true rfl, Nat.le_of_ble_eq_true rfl⟩) (ux_preV (fk 18 (by decide) hv18) (F18 hv18) rfl hP hK hi hN) rfl rfl hl.1 rfl (lv_room (Nat.le_of_ble_eq_true rfl)) d_Sm_takeVariable_106 ⟨Nat.zero_le _, Nat.zero_le _⟩) hS (fun r64 M65 H locs q66 hP hS => ?_)
              obtain ⟨hI, fq66, q66p⟩ := q66
              rw [tN_eq fq66] at hP hI
              refine lv_goto hx hb d_Sm_takeVariable_109 rfl ?_
              refine ux_callv (va_runV ⟨hx, hb, hml, hown, hts⟩ (s_Sm_pushOperand l D ad cA M59 hI r64) (cwV 1 hts (tb_goodV ml_Sm_97 im_Sm_pushOperand se_Sm_pushOperand ii_Sm kt_Sm_pushOperand) rfl rfl rfl (by decide +kernel) ⟨Nat.le_of_ble_eq_true rfl, Nat.le_of_ble_eq_true rfl⟩) (ux_preV (by decide) rfl rfl hP hK hi hN) rfl rfl hl.1 rfl (lv_room (Nat.le_of_ble_eq_true rfl)) d_Sm_takeVariable_113 ⟨Nat.zero_le _, Nat.zero_le _⟩) hS (fun M68 H locs q69 hP hS => ?_)
              obtain ⟨hI, fq69, q69p⟩ := q69
              have hF := fr_call hF fq69 (fun a b q => by unfold tSo at q; unfold tSn; omega)
              refine lv_iconst (v := 1) hx hb d_Sm_takeVariable_116 (by decide) ?_
              exact W.zret (v := 1) hx hb hr (rfl) (fun t ht hW => ⟨⟨1, M68, rfl, ⟨hI, hF, Or.inr rfl⟩, by unfold ux_E; rw [ht]; exact hP⟩, hS.F ht⟩) hS.2.2 d_Sm_takeVariable_117
    · have g9 : (isv (M 1 ((M 50 7).toNatClampNeg))).toInt = 0 := congrArg Int32.toInt h9
      refine lv_iconst (v := 0) hx hb d_Sm_takeVariable_26 (by decide) ?_
      exact W.zret (v := 0) hx hb hr (rfl) (fun t ht hW => ⟨⟨0, M, rfl, ⟨hI, hF, Or.inl rfl⟩, by unfold ux_E; rw [ht]; exact hP⟩, hS.F ht⟩) hS.2.2 d_Sm_takeVariable_27

set_option maxHeartbeats 8000000 in
set_option maxRecDepth 100000 in
theorem s_Sm_takeSignBefore (l : Launch) (D : va_G) (ad : Nat → Nat) (cA : Nat → ClassId) (M : ux_M) (hI : IvX M) (ch : Int32) (hsm : SmI M) (hs2 : (M 50 5).toInt < 200) : Met l y_Sm_takeSignBefore w_Sm_takeSignBefore ({ frames := 1, cells := 0, slots := 0, locals := 21 }) (va_Pc [.ref (ad 50), .int ch] (ux_B D shX KX ad cA M)) (va_Qi (fun r M1 => IvX M1 ∧ (∀ a b, ¬ tSm a b → M1 a b = M a b) ∧ ((r = 0 ∨ r = 1) ∧ SmI M1 ∧ (M1 50 5).toInt ≤ (M 50 5).toInt + 1)) (ux_E D shX KX ad cA) (ux_A KX ad)) 0 0 (ux_A KX ad) := by
  refine Met.ofW (cc := b_Sm_takeSignBefore) (maxL := 2) (ret := (some .boolean)) (by decide) rfl ?_
  intro p e s m args below meth c s₁ B hml hv
  obtain ⟨rfl, hP, hK, hi, hN⟩ := hv
  have hx := B.exec
  have hb := B.bytes
  have hr := B.returns
  have hts := atoms_spec (ws := w_Sm_takeSignBefore) B.pre
  have hown : s.vm.findClass R_Sm = some m.cls := findClass_of_methodNamed B.named
  have hlocks := B.notSynchronized
  have hT : ∀ w ∈ tb, w.before _ s = true := fun w h => hts w (List.mem_cons_of_mem _ h)
  have hS : va_S (ux_A KX ad) s.heap s.heap [] := va_S.rf
  have hl := lv_entry ([.ref (ad 50), .int ch]) (n := 2) (Nat.le_of_ble_eq_true rfl)
  rw [lg_entry_eq]
  generalize (lg_sl ([.ref (ad 50), .int ch]) ++ List.replicate (2 - (lg_sl ([.ref (ad 50), .int ch])).length) Slot.unset).toArray = ls at hl ⊢
  have hl : lv_has ls 2 [(0, .ref (ad 50)), (1, .int ch)] := hl
  have hF : ∀ a b, ¬ tSm a b → M a b = M a b := fun _ _ _ => rfl
  have hsm0 := hsm
  unfold SmI at hsm0
  have hs50 := iv0 (M := M) (a := 50) (b := 5) hI (by unfold p0; omega)
  have hs60 := iv0 (M := M) (a := 50) (b := 6) hI (by unfold p0; omega)
  have hcx := c40_x (f := M 52) (x := M 50 5) hs50
  refine lv_iload_n hx hb d_Sm_takeSignBefore_0 rfl (lv_at hl 1 rfl) ?_
  by_cases h1 : ch = 33
  · have g1 : ch.toInt = 33 := congrArg Int32.toInt h1
    refine lv_lookup (off := 43) (tgt := 44) hx hb d_Sm_takeSignBefore_1 (by decide) (by rw [g1]; rfl) (by decide) ?_
    refine lv_aload_n hx hb d_Sm_takeSignBefore_44 rfl (lv_at hl 0 rfl) ?_
    refine lv_iload_n hx hb d_Sm_takeSignBefore_45 rfl (lv_at hl 1 rfl) ?_
    refine ux_callv (va_runV ⟨hx, hb, hml, hown, hts⟩ (s_Sm_pushSign l D ad cA M hI ch (by omega)) (cwV 1 hts (tb_goodV ml_Sm_93 im_Sm_pushSign se_Sm_pushSign ii_Sm kt_Sm_pushSign) rfl rfl rfl (by decide +kernel) ⟨Nat.le_of_ble_eq_true rfl, Nat.le_of_ble_eq_true rfl⟩) (ux_preV (by decide) rfl rfl hP hK hi hN) rfl rfl hl.1 rfl (lv_room (Nat.le_of_ble_eq_true rfl)) d_Sm_takeSignBefore_46 ⟨Nat.zero_le _, Nat.zero_le _⟩) hS (fun M3 H locs q4 hP hS => ?_)
    obtain ⟨hI, fq4, q4p⟩ := q4
    have hF := fr_call hF fq4 (fun a b q => by unfold tSp at q; unfold tSm; omega)
    obtain ⟨q4a, q4b, q4c⟩ := q4p
    have q4d := congrArg Int32.toInt (fq4 50 6 (by unfold tSp; omega))
    refine lv_iconst (v := 1) hx hb d_Sm_takeSignBefore_49 (by decide) ?_
    exact W.zret (v := 1) hx hb hr (rfl) (fun t ht hW => ⟨⟨1, M3, rfl, ⟨hI, hF, ⟨Or.inr rfl, SmI_of (M := M3) (fq4 50 6 (by unfold tSp; omega)) rfl (fun j => rfl) (by omega), by omega⟩⟩, by unfold ux_E; rw [ht]; exact hP⟩, hS.F ht⟩) hS.2.2 d_Sm_takeSignBefore_50
  have g1 : ¬ ch.toInt = 33 := fun q => h1 (Int32.toInt_inj.mp q)
  by_cases h5 : ch = 40
  · have g5 : ch.toInt = 40 := congrArg Int32.toInt h5
    refine lv_lookup (off := 50) (tgt := 51) hx hb d_Sm_takeSignBefore_1 (by decide) (by rw [g5]; rfl) (by decide) ?_
    refine lv_aload_n hx hb d_Sm_takeSignBefore_51 rfl (lv_at hl 0 rfl) ?_
    refine lv_iload_n hx hb d_Sm_takeSignBefore_52 rfl (lv_at hl 1 rfl) ?_
    refine ux_callv (va_runV ⟨hx, hb, hml, hown, hts⟩ (s_Sm_pushSign l D ad cA M hI ch (by omega)) (cwV 1 hts (tb_goodV ml_Sm_93 im_Sm_pushSign se_Sm_pushSign ii_Sm kt_Sm_pushSign) rfl rfl rfl (by decide +kernel) ⟨Nat.le_of_ble_eq_true rfl, Nat.le_of_ble_eq_true rfl⟩) (ux_preV (by decide) rfl rfl hP hK hi hN) rfl rfl hl.1 rfl (lv_room (Nat.le_of_ble_eq_true rfl)) d_Sm_takeSignBefore_53 ⟨Nat.zero_le _, Nat.zero_le _⟩) hS (fun M7 H locs q8 hP hS => ?_)
    obtain ⟨hI, fq8, q8p⟩ := q8
    have hF := fr_call hF fq8 (fun a b q => by unfold tSp at q; unfold tSm; omega)
    obtain ⟨q8a, q8b, q8c⟩ := q8p
    have q8d := congrArg Int32.toInt (fq8 50 6 (by unfold tSp; omega))
    refine lv_aload_n hx hb d_Sm_takeSignBefore_56 rfl (lv_at hl 0 rfl) ?_
    refine lv_dup hx hb d_Sm_takeSignBefore_57 rfl ?_
    refine ux_get (C := R_Sm) (T := F_Sm) (N := 14) hx hb hT in_Sm hown hK hP (by decide) rfl rfl 6 (by decide) (hT _ fl_Sm_59) rfl d_Sm_takeSignBefore_58 ?_
    have b9 := iv0 (M := M7) (a := 50) (b := 6) hI (by unfold p0; omega)
    refine lv_iconst (v := 1) hx hb d_Sm_takeSignBefore_61 (by decide) ?_
    refine lv_iadd hx hb d_Sm_takeSignBefore_62 ?_
    refine lv_topi (fun x10 ex10 => ?_)
    try have fx10 : x10.toInt = (M7 50 6).toInt + 1 := by rw [ex10]; exact ti_add (by (try rw [show (1 : Int32).toInt = 1 from rfl]); omega) (by (try rw [show (1 : Int32).toInt = 1 from rfl]); omega)
    refine ux_put (C := R_Sm) (T := F_Sm) (N := 14) hx hb hT in_Sm t_Sm t_Sm_ok n_Sm hown hK hi hP hS (by decide) rfl rfl 6 (by decide) (hT _ fl_Sm_59) rfl (rfl) (rfl) rfl d_Sm_takeSignBefore_63 (fun H locs hP hS => ?_)
    have hI := IvX_wr (k := 50) (j := 6) (v := x10) hI (fun q => by unfold p0 at q; omega) (fun q => by unfold p8 at q; omega) (fun q => by unfold p20 at q; omega) (fun q => by unfold p40 at q; omega) (fun q => by unfold p200 at q; omega) (fun q => by unfold pch at q; omega)
    have hF := fr_wr (k := 50) (j := 6) (v := x10) hF (by unfold tSm; omega)
    generalize eM11 : ux_wr M7 50 6 x10 = M11 at hP hI hF
    refine lv_aload_n hx hb d_Sm_takeSignBefore_66 rfl (lv_at hl 0 rfl) ?_
    refine ux_get (C := R_Sm) (T := F_Sm) (N := 14) hx hb hT in_Sm hown hK hP (by decide) rfl rfl 6 (by decide) (hT _ fl_Sm_59) rfl d_Sm_takeSignBefore_67 ?_
    refine lv_topi (fun z12 hz12 => ?_)
    rw [show M11 50 6 = x10 from wr_at eM11] at hz12
    rw [hz12]
    refine lv_bipush (v := 8) hx hb d_Sm_takeSignBefore_70 (by decide) ?_
    refine lv_icmp_gt hx hb d_Sm_takeSignBefore_72 rfl (fun h13 => ?_) (fun h13 => ?_)
    · have g13 : 8 < x10.toInt := Int32.lt_iff_toInt_lt.mp h13
      have u13 := ti_hi x10
      refine lv_iconst (v := 0) hx hb d_Sm_takeSignBefore_79 (by decide) ?_
      exact W.zret (v := 0) hx hb hr (rfl) (fun t ht hW => ⟨⟨0, M11, rfl, ⟨hI, hF, ⟨Or.inl rfl, SmI_of (M := M7) (wr_at eM11) (wr_off eM11 (by omega)) (fun j => wr_off eM11 (by omega)) (by omega), by rw [wr_off eM11 (by omega)]; omega⟩⟩, by unfold ux_E; rw [ht]; exact hP⟩, hS.F ht⟩) hS.2.2 d_Sm_takeSignBefore_80
    · have g13 : ¬ (8 < x10.toInt) := fun q => h13 (Int32.lt_iff_toInt_lt.mpr q)
      have w13 := ti_lo x10
      refine lv_iconst (v := 1) hx hb d_Sm_takeSignBefore_75 (by decide) ?_
      refine lv_goto hx hb d_Sm_takeSignBefore_76 rfl ?_
      exact W.zret (v := 1) hx hb hr (rfl) (fun t ht hW => ⟨⟨1, M11, rfl, ⟨hI, hF, ⟨Or.inr rfl, SmI_of (M := M7) (wr_at eM11) (wr_off eM11 (by omega)) (fun j => wr_off eM11 (by omega)) (by omega), by rw [wr_off eM11 (by omega)]; omega⟩⟩, by unfold ux_E; rw [ht]; exact hP⟩, hS.F ht⟩) hS.2.2 d_Sm_takeSignBefore_80
  have g5 : ¬ ch.toInt = 40 := fun q => h5 (Int32.toInt_inj.mp q)
  by_cases h14 : ch = 45
  · have g14 : ch.toInt = 45 := congrArg Int32.toInt h14
    refine lv_lookup (off := 35) (tgt := 36) hx hb d_Sm_takeSignBefore_1 (by decide) (by rw [g14]; rfl) (by decide) ?_
    refine lv_aload_n hx hb d_Sm_takeSignBefore_36 rfl (lv_at hl 0 rfl) ?_
    refine lv_bipush (v := 126) hx hb d_Sm_takeSignBefore_37 (by decide) ?_
    refine ux_callv (va_runV ⟨hx, hb, hml, hown, hts⟩ (s_Sm_pushSign l D ad cA M hI 126 (by omega)) (cwV 1 hts (tb_goodV ml_Sm_93 im_Sm_pushSign se_Sm_pushSign ii_Sm kt_Sm_pushSign) rfl rfl rfl (by decide +kernel) ⟨Nat.le_of_ble_eq_true rfl, Nat.le_of_ble_eq_true rfl⟩) (ux_preV (by decide) rfl rfl hP hK hi hN) rfl rfl hl.1 rfl (lv_room (Nat.le_of_ble_eq_true rfl)) d_Sm_takeSignBefore_39 ⟨Nat.zero_le _, Nat.zero_le _⟩) hS (fun M16 H locs q17 hP hS => ?_)
    obtain ⟨hI, fq17, q17p⟩ := q17
    have hF := fr_call hF fq17 (fun a b q => by unfold tSp at q; unfold tSm; omega)
    obtain ⟨q17a, q17b, q17c⟩ := q17p
    rw [show (126 : Int32).toInt = 126 from rfl] at q17c
    have q17d := congrArg Int32.toInt (fq17 50 6 (by unfold tSp; omega))
    refine lv_iconst (v := 1) hx hb d_Sm_takeSignBefore_42 (by decide) ?_
    exact W.zret (v := 1) hx hb hr (rfl) (fun t ht hW => ⟨⟨1, M16, rfl, ⟨hI, hF, ⟨Or.inr rfl, SmI_of (M := M16) (fq17 50 6 (by unfold tSp; omega)) rfl (fun j => rfl) (by omega), by omega⟩⟩, by unfold ux_E; rw [ht]; exact hP⟩, hS.F ht⟩) hS.2.2 d_Sm_takeSignBefore_43
  have g14 : ¬ ch.toInt = 45 := fun q => h14 (Int32.toInt_inj.mp q)
  refine lv_lookup (off := 80) (tgt := 81) hx hb d_Sm_takeSignBefore_1 (by decide) (by show Op.lookupswitch.offset [(33, 43), (40, 50), (45, 35)] 80 ch.toInt = 80; rw [Op.lookupswitch.offset_cons, if_neg (show ¬ (33 : Int) = ch.toInt by omega), Op.lookupswitch.offset_cons, if_neg (show ¬ (40 : Int) = ch.toInt by omega), Op.lookupswitch.offset_cons, if_neg (show ¬ (45 : Int) = ch.toInt by omega)]; rfl) (by decide) ?_
  refine lv_iconst (v := 0) hx hb d_Sm_takeSignBefore_81 (by decide) ?_
  exact W.zret (v := 0) hx hb hr (rfl) (fun t ht hW => ⟨⟨0, M, rfl, ⟨hI, hF, ⟨Or.inl rfl, hsm, by omega⟩⟩, by unfold ux_E; rw [ht]; exact hP⟩, hS.F ht⟩) hS.2.2 d_Sm_takeSignBefore_82

set_option maxHeartbeats 8000000 in
set_option maxRecDepth 100000 in
theorem s_Sm_takeSign (l : Launch) (D : va_G) (ad : Nat → Nat) (cA : Nat → ClassId) (M : ux_M) (hI : IvX M) (ch : Int32) (hsm : SmI M) (hs2 : (M 50 5).toInt < 200) : Met l y_Sm_takeSign w_Sm_takeSign ({ frames := 2, cells := 0, slots := 0, locals := 49 }) (va_Pc [.ref (ad 50), .int ch] (ux_B D shX KX ad cA M)) (va_Qi (fun r M1 => IvX M1 ∧ (∀ a b, ¬ tSm a b → M1 a b = M a b) ∧ ((r = 0 ∨ r = 1) ∧ SmI M1 ∧ (M1 50 5).toInt ≤ (M 50 5).toInt + 1)) (ux_E D shX KX ad cA) (ux_A KX ad)) 0 0 (ux_A KX ad) := by
  refine Met.ofW (cc := b_Sm_takeSign) (maxL := 3) (ret := (some .boolean)) (by decide) rfl ?_
  intro p e s m args below meth c s₁ B hml hv
  obtain ⟨rfl, hP, hK, hi, hN⟩ := hv
  have hx := B.exec
  have hb := B.bytes
  have hr := B.returns
  have hts := atoms_spec (ws := w_Sm_takeSign) B.pre
  have hown : s.vm.findClass R_Sm = some m.cls := findClass_of_methodNamed B.named
  have hlocks := B.notSynchronized
  have hT : ∀ w ∈ tb, w.before _ s = true := fun w h => hts w (List.mem_cons_of_mem _ h)
  have hS : va_S (ux_A KX ad) s.heap s.heap [] := va_S.rf
  have hl := lv_entry ([.ref (ad 50), .int ch]) (n := 3) (Nat.le_of_ble_eq_true rfl)
  rw [lg_entry_eq]
  generalize (lg_sl ([.ref (ad 50), .int ch]) ++ List.replicate (3 - (lg_sl ([.ref (ad 50), .int ch])).length) Slot.unset).toArray = ls at hl ⊢
  have hl : lv_has ls 3 [(0, .ref (ad 50)), (1, .int ch)] := hl
  have hF : ∀ a b, ¬ tSm a b → M a b = M a b := fun _ _ _ => rfl
  have hsm0 := hsm
  unfold SmI at hsm0
  have hs50 := iv0 (M := M) (a := 50) (b := 5) hI (by unfold p0; omega)
  have hs60 := iv0 (M := M) (a := 50) (b := 6) hI (by unfold p0; omega)
  have hcx := c40_x (f := M 52) (x := M 50 5) hs50
  refine lv_iload_n hx hb d_Sm_takeSign_0 rfl (lv_at hl 1 rfl) ?_
  refine lv_bipush (v := 41) hx hb d_Sm_takeSign_1 (by decide) ?_
  refine lv_icmp_ne hx hb d_Sm_takeSign_3 rfl (fun h1 => ?_) (fun h1 => ?_)
  · have g1 : ¬ (ch.toInt = 41) := fun q => h1 (Int32.toInt_inj.mp q)
    refine lv_iload_n hx hb d_Sm_takeSign_49 rfl (lv_at hl 1 rfl) ?_
    refine ux_calli (va_runS ⟨hx, hb, hml, hown, hts⟩ (s_Sm_rankOf l D ad cA M hI ch) (va_cwS 1 hts (tb_goodST ml_Sm_121 sm_Sm_rankOf ii_Sm kt_Sm_rankOf) rfl rfl rfl (by decide +kernel) ⟨Nat.le_of_ble_eq_true rfl, Nat.le_of_ble_eq_true rfl⟩) (ux_pre hP hK hi hN) rfl rfl hl.1 rfl (lv_room (Nat.le_of_ble_eq_true rfl)) d_Sm_takeSign_50 ⟨Nat.zero_le _, Nat.zero_le _⟩) hS (fun r2 M3 H locs q4 hP hS => ?_)
    obtain ⟨hI, fq4, q4p⟩ := q4
    rw [tN_eq fq4] at hP hI
    refine lv_istore_n hx hb d_Sm_takeSign_53 rfl hl (by decide) rfl (fun ls hl => ?_)
    have hl : lv_has ls 3 [(2, .int r2), (0, .ref (ad 50)), (1, .int ch)] := hl
    refine lv_iload_n hx hb d_Sm_takeSign_54 rfl (lv_at hl 0 rfl) ?_
    refine lv_if_le hx hb d_Sm_takeSign_55 rfl (fun h5 => ?_) (fun h5 => ?_)
    · have g5 : r2.toInt ≤ 0 := Int32.le_iff_toInt_le.mp h5
      have w5 := ti_lo r2
      refine lv_iconst (v := 0) hx hb d_Sm_takeSign_64 (by decide) ?_
      exact W.zret (v := 0) hx hb hr (rfl) (fun t ht hW => ⟨⟨0, M, rfl, ⟨hI, hF, ⟨Or.inl rfl, hsm, by omega⟩⟩, by unfold ux_E; rw [ht]; exact hP⟩, hS.F ht⟩) hS.2.2 d_Sm_takeSign_65
    · have g5 : ¬ (r2.toInt ≤ 0) := fun q => h5 (Int32.le_iff_toInt_le.mpr q)
      have u5 := ti_hi r2
      refine lv_iload_n hx hb d_Sm_takeSign_58 rfl (lv_at hl 0 rfl) ?_
      refine lv_bipush (v := 6) hx hb d_Sm_takeSign_59 (by decide) ?_
      refine lv_icmp_lt hx hb d_Sm_takeSign_61 rfl (fun h6 => ?_) (fun h6 => ?_)
      · have g6 : r2.toInt < 6 := Int32.lt_iff_toInt_lt.mp h6
        have w6 := ti_lo r2
        refine lv_aload_n hx hb d_Sm_takeSign_66 rfl (lv_at hl 1 rfl) ?_
        refine lv_iload_n hx hb d_Sm_takeSign_67 rfl (lv_at hl 0 rfl) ?_
        refine ux_callv (va_runV ⟨hx, hb, hml, hown, hts⟩ (s_Sm_applyDownTo l D ad cA M hI r2 (by omega)) (cwV 1 hts (tb_goodV ml_Sm_62 im_Sm_applyDownTo se_Sm_applyDownTo ii_Sm kt_Sm_applyDownTo) rfl rfl rfl (by decide +kernel) ⟨Nat.le_of_ble_eq_true rfl, Nat.le_of_ble_eq_true rfl⟩) (ux_preV (by decide) rfl rfl hP hK hi hN) rfl rfl hl.1 rfl (lv_room (Nat.le_of_ble_eq_true rfl)) d_Sm_takeSign_68 ⟨Nat.zero_le _, Nat.zero_le _⟩) hS (fun M8 H locs q9 hP hS => ?_)
        obtain ⟨hI, fq9, q9p⟩ := q9
        have hF := fr_call hF fq9 (fun a b q => by unfold tSa at q; unfold tSm; omega)
        obtain ⟨q9a, q9b⟩ := q9p
        have q9c : c40 (M8 52) (M8 50 5).toNatClampNeg = c40 (M 52) (M8 50 5).toNatClampNeg := c40_cong _ (fun j _ => fq9 52 j (by unfold tSa; omega))
        have q9d := iv0 (M := M8) (a := 50) (b := 5) hI (by unfold p0; omega)
        have q9e := c40_x (f := M 52) (x := M8 50 5) q9d
        refine lv_aload_n hx hb d_Sm_takeSign_71 rfl (lv_at hl 1 rfl) ?_
        refine lv_iload_n hx hb d_Sm_takeSign_72 rfl (lv_at hl 2 rfl) ?_
        refine ux_callv (va_runV ⟨hx, hb, hml, hown, hts⟩ (s_Sm_pushSign l D ad cA M8 hI ch (by omega)) (cwV 1 hts (tb_goodV ml_Sm_93 im_Sm_pushSign se_Sm_pushSign ii_Sm kt_Sm_pushSign) rfl rfl rfl (by decide +kernel) ⟨Nat.le_of_ble_eq_true rfl, Nat.le_of_ble_eq_true rfl⟩) (ux_preV (by decide) rfl rfl hP hK hi hN) rfl rfl hl.1 rfl (lv_room (Nat.le_of_ble_eq_true rfl)) d_Sm_takeSign_73 ⟨Nat.zero_le _, Nat.zero_le _⟩) hS (fun M11 H locs q12 hP hS => ?_)
        obtain ⟨hI, fq12, q12p⟩ := q12
        have hF := fr_call hF fq12 (fun a b q => by unfold tSp at q; unfold tSm; omega)
        obtain ⟨q12a, q12b, q12c⟩ := q12p
        have q12d := congrArg Int32.toInt (fq12 50 6 (by unfold tSp; omega))
        refine lv_aload_n hx hb d_Sm_takeSign_76 rfl (lv_at hl 1 rfl) ?_
        refine lv_iconst (v := 1) hx hb d_Sm_takeSign_77 (by decide) ?_
        refine ux_put (C := R_Sm) (T := F_Sm) (N := 14) hx hb hT in_Sm t_Sm t_Sm_ok n_Sm hown hK hi hP hS (by decide) rfl rfl 10 (by decide) (hT _ fl_Sm_37) rfl (rfl) (rfl) rfl d_Sm_takeSign_78 (fun H locs hP hS => ?_)
        have hI := IvX_free (k := 50) (j := 10) (v := 1) hI (by unfold ppn; omega) (by unfold pch; omega)
        have hF := fr_wr (k := 50) (j := 10) (v := 1) hF (by unfold tSm; omega)
        generalize eM13 : ux_wr M11 50 10 1 = M13 at hP hI hF
        refine lv_iconst (v := 1) hx hb d_Sm_takeSign_81 (by decide) ?_
        exact W.zret (v := 1) hx hb hr (rfl) (fun t ht hW => ⟨⟨1, M13, rfl, ⟨hI, hF, ⟨Or.inr rfl, SmI_of (M := M11) ((wr_off eM13 (by omega)).trans ((fq12 _ _ (by unfold tSp; omega)).trans (fq9 _ _ (by unfold tSa; omega)))) (wr_off eM13 (by omega)) (fun j => wr_off eM13 (by omega)) (by omega), by rw [wr_off eM13 (by omega)]; omega⟩⟩, by unfold ux_E; rw [ht]; exact hP⟩, hS.F ht⟩) hS.2.2 d_Sm_takeSign_82
      · have g6 : ¬ (r2.toInt < 6) := fun q => h6 (Int32.lt_iff_toInt_lt.mpr q)
        have u6 := ti_hi r2
        refine lv_iconst (v := 0) hx hb d_Sm_takeSign_64 (by decide) ?_
        exact W.zret (v := 0) hx hb hr (rfl) (fun t ht hW => ⟨⟨0, M, rfl, ⟨hI, hF, ⟨Or.inl rfl, hsm, by omega⟩⟩, by unfold ux_E; rw [ht]; exact hP⟩, hS.F ht⟩) hS.2.2 d_Sm_takeSign_65
  · have g1 : ch.toInt = 41 := congrArg Int32.toInt h1
    refine lv_aload_n hx hb d_Sm_takeSign_6 rfl (lv_at hl 0 rfl) ?_
    refine ux_get (C := R_Sm) (T := F_Sm) (N := 14) hx hb hT in_Sm hown hK hP (by decide) rfl rfl 6 (by decide) (hT _ fl_Sm_59) rfl d_Sm_takeSign_7 ?_
    have b14 := iv0 (M := M) (a := 50) (b := 6) hI (by unfold p0; omega)
    refine lv_if_eq hx hb d_Sm_takeSign_10 rfl (fun h15 => ?_) (fun h15 => ?_)
    · have g15 : (M 50 6).toInt = 0 := congrArg Int32.toInt h15
      refine lv_iconst (v := 0) hx hb d_Sm_takeSign_20 (by decide) ?_
      exact W.zret (v := 0) hx hb hr (rfl) (fun t ht hW => ⟨⟨0, M, rfl, ⟨hI, hF, ⟨Or.inl rfl, hsm, by omega⟩⟩, by unfold ux_E; rw [ht]; exact hP⟩, hS.F ht⟩) hS.2.2 d_Sm_takeSign_21
    · have g15 : ¬ ((M 50 6).toInt = 0) := fun q => h15 (Int32.toInt_inj.mp q)
      refine lv_aload_n hx hb d_Sm_takeSign_13 rfl (lv_at hl 0 rfl) ?_
      refine ux_get (C := R_Sm) (T := F_Sm) (N := 14) hx hb hT in_Sm hown hK hP (by decide) rfl rfl 5 (by decide) (hT _ fl_Sm_90) rfl d_Sm_takeSign_14 ?_
      have b16 := iv0 (M := M) (a := 50) (b := 5) hI (by unfold p0; omega)
      have b17 := iv200 (M := M) (a := 50) (b := 5) hI (by unfold p200; omega)
      refine lv_if_ne hx hb d_Sm_takeSign_17 rfl (fun h18 => ?_) (fun h18 => ?_)
      · have g18 : ¬ ((M 50 5).toInt = 0) := fun q => h18 (Int32.toInt_inj.mp q)
        refine lv_aload_n hx hb d_Sm_takeSign_22 rfl (lv_at hl 0 rfl) ?_
        refine lv_iconst (v := 1) hx hb d_Sm_takeSign_23 (by decide) ?_
        refine ux_callv (va_runV ⟨hx, hb, hml, hown, hts⟩ (s_Sm_applyDownTo l D ad cA M hI 1 (by decide)) (cwV 1 hts (tb_goodV ml_Sm_62 im_Sm_applyDownTo se_Sm_applyDownTo ii_Sm kt_Sm_applyDownTo) rfl rfl rfl (by decide +kernel) ⟨Nat.le_of_ble_eq_true rfl, Nat.le_of_ble_eq_true rfl⟩) (ux_preV (by decide) rfl rfl hP hK hi hN) rfl rfl hl.1 rfl (lv_room (Nat.le_of_ble_eq_true rfl)) d_Sm_takeSign_24 ⟨Nat.zero_le _, Nat.zero_le _⟩) hS (fun M20 H locs q21 hP hS => ?_)
        obtain ⟨hI, fq21, q21p⟩ := q21
        have hF := fr_call hF fq21 (fun a b q => by unfold tSa at q; unfold tSm; omega)
        obtain ⟨q21a, q21b⟩ := q21p
        have q21c : c40 (M20 52) (M20 50 5).toNatClampNeg = c40 (M 52) (M20 50 5).toNatClampNeg := c40_cong _ (fun j _ => fq21 52 j (by unfold tSa; omega))
        have q21d := iv0 (M := M20) (a := 50) (b := 5) hI (by unfold p0; omega)
        have q21e := c40_x (f := M 52) (x := M20 50 5) q21d
        refine lv_aload_n hx hb d_Sm_takeSign_27 rfl (lv_at hl 0 rfl) ?_
        refine lv_dup hx hb d_Sm_takeSign_28 rfl ?_
        refine ux_get (C := R_Sm) (T := F_Sm) (N := 14) hx hb hT in_Sm hown hK hP (by decide) rfl rfl 6 (by decide) (hT _ fl_Sm_59) rfl d_Sm_takeSign_29 ?_
        refine lv_topi (fun z22 hz22 => ?_)
        rw [show M20 50 6 = M 50 6 from fq21 _ _ (by unfold tSa; omega)] at hz22
        rw [hz22]
        refine lv_iconst (v := 1) hx hb d_Sm_takeSign_32 (by decide) ?_
        refine lv_isub hx hb d_Sm_takeSign_33 ?_
        refine lv_topi (fun x23 ex23 => ?_)
        try have fx23 : x23.toInt = (M 50 6).toInt - 1 := by rw [ex23]; exact ti_sub (by (try rw [show (1 : Int32).toInt = 1 from rfl]); omega) (by (try rw [show (1 : Int32).toInt = 1 from rfl]); omega)
        refine ux_put (C := R_Sm) (T := F_Sm) (N := 14) hx hb hT in_Sm t_Sm t_Sm_ok n_Sm hown hK hi hP hS (by decide) rfl rfl 6 (by decide) (hT _ fl_Sm_59) rfl (rfl) (rfl) rfl d_Sm_takeSign_34 (fun H locs hP hS => ?_)
        have hI := IvX_wr (k := 50) (j := 6) (v := x23) hI (fun q => by unfold p0 at q; omega) (fun q => by unfold p8 at q; omega) (fun q => by unfold p20 at q; omega) (fun q => by unfold p40 at q; omega) (fun q => by unfold p200 at q; omega) (fun q => by unfold pch at q; omega)
        have hF := fr_wr (k := 50) (j := 6) (v := x23) hF (by unfold tSm; omega)
        generalize eM24 : ux_wr M20 50 6 x23 = M24 at hP hI hF
        have hs37 := congrArg Int32.toInt (show M24 50 5 = M20 50 5 from wr_off eM24 (by omega))
        refine lv_aload_n hx hb d_Sm_takeSign_37 rfl (lv_at hl 0 rfl) ?_
        refine lv_dup hx hb d_Sm_takeSign_38 rfl ?_
        refine ux_get (C := R_Sm) (T := F_Sm) (N := 14) hx hb hT in_Sm hown hK hP (by decide) rfl rfl 5 (by decide) (hT _ fl_Sm_90) rfl d_Sm_takeSign_39 ?_
        have b25 := iv0 (M := M24) (a := 50) (b := 5) hI (by unfold p0; omega)
        have b26 := iv200 (M := M24) (a := 50) (b := 5) hI (by unfold p200; omega)
        refine lv_iconst (v := 1) hx hb d_Sm_takeSign_42 (by decide) ?_
        refine lv_isub hx hb d_Sm_takeSign_43 ?_
        refine lv_topi (fun x27 ex27 => ?_)
        try have fx27 : x27.toInt = (M24 50 5).toInt - 1 := by rw [ex27]; exact ti_sub (by (try rw [show (1 : Int32).toInt = 1 from rfl]); omega) (by (try rw [show (1 : Int32).toInt = 1 from rfl]); omega)
        refine ux_put (C := R_Sm) (T := F_Sm) (N := 14) hx hb hT in_Sm t_Sm t_Sm_ok n_Sm hown hK hi hP hS (by decide) rfl rfl 5 (by decide) (hT _ fl_Sm_90) rfl (rfl) (rfl) rfl d_Sm_takeSign_44 (fun H locs hP hS => ?_)
        have hI := IvX_wr (k := 50) (j := 5) (v := x27) hI (fun q => by unfold p0 at q; omega) (fun q => by unfold p8 at q; omega) (fun q => by unfold p20 at q; omega) (fun q => by unfold p40 at q; omega) (fun q => by unfold p200 at q; omega) (fun q => by unfold pch at q; omega)
        have hF := fr_wr (k := 50) (j := 5) (v := x27) hF (by unfold tSm; omega)
        generalize eM28 : ux_wr M24 50 5 x27 = M28 at hP hI hF
        have hc1 := c40_1 (f := M 52) (x := M20 50 5) (y := x27) (by omega) (by omega)
        refine lv_iconst (v := 1) hx hb d_Sm_takeSign_47 (by decide) ?_
        exact W.zret (v := 1) hx hb hr (rfl) (fun t ht hW => ⟨⟨1, M28, rfl, ⟨hI, hF, ⟨Or.inr rfl, SmI_of (M := M) ((wr_off eM28 (by omega)).trans (wr_at eM24)) (wr_at eM28) (fun j => (wr_off eM28 (by omega)).trans ((wr_off eM24 (by omega)).trans (fq21 _ _ (by unfold tSa; omega)))) (by omega), by rw [wr_at eM28]; omega⟩⟩, by unfold ux_E; rw [ht]; exact hP⟩, hS.F ht⟩) hS.2.2 d_Sm_takeSign_48
      · have g18 : (M 50 5).toInt = 0 := congrArg Int32.toInt h18
        refine lv_iconst (v := 0) hx hb d_Sm_takeSign_20 (by decide) ?_
        exact W.zret (v := 0) hx hb hr (rfl) (fun t ht hW => ⟨⟨0, M, rfl, ⟨hI, hF, ⟨Or.inl rfl, hsm, by omega⟩⟩, by unfold ux_E; rw [ht]; exact hP⟩, hS.F ht⟩) hS.2.2 d_Sm_takeSign_21

set_option maxHeartbeats 8000000 in
set_option maxRecDepth 100000 in
theorem s_Sm_workOut (l : Launch) (D : va_G) (ad : Nat → Nat) (cA : Nat → ClassId) (M : ux_M) (hI : IvX M) (a b f : Int32) : Met l y_Sm_workOut w_Sm_workOut ({ frames := 3, cells := 0, slots := 0, locals := 71 }) (va_Pc [.ref (ad 50), .int a, .int b, .int f] (ux_B D shX KX ad cA M)) (va_Qi (fun r M1 => IvX M1 ∧ (∀ a b, ¬ tSm a b → M1 a b = M a b) ∧ (True)) (ux_E D shX KX ad cA) (ux_A KX ad)) 0 0 (ux_A KX ad) := by
  refine Met.ofW (cc := b_Sm_workOut) (maxL := 7) (ret := (some .int)) (by decide) rfl ?_
  intro p e s m args below meth c s₁ B hml hv
  obtain ⟨rfl, hP, hK, hi, hN⟩ := hv
  have hx := B.exec
  have hb := B.bytes
  have hr := B.returns
  have hts := atoms_spec (ws := w_Sm_workOut) B.pre
  have hown : s.vm.findClass R_Sm = some m.cls := findClass_of_methodNamed B.named
  have hlocks := B.notSynchronized
  have hT : ∀ w ∈ tb, w.before _ s = true := fun w h => hts w (List.mem_cons_of_mem _ h)
  have hS : va_S (ux_A KX ad) s.heap s.heap [] := va_S.rf
  have hl := lv_entry ([.ref (ad 50), .int a, .int b, .int f]) (n := 7) (Nat.le_of_ble_eq_true rfl)
  rw [lg_entry_eq]
  generalize (lg_sl ([.ref (ad 50), .int a, .int b, .int f]) ++ List.replicate (7 - (lg_sl ([.ref (ad 50), .int a, .int b, .int f])).length) Slot.unset).toArray = ls at hl ⊢
  have hl : lv_has ls 7 [(0, .ref (ad 50)), (1, .int a), (2, .int b), (3, .int f)] := hl
  have hF : ∀ a b, ¬ tSm a b → M a b = M a b := fun _ _ _ => rfl
  have cut10 : ∀ (nn : Nat) (i_4 : Int32) (Mc10 : ux_M) (H : Heap) (locs : List Loc) (ls : Array Slot), ((200 : Int) - i_4.toInt).toNat = nn → (0 ≤ i_4.toInt) → (SmI Mc10) → ((Mc10 50 5).toInt ≤ i_4.toInt) → va_P D classes (ux_w shX KX ad cA Mc10) H → IvX Mc10 → (∀ a b, ¬ tSm a b → Mc10 a b = M a b) → va_S (ux_A KX ad) s.heap H locs → lv_has ls 7 [(0, .ref (ad 50)), (4, .int i_4)] → W p l e (headSpec w_Sm_workOut ({ frames := 3, cells := 0, slots := 0, locals := 71 })).room s m (([.ref (ad 50), .int a, .int b, .int f] : List Value).toArray) below meth c H locs 0 0 (MQ below (va_Qi (fun r M1 => IvX M1 ∧ (∀ a b, ¬ tSm a b → M1 a b = M a b) ∧ (True)) (ux_E D shX KX ad cA) (ux_A KX ad)) (([.ref (ad 50), .int a, .int b, .int f] : List Value).toArray) s 0 0 (ux_A KX ad)) (F0 m 10 ls []) := by
    intro nn
    induction nn using Nat.strongRecOn with
    | ind nn ih10 =>
      intro i_4 Mc10 H locs ls hn c10_0 c10_1 c10_2 hP hI hF hS hl
      have cut122 : ∀ (i_6 : Int32) (Mc122 : ux_M) (H : Heap) (locs : List Loc) (ls : Array Slot), (i_4.toInt < 200) → (SmI Mc122) → ((Mc122 50 5).toInt ≤ i_4.toInt + 1) → va_P D classes (ux_w shX KX ad cA Mc122) H → IvX Mc122 → (∀ a b, ¬ tSm a b → Mc122 a b = M a b) → va_S (ux_A KX ad) s.heap H locs → lv_has ls 7 [(0, .ref (ad 50)), (4, .int i_4), (6, .int i_6)] → W p l e (headSpec w_Sm_workOut ({ frames := 3, cells := 0, slots := 0, locals := 71 })).room s m (([.ref (ad 50), .int a, .int b, .int f] : List Value).toArray) below meth c H locs 0 0 (MQ below (va_Qi (fun r M1 => IvX M1 ∧ (∀ a b, ¬ tSm a b → M1 a b = M a b) ∧ (True)) (ux_E D shX KX ad cA) (ux_A KX ad)) (([.ref (ad 50), .int a, .int b, .int f] : List Value).toArray) s 0 0 (ux_A KX ad)) (F0 m 122 ls []) := by
        intro i_6 Mc122 H locs ls c122_0 c122_1 c122_2 hP hI hF hS hl
        refine lv_iload hx hb d_Sm_workOut_122 (lv_at hl 2 rfl) ?_
        refine lv_if_ne hx hb d_Sm_workOut_124 rfl (fun h1 => ?_) (fun h1 => ?_)
        · have g1 : ¬ (i_6.toInt = 0) := fun q => h1 (Int32.toInt_inj.mp q)
          obtain ⟨x2, ex2⟩ : ∃ z : Int32, z = i_4 + 1 := ⟨_, rfl⟩
          refine lv_iinc (k := 1) (v := x2) hx hb d_Sm_workOut_129 hl rfl ex2.symm (by decide) rfl (fun ls hl => ?_)
          have hl : lv_has ls 7 [(4, .int x2), (0, .ref (ad 50)), (6, .int i_6)] := hl
          try have fx2 : x2.toInt = i_4.toInt + 1 := by rw [ex2]; exact ti_add (by (try rw [show (1 : Int32).toInt = 1 from rfl]); omega) (by (try rw [show (1 : Int32).toInt = 1 from rfl]); omega)
          refine lv_goto hx hb d_Sm_workOut_132 rfl ?_
          exact ih10 (((200 : Int) - x2.toInt).toNat) (by omega) x2 Mc122 _ _ ls rfl (show 0 ≤ x2.toInt from by first | omega | assumption | exact Or.inl rfl | exact Or.inr rfl | rfl | decide) (show SmI Mc122 from by first | omega | assumption | exact Or.inl rfl | exact Or.inr rfl | rfl | decide) (show (Mc122 50 5).toInt ≤ x2.toInt from by first | omega | assumption | exact Or.inl rfl | exact Or.inr rfl | rfl | decide) hP hI hF hS (lv_sub hl [1, 0] rfl)
        · have g1 : i_6.toInt = 0 := congrArg Int32.toInt h1
          refine lv_iconst (v := 1) hx hb d_Sm_workOut_127 (by decide) ?_
          exact W.iret (v := 1) hx hb hr (fun t ht hW => ⟨⟨1, Mc122, rfl, ⟨hI, hF, trivial⟩, by unfold ux_E; rw [ht]; exact hP⟩, hS.F ht⟩) hS.2.2 d_Sm_workOut_128
      refine lv_iload hx hb d_Sm_workOut_10 (lv_at hl 1 rfl) ?_
      refine lv_sipush (v := 200) hx hb d_Sm_workOut_12 (by decide) ?_
      refine lv_icmp_ge hx hb d_Sm_workOut_15 rfl (fun h3 => ?_) (fun h3 => ?_)
      · have g3 : 200 ≤ i_4.toInt := Int32.le_iff_toInt_le.mp h3
        have u3 := ti_hi i_4
        refine lv_aload_n hx hb d_Sm_workOut_135 rfl (lv_at hl 0 rfl) ?_
        refine ux_get (C := R_Sm) (T := F_Sm) (N := 14) hx hb hT in_Sm hown hK hP (by decide) rfl rfl 10 (by decide) (hT _ fl_Sm_37) rfl d_Sm_workOut_136 ?_
        refine lv_if_ne hx hb d_Sm_workOut_139 rfl (fun h4 => ?_) (fun h4 => ?_)
        · have g4 : ¬ ((Mc10 50 10).toInt = 0) := fun q => h4 (Int32.toInt_inj.mp q)
          refine lv_iconst (v := 1) hx hb d_Sm_workOut_149 (by decide) ?_
          exact W.iret (v := 1) hx hb hr (fun t ht hW => ⟨⟨1, Mc10, rfl, ⟨hI, hF, trivial⟩, by unfold ux_E; rw [ht]; exact hP⟩, hS.F ht⟩) hS.2.2 d_Sm_workOut_150
        · have g4 : (Mc10 50 10).toInt = 0 := congrArg Int32.toInt h4
          refine lv_aload_n hx hb d_Sm_workOut_142 rfl (lv_at hl 0 rfl) ?_
          refine ux_get (C := R_Sm) (T := F_Sm) (N := 14) hx hb hT in_Sm hown hK hP (by decide) rfl rfl 6 (by decide) (hT _ fl_Sm_59) rfl d_Sm_workOut_143 ?_
          have b5 := iv0 (M := Mc10) (a := 50) (b := 6) hI (by unfold p0; omega)
          refine lv_if_le hx hb d_Sm_workOut_146 rfl (fun h6 => ?_) (fun h6 => ?_)
          · have g6 : (Mc10 50 6).toInt ≤ 0 := Int32.le_iff_toInt_le.mp h6
            have w6 := ti_lo (Mc10 50 6)
            refine lv_aload_n hx hb d_Sm_workOut_151 rfl (lv_at hl 0 rfl) ?_
            refine lv_iconst (v := 1) hx hb d_Sm_workOut_152 (by decide) ?_
            refine ux_callv (va_runV ⟨hx, hb, hml, hown, hts⟩ (s_Sm_applyDownTo l D ad cA Mc10 hI 1 (by decide)) (cwV 1 hts (tb_goodV ml_Sm_62 im_Sm_applyDownTo se_Sm_applyDownTo ii_Sm kt_Sm_applyDownTo) rfl rfl rfl (by decide +kernel) ⟨Nat.le_of_ble_eq_true rfl, Nat.le_of_ble_eq_true rfl⟩) (ux_preV (by decide) rfl rfl hP hK hi hN) rfl rfl hl.1 rfl (lv_room (Nat.le_of_ble_eq_true rfl)) d_Sm_workOut_153 ⟨Nat.zero_le _, Nat.zero_le _⟩) hS (fun M8 H locs q9 hP hS => ?_)
            obtain ⟨hI, fq9, q9p⟩ := q9
            have hF := fr_call hF fq9 (fun a b q => by unfold tSa at q; unfold tSm; omega)
            obtain ⟨q9a, q9b⟩ := q9p
            have q9c : c40 (M8 52) (M8 50 5).toNatClampNeg = c40 (Mc10 52) (M8 50 5).toNatClampNeg := c40_cong _ (fun j _ => fq9 52 j (by unfold tSa; omega))
            have q9d := iv0 (M := M8) (a := 50) (b := 5) hI (by unfold p0; omega)
            have q9e := c40_x (f := Mc10 52) (x := M8 50 5) q9d
            refine lv_aload_n hx hb d_Sm_workOut_156 rfl (lv_at hl 0 rfl) ?_
            refine lv_aload_n hx hb d_Sm_workOut_157 rfl (lv_at hl 0 rfl) ?_
            refine ux_get (C := R_Sm) (T := F_Sm) (N := 14) hx hb hT in_Sm hown hK hP (by decide) rfl rfl 2 (by decide) (hT _ fl_Sm_9) rfl d_Sm_workOut_158 ?_
            refine lv_iconst (v := 0) hx hb d_Sm_workOut_161 (by decide) ?_
            refine ux_iald hx hb hK hP (by decide) rfl (vi (by decide) (by decide)) d_Sm_workOut_162 ?_
            refine ux_put (C := R_Sm) (T := F_Sm) (N := 14) hx hb hT in_Sm t_Sm t_Sm_ok n_Sm hown hK hi hP hS (by decide) rfl rfl 13 (by decide) (hT _ fl_Sm_66) rfl (rfl) (rfl) rfl d_Sm_workOut_163 (fun H locs hP hS => ?_)
            have hI := IvX_free (k := 50) (j := 13) (v := M8 51 ((0 : Int32).toNatClampNeg)) hI (by unfold ppn; omega) (by unfold pch; omega)
            have hF := fr_wr (k := 50) (j := 13) (v := M8 51 ((0 : Int32).toNatClampNeg)) hF (by unfold tSm; omega)
            generalize eM10 : ux_wr M8 50 13 (M8 51 ((0 : Int32).toNatClampNeg)) = M10 at hP hI hF
            refine lv_aload_n hx hb d_Sm_workOut_166 rfl (lv_at hl 0 rfl) ?_
            refine ux_get (C := R_Sm) (T := F_Sm) (N := 14) hx hb hT in_Sm hown hK hP (by decide) rfl rfl 11 (by decide) (hT _ fl_Sm_69) rfl d_Sm_workOut_167 ?_
            refine lv_if_eq hx hb d_Sm_workOut_170 rfl (fun h11 => ?_) (fun h11 => ?_)
            · have g11 : (M10 50 11).toInt = 0 := congrArg Int32.toInt h11
              refine lv_aload_n hx hb d_Sm_workOut_178 rfl (lv_at hl 0 rfl) ?_
              refine ux_get (C := R_Sm) (T := F_Sm) (N := 14) hx hb hT in_Sm hown hK hP (by decide) rfl rfl 12 (by decide) (hT _ fl_Sm_72) rfl d_Sm_workOut_179 ?_
              refine lv_if_eq hx hb d_Sm_workOut_182 rfl (fun h12 => ?_) (fun h12 => ?_)
              · have g12 : (M10 50 12).toInt = 0 := congrArg Int32.toInt h12
                refine lv_iconst (v := 0) hx hb d_Sm_workOut_190 (by decide) ?_
                exact W.iret (v := 0) hx hb hr (fun t ht hW => ⟨⟨0, M10, rfl, ⟨hI, hF, trivial⟩, by unfold ux_E; rw [ht]; exact hP⟩, hS.F ht⟩) hS.2.2 d_Sm_workOut_191
              · have g12 : ¬ ((M10 50 12).toInt = 0) := fun q => h12 (Int32.toInt_inj.mp q)
                refine lv_bipush (v := 6) hx hb d_Sm_workOut_185 (by decide) ?_
                refine lv_goto hx hb d_Sm_workOut_187 rfl ?_
                exact W.iret (v := 6) hx hb hr (fun t ht hW => ⟨⟨6, M10, rfl, ⟨hI, hF, trivial⟩, by unfold ux_E; rw [ht]; exact hP⟩, hS.F ht⟩) hS.2.2 d_Sm_workOut_191
            · have g11 : ¬ ((M10 50 11).toInt = 0) := fun q => h11 (Int32.toInt_inj.mp q)
              refine lv_aload_n hx hb d_Sm_workOut_173 rfl (lv_at hl 0 rfl) ?_
              refine ux_get (C := R_Sm) (T := F_Sm) (N := 14) hx hb hT in_Sm hown hK hP (by decide) rfl rfl 11 (by decide) (hT _ fl_Sm_69) rfl d_Sm_workOut_174 ?_
              exact W.iret (v := M10 50 11) hx hb hr (fun t ht hW => ⟨⟨M10 50 11, M10, rfl, ⟨hI, hF, trivial⟩, by unfold ux_E; rw [ht]; exact hP⟩, hS.F ht⟩) hS.2.2 d_Sm_workOut_177
          · have g6 : ¬ ((Mc10 50 6).toInt ≤ 0) := fun q => h6 (Int32.le_iff_toInt_le.mpr q)
            have u6 := ti_hi (Mc10 50 6)
            refine lv_iconst (v := 1) hx hb d_Sm_workOut_149 (by decide) ?_
            exact W.iret (v := 1) hx hb hr (fun t ht hW => ⟨⟨1, Mc10, rfl, ⟨hI, hF, trivial⟩, by unfold ux_E; rw [ht]; exact hP⟩, hS.F ht⟩) hS.2.2 d_Sm_workOut_150
      · have g3 : ¬ (200 ≤ i_4.toInt) := fun q => h3 (Int32.le_iff_toInt_le.mpr q)
        have w3 := ti_lo i_4
        refine lv_aload_n hx hb d_Sm_workOut_18 rfl (lv_at hl 0 rfl) ?_
        refine ux_get (C := R_Sm) (T := F_Sm) (N := 14) hx hb hT in_Sm hown hK hP (by decide) rfl rfl 7 (by decide) (hT _ fl_Sm_30) rfl d_Sm_workOut_19 ?_
        have b13 := iv0 (M := Mc10) (a := 50) (b := 7) hI (by unfold p0; omega)
        refine lv_aload_n hx hb d_Sm_workOut_22 rfl (lv_at hl 0 rfl) ?_
        refine ux_get (C := R_Sm) (T := F_Sm) (N := 14) hx hb hT in_Sm hown hK hP (by decide) rfl rfl 8 (by decide) (hT _ fl_Sm_34) rfl d_Sm_workOut_23 ?_
        have b14 := iv200 (M := Mc10) (a := 50) (b := 8) hI (by unfold p200; omega)
        refine lv_icmp_ge hx hb d_Sm_workOut_26 rfl (fun h15 => ?_) (fun h15 => ?_)
        · have g15 : (Mc10 50 8).toInt ≤ (Mc10 50 7).toInt := Int32.le_iff_toInt_le.mp h15
          have u15 := ti_hi (Mc10 50 7)
          have w15 := ti_lo (Mc10 50 8)
          refine lv_aload_n hx hb d_Sm_workOut_135 rfl (lv_at hl 0 rfl) ?_
          refine ux_get (C := R_Sm) (T := F_Sm) (N := 14) hx hb hT in_Sm hown hK hP (by decide) rfl rfl 10 (by decide) (hT _ fl_Sm_37) rfl d_Sm_workOut_136 ?_
          refine lv_if_ne hx hb d_Sm_workOut_139 rfl (fun h16 => ?_) (fun h16 => ?_)
          · have g16 : ¬ ((Mc10 50 10).toInt = 0) := fun q => h16 (Int32.toInt_inj.mp q)
            refine lv_iconst (v := 1) hx hb d_Sm_workOut_149 (by decide) ?_
            exact W.iret (v := 1) hx hb hr (fun t ht hW => ⟨⟨1, Mc10, rfl, ⟨hI, hF, trivial⟩, by unfold ux_E; rw [ht]; exact hP⟩, hS.F ht⟩) hS.2.2 d_Sm_workOut_150
          · have g16 : (Mc10 50 10).toInt = 0 := congrArg Int32.toInt h16
            refine lv_aload_n hx hb d_Sm_workOut_142 rfl (lv_at hl 0 rfl) ?_
            refine ux_get (C := R_Sm) (T := F_Sm) (N := 14) hx hb hT in_Sm hown hK hP (by decide) rfl rfl 6 (by decide) (hT _ fl_Sm_59) rfl d_Sm_workOut_143 ?_
            have b17 := iv0 (M := Mc10) (a := 50) (b := 6) hI (by unfold p0; omega)
            refine lv_if_le hx hb d_Sm_workOut_146 rfl (fun h18 => ?_) (fun h18 => ?_)
            · have g18 : (Mc10 50 6).toInt ≤ 0 := Int32.le_iff_toInt_le.mp h18
              have w18 := ti_lo (Mc10 50 6)
              refine lv_aload_n hx hb d_Sm_workOut_151 rfl (lv_at hl 0 rfl) ?_
              refine lv_iconst (v := 1) hx hb d_Sm_workOut_152 (by decide) ?_
              refine ux_callv (va_runV ⟨hx, hb, hml, hown, hts⟩ (s_Sm_applyDownTo l D ad cA Mc10 hI 1 (by decide)) (cwV 1 hts (tb_goodV ml_Sm_62 im_Sm_applyDownTo se_Sm_applyDownTo ii_Sm kt_Sm_applyDownTo) rfl rfl rfl (by decide +kernel) ⟨Nat.le_of_ble_eq_true rfl, Nat.le_of_ble_eq_true rfl⟩) (ux_preV (by decide) rfl rfl hP hK hi hN) rfl rfl hl.1 rfl (lv_room (Nat.le_of_ble_eq_true rfl)) d_Sm_workOut_153 ⟨Nat.zero_le _, Nat.zero_le _⟩) hS (fun M20 H locs q21 hP hS => ?_)
              obtain ⟨hI, fq21, q21p⟩ := q21
              have hF := fr_call hF fq21 (fun a b q => by unfold tSa at q; unfold tSm; omega)
              obtain ⟨q21a, q21b⟩ := q21p
              have q21c : c40 (M20 52) (M20 50 5).toNatClampNeg = c40 (Mc10 52) (M20 50 5).toNatClampNeg := c40_cong _ (fun j _ => fq21 52 j (by unfold tSa; omega))
              have q21d := iv0 (M := M20) (a := 50) (b := 5) hI (by unfold p0; omega)
              have q21e := c40_x (f := Mc10 52) (x := M20 50 5) q21d
              refine lv_aload_n hx hb d_Sm_workOut_156 rfl (lv_at hl 0 rfl) ?_
              refine lv_aload_n hx hb d_Sm_workOut_157 rfl (lv_at hl 0 rfl) ?_
              refine ux_get (C := R_Sm) (T := F_Sm) (N := 14) hx hb hT in_Sm hown hK hP (by decide) rfl rfl 2 (by decide) (hT _ fl_Sm_9) rfl d_Sm_workOut_158 ?_
              refine lv_iconst (v := 0) hx hb d_Sm_workOut_161 (by decide) ?_
              refine ux_iald hx hb hK hP (by decide) rfl (vi (by decide) (by decide)) d_Sm_workOut_162 ?_
              refine ux_put (C := R_Sm) (T := F_Sm) (N := 14) hx hb hT in_Sm t_Sm t_Sm_ok n_Sm hown hK hi hP hS (by decide) rfl rfl 13 (by decide) (hT _ fl_Sm_66) rfl (rfl) (rfl) rfl d_Sm_workOut_163 (fun H locs hP hS => ?_)
              have hI := IvX_free (k := 50) (j := 13) (v := M20 51 ((0 : Int32).toNatClampNeg)) hI (by unfold ppn; omega) (by unfold pch; omega)
              have hF := fr_wr (k := 50) (j := 13) (v := M20 51 ((0 : Int32).toNatClampNeg)) hF (by unfold tSm; omega)
              generalize eM22 : ux_wr M20 50 13 (M20 51 ((0 : Int32).toNatClampNeg)) = M22 at hP hI hF
              refine lv_aload_n hx hb d_Sm_workOut_166 rfl (lv_at hl 0 rfl) ?_
              refine ux_get (C := R_Sm) (T := F_Sm) (N := 14) hx hb hT in_Sm hown hK hP (by decide) rfl rfl 11 (by decide) (hT _ fl_Sm_69) rfl d_Sm_workOut_167 ?_
              refine lv_if_eq hx hb d_Sm_workOut_170 rfl (fun h23 => ?_) (fun h23 => ?_)
              · have g23 : (M22 50 11).toInt = 0 := congrArg Int32.toInt h23
                refine lv_aload_n hx hb d_Sm_workOut_178 rfl (lv_at hl 0 rfl) ?_
                refine ux_get (C := R_Sm) (T := F_Sm) (N := 14) hx hb hT in_Sm hown hK hP (by decide) rfl rfl 12 (by decide) (hT _ fl_Sm_72) rfl d_Sm_workOut_179 ?_
                refine lv_if_eq hx hb d_Sm_workOut_182 rfl (fun h24 => ?_) (fun h24 => ?_)
                · have g24 : (M22 50 12).toInt = 0 := congrArg Int32.toInt h24
                  refine lv_iconst (v := 0) hx hb d_Sm_workOut_190 (by decide) ?_
                  exact W.iret (v := 0) hx hb hr (fun t ht hW => ⟨⟨0, M22, rfl, ⟨hI, hF, trivial⟩, by unfold ux_E; rw [ht]; exact hP⟩, hS.F ht⟩) hS.2.2 d_Sm_workOut_191
                · have g24 : ¬ ((M22 50 12).toInt = 0) := fun q => h24 (Int32.toInt_inj.mp q)
                  refine lv_bipush (v := 6) hx hb d_Sm_workOut_185 (by decide) ?_
                  refine lv_goto hx hb d_Sm_workOut_187 rfl ?_
                  exact W.iret (v := 6) hx hb hr (fun t ht hW => ⟨⟨6, M22, rfl, ⟨hI, hF, trivial⟩, by unfold ux_E; rw [ht]; exact hP⟩, hS.F ht⟩) hS.2.2 d_Sm_workOut_191
              · have g23 : ¬ ((M22 50 11).toInt = 0) := fun q => h23 (Int32.toInt_inj.mp q)
                refine lv_aload_n hx hb d_Sm_workOut_173 rfl (lv_at hl 0 rfl) ?_
                refine ux_get (C := R_Sm) (T := F_Sm) (N := 14) hx hb hT in_Sm hown hK hP (by decide) rfl rfl 11 (by decide) (hT _ fl_Sm_69) rfl d_Sm_workOut_174 ?_
                exact W.iret (v := M22 50 11) hx hb hr (fun t ht hW => ⟨⟨M22 50 11, M22, rfl, ⟨hI, hF, trivial⟩, by unfold ux_E; rw [ht]; exact hP⟩, hS.F ht⟩) hS.2.2 d_Sm_workOut_177
            · have g18 : ¬ ((Mc10 50 6).toInt ≤ 0) := fun q => h18 (Int32.le_iff_toInt_le.mpr q)
              have u18 := ti_hi (Mc10 50 6)
              refine lv_iconst (v := 1) hx hb d_Sm_workOut_149 (by decide) ?_
              exact W.iret (v := 1) hx hb hr (fun t ht hW => ⟨⟨1, Mc10, rfl, ⟨hI, hF, trivial⟩, by unfold ux_E; rw [ht]; exact hP⟩, hS.F ht⟩) hS.2.2 d_Sm_workOut_150
        · have g15 : ¬ ((Mc10 50 8).toInt ≤ (Mc10 50 7).toInt) := fun q => h15 (Int32.le_iff_toInt_le.mpr q)
          have u15 := ti_hi (Mc10 50 8)
          have w15 := ti_lo (Mc10 50 7)
          refine lv_aload_n hx hb d_Sm_workOut_29 rfl (lv_at hl 0 rfl) ?_
          refine ux_get (C := R_Sm) (T := F_Sm) (N := 14) hx hb hT in_Sm hown hK hP (by decide) rfl rfl 0 (by decide) (hT _ fl_Sm_19) rfl d_Sm_workOut_30 ?_
          refine lv_aload_n hx hb d_Sm_workOut_33 rfl (lv_at hl 0 rfl) ?_
          refine ux_get (C := R_Sm) (T := F_Sm) (N := 14) hx hb hT in_Sm hown hK hP (by decide) rfl rfl 7 (by decide) (hT _ fl_Sm_30) rfl d_Sm_workOut_34 ?_
          have b25 := iv0 (M := Mc10) (a := 50) (b := 7) hI (by unfold p0; omega)
          refine ux_cald hx hb hK hP (by decide) rfl ((vi (show 0 ≤ (Mc10 50 7).toInt by omega) (show (Mc10 50 7).toInt < ((200 : Nat) : Int) by omega))) d_Sm_workOut_37 ?_
          refine lv_istore hx hb d_Sm_workOut_38 hl (by decide) rfl (fun ls hl => ?_)
          have hl : lv_has ls 7 [(5, .int (Mc10 1 ((Mc10 50 7).toNatClampNeg))), (0, .ref (ad 50)), (4, .int i_4)] := hl
          refine lv_aload_n hx hb d_Sm_workOut_40 rfl (lv_at hl 1 rfl) ?_
          refine lv_dup hx hb d_Sm_workOut_41 rfl ?_
          refine ux_get (C := R_Sm) (T := F_Sm) (N := 14) hx hb hT in_Sm hown hK hP (by decide) rfl rfl 7 (by decide) (hT _ fl_Sm_30) rfl d_Sm_workOut_42 ?_
          have b26 := iv0 (M := Mc10) (a := 50) (b := 7) hI (by unfold p0; omega)
          refine lv_iconst (v := 1) hx hb d_Sm_workOut_45 (by decide) ?_
          refine lv_iadd hx hb d_Sm_workOut_46 ?_
          refine lv_topi (fun x27 ex27 => ?_)
          try have fx27 : x27.toInt = (Mc10 50 7).toInt + 1 := by rw [ex27]; exact ti_add (by (try rw [show (1 : Int32).toInt = 1 from rfl]); omega) (by (try rw [show (1 : Int32).toInt = 1 from rfl]); omega)
          refine ux_put (C := R_Sm) (T := F_Sm) (N := 14) hx hb hT in_Sm t_Sm t_Sm_ok n_Sm hown hK hi hP hS (by decide) rfl rfl 7 (by decide) (hT _ fl_Sm_30) rfl (rfl) (rfl) rfl d_Sm_workOut_47 (fun H locs hP hS => ?_)
          have hI := IvX_wr (k := 50) (j := 7) (v := x27) hI (fun q => by unfold p0 at q; omega) (fun q => by unfold p8 at q; omega) (fun q => by unfold p20 at q; omega) (fun q => by unfold p40 at q; omega) (fun q => by unfold p200 at q; omega) (fun q => by unfold pch at q; omega)
          have hF := fr_wr (k := 50) (j := 7) (v := x27) hF (by unfold tSm; omega)
          generalize eM28 : ux_wr Mc10 50 7 x27 = M28 at hP hI hF
          have hsm : SmI M28 := SmI_of (M := Mc10) (wr_off eM28 (by omega)) (wr_off eM28 (by omega)) (fun j => wr_off eM28 (by omega)) c10_1
          have hs5 := congrArg Int32.toInt (show M28 50 5 = Mc10 50 5 from wr_off eM28 (by omega))
          refine lv_iload hx hb d_Sm_workOut_50 (lv_at hl 0 rfl) ?_
          refine lv_bipush (v := 32) hx hb d_Sm_workOut_52 (by decide) ?_
          refine lv_icmp_ne hx hb d_Sm_workOut_54 rfl (fun h29 => ?_) (fun h29 => ?_)
          · have g29 : ¬ ((Mc10 1 ((Mc10 50 7).toNatClampNeg)).toInt = 32) := fun q => h29 (Int32.toInt_inj.mp q)
            refine lv_aload_n hx hb d_Sm_workOut_63 rfl (lv_at hl 1 rfl) ?_
            refine ux_get (C := R_Sm) (T := F_Sm) (N := 14) hx hb hT in_Sm hown hK hP (by decide) rfl rfl 10 (by decide) (hT _ fl_Sm_37) rfl d_Sm_workOut_64 ?_
            refine lv_if_ne hx hb d_Sm_workOut_67 rfl (fun h30 => ?_) (fun h30 => ?_)
            · have g30 : ¬ ((M28 50 10).toInt = 0) := fun q => h30 (Int32.toInt_inj.mp q)
              refine lv_iload hx hb d_Sm_workOut_81 (lv_at hl 0 rfl) ?_
              refine lv_bipush (v := 36) hx hb d_Sm_workOut_83 (by decide) ?_
              refine lv_icmp_ne hx hb d_Sm_workOut_85 rfl (fun h31 => ?_) (fun h31 => ?_)
              · have g31 : ¬ ((Mc10 1 ((Mc10 50 7).toNatClampNeg)).toInt = 36) := fun q => h31 (Int32.toInt_inj.mp q)
                refine lv_iload hx hb d_Sm_workOut_97 (lv_at hl 0 rfl) ?_
                refine ux_calli (va_runSN ⟨hx, hb, hml, hown, hts⟩ (s_PS_isDigit l D ad cA M28 hI (Mc10 1 ((Mc10 50 7).toNatClampNeg))) ⟨va_cnB 1 hts (tb_good _ _ kt_PS_isDigit) rfl rfl rfl (hN _ nm_Sm_49) (hT _ ii_PS) (by decide +kernel) ⟨Nat.le_of_ble_eq_true rfl, Nat.le_of_ble_eq_true rfl⟩, hT _ sm_PS_isDigit, trivial⟩ (ux_pre hP hK hi hN) rfl rfl hl.1 rfl (lv_room (Nat.le_of_ble_eq_true rfl)) d_Sm_workOut_99 ⟨Nat.zero_le _, Nat.zero_le _⟩) hS (fun r32 M33 H locs q34 hP hS => ?_)
                obtain ⟨hI, fq34, q34p⟩ := q34
                rw [tN_eq fq34] at hP hI
                subst q34p
                have b35 := dgt_b (Mc10 1 ((Mc10 50 7).toNatClampNeg))
                refine lv_if_eq hx hb d_Sm_workOut_102 rfl (fun h36 => ?_) (fun h36 => ?_)
                · have g36 : (dgt (Mc10 1 ((Mc10 50 7).toNatClampNeg))).toInt = 0 := congrArg Int32.toInt h36
                  refine lv_aload_n hx hb d_Sm_workOut_114 rfl (lv_at hl 1 rfl) ?_
                  refine lv_iload hx hb d_Sm_workOut_115 (lv_at hl 0 rfl) ?_
                  refine ux_calli (va_runV ⟨hx, hb, hml, hown, hts⟩ (s_Sm_takeSignBefore l D ad cA M28 hI (Mc10 1 ((Mc10 50 7).toNatClampNeg)) hsm (by omega)) (cwV 1 hts (tb_goodV ml_Sm_56 im_Sm_takeSignBefore se_Sm_takeSignBefore ii_Sm kt_Sm_takeSignBefore) rfl rfl rfl (by decide +kernel) ⟨Nat.le_of_ble_eq_true rfl, Nat.le_of_ble_eq_true rfl⟩) (ux_preV (by decide) rfl rfl hP hK hi hN) rfl rfl hl.1 rfl (lv_room (Nat.le_of_ble_eq_true rfl)) d_Sm_workOut_117 ⟨Nat.zero_le _, Nat.zero_le _⟩) hS (fun r37 M38 H locs q39 hP hS => ?_)
                  obtain ⟨hI, fq39, q39p⟩ := q39
                  have hF := fr_call hF fq39 (fun a b q => by unfold tSm at q; unfold tSm; omega)
                  obtain ⟨q39b, hsm, h5q39⟩ := q39p
                  refine lv_istore hx hb d_Sm_workOut_120 hl (by decide) rfl (fun ls hl => ?_)
                  have hl : lv_has ls 7 [(6, .int r37), (5, .int (Mc10 1 ((Mc10 50 7).toNatClampNeg))), (0, .ref (ad 50)), (4, .int i_4)] := hl
                  exact cut122 r37 M38 _ _ ls (show i_4.toInt < 200 from by first | omega | assumption | exact Or.inl rfl | exact Or.inr rfl | rfl | decide) (show SmI M38 from by first | omega | assumption | exact Or.inl rfl | exact Or.inr rfl | rfl | decide) (show (M38 50 5).toInt ≤ i_4.toInt + 1 from by first | omega | assumption | exact Or.inl rfl | exact Or.inr rfl | rfl | decide) hP hI hF hS (lv_sub hl [2, 3, 0] rfl)
                · have g36 : ¬ ((dgt (Mc10 1 ((Mc10 50 7).toNatClampNeg))).toInt = 0) := fun q => h36 (Int32.toInt_inj.mp q)
                  refine lv_aload_n hx hb d_Sm_workOut_105 rfl (lv_at hl 1 rfl) ?_
                  refine lv_iload hx hb d_Sm_workOut_106 (lv_at hl 0 rfl) ?_
                  refine ux_calli (va_runV ⟨hx, hb, hml, hown, hts⟩ (s_Sm_takeNumber l D ad cA M28 hI (Mc10 1 ((Mc10 50 7).toNatClampNeg))) (cwV 1 hts (tb_goodV ml_Sm_53 im_Sm_takeNumber se_Sm_takeNumber ii_Sm kt_Sm_takeNumber) rfl rfl rfl (by decide +kernel) ⟨Nat.le_of_ble_eq_true rfl, Nat.le_of_ble_eq_true rfl⟩) (ux_preV (by decide) rfl rfl hP hK hi hN) rfl rfl hl.1 rfl (lv_room (Nat.le_of_ble_eq_true rfl)) d_Sm_workOut_108 ⟨Nat.zero_le _, Nat.zero_le _⟩) hS (fun r40 M41 H locs q42 hP hS => ?_)
                  obtain ⟨hI, fq42, q42p⟩ := q42
                  have hF := fr_call hF fq42 (fun a b q => by unfold tSn at q; unfold tSm; omega)
                  have hsm : SmI M41 := SmI_of (M := M28) (fq42 50 6 (by unfold tSn; omega)) (fq42 50 5 (by unfold tSn; omega)) (fun j => fq42 52 j (by unfold tSn; omega)) hsm
                  have h5q42 := congrArg Int32.toInt (fq42 50 5 (by unfold tSn; omega))
                  refine lv_goto hx hb d_Sm_workOut_111 rfl ?_
                  refine lv_istore hx hb d_Sm_workOut_120 hl (by decide) rfl (fun ls hl => ?_)
                  have hl : lv_has ls 7 [(6, .int r40), (5, .int (Mc10 1 ((Mc10 50 7).toNatClampNeg))), (0, .ref (ad 50)), (4, .int i_4)] := hl
                  exact cut122 r40 M41 _ _ ls (show i_4.toInt < 200 from by first | omega | assumption | exact Or.inl rfl | exact Or.inr rfl | rfl | decide) (show SmI M41 from by first | omega | assumption | exact Or.inl rfl | exact Or.inr rfl | rfl | decide) (show (M41 50 5).toInt ≤ i_4.toInt + 1 from by first | omega | assumption | exact Or.inl rfl | exact Or.inr rfl | rfl | decide) hP hI hF hS (lv_sub hl [2, 3, 0] rfl)
              · have g31 : (Mc10 1 ((Mc10 50 7).toNatClampNeg)).toInt = 36 := congrArg Int32.toInt h31
                refine lv_aload_n hx hb d_Sm_workOut_88 rfl (lv_at hl 1 rfl) ?_
                refine ux_calli (va_runV ⟨hx, hb, hml, hown, hts⟩ (s_Sm_takeVariable l D ad cA M28 hI ) (cwV 0 hts (tb_goodV ml_Sm_45 im_Sm_takeVariable se_Sm_takeVariable ii_Sm kt_Sm_takeVariable) rfl rfl rfl (by decide +kernel) ⟨Nat.le_of_ble_eq_true rfl, Nat.le_of_ble_eq_true rfl⟩) (ux_preV (by decide) rfl rfl hP hK hi hN) rfl rfl hl.1 rfl (lv_room (Nat.le_of_ble_eq_true rfl)) d_Sm_workOut_89 ⟨Nat.zero_le _, Nat.zero_le _⟩) hS (fun r43 M44 H locs q45 hP hS => ?_)
                obtain ⟨hI, fq45, q45p⟩ := q45
                have hF := fr_call hF fq45 (fun a b q => by unfold tSn at q; unfold tSm; omega)
                have hsm : SmI M44 := SmI_of (M := M28) (fq45 50 6 (by unfold tSn; omega)) (fq45 50 5 (by unfold tSn; omega)) (fun j => fq45 52 j (by unfold tSn; omega)) hsm
                have h5q45 := congrArg Int32.toInt (fq45 50 5 (by unfold tSn; omega))
                refine lv_istore hx hb d_Sm_workOut_92 hl (by decide) rfl (fun ls hl => ?_)
                have hl : lv_has ls 7 [(6, .int r43), (5, .int (Mc10 1 ((Mc10 50 7).toNatClampNeg))), (0, .ref (ad 50)), (4, .int i_4)] := hl
                refine lv_goto hx hb d_Sm_workOut_94 rfl ?_
                exact cut122 r43 M44 _ _ ls (show i_4.toInt < 200 from by first | omega | assumption | exact Or.inl rfl | exact Or.inr rfl | rfl | decide) (show SmI M44 from by first | omega | assumption | exact Or.inl rfl | exact Or.inr rfl | rfl | decide) (show (M44 50 5).toInt ≤ i_4.toInt + 1 from by first | omega | assumption | exact Or.inl rfl | exact Or.inr rfl | rfl | decide) hP hI hF hS (lv_sub hl [2, 3, 0] rfl)
            · have g30 : (M28 50 10).toInt = 0 := congrArg Int32.toInt h30
              refine lv_aload_n hx hb d_Sm_workOut_70 rfl (lv_at hl 1 rfl) ?_
              refine lv_iload hx hb d_Sm_workOut_71 (lv_at hl 0 rfl) ?_
              refine ux_calli (va_runV ⟨hx, hb, hml, hown, hts⟩ (s_Sm_takeSign l D ad cA M28 hI (Mc10 1 ((Mc10 50 7).toNatClampNeg)) hsm (by omega)) (cwV 1 hts (tb_goodV ml_Sm_41 im_Sm_takeSign se_Sm_takeSign ii_Sm kt_Sm_takeSign) rfl rfl rfl (by decide +kernel) ⟨Nat.le_of_ble_eq_true rfl, Nat.le_of_ble_eq_true rfl⟩) (ux_preV (by decide) rfl rfl hP hK hi hN) rfl rfl hl.1 rfl (lv_room (Nat.le_of_ble_eq_true rfl)) d_Sm_workOut_73 ⟨Nat.zero_le _, Nat.zero_le _⟩) hS (fun r46 M47 H locs q48 hP hS => ?_)
              obtain ⟨hI, fq48, q48p⟩ := q48
              have hF := fr_call hF fq48 (fun a b q => by unfold tSm at q; unfold tSm; omega)
              obtain ⟨q48b, hsm, h5q48⟩ := q48p
              refine lv_istore hx hb d_Sm_workOut_76 hl (by decide) rfl (fun ls hl => ?_)
              have hl : lv_has ls 7 [(6, .int r46), (5, .int (Mc10 1 ((Mc10 50 7).toNatClampNeg))), (0, .ref (ad 50)), (4, .int i_4)] := hl
              refine lv_goto hx hb d_Sm_workOut_78 rfl ?_
              exact cut122 r46 M47 _ _ ls (show i_4.toInt < 200 from by first | omega | assumption | exact Or.inl rfl | exact Or.inr rfl | rfl | decide) (show SmI M47 from by first | omega | assumption | exact Or.inl rfl | exact Or.inr rfl | rfl | decide) (show (M47 50 5).toInt ≤ i_4.toInt + 1 from by first | omega | assumption | exact Or.inl rfl | exact Or.inr rfl | rfl | decide) hP hI hF hS (lv_sub hl [2, 3, 0] rfl)
          · have g29 : (Mc10 1 ((Mc10 50 7).toNatClampNeg)).toInt = 32 := congrArg Int32.toInt h29
            refine lv_iconst (v := 1) hx hb d_Sm_workOut_57 (by decide) ?_
            refine lv_istore hx hb d_Sm_workOut_58 hl (by decide) rfl (fun ls hl => ?_)
            have hl : lv_has ls 7 [(6, .int 1), (5, .int (Mc10 1 ((Mc10 50 7).toNatClampNeg))), (0, .ref (ad 50)), (4, .int i_4)] := hl
            refine lv_goto hx hb d_Sm_workOut_60 rfl ?_
            exact cut122 1 M28 _ _ ls (show i_4.toInt < 200 from by first | omega | assumption | exact Or.inl rfl | exact Or.inr rfl | rfl | decide) (show SmI M28 from by first | omega | assumption | exact Or.inl rfl | exact Or.inr rfl | rfl | decide) (show (M28 50 5).toInt ≤ i_4.toInt + 1 from by first | omega | assumption | exact Or.inl rfl | exact Or.inr rfl | rfl | decide) hP hI hF hS (lv_sub hl [2, 3, 0] rfl)
  refine lv_aload_n hx hb d_Sm_workOut_0 rfl (lv_at hl 0 rfl) ?_
  refine lv_iload_n hx hb d_Sm_workOut_1 rfl (lv_at hl 1 rfl) ?_
  refine lv_iload_n hx hb d_Sm_workOut_2 rfl (lv_at hl 2 rfl) ?_
  refine lv_iload_n hx hb d_Sm_workOut_3 rfl (lv_at hl 3 rfl) ?_
  refine ux_callv (va_runV ⟨hx, hb, hml, hown, hts⟩ (s_Sm_begin l D ad cA M hI a b f) (cwV 3 hts (tb_goodV ml_Sm_26 im_Sm_begin se_Sm_begin ii_Sm kt_Sm_begin) rfl rfl rfl (by decide +kernel) ⟨Nat.le_of_ble_eq_true rfl, Nat.le_of_ble_eq_true rfl⟩) (ux_preV (by decide) rfl rfl hP hK hi hN) rfl rfl hl.1 rfl (lv_room (Nat.le_of_ble_eq_true rfl)) d_Sm_workOut_4 ⟨Nat.zero_le _, Nat.zero_le _⟩) hS (fun M50 H locs q51 hP hS => ?_)
  obtain ⟨hI, fq51, q51p⟩ := q51
  have hF := fr_call hF fq51 (fun a b q => by unfold tSb at q; unfold tSm; omega)
  have hsm : SmI M50 := by unfold SmI; omega
  refine lv_iconst (v := 0) hx hb d_Sm_workOut_7 (by decide) ?_
  refine lv_istore hx hb d_Sm_workOut_8 hl (by decide) rfl (fun ls hl => ?_)
  have hl : lv_has ls 7 [(4, .int 0), (0, .ref (ad 50)), (1, .int a), (2, .int b), (3, .int f)] := hl
  exact cut10 (((200 : Int) - 0).toNat) 0 M50 _ _ ls rfl (show 0 ≤ 0 from by first | omega | assumption | exact Or.inl rfl | exact Or.inr rfl | rfl | decide) (show SmI M50 from by first | omega | assumption | exact Or.inl rfl | exact Or.inr rfl | rfl | decide) (show (M50 50 5).toInt ≤ 0 from by first | omega | assumption | exact Or.inl rfl | exact Or.inr rfl | rfl | decide) hP hI hF hS (lv_sub hl [1, 0] rfl)
