/-! The reference, safe: bounds; written by wip/gen/ref.py -/
def loM (a b : Nat) : Int := if a = 0 then (if b = 1 then (0) else if b = 10 then (-1) else if b = 25 then (0) else if b = 27 then (0) else if b = 28 then (0) else if b = 31 then (0) else if b = 32 then (0) else if b = 39 then (0) else if b = 44 then (0) else if b = 46 then (0) else if b = 48 then (0) else -2147483648) else if a = 1 then (0) else if a = 2 then (-1) else if a = 3 then (0) else if a = 6 then (0) else if a = 7 then (0) else if a = 8 then (0) else if a = 9 then (0) else if a = 10 then (0) else if a = 12 then (0) else if a = 14 then (0) else if a = 15 then (0) else if a = 16 then (0) else if a = 18 then (0) else if a = 19 then (0) else if a = 20 then (0) else if a = 21 then (0) else if a = 24 then (0) else if a = 30 then (0) else if a = 31 then (0) else if a = 25 then (0) else -2147483648
def hiM (A : Nat) (a b : Nat) : Int := if a = 0 then (if b = 1 then 200 else if b = 10 then 7 else if b = 25 then 20 else if b = 27 then 100 else if b = 28 then 100 else if b = 31 then 210 else if b = 32 then 210 else if b = 39 then 20 else if b = 44 then 40 else if b = 46 then 20 else if b = 48 then 2147483647 else 2147483647) else if a = 1 then 65535 else if a = 2 then 20 else if a = 3 then 65535 else if a = 6 then 200 else if a = 7 then 200 else if a = 8 then 25 else if a = 9 then (A : Int) else if a = 10 then 200 else if a = 12 then 7 else if a = 14 then 8 else if a = 15 then 20 else if a = 16 then 65535 else if a = 18 then 200 else if a = 19 then 200 else if a = 20 then 65535 else if a = 21 then 65535 else if a = 24 then 65535 else if a = 30 then 65535 else if a = 31 then 65535 else if a = 25 then 1 else 2147483647
/-- words: an unbraced one has at most 20 letters, a braced one ends within the text -/
def Wd (M : ux_M) : Prop := ∀ i, i < 65 → (M 17 i = 0 → (M 19 i).toInt ≤ 20) ∧ (¬ M 17 i = 0 → (M 18 i).toInt + (M 19 i).toInt ≤ 200)
/-- fuel, and how often one may still speak -/
def Ft (B : Nat) (M : ux_M) : Prop := (M 0 27).toInt ≥ (M 0 28).toInt ∧ (M 0 48).toInt + 40 * ((M 0 27).toInt - (M 0 28).toInt) ≤ (B : Int)
def IvM (A B : Nat) (M : ux_M) : Prop := (∀ a b, loM a b ≤ (M a b).toInt ∧ (M a b).toInt ≤ hiM A a b) ∧ Wd M ∧ Ft B M
theorem nat_of {x : Int32} {n : Nat} (h0 : 0 ≤ x.toInt) (h1 : x.toInt ≤ (n : Int)) : ∃ q : Nat, q ≤ n ∧ x = nI q := by
  refine ⟨x.toInt.toNat, by omega, Int32.toInt_inj.mp ?_⟩
  rw [nI_toInt (by have := ti_hi x; omega)]
  omega
theorem IvM_at {A : Nat} {M : ux_M} {k j : Nat} {v : Int32} (hI : ∀ a b, loM a b ≤ (M a b).toInt ∧ (M a b).toInt ≤ hiM A a b) (h1 : loM k j ≤ v.toInt) (h2 : v.toInt ≤ hiM A k j) : ∀ a b, loM a b ≤ (ux_wr M k j v a b).toInt ∧ (ux_wr M k j v a b).toInt ≤ hiM A a b := by
  intro a b
  by_cases h : a = k ∧ b = j
  · obtain ⟨rfl, rfl⟩ := h
    rw [ux_wr_at]
    exact ⟨h1, h2⟩
  · rw [ux_wr_off (by omega)]
    exact hI a b
def okW (k j : Nat) : Prop := k ≠ 17 ∧ k ≠ 18 ∧ k ≠ 19 ∧ ¬ (k = 0 ∧ (j = 27 ∨ j = 28 ∨ j = 48))
theorem IvM_wr {A B : Nat} {M : ux_M} {k j : Nat} {v : Int32} (hI : IvM A B M) (h1 : loM k j ≤ v.toInt) (h2 : v.toInt ≤ hiM A k j) (hk : okW k j) : IvM A B (ux_wr M k j v) := by
  unfold okW at hk
  refine ⟨IvM_at hI.1 h1 h2, fun i hi => ?_, ?_⟩
  · rw [ux_wr_off (by omega), ux_wr_off (by omega), ux_wr_off (by omega)]
    exact hI.2.1 i hi
  · have h := hI.2.2
    unfold Ft at h ⊢
    rw [ux_wr_off (by omega), ux_wr_off (by omega), ux_wr_off (by omega)]
    exact h
theorem IvM_free {A B : Nat} {M : ux_M} {k j : Nat} {v : Int32} (hI : IvM A B M) (h1 : loM k j = -2147483648) (h2 : hiM A k j = 2147483647) (hk : okW k j) : IvM A B (ux_wr M k j v) := IvM_wr hI (by rw [h1]; exact ti_lo v) (by rw [h2]; exact ti_hi v) hk
theorem IvM_used {A B : Nat} {M : ux_M} {v : Int32} (hI : IvM A B M) (h1 : 0 ≤ v.toInt) (h2 : v.toInt ≤ 100) (h3 : v.toInt ≤ (M 0 27).toInt) (h4 : (M 0 48).toInt + 40 * ((M 0 27).toInt - v.toInt) ≤ (B : Int)) : IvM A B (ux_wr M 0 28 v) := by
  refine ⟨IvM_at hI.1 h1 h2, fun i hi => ?_, ?_⟩
  · rw [ux_wr_off (by omega), ux_wr_off (by omega), ux_wr_off (by omega)]
    exact hI.2.1 i hi
  · unfold Ft
    rw [ux_wr_at, ux_wr_off (by omega), ux_wr_off (by omega)]
    exact ⟨h3, h4⟩
theorem IvM_talked {A B : Nat} {M : ux_M} {v : Int32} (hI : IvM A B M) (h1 : 0 ≤ v.toInt) (h4 : v.toInt + 40 * ((M 0 27).toInt - (M 0 28).toInt) ≤ (B : Int)) : IvM A B (ux_wr M 0 48 v) := by
  refine ⟨IvM_at hI.1 h1 (ti_hi v), fun i hi => ?_, ?_⟩
  · rw [ux_wr_off (by omega), ux_wr_off (by omega), ux_wr_off (by omega)]
    exact hI.2.1 i hi
  · have h := hI.2.2
    unfold Ft at h ⊢
    rw [ux_wr_at, ux_wr_off (by omega), ux_wr_off (by omega)]
    exact ⟨h.1, h4⟩
/-- a write to a word's own numbers -/
theorem IvM_wd {A B : Nat} {M : ux_M} {k j : Nat} {v : Int32} (hI : IvM A B M) (h1 : loM k j ≤ v.toInt) (h2 : v.toInt ≤ hiM A k j) (hk : k ≠ 0) (hw : j < 65 → (ux_wr M k j v 17 j = 0 → (ux_wr M k j v 19 j).toInt ≤ 20) ∧ (¬ ux_wr M k j v 17 j = 0 → (ux_wr M k j v 18 j).toInt + (ux_wr M k j v 19 j).toInt ≤ 200)) : IvM A B (ux_wr M k j v) := by
  refine ⟨IvM_at hI.1 h1 h2, fun i hi => ?_, ?_⟩
  · by_cases h : i = j
    · subst h
      exact hw hi
    · rw [ux_wr_off (by omega), ux_wr_off (by omega), ux_wr_off (by omega)]
      exact hI.2.1 i hi
  · have h := hI.2.2
    unfold Ft at h ⊢
    rw [ux_wr_off (by omega), ux_wr_off (by omega), ux_wr_off (by omega)]
    exact h
set_option maxHeartbeats 1600000 in
theorem IvM_mono {A A1 B : Nat} {M : ux_M} (hI : IvM A B M) (h : A ≤ A1) : IvM A1 B M := by
  refine ⟨fun a b => ⟨(hI.1 a b).1, ?_⟩, hI.2⟩
  refine Int.le_trans (hI.1 a b).2 ?_
  unfold hiM
  by_cases h0 : a = 0
  · rw [if_pos h0, if_pos h0]; exact Int.le_refl _
  · rw [if_neg h0, if_neg h0]
    repeat' split
    all_goals omega
theorem nc_I {x : Nat} (h : x ≤ 65535) : narrow .char (.int (nI x)) = .int (nI x) := nc_n (by rw [nI_toInt (by omega)]; omega)

def mRe (a b : Nat) : Prop := (a = 0 ∧ b = 25) ∨ a = 21
def mDn (a b : Nat) : Prop := a = 0 ∧ (b = 23 ∨ b = 24)
def mEr (a b : Nat) : Prop := (a = 0 ∧ (b = 25 ∨ b = 23 ∨ b = 24)) ∨ a = 21

set_option maxHeartbeats 1600000 in
set_option maxRecDepth 100000 in
theorem s_Md_nothing (l : Launch) (D : va_G) (ad : Nat → Nat) (cA : Nat → ClassId) (A TB : Nat) (hA : A ≤ 100000000) (hB : TB ≤ 2000000000) (M : ux_M) (hI : IvM A TB M)  : Met l y_Md_nothing w_Md_nothing ({ frames := 0, cells := 0, slots := 0, locals := 0 }) (va_Pc [.ref (ad 0)] (ux_B D shM KM ad cA M)) (va_Qv (fun M1 => IvM A TB M1 ∧ (∀ a b, ¬ mRe a b → M1 a b = M a b) ∧ ((M1 0 25).toInt = 0)) (ux_E D shM KM ad cA) (ux_A KM ad)) 0 0 (ux_A KM ad) := by
  refine Met.ofW (cc := b_Md_nothing) (maxL := 1) (ret := none) (by decide) rfl ?_
  intro p e s m args below meth c s₁ B hml hv
  obtain ⟨rfl, hP, hK, hi, hN⟩ := hv
  have hx := B.exec
  have hb := B.bytes
  have hr := B.returns
  have hts := atoms_spec (ws := w_Md_nothing) B.pre
  have hown : s.vm.findClass R_Md = some m.cls := findClass_of_methodNamed B.named
  have hlocks := B.notSynchronized
  have hT : ∀ w ∈ tb, w.before _ s = true := fun w h => hts w (List.mem_cons_of_mem _ h)
  have hS : va_S (ux_A KM ad) s.heap s.heap [] := va_S.rf
  have hl := lv_entry ([.ref (ad 0)]) (n := 1) (Nat.le_of_ble_eq_true rfl)
  rw [lg_entry_eq]
  generalize (lg_sl ([.ref (ad 0)]) ++ List.replicate (1 - (lg_sl ([.ref (ad 0)])).length) Slot.unset).toArray = ls at hl ⊢
  have hl : lv_has ls 1 [(0, .ref (ad 0))] := hl
  have hF : ∀ a b, ¬ mRe a b → M a b = M a b := fun _ _ _ => rfl
  refine lv_aload_n hx hb d_Md_nothing_0 rfl (lv_at hl 0 rfl) ?_
  refine lv_iconst (v := 0) hx hb d_Md_nothing_1 (by decide) ?_
  refine ux_put (C := R_Md) (T := F_Md) (N := 50) hx hb hT in_Md t_Md t_Md_ok n_Md hown hK hi hP hS (by decide) rfl rfl 25 (by decide) (hT _ fl_Md_135) rfl (rfl) (rfl) rfl d_Md_nothing_2 (fun H locs hP hS => ?_)
  have hI := IvM_wr (k := 0) (j := 25) (v := 0) hI (show (0 : Int) ≤ (0 : Int32).toInt from (by decide)) (show (0 : Int32).toInt ≤ (20 : Int) from (by first | decide | (show (0 : Int) ≤ _; omega))) (by unfold okW; omega)
  have hF := fr_wr (k := 0) (j := 25) (v := 0) hF (by unfold mRe; omega)
  generalize eM1 : ux_wr M 0 25 0 = M1 at hP hI hF
  have tM1 : (M1 0 25).toInt = 0 := by rw [wr_at eM1]; rfl
  exact W.vret hx hb hr (fun t ht hW => ⟨⟨M1, rfl, ⟨hI, hF, (by rw [wr_at eM1]; rfl)⟩, by unfold ux_E; rw [ht]; exact hP⟩, hS.F ht⟩) hS.2.2 d_Md_nothing_5

set_option maxHeartbeats 1600000 in
set_option maxRecDepth 100000 in
theorem s_Md_say (l : Launch) (D : va_G) (ad : Nat → Nat) (cA : Nat → ClassId) (A TB : Nat) (hA : A ≤ 100000000) (hB : TB ≤ 2000000000) (M : ux_M) (hI : IvM A TB M) (ch : Int32) (hs : (M 0 25).toInt < 20) : Met l y_Md_say w_Md_say ({ frames := 0, cells := 0, slots := 0, locals := 0 }) (va_Pc [.ref (ad 0), .int ch] (ux_B D shM KM ad cA M)) (va_Qv (fun M1 => IvM A TB M1 ∧ (∀ a b, ¬ mRe a b → M1 a b = M a b) ∧ ((M1 0 25).toInt = (M 0 25).toInt + 1)) (ux_E D shM KM ad cA) (ux_A KM ad)) 0 0 (ux_A KM ad) := by
  refine Met.ofW (cc := b_Md_say) (maxL := 2) (ret := none) (by decide) rfl ?_
  intro p e s m args below meth c s₁ B hml hv
  obtain ⟨rfl, hP, hK, hi, hN⟩ := hv
  have hx := B.exec
  have hb := B.bytes
  have hr := B.returns
  have hts := atoms_spec (ws := w_Md_say) B.pre
  have hown : s.vm.findClass R_Md = some m.cls := findClass_of_methodNamed B.named
  have hlocks := B.notSynchronized
  have hT : ∀ w ∈ tb, w.before _ s = true := fun w h => hts w (List.mem_cons_of_mem _ h)
  have hS : va_S (ux_A KM ad) s.heap s.heap [] := va_S.rf
  have hl := lv_entry ([.ref (ad 0), .int ch]) (n := 2) (Nat.le_of_ble_eq_true rfl)
  rw [lg_entry_eq]
  generalize (lg_sl ([.ref (ad 0), .int ch]) ++ List.replicate (2 - (lg_sl ([.ref (ad 0), .int ch])).length) Slot.unset).toArray = ls at hl ⊢
  have hl : lv_has ls 2 [(0, .ref (ad 0)), (1, .int ch)] := hl
  have hF : ∀ a b, ¬ mRe a b → M a b = M a b := fun _ _ _ => rfl
  refine lv_aload_n hx hb d_Md_say_0 rfl (lv_at hl 0 rfl) ?_
  refine ux_get (C := R_Md) (T := F_Md) (N := 50) hx hb hT in_Md hown hK hP (by decide) rfl rfl 26 (by decide) (hT _ fl_Md_76) rfl d_Md_say_1 ?_
  refine lv_aload_n hx hb d_Md_say_4 rfl (lv_at hl 0 rfl) ?_
  refine ux_get (C := R_Md) (T := F_Md) (N := 50) hx hb hT in_Md hown hK hP (by decide) rfl rfl 25 (by decide) (hT _ fl_Md_135) rfl d_Md_say_5 ?_
  refine lv_topi (fun z2 hz2 => ?_)
  obtain ⟨c1, hc1, ec1⟩ := nat_of (x := M 0 25) (n := 20) (hI.1 0 25).1 (hI.1 0 25).2
  rw [ec1] at hz2
  rw [hz2]
  have tc1 : (M 0 25).toInt = (c1 : Int) := by rw [ec1]; exact nI_toInt (by omega)
  refine lv_iload_n hx hb d_Md_say_8 rfl (lv_at hl 1 rfl) ?_
  refine ux_cast hx hb hK hi hP hS (by decide) rfl (vp_in_nI (show c1 < 20 by omega) (by decide)) d_Md_say_9 (fun H locs hP hS => ?_)
  have b3 := nar_c ch
  rw [nI_clamp (n := c1) (by omega)] at hP
  have hI := IvM_wr (k := 21) (j := c1) (v := vp_nar .char ch) hI (show (0 : Int) ≤ (vp_nar .char ch : Int32).toInt from (by omega)) (show (vp_nar .char ch : Int32).toInt ≤ (65535 : Int) from (by omega)) (by unfold okW; omega)
  have hF := fr_wr (k := 21) (j := c1) (v := vp_nar .char ch) hF (by unfold mRe; omega)
  generalize eM4 : ux_wr M 21 c1 (vp_nar .char ch) = M4 at hP hI hF
  have tM4 : (M4 21 c1).toInt = (vp_nar .char ch).toInt := by rw [wr_at eM4]
  refine lv_aload_n hx hb d_Md_say_10 rfl (lv_at hl 0 rfl) ?_
  refine lv_dup hx hb d_Md_say_11 rfl ?_
  refine ux_get (C := R_Md) (T := F_Md) (N := 50) hx hb hT in_Md hown hK hP (by decide) rfl rfl 25 (by decide) (hT _ fl_Md_135) rfl d_Md_say_12 ?_
  refine lv_topi (fun z5 hz5 => ?_)
  rw [show M4 0 25 = nI c1 from (wr_off eM4 (by omega)).trans (ec1)] at hz5
  rw [hz5]
  refine lv_iconst (v := 1) hx hb d_Md_say_15 (by decide) ?_
  refine lv_iadd hx hb d_Md_say_16 ?_
  refine lv_topi (fun z6 hz6 => ?_)
  rw [show (nI c1) + (1 : Int32) = nI (c1 + 1) from nI_add c1 1] at hz6
  rw [hz6]
  refine ux_put (C := R_Md) (T := F_Md) (N := 50) hx hb hT in_Md t_Md t_Md_ok n_Md hown hK hi hP hS (by decide) rfl rfl 25 (by decide) (hT _ fl_Md_135) rfl (rfl) (rfl) rfl d_Md_say_17 (fun H locs hP hS => ?_)
  have hI := IvM_wr (k := 0) (j := 25) (v := nI (c1 + 1)) hI (show (0 : Int) ≤ (nI (c1 + 1) : Int32).toInt from (by rw [nI_toInt (n := c1 + 1) (by omega)]; omega)) (show (nI (c1 + 1) : Int32).toInt ≤ (20 : Int) from (by rw [nI_toInt (n := c1 + 1) (by omega)]; omega)) (by unfold okW; omega)
  have hF := fr_wr (k := 0) (j := 25) (v := nI (c1 + 1)) hF (by unfold mRe; omega)
  generalize eM7 : ux_wr M4 0 25 (nI (c1 + 1)) = M7 at hP hI hF
  have tM7 : (M7 0 25).toInt = ((c1 + 1 : Nat) : Int) := by rw [wr_at eM7]; exact nI_toInt (by omega)
  exact W.vret hx hb hr (fun t ht hW => ⟨⟨M7, rfl, ⟨hI, hF, (by first | omega | assumption)⟩, by unfold ux_E; rw [ht]; exact hP⟩, hS.F ht⟩) hS.2.2 d_Md_say_20

set_option maxHeartbeats 1600000 in
set_option maxRecDepth 100000 in
theorem s_Md_done (l : Launch) (D : va_G) (ad : Nat → Nat) (cA : Nat → ClassId) (A TB : Nat) (hA : A ≤ 100000000) (hB : TB ≤ 2000000000) (M : ux_M) (hI : IvM A TB M) (co : Int32) : Met l y_Md_done w_Md_done ({ frames := 0, cells := 0, slots := 0, locals := 0 }) (va_Pc [.ref (ad 0), .int co] (ux_B D shM KM ad cA M)) (va_Qv (fun M1 => IvM A TB M1 ∧ (∀ a b, ¬ mDn a b → M1 a b = M a b) ∧ (M1 0 23 = 1 ∧ M1 0 24 = co)) (ux_E D shM KM ad cA) (ux_A KM ad)) 0 0 (ux_A KM ad) := by
  refine Met.ofW (cc := b_Md_done) (maxL := 2) (ret := none) (by decide) rfl ?_
  intro p e s m args below meth c s₁ B hml hv
  obtain ⟨rfl, hP, hK, hi, hN⟩ := hv
  have hx := B.exec
  have hb := B.bytes
  have hr := B.returns
  have hts := atoms_spec (ws := w_Md_done) B.pre
  have hown : s.vm.findClass R_Md = some m.cls := findClass_of_methodNamed B.named
  have hlocks := B.notSynchronized
  have hT : ∀ w ∈ tb, w.before _ s = true := fun w h => hts w (List.mem_cons_of_mem _ h)
  have hS : va_S (ux_A KM ad) s.heap s.heap [] := va_S.rf
  have hl := lv_entry ([.ref (ad 0), .int co]) (n := 2) (Nat.le_of_ble_eq_true rfl)
  rw [lg_entry_eq]
  generalize (lg_sl ([.ref (ad 0), .int co]) ++ List.replicate (2 - (lg_sl ([.ref (ad 0), .int co])).length) Slot.unset).toArray = ls at hl ⊢
  have hl : lv_has ls 2 [(0, .ref (ad 0)), (1, .int co)] := hl
  have hF : ∀ a b, ¬ mDn a b → M a b = M a b := fun _ _ _ => rfl
  refine lv_aload_n hx hb d_Md_done_0 rfl (lv_at hl 0 rfl) ?_
  refine lv_iload_n hx hb d_Md_done_1 rfl (lv_at hl 1 rfl) ?_
  refine ux_put (C := R_Md) (T := F_Md) (N := 50) hx hb hT in_Md t_Md t_Md_ok n_Md hown hK hi hP hS (by decide) rfl rfl 24 (by decide) (hT _ fl_Md_149) rfl (rfl) (rfl) rfl d_Md_done_2 (fun H locs hP hS => ?_)
  have hI := IvM_free (k := 0) (j := 24) (v := co) hI rfl rfl (by unfold okW; omega)
  have hF := fr_wr (k := 0) (j := 24) (v := co) hF (by unfold mDn; omega)
  generalize eM1 : ux_wr M 0 24 co = M1 at hP hI hF
  refine lv_aload_n hx hb d_Md_done_5 rfl (lv_at hl 0 rfl) ?_
  refine lv_iconst (v := 1) hx hb d_Md_done_6 (by decide) ?_
  refine ux_put (C := R_Md) (T := F_Md) (N := 50) hx hb hT in_Md t_Md t_Md_ok n_Md hown hK hi hP hS (by decide) rfl rfl 23 (by decide) (hT _ fl_Md_152) rfl (rfl) (rfl) rfl d_Md_done_7 (fun H locs hP hS => ?_)
  have hI := IvM_free (k := 0) (j := 23) (v := 1) hI rfl rfl (by unfold okW; omega)
  have hF := fr_wr (k := 0) (j := 23) (v := 1) hF (by unfold mDn; omega)
  generalize eM2 : ux_wr M1 0 23 1 = M2 at hP hI hF
  exact W.vret hx hb hr (fun t ht hW => ⟨⟨M2, rfl, ⟨hI, hF, ⟨wr_at eM2, (wr_off eM2 (by omega)).trans (wr_at eM1)⟩⟩, by unfold ux_E; rw [ht]; exact hP⟩, hS.F ht⟩) hS.2.2 d_Md_done_10

set_option maxHeartbeats 1600000 in
set_option maxRecDepth 100000 in
theorem s_Md_error (l : Launch) (D : va_G) (ad : Nat → Nat) (cA : Nat → ClassId) (A TB : Nat) (hA : A ≤ 100000000) (hB : TB ≤ 2000000000) (M : ux_M) (hI : IvM A TB M) (er : Int32) : Met l y_Md_error w_Md_error ({ frames := 1, cells := 0, slots := 0, locals := 21 }) (va_Pc [.ref (ad 0), .int er] (ux_B D shM KM ad cA M)) (va_Qv (fun M1 => IvM A TB M1 ∧ (∀ a b, ¬ mEr a b → M1 a b = M a b) ∧ (M1 0 23 = 1 ∧ M1 0 24 = 1)) (ux_E D shM KM ad cA) (ux_A KM ad)) 0 0 (ux_A KM ad) := by
  refine Met.ofW (cc := b_Md_error) (maxL := 2) (ret := none) (by decide) rfl ?_
  intro p e s m args below meth c s₁ B hml hv
  obtain ⟨rfl, hP, hK, hi, hN⟩ := hv
  have hx := B.exec
  have hb := B.bytes
  have hr := B.returns
  have hts := atoms_spec (ws := w_Md_error) B.pre
  have hown : s.vm.findClass R_Md = some m.cls := findClass_of_methodNamed B.named
  have hlocks := B.notSynchronized
  have hT : ∀ w ∈ tb, w.before _ s = true := fun w h => hts w (List.mem_cons_of_mem _ h)
  have hS : va_S (ux_A KM ad) s.heap s.heap [] := va_S.rf
  have hl := lv_entry ([.ref (ad 0), .int er]) (n := 2) (Nat.le_of_ble_eq_true rfl)
  rw [lg_entry_eq]
  generalize (lg_sl ([.ref (ad 0), .int er]) ++ List.replicate (2 - (lg_sl ([.ref (ad 0), .int er])).length) Slot.unset).toArray = ls at hl ⊢
  have hl : lv_has ls 2 [(0, .ref (ad 0)), (1, .int er)] := hl
  have hF : ∀ a b, ¬ mEr a b → M a b = M a b := fun _ _ _ => rfl
  refine lv_aload_n hx hb d_Md_error_0 rfl (lv_at hl 0 rfl) ?_
  refine ux_callv (va_runV ⟨hx, hb, hml, hown, hts⟩ (s_Md_nothing l D ad cA A TB hA hB  M hI ) (cwV 0 hts (tb_goodV ml_Md_138 im_Md_nothing se_Md_nothing ii_Md kt_Md_nothing) rfl rfl rfl (by decide +kernel) ⟨Nat.le_of_ble_eq_true rfl, Nat.le_of_ble_eq_true rfl⟩) (ux_preV (by decide) rfl rfl hP hK hi hN) rfl rfl hl.1 rfl (lv_room (Nat.le_of_ble_eq_true rfl)) d_Md_error_1 ⟨Nat.zero_le _, Nat.zero_le _⟩) hS (fun M2 H locs q3 hP hS => ?_)
  obtain ⟨hI, fq3, q3p⟩ := q3
  have hF := fr_call hF fq3 (fun a b q => by unfold mRe at q; unfold mEr; omega)
  refine lv_aload_n hx hb d_Md_error_4 rfl (lv_at hl 0 rfl) ?_
  refine lv_bipush (v := 69) hx hb d_Md_error_5 (by decide) ?_
  refine ux_callv (va_runV ⟨hx, hb, hml, hown, hts⟩ (s_Md_say l D ad cA A TB hA hB  M2 hI 69 (by omega)) (cwV 1 hts (tb_goodV ml_Md_143 im_Md_say se_Md_say ii_Md kt_Md_say) rfl rfl rfl (by decide +kernel) ⟨Nat.le_of_ble_eq_true rfl, Nat.le_of_ble_eq_true rfl⟩) (ux_preV (by decide) rfl rfl hP hK hi hN) rfl rfl hl.1 rfl (lv_room (Nat.le_of_ble_eq_true rfl)) d_Md_error_7 ⟨Nat.zero_le _, Nat.zero_le _⟩) hS (fun M5 H locs q6 hP hS => ?_)
  obtain ⟨hI, fq6, q6p⟩ := q6
  have hF := fr_call hF fq6 (fun a b q => by unfold mRe at q; unfold mEr; omega)
  refine lv_aload_n hx hb d_Md_error_10 rfl (lv_at hl 0 rfl) ?_
  refine lv_bipush (v := 48) hx hb d_Md_error_11 (by decide) ?_
  refine lv_iload_n hx hb d_Md_error_13 rfl (lv_at hl 1 rfl) ?_
  refine lv_iadd hx hb d_Md_error_14 ?_
  refine lv_topi (fun x7 ex7 => ?_)
  try have fx7 : x7.toInt = 48 + er.toInt := by rw [ex7, ti_add (by (try rw [show (48 : Int32).toInt = 48 from rfl]); omega) (by (try rw [show (48 : Int32).toInt = 48 from rfl]); omega)]; (try rw [show (48 : Int32).toInt = 48 from rfl]); first | done | rfl | omega
  refine lv_i2c hx hb d_Md_error_15 rfl ?_
  refine lv_topi (fun x8 ex8 => ?_)
  have fx8 : 0 ≤ x8.toInt ∧ x8.toInt ≤ 65535 := by rw [ex8]; exact ti_i2c _
  refine ux_callv (va_runV ⟨hx, hb, hml, hown, hts⟩ (s_Md_say l D ad cA A TB hA hB  M5 hI x8 (by omega)) (cwV 1 hts (tb_goodV ml_Md_143 im_Md_say se_Md_say ii_Md kt_Md_say) rfl rfl rfl (by decide +kernel) ⟨Nat.le_of_ble_eq_true rfl, Nat.le_of_ble_eq_true rfl⟩) (ux_preV (by decide) rfl rfl hP hK hi hN) rfl rfl hl.1 rfl (lv_room (Nat.le_of_ble_eq_true rfl)) d_Md_error_16 ⟨Nat.zero_le _, Nat.zero_le _⟩) hS (fun M10 H locs q11 hP hS => ?_)
  obtain ⟨hI, fq11, q11p⟩ := q11
  have hF := fr_call hF fq11 (fun a b q => by unfold mRe at q; unfold mEr; omega)
  refine lv_aload_n hx hb d_Md_error_19 rfl (lv_at hl 0 rfl) ?_
  refine lv_iconst (v := 1) hx hb d_Md_error_20 (by decide) ?_
  refine ux_put (C := R_Md) (T := F_Md) (N := 50) hx hb hT in_Md t_Md t_Md_ok n_Md hown hK hi hP hS (by decide) rfl rfl 24 (by decide) (hT _ fl_Md_149) rfl (rfl) (rfl) rfl d_Md_error_21 (fun H locs hP hS => ?_)
  have hI := IvM_free (k := 0) (j := 24) (v := 1) hI rfl rfl (by unfold okW; omega)
  have hF := fr_wr (k := 0) (j := 24) (v := 1) hF (by unfold mEr; omega)
  generalize eM12 : ux_wr M10 0 24 1 = M12 at hP hI hF
  refine lv_aload_n hx hb d_Md_error_24 rfl (lv_at hl 0 rfl) ?_
  refine lv_iconst (v := 1) hx hb d_Md_error_25 (by decide) ?_
  refine ux_put (C := R_Md) (T := F_Md) (N := 50) hx hb hT in_Md t_Md t_Md_ok n_Md hown hK hi hP hS (by decide) rfl rfl 23 (by decide) (hT _ fl_Md_152) rfl (rfl) (rfl) rfl d_Md_error_26 (fun H locs hP hS => ?_)
  have hI := IvM_free (k := 0) (j := 23) (v := 1) hI rfl rfl (by unfold okW; omega)
  have hF := fr_wr (k := 0) (j := 23) (v := 1) hF (by unfold mEr; omega)
  generalize eM13 : ux_wr M12 0 23 1 = M13 at hP hI hF
  exact W.vret hx hb hr (fun t ht hW => ⟨⟨M13, rfl, ⟨hI, hF, ⟨wr_at eM13, (wr_off eM13 (by omega)).trans (wr_at eM12)⟩⟩, by unfold ux_E; rw [ht]; exact hP⟩, hS.F ht⟩) hS.2.2 d_Md_error_29

set_option maxHeartbeats 1600000 in
set_option maxRecDepth 100000 in
theorem s_Md_word (l : Launch) (D : va_G) (ad : Nat → Nat) (cA : Nat → ClassId) (A TB : Nat) (hA : A ≤ 100000000) (hB : TB ≤ 2000000000) (M : ux_M) (hI : IvM A TB M) (L : Nat) (hL : L ≤ 7) (hlv : M 0 10 = nI L) (w : Nat) : Met l y_Md_word w_Md_word ({ frames := 0, cells := 0, slots := 0, locals := 0 }) (va_Pc [.ref (ad 0), .int (nI w)] (ux_B D shM KM ad cA M)) (va_Qi (fun r M1 => IvM A TB M1 ∧ (∀ a b, ¬ tN a b → M1 a b = M a b) ∧ (r = nI (8 * L + w))) (ux_E D shM KM ad cA) (ux_A KM ad)) 0 0 (ux_A KM ad) := by
  refine Met.ofW (cc := b_Md_word) (maxL := 2) (ret := (some .int)) (by decide) rfl ?_
  intro p e s m args below meth c s₁ B hml hv
  obtain ⟨rfl, hP, hK, hi, hN⟩ := hv
  have hx := B.exec
  have hb := B.bytes
  have hr := B.returns
  have hts := atoms_spec (ws := w_Md_word) B.pre
  have hown : s.vm.findClass R_Md = some m.cls := findClass_of_methodNamed B.named
  have hlocks := B.notSynchronized
  have hT : ∀ w ∈ tb, w.before _ s = true := fun w h => hts w (List.mem_cons_of_mem _ h)
  have hS : va_S (ux_A KM ad) s.heap s.heap [] := va_S.rf
  have hl := lv_entry ([.ref (ad 0), .int (nI w)]) (n := 2) (Nat.le_of_ble_eq_true rfl)
  rw [lg_entry_eq]
  generalize (lg_sl ([.ref (ad 0), .int (nI w)]) ++ List.replicate (2 - (lg_sl ([.ref (ad 0), .int (nI w)])).length) Slot.unset).toArray = ls at hl ⊢
  have hl : lv_has ls 2 [(0, .ref (ad 0)), (1, .int (nI w))] := hl
  have hF : ∀ a b, ¬ tN a b → M a b = M a b := fun _ _ _ => rfl
  refine lv_bipush (v := 8) hx hb d_Md_word_0 (by decide) ?_
  refine lv_aload_n hx hb d_Md_word_2 rfl (lv_at hl 0 rfl) ?_
  refine ux_get (C := R_Md) (T := F_Md) (N := 50) hx hb hT in_Md hown hK hP (by decide) rfl rfl 10 (by decide) (hT _ fl_Md_36) rfl d_Md_word_3 ?_
  refine lv_topi (fun z1 hz1 => ?_)
  rw [show M 0 10 = nI L from hlv] at hz1
  rw [hz1]
  refine lv_imul hx hb d_Md_word_6 ?_
  refine lv_topi (fun z2 hz2 => ?_)
  rw [show (8 : Int32) * (nI L) = nI (8 * L) from pk_mul 8 L] at hz2
  rw [hz2]
  refine lv_iload_n hx hb d_Md_word_7 rfl (lv_at hl 1 rfl) ?_
  refine lv_iadd hx hb d_Md_word_8 ?_
  refine lv_topi (fun z3 hz3 => ?_)
  rw [show (nI (8 * L)) + (nI w) = nI ((8 * L) + w) from nI_add (8 * L) w] at hz3
  rw [hz3]
  exact W.iret (v := nI ((8 * L) + w)) hx hb hr (fun t ht hW => ⟨⟨nI ((8 * L) + w), M, rfl, ⟨hI, hF, rfl⟩, by unfold ux_E; rw [ht]; exact hP⟩, hS.F ht⟩) hS.2.2 d_Md_word_9
