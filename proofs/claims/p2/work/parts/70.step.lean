/-! The law's two sides held together: the same text count, mark and rule count -/
abbrev mM : ux_M := vfill m0M 2 208 (-1)
def Li (T : Nat) (mx mm : ux_M) : Prop := IvX mx ∧ IvM 100000000 T mm ∧ mx 14 1 = mm 0 1 ∧ mx 14 2 = mm 0 2 ∧ mx 2 4 = mm 0 39
set_option maxHeartbeats 1600000 in
theorem not200 (x : Int32) : (x < 200) ↔ ¬ 200 ≤ x := by
  rw [Int32.le_iff_toInt_le, Int32.lt_iff_toInt_lt]
  omega
set_option maxHeartbeats 1600000 in
theorem i7 (x : Int32) : 8 ≤ x ↔ ¬ x ≤ 7 := by
  rw [Int32.le_iff_toInt_le, Int32.le_iff_toInt_le]
  have h1 : (8 : Int32).toInt = 8 := rfl
  have h2 : (7 : Int32).toInt = 7 := rfl
  omega
set_option maxHeartbeats 1600000 in
theorem i126 (x : Int32) : 126 < x ↔ ¬ x ≤ 126 := by
  rw [Int32.le_iff_toInt_le, Int32.lt_iff_toInt_lt]
  omega
set_option maxHeartbeats 1600000 in
theorem o_st (M : ux_M) (x : Int32) : (fv_Md_outside M x 0 7 = 0) ↔ ¬ pst x = 0 := by
  unfold fv_Md_outside pst
  by_cases h1 : x < 0
  · simp [h1]
  · by_cases h2 : x ≤ 7
    · have h3 : ¬ 8 ≤ x := fun h => ((i7 x).mp h) h2
      simp [h1, h2, h3]
    · have h3 : 8 ≤ x := (i7 x).mpr h2
      simp [h1, h2, h3]
set_option maxHeartbeats 1600000 in
theorem o_pr (M : ux_M) (x : Int32) : (fv_Md_outside M x 32 126 = 0) ↔ ¬ pr x = 0 := by
  unfold fv_Md_outside pr
  by_cases h1 : x < 32
  · simp [h1]
  · by_cases h2 : x ≤ 126
    · have h3 : ¬ 126 < x := fun h => ((i126 x).mp h) h2
      simp [h1, h2, h3]
    · have h3 : 126 < x := (i126 x).mpr h2
      simp [h1, h2, h3]
set_option maxHeartbeats 1600000 in
theorem fput_v (M : ux_M) (ch : Int32) : fv_Md_put M ch = if (¬ pr ch = 0 ∨ ch = 10) ∧ M 0 2 = 0 ∧ M 0 1 < 200 then 1 else 0 := by
  unfold fv_Md_put pr
  simp only [not200]
  by_cases h1 : ch = 10
  · by_cases h4 : 200 ≤ M 0 1 <;> by_cases h5 : M 0 2 = 0 <;> simp [h1, h4, h5]
  · by_cases h2 : ch < 32
    · simp [h1, h2]
    · by_cases h3 : 126 < ch
      · simp [h1, h2, h3]
      · by_cases h4 : 200 ≤ M 0 1 <;> by_cases h5 : M 0 2 = 0 <;> simp [h1, h2, h3, h4, h5]
set_option maxHeartbeats 1600000 in
theorem fput_m (M : ux_M) (ch : Int32) : fm_Md_put M ch = if (¬ pr ch = 0 ∨ ch = 10) ∧ M 0 2 = 0 ∧ M 0 1 < 200 then ux_wr (ux_wr M 1 (M 0 1).toNatClampNeg (vp_nar .char ch)) 0 1 (M 0 1 + 1) else M := by
  unfold fm_Md_put pr
  simp only [not200]
  by_cases h1 : ch = 10
  · by_cases h4 : 200 ≤ M 0 1 <;> by_cases h5 : M 0 2 = 0 <;> simp [h1, h4, h5]
  · by_cases h2 : ch < 32
    · simp [h1, h2]
    · by_cases h3 : 126 < ch
      · simp [h1, h2, h3]
      · by_cases h4 : 200 ≤ M 0 1 <;> by_cases h5 : M 0 2 = 0 <;> simp [h1, h2, h3, h4, h5]
set_option maxHeartbeats 1600000 in
theorem q_put {T : Nat} {mx mm : ux_M} (h : Li T mx mm) (ch : Int32) : vput mx ch = fv_Md_put mm ch := by
  obtain ⟨-, -, e1, e2, -⟩ := h
  rw [fput_v]
  unfold vput
  rw [e1, e2]
set_option maxHeartbeats 1600000 in
theorem Li_put {T : Nat} {mx mm : ux_M} (h : Li T mx mm) (ch : Int32) : Li T (mput mx ch) (fm_Md_put mm ch) := by
  obtain ⟨hx, hm, e1, e2, e3⟩ := h
  refine ⟨IvX_put hx ch, ?_⟩
  rw [fput_m]
  unfold mput
  rw [e1, e2]
  by_cases hc : (¬ pr ch = 0 ∨ ch = 10) ∧ mm 0 2 = 0 ∧ mm 0 1 < 200
  · rw [if_pos hc, if_pos hc]
    have h1 := hm.1 0 1
    have h2 := hc.2.2
    rw [Int32.lt_iff_toInt_lt] at h2
    have h3 : loM 0 1 = 0 := rfl
    have h4 : (200 : Int32).toInt = 200 := rfl
    have h5 : (mm 0 1 + 1).toInt = (mm 0 1).toInt + 1 := by
      have := ti_add (a := mm 0 1) (b := 1) (by have : (1 : Int32).toInt = 1 := rfl; omega) (by have : (1 : Int32).toInt = 1 := rfl; omega)
      rw [this]; rfl
    refine ⟨IvM_wr (IvM_wr hm ?_ ?_ ?_) ?_ ?_ ?_, ?_, ?_, ?_⟩
    · exact (nar_c ch).1
    · exact (nar_c ch).2
    · unfold okW; omega
    · rw [h5, h3]; omega
    · rw [h5]; show _ ≤ (200 : Int); omega
    · unfold okW; omega
    · rw [ux_wr_at, ux_wr_at]
    · rw [ux_wr_off (by omega), ux_wr_off (by omega), ux_wr_off (by omega), ux_wr_off (by omega)]; exact e2
    · rw [ux_wr_off (by omega), ux_wr_off (by omega), ux_wr_off (by omega), ux_wr_off (by omega)]; exact e3
  · rw [if_neg hc, if_neg hc]
    exact ⟨hm, e1, e2, e3⟩
set_option maxHeartbeats 1600000 in
theorem frule (M : ux_M) (a b d f : Int32) : (okr a b d f ∧ M 0 39 < 20 → fv_Md_rule M a b d f = 1 ∧ fm_Md_rule M a b d f = (ux_wr (ux_wr (ux_wr (ux_wr (ux_wr M 26 (M 0 39).toNatClampNeg a) 27 (M 0 39).toNatClampNeg b) 28 (M 0 39).toNatClampNeg d) 29 (M 0 39).toNatClampNeg f) 0 39 ((M 0 39) + 1))) ∧ (¬ (okr a b d f ∧ M 0 39 < 20) → fv_Md_rule M a b d f = 0 ∧ fm_Md_rule M a b d f = M) := by
  unfold fv_Md_rule fm_Md_rule okr pz
  simp only [o_st, o_pr]
  by_cases h1 : pst a = 0 <;> by_cases h2 : pst f = 0 <;> by_cases h3 : b = 0 <;> by_cases h4 : d = 0 <;> by_cases h5 : pr b = 0 <;> by_cases h6 : pr d = 0 <;> by_cases h7 : M 0 39 < 20 <;> simp [h1, h2, h3, h4, h5, h6, h7]
set_option maxHeartbeats 1600000 in
theorem var_0 (M : ux_M) : (¬ var M = 0) ↔ M 2 4 < 20 := by
  unfold var
  by_cases h : M 2 4 < 20
  · simp [h]
  · simp [h]
set_option maxHeartbeats 1600000 in
theorem q_rule {T : Nat} {mx mm M1 : ux_M} {a b d f r : Int32} (h : Li T mx mm) (q : vru mx a b d f r M1) : r = fv_Md_rule mm a b d f := by
  obtain ⟨-, -, -, -, e3⟩ := h
  obtain ⟨k1, k0, -, -⟩ := q
  rw [var_0, e3] at k1 k0
  by_cases hc : okr a b d f ∧ mm 0 39 < 20
  · rw [((frule mm a b d f).1 hc).1]; exact k1 hc
  · rw [((frule mm a b d f).2 hc).1]; exact k0 hc
set_option maxHeartbeats 1600000 in
theorem Li_rule {T : Nat} {mx mm M1 : ux_M} {a b d f r : Int32} (h : Li T mx mm) (q : vru mx a b d f r M1) : Li T M1 (fm_Md_rule mm a b d f) := by
  obtain ⟨hx, hm, e1, e2, e3⟩ := h
  obtain ⟨-, -, m1, m0⟩ := q
  by_cases hc : okr a b d f
  · rw [m1 hc]
    refine ⟨IvX_mar hx a b d f, ?_⟩
    unfold mar
    rw [e3]
    by_cases hn : mm 0 39 < 20
    · rw [if_pos hn, ((frule mm a b d f).1 ⟨hc, hn⟩).2]
      have h1 := hm.1 0 39
      have h2 := hn
      rw [Int32.lt_iff_toInt_lt] at h2
      have h3 : loM 0 39 = 0 := rfl
      have h4 : (20 : Int32).toInt = 20 := rfl
      have h5 : (mm 0 39 + 1).toInt = (mm 0 39).toInt + 1 := by
        have := ti_add (a := mm 0 39) (b := 1) (by have : (1 : Int32).toInt = 1 := rfl; omega) (by have : (1 : Int32).toInt = 1 := rfl; omega)
        rw [this]; rfl
      refine ⟨IvM_wr (IvM_free (IvM_free (IvM_free (IvM_free hm rfl rfl (by unfold okW; omega)) rfl rfl (by unfold okW; omega)) rfl rfl (by unfold okW; omega)) rfl rfl (by unfold okW; omega)) ?_ ?_ (by unfold okW; omega), ?_, ?_, ?_⟩
      · rw [h5, h3]; omega
      · rw [h5]; show _ ≤ (20 : Int); omega
      · rw [ux_wr_off (by omega), ux_wr_off (by omega), ux_wr_off (by omega), ux_wr_off (by omega), ux_wr_off (by omega), ux_wr_off (by omega), ux_wr_off (by omega), ux_wr_off (by omega), ux_wr_off (by omega), ux_wr_off (by omega)]; exact e1
      · rw [ux_wr_off (by omega), ux_wr_off (by omega), ux_wr_off (by omega), ux_wr_off (by omega), ux_wr_off (by omega), ux_wr_off (by omega), ux_wr_off (by omega), ux_wr_off (by omega), ux_wr_off (by omega), ux_wr_off (by omega)]; exact e2
      · rw [ux_wr_at, ux_wr_at]
    · rw [if_neg hn, ((frule mm a b d f).2 (fun q => hn q.2)).2]
      exact ⟨hm, e1, e2, e3⟩
  · rw [m0 hc, ((frule mm a b d f).2 (fun q => hc q.1)).2]
    exact ⟨hx, hm, e1, e2, e3⟩
set_option maxHeartbeats 1600000 in
theorem Li_reset {T : Nat} {mx mm : ux_M} (h : Li T mx mm) : Li T (msa mx) (fm_Md_reset mm) := by
  obtain ⟨hx, hm, e1, e2, e3⟩ := h
  refine ⟨IvX_msa hx, ?_, ?_, ?_, ?_⟩
  · exact IvM_wr (IvM_wr (IvM_free (IvM_wr hm (by decide) (by decide) (by unfold okW; omega)) rfl rfl (by unfold okW; omega)) (by decide) (by decide) (by unfold okW; omega)) (by decide) (by decide) (by unfold okW; omega)
  · exact e1
  · exact e2
  · rfl
set_option maxHeartbeats 1600000 in
theorem IvM_fill {A B : Nat} {M : ux_M} {k n : Nat} {v : Int32} (hI : IvM A B M) (h1 : ∀ b, loM k b ≤ v.toInt) (h2 : ∀ b, v.toInt ≤ hiM A k b) (hk : k ≠ 17 ∧ k ≠ 18 ∧ k ≠ 19 ∧ k ≠ 0) : IvM A B (vfill M k n v) := by
  obtain ⟨i1, i2, i3⟩ := hI
  have off : ∀ a b, a ≠ k → vfill M k n v a b = M a b := fun a b q => by unfold vfill; rw [if_neg (fun z => q z.1)]
  refine ⟨fun a b => ?_, fun i hi => ?_, ?_⟩
  · by_cases ha : a = k
    · subst ha
      unfold vfill
      by_cases hb : b < n
      · rw [if_pos ⟨rfl, hb⟩]; exact ⟨h1 b, h2 b⟩
      · rw [if_neg (fun z => hb z.2)]; exact i1 a b
    · rw [off a b ha]; exact i1 a b
  · rw [off 17 i (by omega), off 18 i (by omega), off 19 i (by omega)]; exact i2 i hi
  · unfold Ft
    rw [off 0 27 (by omega), off 0 28 (by omega), off 0 48 (by omega)]; exact i3
set_option maxHeartbeats 1600000 in
theorem IvX_vli {M : ux_M} {f i : Nat} (hI : IvX M) : IvX (vli M f i) := by
  intro a b
  unfold vli
  by_cases h : a = 17 ∧ f * 26 ≤ b ∧ b < f * 26 + i
  · rw [if_pos h]
    obtain ⟨rfl, -⟩ := h
    exact ⟨fun _ => by decide, fun _ => by decide, fun _ => by decide, fun _ => by decide, fun _ => by decide, fun _ => by decide⟩
  · rw [if_neg h]; exact hI a b
set_option maxHeartbeats 1600000 in
theorem Li_wipe {T : Nat} {mx mm : ux_M} (h : Li T mx mm) : Li T (vfill (mop (ux_wr (ux_wr mx 14 1 0) 14 2 0) 0) 45 26 (-1)) (vfill (vfill (ux_wr (ux_wr mm 0 1 0) 0 2 0) 2 208 (-1)) 5 26 0) := by
  obtain ⟨hx, hm, e1, e2, e3⟩ := h
  have w1 : IvX (ux_wr (ux_wr mx 14 1 0) 14 2 0) := IvX_lit (IvX_lit hx (by unfold pch; omega)) (by unfold pch; omega)
  have w2 : IvX (vfill (ux_wr (ux_wr mx 14 1 0) 14 2 0) (gX16 0 + 2) 26 (-1)) := vfill_I w1 (fun b => by show ¬ ppn 20 b; unfold ppn; omega) (by show ¬ pch 20; unfold pch; omega)
  refine ⟨vfill_I (IvX_vli w2) (fun b => by unfold ppn; omega) (by unfold pch; omega), ?_, rfl, rfl, e3⟩
  refine IvM_fill (IvM_fill (IvM_free (IvM_wr hm (by decide) (by decide) (by unfold okW; omega)) rfl rfl (by unfold okW; omega)) (fun b => ?_) (fun b => ?_) (by omega)) (fun b => ?_) (fun b => ?_) (by omega)
  · show (-1 : Int) ≤ _; decide
  · show _ ≤ (20 : Int); decide
  · show (-2147483648 : Int) ≤ _; decide
  · show _ ≤ (2147483647 : Int); decide
set_option maxHeartbeats 1600000 in
theorem IvM_m0 : IvM 100000000 0 m0M := by
  have z : ∀ a b, ¬ (a = 0 ∧ b = 10) → m0M a b = 0 := fun a b h => by unfold m0M; rw [ux_wr_off (by omega)]
  refine ⟨fun a b => ?_, fun i hi => ?_, ?_⟩
  · by_cases h : a = 0 ∧ b = 10
    · obtain ⟨rfl, rfl⟩ := h
      exact ⟨by decide, by decide⟩
    · rw [z a b h]
      have h0 : (0 : Int32).toInt = 0 := rfl
      rw [h0]
      constructor
      · unfold loM; repeat' split
        all_goals omega
      · unfold hiM; repeat' split
        all_goals omega
  · rw [z 17 i (by omega), z 18 i (by omega), z 19 i (by omega)]
    exact ⟨fun _ => by decide, fun h => absurd rfl h⟩
  · unfold Ft; rw [z 0 27 (by omega), z 0 28 (by omega), z 0 48 (by omega)]
    exact ⟨by decide, by decide⟩
set_option maxHeartbeats 1600000 in
theorem IvX_m0 : IvX m0X := by
  have k : ∀ (k1 k0 n a b : Nat), (vfill (fun _ _ => 0) k0 n (-1) k1 b : Int32) = 0 ∨ (vfill (fun _ _ => 0) k0 n (-1) k1 b : Int32) = -1 := fun k1 k0 n a b => by
    unfold vfill
    by_cases h : k1 = k0 ∧ b < n
    · rw [if_pos h]; exact Or.inr rfl
    · rw [if_neg h]; exact Or.inl rfl
  have z : ∀ a b, m0X a b = 0 ∨ (((a = 20 ∨ a = 23 ∨ a = 26 ∨ a = 29 ∨ a = 32 ∨ a = 35 ∨ a = 38 ∨ a = 41 ∨ a = 45)) ∧ m0X a b = -1) := fun a b => by
    unfold m0X
    split
    · exact (k 2 2 26 0 b).imp id (fun h => ⟨by omega, h⟩)
    · exact (k 2 2 26 0 b).imp id (fun h => ⟨by omega, h⟩)
    · exact (k 2 2 26 0 b).imp id (fun h => ⟨by omega, h⟩)
    · exact (k 2 2 26 0 b).imp id (fun h => ⟨by omega, h⟩)
    · exact (k 2 2 26 0 b).imp id (fun h => ⟨by omega, h⟩)
    · exact (k 2 2 26 0 b).imp id (fun h => ⟨by omega, h⟩)
    · exact (k 2 2 26 0 b).imp id (fun h => ⟨by omega, h⟩)
    · exact (k 2 2 26 0 b).imp id (fun h => ⟨by omega, h⟩)
    · exact (k 0 0 26 0 b).imp id (fun h => ⟨by omega, h⟩)
    · exact Or.inl rfl
  intro a b
  rcases z a b with h | ⟨ha, h⟩
  · rw [h]
    exact ⟨fun _ => by decide, fun _ => by decide, fun _ => by decide, fun _ => by decide, fun _ => by decide, fun _ => by decide⟩
  · rw [h]
    exact ⟨fun q => absurd q (by unfold p0; omega), fun _ => by decide, fun _ => by decide, fun _ => by decide, fun _ => by decide, fun q => absurd q (by unfold pch; omega)⟩
set_option maxHeartbeats 1600000 in
theorem Li_0 : Li 0 m0X mM := ⟨IvX_m0, IvM_fill IvM_m0 (fun b => by show (-1 : Int) ≤ _; decide) (fun b => by show _ ≤ (20 : Int); decide) (by omega), rfl, rfl, rfl⟩
set_option maxHeartbeats 1600000 in
theorem rnd_rnM {mx mm : ux_M} (e : mx 14 2 = mm 0 2) (f : Int32) : rnd mx f = rnM mm f := by
  unfold rnd rnM
  have h1 : (1 : Int32).toInt = 1 := rfl
  have h2 : (100 : Int32).toInt = 100 := rfl
  simp only [Int32.lt_iff_toInt_lt, Int32.le_iff_toInt_le, h1, h2, e]
  by_cases a : f.toInt < 1
  · rw [if_pos a, if_neg (by omega)]
  · by_cases b : f.toInt ≤ 100
    · rw [if_neg a, if_pos b, if_pos (by omega)]
    · rw [if_neg a, if_neg b, if_neg (by omega)]
set_option maxHeartbeats 1600000 in
theorem Li_run {T T1 : Nat} {mx mm M1 N1 : ux_M} {f : Int32} (h : Li T mx mm) (hx : IvX M1) (fx : ∀ a b, ¬ tRun a b → M1 a b = mx a b) (gx : M1 14 2 = rnd mx f) (hm : IvM 100000000 T1 N1) (fm : ∀ a b, ¬ mRun a b → N1 a b = mm a b) (gm : N1 0 2 = rnM mm f) : Li T1 M1 N1 := by
  obtain ⟨-, -, e1, e2, e3⟩ := h
  refine ⟨hx, hm, ?_, ?_, ?_⟩
  · rw [fx 14 1 (by unfold tRun; omega), fm 0 1 (by unfold mRun; omega)]; exact e1
  · rw [gx, gm]; exact rnd_rnM e2 f
  · rw [fx 2 4 (by unfold tRun; omega), fm 0 39 (by unfold mRun; omega)]; exact e3
set_option maxHeartbeats 1600000 in
theorem Li_mono {T T1 : Nat} {mx mm : ux_M} (h : Li T mx mm) (hT : T ≤ T1) : Li T1 mx mm := ⟨h.1, IvM_monoB h.2.1 hT, h.2.2⟩
set_option maxHeartbeats 1600000 in
theorem Li_same {T : Nat} {mx mm M1 N1 : ux_M} (h : Li T mx mm) (e1 : M1 = mx) (e2 : N1 = mm) : Li T M1 N1 := by rw [e1, e2]; exact h
set_option maxHeartbeats 1600000 in
theorem fk_at (M : ux_M) (k : Int32) : fm_Md_at M k = M := by
  unfold fm_Md_at
  repeat' split
  all_goals rfl
set_option maxHeartbeats 1600000 in
theorem fk_defined (M : ux_M) (k : Int32) : fm_Md_defined M k = M := by
  unfold fm_Md_defined
  repeat' split
  all_goals rfl
set_option maxHeartbeats 1600000 in
theorem fk_talked (M : ux_M) (k : Int32) : fm_Md_talked M k = M := by
  unfold fm_Md_talked
  repeat' split
  all_goals rfl
set_option maxHeartbeats 1600000 in
theorem fk_letter (M : ux_M) (v k : Int32) : fm_Md_letter M v k = M := by
  unfold fm_Md_letter
  repeat' split
  all_goals rfl
