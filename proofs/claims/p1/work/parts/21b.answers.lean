/-! A fresh object's first answers: class and reference alike -/
abbrev mM : ux_M := vfill m0M 2 208 (-1)
theorem i7 (x : Int32) : 8 ≤ x ↔ ¬ x ≤ 7 := by
  rw [Int32.le_iff_toInt_le, Int32.le_iff_toInt_le]
  have h1 : (8 : Int32).toInt = 8 := rfl
  have h2 : (7 : Int32).toInt = 7 := rfl
  omega
theorem i126 (x : Int32) : 126 < x ↔ ¬ x ≤ 126 := by
  rw [Int32.le_iff_toInt_le, Int32.lt_iff_toInt_lt]
  omega
theorem i25 (x : Int32) : nI 26 ≤ x ↔ ¬ x ≤ 25 := by
  rw [Int32.le_iff_toInt_le, Int32.le_iff_toInt_le]
  have h1 : (nI 26 : Int32).toInt = 26 := rfl
  have h2 : (25 : Int32).toInt = 25 := rfl
  omega
theorem i0 (x : Int32) : 0 ≤ x ↔ ¬ x < 0 := by
  rw [Int32.le_iff_toInt_le, Int32.lt_iff_toInt_lt]
  omega
theorem im1 (x : Int32) (h : ¬ x < 0) : -1 ≤ x := by
  rw [Int32.le_iff_toInt_le]
  rw [Int32.lt_iff_toInt_lt] at h
  have h1 : (-1 : Int32).toInt = -1 := rfl
  have h2 : (0 : Int32).toInt = 0 := rfl
  omega
theorem o_st (M : ux_M) (x : Int32) : (fv_Md_outside M x 0 7 = 0) ↔ ¬ pst x = 0 := by
  unfold fv_Md_outside pst
  by_cases h1 : x < 0
  · simp [h1]
  · by_cases h2 : x ≤ 7
    · have h3 : ¬ 8 ≤ x := fun h => ((i7 x).mp h) h2
      simp [h1, h2, h3]
    · have h3 : 8 ≤ x := (i7 x).mpr h2
      simp [h1, h2, h3]
theorem o_pr (M : ux_M) (x : Int32) : (fv_Md_outside M x 32 126 = 0) ↔ ¬ pr x = 0 := by
  unfold fv_Md_outside pr
  by_cases h1 : x < 32
  · simp [h1]
  · by_cases h2 : x ≤ 126
    · have h3 : ¬ 126 < x := fun h => ((i126 x).mp h) h2
      simp [h1, h2, h3]
    · have h3 : 126 < x := (i126 x).mpr h2
      simp [h1, h2, h3]
theorem q_put (ch : Int32) : vput m0X ch = fv_Md_put mM ch := by
  have e1 : m0X 14 2 = 0 := rfl
  have e2 : m0X 14 1 = 0 := rfl
  have f1 : mM 0 1 = 0 := rfl
  have f2 : mM 0 2 = 0 := rfl
  have g1 : ¬ (200 : Int32) ≤ 0 := by decide
  have g2 : (0 : Int32) < 200 := by decide
  unfold vput fv_Md_put pr
  rw [e1, e2, f1, f2]
  by_cases h1 : ch = 10
  · simp [h1, g1, g2]
  · by_cases h2 : ch < 32
    · simp [h1, h2]
    · by_cases h3 : 126 < ch
      · simp [h1, h2, h3]
      · simp [h1, h2, h3, g1, g2]
theorem q_rule {a b d f r : Int32} {M1 : ux_M} (h : vru m0X a b d f r M1) : r = fv_Md_rule mM a b d f := by
  have e1 : var m0X = 1 := rfl
  have f1 : mM 0 39 = 0 := rfl
  have g1 : (0 : Int32) < 20 := by decide
  obtain ⟨k1, k0, -, -⟩ := h
  unfold fv_Md_rule
  rw [f1]
  simp only [o_st, o_pr, g1, if_true]
  unfold okr at k1 k0
  rw [e1] at k1 k0
  unfold pz at k1 k0
  by_cases h1 : pst a = 0 <;> by_cases h2 : pst f = 0 <;> by_cases h3 : b = 0 <;> by_cases h4 : d = 0 <;> by_cases h5 : pr b = 0 <;> by_cases h6 : pr d = 0 <;> simp [h1, h2, h3, h4, h5, h6] at k1 k0 ⊢ <;> assumption
theorem q_run (M : ux_M) (f : Int32) : vrn f = if fv_Md_outside M f 1 100 = 0 then 0 else -1 := by
  unfold vrn fv_Md_outside
  by_cases h1 : f < 1
  · simp [h1]
  · by_cases h2 : f ≤ 100
    · simp [h1, h2]
    · simp [h1, h2]
theorem q_at (k : Int32) : vt m0X 48 49 1 0 k = fv_Md_at mM k := by
  have f1 : mM 0 25 = 0 := rfl
  have e1 : m0X 49 (0 : Int32).toNatClampNeg = 0 := rfl
  unfold vt fv_Md_at
  rw [f1, e1, if_neg (show ¬ (0 : Int32) < 0 by decide), if_neg (show ¬ nI 1 ≤ 0 by decide), if_neg (show ¬ (20 : Int32) < 0 by decide)]
  by_cases h1 : k < 0
  · simp [h1]
  · have h2 := (i0 k).mpr h1
    simp [h1, h2]
theorem m20 {j : Nat} (h : j < 26) : m0X 20 j = -1 := by
  show vfill (fun _ _ => 0) 2 26 (-1) 2 j = -1
  unfold vfill
  rw [if_pos ⟨rfl, h⟩]
theorem m45 {j : Nat} (h : j < 26) : m0X 45 j = -1 := by
  show vfill (fun _ _ => 0) 0 26 (-1) 0 j = -1
  unfold vfill
  rw [if_pos ⟨rfl, h⟩]
theorem mM2 {j : Nat} (h : j < 26) : mM 2 j = -1 := by
  show vfill m0M 2 208 (-1) 2 j = -1
  unfold vfill
  rw [if_pos ⟨rfl, by omega⟩]
theorem mM2h (j : Nat) : (mM 2 j).toInt ≤ 20 := by
  show (vfill m0M 2 208 (-1) 2 j).toInt ≤ 20
  unfold vfill
  by_cases h : j < 208
  · rw [if_pos ⟨rfl, h⟩]; decide
  · rw [if_neg (fun q => h q.2)]
    have : m0M 2 j = 0 := by simp [m0M, ux_wr_off]
    rw [this]; decide
theorem lt26 {v : Int32} (h1 : ¬ v < 0) (h2 : ¬ nI 26 ≤ v) : v.toNatClampNeg < 26 := Nat.not_le.mp fun q => (nx_vin (by decide) h1 h2) (Or.inr q)
theorem q_size (v : Int32) : vz m0X 20 26 v = fv_Md_size mM v := by
  unfold vz fv_Md_size fv_Md_outside
  by_cases h1 : v < 0
  · simp [h1]
  · by_cases h2 : nI 26 ≤ v
    · have h3 := (i25 v).mp h2
      simp [h1, h2, h3]
    · have h3 : v ≤ 25 := Decidable.not_not.mp (fun q => h2 ((i25 v).mpr q))
      rw [if_neg h1, if_neg h2, if_neg h1, if_pos h3, if_pos rfl, m20 (lt26 h1 h2), mM2 (lt26 h1 h2)]
theorem vz20 (v : Int32) : vz m0X 20 26 v = -1 := by
  unfold vz
  by_cases h1 : v < 0
  · rw [if_pos h1]
  · by_cases h2 : nI 26 ≤ v
    · rw [if_neg h1, if_pos h2]
    · rw [if_neg h1, if_neg h2, m20 (lt26 h1 h2)]
theorem q_letter (v k : Int32) : vt m0X 19 20 26 v k = fv_Md_letter mM v k := by
  unfold fv_Md_letter
  rw [← q_size, vz20]
  have e2 : (if (-1 : Int32) ≤ k then (0 : Int32) else if k < 0 then 0 else mM 3 ((20 * v + k).toNatClampNeg)) = 0 := by
    by_cases h1 : k < 0
    · simp [h1]
    · rw [if_pos (im1 k h1)]
  rw [e2]
  unfold vt
  by_cases h1 : v < 0
  · rw [if_pos h1]
  · by_cases h2 : nI 26 ≤ v
    · rw [if_neg h1, if_pos h2]
    · rw [if_neg h1, if_neg h2, m20 (lt26 h1 h2), if_neg (show ¬ (20 : Int32) < -1 by decide)]
      by_cases h3 : k < 0
      · rw [if_pos h3]
      · rw [if_neg h3, if_neg]
        have h4 := im1 k h3
        rw [Int32.le_iff_toInt_le] at h4
        rw [Int32.lt_iff_toInt_lt]
        omega
theorem q_defined (v : Int32) : vha m0X v = fv_Md_defined mM v := by
  have e2 : fv_Md_defined mM v = 0 := by
    unfold fv_Md_defined
    have h5 : ∀ j, mM 5 j = 0 := fun j => by
      show vfill m0M 2 208 (-1) 5 j = 0
      unfold vfill
      rw [if_neg (fun q => absurd q.1 (by decide))]
      simp [m0M, ux_wr_off]
    rw [h5, if_pos rfl]
    by_cases h : fv_Md_outside mM v 0 25 = 0
    · rw [if_pos h]
    · rw [if_neg h]
  rw [e2]
  unfold vha
  by_cases h1 : v < 0
  · rw [if_pos h1]
  · by_cases h2 : 26 ≤ v
    · rw [if_neg h1, if_pos h2]
    · rw [if_neg h1, if_neg h2, m45 (lt26 h1 h2), if_pos rfl]
theorem q_talked (k : Int32) : 0 = fv_Md_talked mM k := by
  have f1 : mM 0 48 = 0 := rfl
  unfold fv_Md_talked
  rw [f1]
  by_cases h : fv_Md_outside mM k 0 39 = 0
  · rw [if_pos h, if_neg (nx_out0 h)]
  · rw [if_neg h]
theorem q_length : vz m0X 49 1 0 = fv_Md_length mM := rfl
theorem q_used : m0X 13 7 - m0X 13 8 = fv_Md_used mM := rfl
theorem q_peer : m0X 2 5 = fv_Md_peer mM := rfl
theorem q_pending : m0X 2 7 = fv_Md_pending mM := rfl
theorem q_buffered : vz m0X 10 1 0 = fv_Md_buffered mM := rfl
theorem q_talk : m0X 11 1 = fv_Md_talk mM := rfl
