/-! Numbers: places in rows -/
theorem nx_vin {i : Int32} {n : Nat} (hn : n ≤ 1000) (h1 : ¬ i < 0) (h2 : ¬ nI n ≤ i) : vp_in i n := by
  rw [vp_in_iff]
  rw [Int32.le_iff_toInt_le, nI_toInt (by omega)] at h2
  rw [Int32.lt_iff_toInt_lt] at h1
  have h0 : (0 : Int32).toInt = 0 := rfl
  rw [h0] at h1
  omega
theorem nx_vin2 {j x : Int32} (h1 : ¬ 20 < x) (h2 : ¬ j < 0) (h3 : j < x) : vp_in j 20 := by
  rw [vp_in_iff]
  rw [Int32.lt_iff_toInt_lt] at h1 h2 h3
  have h0 : (0 : Int32).toInt = 0 := rfl
  have h20 : (20 : Int32).toInt = 20 := rfl
  rw [h0] at h2
  rw [h20] at h1
  omega
theorem nx_vin3 {j : Int32} (h1 : ¬ j < 0) (h2 : j < 20) : vp_in j 20 := by
  rw [vp_in_iff]
  rw [Int32.lt_iff_toInt_lt] at h1 h2
  have h0 : (0 : Int32).toInt = 0 := rfl
  have h20 : (20 : Int32).toInt = 20 := rfl
  rw [h0] at h1
  rw [h20] at h2
  omega
theorem nx_let {i j : Int32} {n : Nat} (hn : n ≤ 1000) (hi : vp_in i n) (hj : vp_in j 20) : vp_in (i * 20 + j) (20 * n) := by
  obtain ⟨a, ha, rfl⟩ := vp_in_of hi (by omega)
  obtain ⟨b, hb, rfl⟩ := vp_in_of hj (by omega)
  have e : nI a * 20 + nI b = nI (a * 20 + b) := by rw [show (20 : Int32) = nI 20 from rfl, pk_mul, nI_add]
  rw [e]
  exact vp_in_nI (by omega) (by omega)
