/-! Level, Variables, Procedures, Log, Peer, safe: written by wip/gen/cls.py -/
theorem lk (a : Nat) (ha : a ≤ 59) {d : Nat} (hd : d < 8) : a + 7 * d < KX := by show a + 7 * d < 109; omega
theorem fk (a : Nat) (ha : a ≤ 20) {d : Nat} (hd : d < 8) : a + 3 * d < KX := by show a + 3 * d < 109; omega
theorem c8 {P : Nat → Prop} (h0 : P 0) (h1 : P 1) (h2 : P 2) (h3 : P 3) (h4 : P 4) (h5 : P 5) (h6 : P 6) (h7 : P 7) {d : Nat} (hd : d < 8) : P d := lt8 h0 h1 h2 h3 h4 h5 h6 h7 d hd
theorem L53 {d : Nat} (hd : d < 8) : shX (53 + 7 * d) = .inl (9, [some (54 + 7 * d), some (57 + 7 * d), some (58 + 7 * d), some (59 + 7 * d), none, none, none, none, none, none]) := c8 (P := fun d => shX (53 + 7 * d) = .inl (9, [some (54 + 7 * d), some (57 + 7 * d), some (58 + 7 * d), some (59 + 7 * d), none, none, none, none, none, none])) rfl rfl rfl rfl rfl rfl rfl rfl hd
theorem L54 {d : Nat} (hd : d < 8) : shX (54 + 7 * d) = .inl (4, [some (55 + 7 * d), some (56 + 7 * d)]) := c8 (P := fun d => shX (54 + 7 * d) = .inl (4, [some (55 + 7 * d), some (56 + 7 * d)])) rfl rfl rfl rfl rfl rfl rfl rfl hd
theorem L55 {d : Nat} (hd : d < 8) : shX (55 + 7 * d) = .inr (1, 20 * 8, none) := c8 (P := fun d => shX (55 + 7 * d) = .inr (1, 20 * 8, none)) rfl rfl rfl rfl rfl rfl rfl rfl hd
theorem L56 {d : Nat} (hd : d < 8) : shX (56 + 7 * d) = .inr (0, 8, none) := c8 (P := fun d => shX (56 + 7 * d) = .inr (0, 8, none)) rfl rfl rfl rfl rfl rfl rfl rfl hd
theorem L57 {d : Nat} (hd : d < 8) : shX (57 + 7 * d) = .inr (2, 8, none) := c8 (P := fun d => shX (57 + 7 * d) = .inr (2, 8, none)) rfl rfl rfl rfl rfl rfl rfl rfl hd
theorem L58 {d : Nat} (hd : d < 8) : shX (58 + 7 * d) = .inr (0, 8, none) := c8 (P := fun d => shX (58 + 7 * d) = .inr (0, 8, none)) rfl rfl rfl rfl rfl rfl rfl rfl hd
theorem L59 {d : Nat} (hd : d < 8) : shX (59 + 7 * d) = .inr (0, 8, none) := c8 (P := fun d => shX (59 + 7 * d) = .inr (0, 8, none)) rfl rfl rfl rfl rfl rfl rfl rfl hd
theorem F18 {d : Nat} (hd : d < 8) : shX (18 + 3 * d) = .inl (4, [some (19 + 3 * d), some (20 + 3 * d)]) := c8 (P := fun d => shX (18 + 3 * d) = .inl (4, [some (19 + 3 * d), some (20 + 3 * d)])) rfl rfl rfl rfl rfl rfl rfl rfl hd
theorem F19 {d : Nat} (hd : d < 8) : shX (19 + 3 * d) = .inr (1, 20 * 26, none) := c8 (P := fun d => shX (19 + 3 * d) = .inr (1, 20 * 26, none)) rfl rfl rfl rfl rfl rfl rfl rfl hd
theorem F20 {d : Nat} (hd : d < 8) : shX (20 + 3 * d) = .inr (0, 26, none) := c8 (P := fun d => shX (20 + 3 * d) = .inr (0, 26, none)) rfl rfl rfl rfl rfl rfl rfl rfl hd
theorem V_lv {d : Nat} (hd : d < 8) : ux_V shX KX (54 + 7 * d) (55 + 7 * d) (56 + 7 * d) 8 := ⟨lk 54 (by decide) hd, lk 55 (by decide) hd, lk 56 (by decide) hd, L54 hd, L55 hd, L56 hd, by decide⟩
theorem VF_fr {d : Nat} (hd : d < 8) : ux_V shX KX (18 + 3 * d) (19 + 3 * d) (20 + 3 * d) 26 := ⟨fk 18 (by decide) hd, fk 19 (by decide) hd, fk 20 (by decide) hd, F18 hd, F19 hd, F20 hd, by decide⟩
theorem vV_lv {d : Nat} (hd : d < 8) : vV (54 + 7 * d) (55 + 7 * d) (56 + 7 * d) 8 := ⟨V_lv hd, by unfold pch; omega, fun b => by unfold ppn; omega, fun b => by unfold ppn; omega, by unfold pch; omega, by omega⟩
theorem vV_fr {d : Nat} (hd : d < 8) : vV (18 + 3 * d) (19 + 3 * d) (20 + 3 * d) 26 := ⟨VF_fr hd, by unfold pch; omega, fun b => by unfold ppn; omega, fun b => by unfold ppn; omega, by unfold pch; omega, by omega⟩
theorem vV_res : vV 47 48 49 1 := ⟨V_res, by unfold pch; omega, fun b => by unfold ppn; omega, fun b => by unfold ppn; omega, by unfold pch; omega, by omega⟩
theorem vV_buf : vV 8 9 10 1 := ⟨V_buf, by unfold pch; omega, fun b => by unfold ppn; omega, fun b => by unfold ppn; omega, by unfold pch; omega, by omega⟩
theorem gL {d : Nat} (hd : d < 8) : gX46 (nI d).toNatClampNeg = 53 + 7 * d := by
  rw [nI_clamp (by omega)]
  exact c8 (P := fun d => gX46 d = 53 + 7 * d) rfl rfl rfl rfl rfl rfl rfl rfl hd
theorem gF {n : Nat} (hd : n < 8) : gX16 n = 18 + 3 * n := c8 (P := fun d => gX16 d = 18 + 3 * d) rfl rfl rfl rfl rfl rfl rfl rfl hd
theorem gF8 {f : Int32} (h0 : 0 ≤ f.toInt) (h1 : f.toInt < 8) : ∃ v, v < 8 ∧ gX16 f.toNatClampNeg = 18 + 3 * v := by
  have e := ti_clamp h0
  exact ⟨f.toNatClampNeg, by omega, gF (by omega)⟩
theorem vme_in (M : ux_M) (f nm : Int32) : ∃ v, v < 8 ∧ vme M f nm = 18 + 3 * v := by
  unfold vme
  by_cases h : vlo f nm = 0
  · rw [if_pos h]; exact ⟨0, by decide, rfl⟩
  · rw [if_neg h]
    by_cases h2 : M 17 (f * 26 + nm).toNatClampNeg = 0
    · rw [if_pos h2]
      have hf := (nx_lo h).1
      rw [vp_in_iff] at hf
      exact gF8 (by omega) (by omega)
    · rw [if_neg h2]; exact ⟨0, by decide, rfl⟩
theorem vlo_1 {f nm : Int32} (h : ¬ (vlo f nm).toInt = 0) : (0 ≤ f.toInt ∧ f.toInt < 8) ∧ (0 ≤ nm.toInt ∧ nm.toInt < 26) := by
  have h' : ¬ vlo f nm = 0 := fun q => h (by rw [q]; rfl)
  have h1 := (nx_lo h').1
  have h2 := (nx_lo h').2
  rw [vp_in_iff] at h1 h2
  omega
theorem vfill_off {M : ux_M} {k n : Nat} {v : Int32} : ∀ a b, ¬ tV1 k a b → vfill M k n v a b = M a b := fun a b h => by
  unfold vfill
  rw [if_neg (fun q => h q.1)]
theorem vfill_I {M : ux_M} {k n : Nat} {v : Int32} (hI : IvX M) (hp : ∀ b, ¬ ppn k b) (hc : ¬ pch k) : IvX (vfill M k n v) := by
  intro a b
  by_cases ha : a = k
  · subst ha
    have hp := hp b
    exact ⟨fun q => absurd (by unfold p0 at q; unfold ppn; omega) hp, fun q => absurd (by unfold p8 at q; unfold ppn; omega) hp, fun q => absurd (by unfold p20 at q; unfold ppn; omega) hp, fun q => absurd (by unfold p40 at q; unfold ppn; omega) hp, fun q => absurd (by unfold p200 at q; unfold ppn; omega) hp, fun q => absurd q hc⟩
  · rw [vfill_off a b ha]
    exact hI a b
theorem fm_s {x : Int32} : (0 ≤ (x ^^^ 40).toInt) ↔ 0 ≤ x.toInt := by
  have k : ∀ y : Int32, (0 ≤ y.toInt) ↔ y.toBitVec.msb = false := fun y => by
    rw [show y.toInt = y.toBitVec.toInt from rfl, BitVec.msb_eq_toInt]
    simp
  rw [k, k, Int32.toBitVec_xor, BitVec.msb_xor, show (40 : Int32).toBitVec.msb = false from rfl]
  simp
theorem fm_m (x : Int32) : -40 < (x - x / 40 * 40).toInt ∧ (x - x / 40 * 40).toInt < 40 ∧ (0 ≤ x.toInt → 0 ≤ (x - x / 40 * 40).toInt) ∧ (x.toInt ≤ 0 → (x - x / 40 * 40).toInt ≤ 0) := by
  have lo := ti_lo x
  have hi := ti_hi x
  have e0 : (40 : Int32).toInt = 40 := rfl
  have ed : (x / 40).toInt = x.toInt.tdiv 40 := by
    rw [Int32.toInt_div_of_ne_right x 40 (by decide), e0]
  have hq1 : x.toInt = 40 * (x.toInt.tdiv 40) + x.toInt.tmod 40 := (Int.mul_tdiv_add_tmod x.toInt 40).symm
  have hq2 : x.toInt.tmod 40 < 40 := Int.tmod_lt_of_pos _ (by decide)
  have hq3 : 0 ≤ x.toInt → 0 ≤ x.toInt.tmod 40 := fun h => Int.tmod_nonneg _ h
  have hq4 : x.toInt ≤ 0 → x.toInt.tmod 40 ≤ 0 := fun h => by
    have h5 := Int.tmod_nonneg (a := - x.toInt) 40 (by omega)
    rw [Int.neg_tmod] at h5
    omega
  have hq5 : -40 < x.toInt.tmod 40 := by
    by_cases h : 0 ≤ x.toInt
    · have := hq3 h; omega
    · have h5 : (- x.toInt).tmod 40 < 40 := Int.tmod_lt_of_pos _ (by decide)
      rw [Int.neg_tmod] at h5
      omega
  have em : (x / 40 * 40).toInt = x.toInt.tdiv 40 * 40 := by
    rw [ti_mul (by rw [ed, e0]; omega) (by rw [ed, e0]; omega), ed, e0]
  have es : (x - x / 40 * 40).toInt = x.toInt.tmod 40 := by
    rw [ti_sub (by rw [em]; omega) (by rw [em]; omega), em]
    omega
  rw [es]
  exact ⟨hq5, hq2, hq3, hq4⟩
def tLg (a _b : Nat) : Prop := a = 11 ∨ a = 12
def tPe (a b : Nat) : Prop := (a = 2 ∧ (b = 5 ∨ b = 7)) ∨ a = 7 ∨ a = 9 ∨ a = 10 ∨ a = 11 ∨ a = 12
def tLb (d a _b : Nat) : Prop := a = 53 + 7 * d
def tLw (d a _b : Nat) : Prop := 54 + 7 * d ≤ a ∧ a < 60 + 7 * d
def tLe (d a b : Nat) : Prop := (a = 53 + 7 * d ∧ b = 4) ∨ (54 + 7 * d ≤ a ∧ a < 60 + 7 * d)
def tVs (a _b : Nat) : Prop := a = 17 ∨ (18 ≤ a ∧ a < 42)
def tPd (a _b : Nat) : Prop := a = 43 ∨ a = 44 ∨ a = 45

set_option maxHeartbeats 8000000 in
set_option maxRecDepth 100000 in
theorem s_Ma_floorMod (l : Launch) (D : va_G) (ad : Nat → Nat) (cA : Nat → ClassId) (M : ux_M) (hI : IvX M) (x : Int32) : Met l y_Ma_floorMod w_Ma_floorMod ({ frames := 0, cells := 0, slots := 0, locals := 0 }) (va_Pc [.int x, .int 40] (ux_B D shX KX ad cA M)) (va_Qi (fun r M1 => IvX M1 ∧ (∀ a b, ¬ tN a b → M1 a b = M a b) ∧ (0 ≤ r.toInt ∧ r.toInt < 40)) (ux_E D shX KX ad cA) (ux_A KX ad)) 0 0 (ux_A KX ad) := by
  refine met_ofWF (cc := b_Ma_floorMod) (maxL := 3) (ret := (some .int)) (by decide +kernel) rfl ?_
  intro p e s m args below meth c s₁ B hml hv
  obtain ⟨rfl, hP, hK, hi, hN⟩ := hv
  have hx := B.exec
  have hb := B.bytes
  have hr := B.returns
  have hts := atoms_spec (ws := w_Ma_floorMod) B.pre
  have hown : s.vm.findClass R_Ma = some m.cls := findClass_of_methodNamed B.named
  have hlocks := B.notSynchronized
  have hT : ∀ w ∈ tb, w.before _ s = true := fun w h => hts w (List.mem_cons_of_mem _ h)
  have hS : va_S (ux_A KX ad) s.heap s.heap [] := va_S.rf
  have hl := lv_entry ([.int x, .int 40]) (n := 3) (Nat.le_of_ble_eq_true rfl)
  rw [lg_entry_eq]
  generalize (lg_sl ([.int x, .int 40]) ++ List.replicate (3 - (lg_sl ([.int x, .int 40])).length) Slot.unset).toArray = ls at hl ⊢
  have hl : lv_has ls 3 [(0, .int x), (1, .int 40)] := hl
  have hF : ∀ a b, ¬ tN a b → M a b = M a b := fun _ _ _ => rfl
  refine lv_iload_n hx hb d_Ma_floorMod_0 rfl (lv_at hl 0 rfl) ?_
  refine lv_iload_n hx hb d_Ma_floorMod_1 rfl (lv_at hl 1 rfl) ?_
  refine lv_irem hx hb d_Ma_floorMod_2 ((by decide)) ?_
  refine lv_topi (fun x1 ex1 => ?_)
  refine lv_istore_n hx hb d_Ma_floorMod_3 rfl hl (by decide) rfl (fun ls hl => ?_)
  have hl : lv_has ls 3 [(2, .int x1), (0, .int x), (1, .int 40)] := hl
  have hm := fm_m x
  rw [← ex1] at hm
  refine lv_iload_n hx hb d_Ma_floorMod_4 rfl (lv_at hl 1 rfl) ?_
  refine lv_iload_n hx hb d_Ma_floorMod_5 rfl (lv_at hl 2 rfl) ?_
  refine lv_ixor hx hb d_Ma_floorMod_6 ?_
  refine lv_topi (fun x2 ex2 => ?_)
  have hxs := fm_s (x := x)
  rw [← ex2] at hxs
  refine lv_if_ge hx hb d_Ma_floorMod_7 rfl (fun h3 => ?_) (fun h3 => ?_)
  · have g3 : 0 ≤ x2.toInt := Int32.le_iff_toInt_le.mp h3
    have u3 := ti_hi x2
    refine lv_iload_n hx hb d_Ma_floorMod_18 rfl (lv_at hl 0 rfl) ?_
    exact W.iret (v := x1) hx hb hr (fun t ht hW => ⟨⟨x1, M, rfl, ⟨hI, hF, (by first | omega | assumption)⟩, by unfold ux_E; rw [ht]; exact hP⟩, hS.F ht⟩) hS.2.2 d_Ma_floorMod_19
  · have g3 : ¬ (0 ≤ x2.toInt) := fun q => h3 (Int32.le_iff_toInt_le.mpr q)
    have w3 := ti_lo x2
    refine lv_iload_n hx hb d_Ma_floorMod_10 rfl (lv_at hl 0 rfl) ?_
    refine lv_if_eq hx hb d_Ma_floorMod_11 rfl (fun h4 => ?_) (fun h4 => ?_)
    · have g4 : x1.toInt = 0 := congrArg Int32.toInt h4
      refine lv_iload_n hx hb d_Ma_floorMod_18 rfl (lv_at hl 0 rfl) ?_
      exact W.iret (v := x1) hx hb hr (fun t ht hW => ⟨⟨x1, M, rfl, ⟨hI, hF, (by first | omega | assumption)⟩, by unfold ux_E; rw [ht]; exact hP⟩, hS.F ht⟩) hS.2.2 d_Ma_floorMod_19
    · have g4 : ¬ (x1.toInt = 0) := fun q => h4 (Int32.toInt_inj.mp q)
      refine lv_iload_n hx hb d_Ma_floorMod_14 rfl (lv_at hl 0 rfl) ?_
      refine lv_iload_n hx hb d_Ma_floorMod_15 rfl (lv_at hl 2 rfl) ?_
      refine lv_iadd hx hb d_Ma_floorMod_16 ?_
      refine lv_topi (fun x5 ex5 => ?_)
      try have fx5 : x5.toInt = x1.toInt + 40 := by rw [ex5]; exact ti_add (by (try rw [show (40 : Int32).toInt = 40 from rfl]); omega) (by (try rw [show (40 : Int32).toInt = 40 from rfl]); omega)
      exact W.iret (v := x5) hx hb hr (fun t ht hW => ⟨⟨x5, M, rfl, ⟨hI, hF, (by first | omega | assumption)⟩, by unfold ux_E; rw [ht]; exact hP⟩, hS.F ht⟩) hS.2.2 d_Ma_floorMod_17

set_option maxHeartbeats 8000000 in
set_option maxRecDepth 100000 in
theorem s_Lg_placeOf (l : Launch) (D : va_G) (ad : Nat → Nat) (cA : Nat → ClassId) (M : ux_M) (hI : IvX M) (x : Int32) : Met l y_Lg_placeOf w_Lg_placeOf ({ frames := 1, cells := 0, slots := 0, locals := 22 }) (va_Pc [.int x] (ux_B D shX KX ad cA M)) (va_Qi (fun r M1 => IvX M1 ∧ (∀ a b, ¬ tN a b → M1 a b = M a b) ∧ (0 ≤ r.toInt ∧ r.toInt < 40)) (ux_E D shX KX ad cA) (ux_A KX ad)) 0 0 (ux_A KX ad) := by
  refine Met.ofW (cc := b_Lg_placeOf) (maxL := 1) (ret := (some .int)) (by decide) rfl ?_
  intro p e s m args below meth c s₁ B hml hv
  obtain ⟨rfl, hP, hK, hi, hN⟩ := hv
  have hx := B.exec
  have hb := B.bytes
  have hr := B.returns
  have hts := atoms_spec (ws := w_Lg_placeOf) B.pre
  have hown : s.vm.findClass R_Lg = some m.cls := findClass_of_methodNamed B.named
  have hlocks := B.notSynchronized
  have hT : ∀ w ∈ tb, w.before _ s = true := fun w h => hts w (List.mem_cons_of_mem _ h)
  have hS : va_S (ux_A KX ad) s.heap s.heap [] := va_S.rf
  have hl := lv_entry ([.int x]) (n := 1) (Nat.le_of_ble_eq_true rfl)
  rw [lg_entry_eq]
  generalize (lg_sl ([.int x]) ++ List.replicate (1 - (lg_sl ([.int x])).length) Slot.unset).toArray = ls at hl ⊢
  have hl : lv_has ls 1 [(0, .int x)] := hl
  have hF : ∀ a b, ¬ tN a b → M a b = M a b := fun _ _ _ => rfl
  refine lv_iload_n hx hb d_Lg_placeOf_0 rfl (lv_at hl 0 rfl) ?_
  refine lv_bipush (v := 40) hx hb d_Lg_placeOf_1 (by decide) ?_
  refine ux_calli (va_runS ⟨hx, hb, hml, hown, hts⟩ (s_Ma_floorMod l D ad cA M hI x) (va_cwS 2 hts (tb_goodST ml_Lg_23 sm_Ma_floorMod ii_Ma kt_Ma_floorMod) rfl rfl rfl (by decide +kernel) ⟨Nat.le_of_ble_eq_true rfl, Nat.le_of_ble_eq_true rfl⟩) (ux_pre hP hK hi hN) rfl rfl hl.1 rfl (lv_room (Nat.le_of_ble_eq_true rfl)) d_Lg_placeOf_3 ⟨Nat.zero_le _, Nat.zero_le _⟩) hS (fun r1 M2 H locs q3 hP hS => ?_)
  obtain ⟨hI, fq3, q3p⟩ := q3
  rw [tN_eq fq3] at hP hI
  exact W.iret (v := r1) hx hb hr (fun t ht hW => ⟨⟨r1, M, rfl, ⟨hI, hF, (by first | omega | assumption)⟩, by unfold ux_E; rw [ht]; exact hP⟩, hS.F ht⟩) hS.2.2 d_Lg_placeOf_6

set_option maxHeartbeats 8000000 in
set_option maxRecDepth 100000 in
theorem s_Lg_note (l : Launch) (D : va_G) (ad : Nat → Nat) (cA : Nat → ClassId) (M : ux_M) (hI : IvX M) (ch : Int32) : Met l y_Lg_note w_Lg_note ({ frames := 2, cells := 0, slots := 0, locals := 42 }) (va_Pc [.ref (ad 11), .int ch] (ux_B D shX KX ad cA M)) (va_Qv (fun M1 => IvX M1 ∧ (∀ a b, ¬ tLg a b → M1 a b = M a b) ∧ (True)) (ux_E D shX KX ad cA) (ux_A KX ad)) 0 0 (ux_A KX ad) := by
  refine Met.ofW (cc := b_Lg_note) (maxL := 2) (ret := none) (by decide) rfl ?_
  intro p e s m args below meth c s₁ B hml hv
  obtain ⟨rfl, hP, hK, hi, hN⟩ := hv
  have hx := B.exec
  have hb := B.bytes
  have hr := B.returns
  have hts := atoms_spec (ws := w_Lg_note) B.pre
  have hown : s.vm.findClass R_Lg = some m.cls := findClass_of_methodNamed B.named
  have hlocks := B.notSynchronized
  have hT : ∀ w ∈ tb, w.before _ s = true := fun w h => hts w (List.mem_cons_of_mem _ h)
  have hS : va_S (ux_A KX ad) s.heap s.heap [] := va_S.rf
  have hl := lv_entry ([.ref (ad 11), .int ch]) (n := 2) (Nat.le_of_ble_eq_true rfl)
  rw [lg_entry_eq]
  generalize (lg_sl ([.ref (ad 11), .int ch]) ++ List.replicate (2 - (lg_sl ([.ref (ad 11), .int ch])).length) Slot.unset).toArray = ls at hl ⊢
  have hl : lv_has ls 2 [(0, .ref (ad 11)), (1, .int ch)] := hl
  have hF : ∀ a b, ¬ tLg a b → M a b = M a b := fun _ _ _ => rfl
  refine lv_aload_n hx hb d_Lg_note_0 rfl (lv_at hl 0 rfl) ?_
  refine ux_get (C := R_Lg) (T := F_Lg) (N := 2) hx hb hT in_Lg hown hK hP (by decide) rfl rfl 0 (by decide) (hT _ fl_Lg_9) rfl d_Lg_note_1 ?_
  refine lv_aload_n hx hb d_Lg_note_4 rfl (lv_at hl 0 rfl) ?_
  refine ux_get (C := R_Lg) (T := F_Lg) (N := 2) hx hb hT in_Lg hown hK hP (by decide) rfl rfl 1 (by decide) (hT _ fl_Lg_15) rfl d_Lg_note_5 ?_
  refine ux_calli (va_runS ⟨hx, hb, hml, hown, hts⟩ (s_Lg_placeOf l D ad cA M hI (M 11 1)) (va_cwS 1 hts (tb_goodST ml_Lg_19 sm_Lg_placeOf ii_Lg kt_Lg_placeOf) rfl rfl rfl (by decide +kernel) ⟨Nat.le_of_ble_eq_true rfl, Nat.le_of_ble_eq_true rfl⟩) (ux_pre hP hK hi hN) rfl rfl hl.1 rfl (lv_room (Nat.le_of_ble_eq_true rfl)) d_Lg_note_8 ⟨Nat.zero_le _, Nat.zero_le _⟩) hS (fun r1 M2 H locs q3 hP hS => ?_)
  obtain ⟨hI, fq3, q3p⟩ := q3
  rw [tN_eq fq3] at hP hI
  refine lv_iload_n hx hb d_Lg_note_11 rfl (lv_at hl 1 rfl) ?_
  refine ux_iast hx hb hK hi hP hS (by decide) rfl ((vi (show 0 ≤ r1.toInt by omega) (show r1.toInt < ((40 : Nat) : Int) by omega))) d_Lg_note_12 (fun H locs hP hS => ?_)
  have hI := IvX_free (k := 12) (j := r1.toNatClampNeg) (v := ch) hI (by unfold ppn; omega) (by unfold pch; omega)
  have hF := fr_wr (k := 12) (j := r1.toNatClampNeg) (v := ch) hF (by unfold tLg; omega)
  generalize eM4 : ux_wr M 12 r1.toNatClampNeg ch = M4 at hP hI hF
  refine lv_aload_n hx hb d_Lg_note_13 rfl (lv_at hl 0 rfl) ?_
  refine lv_dup hx hb d_Lg_note_14 rfl ?_
  refine ux_get (C := R_Lg) (T := F_Lg) (N := 2) hx hb hT in_Lg hown hK hP (by decide) rfl rfl 1 (by decide) (hT _ fl_Lg_15) rfl d_Lg_note_15 ?_
  refine lv_topi (fun z5 hz5 => ?_)
  rw [show M4 11 1 = M 11 1 from wr_off eM4 (by omega)] at hz5
  rw [hz5]
  refine lv_iconst (v := 1) hx hb d_Lg_note_18 (by decide) ?_
  refine lv_iadd hx hb d_Lg_note_19 ?_
  refine lv_topi (fun x6 ex6 => ?_)
  try have fx6 : x6.toInt = (M 11 1).toInt + 1 := by rw [ex6]; exact ti_add (by (try rw [show (1 : Int32).toInt = 1 from rfl]); omega) (by (try rw [show (1 : Int32).toInt = 1 from rfl]); omega)
  refine ux_put (C := R_Lg) (T := F_Lg) (N := 2) hx hb hT in_Lg t_Lg t_Lg_ok n_Lg hown hK hi hP hS (by decide) rfl rfl 1 (by decide) (hT _ fl_Lg_15) rfl (rfl) (rfl) rfl d_Lg_note_20 (fun H locs hP hS => ?_)
  have hI := IvX_free (k := 11) (j := 1) (v := x6) hI (by unfold ppn; omega) (by unfold pch; omega)
  have hF := fr_wr (k := 11) (j := 1) (v := x6) hF (by unfold tLg; omega)
  generalize eM7 : ux_wr M4 11 1 x6 = M7 at hP hI hF
  exact W.vret hx hb hr (fun t ht hW => ⟨⟨M7, rfl, ⟨hI, hF, trivial⟩, by unfold ux_E; rw [ht]; exact hP⟩, hS.F ht⟩) hS.2.2 d_Lg_note_23

set_option maxHeartbeats 8000000 in
set_option maxRecDepth 100000 in
theorem s_Pe_ruleFor (l : Launch) (D : va_G) (ad : Nat → Nat) (cA : Nat → ClassId) (M : ux_M) (hI : IvX M) (on : Int32) : Met l y_Pe_ruleFor w_Pe_ruleFor ({ frames := 0, cells := 0, slots := 0, locals := 0 }) (va_Pc [.ref (ad 2), .int on] (ux_B D shX KX ad cA M)) (va_Qi (fun r M1 => IvX M1 ∧ (∀ a b, ¬ tN a b → M1 a b = M a b) ∧ (-1 ≤ r.toInt ∧ r.toInt < 20)) (ux_E D shX KX ad cA) (ux_A KX ad)) 0 0 (ux_A KX ad) := by
  refine Met.ofW (cc := b_Pe_ruleFor) (maxL := 3) (ret := (some .int)) (by decide) rfl ?_
  intro p e s m args below meth c s₁ B hml hv
  obtain ⟨rfl, hP, hK, hi, hN⟩ := hv
  have hx := B.exec
  have hb := B.bytes
  have hr := B.returns
  have hts := atoms_spec (ws := w_Pe_ruleFor) B.pre
  have hown : s.vm.findClass R_Pe = some m.cls := findClass_of_methodNamed B.named
  have hlocks := B.notSynchronized
  have hT : ∀ w ∈ tb, w.before _ s = true := fun w h => hts w (List.mem_cons_of_mem _ h)
  have hS : va_S (ux_A KX ad) s.heap s.heap [] := va_S.rf
  have hl := lv_entry ([.ref (ad 2), .int on]) (n := 3) (Nat.le_of_ble_eq_true rfl)
  rw [lg_entry_eq]
  generalize (lg_sl ([.ref (ad 2), .int on]) ++ List.replicate (3 - (lg_sl ([.ref (ad 2), .int on])).length) Slot.unset).toArray = ls at hl ⊢
  have hl : lv_has ls 3 [(0, .ref (ad 2)), (1, .int on)] := hl
  have hF : ∀ a b, ¬ tN a b → M a b = M a b := fun _ _ _ => rfl
  have cut2 : ∀ (nn : Nat) (i_2 : Int32) (Mc2 : ux_M) (H : Heap) (locs : List Loc) (ls : Array Slot), ((20 : Int) - i_2.toInt).toNat = nn → (0 ≤ i_2.toInt) → va_P D classes (ux_w shX KX ad cA Mc2) H → IvX Mc2 → (∀ a b, ¬ tN a b → Mc2 a b = M a b) → va_S (ux_A KX ad) s.heap H locs → lv_has ls 3 [(0, .ref (ad 2)), (1, .int on), (2, .int i_2)] → W p l e (headSpec w_Pe_ruleFor ({ frames := 0, cells := 0, slots := 0, locals := 0 })).room s m (([.ref (ad 2), .int on] : List Value).toArray) below meth c H locs 0 0 (MQ below (va_Qi (fun r M1 => IvX M1 ∧ (∀ a b, ¬ tN a b → M1 a b = M a b) ∧ (-1 ≤ r.toInt ∧ r.toInt < 20)) (ux_E D shX KX ad cA) (ux_A KX ad)) (([.ref (ad 2), .int on] : List Value).toArray) s 0 0 (ux_A KX ad)) (F0 m 2 ls []) := by
    intro nn
    induction nn using Nat.strongRecOn with
    | ind nn ih2 =>
      intro i_2 Mc2 H locs ls hn c2_0 hP hI hF hS hl
      refine lv_iload_n hx hb d_Pe_ruleFor_2 rfl (lv_at hl 2 rfl) ?_
      refine lv_aload_n hx hb d_Pe_ruleFor_3 rfl (lv_at hl 0 rfl) ?_
      refine ux_get (C := R_Pe) (T := F_Pe) (N := 10) hx hb hT in_Pe hown hK hP (by decide) rfl rfl 4 (by decide) (hT _ fl_Pe_43) rfl d_Pe_ruleFor_4 ?_
      have b1 := iv0 (M := Mc2) (a := 2) (b := 4) hI (by unfold p0; omega)
      have b2 := iv20 (M := Mc2) (a := 2) (b := 4) hI (by unfold p20; omega)
      refine lv_icmp_ge hx hb d_Pe_ruleFor_7 rfl (fun h3 => ?_) (fun h3 => ?_)
      · have g3 : (Mc2 2 4).toInt ≤ i_2.toInt := Int32.le_iff_toInt_le.mp h3
        have u3 := ti_hi i_2
        have w3 := ti_lo (Mc2 2 4)
        refine lv_iconst (v := (-1)) hx hb d_Pe_ruleFor_41 (by decide) ?_
        exact W.iret (v := -1) hx hb hr (fun t ht hW => ⟨⟨-1, Mc2, rfl, ⟨hI, hF, (by (try rw [show (-1 : Int32).toInt = -1 from rfl]); first | omega | assumption)⟩, by unfold ux_E; rw [ht]; exact hP⟩, hS.F ht⟩) hS.2.2 d_Pe_ruleFor_42
      · have g3 : ¬ ((Mc2 2 4).toInt ≤ i_2.toInt) := fun q => h3 (Int32.le_iff_toInt_le.mpr q)
        have u3 := ti_hi (Mc2 2 4)
        have w3 := ti_lo i_2
        refine lv_aload_n hx hb d_Pe_ruleFor_10 rfl (lv_at hl 0 rfl) ?_
        refine ux_get (C := R_Pe) (T := F_Pe) (N := 10) hx hb hT in_Pe hown hK hP (by decide) rfl rfl 0 (by decide) (hT _ fl_Pe_9) rfl d_Pe_ruleFor_11 ?_
        refine lv_iload_n hx hb d_Pe_ruleFor_14 rfl (lv_at hl 2 rfl) ?_
        refine ux_iald hx hb hK hP (by decide) rfl ((vi (show 0 ≤ i_2.toInt by omega) (show i_2.toInt < ((20 : Nat) : Int) by omega))) d_Pe_ruleFor_15 ?_
        refine lv_aload_n hx hb d_Pe_ruleFor_16 rfl (lv_at hl 0 rfl) ?_
        refine ux_get (C := R_Pe) (T := F_Pe) (N := 10) hx hb hT in_Pe hown hK hP (by decide) rfl rfl 5 (by decide) (hT _ fl_Pe_47) rfl d_Pe_ruleFor_17 ?_
        refine lv_icmp_ne hx hb d_Pe_ruleFor_20 rfl (fun h4 => ?_) (fun h4 => ?_)
        · have g4 : ¬ ((Mc2 3 i_2.toNatClampNeg).toInt = (Mc2 2 5).toInt) := fun q => h4 (Int32.toInt_inj.mp q)
          obtain ⟨x5, ex5⟩ : ∃ z : Int32, z = i_2 + 1 := ⟨_, rfl⟩
          refine lv_iinc (k := 2) (v := x5) hx hb d_Pe_ruleFor_35 hl rfl ex5.symm (by decide) rfl (fun ls hl => ?_)
          have hl : lv_has ls 3 [(2, .int x5), (0, .ref (ad 2)), (1, .int on)] := hl
          try have fx5 : x5.toInt = i_2.toInt + 1 := by rw [ex5]; exact ti_add (by (try rw [show (1 : Int32).toInt = 1 from rfl]); omega) (by (try rw [show (1 : Int32).toInt = 1 from rfl]); omega)
          refine lv_goto hx hb d_Pe_ruleFor_38 rfl ?_
          exact ih2 (((20 : Int) - x5.toInt).toNat) (by omega) x5 Mc2 _ _ ls rfl (show 0 ≤ x5.toInt from by first | omega | assumption | exact Or.inl rfl | exact Or.inr rfl | rfl | decide) hP hI hF hS (lv_sub hl [1, 2, 0] rfl)
        · have g4 : (Mc2 3 i_2.toNatClampNeg).toInt = (Mc2 2 5).toInt := congrArg Int32.toInt h4
          refine lv_aload_n hx hb d_Pe_ruleFor_23 rfl (lv_at hl 0 rfl) ?_
          refine ux_get (C := R_Pe) (T := F_Pe) (N := 10) hx hb hT in_Pe hown hK hP (by decide) rfl rfl 1 (by decide) (hT _ fl_Pe_15) rfl d_Pe_ruleFor_24 ?_
          refine lv_iload_n hx hb d_Pe_ruleFor_27 rfl (lv_at hl 2 rfl) ?_
          refine ux_iald hx hb hK hP (by decide) rfl ((vi (show 0 ≤ i_2.toInt by omega) (show i_2.toInt < ((20 : Nat) : Int) by omega))) d_Pe_ruleFor_28 ?_
          refine lv_iload_n hx hb d_Pe_ruleFor_29 rfl (lv_at hl 1 rfl) ?_
          refine lv_icmp_ne hx hb d_Pe_ruleFor_30 rfl (fun h6 => ?_) (fun h6 => ?_)
          · have g6 : ¬ ((Mc2 4 i_2.toNatClampNeg).toInt = on.toInt) := fun q => h6 (Int32.toInt_inj.mp q)
            obtain ⟨x7, ex7⟩ : ∃ z : Int32, z = i_2 + 1 := ⟨_, rfl⟩
            refine lv_iinc (k := 2) (v := x7) hx hb d_Pe_ruleFor_35 hl rfl ex7.symm (by decide) rfl (fun ls hl => ?_)
            have hl : lv_has ls 3 [(2, .int x7), (0, .ref (ad 2)), (1, .int on)] := hl
            try have fx7 : x7.toInt = i_2.toInt + 1 := by rw [ex7]; exact ti_add (by (try rw [show (1 : Int32).toInt = 1 from rfl]); omega) (by (try rw [show (1 : Int32).toInt = 1 from rfl]); omega)
            refine lv_goto hx hb d_Pe_ruleFor_38 rfl ?_
            exact ih2 (((20 : Int) - x7.toInt).toNat) (by omega) x7 Mc2 _ _ ls rfl (show 0 ≤ x7.toInt from by first | omega | assumption | exact Or.inl rfl | exact Or.inr rfl | rfl | decide) hP hI hF hS (lv_sub hl [1, 2, 0] rfl)
          · have g6 : (Mc2 4 i_2.toNatClampNeg).toInt = on.toInt := congrArg Int32.toInt h6
            refine lv_iload_n hx hb d_Pe_ruleFor_33 rfl (lv_at hl 2 rfl) ?_
            exact W.iret (v := i_2) hx hb hr (fun t ht hW => ⟨⟨i_2, Mc2, rfl, ⟨hI, hF, (by first | omega | assumption)⟩, by unfold ux_E; rw [ht]; exact hP⟩, hS.F ht⟩) hS.2.2 d_Pe_ruleFor_34
  refine lv_iconst (v := 0) hx hb d_Pe_ruleFor_0 (by decide) ?_
  refine lv_istore_n hx hb d_Pe_ruleFor_1 rfl hl (by decide) rfl (fun ls hl => ?_)
  have hl : lv_has ls 3 [(2, .int 0), (0, .ref (ad 2)), (1, .int on)] := hl
  exact cut2 (((20 : Int) - 0).toNat) 0 M _ _ ls rfl (show 0 ≤ 0 from by first | omega | assumption | exact Or.inl rfl | exact Or.inr rfl | rfl | decide) hP hI hF hS (lv_sub hl [1, 2, 0] rfl)

set_option maxHeartbeats 8000000 in
set_option maxRecDepth 100000 in
theorem s_Pe_takeInput (l : Launch) (D : va_G) (ad : Nat → Nat) (cA : Nat → ClassId) (M : ux_M) (hI : IvX M)  : Met l y_Pe_takeInput w_Pe_takeInput ({ frames := 1, cells := 0, slots := 0, locals := 18 }) (va_Pc [.ref (ad 2)] (ux_B D shX KX ad cA M)) (va_Qi (fun r M1 => IvX M1 ∧ (∀ a b, ¬ tPe a b → M1 a b = M a b) ∧ (True)) (ux_E D shX KX ad cA) (ux_A KX ad)) 0 0 (ux_A KX ad) := by
  refine Met.ofW (cc := b_Pe_takeInput) (maxL := 2) (ret := (some .int)) (by decide) rfl ?_
  intro p e s m args below meth c s₁ B hml hv
  obtain ⟨rfl, hP, hK, hi, hN⟩ := hv
  have hx := B.exec
  have hb := B.bytes
  have hr := B.returns
  have hts := atoms_spec (ws := w_Pe_takeInput) B.pre
  have hown : s.vm.findClass R_Pe = some m.cls := findClass_of_methodNamed B.named
  have hlocks := B.notSynchronized
  have hT : ∀ w ∈ tb, w.before _ s = true := fun w h => hts w (List.mem_cons_of_mem _ h)
  have hS : va_S (ux_A KX ad) s.heap s.heap [] := va_S.rf
  have hl := lv_entry ([.ref (ad 2)]) (n := 2) (Nat.le_of_ble_eq_true rfl)
  rw [lg_entry_eq]
  generalize (lg_sl ([.ref (ad 2)]) ++ List.replicate (2 - (lg_sl ([.ref (ad 2)])).length) Slot.unset).toArray = ls at hl ⊢
  have hl : lv_has ls 2 [(0, .ref (ad 2))] := hl
  have hF : ∀ a b, ¬ tPe a b → M a b = M a b := fun _ _ _ => rfl
  refine lv_aload_n hx hb d_Pe_takeInput_0 rfl (lv_at hl 0 rfl) ?_
  refine ux_get (C := R_Pe) (T := F_Pe) (N := 10) hx hb hT in_Pe hown hK hP (by decide) rfl rfl 7 (by decide) (hT _ fl_Pe_50) rfl d_Pe_takeInput_1 ?_
  have b1 := iv0 (M := M) (a := 2) (b := 7) hI (by unfold p0; omega)
  have b2 := iv40 (M := M) (a := 2) (b := 7) hI (by unfold p40; omega)
  refine lv_if_ne hx hb d_Pe_takeInput_4 rfl (fun h3 => ?_) (fun h3 => ?_)
  · have g3 : ¬ ((M 2 7).toInt = 0) := fun q => h3 (Int32.toInt_inj.mp q)
    refine lv_aload_n hx hb d_Pe_takeInput_9 rfl (lv_at hl 0 rfl) ?_
    refine ux_get (C := R_Pe) (T := F_Pe) (N := 10) hx hb hT in_Pe hown hK hP (by decide) rfl rfl 6 (by decide) (hT _ fl_Pe_24) rfl d_Pe_takeInput_10 ?_
    refine lv_iconst (v := 0) hx hb d_Pe_takeInput_13 (by decide) ?_
    refine ux_iald hx hb hK hP (by decide) rfl (vi (by decide) (by decide)) d_Pe_takeInput_14 ?_
    refine lv_istore_n hx hb d_Pe_takeInput_15 rfl hl (by decide) rfl (fun ls hl => ?_)
    have hl : lv_has ls 2 [(1, .int (M 7 ((0 : Int32).toNatClampNeg))), (0, .ref (ad 2))] := hl
    refine lv_aload_n hx hb d_Pe_takeInput_16 rfl (lv_at hl 1 rfl) ?_
    refine lv_dup hx hb d_Pe_takeInput_17 rfl ?_
    refine ux_get (C := R_Pe) (T := F_Pe) (N := 10) hx hb hT in_Pe hown hK hP (by decide) rfl rfl 7 (by decide) (hT _ fl_Pe_50) rfl d_Pe_takeInput_18 ?_
    have b4 := iv0 (M := M) (a := 2) (b := 7) hI (by unfold p0; omega)
    have b5 := iv40 (M := M) (a := 2) (b := 7) hI (by unfold p40; omega)
    refine lv_iconst (v := 1) hx hb d_Pe_takeInput_21 (by decide) ?_
    refine lv_isub hx hb d_Pe_takeInput_22 ?_
    refine lv_topi (fun x6 ex6 => ?_)
    try have fx6 : x6.toInt = (M 2 7).toInt - 1 := by rw [ex6]; exact ti_sub (by (try rw [show (1 : Int32).toInt = 1 from rfl]); omega) (by (try rw [show (1 : Int32).toInt = 1 from rfl]); omega)
    refine ux_put (C := R_Pe) (T := F_Pe) (N := 10) hx hb hT in_Pe t_Pe t_Pe_ok n_Pe hown hK hi hP hS (by decide) rfl rfl 7 (by decide) (hT _ fl_Pe_50) rfl (rfl) (rfl) rfl d_Pe_takeInput_23 (fun H locs hP hS => ?_)
    have hI := IvX_wr (k := 2) (j := 7) (v := x6) hI (fun q => by unfold p0 at q; omega) (fun q => by unfold p8 at q; omega) (fun q => by unfold p20 at q; omega) (fun q => by unfold p40 at q; omega) (fun q => by unfold p200 at q; omega) (fun q => by unfold pch at q; omega)
    have hF := fr_wr (k := 2) (j := 7) (v := x6) hF (by unfold tPe; omega)
    generalize eM7 : ux_wr M 2 7 x6 = M7 at hP hI hF
    refine lv_aload_n hx hb d_Pe_takeInput_26 rfl (lv_at hl 1 rfl) ?_
    refine ux_get (C := R_Pe) (T := F_Pe) (N := 10) hx hb hT in_Pe hown hK hP (by decide) rfl rfl 6 (by decide) (hT _ fl_Pe_24) rfl d_Pe_takeInput_27 ?_
    refine lv_iconst (v := 1) hx hb d_Pe_takeInput_30 (by decide) ?_
    refine lv_aload_n hx hb d_Pe_takeInput_31 rfl (lv_at hl 1 rfl) ?_
    refine ux_get (C := R_Pe) (T := F_Pe) (N := 10) hx hb hT in_Pe hown hK hP (by decide) rfl rfl 6 (by decide) (hT _ fl_Pe_24) rfl d_Pe_takeInput_32 ?_
    refine lv_iconst (v := 0) hx hb d_Pe_takeInput_35 (by decide) ?_
    refine lv_aload_n hx hb d_Pe_takeInput_36 rfl (lv_at hl 1 rfl) ?_
    refine ux_get (C := R_Pe) (T := F_Pe) (N := 10) hx hb hT in_Pe hown hK hP (by decide) rfl rfl 7 (by decide) (hT _ fl_Pe_50) rfl d_Pe_takeInput_37 ?_
    refine lv_topi (fun z8 hz8 => ?_)
    rw [show M7 2 7 = x6 from wr_at eM7] at hz8
    rw [hz8]
    refine ux_copy (ty := .int) hx hb (by rw [hml]; exact hl.1.symm) hown (hT _ ml_Pe_78) (hT _ tw_415) (hT _ tw_414) (hT _ ii_Sy) hK hi hP hS (by decide) (by decide) rfl rfl rfl rfl (show 0 ≤ (1 : Int32).toInt by decide) (show 0 ≤ (0 : Int32).toInt by decide) (show 0 ≤ x6.toInt by omega) (by (try rw [show (1 : Int32).toInt = 1 from rfl]); omega) (by (try rw [show (0 : Int32).toInt = 0 from rfl]); omega) (fun j => rfl) (Nat.le_of_ble_eq_true rfl) (Nat.le_of_ble_eq_true rfl) d_Pe_takeInput_40 (fun H locs hP hS => ?_)
    have hI := IvX_cp (k0 := 7) (k1 := 7) (sp := (1 : Int32).toNatClampNeg) (dp := (0 : Int32).toNatClampNeg) (n := x6.toNatClampNeg) hI (fun b => by unfold ppn; omega) (fun q => by unfold pch at q; omega)
    have hF := fr_cp (k0 := 7) (k1 := 7) (sp := (1 : Int32).toNatClampNeg) (dp := (0 : Int32).toNatClampNeg) (n := x6.toNatClampNeg) hF (fun b => by unfold tPe; omega)
    generalize eM9 : ux_cp M7 7 7 (1 : Int32).toNatClampNeg (0 : Int32).toNatClampNeg x6.toNatClampNeg = M9 at hP hI hF
    refine lv_iload_n hx hb d_Pe_takeInput_43 rfl (lv_at hl 0 rfl) ?_
    exact W.iret (v := M 7 ((0 : Int32).toNatClampNeg)) hx hb hr (fun t ht hW => ⟨⟨M 7 ((0 : Int32).toNatClampNeg), M9, rfl, ⟨hI, hF, trivial⟩, by unfold ux_E; rw [ht]; exact hP⟩, hS.F ht⟩) hS.2.2 d_Pe_takeInput_44
  · have g3 : (M 2 7).toInt = 0 := congrArg Int32.toInt h3
    refine lv_iconst (v := 0) hx hb d_Pe_takeInput_7 (by decide) ?_
    exact W.iret (v := 0) hx hb hr (fun t ht hW => ⟨⟨0, M, rfl, ⟨hI, hF, trivial⟩, by unfold ux_E; rw [ht]; exact hP⟩, hS.F ht⟩) hS.2.2 d_Pe_takeInput_8

set_option maxHeartbeats 8000000 in
set_option maxRecDepth 100000 in
theorem s_Pe_send (l : Launch) (D : va_G) (ad : Nat → Nat) (cA : Nat → ClassId) (M : ux_M) (hI : IvX M) (d : Nat) (hd : d < 8) (i : Int32) : Met l y_Pe_send w_Pe_send ({ frames := 3, cells := 0, slots := 0, locals := 63 }) (va_Pc [.ref (ad 2), .ref (ad (54 + 7 * d)), .int i] (ux_B D shX KX ad cA M)) (va_Qi (fun r M1 => IvX M1 ∧ (∀ a b, ¬ tPe a b → M1 a b = M a b) ∧ (r = 0 ∨ r = 1)) (ux_E D shX KX ad cA) (ux_A KX ad)) 0 0 (ux_A KX ad) := by
  refine Met.ofW (cc := b_Pe_send) (maxL := 6) (ret := (some .boolean)) (by decide) rfl ?_
  intro p e s m args below meth c s₁ B hml hv
  obtain ⟨rfl, hP, hK, hi, hN⟩ := hv
  have hx := B.exec
  have hb := B.bytes
  have hr := B.returns
  have hts := atoms_spec (ws := w_Pe_send) B.pre
  have hown : s.vm.findClass R_Pe = some m.cls := findClass_of_methodNamed B.named
  have hlocks := B.notSynchronized
  have hT : ∀ w ∈ tb, w.before _ s = true := fun w h => hts w (List.mem_cons_of_mem _ h)
  have hS : va_S (ux_A KX ad) s.heap s.heap [] := va_S.rf
  have hl := lv_entry ([.ref (ad 2), .ref (ad (54 + 7 * d)), .int i]) (n := 6) (Nat.le_of_ble_eq_true rfl)
  rw [lg_entry_eq]
  generalize (lg_sl ([.ref (ad 2), .ref (ad (54 + 7 * d)), .int i]) ++ List.replicate (6 - (lg_sl ([.ref (ad 2), .ref (ad (54 + 7 * d)), .int i])).length) Slot.unset).toArray = ls at hl ⊢
  have hl : lv_has ls 6 [(0, .ref (ad 2)), (1, .ref (ad (54 + 7 * d))), (2, .int i)] := hl
  have hF : ∀ a b, ¬ tPe a b → M a b = M a b := fun _ _ _ => rfl
  have cut22 : ∀ (nn : Nat) (i_3 i_4 : Int32) (Mc22 : ux_M) (H : Heap) (locs : List Loc) (ls : Array Slot), (i_3.toInt - i_4.toInt).toNat = nn → (0 ≤ i_4.toInt) → va_P D classes (ux_w shX KX ad cA Mc22) H → IvX Mc22 → (∀ a b, ¬ tPe a b → Mc22 a b = M a b) → va_S (ux_A KX ad) s.heap H locs → lv_has ls 6 [(0, .ref (ad 2)), (1, .ref (ad (54 + 7 * d))), (2, .int i), (3, .int i_3), (4, .int i_4)] → W p l e (headSpec w_Pe_send ({ frames := 3, cells := 0, slots := 0, locals := 63 })).room s m (([.ref (ad 2), .ref (ad (54 + 7 * d)), .int i] : List Value).toArray) below meth c H locs 0 0 (MQ below (va_Qi (fun r M1 => IvX M1 ∧ (∀ a b, ¬ tPe a b → M1 a b = M a b) ∧ (r = 0 ∨ r = 1)) (ux_E D shX KX ad cA) (ux_A KX ad)) (([.ref (ad 2), .ref (ad (54 + 7 * d)), .int i] : List Value).toArray) s 0 0 (ux_A KX ad)) (F0 m 22 ls []) := by
    intro nn
    induction nn using Nat.strongRecOn with
    | ind nn ih22 =>
      intro i_3 i_4 Mc22 H locs ls hn c22_0 hP hI hF hS hl
      refine lv_iload hx hb d_Pe_send_22 (lv_at hl 4 rfl) ?_
      refine lv_iload_n hx hb d_Pe_send_24 rfl (lv_at hl 3 rfl) ?_
      refine lv_icmp_ge hx hb d_Pe_send_25 rfl (fun h1 => ?_) (fun h1 => ?_)
      · have g1 : i_3.toInt ≤ i_4.toInt := Int32.le_iff_toInt_le.mp h1
        have u1 := ti_hi i_4
        have w1 := ti_lo i_3
        refine lv_iconst (v := 1) hx hb d_Pe_send_82 (by decide) ?_
        exact W.zret (v := 1) hx hb hr (rfl) (fun t ht hW => ⟨⟨1, Mc22, rfl, ⟨hI, hF, Or.inr rfl⟩, by unfold ux_E; rw [ht]; exact hP⟩, hS.F ht⟩) hS.2.2 d_Pe_send_83
      · have g1 : ¬ (i_3.toInt ≤ i_4.toInt) := fun q => h1 (Int32.le_iff_toInt_le.mpr q)
        have u1 := ti_hi i_3
        have w1 := ti_lo i_4
        refine lv_aload_n hx hb d_Pe_send_28 rfl (lv_at hl 0 rfl) ?_
        refine ux_get (C := R_Pe) (T := F_Pe) (N := 10) hx hb hT in_Pe hown hK hP (by decide) rfl rfl 7 (by decide) (hT _ fl_Pe_50) rfl d_Pe_send_29 ?_
        have b2 := iv0 (M := Mc22) (a := 2) (b := 7) hI (by unfold p0; omega)
        have b3 := iv40 (M := Mc22) (a := 2) (b := 7) hI (by unfold p40; omega)
        refine lv_bipush (v := 40) hx hb d_Pe_send_32 (by decide) ?_
        refine lv_icmp_ge hx hb d_Pe_send_34 rfl (fun h4 => ?_) (fun h4 => ?_)
        · have g4 : 40 ≤ (Mc22 2 7).toInt := Int32.le_iff_toInt_le.mp h4
          have u4 := ti_hi (Mc22 2 7)
          refine lv_iconst (v := 1) hx hb d_Pe_send_82 (by decide) ?_
          exact W.zret (v := 1) hx hb hr (rfl) (fun t ht hW => ⟨⟨1, Mc22, rfl, ⟨hI, hF, Or.inr rfl⟩, by unfold ux_E; rw [ht]; exact hP⟩, hS.F ht⟩) hS.2.2 d_Pe_send_83
        · have g4 : ¬ (40 ≤ (Mc22 2 7).toInt) := fun q => h4 (Int32.le_iff_toInt_le.mpr q)
          have w4 := ti_lo (Mc22 2 7)
          refine lv_aload_n hx hb d_Pe_send_37 rfl (lv_at hl 1 rfl) ?_
          refine lv_iload_n hx hb d_Pe_send_38 rfl (lv_at hl 2 rfl) ?_
          refine lv_iload hx hb d_Pe_send_39 (lv_at hl 4 rfl) ?_
          refine ux_calli (va_runV ⟨hx, hb, hml, hown, hts⟩ (c_Vl_letterOf l D shX KX ad cA Mc22 (54 + 7 * d) (55 + 7 * d) (56 + 7 * d) 8 (V_lv hd) i i_4) (cwV 2 hts (tb_goodV ml_Pe_60 im_Vl_letterOf se_Vl_letterOf ii_Vl kt_Vl_letterOf) rfl rfl rfl (by decide +kernel) ⟨Nat.le_of_ble_eq_true rfl, Nat.le_of_ble_eq_true rfl⟩) (ux_preV (lk 54 (by decide) hd) (L54 hd) rfl hP hK hi hN) rfl rfl hl.1 rfl (lv_room (Nat.le_of_ble_eq_true rfl)) d_Pe_send_41 ⟨Nat.zero_le _, Nat.zero_le _⟩) hS (fun r5 M6 H locs q7 hP hS => ?_)
          obtain ⟨q7m, q7e⟩ := q7
          rw [q7m] at hP
          subst q7e
          refine lv_istore hx hb d_Pe_send_44 hl (by decide) rfl (fun ls hl => ?_)
          have hl : lv_has ls 6 [(5, .int (vt Mc22 (55 + 7 * d) (56 + 7 * d) 8 i i_4)), (0, .ref (ad 2)), (1, .ref (ad (54 + 7 * d))), (2, .int i), (3, .int i_3), (4, .int i_4)] := hl
          refine lv_aload_n hx hb d_Pe_send_46 rfl (lv_at hl 1 rfl) ?_
          refine ux_get (C := R_Pe) (T := F_Pe) (N := 10) hx hb hT in_Pe hown hK hP (by decide) rfl rfl 6 (by decide) (hT _ fl_Pe_24) rfl d_Pe_send_47 ?_
          refine lv_aload_n hx hb d_Pe_send_50 rfl (lv_at hl 1 rfl) ?_
          refine ux_get (C := R_Pe) (T := F_Pe) (N := 10) hx hb hT in_Pe hown hK hP (by decide) rfl rfl 7 (by decide) (hT _ fl_Pe_50) rfl d_Pe_send_51 ?_
          have b8 := iv0 (M := Mc22) (a := 2) (b := 7) hI (by unfold p0; omega)
          have b9 := iv40 (M := Mc22) (a := 2) (b := 7) hI (by unfold p40; omega)
          refine lv_iload hx hb d_Pe_send_54 (lv_at hl 0 rfl) ?_
          refine ux_iast hx hb hK hi hP hS (by decide) rfl ((vi (show 0 ≤ (Mc22 2 7).toInt by omega) (show (Mc22 2 7).toInt < ((40 : Nat) : Int) by omega))) d_Pe_send_56 (fun H locs hP hS => ?_)
          have hI := IvX_free (k := 7) (j := (Mc22 2 7).toNatClampNeg) (v := vt Mc22 (55 + 7 * d) (56 + 7 * d) 8 i i_4) hI (by unfold ppn; omega) (by unfold pch; omega)
          have hF := fr_wr (k := 7) (j := (Mc22 2 7).toNatClampNeg) (v := vt Mc22 (55 + 7 * d) (56 + 7 * d) 8 i i_4) hF (by unfold tPe; omega)
          generalize eM10 : ux_wr Mc22 7 ((Mc22 2 7).toNatClampNeg) (vt Mc22 (55 + 7 * d) (56 + 7 * d) 8 i i_4) = M10 at hP hI hF
          refine lv_aload_n hx hb d_Pe_send_57 rfl (lv_at hl 1 rfl) ?_
          refine lv_dup hx hb d_Pe_send_58 rfl ?_
          refine ux_get (C := R_Pe) (T := F_Pe) (N := 10) hx hb hT in_Pe hown hK hP (by decide) rfl rfl 7 (by decide) (hT _ fl_Pe_50) rfl d_Pe_send_59 ?_
          refine lv_topi (fun z11 hz11 => ?_)
          rw [show M10 2 7 = Mc22 2 7 from wr_off eM10 (by omega)] at hz11
          rw [hz11]
          refine lv_iconst (v := 1) hx hb d_Pe_send_62 (by decide) ?_
          refine lv_iadd hx hb d_Pe_send_63 ?_
          refine lv_topi (fun x12 ex12 => ?_)
          try have fx12 : x12.toInt = (Mc22 2 7).toInt + 1 := by rw [ex12]; exact ti_add (by (try rw [show (1 : Int32).toInt = 1 from rfl]); omega) (by (try rw [show (1 : Int32).toInt = 1 from rfl]); omega)
          refine ux_put (C := R_Pe) (T := F_Pe) (N := 10) hx hb hT in_Pe t_Pe t_Pe_ok n_Pe hown hK hi hP hS (by decide) rfl rfl 7 (by decide) (hT _ fl_Pe_50) rfl (rfl) (rfl) rfl d_Pe_send_64 (fun H locs hP hS => ?_)
          have hI := IvX_wr (k := 2) (j := 7) (v := x12) hI (fun q => by unfold p0 at q; omega) (fun q => by unfold p8 at q; omega) (fun q => by unfold p20 at q; omega) (fun q => by unfold p40 at q; omega) (fun q => by unfold p200 at q; omega) (fun q => by unfold pch at q; omega)
          have hF := fr_wr (k := 2) (j := 7) (v := x12) hF (by unfold tPe; omega)
          generalize eM13 : ux_wr M10 2 7 x12 = M13 at hP hI hF
          refine lv_aload_n hx hb d_Pe_send_67 rfl (lv_at hl 1 rfl) ?_
          refine ux_get (C := R_Pe) (T := F_Pe) (N := 10) hx hb hT in_Pe hown hK hP (by decide) rfl rfl 9 (by decide) (hT _ fl_Pe_39) rfl d_Pe_send_68 ?_
          refine lv_iload hx hb d_Pe_send_71 (lv_at hl 0 rfl) ?_
          refine ux_callv (va_runV ⟨hx, hb, hml, hown, hts⟩ (s_Lg_note l D ad cA M13 hI (vt Mc22 (55 + 7 * d) (56 + 7 * d) 8 i i_4)) (cwV 1 hts (tb_goodV ml_Pe_64 im_Lg_note se_Lg_note ii_Lg kt_Lg_note) rfl rfl rfl (by decide +kernel) ⟨Nat.le_of_ble_eq_true rfl, Nat.le_of_ble_eq_true rfl⟩) (ux_preV (by decide) rfl rfl hP hK hi hN) rfl rfl hl.1 rfl (lv_room (Nat.le_of_ble_eq_true rfl)) d_Pe_send_73 ⟨Nat.zero_le _, Nat.zero_le _⟩) hS (fun M15 H locs q16 hP hS => ?_)
          obtain ⟨hI, fq16, q16p⟩ := q16
          have hF := fr_call hF fq16 (fun a b q => by unfold tLg at q; unfold tPe; omega)
          obtain ⟨x17, ex17⟩ : ∃ z : Int32, z = i_4 + 1 := ⟨_, rfl⟩
          refine lv_iinc (k := 5) (v := x17) hx hb d_Pe_send_76 hl rfl ex17.symm (by decide) rfl (fun ls hl => ?_)
          have hl : lv_has ls 6 [(4, .int x17), (5, .int (vt Mc22 (55 + 7 * d) (56 + 7 * d) 8 i i_4)), (0, .ref (ad 2)), (1, .ref (ad (54 + 7 * d))), (2, .int i), (3, .int i_3)] := hl
          try have fx17 : x17.toInt = i_4.toInt + 1 := by rw [ex17]; exact ti_add (by (try rw [show (1 : Int32).toInt = 1 from rfl]); omega) (by (try rw [show (1 : Int32).toInt = 1 from rfl]); omega)
          refine lv_goto hx hb d_Pe_send_79 rfl ?_
          exact ih22 ((i_3.toInt - x17.toInt).toNat) (by omega) i_3 x17 M15 _ _ ls rfl (show 0 ≤ x17.toInt from by first | omega | assumption | exact Or.inl rfl | exact Or.inr rfl | rfl | decide) hP hI hF hS (lv_sub hl [2, 3, 4, 5, 0] rfl)
  refine lv_aload_n hx hb d_Pe_send_0 rfl (lv_at hl 1 rfl) ?_
  refine lv_iload_n hx hb d_Pe_send_1 rfl (lv_at hl 2 rfl) ?_
  refine ux_calli (va_runV ⟨hx, hb, hml, hown, hts⟩ (c_Vl_sizeOf l D shX KX ad cA M (54 + 7 * d) (55 + 7 * d) (56 + 7 * d) 8 (V_lv hd) i) (cwV 1 hts (tb_goodV ml_Pe_56 im_Vl_sizeOf se_Vl_sizeOf ii_Vl kt_Vl_sizeOf) rfl rfl rfl (by decide +kernel) ⟨Nat.le_of_ble_eq_true rfl, Nat.le_of_ble_eq_true rfl⟩) (ux_preV (lk 54 (by decide) hd) (L54 hd) rfl hP hK hi hN) rfl rfl hl.1 rfl (lv_room (Nat.le_of_ble_eq_true rfl)) d_Pe_send_2 ⟨Nat.zero_le _, Nat.zero_le _⟩) hS (fun r18 M19 H locs q20 hP hS => ?_)
  obtain ⟨q20m, q20e⟩ := q20
  rw [q20m] at hP
  subst q20e
  refine lv_istore_n hx hb d_Pe_send_5 rfl hl (by decide) rfl (fun ls hl => ?_)
  have hl : lv_has ls 6 [(3, .int (vz M (56 + 7 * d) 8 i)), (0, .ref (ad 2)), (1, .ref (ad (54 + 7 * d))), (2, .int i)] := hl
  refine lv_aload_n hx hb d_Pe_send_6 rfl (lv_at hl 1 rfl) ?_
  refine ux_get (C := R_Pe) (T := F_Pe) (N := 10) hx hb hT in_Pe hown hK hP (by decide) rfl rfl 7 (by decide) (hT _ fl_Pe_50) rfl d_Pe_send_7 ?_
  have b21 := iv0 (M := M) (a := 2) (b := 7) hI (by unfold p0; omega)
  have b22 := iv40 (M := M) (a := 2) (b := 7) hI (by unfold p40; omega)
  refine lv_iload_n hx hb d_Pe_send_10 rfl (lv_at hl 0 rfl) ?_
  refine lv_iadd hx hb d_Pe_send_11 ?_
  refine lv_topi (fun x23 ex23 => ?_)
  try have fx23 : x23.toInt = (M 2 7).toInt + (vz M (56 + 7 * d) 8 i).toInt := by rw [ex23]; exact ti_add (by omega) (by omega)
  refine lv_bipush (v := 40) hx hb d_Pe_send_12 (by decide) ?_
  refine lv_icmp_le hx hb d_Pe_send_14 rfl (fun h24 => ?_) (fun h24 => ?_)
  · have g24 : x23.toInt ≤ 40 := Int32.le_iff_toInt_le.mp h24
    have w24 := ti_lo x23
    refine lv_iconst (v := 0) hx hb d_Pe_send_19 (by decide) ?_
    refine lv_istore hx hb d_Pe_send_20 hl (by decide) rfl (fun ls hl => ?_)
    have hl : lv_has ls 6 [(4, .int 0), (3, .int (vz M (56 + 7 * d) 8 i)), (0, .ref (ad 2)), (1, .ref (ad (54 + 7 * d))), (2, .int i)] := hl
    exact cut22 (((vz M (56 + 7 * d) 8 i).toInt - 0).toNat) (vz M (56 + 7 * d) 8 i) 0 M _ _ ls rfl (show 0 ≤ 0 from by first | omega | assumption | exact Or.inl rfl | exact Or.inr rfl | rfl | decide) hP hI hF hS (lv_sub hl [2, 3, 4, 1, 0] rfl)
  · have g24 : ¬ (x23.toInt ≤ 40) := fun q => h24 (Int32.le_iff_toInt_le.mpr q)
    have u24 := ti_hi x23
    refine lv_iconst (v := 0) hx hb d_Pe_send_17 (by decide) ?_
    exact W.zret (v := 0) hx hb hr (rfl) (fun t ht hW => ⟨⟨0, M, rfl, ⟨hI, hF, Or.inl rfl⟩, by unfold ux_E; rw [ht]; exact hP⟩, hS.F ht⟩) hS.2.2 d_Pe_send_18

set_option maxHeartbeats 8000000 in
set_option maxRecDepth 100000 in
theorem s_Pe_tick (l : Launch) (D : va_G) (ad : Nat → Nat) (cA : Nat → ClassId) (M : ux_M) (hI : IvX M)  : Met l y_Pe_tick w_Pe_tick ({ frames := 3, cells := 0, slots := 0, locals := 63 }) (va_Pc [.ref (ad 2)] (ux_B D shX KX ad cA M)) (va_Qv (fun M1 => IvX M1 ∧ (∀ a b, ¬ tPe a b → M1 a b = M a b) ∧ (True)) (ux_E D shX KX ad cA) (ux_A KX ad)) 0 0 (ux_A KX ad) := by
  refine Met.ofW (cc := b_Pe_tick) (maxL := 2) (ret := none) (by decide) rfl ?_
  intro p e s m args below meth c s₁ B hml hv
  obtain ⟨rfl, hP, hK, hi, hN⟩ := hv
  have hx := B.exec
  have hb := B.bytes
  have hr := B.returns
  have hts := atoms_spec (ws := w_Pe_tick) B.pre
  have hown : s.vm.findClass R_Pe = some m.cls := findClass_of_methodNamed B.named
  have hlocks := B.notSynchronized
  have hT : ∀ w ∈ tb, w.before _ s = true := fun w h => hts w (List.mem_cons_of_mem _ h)
  have hS : va_S (ux_A KX ad) s.heap s.heap [] := va_S.rf
  have hl := lv_entry ([.ref (ad 2)]) (n := 2) (Nat.le_of_ble_eq_true rfl)
  rw [lg_entry_eq]
  generalize (lg_sl ([.ref (ad 2)]) ++ List.replicate (2 - (lg_sl ([.ref (ad 2)])).length) Slot.unset).toArray = ls at hl ⊢
  have hl : lv_has ls 2 [(0, .ref (ad 2))] := hl
  have hF : ∀ a b, ¬ tPe a b → M a b = M a b := fun _ _ _ => rfl
  refine lv_aload_n hx hb d_Pe_tick_0 rfl (lv_at hl 0 rfl) ?_
  refine lv_aload_n hx hb d_Pe_tick_1 rfl (lv_at hl 0 rfl) ?_
  refine ux_calli (va_runV ⟨hx, hb, hml, hown, hts⟩ (s_Pe_takeInput l D ad cA M hI ) (cwV 0 hts (tb_goodV ml_Pe_67 im_Pe_takeInput se_Pe_takeInput ii_Pe kt_Pe_takeInput) rfl rfl rfl (by decide +kernel) ⟨Nat.le_of_ble_eq_true rfl, Nat.le_of_ble_eq_true rfl⟩) (ux_preV (by decide) rfl rfl hP hK hi hN) rfl rfl hl.1 rfl (lv_room (Nat.le_of_ble_eq_true rfl)) d_Pe_tick_2 ⟨Nat.zero_le _, Nat.zero_le _⟩) hS (fun r1 M2 H locs q3 hP hS => ?_)
  obtain ⟨hI, fq3, q3p⟩ := q3
  have hF := fr_call hF fq3 (fun a b q => by unfold tPe at q; unfold tPe; omega)
  refine ux_calli (va_runV ⟨hx, hb, hml, hown, hts⟩ (s_Pe_ruleFor l D ad cA M2 hI r1) (cwV 1 hts (tb_goodV ml_Pe_71 im_Pe_ruleFor se_Pe_ruleFor ii_Pe kt_Pe_ruleFor) rfl rfl rfl (by decide +kernel) ⟨Nat.le_of_ble_eq_true rfl, Nat.le_of_ble_eq_true rfl⟩) (ux_preV (by decide) rfl rfl hP hK hi hN) rfl rfl hl.1 rfl (lv_room (Nat.le_of_ble_eq_true rfl)) d_Pe_tick_5 ⟨Nat.zero_le _, Nat.zero_le _⟩) hS (fun r4 M5 H locs q6 hP hS => ?_)
  obtain ⟨hI, fq6, q6p⟩ := q6
  rw [tN_eq fq6] at hP hI
  refine lv_istore_n hx hb d_Pe_tick_8 rfl hl (by decide) rfl (fun ls hl => ?_)
  have hl : lv_has ls 2 [(1, .int r4), (0, .ref (ad 2))] := hl
  refine lv_iload_n hx hb d_Pe_tick_9 rfl (lv_at hl 0 rfl) ?_
  refine lv_iconst (v := (-1)) hx hb d_Pe_tick_10 (by decide) ?_
  refine lv_icmp_ne hx hb d_Pe_tick_11 rfl (fun h7 => ?_) (fun h7 => ?_)
  · have g7 : ¬ (r4.toInt = (-1)) := fun q => h7 (Int32.toInt_inj.mp q)
    refine lv_aload_n hx hb d_Pe_tick_15 rfl (lv_at hl 1 rfl) ?_
    refine ux_get (C := R_Pe) (T := F_Pe) (N := 10) hx hb hT in_Pe hown hK hP (by decide) rfl rfl 2 (by decide) (hT _ fl_Pe_18) rfl d_Pe_tick_16 ?_
    refine lv_iload_n hx hb d_Pe_tick_19 rfl (lv_at hl 0 rfl) ?_
    refine ux_iald hx hb hK hP (by decide) rfl ((vi (show 0 ≤ r4.toInt by omega) (show r4.toInt < ((20 : Nat) : Int) by omega))) d_Pe_tick_20 ?_
    refine lv_if_eq hx hb d_Pe_tick_21 rfl (fun h8 => ?_) (fun h8 => ?_)
    · have g8 : (M2 5 r4.toNatClampNeg).toInt = 0 := congrArg Int32.toInt h8
      refine lv_aload_n hx hb d_Pe_tick_56 rfl (lv_at hl 1 rfl) ?_
      refine lv_aload_n hx hb d_Pe_tick_57 rfl (lv_at hl 1 rfl) ?_
      refine ux_get (C := R_Pe) (T := F_Pe) (N := 10) hx hb hT in_Pe hown hK hP (by decide) rfl rfl 3 (by decide) (hT _ fl_Pe_21) rfl d_Pe_tick_58 ?_
      refine lv_iload_n hx hb d_Pe_tick_61 rfl (lv_at hl 0 rfl) ?_
      refine ux_iald hx hb hK hP (by decide) rfl ((vi (show 0 ≤ r4.toInt by omega) (show r4.toInt < ((20 : Nat) : Int) by omega))) d_Pe_tick_62 ?_
      refine ux_put (C := R_Pe) (T := F_Pe) (N := 10) hx hb hT in_Pe t_Pe t_Pe_ok n_Pe hown hK hi hP hS (by decide) rfl rfl 5 (by decide) (hT _ fl_Pe_47) rfl (rfl) (rfl) rfl d_Pe_tick_63 (fun H locs hP hS => ?_)
      have hI := IvX_free (k := 2) (j := 5) (v := M2 6 r4.toNatClampNeg) hI (by unfold ppn; omega) (by unfold pch; omega)
      have hF := fr_wr (k := 2) (j := 5) (v := M2 6 r4.toNatClampNeg) hF (by unfold tPe; omega)
      generalize eM9 : ux_wr M2 2 5 (M2 6 r4.toNatClampNeg) = M9 at hP hI hF
      exact W.vret hx hb hr (fun t ht hW => ⟨⟨M9, rfl, ⟨hI, hF, trivial⟩, by unfold ux_E; rw [ht]; exact hP⟩, hS.F ht⟩) hS.2.2 d_Pe_tick_66
    · have g8 : ¬ ((M2 5 r4.toNatClampNeg).toInt = 0) := fun q => h8 (Int32.toInt_inj.mp q)
      refine lv_aload_n hx hb d_Pe_tick_24 rfl (lv_at hl 1 rfl) ?_
      refine ux_get (C := R_Pe) (T := F_Pe) (N := 10) hx hb hT in_Pe hown hK hP (by decide) rfl rfl 8 (by decide) (hT _ fl_Pe_32) rfl d_Pe_tick_25 ?_
      refine lv_iconst (v := 0) hx hb d_Pe_tick_28 (by decide) ?_
      refine lv_aload_n hx hb d_Pe_tick_29 rfl (lv_at hl 1 rfl) ?_
      refine ux_get (C := R_Pe) (T := F_Pe) (N := 10) hx hb hT in_Pe hown hK hP (by decide) rfl rfl 2 (by decide) (hT _ fl_Pe_18) rfl d_Pe_tick_30 ?_
      refine lv_iload_n hx hb d_Pe_tick_33 rfl (lv_at hl 0 rfl) ?_
      refine ux_iald hx hb hK hP (by decide) rfl ((vi (show 0 ≤ r4.toInt by omega) (show r4.toInt < ((20 : Nat) : Int) by omega))) d_Pe_tick_34 ?_
      refine ux_calli (va_runV ⟨hx, hb, hml, hown, hts⟩ (s_Vl_append l D ad cA M2 hI 8 9 10 1 vV_buf 0 (M2 5 r4.toNatClampNeg)) (cwV 2 hts (tb_goodV ml_Pe_74 im_Vl_append se_Vl_append ii_Vl kt_Vl_append) rfl rfl rfl (by decide +kernel) ⟨Nat.le_of_ble_eq_true rfl, Nat.le_of_ble_eq_true rfl⟩) (ux_preV (by decide) rfl rfl hP hK hi hN) rfl rfl hl.1 rfl (lv_room (Nat.le_of_ble_eq_true rfl)) d_Pe_tick_35 ⟨Nat.zero_le _, Nat.zero_le _⟩) hS (fun r10 M11 H locs q12 hP hS => ?_)
      obtain ⟨hI, fq12, q12p⟩ := q12
      have hF := fr_call hF fq12 (fun a b q => by unfold tV at q; unfold tPe; omega)
      refine lv_pop hx hb d_Pe_tick_38 rfl ?_
      refine lv_aload_n hx hb d_Pe_tick_39 rfl (lv_at hl 1 rfl) ?_
      refine ux_get (C := R_Pe) (T := F_Pe) (N := 10) hx hb hT in_Pe hown hK hP (by decide) rfl rfl 9 (by decide) (hT _ fl_Pe_39) rfl d_Pe_tick_40 ?_
      refine lv_aload_n hx hb d_Pe_tick_43 rfl (lv_at hl 1 rfl) ?_
      refine ux_get (C := R_Pe) (T := F_Pe) (N := 10) hx hb hT in_Pe hown hK hP (by decide) rfl rfl 2 (by decide) (hT _ fl_Pe_18) rfl d_Pe_tick_44 ?_
      refine lv_iload_n hx hb d_Pe_tick_47 rfl (lv_at hl 0 rfl) ?_
      refine ux_iald hx hb hK hP (by decide) rfl ((vi (show 0 ≤ r4.toInt by omega) (show r4.toInt < ((20 : Nat) : Int) by omega))) d_Pe_tick_48 ?_
      refine lv_topi (fun z13 hz13 => ?_)
      rw [show M11 5 r4.toNatClampNeg = M2 5 r4.toNatClampNeg from fq12 _ _ (by unfold tV; omega)] at hz13
      rw [hz13]
      refine lv_sipush (v := 256) hx hb d_Pe_tick_49 (by decide) ?_
      refine lv_iadd hx hb d_Pe_tick_52 ?_
      refine lv_topi (fun x14 ex14 => ?_)
      try have fx14 : x14.toInt = (M2 5 r4.toNatClampNeg).toInt + 256 := by rw [ex14]; exact ti_add (by (try rw [show (256 : Int32).toInt = 256 from rfl]); omega) (by (try rw [show (256 : Int32).toInt = 256 from rfl]); omega)
      refine ux_callv (va_runV ⟨hx, hb, hml, hown, hts⟩ (s_Lg_note l D ad cA M11 hI x14) (cwV 1 hts (tb_goodV ml_Pe_64 im_Lg_note se_Lg_note ii_Lg kt_Lg_note) rfl rfl rfl (by decide +kernel) ⟨Nat.le_of_ble_eq_true rfl, Nat.le_of_ble_eq_true rfl⟩) (ux_preV (by decide) rfl rfl hP hK hi hN) rfl rfl hl.1 rfl (lv_room (Nat.le_of_ble_eq_true rfl)) d_Pe_tick_53 ⟨Nat.zero_le _, Nat.zero_le _⟩) hS (fun M16 H locs q17 hP hS => ?_)
      obtain ⟨hI, fq17, q17p⟩ := q17
      have hF := fr_call hF fq17 (fun a b q => by unfold tLg at q; unfold tPe; omega)
      refine lv_aload_n hx hb d_Pe_tick_56 rfl (lv_at hl 1 rfl) ?_
      refine lv_aload_n hx hb d_Pe_tick_57 rfl (lv_at hl 1 rfl) ?_
      refine ux_get (C := R_Pe) (T := F_Pe) (N := 10) hx hb hT in_Pe hown hK hP (by decide) rfl rfl 3 (by decide) (hT _ fl_Pe_21) rfl d_Pe_tick_58 ?_
      refine lv_iload_n hx hb d_Pe_tick_61 rfl (lv_at hl 0 rfl) ?_
      refine ux_iald hx hb hK hP (by decide) rfl ((vi (show 0 ≤ r4.toInt by omega) (show r4.toInt < ((20 : Nat) : Int) by omega))) d_Pe_tick_62 ?_
      refine ux_put (C := R_Pe) (T := F_Pe) (N := 10) hx hb hT in_Pe t_Pe t_Pe_ok n_Pe hown hK hi hP hS (by decide) rfl rfl 5 (by decide) (hT _ fl_Pe_47) rfl (rfl) (rfl) rfl d_Pe_tick_63 (fun H locs hP hS => ?_)
      have hI := IvX_free (k := 2) (j := 5) (v := M16 6 r4.toNatClampNeg) hI (by unfold ppn; omega) (by unfold pch; omega)
      have hF := fr_wr (k := 2) (j := 5) (v := M16 6 r4.toNatClampNeg) hF (by unfold tPe; omega)
      generalize eM18 : ux_wr M16 2 5 (M16 6 r4.toNatClampNeg) = M18 at hP hI hF
      exact W.vret hx hb hr (fun t ht hW => ⟨⟨M18, rfl, ⟨hI, hF, trivial⟩, by unfold ux_E; rw [ht]; exact hP⟩, hS.F ht⟩) hS.2.2 d_Pe_tick_66
  · have g7 : r4.toInt = (-1) := congrArg Int32.toInt h7
    exact W.vret hx hb hr (fun t ht hW => ⟨⟨M2, rfl, ⟨hI, hF, trivial⟩, by unfold ux_E; rw [ht]; exact hP⟩, hS.F ht⟩) hS.2.2 d_Pe_tick_14

set_option maxHeartbeats 8000000 in
set_option maxRecDepth 100000 in
theorem s_Lv_begin (l : Launch) (D : va_G) (ad : Nat → Nat) (cA : Nat → ClassId) (M : ux_M) (hI : IvX M) (d : Nat) (hd : d < 8) (a b f bw : Int32) (hbw : bw = 0 ∨ bw = 1) : Met l y_Lv_begin w_Lv_begin ({ frames := 1, cells := 0, slots := 0, locals := 21 }) (va_Pc [.ref (ad (53 + 7 * d)), .int a, .int b, .int f, .int bw] (ux_B D shX KX ad cA M)) (va_Qv (fun M1 => IvX M1 ∧ (∀ a b, ¬ (tLb d) a b → M1 a b = M a b) ∧ (True)) (ux_E D shX KX ad cA) (ux_A KX ad)) 0 0 (ux_A KX ad) := by
  refine Met.ofW (cc := b_Lv_begin) (maxL := 5) (ret := none) (by decide) rfl ?_
  intro p e s m args below meth c s₁ B hml hv
  obtain ⟨rfl, hP, hK, hi, hN⟩ := hv
  have hx := B.exec
  have hb := B.bytes
  have hr := B.returns
  have hts := atoms_spec (ws := w_Lv_begin) B.pre
  have hown : s.vm.findClass R_Lv = some m.cls := findClass_of_methodNamed B.named
  have hlocks := B.notSynchronized
  have hT : ∀ w ∈ tb, w.before _ s = true := fun w h => hts w (List.mem_cons_of_mem _ h)
  have hS : va_S (ux_A KX ad) s.heap s.heap [] := va_S.rf
  have hl := lv_entry ([.ref (ad (53 + 7 * d)), .int a, .int b, .int f, .int bw]) (n := 5) (Nat.le_of_ble_eq_true rfl)
  rw [lg_entry_eq]
  generalize (lg_sl ([.ref (ad (53 + 7 * d)), .int a, .int b, .int f, .int bw]) ++ List.replicate (5 - (lg_sl ([.ref (ad (53 + 7 * d)), .int a, .int b, .int f, .int bw])).length) Slot.unset).toArray = ls at hl ⊢
  have hl : lv_has ls 5 [(0, .ref (ad (53 + 7 * d))), (1, .int a), (2, .int b), (3, .int f), (4, .int bw)] := hl
  have hF : ∀ a b, ¬ (tLb d) a b → M a b = M a b := fun _ _ _ => rfl
  refine lv_aload_n hx hb d_Lv_begin_0 rfl (lv_at hl 0 rfl) ?_
  refine lv_iconst (v := 0) hx hb d_Lv_begin_1 (by decide) ?_
  refine ux_put (C := R_Lv) (T := F_Lv) (N := 10) hx hb hT in_Lv t_Lv t_Lv_ok n_Lv hown hK hi hP hS (lk 53 (by decide) hd) (L53 hd) rfl 4 (by decide) (hT _ fl_Lv_31) rfl (rfl) (rfl) rfl d_Lv_begin_2 (fun H locs hP hS => ?_)
  have hI := IvX_wr (k := 53 + 7 * d) (j := 4) (v := 0) hI (fun q => by first | decide | unfold p0 at q; omega) (fun q => by first | decide | unfold p8 at q; omega) (fun q => by first | decide | unfold p20 at q; omega) (fun q => by first | decide | unfold p40 at q; omega) (fun q => by first | decide | unfold p200 at q; omega) (fun q => by unfold pch at q; omega)
  have hF := fr_wr (k := 53 + 7 * d) (j := 4) (v := 0) hF (by unfold tLb; omega)
  generalize eM1 : ux_wr M (53 + 7 * d) 4 0 = M1 at hP hI hF
  refine lv_aload_n hx hb d_Lv_begin_5 rfl (lv_at hl 0 rfl) ?_
  refine lv_iload_n hx hb d_Lv_begin_6 rfl (lv_at hl 1 rfl) ?_
  refine lv_iconst (v := 0) hx hb d_Lv_begin_7 (by decide) ?_
  refine va_mmax hx hb (by rw [hml]; exact hl.1.symm) hown (hT _ ml_Lv_35) (hT _ sm_Ma_max) (hT _ ii_Ma) (hT _ kt_Ma_max) (Nat.le_of_ble_eq_true rfl) (Nat.le_of_ble_eq_true rfl) (Nat.zero_le _) (Nat.zero_le _) d_Lv_begin_8 ?_
  have b2 := vmax_f a 0
  rw [show (0 : Int32).toInt = 0 from rfl] at b2
  refine lv_topi (fun x3 ex3 => ?_)
  rw [show vmax a 0 = x3 from ex3.symm] at b2
  refine ux_put (C := R_Lv) (T := F_Lv) (N := 10) hx hb hT in_Lv t_Lv t_Lv_ok n_Lv hown hK hi hP hS (lk 53 (by decide) hd) (L53 hd) rfl 5 (by decide) (hT _ fl_Lv_41) rfl (rfl) (rfl) rfl d_Lv_begin_11 (fun H locs hP hS => ?_)
  have hI := IvX_wr (k := 53 + 7 * d) (j := 5) (v := x3) hI (fun q => by unfold p0 at q; omega) (fun q => by unfold p8 at q; omega) (fun q => by unfold p20 at q; omega) (fun q => by unfold p40 at q; omega) (fun q => by unfold p200 at q; omega) (fun q => by unfold pch at q; omega)
  have hF := fr_wr (k := 53 + 7 * d) (j := 5) (v := x3) hF (by unfold tLb; omega)
  generalize eM4 : ux_wr M1 (53 + 7 * d) 5 x3 = M4 at hP hI hF
  refine lv_aload_n hx hb d_Lv_begin_14 rfl (lv_at hl 0 rfl) ?_
  refine lv_iload_n hx hb d_Lv_begin_15 rfl (lv_at hl 2 rfl) ?_
  refine lv_sipush (v := 200) hx hb d_Lv_begin_16 (by decide) ?_
  refine va_mmin hx hb (by rw [hml]; exact hl.1.symm) hown (hT _ ml_Lv_44) (hT _ sm_Ma_min) (hT _ ii_Ma) (hT _ kt_Ma_min) (Nat.le_of_ble_eq_true rfl) (Nat.le_of_ble_eq_true rfl) (Nat.zero_le _) (Nat.zero_le _) d_Lv_begin_19 ?_
  have b5 := vmin_f b 200
  rw [show (200 : Int32).toInt = 200 from rfl] at b5
  refine lv_topi (fun x6 ex6 => ?_)
  rw [show vmin b 200 = x6 from ex6.symm] at b5
  refine ux_put (C := R_Lv) (T := F_Lv) (N := 10) hx hb hT in_Lv t_Lv t_Lv_ok n_Lv hown hK hi hP hS (lk 53 (by decide) hd) (L53 hd) rfl 6 (by decide) (hT _ fl_Lv_47) rfl (rfl) (rfl) rfl d_Lv_begin_22 (fun H locs hP hS => ?_)
  have hI := IvX_wr (k := 53 + 7 * d) (j := 6) (v := x6) hI (fun q => by unfold p0 at q; omega) (fun q => by unfold p8 at q; omega) (fun q => by unfold p20 at q; omega) (fun q => by unfold p40 at q; omega) (fun q => by unfold p200 at q; omega) (fun q => by unfold pch at q; omega)
  have hF := fr_wr (k := 53 + 7 * d) (j := 6) (v := x6) hF (by unfold tLb; omega)
  generalize eM7 : ux_wr M4 (53 + 7 * d) 6 x6 = M7 at hP hI hF
  refine lv_aload_n hx hb d_Lv_begin_25 rfl (lv_at hl 0 rfl) ?_
  refine lv_iload_n hx hb d_Lv_begin_26 rfl (lv_at hl 3 rfl) ?_
  refine ux_put (C := R_Lv) (T := F_Lv) (N := 10) hx hb hT in_Lv t_Lv t_Lv_ok n_Lv hown hK hi hP hS (lk 53 (by decide) hd) (L53 hd) rfl 7 (by decide) (hT _ fl_Lv_50) rfl (rfl) (rfl) rfl d_Lv_begin_27 (fun H locs hP hS => ?_)
  have hI := IvX_free (k := 53 + 7 * d) (j := 7) (v := f) hI (by unfold ppn; omega) (by unfold pch; omega)
  have hF := fr_wr (k := 53 + 7 * d) (j := 7) (v := f) hF (by unfold tLb; omega)
  generalize eM8 : ux_wr M7 (53 + 7 * d) 7 f = M8 at hP hI hF
  refine lv_aload_n hx hb d_Lv_begin_30 rfl (lv_at hl 0 rfl) ?_
  refine lv_iload hx hb d_Lv_begin_31 (lv_at hl 4 rfl) ?_
  refine ux_put (C := R_Lv) (T := F_Lv) (N := 10) hx hb hT in_Lv t_Lv t_Lv_ok n_Lv hown hK hi hP hS (lk 53 (by decide) hd) (L53 hd) rfl 8 (by decide) (hT _ fl_Lv_53) rfl ((nb_n (by first | assumption | omega))) ((nb_f (by first | assumption | omega))) rfl d_Lv_begin_33 (fun H locs hP hS => ?_)
  have hI := IvX_free (k := 53 + 7 * d) (j := 8) (v := bw) hI (by unfold ppn; omega) (by unfold pch; omega)
  have hF := fr_wr (k := 53 + 7 * d) (j := 8) (v := bw) hF (by unfold tLb; omega)
  generalize eM9 : ux_wr M8 (53 + 7 * d) 8 bw = M9 at hP hI hF
  refine lv_aload_n hx hb d_Lv_begin_36 rfl (lv_at hl 0 rfl) ?_
  refine lv_iconst (v := 0) hx hb d_Lv_begin_37 (by decide) ?_
  refine ux_put (C := R_Lv) (T := F_Lv) (N := 10) hx hb hT in_Lv t_Lv t_Lv_ok n_Lv hown hK hi hP hS (lk 53 (by decide) hd) (L53 hd) rfl 9 (by decide) (hT _ fl_Lv_57) rfl (rfl) (rfl) rfl d_Lv_begin_38 (fun H locs hP hS => ?_)
  have hI := IvX_free (k := 53 + 7 * d) (j := 9) (v := 0) hI (by unfold ppn; omega) (by unfold pch; omega)
  have hF := fr_wr (k := 53 + 7 * d) (j := 9) (v := 0) hF (by unfold tLb; omega)
  generalize eM10 : ux_wr M9 (53 + 7 * d) 9 0 = M10 at hP hI hF
  exact W.vret hx hb hr (fun t ht hW => ⟨⟨M10, rfl, ⟨hI, hF, trivial⟩, by unfold ux_E; rw [ht]; exact hP⟩, hS.F ht⟩) hS.2.2 d_Lv_begin_41

set_option maxHeartbeats 8000000 in
set_option maxRecDepth 100000 in
theorem s_Lv_beginWord (l : Launch) (D : va_G) (ad : Nat → Nat) (cA : Nat → ClassId) (M : ux_M) (hI : IvX M) (d : Nat) (hd : d < 8) : Met l y_Lv_beginWord w_Lv_beginWord ({ frames := 1, cells := 0, slots := 0, locals := 21 }) (va_Pc [.ref (ad (53 + 7 * d))] (ux_B D shX KX ad cA M)) (va_Qv (fun M1 => IvX M1 ∧ (∀ a b, ¬ (tLw d) a b → M1 a b = M a b) ∧ (True)) (ux_E D shX KX ad cA) (ux_A KX ad)) 0 0 (ux_A KX ad) := by
  refine Met.ofW (cc := b_Lv_beginWord) (maxL := 1) (ret := none) (by decide) rfl ?_
  intro p e s m args below meth c s₁ B hml hv
  obtain ⟨rfl, hP, hK, hi, hN⟩ := hv
  have hx := B.exec
  have hb := B.bytes
  have hr := B.returns
  have hts := atoms_spec (ws := w_Lv_beginWord) B.pre
  have hown : s.vm.findClass R_Lv = some m.cls := findClass_of_methodNamed B.named
  have hlocks := B.notSynchronized
  have hT : ∀ w ∈ tb, w.before _ s = true := fun w h => hts w (List.mem_cons_of_mem _ h)
  have hS : va_S (ux_A KX ad) s.heap s.heap [] := va_S.rf
  have hl := lv_entry ([.ref (ad (53 + 7 * d))]) (n := 1) (Nat.le_of_ble_eq_true rfl)
  rw [lg_entry_eq]
  generalize (lg_sl ([.ref (ad (53 + 7 * d))]) ++ List.replicate (1 - (lg_sl ([.ref (ad (53 + 7 * d))])).length) Slot.unset).toArray = ls at hl ⊢
  have hl : lv_has ls 1 [(0, .ref (ad (53 + 7 * d)))] := hl
  have hF : ∀ a b, ¬ (tLw d) a b → M a b = M a b := fun _ _ _ => rfl
  refine lv_aload_n hx hb d_Lv_beginWord_0 rfl (lv_at hl 0 rfl) ?_
  refine ux_get (C := R_Lv) (T := F_Lv) (N := 10) hx hb hT in_Lv hown hK hP (lk 53 (by decide) hd) (L53 hd) rfl 4 (by decide) (hT _ fl_Lv_31) rfl d_Lv_beginWord_1 ?_
  have b1 := iv0 (M := M) (a := 53 + 7 * d) (b := 4) hI (by unfold p0; omega)
  have b2 := iv8 (M := M) (a := 53 + 7 * d) (b := 4) hI (by unfold p8; omega)
  refine lv_bipush (v := 8) hx hb d_Lv_beginWord_4 (by decide) ?_
  refine lv_icmp_ge hx hb d_Lv_beginWord_6 rfl (fun h3 => ?_) (fun h3 => ?_)
  · have g3 : 8 ≤ (M (53 + 7 * d) 4).toInt := Int32.le_iff_toInt_le.mp h3
    have u3 := ti_hi (M (53 + 7 * d) 4)
    exact W.vret hx hb hr (fun t ht hW => ⟨⟨M, rfl, ⟨hI, hF, trivial⟩, by unfold ux_E; rw [ht]; exact hP⟩, hS.F ht⟩) hS.2.2 d_Lv_beginWord_30
  · have g3 : ¬ (8 ≤ (M (53 + 7 * d) 4).toInt) := fun q => h3 (Int32.le_iff_toInt_le.mpr q)
    have w3 := ti_lo (M (53 + 7 * d) 4)
    refine lv_aload_n hx hb d_Lv_beginWord_9 rfl (lv_at hl 0 rfl) ?_
    refine ux_get (C := R_Lv) (T := F_Lv) (N := 10) hx hb hT in_Lv hown hK hP (lk 53 (by decide) hd) (L53 hd) rfl 0 (by decide) (hT _ fl_Lv_14) rfl d_Lv_beginWord_10 ?_
    refine lv_aload_n hx hb d_Lv_beginWord_13 rfl (lv_at hl 0 rfl) ?_
    refine ux_get (C := R_Lv) (T := F_Lv) (N := 10) hx hb hT in_Lv hown hK hP (lk 53 (by decide) hd) (L53 hd) rfl 4 (by decide) (hT _ fl_Lv_31) rfl d_Lv_beginWord_14 ?_
    have b4 := iv0 (M := M) (a := 53 + 7 * d) (b := 4) hI (by unfold p0; omega)
    have b5 := iv8 (M := M) (a := 53 + 7 * d) (b := 4) hI (by unfold p8; omega)
    refine ux_callv (va_runV ⟨hx, hb, hml, hown, hts⟩ (c_Vl_empty l D shX KX ad cA M (54 + 7 * d) (55 + 7 * d) (56 + 7 * d) 8 (V_lv hd) (M (53 + 7 * d) 4)) (cwV 1 hts (tb_goodV ml_Lv_60 im_Vl_empty se_Vl_empty ii_Vl kt_Vl_empty) rfl rfl rfl (by decide +kernel) ⟨Nat.le_of_ble_eq_true rfl, Nat.le_of_ble_eq_true rfl⟩) (ux_preV (lk 54 (by decide) hd) (L54 hd) rfl hP hK hi hN) rfl rfl hl.1 rfl (lv_room (Nat.le_of_ble_eq_true rfl)) d_Lv_beginWord_17 ⟨Nat.zero_le _, Nat.zero_le _⟩) hS (fun M6 H locs q7 hP hS => ?_)
    have fq7 := vem_off (M := M) (ks := 56 + 7 * d) (n := 8) (i := M (53 + 7 * d) 4)
    rw [← q7] at fq7
    have hI : IvX M6 := by rw [q7]; exact vem_I hI (fun b => by unfold ppn; omega) (by unfold pch; omega)
    have hF := fr_call hF fq7 (fun a b q => by unfold tV1 at q; unfold tLw; omega)
    refine lv_aload_n hx hb d_Lv_beginWord_20 rfl (lv_at hl 0 rfl) ?_
    refine ux_get (C := R_Lv) (T := F_Lv) (N := 10) hx hb hT in_Lv hown hK hP (lk 53 (by decide) hd) (L53 hd) rfl 1 (by decide) (hT _ fl_Lv_20) rfl d_Lv_beginWord_21 ?_
    refine lv_aload_n hx hb d_Lv_beginWord_24 rfl (lv_at hl 0 rfl) ?_
    refine ux_get (C := R_Lv) (T := F_Lv) (N := 10) hx hb hT in_Lv hown hK hP (lk 53 (by decide) hd) (L53 hd) rfl 4 (by decide) (hT _ fl_Lv_31) rfl d_Lv_beginWord_25 ?_
    refine lv_topi (fun z8 hz8 => ?_)
    rw [show M6 (53 + 7 * d) 4 = M (53 + 7 * d) 4 from fq7 _ _ (by unfold tV1; omega)] at hz8
    rw [hz8]
    refine lv_iconst (v := 0) hx hb d_Lv_beginWord_28 (by decide) ?_
    refine ux_zast hx hb hK hi hP hS (lk 57 (by decide) hd) (L57 hd) ((vi (show 0 ≤ (M (53 + 7 * d) 4).toInt by omega) (show (M (53 + 7 * d) 4).toInt < ((8 : Nat) : Int) by omega))) d_Lv_beginWord_29 (fun H locs hP hS => ?_)
    have hI := IvX_free (k := 57 + 7 * d) (j := (M (53 + 7 * d) 4).toNatClampNeg) (v := vp_nar .boolean 0) hI (by unfold ppn; omega) (by unfold pch; omega)
    have hF := fr_wr (k := 57 + 7 * d) (j := (M (53 + 7 * d) 4).toNatClampNeg) (v := vp_nar .boolean 0) hF (by unfold tLw; omega)
    generalize eM9 : ux_wr M6 (57 + 7 * d) ((M (53 + 7 * d) 4).toNatClampNeg) (vp_nar .boolean 0) = M9 at hP hI hF
    exact W.vret hx hb hr (fun t ht hW => ⟨⟨M9, rfl, ⟨hI, hF, trivial⟩, by unfold ux_E; rw [ht]; exact hP⟩, hS.F ht⟩) hS.2.2 d_Lv_beginWord_30

set_option maxHeartbeats 8000000 in
set_option maxRecDepth 100000 in
theorem s_Lv_endBraced (l : Launch) (D : va_G) (ad : Nat → Nat) (cA : Nat → ClassId) (M : ux_M) (hI : IvX M) (d : Nat) (hd : d < 8) (a b : Int32) (ha : 0 ≤ a.toInt) (ha2 : a.toInt ≤ 1000) (hb2 : 0 ≤ b.toInt) (hb3 : b.toInt ≤ 1000) : Met l y_Lv_endBraced w_Lv_endBraced ({ frames := 2, cells := 0, slots := 0, locals := 46 }) (va_Pc [.ref (ad (53 + 7 * d)), .ref (ad 1), .int a, .int b] (ux_B D shX KX ad cA M)) (va_Qv (fun M1 => IvX M1 ∧ (∀ a b, ¬ (tLe d) a b → M1 a b = M a b) ∧ (True)) (ux_E D shX KX ad cA) (ux_A KX ad)) 0 0 (ux_A KX ad) := by
  refine Met.ofW (cc := b_Lv_endBraced) (maxL := 4) (ret := none) (by decide) rfl ?_
  intro p e s m args below meth c s₁ B hml hv
  obtain ⟨rfl, hP, hK, hi, hN⟩ := hv
  have hx := B.exec
  have hb := B.bytes
  have hr := B.returns
  have hts := atoms_spec (ws := w_Lv_endBraced) B.pre
  have hown : s.vm.findClass R_Lv = some m.cls := findClass_of_methodNamed B.named
  have hlocks := B.notSynchronized
  have hT : ∀ w ∈ tb, w.before _ s = true := fun w h => hts w (List.mem_cons_of_mem _ h)
  have hS : va_S (ux_A KX ad) s.heap s.heap [] := va_S.rf
  have hl := lv_entry ([.ref (ad (53 + 7 * d)), .ref (ad 1), .int a, .int b]) (n := 4) (Nat.le_of_ble_eq_true rfl)
  rw [lg_entry_eq]
  generalize (lg_sl ([.ref (ad (53 + 7 * d)), .ref (ad 1), .int a, .int b]) ++ List.replicate (4 - (lg_sl ([.ref (ad (53 + 7 * d)), .ref (ad 1), .int a, .int b])).length) Slot.unset).toArray = ls at hl ⊢
  have hl : lv_has ls 4 [(0, .ref (ad (53 + 7 * d))), (1, .ref (ad 1)), (2, .int a), (3, .int b)] := hl
  have hF : ∀ a b, ¬ (tLe d) a b → M a b = M a b := fun _ _ _ => rfl
  refine lv_aload_n hx hb d_Lv_endBraced_0 rfl (lv_at hl 0 rfl) ?_
  refine ux_get (C := R_Lv) (T := F_Lv) (N := 10) hx hb hT in_Lv hown hK hP (lk 53 (by decide) hd) (L53 hd) rfl 4 (by decide) (hT _ fl_Lv_31) rfl d_Lv_endBraced_1 ?_
  have b1 := iv0 (M := M) (a := 53 + 7 * d) (b := 4) hI (by unfold p0; omega)
  have b2 := iv8 (M := M) (a := 53 + 7 * d) (b := 4) hI (by unfold p8; omega)
  refine lv_bipush (v := 8) hx hb d_Lv_endBraced_4 (by decide) ?_
  refine lv_icmp_ge hx hb d_Lv_endBraced_6 rfl (fun h3 => ?_) (fun h3 => ?_)
  · have g3 : 8 ≤ (M (53 + 7 * d) 4).toInt := Int32.le_iff_toInt_le.mp h3
    have u3 := ti_hi (M (53 + 7 * d) 4)
    exact W.vret hx hb hr (fun t ht hW => ⟨⟨M, rfl, ⟨hI, hF, trivial⟩, by unfold ux_E; rw [ht]; exact hP⟩, hS.F ht⟩) hS.2.2 d_Lv_endBraced_63
  · have g3 : ¬ (8 ≤ (M (53 + 7 * d) 4).toInt) := fun q => h3 (Int32.le_iff_toInt_le.mpr q)
    have w3 := ti_lo (M (53 + 7 * d) 4)
    refine lv_aload_n hx hb d_Lv_endBraced_9 rfl (lv_at hl 0 rfl) ?_
    refine ux_get (C := R_Lv) (T := F_Lv) (N := 10) hx hb hT in_Lv hown hK hP (lk 53 (by decide) hd) (L53 hd) rfl 0 (by decide) (hT _ fl_Lv_14) rfl d_Lv_endBraced_10 ?_
    refine lv_aload_n hx hb d_Lv_endBraced_13 rfl (lv_at hl 0 rfl) ?_
    refine ux_get (C := R_Lv) (T := F_Lv) (N := 10) hx hb hT in_Lv hown hK hP (lk 53 (by decide) hd) (L53 hd) rfl 4 (by decide) (hT _ fl_Lv_31) rfl d_Lv_endBraced_14 ?_
    have b4 := iv0 (M := M) (a := 53 + 7 * d) (b := 4) hI (by unfold p0; omega)
    have b5 := iv8 (M := M) (a := 53 + 7 * d) (b := 4) hI (by unfold p8; omega)
    refine lv_aload_n hx hb d_Lv_endBraced_17 rfl (lv_at hl 1 rfl) ?_
    refine lv_iload_n hx hb d_Lv_endBraced_18 rfl (lv_at hl 2 rfl) ?_
    refine lv_iload_n hx hb d_Lv_endBraced_19 rfl (lv_at hl 3 rfl) ?_
    refine ux_callv (va_runV ⟨hx, hb, hml, hown, hts⟩ (s_Vl_copyStretch l D ad cA M hI (54 + 7 * d) (55 + 7 * d) (56 + 7 * d) 8 (vV_lv hd) (M (53 + 7 * d) 4) a b (by omega) (by omega) (by omega) (by omega)) (cwV 4 hts (tb_goodV ml_Lv_63 im_Vl_copyStretch se_Vl_copyStretch ii_Vl kt_Vl_copyStretch) rfl rfl rfl (by decide +kernel) ⟨Nat.le_of_ble_eq_true rfl, Nat.le_of_ble_eq_true rfl⟩) (ux_preV (lk 54 (by decide) hd) (L54 hd) rfl hP hK hi hN) rfl rfl hl.1 rfl (lv_room (Nat.le_of_ble_eq_true rfl)) d_Lv_endBraced_20 ⟨Nat.zero_le _, Nat.zero_le _⟩) hS (fun M7 H locs q8 hP hS => ?_)
    obtain ⟨hI, fq8, q8p⟩ := q8
    have hF := fr_call hF fq8 (fun a b q => by unfold tV at q; unfold tLe; omega)
    refine lv_aload_n hx hb d_Lv_endBraced_23 rfl (lv_at hl 0 rfl) ?_
    refine ux_get (C := R_Lv) (T := F_Lv) (N := 10) hx hb hT in_Lv hown hK hP (lk 53 (by decide) hd) (L53 hd) rfl 1 (by decide) (hT _ fl_Lv_20) rfl d_Lv_endBraced_24 ?_
    refine lv_aload_n hx hb d_Lv_endBraced_27 rfl (lv_at hl 0 rfl) ?_
    refine ux_get (C := R_Lv) (T := F_Lv) (N := 10) hx hb hT in_Lv hown hK hP (lk 53 (by decide) hd) (L53 hd) rfl 4 (by decide) (hT _ fl_Lv_31) rfl d_Lv_endBraced_28 ?_
    refine lv_topi (fun z9 hz9 => ?_)
    rw [show M7 (53 + 7 * d) 4 = M (53 + 7 * d) 4 from fq8 _ _ (by unfold tV; omega)] at hz9
    rw [hz9]
    refine lv_iconst (v := 1) hx hb d_Lv_endBraced_31 (by decide) ?_
    refine ux_zast hx hb hK hi hP hS (lk 57 (by decide) hd) (L57 hd) ((vi (show 0 ≤ (M (53 + 7 * d) 4).toInt by omega) (show (M (53 + 7 * d) 4).toInt < ((8 : Nat) : Int) by omega))) d_Lv_endBraced_32 (fun H locs hP hS => ?_)
    have hI := IvX_free (k := 57 + 7 * d) (j := (M (53 + 7 * d) 4).toNatClampNeg) (v := vp_nar .boolean 1) hI (by unfold ppn; omega) (by unfold pch; omega)
    have hF := fr_wr (k := 57 + 7 * d) (j := (M (53 + 7 * d) 4).toNatClampNeg) (v := vp_nar .boolean 1) hF (by unfold tLe; omega)
    generalize eM10 : ux_wr M7 (57 + 7 * d) ((M (53 + 7 * d) 4).toNatClampNeg) (vp_nar .boolean 1) = M10 at hP hI hF
    refine lv_aload_n hx hb d_Lv_endBraced_33 rfl (lv_at hl 0 rfl) ?_
    refine ux_get (C := R_Lv) (T := F_Lv) (N := 10) hx hb hT in_Lv hown hK hP (lk 53 (by decide) hd) (L53 hd) rfl 2 (by decide) (hT _ fl_Lv_24) rfl d_Lv_endBraced_34 ?_
    refine lv_aload_n hx hb d_Lv_endBraced_37 rfl (lv_at hl 0 rfl) ?_
    refine ux_get (C := R_Lv) (T := F_Lv) (N := 10) hx hb hT in_Lv hown hK hP (lk 53 (by decide) hd) (L53 hd) rfl 4 (by decide) (hT _ fl_Lv_31) rfl d_Lv_endBraced_38 ?_
    refine lv_topi (fun z11 hz11 => ?_)
    rw [show M10 (53 + 7 * d) 4 = M (53 + 7 * d) 4 from (wr_off eM10 (by omega)).trans (fq8 _ _ (by unfold tV; omega))] at hz11
    rw [hz11]
    refine lv_iload_n hx hb d_Lv_endBraced_41 rfl (lv_at hl 2 rfl) ?_
    refine ux_iast hx hb hK hi hP hS (lk 58 (by decide) hd) (L58 hd) ((vi (show 0 ≤ (M (53 + 7 * d) 4).toInt by omega) (show (M (53 + 7 * d) 4).toInt < ((8 : Nat) : Int) by omega))) d_Lv_endBraced_42 (fun H locs hP hS => ?_)
    have hI := IvX_free (k := 58 + 7 * d) (j := (M (53 + 7 * d) 4).toNatClampNeg) (v := a) hI (by unfold ppn; omega) (by unfold pch; omega)
    have hF := fr_wr (k := 58 + 7 * d) (j := (M (53 + 7 * d) 4).toNatClampNeg) (v := a) hF (by unfold tLe; omega)
    generalize eM12 : ux_wr M10 (58 + 7 * d) ((M (53 + 7 * d) 4).toNatClampNeg) a = M12 at hP hI hF
    refine lv_aload_n hx hb d_Lv_endBraced_43 rfl (lv_at hl 0 rfl) ?_
    refine ux_get (C := R_Lv) (T := F_Lv) (N := 10) hx hb hT in_Lv hown hK hP (lk 53 (by decide) hd) (L53 hd) rfl 3 (by decide) (hT _ fl_Lv_28) rfl d_Lv_endBraced_44 ?_
    refine lv_aload_n hx hb d_Lv_endBraced_47 rfl (lv_at hl 0 rfl) ?_
    refine ux_get (C := R_Lv) (T := F_Lv) (N := 10) hx hb hT in_Lv hown hK hP (lk 53 (by decide) hd) (L53 hd) rfl 4 (by decide) (hT _ fl_Lv_31) rfl d_Lv_endBraced_48 ?_
    refine lv_topi (fun z13 hz13 => ?_)
    rw [show M12 (53 + 7 * d) 4 = M (53 + 7 * d) 4 from (wr_off eM12 (by omega)).trans ((wr_off eM10 (by omega)).trans (fq8 _ _ (by unfold tV; omega)))] at hz13
    rw [hz13]
    refine lv_iload_n hx hb d_Lv_endBraced_51 rfl (lv_at hl 3 rfl) ?_
    refine ux_iast hx hb hK hi hP hS (lk 59 (by decide) hd) (L59 hd) ((vi (show 0 ≤ (M (53 + 7 * d) 4).toInt by omega) (show (M (53 + 7 * d) 4).toInt < ((8 : Nat) : Int) by omega))) d_Lv_endBraced_52 (fun H locs hP hS => ?_)
    have hI := IvX_free (k := 59 + 7 * d) (j := (M (53 + 7 * d) 4).toNatClampNeg) (v := b) hI (by unfold ppn; omega) (by unfold pch; omega)
    have hF := fr_wr (k := 59 + 7 * d) (j := (M (53 + 7 * d) 4).toNatClampNeg) (v := b) hF (by unfold tLe; omega)
    generalize eM14 : ux_wr M12 (59 + 7 * d) ((M (53 + 7 * d) 4).toNatClampNeg) b = M14 at hP hI hF
    refine lv_aload_n hx hb d_Lv_endBraced_53 rfl (lv_at hl 0 rfl) ?_
    refine lv_dup hx hb d_Lv_endBraced_54 rfl ?_
    refine ux_get (C := R_Lv) (T := F_Lv) (N := 10) hx hb hT in_Lv hown hK hP (lk 53 (by decide) hd) (L53 hd) rfl 4 (by decide) (hT _ fl_Lv_31) rfl d_Lv_endBraced_55 ?_
    refine lv_topi (fun z15 hz15 => ?_)
    rw [show M14 (53 + 7 * d) 4 = M (53 + 7 * d) 4 from (wr_off eM14 (by omega)).trans ((wr_off eM12 (by omega)).trans ((wr_off eM10 (by omega)).trans (fq8 _ _ (by unfold tV; omega))))] at hz15
    rw [hz15]
    refine lv_iconst (v := 1) hx hb d_Lv_endBraced_58 (by decide) ?_
    refine lv_iadd hx hb d_Lv_endBraced_59 ?_
    refine lv_topi (fun x16 ex16 => ?_)
    try have fx16 : x16.toInt = (M (53 + 7 * d) 4).toInt + 1 := by rw [ex16]; exact ti_add (by (try rw [show (1 : Int32).toInt = 1 from rfl]); omega) (by (try rw [show (1 : Int32).toInt = 1 from rfl]); omega)
    refine ux_put (C := R_Lv) (T := F_Lv) (N := 10) hx hb hT in_Lv t_Lv t_Lv_ok n_Lv hown hK hi hP hS (lk 53 (by decide) hd) (L53 hd) rfl 4 (by decide) (hT _ fl_Lv_31) rfl (rfl) (rfl) rfl d_Lv_endBraced_60 (fun H locs hP hS => ?_)
    have hI := IvX_wr (k := 53 + 7 * d) (j := 4) (v := x16) hI (fun q => by unfold p0 at q; omega) (fun q => by unfold p8 at q; omega) (fun q => by unfold p20 at q; omega) (fun q => by unfold p40 at q; omega) (fun q => by unfold p200 at q; omega) (fun q => by unfold pch at q; omega)
    have hF := fr_wr (k := 53 + 7 * d) (j := 4) (v := x16) hF (by unfold tLe; omega)
    generalize eM17 : ux_wr M14 (53 + 7 * d) 4 x16 = M17 at hP hI hF
    exact W.vret hx hb hr (fun t ht hW => ⟨⟨M17, rfl, ⟨hI, hF, trivial⟩, by unfold ux_E; rw [ht]; exact hP⟩, hS.F ht⟩) hS.2.2 d_Lv_endBraced_63

set_option maxHeartbeats 8000000 in
set_option maxRecDepth 100000 in
theorem s_Lv_endsCommand (l : Launch) (D : va_G) (ad : Nat → Nat) (cA : Nat → ClassId) (M : ux_M) (hI : IvX M) (d : Nat) (hd : d < 8) (ch : Int32) : Met l y_Lv_endsCommand w_Lv_endsCommand ({ frames := 0, cells := 0, slots := 0, locals := 0 }) (va_Pc [.ref (ad (53 + 7 * d)), .int ch] (ux_B D shX KX ad cA M)) (va_Qi (fun r M1 => IvX M1 ∧ (∀ a b, ¬ tN a b → M1 a b = M a b) ∧ (r = 0 ∨ r = 1)) (ux_E D shX KX ad cA) (ux_A KX ad)) 0 0 (ux_A KX ad) := by
  refine Met.ofW (cc := b_Lv_endsCommand) (maxL := 2) (ret := (some .boolean)) (by decide) rfl ?_
  intro p e s m args below meth c s₁ B hml hv
  obtain ⟨rfl, hP, hK, hi, hN⟩ := hv
  have hx := B.exec
  have hb := B.bytes
  have hr := B.returns
  have hts := atoms_spec (ws := w_Lv_endsCommand) B.pre
  have hown : s.vm.findClass R_Lv = some m.cls := findClass_of_methodNamed B.named
  have hlocks := B.notSynchronized
  have hT : ∀ w ∈ tb, w.before _ s = true := fun w h => hts w (List.mem_cons_of_mem _ h)
  have hS : va_S (ux_A KX ad) s.heap s.heap [] := va_S.rf
  have hl := lv_entry ([.ref (ad (53 + 7 * d)), .int ch]) (n := 2) (Nat.le_of_ble_eq_true rfl)
  rw [lg_entry_eq]
  generalize (lg_sl ([.ref (ad (53 + 7 * d)), .int ch]) ++ List.replicate (2 - (lg_sl ([.ref (ad (53 + 7 * d)), .int ch])).length) Slot.unset).toArray = ls at hl ⊢
  have hl : lv_has ls 2 [(0, .ref (ad (53 + 7 * d))), (1, .int ch)] := hl
  have hF : ∀ a b, ¬ tN a b → M a b = M a b := fun _ _ _ => rfl
  refine lv_iload_n hx hb d_Lv_endsCommand_0 rfl (lv_at hl 1 rfl) ?_
  refine lv_bipush (v := 59) hx hb d_Lv_endsCommand_1 (by decide) ?_
  refine lv_icmp_eq hx hb d_Lv_endsCommand_3 rfl (fun h1 => ?_) (fun h1 => ?_)
  · have g1 : ch.toInt = 59 := congrArg Int32.toInt h1
    refine lv_iconst (v := 1) hx hb d_Lv_endsCommand_25 (by decide) ?_
    refine lv_goto hx hb d_Lv_endsCommand_26 rfl ?_
    exact W.zret (v := 1) hx hb hr (rfl) (fun t ht hW => ⟨⟨1, M, rfl, ⟨hI, hF, Or.inr rfl⟩, by unfold ux_E; rw [ht]; exact hP⟩, hS.F ht⟩) hS.2.2 d_Lv_endsCommand_30
  · have g1 : ¬ (ch.toInt = 59) := fun q => h1 (Int32.toInt_inj.mp q)
    refine lv_iload_n hx hb d_Lv_endsCommand_6 rfl (lv_at hl 1 rfl) ?_
    refine lv_bipush (v := 10) hx hb d_Lv_endsCommand_7 (by decide) ?_
    refine lv_icmp_eq hx hb d_Lv_endsCommand_9 rfl (fun h2 => ?_) (fun h2 => ?_)
    · have g2 : ch.toInt = 10 := congrArg Int32.toInt h2
      refine lv_iconst (v := 1) hx hb d_Lv_endsCommand_25 (by decide) ?_
      refine lv_goto hx hb d_Lv_endsCommand_26 rfl ?_
      exact W.zret (v := 1) hx hb hr (rfl) (fun t ht hW => ⟨⟨1, M, rfl, ⟨hI, hF, Or.inr rfl⟩, by unfold ux_E; rw [ht]; exact hP⟩, hS.F ht⟩) hS.2.2 d_Lv_endsCommand_30
    · have g2 : ¬ (ch.toInt = 10) := fun q => h2 (Int32.toInt_inj.mp q)
      refine lv_iload_n hx hb d_Lv_endsCommand_12 rfl (lv_at hl 1 rfl) ?_
      refine lv_bipush (v := 93) hx hb d_Lv_endsCommand_13 (by decide) ?_
      refine lv_icmp_ne hx hb d_Lv_endsCommand_15 rfl (fun h3 => ?_) (fun h3 => ?_)
      · have g3 : ¬ (ch.toInt = 93) := fun q => h3 (Int32.toInt_inj.mp q)
        refine lv_iconst (v := 0) hx hb d_Lv_endsCommand_29 (by decide) ?_
        exact W.zret (v := 0) hx hb hr (rfl) (fun t ht hW => ⟨⟨0, M, rfl, ⟨hI, hF, Or.inl rfl⟩, by unfold ux_E; rw [ht]; exact hP⟩, hS.F ht⟩) hS.2.2 d_Lv_endsCommand_30
      · have g3 : ch.toInt = 93 := congrArg Int32.toInt h3
        refine lv_aload_n hx hb d_Lv_endsCommand_18 rfl (lv_at hl 0 rfl) ?_
        refine ux_get (C := R_Lv) (T := F_Lv) (N := 10) hx hb hT in_Lv hown hK hP (lk 53 (by decide) hd) (L53 hd) rfl 8 (by decide) (hT _ fl_Lv_53) rfl d_Lv_endsCommand_19 ?_
        refine lv_if_eq hx hb d_Lv_endsCommand_22 rfl (fun h4 => ?_) (fun h4 => ?_)
        · have g4 : (M (53 + 7 * d) 8).toInt = 0 := congrArg Int32.toInt h4
          refine lv_iconst (v := 0) hx hb d_Lv_endsCommand_29 (by decide) ?_
          exact W.zret (v := 0) hx hb hr (rfl) (fun t ht hW => ⟨⟨0, M, rfl, ⟨hI, hF, Or.inl rfl⟩, by unfold ux_E; rw [ht]; exact hP⟩, hS.F ht⟩) hS.2.2 d_Lv_endsCommand_30
        · have g4 : ¬ ((M (53 + 7 * d) 8).toInt = 0) := fun q => h4 (Int32.toInt_inj.mp q)
          refine lv_iconst (v := 1) hx hb d_Lv_endsCommand_25 (by decide) ?_
          refine lv_goto hx hb d_Lv_endsCommand_26 rfl ?_
          exact W.zret (v := 1) hx hb hr (rfl) (fun t ht hW => ⟨⟨1, M, rfl, ⟨hI, hF, Or.inr rfl⟩, by unfold ux_E; rw [ht]; exact hP⟩, hS.F ht⟩) hS.2.2 d_Lv_endsCommand_30

set_option maxHeartbeats 8000000 in
set_option maxRecDepth 100000 in
theorem s_Lv_isBraced (l : Launch) (D : va_G) (ad : Nat → Nat) (cA : Nat → ClassId) (M : ux_M) (hI : IvX M) (d : Nat) (hd : d < 8) (i : Int32) : Met l y_Lv_isBraced w_Lv_isBraced ({ frames := 0, cells := 0, slots := 0, locals := 0 }) (va_Pc [.ref (ad (53 + 7 * d)), .int i] (ux_B D shX KX ad cA M)) (va_Qi (fun r M1 => IvX M1 ∧ (∀ a b, ¬ tN a b → M1 a b = M a b) ∧ ((r = 0 ∨ r = 1) ∧ (r = 1 → 0 ≤ i.toInt ∧ i.toInt < 8))) (ux_E D shX KX ad cA) (ux_A KX ad)) 0 0 (ux_A KX ad) := by
  refine Met.ofW (cc := b_Lv_isBraced) (maxL := 2) (ret := (some .boolean)) (by decide) rfl ?_
  intro p e s m args below meth c s₁ B hml hv
  obtain ⟨rfl, hP, hK, hi, hN⟩ := hv
  have hx := B.exec
  have hb := B.bytes
  have hr := B.returns
  have hts := atoms_spec (ws := w_Lv_isBraced) B.pre
  have hown : s.vm.findClass R_Lv = some m.cls := findClass_of_methodNamed B.named
  have hlocks := B.notSynchronized
  have hT : ∀ w ∈ tb, w.before _ s = true := fun w h => hts w (List.mem_cons_of_mem _ h)
  have hS : va_S (ux_A KX ad) s.heap s.heap [] := va_S.rf
  have hl := lv_entry ([.ref (ad (53 + 7 * d)), .int i]) (n := 2) (Nat.le_of_ble_eq_true rfl)
  rw [lg_entry_eq]
  generalize (lg_sl ([.ref (ad (53 + 7 * d)), .int i]) ++ List.replicate (2 - (lg_sl ([.ref (ad (53 + 7 * d)), .int i])).length) Slot.unset).toArray = ls at hl ⊢
  have hl : lv_has ls 2 [(0, .ref (ad (53 + 7 * d))), (1, .int i)] := hl
  have hF : ∀ a b, ¬ tN a b → M a b = M a b := fun _ _ _ => rfl
  refine lv_iload_n hx hb d_Lv_isBraced_0 rfl (lv_at hl 1 rfl) ?_
  refine lv_if_lt hx hb d_Lv_isBraced_1 rfl (fun h1 => ?_) (fun h1 => ?_)
  · have g1 : i.toInt < 0 := Int32.lt_iff_toInt_lt.mp h1
    have w1 := ti_lo i
    refine lv_iconst (v := 0) hx hb d_Lv_isBraced_31 (by decide) ?_
    exact W.zret (v := 0) hx hb hr (rfl) (fun t ht hW => ⟨⟨0, M, rfl, ⟨hI, hF, ⟨Or.inl rfl, fun q => absurd q (by decide)⟩⟩, by unfold ux_E; rw [ht]; exact hP⟩, hS.F ht⟩) hS.2.2 d_Lv_isBraced_32
  · have g1 : ¬ (i.toInt < 0) := fun q => h1 (Int32.lt_iff_toInt_lt.mpr q)
    have u1 := ti_hi i
    refine lv_iload_n hx hb d_Lv_isBraced_4 rfl (lv_at hl 1 rfl) ?_
    refine lv_aload_n hx hb d_Lv_isBraced_5 rfl (lv_at hl 0 rfl) ?_
    refine ux_get (C := R_Lv) (T := F_Lv) (N := 10) hx hb hT in_Lv hown hK hP (lk 53 (by decide) hd) (L53 hd) rfl 4 (by decide) (hT _ fl_Lv_31) rfl d_Lv_isBraced_6 ?_
    have b2 := iv0 (M := M) (a := 53 + 7 * d) (b := 4) hI (by unfold p0; omega)
    have b3 := iv8 (M := M) (a := 53 + 7 * d) (b := 4) hI (by unfold p8; omega)
    refine lv_icmp_ge hx hb d_Lv_isBraced_9 rfl (fun h4 => ?_) (fun h4 => ?_)
    · have g4 : (M (53 + 7 * d) 4).toInt ≤ i.toInt := Int32.le_iff_toInt_le.mp h4
      have u4 := ti_hi i
      have w4 := ti_lo (M (53 + 7 * d) 4)
      refine lv_iconst (v := 0) hx hb d_Lv_isBraced_31 (by decide) ?_
      exact W.zret (v := 0) hx hb hr (rfl) (fun t ht hW => ⟨⟨0, M, rfl, ⟨hI, hF, ⟨Or.inl rfl, fun q => absurd q (by decide)⟩⟩, by unfold ux_E; rw [ht]; exact hP⟩, hS.F ht⟩) hS.2.2 d_Lv_isBraced_32
    · have g4 : ¬ ((M (53 + 7 * d) 4).toInt ≤ i.toInt) := fun q => h4 (Int32.le_iff_toInt_le.mpr q)
      have u4 := ti_hi (M (53 + 7 * d) 4)
      have w4 := ti_lo i
      refine lv_iload_n hx hb d_Lv_isBraced_12 rfl (lv_at hl 1 rfl) ?_
      refine lv_bipush (v := 8) hx hb d_Lv_isBraced_13 (by decide) ?_
      refine lv_icmp_ge hx hb d_Lv_isBraced_15 rfl (fun h5 => ?_) (fun h5 => ?_)
      · have g5 : 8 ≤ i.toInt := Int32.le_iff_toInt_le.mp h5
        have u5 := ti_hi i
        refine lv_iconst (v := 0) hx hb d_Lv_isBraced_31 (by decide) ?_
        exact W.zret (v := 0) hx hb hr (rfl) (fun t ht hW => ⟨⟨0, M, rfl, ⟨hI, hF, ⟨Or.inl rfl, fun q => absurd q (by decide)⟩⟩, by unfold ux_E; rw [ht]; exact hP⟩, hS.F ht⟩) hS.2.2 d_Lv_isBraced_32
      · have g5 : ¬ (8 ≤ i.toInt) := fun q => h5 (Int32.le_iff_toInt_le.mpr q)
        have w5 := ti_lo i
        refine lv_aload_n hx hb d_Lv_isBraced_18 rfl (lv_at hl 0 rfl) ?_
        refine ux_get (C := R_Lv) (T := F_Lv) (N := 10) hx hb hT in_Lv hown hK hP (lk 53 (by decide) hd) (L53 hd) rfl 1 (by decide) (hT _ fl_Lv_20) rfl d_Lv_isBraced_19 ?_
        refine lv_iload_n hx hb d_Lv_isBraced_22 rfl (lv_at hl 1 rfl) ?_
        refine ux_zald hx hb hK hP (lk 57 (by decide) hd) (L57 hd) ((vi (show 0 ≤ i.toInt by omega) (show i.toInt < ((8 : Nat) : Int) by omega))) d_Lv_isBraced_23 ?_
        refine lv_if_eq hx hb d_Lv_isBraced_24 rfl (fun h6 => ?_) (fun h6 => ?_)
        · have g6 : (M (57 + 7 * d) i.toNatClampNeg).toInt = 0 := congrArg Int32.toInt h6
          refine lv_iconst (v := 0) hx hb d_Lv_isBraced_31 (by decide) ?_
          exact W.zret (v := 0) hx hb hr (rfl) (fun t ht hW => ⟨⟨0, M, rfl, ⟨hI, hF, ⟨Or.inl rfl, fun q => absurd q (by decide)⟩⟩, by unfold ux_E; rw [ht]; exact hP⟩, hS.F ht⟩) hS.2.2 d_Lv_isBraced_32
        · have g6 : ¬ ((M (57 + 7 * d) i.toNatClampNeg).toInt = 0) := fun q => h6 (Int32.toInt_inj.mp q)
          refine lv_iconst (v := 1) hx hb d_Lv_isBraced_27 (by decide) ?_
          refine lv_goto hx hb d_Lv_isBraced_28 rfl ?_
          exact W.zret (v := 1) hx hb hr (rfl) (fun t ht hW => ⟨⟨1, M, rfl, ⟨hI, hF, ⟨Or.inr rfl, fun _ => by omega⟩⟩, by unfold ux_E; rw [ht]; exact hP⟩, hS.F ht⟩) hS.2.2 d_Lv_isBraced_32

set_option maxHeartbeats 8000000 in
set_option maxRecDepth 100000 in
theorem s_Lv_startOf (l : Launch) (D : va_G) (ad : Nat → Nat) (cA : Nat → ClassId) (M : ux_M) (hI : IvX M) (d : Nat) (hd : d < 8) (i : Int32) : Met l y_Lv_startOf w_Lv_startOf ({ frames := 1, cells := 0, slots := 0, locals := 21 }) (va_Pc [.ref (ad (53 + 7 * d)), .int i] (ux_B D shX KX ad cA M)) (va_Qi (fun r M1 => IvX M1 ∧ (∀ a b, ¬ tN a b → M1 a b = M a b) ∧ (True)) (ux_E D shX KX ad cA) (ux_A KX ad)) 0 0 (ux_A KX ad) := by
  refine Met.ofW (cc := b_Lv_startOf) (maxL := 2) (ret := (some .int)) (by decide) rfl ?_
  intro p e s m args below meth c s₁ B hml hv
  obtain ⟨rfl, hP, hK, hi, hN⟩ := hv
  have hx := B.exec
  have hb := B.bytes
  have hr := B.returns
  have hts := atoms_spec (ws := w_Lv_startOf) B.pre
  have hown : s.vm.findClass R_Lv = some m.cls := findClass_of_methodNamed B.named
  have hlocks := B.notSynchronized
  have hT : ∀ w ∈ tb, w.before _ s = true := fun w h => hts w (List.mem_cons_of_mem _ h)
  have hS : va_S (ux_A KX ad) s.heap s.heap [] := va_S.rf
  have hl := lv_entry ([.ref (ad (53 + 7 * d)), .int i]) (n := 2) (Nat.le_of_ble_eq_true rfl)
  rw [lg_entry_eq]
  generalize (lg_sl ([.ref (ad (53 + 7 * d)), .int i]) ++ List.replicate (2 - (lg_sl ([.ref (ad (53 + 7 * d)), .int i])).length) Slot.unset).toArray = ls at hl ⊢
  have hl : lv_has ls 2 [(0, .ref (ad (53 + 7 * d))), (1, .int i)] := hl
  have hF : ∀ a b, ¬ tN a b → M a b = M a b := fun _ _ _ => rfl
  refine lv_aload_n hx hb d_Lv_startOf_0 rfl (lv_at hl 0 rfl) ?_
  refine lv_iload_n hx hb d_Lv_startOf_1 rfl (lv_at hl 1 rfl) ?_
  refine ux_calli (va_runV ⟨hx, hb, hml, hown, hts⟩ (s_Lv_isBraced l D ad cA M hI d hd i) (cwV 1 hts (tb_goodV ml_Lv_67 im_Lv_isBraced se_Lv_isBraced ii_Lv kt_Lv_isBraced) rfl rfl rfl (by decide +kernel) ⟨Nat.le_of_ble_eq_true rfl, Nat.le_of_ble_eq_true rfl⟩) (ux_preV (lk 53 (by decide) hd) (L53 hd) rfl hP hK hi hN) rfl rfl hl.1 rfl (lv_room (Nat.le_of_ble_eq_true rfl)) d_Lv_startOf_2 ⟨Nat.zero_le _, Nat.zero_le _⟩) hS (fun r1 M2 H locs q3 hP hS => ?_)
  obtain ⟨hI, fq3, q3p⟩ := q3
  rw [tN_eq fq3] at hP hI
  obtain ⟨q3p, q3i⟩ := q3p
  refine lv_if_eq hx hb d_Lv_startOf_5 rfl (fun h4 => ?_) (fun h4 => ?_)
  · have g4 : r1.toInt = 0 := congrArg Int32.toInt h4
    refine lv_iconst (v := 0) hx hb d_Lv_startOf_17 (by decide) ?_
    exact W.iret (v := 0) hx hb hr (fun t ht hW => ⟨⟨0, M, rfl, ⟨hI, hF, trivial⟩, by unfold ux_E; rw [ht]; exact hP⟩, hS.F ht⟩) hS.2.2 d_Lv_startOf_18
  · have g4 : ¬ (r1.toInt = 0) := fun q => h4 (Int32.toInt_inj.mp q)
    have hbi : 0 ≤ i.toInt ∧ i.toInt < 8 := by
      rcases q3p with q | q
      · exact absurd (congrArg Int32.toInt q) (by assumption)
      · exact q3i q
    refine lv_aload_n hx hb d_Lv_startOf_8 rfl (lv_at hl 0 rfl) ?_
    refine ux_get (C := R_Lv) (T := F_Lv) (N := 10) hx hb hT in_Lv hown hK hP (lk 53 (by decide) hd) (L53 hd) rfl 2 (by decide) (hT _ fl_Lv_24) rfl d_Lv_startOf_9 ?_
    refine lv_iload_n hx hb d_Lv_startOf_12 rfl (lv_at hl 1 rfl) ?_
    refine ux_iald hx hb hK hP (lk 58 (by decide) hd) (L58 hd) ((vi (show 0 ≤ i.toInt by omega) (show i.toInt < ((8 : Nat) : Int) by omega))) d_Lv_startOf_13 ?_
    refine lv_goto hx hb d_Lv_startOf_14 rfl ?_
    exact W.iret (v := M (58 + 7 * d) i.toNatClampNeg) hx hb hr (fun t ht hW => ⟨⟨M (58 + 7 * d) i.toNatClampNeg, M, rfl, ⟨hI, hF, trivial⟩, by unfold ux_E; rw [ht]; exact hP⟩, hS.F ht⟩) hS.2.2 d_Lv_startOf_18

set_option maxHeartbeats 8000000 in
set_option maxRecDepth 100000 in
theorem s_Lv_endOf (l : Launch) (D : va_G) (ad : Nat → Nat) (cA : Nat → ClassId) (M : ux_M) (hI : IvX M) (d : Nat) (hd : d < 8) (i : Int32) : Met l y_Lv_endOf w_Lv_endOf ({ frames := 1, cells := 0, slots := 0, locals := 21 }) (va_Pc [.ref (ad (53 + 7 * d)), .int i] (ux_B D shX KX ad cA M)) (va_Qi (fun r M1 => IvX M1 ∧ (∀ a b, ¬ tN a b → M1 a b = M a b) ∧ (True)) (ux_E D shX KX ad cA) (ux_A KX ad)) 0 0 (ux_A KX ad) := by
  refine Met.ofW (cc := b_Lv_endOf) (maxL := 2) (ret := (some .int)) (by decide) rfl ?_
  intro p e s m args below meth c s₁ B hml hv
  obtain ⟨rfl, hP, hK, hi, hN⟩ := hv
  have hx := B.exec
  have hb := B.bytes
  have hr := B.returns
  have hts := atoms_spec (ws := w_Lv_endOf) B.pre
  have hown : s.vm.findClass R_Lv = some m.cls := findClass_of_methodNamed B.named
  have hlocks := B.notSynchronized
  have hT : ∀ w ∈ tb, w.before _ s = true := fun w h => hts w (List.mem_cons_of_mem _ h)
  have hS : va_S (ux_A KX ad) s.heap s.heap [] := va_S.rf
  have hl := lv_entry ([.ref (ad (53 + 7 * d)), .int i]) (n := 2) (Nat.le_of_ble_eq_true rfl)
  rw [lg_entry_eq]
  generalize (lg_sl ([.ref (ad (53 + 7 * d)), .int i]) ++ List.replicate (2 - (lg_sl ([.ref (ad (53 + 7 * d)), .int i])).length) Slot.unset).toArray = ls at hl ⊢
  have hl : lv_has ls 2 [(0, .ref (ad (53 + 7 * d))), (1, .int i)] := hl
  have hF : ∀ a b, ¬ tN a b → M a b = M a b := fun _ _ _ => rfl
  refine lv_aload_n hx hb d_Lv_endOf_0 rfl (lv_at hl 0 rfl) ?_
  refine lv_iload_n hx hb d_Lv_endOf_1 rfl (lv_at hl 1 rfl) ?_
  refine ux_calli (va_runV ⟨hx, hb, hml, hown, hts⟩ (s_Lv_isBraced l D ad cA M hI d hd i) (cwV 1 hts (tb_goodV ml_Lv_67 im_Lv_isBraced se_Lv_isBraced ii_Lv kt_Lv_isBraced) rfl rfl rfl (by decide +kernel) ⟨Nat.le_of_ble_eq_true rfl, Nat.le_of_ble_eq_true rfl⟩) (ux_preV (lk 53 (by decide) hd) (L53 hd) rfl hP hK hi hN) rfl rfl hl.1 rfl (lv_room (Nat.le_of_ble_eq_true rfl)) d_Lv_endOf_2 ⟨Nat.zero_le _, Nat.zero_le _⟩) hS (fun r1 M2 H locs q3 hP hS => ?_)
  obtain ⟨hI, fq3, q3p⟩ := q3
  rw [tN_eq fq3] at hP hI
  obtain ⟨q3p, q3i⟩ := q3p
  refine lv_if_eq hx hb d_Lv_endOf_5 rfl (fun h4 => ?_) (fun h4 => ?_)
  · have g4 : r1.toInt = 0 := congrArg Int32.toInt h4
    refine lv_iconst (v := 0) hx hb d_Lv_endOf_17 (by decide) ?_
    exact W.iret (v := 0) hx hb hr (fun t ht hW => ⟨⟨0, M, rfl, ⟨hI, hF, trivial⟩, by unfold ux_E; rw [ht]; exact hP⟩, hS.F ht⟩) hS.2.2 d_Lv_endOf_18
  · have g4 : ¬ (r1.toInt = 0) := fun q => h4 (Int32.toInt_inj.mp q)
    have hbi : 0 ≤ i.toInt ∧ i.toInt < 8 := by
      rcases q3p with q | q
      · exact absurd (congrArg Int32.toInt q) (by assumption)
      · exact q3i q
    refine lv_aload_n hx hb d_Lv_endOf_8 rfl (lv_at hl 0 rfl) ?_
    refine ux_get (C := R_Lv) (T := F_Lv) (N := 10) hx hb hT in_Lv hown hK hP (lk 53 (by decide) hd) (L53 hd) rfl 3 (by decide) (hT _ fl_Lv_28) rfl d_Lv_endOf_9 ?_
    refine lv_iload_n hx hb d_Lv_endOf_12 rfl (lv_at hl 1 rfl) ?_
    refine ux_iald hx hb hK hP (lk 59 (by decide) hd) (L59 hd) ((vi (show 0 ≤ i.toInt by omega) (show i.toInt < ((8 : Nat) : Int) by omega))) d_Lv_endOf_13 ?_
    refine lv_goto hx hb d_Lv_endOf_14 rfl ?_
    exact W.iret (v := M (59 + 7 * d) i.toNatClampNeg) hx hb hr (fun t ht hW => ⟨⟨M (59 + 7 * d) i.toNatClampNeg, M, rfl, ⟨hI, hF, trivial⟩, by unfold ux_E; rw [ht]; exact hP⟩, hS.F ht⟩) hS.2.2 d_Lv_endOf_18

set_option maxHeartbeats 8000000 in
set_option maxRecDepth 100000 in
theorem s_Vs_link (l : Launch) (D : va_G) (ad : Nat → Nat) (cA : Nat → ClassId) (M : ux_M) (hI : IvX M) (f nm : Int32) : Met l y_Vs_link w_Vs_link ({ frames := 1, cells := 0, slots := 0, locals := 21 }) (va_Pc [.ref (ad 15), .int f, .int nm] (ux_B D shX KX ad cA M)) (va_Qv (fun M1 => IvX M1 ∧ (∀ a b, ¬ tVs a b → M1 a b = M a b) ∧ (True)) (ux_E D shX KX ad cA) (ux_A KX ad)) 0 0 (ux_A KX ad) := by
  refine Met.ofW (cc := b_Vs_link) (maxL := 3) (ret := none) (by decide) rfl ?_
  intro p e s m args below meth c s₁ B hml hv
  obtain ⟨rfl, hP, hK, hi, hN⟩ := hv
  have hx := B.exec
  have hb := B.bytes
  have hr := B.returns
  have hts := atoms_spec (ws := w_Vs_link) B.pre
  have hown : s.vm.findClass R_Vs = some m.cls := findClass_of_methodNamed B.named
  have hlocks := B.notSynchronized
  have hT : ∀ w ∈ tb, w.before _ s = true := fun w h => hts w (List.mem_cons_of_mem _ h)
  have hS : va_S (ux_A KX ad) s.heap s.heap [] := va_S.rf
  have hl := lv_entry ([.ref (ad 15), .int f, .int nm]) (n := 3) (Nat.le_of_ble_eq_true rfl)
  rw [lg_entry_eq]
  generalize (lg_sl ([.ref (ad 15), .int f, .int nm]) ++ List.replicate (3 - (lg_sl ([.ref (ad 15), .int f, .int nm])).length) Slot.unset).toArray = ls at hl ⊢
  have hl : lv_has ls 3 [(0, .ref (ad 15)), (1, .int f), (2, .int nm)] := hl
  have hF : ∀ a b, ¬ tVs a b → M a b = M a b := fun _ _ _ => rfl
  refine lv_iload_n hx hb d_Vs_link_0 rfl (lv_at hl 1 rfl) ?_
  refine lv_iload_n hx hb d_Vs_link_1 rfl (lv_at hl 2 rfl) ?_
  refine ux_calli (va_runS ⟨hx, hb, hml, hown, hts⟩ (c_Vs_isLocal l D ad cA M f nm) (va_cwS 2 hts (tb_goodST ml_Vs_27 sm_Vs_isLocal ii_Vs kt_Vs_isLocal) rfl rfl rfl (by decide +kernel) ⟨Nat.le_of_ble_eq_true rfl, Nat.le_of_ble_eq_true rfl⟩) (ux_pre hP hK hi hN) rfl rfl hl.1 rfl (lv_room (Nat.le_of_ble_eq_true rfl)) d_Vs_link_2 ⟨Nat.zero_le _, Nat.zero_le _⟩) hS (fun r1 M2 H locs q3 hP hS => ?_)
  obtain ⟨q3m, q3e⟩ := q3
  rw [q3m] at hP
  subst q3e
  refine lv_if_eq hx hb d_Vs_link_5 rfl (fun h4 => ?_) (fun h4 => ?_)
  · have g4 : (vlo f nm).toInt = 0 := congrArg Int32.toInt h4
    exact W.vret hx hb hr (fun t ht hW => ⟨⟨M, rfl, ⟨hI, hF, trivial⟩, by unfold ux_E; rw [ht]; exact hP⟩, hS.F ht⟩) hS.2.2 d_Vs_link_20
  · have g4 : ¬ ((vlo f nm).toInt = 0) := fun q => h4 (Int32.toInt_inj.mp q)
    have hlo := vlo_1 (f := f) (nm := nm) (by assumption)
    refine lv_aload_n hx hb d_Vs_link_8 rfl (lv_at hl 0 rfl) ?_
    refine ux_get (C := R_Vs) (T := F_Vs) (N := 2) hx hb hT in_Vs hown hK hP (by decide) rfl rfl 1 (by decide) (hT _ fl_Vs_17) rfl d_Vs_link_9 ?_
    refine lv_iload_n hx hb d_Vs_link_12 rfl (lv_at hl 1 rfl) ?_
    refine lv_bipush (v := 26) hx hb d_Vs_link_13 (by decide) ?_
    refine lv_imul hx hb d_Vs_link_15 ?_
    refine lv_topi (fun x5 ex5 => ?_)
    try have fx5 : x5.toInt = f.toInt * 26 := by rw [ex5]; exact ti_mul (by (try rw [show (26 : Int32).toInt = 26 from rfl]); omega) (by (try rw [show (26 : Int32).toInt = 26 from rfl]); omega)
    refine lv_iload_n hx hb d_Vs_link_16 rfl (lv_at hl 2 rfl) ?_
    refine lv_iadd hx hb d_Vs_link_17 ?_
    refine lv_topi (fun x6 ex6 => ?_)
    try have fx6 : x6.toInt = x5.toInt + nm.toInt := by rw [ex6]; exact ti_add (by omega) (by omega)
    refine lv_iconst (v := 1) hx hb d_Vs_link_18 (by decide) ?_
    refine ux_zast hx hb hK hi hP hS (by decide) rfl ((vi (show 0 ≤ x6.toInt by omega) (show x6.toInt < ((208 : Nat) : Int) by omega))) d_Vs_link_19 (fun H locs hP hS => ?_)
    have hI := IvX_free (k := 17) (j := x6.toNatClampNeg) (v := vp_nar .boolean 1) hI (by unfold ppn; omega) (by unfold pch; omega)
    have hF := fr_wr (k := 17) (j := x6.toNatClampNeg) (v := vp_nar .boolean 1) hF (by unfold tVs; omega)
    generalize eM7 : ux_wr M 17 x6.toNatClampNeg (vp_nar .boolean 1) = M7 at hP hI hF
    exact W.vret hx hb hr (fun t ht hW => ⟨⟨M7, rfl, ⟨hI, hF, trivial⟩, by unfold ux_E; rw [ht]; exact hP⟩, hS.F ht⟩) hS.2.2 d_Vs_link_20

set_option maxHeartbeats 8000000 in
set_option maxRecDepth 100000 in
theorem s_Vs_open (l : Launch) (D : va_G) (ad : Nat → Nat) (cA : Nat → ClassId) (M : ux_M) (hI : IvX M) (f : Int32) : Met l y_Vs_open w_Vs_open ({ frames := 2, cells := 0, slots := 0, locals := 43 }) (va_Pc [.ref (ad 15), .int f] (ux_B D shX KX ad cA M)) (va_Qv (fun M1 => IvX M1 ∧ (∀ a b, ¬ tVs a b → M1 a b = M a b) ∧ (True)) (ux_E D shX KX ad cA) (ux_A KX ad)) 0 0 (ux_A KX ad) := by
  refine Met.ofW (cc := b_Vs_open) (maxL := 3) (ret := none) (by decide) rfl ?_
  intro p e s m args below meth c s₁ B hml hv
  obtain ⟨rfl, hP, hK, hi, hN⟩ := hv
  have hx := B.exec
  have hb := B.bytes
  have hr := B.returns
  have hts := atoms_spec (ws := w_Vs_open) B.pre
  have hown : s.vm.findClass R_Vs = some m.cls := findClass_of_methodNamed B.named
  have hlocks := B.notSynchronized
  have hT : ∀ w ∈ tb, w.before _ s = true := fun w h => hts w (List.mem_cons_of_mem _ h)
  have hS : va_S (ux_A KX ad) s.heap s.heap [] := va_S.rf
  have hl := lv_entry ([.ref (ad 15), .int f]) (n := 3) (Nat.le_of_ble_eq_true rfl)
  rw [lg_entry_eq]
  generalize (lg_sl ([.ref (ad 15), .int f]) ++ List.replicate (3 - (lg_sl ([.ref (ad 15), .int f])).length) Slot.unset).toArray = ls at hl ⊢
  have hl : lv_has ls 3 [(0, .ref (ad 15)), (1, .int f)] := hl
  have hF : ∀ a b, ¬ tVs a b → M a b = M a b := fun _ _ _ => rfl
  have cut22 : ∀ (nn : Nat) (i_2 : Int32) (Mc22 : ux_M) (H : Heap) (locs : List Loc) (ls : Array Slot), ((26 : Int) - i_2.toInt).toNat = nn → (0 ≤ i_2.toInt) → (0 ≤ f.toInt ∧ f.toInt < 8) → va_P D classes (ux_w shX KX ad cA Mc22) H → IvX Mc22 → (∀ a b, ¬ tVs a b → Mc22 a b = M a b) → va_S (ux_A KX ad) s.heap H locs → lv_has ls 3 [(0, .ref (ad 15)), (1, .int f), (2, .int i_2)] → W p l e (headSpec w_Vs_open ({ frames := 2, cells := 0, slots := 0, locals := 43 })).room s m (([.ref (ad 15), .int f] : List Value).toArray) below meth c H locs 0 0 (MQ below (va_Qv (fun M1 => IvX M1 ∧ (∀ a b, ¬ tVs a b → M1 a b = M a b) ∧ (True)) (ux_E D shX KX ad cA) (ux_A KX ad)) (([.ref (ad 15), .int f] : List Value).toArray) s 0 0 (ux_A KX ad)) (F0 m 22 ls []) := by
    intro nn
    induction nn using Nat.strongRecOn with
    | ind nn ih22 =>
      intro i_2 Mc22 H locs ls hn c22_0 c22_1 hP hI hF hS hl
      refine lv_iload_n hx hb d_Vs_open_22 rfl (lv_at hl 2 rfl) ?_
      refine lv_bipush (v := 26) hx hb d_Vs_open_23 (by decide) ?_
      refine lv_icmp_ge hx hb d_Vs_open_25 rfl (fun h1 => ?_) (fun h1 => ?_)
      · have g1 : 26 ≤ i_2.toInt := Int32.le_iff_toInt_le.mp h1
        have u1 := ti_hi i_2
        exact W.vret hx hb hr (fun t ht hW => ⟨⟨Mc22, rfl, ⟨hI, hF, trivial⟩, by unfold ux_E; rw [ht]; exact hP⟩, hS.F ht⟩) hS.2.2 d_Vs_open_46
      · have g1 : ¬ (26 ≤ i_2.toInt) := fun q => h1 (Int32.le_iff_toInt_le.mpr q)
        have w1 := ti_lo i_2
        refine lv_aload_n hx hb d_Vs_open_28 rfl (lv_at hl 0 rfl) ?_
        refine ux_get (C := R_Vs) (T := F_Vs) (N := 2) hx hb hT in_Vs hown hK hP (by decide) rfl rfl 1 (by decide) (hT _ fl_Vs_17) rfl d_Vs_open_29 ?_
        refine lv_iload_n hx hb d_Vs_open_32 rfl (lv_at hl 1 rfl) ?_
        refine lv_bipush (v := 26) hx hb d_Vs_open_33 (by decide) ?_
        refine lv_imul hx hb d_Vs_open_35 ?_
        refine lv_topi (fun x2 ex2 => ?_)
        try have fx2 : x2.toInt = f.toInt * 26 := by rw [ex2]; exact ti_mul (by (try rw [show (26 : Int32).toInt = 26 from rfl]); omega) (by (try rw [show (26 : Int32).toInt = 26 from rfl]); omega)
        refine lv_iload_n hx hb d_Vs_open_36 rfl (lv_at hl 2 rfl) ?_
        refine lv_iadd hx hb d_Vs_open_37 ?_
        refine lv_topi (fun x3 ex3 => ?_)
        try have fx3 : x3.toInt = x2.toInt + i_2.toInt := by rw [ex3]; exact ti_add (by omega) (by omega)
        refine lv_iconst (v := 0) hx hb d_Vs_open_38 (by decide) ?_
        refine ux_zast hx hb hK hi hP hS (by decide) rfl ((vi (show 0 ≤ x3.toInt by omega) (show x3.toInt < ((208 : Nat) : Int) by omega))) d_Vs_open_39 (fun H locs hP hS => ?_)
        have hI := IvX_free (k := 17) (j := x3.toNatClampNeg) (v := vp_nar .boolean 0) hI (by unfold ppn; omega) (by unfold pch; omega)
        have hF := fr_wr (k := 17) (j := x3.toNatClampNeg) (v := vp_nar .boolean 0) hF (by unfold tVs; omega)
        generalize eM4 : ux_wr Mc22 17 x3.toNatClampNeg (vp_nar .boolean 0) = M4 at hP hI hF
        obtain ⟨x5, ex5⟩ : ∃ z : Int32, z = i_2 + 1 := ⟨_, rfl⟩
        refine lv_iinc (k := 2) (v := x5) hx hb d_Vs_open_40 hl rfl ex5.symm (by decide) rfl (fun ls hl => ?_)
        have hl : lv_has ls 3 [(2, .int x5), (0, .ref (ad 15)), (1, .int f)] := hl
        try have fx5 : x5.toInt = i_2.toInt + 1 := by rw [ex5]; exact ti_add (by (try rw [show (1 : Int32).toInt = 1 from rfl]); omega) (by (try rw [show (1 : Int32).toInt = 1 from rfl]); omega)
        refine lv_goto hx hb d_Vs_open_43 rfl ?_
        exact ih22 (((26 : Int) - x5.toInt).toNat) (by omega) x5 M4 _ _ ls rfl (show 0 ≤ x5.toInt from by first | omega | assumption | exact Or.inl rfl | exact Or.inr rfl | rfl | decide) (show 0 ≤ f.toInt ∧ f.toInt < 8 from by first | omega | assumption | exact Or.inl rfl | exact Or.inr rfl | rfl | decide) hP hI hF hS (lv_sub hl [1, 2, 0] rfl)
  refine lv_iload_n hx hb d_Vs_open_0 rfl (lv_at hl 1 rfl) ?_
  refine lv_if_lt hx hb d_Vs_open_1 rfl (fun h6 => ?_) (fun h6 => ?_)
  · have g6 : f.toInt < 0 := Int32.lt_iff_toInt_lt.mp h6
    have w6 := ti_lo f
    exact W.vret hx hb hr (fun t ht hW => ⟨⟨M, rfl, ⟨hI, hF, trivial⟩, by unfold ux_E; rw [ht]; exact hP⟩, hS.F ht⟩) hS.2.2 d_Vs_open_10
  · have g6 : ¬ (f.toInt < 0) := fun q => h6 (Int32.lt_iff_toInt_lt.mpr q)
    have u6 := ti_hi f
    refine lv_iload_n hx hb d_Vs_open_4 rfl (lv_at hl 1 rfl) ?_
    refine lv_bipush (v := 8) hx hb d_Vs_open_5 (by decide) ?_
    refine lv_icmp_lt hx hb d_Vs_open_7 rfl (fun h7 => ?_) (fun h7 => ?_)
    · have g7 : f.toInt < 8 := Int32.lt_iff_toInt_lt.mp h7
      have w7 := ti_lo f
      refine lv_aload_n hx hb d_Vs_open_11 rfl (lv_at hl 0 rfl) ?_
      refine ux_get (C := R_Vs) (T := F_Vs) (N := 2) hx hb hT in_Vs hown hK hP (by decide) rfl rfl 0 (by decide) (hT _ fl_Vs_11) rfl d_Vs_open_12 ?_
      refine lv_iload_n hx hb d_Vs_open_15 rfl (lv_at hl 1 rfl) ?_
      refine ux_aald hx hb hK hP (by decide) rfl rfl ((vi (show 0 ≤ f.toInt by omega) (show f.toInt < ((8 : Nat) : Int) by omega))) d_Vs_open_16 ?_
      obtain ⟨v8, hv8, ev8⟩ := gF8 (f := f) (by omega) (by omega)
      rw [show gX16 f.toNatClampNeg = 18 + 3 * v8 from ev8]
      refine ux_callv (va_runV ⟨hx, hb, hml, hown, hts⟩ (c_Vl_forgetAll l D shX KX ad cA M (18 + 3 * v8) (19 + 3 * v8) (20 + 3 * v8) 26 (VF_fr hv8)) (cwV 0 hts (tb_goodV ml_Vs_24 im_Vl_forgetAll se_Vl_forgetAll ii_Vl kt_Vl_forgetAll) rfl rfl rfl (by decide +kernel) ⟨Nat.le_of_ble_eq_true rfl, Nat.le_of_ble_eq_true rfl⟩) (ux_preV (fk 18 (by decide) hv8) (F18 hv8) rfl hP hK hi hN) rfl rfl hl.1 rfl (lv_room (Nat.le_of_ble_eq_true rfl)) d_Vs_open_17 ⟨Nat.zero_le _, Nat.zero_le _⟩) hS (fun M9 H locs q10 hP hS => ?_)
      have fq10 := vfill_off (M := M) (k := 20 + 3 * v8) (n := 26) (v := -1)
      rw [← q10] at fq10
      have hI : IvX M9 := by rw [q10]; exact vfill_I hI (fun b => by unfold ppn; omega) (by unfold pch; omega)
      have hF := fr_call hF fq10 (fun a b q => by unfold tV1 at q; unfold tVs; omega)
      refine lv_iconst (v := 0) hx hb d_Vs_open_20 (by decide) ?_
      refine lv_istore_n hx hb d_Vs_open_21 rfl hl (by decide) rfl (fun ls hl => ?_)
      have hl : lv_has ls 3 [(2, .int 0), (0, .ref (ad 15)), (1, .int f)] := hl
      exact cut22 (((26 : Int) - 0).toNat) 0 M9 _ _ ls rfl (show 0 ≤ 0 from by first | omega | assumption | exact Or.inl rfl | exact Or.inr rfl | rfl | decide) (show 0 ≤ f.toInt ∧ f.toInt < 8 from by first | omega | assumption | exact Or.inl rfl | exact Or.inr rfl | rfl | decide) hP hI hF hS (lv_sub hl [1, 2, 0] rfl)
    · have g7 : ¬ (f.toInt < 8) := fun q => h7 (Int32.lt_iff_toInt_lt.mpr q)
      have u7 := ti_hi f
      exact W.vret hx hb hr (fun t ht hW => ⟨⟨M, rfl, ⟨hI, hF, trivial⟩, by unfold ux_E; rw [ht]; exact hP⟩, hS.F ht⟩) hS.2.2 d_Vs_open_10

set_option maxHeartbeats 8000000 in
set_option maxRecDepth 100000 in
theorem s_Pd_define (l : Launch) (D : va_G) (ad : Nat → Nat) (cA : Nat → ClassId) (M : ux_M) (hI : IvX M) (p1 pr1 a b : Int32) : Met l y_Pd_define w_Pd_define ({ frames := 0, cells := 0, slots := 0, locals := 0 }) (va_Pc [.ref (ad 42), .int p1, .int pr1, .int a, .int b] (ux_B D shX KX ad cA M)) (va_Qv (fun M1 => IvX M1 ∧ (∀ a b, ¬ tPd a b → M1 a b = M a b) ∧ (True)) (ux_E D shX KX ad cA) (ux_A KX ad)) 0 0 (ux_A KX ad) := by
  refine Met.ofW (cc := b_Pd_define) (maxL := 5) (ret := none) (by decide) rfl ?_
  intro p e s m args below meth c s₁ B hml hv
  obtain ⟨rfl, hP, hK, hi, hN⟩ := hv
  have hx := B.exec
  have hb := B.bytes
  have hr := B.returns
  have hts := atoms_spec (ws := w_Pd_define) B.pre
  have hown : s.vm.findClass R_Pd = some m.cls := findClass_of_methodNamed B.named
  have hlocks := B.notSynchronized
  have hT : ∀ w ∈ tb, w.before _ s = true := fun w h => hts w (List.mem_cons_of_mem _ h)
  have hS : va_S (ux_A KX ad) s.heap s.heap [] := va_S.rf
  have hl := lv_entry ([.ref (ad 42), .int p1, .int pr1, .int a, .int b]) (n := 5) (Nat.le_of_ble_eq_true rfl)
  rw [lg_entry_eq]
  generalize (lg_sl ([.ref (ad 42), .int p1, .int pr1, .int a, .int b]) ++ List.replicate (5 - (lg_sl ([.ref (ad 42), .int p1, .int pr1, .int a, .int b])).length) Slot.unset).toArray = ls at hl ⊢
  have hl : lv_has ls 5 [(0, .ref (ad 42)), (1, .int p1), (2, .int pr1), (3, .int a), (4, .int b)] := hl
  have hF : ∀ a b, ¬ tPd a b → M a b = M a b := fun _ _ _ => rfl
  refine lv_iload_n hx hb d_Pd_define_0 rfl (lv_at hl 1 rfl) ?_
  refine lv_if_lt hx hb d_Pd_define_1 rfl (fun h1 => ?_) (fun h1 => ?_)
  · have g1 : p1.toInt < 0 := Int32.lt_iff_toInt_lt.mp h1
    have w1 := ti_lo p1
    exact W.vret hx hb hr (fun t ht hW => ⟨⟨M, rfl, ⟨hI, hF, trivial⟩, by unfold ux_E; rw [ht]; exact hP⟩, hS.F ht⟩) hS.2.2 d_Pd_define_32
  · have g1 : ¬ (p1.toInt < 0) := fun q => h1 (Int32.lt_iff_toInt_lt.mpr q)
    have u1 := ti_hi p1
    refine lv_iload_n hx hb d_Pd_define_4 rfl (lv_at hl 1 rfl) ?_
    refine lv_bipush (v := 26) hx hb d_Pd_define_5 (by decide) ?_
    refine lv_icmp_ge hx hb d_Pd_define_7 rfl (fun h2 => ?_) (fun h2 => ?_)
    · have g2 : 26 ≤ p1.toInt := Int32.le_iff_toInt_le.mp h2
      have u2 := ti_hi p1
      exact W.vret hx hb hr (fun t ht hW => ⟨⟨M, rfl, ⟨hI, hF, trivial⟩, by unfold ux_E; rw [ht]; exact hP⟩, hS.F ht⟩) hS.2.2 d_Pd_define_32
    · have g2 : ¬ (26 ≤ p1.toInt) := fun q => h2 (Int32.le_iff_toInt_le.mpr q)
      have w2 := ti_lo p1
      refine lv_aload_n hx hb d_Pd_define_10 rfl (lv_at hl 0 rfl) ?_
      refine ux_get (C := R_Pd) (T := F_Pd) (N := 3) hx hb hT in_Pd hown hK hP (by decide) rfl rfl 0 (by decide) (hT _ fl_Pd_9) rfl d_Pd_define_11 ?_
      refine lv_iload_n hx hb d_Pd_define_14 rfl (lv_at hl 1 rfl) ?_
      refine lv_iload_n hx hb d_Pd_define_15 rfl (lv_at hl 3 rfl) ?_
      refine ux_iast hx hb hK hi hP hS (by decide) rfl ((vi (show 0 ≤ p1.toInt by omega) (show p1.toInt < ((26 : Nat) : Int) by omega))) d_Pd_define_16 (fun H locs hP hS => ?_)
      have hI := IvX_free (k := 45) (j := p1.toNatClampNeg) (v := a) hI (by unfold ppn; omega) (by unfold pch; omega)
      have hF := fr_wr (k := 45) (j := p1.toNatClampNeg) (v := a) hF (by unfold tPd; omega)
      generalize eM3 : ux_wr M 45 p1.toNatClampNeg a = M3 at hP hI hF
      refine lv_aload_n hx hb d_Pd_define_17 rfl (lv_at hl 0 rfl) ?_
      refine ux_get (C := R_Pd) (T := F_Pd) (N := 3) hx hb hT in_Pd hown hK hP (by decide) rfl rfl 1 (by decide) (hT _ fl_Pd_15) rfl d_Pd_define_18 ?_
      refine lv_iload_n hx hb d_Pd_define_21 rfl (lv_at hl 1 rfl) ?_
      refine lv_iload hx hb d_Pd_define_22 (lv_at hl 4 rfl) ?_
      refine ux_iast hx hb hK hi hP hS (by decide) rfl ((vi (show 0 ≤ p1.toInt by omega) (show p1.toInt < ((26 : Nat) : Int) by omega))) d_Pd_define_24 (fun H locs hP hS => ?_)
      have hI := IvX_free (k := 43) (j := p1.toNatClampNeg) (v := b) hI (by unfold ppn; omega) (by unfold pch; omega)
      have hF := fr_wr (k := 43) (j := p1.toNatClampNeg) (v := b) hF (by unfold tPd; omega)
      generalize eM4 : ux_wr M3 43 p1.toNatClampNeg b = M4 at hP hI hF
      refine lv_aload_n hx hb d_Pd_define_25 rfl (lv_at hl 0 rfl) ?_
      refine ux_get (C := R_Pd) (T := F_Pd) (N := 3) hx hb hT in_Pd hown hK hP (by decide) rfl rfl 2 (by decide) (hT _ fl_Pd_18) rfl d_Pd_define_26 ?_
      refine lv_iload_n hx hb d_Pd_define_29 rfl (lv_at hl 1 rfl) ?_
      refine lv_iload_n hx hb d_Pd_define_30 rfl (lv_at hl 2 rfl) ?_
      refine ux_iast hx hb hK hi hP hS (by decide) rfl ((vi (show 0 ≤ p1.toInt by omega) (show p1.toInt < ((26 : Nat) : Int) by omega))) d_Pd_define_31 (fun H locs hP hS => ?_)
      have hI := IvX_free (k := 44) (j := p1.toNatClampNeg) (v := pr1) hI (by unfold ppn; omega) (by unfold pch; omega)
      have hF := fr_wr (k := 44) (j := p1.toNatClampNeg) (v := pr1) hF (by unfold tPd; omega)
      generalize eM5 : ux_wr M4 44 p1.toNatClampNeg pr1 = M5 at hP hI hF
      exact W.vret hx hb hr (fun t ht hW => ⟨⟨M5, rfl, ⟨hI, hF, trivial⟩, by unfold ux_E; rw [ht]; exact hP⟩, hS.F ht⟩) hS.2.2 d_Pd_define_32
