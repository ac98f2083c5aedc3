/-! Arrays.fill over a row of ints, and Values.forgetAll -/
theorem tb_goodST {c d : Cond} {own : String} {idx : Nat} {y : MethodName} (h1 : Cond.methodLink own idx y ∈ tb) (h2 : Cond.static y ∈ tb) (h3 : Cond.initialized y.cls ∈ tb) (hd : d ∈ tb) : GoodIn (c :: tb) (va_wsS own idx y (d :: tb)) := by
  intro w hw
  have hw : w ∈ ([.methodLink own idx y, .static y, .initialized y.cls] : List Cond) ++ (d :: tb) := hw
  have hin : w ∈ tb := by
    rcases List.mem_append.mp hw with h | h
    · simp only [List.mem_cons, List.not_mem_nil, or_false] at h
      rcases h with rfl | rfl | rfl <;> assumption
    · rcases List.mem_cons.mp h with rfl | h
      · exact hd
      · exact h
  exact ⟨List.mem_cons_of_mem _ hin, good_of_word (List.mem_filter.mp hin).2⟩
def vfill (M : ux_M) (k n : Nat) (v : Int32) : ux_M := fun a b => if a = k ∧ b < n then v else M a b
theorem vfill_0 (M : ux_M) (k : Nat) (v : Int32) : vfill M k 0 v = M := by
  funext a b
  simp [vfill]
theorem vfill_s (M : ux_M) (k i : Nat) (v : Int32) : ux_wr (vfill M k i v) k i v = vfill M k (i + 1) v := by
  funext a b
  by_cases ha : a = k
  · subst ha
    by_cases hb : b = i
    · subst hb
      rw [ux_wr_at]
      simp [vfill]
    · rw [ux_wr_off (Or.inr hb)]
      simp only [vfill, true_and]
      by_cases h : b < i
      · rw [if_pos h, if_pos (by omega)]
      · rw [if_neg h, if_neg (by omega)]
  · rw [ux_wr_ne ha]
    simp [vfill, ha]
set_option maxHeartbeats 4000000 in
set_option maxRecDepth 100000 in
theorem c_Ar_fill (l : Launch) (D : va_G) (sh : Nat → ux_S) (K : Nat) (ad : Nat → Nat) (cA : Nat → ClassId) (M : ux_M) (k n : Nat) (v : Int32) (hk : k < K) (hs : sh k = .inr (0, n, none)) (hn : n ≤ 1000) : Met l y_Ar_fill w_Ar_fill ({ frames := 0, cells := 0, slots := 0, locals := 0 }) (va_Pc [.ref (ad k), .int v] (ux_B D sh K ad cA M)) (va_Qv (fun M1 => M1 = vfill M k n v) (ux_E D sh K ad cA) (ux_A K ad)) 0 0 (ux_A K ad) := by
  refine Met.ofW (cc := b_Ar_fill) (maxL := 4) (ret := none) (by decide) rfl ?_
  intro p e s m args below meth c s₁ B hml hv
  obtain ⟨rfl, hP, hK, hi, hN⟩ := hv
  have hx := B.exec
  have hb := B.bytes
  have hr := B.returns
  have hlocks := B.notSynchronized
  have hS : va_S (ux_A K ad) s.heap s.heap [] := va_S.rf
  have loop : ∀ d i : Nat, i + d = n → ∀ (H : Heap) (locs : List Loc) (ls : Array Slot), va_P D classes (ux_w sh K ad cA (vfill M k i v)) H → va_S (ux_A K ad) s.heap H locs → lv_has ls 4 [(2, .int (nI i)), (3, .int (nI n)), (0, .ref (ad k)), (1, .int v)] →
      W p l e (headSpec w_Ar_fill { frames := 0, cells := 0, slots := 0, locals := 0 }).room s m ([.ref (ad k), .int v] : List Value).toArray below meth c H locs 0 0 (MQ below (va_Qv (fun M1 => M1 = vfill M k n v) (ux_E D sh K ad cA) (ux_A K ad)) ([.ref (ad k), .int v] : List Value).toArray s 0 0 (ux_A K ad)) (F0 m 5 ls []) := by
    intro d
    induction d with
    | zero =>
      intro i hid H locs ls hP hS hl
      have hie : i = n := by omega
      subst hie
      refine lv_iload_n hx hb d_Ar_fill_5 rfl (lv_at hl 0 rfl) ?_
      refine lv_iload_n hx hb d_Ar_fill_6 rfl (lv_at hl 1 rfl) ?_
      refine lv_icmp_ge hx hb d_Ar_fill_7 rfl (fun h1 => ?_) (fun h1 => absurd (nI_le (Nat.le_refl _) (by omega)) h1)
      exact W.vret hx hb hr (fun t ht hW => ⟨⟨vfill M k i v, rfl, rfl, by unfold ux_E; rw [ht]; exact hP⟩, hS.F ht⟩) hS.2.2 d_Ar_fill_20
    | succ d ih =>
      intro i hid H locs ls hP hS hl
      refine lv_iload_n hx hb d_Ar_fill_5 rfl (lv_at hl 0 rfl) ?_
      refine lv_iload_n hx hb d_Ar_fill_6 rfl (lv_at hl 1 rfl) ?_
      refine lv_icmp_ge hx hb d_Ar_fill_7 rfl (fun h1 => absurd h1 (nI_ge (by omega) (by omega))) (fun h1 => ?_)
      refine lv_aload_n hx hb d_Ar_fill_10 rfl (lv_at hl 2 rfl) ?_
      refine lv_iload_n hx hb d_Ar_fill_11 rfl (lv_at hl 0 rfl) ?_
      refine lv_iload_n hx hb d_Ar_fill_12 rfl (lv_at hl 3 rfl) ?_
      refine ux_iast hx hb hK hi hP hS hk hs (vp_in_nI (by omega) (by omega)) d_Ar_fill_13 (fun H locs hP hS => ?_)
      rw [nI_clamp (by omega), vfill_s] at hP
      refine lv_iinc (k := 0) (v := nI (i + 1)) hx hb d_Ar_fill_14 hl rfl (nI_1 i) (by decide) rfl (fun ls hl => ?_)
      have hl : lv_has ls 4 [(2, .int (nI (i + 1))), (3, .int (nI n)), (0, .ref (ad k)), (1, .int v)] := hl
      refine lv_goto hx hb d_Ar_fill_17 rfl ?_
      exact ih (i + 1) (by omega) H locs ls hP hS hl
  have hl := lv_entry ([.ref (ad k), .int v]) (n := 4) (Nat.le_of_ble_eq_true rfl)
  rw [lg_entry_eq]
  generalize (lg_sl ([.ref (ad k), .int v]) ++ List.replicate (4 - (lg_sl ([.ref (ad k), .int v])).length) Slot.unset).toArray = ls at hl ⊢
  have hl : lv_has ls 4 [(0, .ref (ad k)), (1, .int v)] := hl
  refine lv_iconst (v := 0) hx hb d_Ar_fill_0 (by decide) ?_
  refine lv_istore_n hx hb d_Ar_fill_1 rfl hl (by decide) rfl (fun ls hl => ?_)
  have hl : lv_has ls 4 [(2, .int 0), (0, .ref (ad k)), (1, .int v)] := hl
  refine lv_aload_n hx hb d_Ar_fill_2 rfl (lv_at hl 1 rfl) ?_
  refine ux_alen hx hb hK hP hk hs rfl d_Ar_fill_3 ?_
  refine lv_istore_n hx hb d_Ar_fill_4 rfl hl (by decide) rfl (fun ls hl => ?_)
  have hl : lv_has ls 4 [(3, .int (nI n)), (2, .int 0), (0, .ref (ad k)), (1, .int v)] := hl
  have hl := lv_sub (l' := [(2, .int (nI 0)), (3, .int (nI n)), (0, .ref (ad k)), (1, .int v)]) hl [1, 0, 2, 3] rfl
  exact loop n 0 (by omega) s.heap [] ls (by rw [vfill_0]; exact hP) hS hl
set_option maxHeartbeats 4000000 in
set_option maxRecDepth 100000 in
theorem c_Vl_forgetAll (l : Launch) (D : va_G) (sh : Nat → ux_S) (K : Nat) (ad : Nat → Nat) (cA : Nat → ClassId) (M : ux_M) (k kl ks n : Nat) (hV : ux_V sh K k kl ks n) : Met l y_Vl_forgetAll w_Vl_forgetAll ({ frames := 1, cells := 0, slots := 0, locals := 23 }) (va_Pc [.ref (ad k)] (ux_B D sh K ad cA M)) (va_Qv (fun M1 => M1 = vfill M ks n (-1)) (ux_E D sh K ad cA) (ux_A K ad)) 0 0 (ux_A K ad) := by
  obtain ⟨hk, hkl, hks, hs, hsl, hss, hn⟩ := hV
  refine Met.ofW (cc := b_Vl_forgetAll) (maxL := 1) (ret := none) (by decide) rfl ?_
  intro p e s m args below meth c s₁ B hml hv
  obtain ⟨rfl, hP, hK, hi, hN⟩ := hv
  have hx := B.exec
  have hb := B.bytes
  have hr := B.returns
  have hts := atoms_spec (ws := w_Vl_forgetAll) B.pre
  have hown : s.vm.findClass R_Vl = some m.cls := findClass_of_methodNamed B.named
  have hlocks := B.notSynchronized
  have hT : ∀ w ∈ tb, w.before _ s = true := fun w h => hts w (List.mem_cons_of_mem _ h)
  have hS : va_S (ux_A K ad) s.heap s.heap [] := va_S.rf
  have hl := lv_entry ([.ref (ad k)]) (n := 1) (Nat.le_of_ble_eq_true rfl)
  rw [lg_entry_eq]
  generalize (lg_sl ([.ref (ad k)]) ++ List.replicate (1 - (lg_sl ([.ref (ad k)])).length) Slot.unset).toArray = ls at hl ⊢
  have hl : lv_has ls 1 [(0, .ref (ad k))] := hl
  refine lv_aload_n hx hb d_Vl_forgetAll_0 rfl (lv_at hl 0 rfl) ?_
  refine ux_get (C := R_Vl) (T := F_Vl) (N := 2) hx hb hT in_Vl hown hK hP hk hs rfl 1 (by decide) (hT _ fl_Vl_15) rfl d_Vl_forgetAll_1 ?_
  refine lv_iconst (v := (-1)) hx hb d_Vl_forgetAll_4 (by decide) ?_
  refine ux_callv (va_runS ⟨hx, hb, hml, hown, hts⟩ (c_Ar_fill l D sh K ad cA M ks n (-1) hks hss hn) (va_cwS 2 hts (tb_goodST ml_Vl_19 sm_Ar_fill ii_Ar kt_Ar_fill) rfl rfl rfl (by decide +kernel) ⟨Nat.le_of_ble_eq_true rfl, Nat.le_of_ble_eq_true rfl⟩) (ux_pre hP hK hi hN) rfl rfl hl.1 rfl (lv_room (Nat.le_of_ble_eq_true rfl)) d_Vl_forgetAll_5 ⟨Nat.zero_le _, Nat.zero_le _⟩) hS (fun M1 H locs q hP hS => ?_)
  exact W.vret hx hb hr (fun t ht hW => ⟨⟨M1, rfl, q, by unfold ux_E; rw [ht]; exact hP⟩, hS.F ht⟩) hS.2.2 d_Vl_forgetAll_8
