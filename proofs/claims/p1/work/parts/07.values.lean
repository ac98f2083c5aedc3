/-! A first method by hand: Values.sizeOf -/
set_option maxHeartbeats 4000000 in
set_option maxRecDepth 100000 in
theorem c_Vl_sizeOf (l : Launch) (D : va_G) (sh : Nat → ux_S) (K : Nat) (ad : Nat → Nat) (cA : Nat → ClassId) (M : ux_M) (k kl ks n : Nat) (i : Int32) (hk : k < K) (hks : ks < K) (hs : sh k = .inl (4, [some kl, some ks])) (hss : sh ks = .inr (0, n, none)) (hn : n < 2 ^ 31) :
    Met l y_Vl_sizeOf w_Vl_sizeOf ({ frames := 0, cells := 0, slots := 0, locals := 0 }) (va_Pc [.ref (ad k), .int i] (ux_B D sh K ad cA M)) (va_Qi (fun r M1 => M1 = M ∧ ((vp_in i n → r = M ks i.toNatClampNeg) ∧ (¬ vp_in i n → r = -1))) (ux_E D sh K ad cA) (ux_A K ad)) 0 0 (ux_A K ad) := by
  refine Met.ofW (cc := b_Vl_sizeOf) (maxL := 2) (ret := (some .int)) (by decide) rfl ?_
  intro p e s m args below meth c s₁ B hml hv
  obtain ⟨rfl, hP, hK, hi, hN⟩ := hv
  have hx := B.exec
  have hb := B.bytes
  have hr := B.returns
  have hts := atoms_spec (ws := w_Vl_sizeOf) B.pre
  have hown : s.vm.findClass R_Vl = some m.cls := findClass_of_methodNamed B.named
  have hlocks := B.notSynchronized
  have hT : ∀ w ∈ tb, w.before _ s = true := fun w h => hts w (List.mem_cons_of_mem _ h)
  have hS : va_S (ux_A K ad) s.heap s.heap [] := va_S.rf
  have hl := lv_entry ([.ref (ad k), .int i]) (n := 2) (Nat.le_of_ble_eq_true rfl)
  rw [lg_entry_eq]
  generalize (lg_sl ([.ref (ad k), .int i]) ++ List.replicate (2 - (lg_sl ([.ref (ad k), .int i])).length) Slot.unset).toArray = ls at hl ⊢
  have hl : lv_has ls 2 [(0, .ref (ad k)), (1, .int i)] := hl
  refine lv_iload_n hx hb d_Vl_sizeOf_0 rfl (lv_at hl 1 rfl) ?_
  refine lv_if_lt hx hb d_Vl_sizeOf_1 rfl (fun h1 => ?_) (fun h1 => ?_)
  · refine lv_iconst (v := -1) hx hb d_Vl_sizeOf_22 (by decide) ?_
    exact W.iret (v := -1) hx hb hr (fun t ht hW => ⟨⟨-1, M, rfl, ⟨rfl, fun h => absurd (Or.inl h1) h, fun _ => rfl⟩, by unfold ux_E; rw [ht]; exact hP⟩, hS.F ht⟩) hS.2.2 d_Vl_sizeOf_23
  · refine lv_iload_n hx hb d_Vl_sizeOf_4 rfl (lv_at hl 1 rfl) ?_
    refine lv_aload_n hx hb d_Vl_sizeOf_5 rfl (lv_at hl 0 rfl) ?_
    refine ux_get (C := R_Vl) (T := F_Vl) (N := 2) hx hb hT in_Vl hown hK hP hk hs rfl 1 (by decide) (hT _ fl_Vl_15) rfl d_Vl_sizeOf_6 ?_
    refine ux_alen hx hb hK hP hks hss rfl d_Vl_sizeOf_9 ?_
    refine lv_icmp_ge hx hb d_Vl_sizeOf_10 rfl (fun h2 => ?_) (fun h2 => ?_)
    · refine lv_iconst (v := -1) hx hb d_Vl_sizeOf_22 (by decide) ?_
      exact W.iret (v := -1) hx hb hr (fun t ht hW => ⟨⟨-1, M, rfl, ⟨rfl, fun h => absurd h (by rw [vp_in_iff]; rw [Int32.le_iff_toInt_le, nI_toInt hn] at h2; omega), fun _ => rfl⟩, by unfold ux_E; rw [ht]; exact hP⟩, hS.F ht⟩) hS.2.2 d_Vl_sizeOf_23
    · have hv : vp_in i n := by
        rw [vp_in_iff]; rw [Int32.le_iff_toInt_le, nI_toInt hn] at h2; rw [Int32.lt_iff_toInt_lt] at h1; simp at h1; omega
      refine lv_aload_n hx hb d_Vl_sizeOf_13 rfl (lv_at hl 0 rfl) ?_
      refine ux_get (C := R_Vl) (T := F_Vl) (N := 2) hx hb hT in_Vl hown hK hP hk hs rfl 1 (by decide) (hT _ fl_Vl_15) rfl d_Vl_sizeOf_14 ?_
      refine lv_iload_n hx hb d_Vl_sizeOf_17 rfl (lv_at hl 1 rfl) ?_
      refine ux_iald hx hb hK hP hks hss hv d_Vl_sizeOf_18 ?_
      refine lv_goto hx hb d_Vl_sizeOf_19 rfl ?_
      exact W.iret hx hb hr (fun t ht hW => ⟨⟨_, M, rfl, ⟨rfl, fun _ => rfl, fun h => absurd hv h⟩, by unfold ux_E; rw [ht]; exact hP⟩, hS.F ht⟩) hS.2.2 d_Vl_sizeOf_23
