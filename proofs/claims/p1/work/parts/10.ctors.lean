/-! Constructors, written by wip/gen/ctor.py -/
set_option maxHeartbeats 4000000 in
set_option maxRecDepth 100000 in
theorem c_Tx_init (l : Launch) (D : va_G) (cA : Nat → ClassId) (h0 sz : Nat) : Met l y_Tx_init w_Tx_init ({ frames := 1, cells := 1, slots := 200, locals := 12 }) (va_Pc [.ref h0] (ux_C D cA sz [(h0, .inr (1, [.null, .int 0, .int 0]))])) (va_Qv (fun _ : Unit => True) (fun _ t => ∃ q1 : Nat, va_P D classes [(h0, .inr (1, [.ref q1, .int 0, .int 0])), (q1, .inl (cA 1, 200, .inl (fun _ => 0)))] t.heap ∧ va_D (va_A [(h0, .inr (1, [.null, .int 0, .int 0]))] sz) [(h0, .inr (1, [.ref q1, .int 0, .int 0])), (q1, .inl (cA 1, 200, .inl (fun _ => 0)))]) (va_A [(h0, .inr (1, [.null, .int 0, .int 0]))] sz)) 1 200 (va_A [(h0, .inr (1, [.null, .int 0, .int 0]))] sz) := by
  refine Met.ofW (cc := b_Tx_init) (maxL := 1) (ret := none) (by decide) rfl ?_
  intro p e s m args below meth c s₁ B hml hv
  obtain ⟨rfl, hsz, hP, hK, hD0, hN⟩ := hv
  have hx := B.exec
  have hb := B.bytes
  have hr := B.returns
  have hts := atoms_spec (ws := w_Tx_init) B.pre
  have hown : s.vm.findClass R_Tx = some m.cls := findClass_of_methodNamed B.named
  have hlocks := B.notSynchronized
  have hin : meth.name = "<init>" := (name_of_methodNamed B.named B.method).1
  have hT : ∀ w ∈ tb, w.before _ s = true := fun w h => hts w (List.mem_cons_of_mem _ h)
  subst hsz
  have hD := hD0.self (sz := s.heap.size)
  generalize hAe : va_A [(h0, .inr (1, [.null, .int 0, .int 0]))] s.heap.size = A at hD ⊢
  have hA : ∀ q : Nat, s.heap.size ≤ q → A q := fun q h => by rw [← hAe]; exact Or.inr h
  have hS : va_S A s.heap s.heap [] := va_S.rf
  have hP : va_P D classes [(h0, .inr (1, [.null, .int 0, .int 0]))] s.heap := hP
  have hHH : s.heap = s.heap := rfl
  have hl := lv_entry ([.ref h0]) (n := 1) (Nat.le_of_ble_eq_true rfl)
  rw [lg_entry_eq]
  generalize (lg_sl ([.ref h0]) ++ List.replicate (1 - (lg_sl ([.ref h0])).length) Slot.unset).toArray = ls at hl ⊢
  have hl : lv_has ls 1 [(0, .ref h0)] := hl
  refine lv_aload_n hx hb d_Tx_init_0 rfl (lv_at hl 0 rfl) ?_
  refine W.objInit hx hb hown (hT _ ml_Tx_3) (hT _ im_Ob_init) (hT _ kt_Ob_init) rfl (by rw [hml]; exact hl.1) rfl d_Tx_init_1 (Nat.le_of_ble_eq_true rfl) (Nat.le_of_ble_eq_true rfl) ?_
  refine W.eq (g2 := F0 m 4 ls []) rfl ?_
  refine lv_aload_n hx hb d_Tx_init_4 rfl (lv_at hl 0 rfl) ?_
  refine lv_sipush (v := 200) hx hb d_Tx_init_5 (by decide) ?_
  refine ux_newa 1 hx hb (atype := .char) (ty := .char) (N' := 200) (hT _ ac_char) rfl hK rfl hP hD hS hA (fun _ => rfl) (by decide) (by decide) (by decide) (Nat.le_of_ble_eq_true rfl) (Nat.le_of_ble_eq_true rfl) d_Tx_init_8 (fun q1 H hP hD hS => ?_)
  have hP : va_P D classes [(h0, .inr (1, [.null, .int 0, .int 0])), (q1, .inl (cA 1, 200, .inl (fun _ => 0)))] H := hP
  have hD : va_D A [(h0, .inr (1, [.null, .int 0, .int 0])), (q1, .inl (cA 1, 200, .inl (fun _ => 0)))] := hD
  refine W.widen (k := 1) (n := 200) (Nat.le_of_ble_eq_true rfl) (Nat.le_of_ble_eq_true rfl) ?_
  refine va_putF (D := D) (ci := 1) (v := .ref q1) (ty := .array .char) (C := R_Tx) (T := F_Tx) (N := 3) hx hb hT in_Tx t_Tx t_Tx_ok n_Tx hown hK hP hD hS 0 rfl rfl 0 (by decide) (hT _ fl_Tx_9) (fun _ h9 => h9) rfl hin rfl (by decide +kernel) rfl rfl (Nat.le_of_ble_eq_true rfl) d_Tx_init_10 (fun H locs hP hD hS => ?_)
  have hP : va_P D classes [(h0, .inr (1, [.ref q1, .int 0, .int 0])), (q1, .inl (cA 1, 200, .inl (fun _ => 0)))] H := hP
  have hD : va_D A [(h0, .inr (1, [.ref q1, .int 0, .int 0])), (q1, .inl (cA 1, 200, .inl (fun _ => 0)))] := hD
  exact W.vret hx hb hr (fun t ht hW => ⟨⟨(), rfl, trivial, q1, by rw [ht]; exact hP, hD⟩, hS.F ht⟩) hS.2.2 d_Tx_init_13

set_option maxHeartbeats 4000000 in
set_option maxRecDepth 100000 in
theorem c_Lg_init (l : Launch) (D : va_G) (cA : Nat → ClassId) (h0 sz : Nat) : Met l y_Lg_init w_Lg_init ({ frames := 1, cells := 1, slots := 40, locals := 12 }) (va_Pc [.ref h0] (ux_C D cA sz [(h0, .inr (3, [.null, .int 0]))])) (va_Qv (fun _ : Unit => True) (fun _ t => ∃ q1 : Nat, va_P D classes [(h0, .inr (3, [.ref q1, .int 0])), (q1, .inl (cA 0, 40, .inl (fun _ => 0)))] t.heap ∧ va_D (va_A [(h0, .inr (3, [.null, .int 0]))] sz) [(h0, .inr (3, [.ref q1, .int 0])), (q1, .inl (cA 0, 40, .inl (fun _ => 0)))]) (va_A [(h0, .inr (3, [.null, .int 0]))] sz)) 1 40 (va_A [(h0, .inr (3, [.null, .int 0]))] sz) := by
  refine Met.ofW (cc := b_Lg_init) (maxL := 1) (ret := none) (by decide) rfl ?_
  intro p e s m args below meth c s₁ B hml hv
  obtain ⟨rfl, hsz, hP, hK, hD0, hN⟩ := hv
  have hx := B.exec
  have hb := B.bytes
  have hr := B.returns
  have hts := atoms_spec (ws := w_Lg_init) B.pre
  have hown : s.vm.findClass R_Lg = some m.cls := findClass_of_methodNamed B.named
  have hlocks := B.notSynchronized
  have hin : meth.name = "<init>" := (name_of_methodNamed B.named B.method).1
  have hT : ∀ w ∈ tb, w.before _ s = true := fun w h => hts w (List.mem_cons_of_mem _ h)
  subst hsz
  have hD := hD0.self (sz := s.heap.size)
  generalize hAe : va_A [(h0, .inr (3, [.null, .int 0]))] s.heap.size = A at hD ⊢
  have hA : ∀ q : Nat, s.heap.size ≤ q → A q := fun q h => by rw [← hAe]; exact Or.inr h
  have hS : va_S A s.heap s.heap [] := va_S.rf
  have hP : va_P D classes [(h0, .inr (3, [.null, .int 0]))] s.heap := hP
  have hHH : s.heap = s.heap := rfl
  have hl := lv_entry ([.ref h0]) (n := 1) (Nat.le_of_ble_eq_true rfl)
  rw [lg_entry_eq]
  generalize (lg_sl ([.ref h0]) ++ List.replicate (1 - (lg_sl ([.ref h0])).length) Slot.unset).toArray = ls at hl ⊢
  have hl : lv_has ls 1 [(0, .ref h0)] := hl
  refine lv_aload_n hx hb d_Lg_init_0 rfl (lv_at hl 0 rfl) ?_
  refine W.objInit hx hb hown (hT _ ml_Lg_3) (hT _ im_Ob_init) (hT _ kt_Ob_init) rfl (by rw [hml]; exact hl.1) rfl d_Lg_init_1 (Nat.le_of_ble_eq_true rfl) (Nat.le_of_ble_eq_true rfl) ?_
  refine W.eq (g2 := F0 m 4 ls []) rfl ?_
  refine lv_aload_n hx hb d_Lg_init_4 rfl (lv_at hl 0 rfl) ?_
  refine lv_bipush (v := 40) hx hb d_Lg_init_5 (by decide) ?_
  refine ux_newa 0 hx hb (atype := .int) (ty := .int) (N' := 40) (hT _ ac_int) rfl hK rfl hP hD hS hA (fun _ => rfl) (by decide) (by decide) (by decide) (Nat.le_of_ble_eq_true rfl) (Nat.le_of_ble_eq_true rfl) d_Lg_init_7 (fun q1 H hP hD hS => ?_)
  have hP : va_P D classes [(h0, .inr (3, [.null, .int 0])), (q1, .inl (cA 0, 40, .inl (fun _ => 0)))] H := hP
  have hD : va_D A [(h0, .inr (3, [.null, .int 0])), (q1, .inl (cA 0, 40, .inl (fun _ => 0)))] := hD
  refine W.widen (k := 1) (n := 40) (Nat.le_of_ble_eq_true rfl) (Nat.le_of_ble_eq_true rfl) ?_
  refine va_putF (D := D) (ci := 3) (v := .ref q1) (ty := .array .int) (C := R_Lg) (T := F_Lg) (N := 2) hx hb hT in_Lg t_Lg t_Lg_ok n_Lg hown hK hP hD hS 0 rfl rfl 0 (by decide) (hT _ fl_Lg_9) (fun _ h9 => h9) rfl hin rfl (by decide +kernel) rfl rfl (Nat.le_of_ble_eq_true rfl) d_Lg_init_9 (fun H locs hP hD hS => ?_)
  have hP : va_P D classes [(h0, .inr (3, [.ref q1, .int 0])), (q1, .inl (cA 0, 40, .inl (fun _ => 0)))] H := hP
  have hD : va_D A [(h0, .inr (3, [.ref q1, .int 0])), (q1, .inl (cA 0, 40, .inl (fun _ => 0)))] := hD
  exact W.vret hx hb hr (fun t ht hW => ⟨⟨(), rfl, trivial, q1, by rw [ht]; exact hP, hD⟩, hS.F ht⟩) hS.2.2 d_Lg_init_12

set_option maxHeartbeats 4000000 in
set_option maxRecDepth 100000 in
theorem c_Lv_init (l : Launch) (D : va_G) (cA : Nat → ClassId) (h0 sz : Nat) : Met l y_Lv_init w_Lv_init ({ frames := 2, cells := 6, slots := 194, locals := 33 }) (va_Pc [.ref h0] (ux_C D cA sz [(h0, .inr (9, [.null, .null, .null, .null, .int 0, .int 0, .int 0, .int 0, .int 0, .int 0]))])) (va_Qv (fun _ : Unit => True) (fun _ t => ∃ q1 q2 q3 q4 q5 q6 : Nat, va_P D classes [(h0, .inr (9, [.ref q1, .ref q4, .ref q5, .ref q6, .int 0, .int 0, .int 0, .int 0, .int 0, .int 0])), (q1, .inr (4, [.ref q2, .ref q3])), (q2, .inl (cA 1, 160, .inl (fun _ => 0))), (q3, .inl (cA 0, 8, .inl (fun _ => 0))), (q4, .inl (cA 2, 8, .inl (fun _ => 0))), (q5, .inl (cA 0, 8, .inl (fun _ => 0))), (q6, .inl (cA 0, 8, .inl (fun _ => 0)))] t.heap ∧ va_D (va_A [(h0, .inr (9, [.null, .null, .null, .null, .int 0, .int 0, .int 0, .int 0, .int 0, .int 0]))] sz) [(h0, .inr (9, [.ref q1, .ref q4, .ref q5, .ref q6, .int 0, .int 0, .int 0, .int 0, .int 0, .int 0])), (q1, .inr (4, [.ref q2, .ref q3])), (q2, .inl (cA 1, 160, .inl (fun _ => 0))), (q3, .inl (cA 0, 8, .inl (fun _ => 0))), (q4, .inl (cA 2, 8, .inl (fun _ => 0))), (q5, .inl (cA 0, 8, .inl (fun _ => 0))), (q6, .inl (cA 0, 8, .inl (fun _ => 0)))]) (va_A [(h0, .inr (9, [.null, .null, .null, .null, .int 0, .int 0, .int 0, .int 0, .int 0, .int 0]))] sz)) 6 194 (va_A [(h0, .inr (9, [.null, .null, .null, .null, .int 0, .int 0, .int 0, .int 0, .int 0, .int 0]))] sz) := by
  refine Met.ofW (cc := b_Lv_init) (maxL := 1) (ret := none) (by decide) rfl ?_
  intro p e s m args below meth c s₁ B hml hv
  obtain ⟨rfl, hsz, hP, hK, hD0, hN⟩ := hv
  have hx := B.exec
  have hb := B.bytes
  have hr := B.returns
  have hts := atoms_spec (ws := w_Lv_init) B.pre
  have hown : s.vm.findClass R_Lv = some m.cls := findClass_of_methodNamed B.named
  have hlocks := B.notSynchronized
  have hin : meth.name = "<init>" := (name_of_methodNamed B.named B.method).1
  have hT : ∀ w ∈ tb, w.before _ s = true := fun w h => hts w (List.mem_cons_of_mem _ h)
  subst hsz
  have hD := hD0.self (sz := s.heap.size)
  generalize hAe : va_A [(h0, .inr (9, [.null, .null, .null, .null, .int 0, .int 0, .int 0, .int 0, .int 0, .int 0]))] s.heap.size = A at hD ⊢
  have hA : ∀ q : Nat, s.heap.size ≤ q → A q := fun q h => by rw [← hAe]; exact Or.inr h
  have hS : va_S A s.heap s.heap [] := va_S.rf
  have hP : va_P D classes [(h0, .inr (9, [.null, .null, .null, .null, .int 0, .int 0, .int 0, .int 0, .int 0, .int 0]))] s.heap := hP
  have hHH : s.heap = s.heap := rfl
  have hl := lv_entry ([.ref h0]) (n := 1) (Nat.le_of_ble_eq_true rfl)
  rw [lg_entry_eq]
  generalize (lg_sl ([.ref h0]) ++ List.replicate (1 - (lg_sl ([.ref h0])).length) Slot.unset).toArray = ls at hl ⊢
  have hl : lv_has ls 1 [(0, .ref h0)] := hl
  refine lv_aload_n hx hb d_Lv_init_0 rfl (lv_at hl 0 rfl) ?_
  refine W.objInit hx hb hown (hT _ ml_Lv_3) (hT _ im_Ob_init) (hT _ kt_Ob_init) rfl (by rw [hml]; exact hl.1) rfl d_Lv_init_1 (Nat.le_of_ble_eq_true rfl) (Nat.le_of_ble_eq_true rfl) ?_
  refine W.eq (g2 := F0 m 4 ls []) rfl ?_
  refine lv_aload_n hx hb d_Lv_init_4 rfl (lv_at hl 0 rfl) ?_
  refine va_new (ci := 4) (fs := [.null, .null]) (C := R_Vl) (T := F_Vl) (N := 2) hx hb hT in_Vl t_Vl t_Vl_ok hown (hT _ cl_Lv_9) (hT _ it_Vl) (hT _ ii_Vl) hK hP hD hS hA rfl (by decide) (Nat.le_of_ble_eq_true rfl) (Nat.le_of_ble_eq_true rfl) d_Lv_init_5 (fun q1 H hP hD hS => ?_)
  have hP : va_P D classes [(h0, .inr (9, [.null, .null, .null, .null, .int 0, .int 0, .int 0, .int 0, .int 0, .int 0])), (q1, .inr (4, [.null, .null]))] H := hP
  have hD : va_D A [(h0, .inr (9, [.null, .null, .null, .null, .int 0, .int 0, .int 0, .int 0, .int 0, .int 0])), (q1, .inr (4, [.null, .null]))] := hD
  refine W.widen (k := 1) (n := 2) (Nat.le_of_ble_eq_true rfl) (Nat.le_of_ble_eq_true rfl) ?_
  refine lv_dup hx hb d_Lv_init_8 rfl ?_
  refine lv_bipush (v := 8) hx hb d_Lv_init_9 (by decide) ?_
  have hPc := hP.sub (ws' := [(q1, .inr (4, [.null, .null]))]) [1] rfl
  have hDc := hD.sub (ws' := [(q1, .inr (4, [.null, .null]))]) [1] (by decide) rfl
  have hFc := va_free (wc := [(q1, .inr (4, [.null, .null]))]) hD hS hA [1] rfl
  refine va_callv (va_runI (As := [.int 8]) (rest := [.ref q1, .ref h0]) ⟨hx, hb, hml, hown, hts⟩ (c_Vl_init l D cA q1 H.size 8 (by decide)) (cwI 1 hts (tb_good _ _ kt_Vl_init) rfl rfl rfl (hT _ ii_Vl) (hT _ ml_Lv_11) (hT _ im_Vl_init) rfl (by decide +kernel) ⟨Nat.le_of_ble_eq_true rfl, Nat.le_of_ble_eq_true rfl⟩) (ux_preC rfl hPc hK hDc hN) rfl rfl hl.1 rfl (lv_room (Nat.le_of_ble_eq_true rfl)) d_Lv_init_11 ⟨Nat.le_of_ble_eq_true rfl, Nat.le_of_ble_eq_true rfl⟩) hS (fun q _ h => hFc q h) hFc (fun u t H1 locs ht hvm h5 hB hz1 hk1 hS => ?_)
  obtain ⟨q2, q3, hP1, hD1⟩ := hB
  rw [ht] at hP1
  obtain ⟨hP, hD⟩ := va_join (wr := [(h0, .inr (9, [.null, .null, .null, .null, .int 0, .int 0, .int 0, .int 0, .int 0, .int 0]))]) (w1 := [(q1, .inr (4, [.ref q2, .ref q3])), (q2, .inl (cA 1, 160, .inl (fun _ => 0))), (q3, .inl (cA 0, 8, .inl (fun _ => 0)))]) hP hD [1] [0] rfl rfl (by decide) (by decide) hk1 hFc hP1 hD1
  generalize H1 = H at hP hS ⊢
  have hP : va_P D classes [(h0, .inr (9, [.null, .null, .null, .null, .int 0, .int 0, .int 0, .int 0, .int 0, .int 0])), (q1, .inr (4, [.ref q2, .ref q3])), (q2, .inl (cA 1, 160, .inl (fun _ => 0))), (q3, .inl (cA 0, 8, .inl (fun _ => 0)))] H := hP
  have hD : va_D A [(h0, .inr (9, [.null, .null, .null, .null, .int 0, .int 0, .int 0, .int 0, .int 0, .int 0])), (q1, .inr (4, [.ref q2, .ref q3])), (q2, .inl (cA 1, 160, .inl (fun _ => 0))), (q3, .inl (cA 0, 8, .inl (fun _ => 0)))] := hD
  refine W.widen (k := 3) (n := 170) (Nat.le_of_ble_eq_true rfl) (Nat.le_of_ble_eq_true rfl) ?_
  refine va_putF (D := D) (ci := 9) (v := .ref q1) (ty := .object "PeerScripts$Values") (C := R_Lv) (T := F_Lv) (N := 10) hx hb hT in_Lv t_Lv t_Lv_ok n_Lv hown hK hP hD hS 0 rfl rfl 0 (by decide) (hT _ fl_Lv_14) (fun _ h9 => h9) rfl hin rfl (by decide +kernel) rfl rfl (Nat.le_of_ble_eq_true rfl) d_Lv_init_14 (fun H locs hP hD hS => ?_)
  have hP : va_P D classes [(h0, .inr (9, [.ref q1, .null, .null, .null, .int 0, .int 0, .int 0, .int 0, .int 0, .int 0])), (q1, .inr (4, [.ref q2, .ref q3])), (q2, .inl (cA 1, 160, .inl (fun _ => 0))), (q3, .inl (cA 0, 8, .inl (fun _ => 0)))] H := hP
  have hD : va_D A [(h0, .inr (9, [.ref q1, .null, .null, .null, .int 0, .int 0, .int 0, .int 0, .int 0, .int 0])), (q1, .inr (4, [.ref q2, .ref q3])), (q2, .inl (cA 1, 160, .inl (fun _ => 0))), (q3, .inl (cA 0, 8, .inl (fun _ => 0)))] := hD
  refine lv_aload_n hx hb d_Lv_init_17 rfl (lv_at hl 0 rfl) ?_
  refine lv_bipush (v := 8) hx hb d_Lv_init_18 (by decide) ?_
  refine ux_newa 2 hx hb (atype := .boolean) (ty := .boolean) (N' := 8) (hT _ ac_boolean) rfl hK rfl hP hD hS hA (fun _ => rfl) (by decide) (by decide) (by decide) (Nat.le_of_ble_eq_true rfl) (Nat.le_of_ble_eq_true rfl) d_Lv_init_20 (fun q4 H hP hD hS => ?_)
  have hP : va_P D classes [(h0, .inr (9, [.ref q1, .null, .null, .null, .int 0, .int 0, .int 0, .int 0, .int 0, .int 0])), (q1, .inr (4, [.ref q2, .ref q3])), (q2, .inl (cA 1, 160, .inl (fun _ => 0))), (q3, .inl (cA 0, 8, .inl (fun _ => 0))), (q4, .inl (cA 2, 8, .inl (fun _ => 0)))] H := hP
  have hD : va_D A [(h0, .inr (9, [.ref q1, .null, .null, .null, .int 0, .int 0, .int 0, .int 0, .int 0, .int 0])), (q1, .inr (4, [.ref q2, .ref q3])), (q2, .inl (cA 1, 160, .inl (fun _ => 0))), (q3, .inl (cA 0, 8, .inl (fun _ => 0))), (q4, .inl (cA 2, 8, .inl (fun _ => 0)))] := hD
  refine W.widen (k := 4) (n := 178) (Nat.le_of_ble_eq_true rfl) (Nat.le_of_ble_eq_true rfl) ?_
  refine va_putF (D := D) (ci := 9) (v := .ref q4) (ty := .array .boolean) (C := R_Lv) (T := F_Lv) (N := 10) hx hb hT in_Lv t_Lv t_Lv_ok n_Lv hown hK hP hD hS 0 rfl rfl 1 (by decide) (hT _ fl_Lv_20) (fun _ h9 => h9) rfl hin rfl (by decide +kernel) rfl rfl (Nat.le_of_ble_eq_true rfl) d_Lv_init_22 (fun H locs hP hD hS => ?_)
  have hP : va_P D classes [(h0, .inr (9, [.ref q1, .ref q4, .null, .null, .int 0, .int 0, .int 0, .int 0, .int 0, .int 0])), (q1, .inr (4, [.ref q2, .ref q3])), (q2, .inl (cA 1, 160, .inl (fun _ => 0))), (q3, .inl (cA 0, 8, .inl (fun _ => 0))), (q4, .inl (cA 2, 8, .inl (fun _ => 0)))] H := hP
  have hD : va_D A [(h0, .inr (9, [.ref q1, .ref q4, .null, .null, .int 0, .int 0, .int 0, .int 0, .int 0, .int 0])), (q1, .inr (4, [.ref q2, .ref q3])), (q2, .inl (cA 1, 160, .inl (fun _ => 0))), (q3, .inl (cA 0, 8, .inl (fun _ => 0))), (q4, .inl (cA 2, 8, .inl (fun _ => 0)))] := hD
  refine lv_aload_n hx hb d_Lv_init_25 rfl (lv_at hl 0 rfl) ?_
  refine lv_bipush (v := 8) hx hb d_Lv_init_26 (by decide) ?_
  refine ux_newa 0 hx hb (atype := .int) (ty := .int) (N' := 8) (hT _ ac_int) rfl hK rfl hP hD hS hA (fun _ => rfl) (by decide) (by decide) (by decide) (Nat.le_of_ble_eq_true rfl) (Nat.le_of_ble_eq_true rfl) d_Lv_init_28 (fun q5 H hP hD hS => ?_)
  have hP : va_P D classes [(h0, .inr (9, [.ref q1, .ref q4, .null, .null, .int 0, .int 0, .int 0, .int 0, .int 0, .int 0])), (q1, .inr (4, [.ref q2, .ref q3])), (q2, .inl (cA 1, 160, .inl (fun _ => 0))), (q3, .inl (cA 0, 8, .inl (fun _ => 0))), (q4, .inl (cA 2, 8, .inl (fun _ => 0))), (q5, .inl (cA 0, 8, .inl (fun _ => 0)))] H := hP
  have hD : va_D A [(h0, .inr (9, [.ref q1, .ref q4, .null, .null, .int 0, .int 0, .int 0, .int 0, .int 0, .int 0])), (q1, .inr (4, [.ref q2, .ref q3])), (q2, .inl (cA 1, 160, .inl (fun _ => 0))), (q3, .inl (cA 0, 8, .inl (fun _ => 0))), (q4, .inl (cA 2, 8, .inl (fun _ => 0))), (q5, .inl (cA 0, 8, .inl (fun _ => 0)))] := hD
  refine W.widen (k := 5) (n := 186) (Nat.le_of_ble_eq_true rfl) (Nat.le_of_ble_eq_true rfl) ?_
  refine va_putF (D := D) (ci := 9) (v := .ref q5) (ty := .array .int) (C := R_Lv) (T := F_Lv) (N := 10) hx hb hT in_Lv t_Lv t_Lv_ok n_Lv hown hK hP hD hS 0 rfl rfl 2 (by decide) (hT _ fl_Lv_24) (fun _ h9 => h9) rfl hin rfl (by decide +kernel) rfl rfl (Nat.le_of_ble_eq_true rfl) d_Lv_init_30 (fun H locs hP hD hS => ?_)
  have hP : va_P D classes [(h0, .inr (9, [.ref q1, .ref q4, .ref q5, .null, .int 0, .int 0, .int 0, .int 0, .int 0, .int 0])), (q1, .inr (4, [.ref q2, .ref q3])), (q2, .inl (cA 1, 160, .inl (fun _ => 0))), (q3, .inl (cA 0, 8, .inl (fun _ => 0))), (q4, .inl (cA 2, 8, .inl (fun _ => 0))), (q5, .inl (cA 0, 8, .inl (fun _ => 0)))] H := hP
  have hD : va_D A [(h0, .inr (9, [.ref q1, .ref q4, .ref q5, .null, .int 0, .int 0, .int 0, .int 0, .int 0, .int 0])), (q1, .inr (4, [.ref q2, .ref q3])), (q2, .inl (cA 1, 160, .inl (fun _ => 0))), (q3, .inl (cA 0, 8, .inl (fun _ => 0))), (q4, .inl (cA 2, 8, .inl (fun _ => 0))), (q5, .inl (cA 0, 8, .inl (fun _ => 0)))] := hD
  refine lv_aload_n hx hb d_Lv_init_33 rfl (lv_at hl 0 rfl) ?_
  refine lv_bipush (v := 8) hx hb d_Lv_init_34 (by decide) ?_
  refine ux_newa 0 hx hb (atype := .int) (ty := .int) (N' := 8) (hT _ ac_int) rfl hK rfl hP hD hS hA (fun _ => rfl) (by decide) (by decide) (by decide) (Nat.le_of_ble_eq_true rfl) (Nat.le_of_ble_eq_true rfl) d_Lv_init_36 (fun q6 H hP hD hS => ?_)
  have hP : va_P D classes [(h0, .inr (9, [.ref q1, .ref q4, .ref q5, .null, .int 0, .int 0, .int 0, .int 0, .int 0, .int 0])), (q1, .inr (4, [.ref q2, .ref q3])), (q2, .inl (cA 1, 160, .inl (fun _ => 0))), (q3, .inl (cA 0, 8, .inl (fun _ => 0))), (q4, .inl (cA 2, 8, .inl (fun _ => 0))), (q5, .inl (cA 0, 8, .inl (fun _ => 0))), (q6, .inl (cA 0, 8, .inl (fun _ => 0)))] H := hP
  have hD : va_D A [(h0, .inr (9, [.ref q1, .ref q4, .ref q5, .null, .int 0, .int 0, .int 0, .int 0, .int 0, .int 0])), (q1, .inr (4, [.ref q2, .ref q3])), (q2, .inl (cA 1, 160, .inl (fun _ => 0))), (q3, .inl (cA 0, 8, .inl (fun _ => 0))), (q4, .inl (cA 2, 8, .inl (fun _ => 0))), (q5, .inl (cA 0, 8, .inl (fun _ => 0))), (q6, .inl (cA 0, 8, .inl (fun _ => 0)))] := hD
  refine W.widen (k := 6) (n := 194) (Nat.le_of_ble_eq_true rfl) (Nat.le_of_ble_eq_true rfl) ?_
  refine va_putF (D := D) (ci := 9) (v := .ref q6) (ty := .array .int) (C := R_Lv) (T := F_Lv) (N := 10) hx hb hT in_Lv t_Lv t_Lv_ok n_Lv hown hK hP hD hS 0 rfl rfl 3 (by decide) (hT _ fl_Lv_28) (fun _ h9 => h9) rfl hin rfl (by decide +kernel) rfl rfl (Nat.le_of_ble_eq_true rfl) d_Lv_init_38 (fun H locs hP hD hS => ?_)
  have hP : va_P D classes [(h0, .inr (9, [.ref q1, .ref q4, .ref q5, .ref q6, .int 0, .int 0, .int 0, .int 0, .int 0, .int 0])), (q1, .inr (4, [.ref q2, .ref q3])), (q2, .inl (cA 1, 160, .inl (fun _ => 0))), (q3, .inl (cA 0, 8, .inl (fun _ => 0))), (q4, .inl (cA 2, 8, .inl (fun _ => 0))), (q5, .inl (cA 0, 8, .inl (fun _ => 0))), (q6, .inl (cA 0, 8, .inl (fun _ => 0)))] H := hP
  have hD : va_D A [(h0, .inr (9, [.ref q1, .ref q4, .ref q5, .ref q6, .int 0, .int 0, .int 0, .int 0, .int 0, .int 0])), (q1, .inr (4, [.ref q2, .ref q3])), (q2, .inl (cA 1, 160, .inl (fun _ => 0))), (q3, .inl (cA 0, 8, .inl (fun _ => 0))), (q4, .inl (cA 2, 8, .inl (fun _ => 0))), (q5, .inl (cA 0, 8, .inl (fun _ => 0))), (q6, .inl (cA 0, 8, .inl (fun _ => 0)))] := hD
  exact W.vret hx hb hr (fun t ht hW => ⟨⟨(), rfl, trivial, q1, q2, q3, q4, q5, q6, by rw [ht]; exact hP, hD⟩, hS.F ht⟩) hS.2.2 d_Lv_init_41

set_option maxHeartbeats 4000000 in
set_option maxRecDepth 100000 in
theorem c_Pe_init (l : Launch) (D : va_G) (cA : Nat → ClassId) (h0 sz : Nat) : Met l y_Pe_init w_Pe_init ({ frames := 2, cells := 10, slots := 185, locals := 33 }) (va_Pc [.ref h0] (ux_C D cA sz [(h0, .inr (2, [.null, .null, .null, .null, .int 0, .int 0, .null, .int 0, .null, .null]))])) (va_Qv (fun _ : Unit => True) (fun _ t => ∃ q1 q2 q3 q4 q5 q6 q7 q8 q9 q10 : Nat, va_P D classes [(h0, .inr (2, [.ref q1, .ref q2, .ref q3, .ref q4, .int 0, .int 0, .ref q5, .int 0, .ref q6, .ref q9])), (q1, .inl (cA 0, 20, .inl (fun _ => 0))), (q2, .inl (cA 0, 20, .inl (fun _ => 0))), (q3, .inl (cA 0, 20, .inl (fun _ => 0))), (q4, .inl (cA 0, 20, .inl (fun _ => 0))), (q5, .inl (cA 0, 40, .inl (fun _ => 0))), (q6, .inr (4, [.ref q7, .ref q8])), (q7, .inl (cA 1, 20, .inl (fun _ => 0))), (q8, .inl (cA 0, 1, .inl (fun _ => 0))), (q9, .inr (3, [.ref q10, .int 0])), (q10, .inl (cA 0, 40, .inl (fun _ => 0)))] t.heap ∧ va_D (va_A [(h0, .inr (2, [.null, .null, .null, .null, .int 0, .int 0, .null, .int 0, .null, .null]))] sz) [(h0, .inr (2, [.ref q1, .ref q2, .ref q3, .ref q4, .int 0, .int 0, .ref q5, .int 0, .ref q6, .ref q9])), (q1, .inl (cA 0, 20, .inl (fun _ => 0))), (q2, .inl (cA 0, 20, .inl (fun _ => 0))), (q3, .inl (cA 0, 20, .inl (fun _ => 0))), (q4, .inl (cA 0, 20, .inl (fun _ => 0))), (q5, .inl (cA 0, 40, .inl (fun _ => 0))), (q6, .inr (4, [.ref q7, .ref q8])), (q7, .inl (cA 1, 20, .inl (fun _ => 0))), (q8, .inl (cA 0, 1, .inl (fun _ => 0))), (q9, .inr (3, [.ref q10, .int 0])), (q10, .inl (cA 0, 40, .inl (fun _ => 0)))]) (va_A [(h0, .inr (2, [.null, .null, .null, .null, .int 0, .int 0, .null, .int 0, .null, .null]))] sz)) 10 185 (va_A [(h0, .inr (2, [.null, .null, .null, .null, .int 0, .int 0, .null, .int 0, .null, .null]))] sz) := by
  refine Met.ofW (cc := b_Pe_init) (maxL := 1) (ret := none) (by decide) rfl ?_
  intro p e s m args below meth c s₁ B hml hv
  obtain ⟨rfl, hsz, hP, hK, hD0, hN⟩ := hv
  have hx := B.exec
  have hb := B.bytes
  have hr := B.returns
  have hts := atoms_spec (ws := w_Pe_init) B.pre
  have hown : s.vm.findClass R_Pe = some m.cls := findClass_of_methodNamed B.named
  have hlocks := B.notSynchronized
  have hin : meth.name = "<init>" := (name_of_methodNamed B.named B.method).1
  have hT : ∀ w ∈ tb, w.before _ s = true := fun w h => hts w (List.mem_cons_of_mem _ h)
  subst hsz
  have hD := hD0.self (sz := s.heap.size)
  generalize hAe : va_A [(h0, .inr (2, [.null, .null, .null, .null, .int 0, .int 0, .null, .int 0, .null, .null]))] s.heap.size = A at hD ⊢
  have hA : ∀ q : Nat, s.heap.size ≤ q → A q := fun q h => by rw [← hAe]; exact Or.inr h
  have hS : va_S A s.heap s.heap [] := va_S.rf
  have hP : va_P D classes [(h0, .inr (2, [.null, .null, .null, .null, .int 0, .int 0, .null, .int 0, .null, .null]))] s.heap := hP
  have hHH : s.heap = s.heap := rfl
  have hl := lv_entry ([.ref h0]) (n := 1) (Nat.le_of_ble_eq_true rfl)
  rw [lg_entry_eq]
  generalize (lg_sl ([.ref h0]) ++ List.replicate (1 - (lg_sl ([.ref h0])).length) Slot.unset).toArray = ls at hl ⊢
  have hl : lv_has ls 1 [(0, .ref h0)] := hl
  refine lv_aload_n hx hb d_Pe_init_0 rfl (lv_at hl 0 rfl) ?_
  refine W.objInit hx hb hown (hT _ ml_Pe_3) (hT _ im_Ob_init) (hT _ kt_Ob_init) rfl (by rw [hml]; exact hl.1) rfl d_Pe_init_1 (Nat.le_of_ble_eq_true rfl) (Nat.le_of_ble_eq_true rfl) ?_
  refine W.eq (g2 := F0 m 4 ls []) rfl ?_
  refine lv_aload_n hx hb d_Pe_init_4 rfl (lv_at hl 0 rfl) ?_
  refine lv_bipush (v := 20) hx hb d_Pe_init_5 (by decide) ?_
  refine ux_newa 0 hx hb (atype := .int) (ty := .int) (N' := 20) (hT _ ac_int) rfl hK rfl hP hD hS hA (fun _ => rfl) (by decide) (by decide) (by decide) (Nat.le_of_ble_eq_true rfl) (Nat.le_of_ble_eq_true rfl) d_Pe_init_7 (fun q1 H hP hD hS => ?_)
  have hP : va_P D classes [(h0, .inr (2, [.null, .null, .null, .null, .int 0, .int 0, .null, .int 0, .null, .null])), (q1, .inl (cA 0, 20, .inl (fun _ => 0)))] H := hP
  have hD : va_D A [(h0, .inr (2, [.null, .null, .null, .null, .int 0, .int 0, .null, .int 0, .null, .null])), (q1, .inl (cA 0, 20, .inl (fun _ => 0)))] := hD
  refine W.widen (k := 1) (n := 20) (Nat.le_of_ble_eq_true rfl) (Nat.le_of_ble_eq_true rfl) ?_
  refine va_putF (D := D) (ci := 2) (v := .ref q1) (ty := .array .int) (C := R_Pe) (T := F_Pe) (N := 10) hx hb hT in_Pe t_Pe t_Pe_ok n_Pe hown hK hP hD hS 0 rfl rfl 0 (by decide) (hT _ fl_Pe_9) (fun _ h9 => h9) rfl hin rfl (by decide +kernel) rfl rfl (Nat.le_of_ble_eq_true rfl) d_Pe_init_9 (fun H locs hP hD hS => ?_)
  have hP : va_P D classes [(h0, .inr (2, [.ref q1, .null, .null, .null, .int 0, .int 0, .null, .int 0, .null, .null])), (q1, .inl (cA 0, 20, .inl (fun _ => 0)))] H := hP
  have hD : va_D A [(h0, .inr (2, [.ref q1, .null, .null, .null, .int 0, .int 0, .null, .int 0, .null, .null])), (q1, .inl (cA 0, 20, .inl (fun _ => 0)))] := hD
  refine lv_aload_n hx hb d_Pe_init_12 rfl (lv_at hl 0 rfl) ?_
  refine lv_bipush (v := 20) hx hb d_Pe_init_13 (by decide) ?_
  refine ux_newa 0 hx hb (atype := .int) (ty := .int) (N' := 20) (hT _ ac_int) rfl hK rfl hP hD hS hA (fun _ => rfl) (by decide) (by decide) (by decide) (Nat.le_of_ble_eq_true rfl) (Nat.le_of_ble_eq_true rfl) d_Pe_init_15 (fun q2 H hP hD hS => ?_)
  have hP : va_P D classes [(h0, .inr (2, [.ref q1, .null, .null, .null, .int 0, .int 0, .null, .int 0, .null, .null])), (q1, .inl (cA 0, 20, .inl (fun _ => 0))), (q2, .inl (cA 0, 20, .inl (fun _ => 0)))] H := hP
  have hD : va_D A [(h0, .inr (2, [.ref q1, .null, .null, .null, .int 0, .int 0, .null, .int 0, .null, .null])), (q1, .inl (cA 0, 20, .inl (fun _ => 0))), (q2, .inl (cA 0, 20, .inl (fun _ => 0)))] := hD
  refine W.widen (k := 2) (n := 40) (Nat.le_of_ble_eq_true rfl) (Nat.le_of_ble_eq_true rfl) ?_
  refine va_putF (D := D) (ci := 2) (v := .ref q2) (ty := .array .int) (C := R_Pe) (T := F_Pe) (N := 10) hx hb hT in_Pe t_Pe t_Pe_ok n_Pe hown hK hP hD hS 0 rfl rfl 1 (by decide) (hT _ fl_Pe_15) (fun _ h9 => h9) rfl hin rfl (by decide +kernel) rfl rfl (Nat.le_of_ble_eq_true rfl) d_Pe_init_17 (fun H locs hP hD hS => ?_)
  have hP : va_P D classes [(h0, .inr (2, [.ref q1, .ref q2, .null, .null, .int 0, .int 0, .null, .int 0, .null, .null])), (q1, .inl (cA 0, 20, .inl (fun _ => 0))), (q2, .inl (cA 0, 20, .inl (fun _ => 0)))] H := hP
  have hD : va_D A [(h0, .inr (2, [.ref q1, .ref q2, .null, .null, .int 0, .int 0, .null, .int 0, .null, .null])), (q1, .inl (cA 0, 20, .inl (fun _ => 0))), (q2, .inl (cA 0, 20, .inl (fun _ => 0)))] := hD
  refine lv_aload_n hx hb d_Pe_init_20 rfl (lv_at hl 0 rfl) ?_
  refine lv_bipush (v := 20) hx hb d_Pe_init_21 (by decide) ?_
  refine ux_newa 0 hx hb (atype := .int) (ty := .int) (N' := 20) (hT _ ac_int) rfl hK rfl hP hD hS hA (fun _ => rfl) (by decide) (by decide) (by decide) (Nat.le_of_ble_eq_true rfl) (Nat.le_of_ble_eq_true rfl) d_Pe_init_23 (fun q3 H hP hD hS => ?_)
  have hP : va_P D classes [(h0, .inr (2, [.ref q1, .ref q2, .null, .null, .int 0, .int 0, .null, .int 0, .null, .null])), (q1, .inl (cA 0, 20, .inl (fun _ => 0))), (q2, .inl (cA 0, 20, .inl (fun _ => 0))), (q3, .inl (cA 0, 20, .inl (fun _ => 0)))] H := hP
  have hD : va_D A [(h0, .inr (2, [.ref q1, .ref q2, .null, .null, .int 0, .int 0, .null, .int 0, .null, .null])), (q1, .inl (cA 0, 20, .inl (fun _ => 0))), (q2, .inl (cA 0, 20, .inl (fun _ => 0))), (q3, .inl (cA 0, 20, .inl (fun _ => 0)))] := hD
  refine W.widen (k := 3) (n := 60) (Nat.le_of_ble_eq_true rfl) (Nat.le_of_ble_eq_true rfl) ?_
  refine va_putF (D := D) (ci := 2) (v := .ref q3) (ty := .array .int) (C := R_Pe) (T := F_Pe) (N := 10) hx hb hT in_Pe t_Pe t_Pe_ok n_Pe hown hK hP hD hS 0 rfl rfl 2 (by decide) (hT _ fl_Pe_18) (fun _ h9 => h9) rfl hin rfl (by decide +kernel) rfl rfl (Nat.le_of_ble_eq_true rfl) d_Pe_init_25 (fun H locs hP hD hS => ?_)
  have hP : va_P D classes [(h0, .inr (2, [.ref q1, .ref q2, .ref q3, .null, .int 0, .int 0, .null, .int 0, .null, .null])), (q1, .inl (cA 0, 20, .inl (fun _ => 0))), (q2, .inl (cA 0, 20, .inl (fun _ => 0))), (q3, .inl (cA 0, 20, .inl (fun _ => 0)))] H := hP
  have hD : va_D A [(h0, .inr (2, [.ref q1, .ref q2, .ref q3, .null, .int 0, .int 0, .null, .int 0, .null, .null])), (q1, .inl (cA 0, 20, .inl (fun _ => 0))), (q2, .inl (cA 0, 20, .inl (fun _ => 0))), (q3, .inl (cA 0, 20, .inl (fun _ => 0)))] := hD
  refine lv_aload_n hx hb d_Pe_init_28 rfl (lv_at hl 0 rfl) ?_
  refine lv_bipush (v := 20) hx hb d_Pe_init_29 (by decide) ?_
  refine ux_newa 0 hx hb (atype := .int) (ty := .int) (N' := 20) (hT _ ac_int) rfl hK rfl hP hD hS hA (fun _ => rfl) (by decide) (by decide) (by decide) (Nat.le_of_ble_eq_true rfl) (Nat.le_of_ble_eq_true rfl) d_Pe_init_31 (fun q4 H hP hD hS => ?_)
  have hP : va_P D classes [(h0, .inr (2, [.ref q1, .ref q2, .ref q3, .null, .int 0, .int 0, .null, .int 0, .null, .null])), (q1, .inl (cA 0, 20, .inl (fun _ => 0))), (q2, .inl (cA 0, 20, .inl (fun _ => 0))), (q3, .inl (cA 0, 20, .inl (fun _ => 0))), (q4, .inl (cA 0, 20, .inl (fun _ => 0)))] H := hP
  have hD : va_D A [(h0, .inr (2, [.ref q1, .ref q2, .ref q3, .null, .int 0, .int 0, .null, .int 0, .null, .null])), (q1, .inl (cA 0, 20, .inl (fun _ => 0))), (q2, .inl (cA 0, 20, .inl (fun _ => 0))), (q3, .inl (cA 0, 20, .inl (fun _ => 0))), (q4, .inl (cA 0, 20, .inl (fun _ => 0)))] := hD
  refine W.widen (k := 4) (n := 80) (Nat.le_of_ble_eq_true rfl) (Nat.le_of_ble_eq_true rfl) ?_
  refine va_putF (D := D) (ci := 2) (v := .ref q4) (ty := .array .int) (C := R_Pe) (T := F_Pe) (N := 10) hx hb hT in_Pe t_Pe t_Pe_ok n_Pe hown hK hP hD hS 0 rfl rfl 3 (by decide) (hT _ fl_Pe_21) (fun _ h9 => h9) rfl hin rfl (by decide +kernel) rfl rfl (Nat.le_of_ble_eq_true rfl) d_Pe_init_33 (fun H locs hP hD hS => ?_)
  have hP : va_P D classes [(h0, .inr (2, [.ref q1, .ref q2, .ref q3, .ref q4, .int 0, .int 0, .null, .int 0, .null, .null])), (q1, .inl (cA 0, 20, .inl (fun _ => 0))), (q2, .inl (cA 0, 20, .inl (fun _ => 0))), (q3, .inl (cA 0, 20, .inl (fun _ => 0))), (q4, .inl (cA 0, 20, .inl (fun _ => 0)))] H := hP
  have hD : va_D A [(h0, .inr (2, [.ref q1, .ref q2, .ref q3, .ref q4, .int 0, .int 0, .null, .int 0, .null, .null])), (q1, .inl (cA 0, 20, .inl (fun _ => 0))), (q2, .inl (cA 0, 20, .inl (fun _ => 0))), (q3, .inl (cA 0, 20, .inl (fun _ => 0))), (q4, .inl (cA 0, 20, .inl (fun _ => 0)))] := hD
  refine lv_aload_n hx hb d_Pe_init_36 rfl (lv_at hl 0 rfl) ?_
  refine lv_bipush (v := 40) hx hb d_Pe_init_37 (by decide) ?_
  refine ux_newa 0 hx hb (atype := .int) (ty := .int) (N' := 40) (hT _ ac_int) rfl hK rfl hP hD hS hA (fun _ => rfl) (by decide) (by decide) (by decide) (Nat.le_of_ble_eq_true rfl) (Nat.le_of_ble_eq_true rfl) d_Pe_init_39 (fun q5 H hP hD hS => ?_)
  have hP : va_P D classes [(h0, .inr (2, [.ref q1, .ref q2, .ref q3, .ref q4, .int 0, .int 0, .null, .int 0, .null, .null])), (q1, .inl (cA 0, 20, .inl (fun _ => 0))), (q2, .inl (cA 0, 20, .inl (fun _ => 0))), (q3, .inl (cA 0, 20, .inl (fun _ => 0))), (q4, .inl (cA 0, 20, .inl (fun _ => 0))), (q5, .inl (cA 0, 40, .inl (fun _ => 0)))] H := hP
  have hD : va_D A [(h0, .inr (2, [.ref q1, .ref q2, .ref q3, .ref q4, .int 0, .int 0, .null, .int 0, .null, .null])), (q1, .inl (cA 0, 20, .inl (fun _ => 0))), (q2, .inl (cA 0, 20, .inl (fun _ => 0))), (q3, .inl (cA 0, 20, .inl (fun _ => 0))), (q4, .inl (cA 0, 20, .inl (fun _ => 0))), (q5, .inl (cA 0, 40, .inl (fun _ => 0)))] := hD
  refine W.widen (k := 5) (n := 120) (Nat.le_of_ble_eq_true rfl) (Nat.le_of_ble_eq_true rfl) ?_
  refine va_putF (D := D) (ci := 2) (v := .ref q5) (ty := .array .int) (C := R_Pe) (T := F_Pe) (N := 10) hx hb hT in_Pe t_Pe t_Pe_ok n_Pe hown hK hP hD hS 0 rfl rfl 6 (by decide) (hT _ fl_Pe_24) (fun _ h9 => h9) rfl hin rfl (by decide +kernel) rfl rfl (Nat.le_of_ble_eq_true rfl) d_Pe_init_41 (fun H locs hP hD hS => ?_)
  have hP : va_P D classes [(h0, .inr (2, [.ref q1, .ref q2, .ref q3, .ref q4, .int 0, .int 0, .ref q5, .int 0, .null, .null])), (q1, .inl (cA 0, 20, .inl (fun _ => 0))), (q2, .inl (cA 0, 20, .inl (fun _ => 0))), (q3, .inl (cA 0, 20, .inl (fun _ => 0))), (q4, .inl (cA 0, 20, .inl (fun _ => 0))), (q5, .inl (cA 0, 40, .inl (fun _ => 0)))] H := hP
  have hD : va_D A [(h0, .inr (2, [.ref q1, .ref q2, .ref q3, .ref q4, .int 0, .int 0, .ref q5, .int 0, .null, .null])), (q1, .inl (cA 0, 20, .inl (fun _ => 0))), (q2, .inl (cA 0, 20, .inl (fun _ => 0))), (q3, .inl (cA 0, 20, .inl (fun _ => 0))), (q4, .inl (cA 0, 20, .inl (fun _ => 0))), (q5, .inl (cA 0, 40, .inl (fun _ => 0)))] := hD
  refine lv_aload_n hx hb d_Pe_init_44 rfl (lv_at hl 0 rfl) ?_
  refine va_new (ci := 4) (fs := [.null, .null]) (C := R_Vl) (T := F_Vl) (N := 2) hx hb hT in_Vl t_Vl t_Vl_ok hown (hT _ cl_Pe_27) (hT _ it_Vl) (hT _ ii_Vl) hK hP hD hS hA rfl (by decide) (Nat.le_of_ble_eq_true rfl) (Nat.le_of_ble_eq_true rfl) d_Pe_init_45 (fun q6 H hP hD hS => ?_)
  have hP : va_P D classes [(h0, .inr (2, [.ref q1, .ref q2, .ref q3, .ref q4, .int 0, .int 0, .ref q5, .int 0, .null, .null])), (q1, .inl (cA 0, 20, .inl (fun _ => 0))), (q2, .inl (cA 0, 20, .inl (fun _ => 0))), (q3, .inl (cA 0, 20, .inl (fun _ => 0))), (q4, .inl (cA 0, 20, .inl (fun _ => 0))), (q5, .inl (cA 0, 40, .inl (fun _ => 0))), (q6, .inr (4, [.null, .null]))] H := hP
  have hD : va_D A [(h0, .inr (2, [.ref q1, .ref q2, .ref q3, .ref q4, .int 0, .int 0, .ref q5, .int 0, .null, .null])), (q1, .inl (cA 0, 20, .inl (fun _ => 0))), (q2, .inl (cA 0, 20, .inl (fun _ => 0))), (q3, .inl (cA 0, 20, .inl (fun _ => 0))), (q4, .inl (cA 0, 20, .inl (fun _ => 0))), (q5, .inl (cA 0, 40, .inl (fun _ => 0))), (q6, .inr (4, [.null, .null]))] := hD
  refine W.widen (k := 6) (n := 122) (Nat.le_of_ble_eq_true rfl) (Nat.le_of_ble_eq_true rfl) ?_
  refine lv_dup hx hb d_Pe_init_48 rfl ?_
  refine lv_iconst (v := 1) hx hb d_Pe_init_49 (by decide) ?_
  have hPc := hP.sub (ws' := [(q6, .inr (4, [.null, .null]))]) [6] rfl
  have hDc := hD.sub (ws' := [(q6, .inr (4, [.null, .null]))]) [6] (by decide) rfl
  have hFc := va_free (wc := [(q6, .inr (4, [.null, .null]))]) hD hS hA [6] rfl
  refine va_callv (va_runI (As := [.int 1]) (rest := [.ref q6, .ref h0]) ⟨hx, hb, hml, hown, hts⟩ (c_Vl_init l D cA q6 H.size 1 (by decide)) (cwI 1 hts (tb_good _ _ kt_Vl_init) rfl rfl rfl (hT _ ii_Vl) (hT _ ml_Pe_29) (hT _ im_Vl_init) rfl (by decide +kernel) ⟨Nat.le_of_ble_eq_true rfl, Nat.le_of_ble_eq_true rfl⟩) (ux_preC rfl hPc hK hDc hN) rfl rfl hl.1 rfl (lv_room (Nat.le_of_ble_eq_true rfl)) d_Pe_init_50 ⟨Nat.le_of_ble_eq_true rfl, Nat.le_of_ble_eq_true rfl⟩) hS (fun q _ h => hFc q h) hFc (fun u t H1 locs ht hvm h5 hB hz1 hk1 hS => ?_)
  obtain ⟨q7, q8, hP1, hD1⟩ := hB
  rw [ht] at hP1
  obtain ⟨hP, hD⟩ := va_join (wr := [(h0, .inr (2, [.ref q1, .ref q2, .ref q3, .ref q4, .int 0, .int 0, .ref q5, .int 0, .null, .null])), (q1, .inl (cA 0, 20, .inl (fun _ => 0))), (q2, .inl (cA 0, 20, .inl (fun _ => 0))), (q3, .inl (cA 0, 20, .inl (fun _ => 0))), (q4, .inl (cA 0, 20, .inl (fun _ => 0))), (q5, .inl (cA 0, 40, .inl (fun _ => 0)))]) (w1 := [(q6, .inr (4, [.ref q7, .ref q8])), (q7, .inl (cA 1, 20, .inl (fun _ => 0))), (q8, .inl (cA 0, 1, .inl (fun _ => 0)))]) hP hD [6] [0, 1, 2, 3, 4, 5] rfl rfl (by decide) (by decide) hk1 hFc hP1 hD1
  generalize H1 = H at hP hS ⊢
  have hP : va_P D classes [(h0, .inr (2, [.ref q1, .ref q2, .ref q3, .ref q4, .int 0, .int 0, .ref q5, .int 0, .null, .null])), (q1, .inl (cA 0, 20, .inl (fun _ => 0))), (q2, .inl (cA 0, 20, .inl (fun _ => 0))), (q3, .inl (cA 0, 20, .inl (fun _ => 0))), (q4, .inl (cA 0, 20, .inl (fun _ => 0))), (q5, .inl (cA 0, 40, .inl (fun _ => 0))), (q6, .inr (4, [.ref q7, .ref q8])), (q7, .inl (cA 1, 20, .inl (fun _ => 0))), (q8, .inl (cA 0, 1, .inl (fun _ => 0)))] H := hP
  have hD : va_D A [(h0, .inr (2, [.ref q1, .ref q2, .ref q3, .ref q4, .int 0, .int 0, .ref q5, .int 0, .null, .null])), (q1, .inl (cA 0, 20, .inl (fun _ => 0))), (q2, .inl (cA 0, 20, .inl (fun _ => 0))), (q3, .inl (cA 0, 20, .inl (fun _ => 0))), (q4, .inl (cA 0, 20, .inl (fun _ => 0))), (q5, .inl (cA 0, 40, .inl (fun _ => 0))), (q6, .inr (4, [.ref q7, .ref q8])), (q7, .inl (cA 1, 20, .inl (fun _ => 0))), (q8, .inl (cA 0, 1, .inl (fun _ => 0)))] := hD
  refine W.widen (k := 8) (n := 143) (Nat.le_of_ble_eq_true rfl) (Nat.le_of_ble_eq_true rfl) ?_
  refine va_putF (D := D) (ci := 2) (v := .ref q6) (ty := .object "PeerScripts$Values") (C := R_Pe) (T := F_Pe) (N := 10) hx hb hT in_Pe t_Pe t_Pe_ok n_Pe hown hK hP hD hS 0 rfl rfl 8 (by decide) (hT _ fl_Pe_32) (fun _ h9 => h9) rfl hin rfl (by decide +kernel) rfl rfl (Nat.le_of_ble_eq_true rfl) d_Pe_init_53 (fun H locs hP hD hS => ?_)
  have hP : va_P D classes [(h0, .inr (2, [.ref q1, .ref q2, .ref q3, .ref q4, .int 0, .int 0, .ref q5, .int 0, .ref q6, .null])), (q1, .inl (cA 0, 20, .inl (fun _ => 0))), (q2, .inl (cA 0, 20, .inl (fun _ => 0))), (q3, .inl (cA 0, 20, .inl (fun _ => 0))), (q4, .inl (cA 0, 20, .inl (fun _ => 0))), (q5, .inl (cA 0, 40, .inl (fun _ => 0))), (q6, .inr (4, [.ref q7, .ref q8])), (q7, .inl (cA 1, 20, .inl (fun _ => 0))), (q8, .inl (cA 0, 1, .inl (fun _ => 0)))] H := hP
  have hD : va_D A [(h0, .inr (2, [.ref q1, .ref q2, .ref q3, .ref q4, .int 0, .int 0, .ref q5, .int 0, .ref q6, .null])), (q1, .inl (cA 0, 20, .inl (fun _ => 0))), (q2, .inl (cA 0, 20, .inl (fun _ => 0))), (q3, .inl (cA 0, 20, .inl (fun _ => 0))), (q4, .inl (cA 0, 20, .inl (fun _ => 0))), (q5, .inl (cA 0, 40, .inl (fun _ => 0))), (q6, .inr (4, [.ref q7, .ref q8])), (q7, .inl (cA 1, 20, .inl (fun _ => 0))), (q8, .inl (cA 0, 1, .inl (fun _ => 0)))] := hD
  refine lv_aload_n hx hb d_Pe_init_56 rfl (lv_at hl 0 rfl) ?_
  refine va_new (ci := 3) (fs := [.null, .int 0]) (C := R_Lg) (T := F_Lg) (N := 2) hx hb hT in_Lg t_Lg t_Lg_ok hown (hT _ cl_Pe_36) (hT _ it_Lg) (hT _ ii_Lg) hK hP hD hS hA rfl (by decide) (Nat.le_of_ble_eq_true rfl) (Nat.le_of_ble_eq_true rfl) d_Pe_init_57 (fun q9 H hP hD hS => ?_)
  have hP : va_P D classes [(h0, .inr (2, [.ref q1, .ref q2, .ref q3, .ref q4, .int 0, .int 0, .ref q5, .int 0, .ref q6, .null])), (q1, .inl (cA 0, 20, .inl (fun _ => 0))), (q2, .inl (cA 0, 20, .inl (fun _ => 0))), (q3, .inl (cA 0, 20, .inl (fun _ => 0))), (q4, .inl (cA 0, 20, .inl (fun _ => 0))), (q5, .inl (cA 0, 40, .inl (fun _ => 0))), (q6, .inr (4, [.ref q7, .ref q8])), (q7, .inl (cA 1, 20, .inl (fun _ => 0))), (q8, .inl (cA 0, 1, .inl (fun _ => 0))), (q9, .inr (3, [.null, .int 0]))] H := hP
  have hD : va_D A [(h0, .inr (2, [.ref q1, .ref q2, .ref q3, .ref q4, .int 0, .int 0, .ref q5, .int 0, .ref q6, .null])), (q1, .inl (cA 0, 20, .inl (fun _ => 0))), (q2, .inl (cA 0, 20, .inl (fun _ => 0))), (q3, .inl (cA 0, 20, .inl (fun _ => 0))), (q4, .inl (cA 0, 20, .inl (fun _ => 0))), (q5, .inl (cA 0, 40, .inl (fun _ => 0))), (q6, .inr (4, [.ref q7, .ref q8])), (q7, .inl (cA 1, 20, .inl (fun _ => 0))), (q8, .inl (cA 0, 1, .inl (fun _ => 0))), (q9, .inr (3, [.null, .int 0]))] := hD
  refine W.widen (k := 9) (n := 145) (Nat.le_of_ble_eq_true rfl) (Nat.le_of_ble_eq_true rfl) ?_
  refine lv_dup hx hb d_Pe_init_60 rfl ?_
  have hPc := hP.sub (ws' := [(q9, .inr (3, [.null, .int 0]))]) [9] rfl
  have hDc := hD.sub (ws' := [(q9, .inr (3, [.null, .int 0]))]) [9] (by decide) rfl
  have hFc := va_free (wc := [(q9, .inr (3, [.null, .int 0]))]) hD hS hA [9] rfl
  refine va_callv (va_runIN (As := []) (rest := [.ref q9, .ref h0]) ⟨hx, hb, hml, hown, hts⟩ (c_Lg_init l D cA q9 H.size) ⟨va_cnB 0 hts (tb_good _ _ kt_Lg_init) rfl rfl rfl (hN _ nm_Pe_38) (hT _ ii_Lg) (by decide +kernel) ⟨Nat.le_of_ble_eq_true rfl, Nat.le_of_ble_eq_true rfl⟩, rfl, hT _ im_Lg_init⟩ (ux_preC rfl hPc hK hDc hN) rfl rfl hl.1 rfl (lv_room (Nat.le_of_ble_eq_true rfl)) d_Pe_init_61 ⟨Nat.le_of_ble_eq_true rfl, Nat.le_of_ble_eq_true rfl⟩) hS (fun q _ h => hFc q h) hFc (fun u t H1 locs ht hvm h5 hB hz1 hk1 hS => ?_)
  obtain ⟨q10, hP1, hD1⟩ := hB
  rw [ht] at hP1
  obtain ⟨hP, hD⟩ := va_join (wr := [(h0, .inr (2, [.ref q1, .ref q2, .ref q3, .ref q4, .int 0, .int 0, .ref q5, .int 0, .ref q6, .null])), (q1, .inl (cA 0, 20, .inl (fun _ => 0))), (q2, .inl (cA 0, 20, .inl (fun _ => 0))), (q3, .inl (cA 0, 20, .inl (fun _ => 0))), (q4, .inl (cA 0, 20, .inl (fun _ => 0))), (q5, .inl (cA 0, 40, .inl (fun _ => 0))), (q6, .inr (4, [.ref q7, .ref q8])), (q7, .inl (cA 1, 20, .inl (fun _ => 0))), (q8, .inl (cA 0, 1, .inl (fun _ => 0)))]) (w1 := [(q9, .inr (3, [.ref q10, .int 0])), (q10, .inl (cA 0, 40, .inl (fun _ => 0)))]) hP hD [9] [0, 1, 2, 3, 4, 5, 6, 7, 8] rfl rfl (by decide) (by decide) hk1 hFc hP1 hD1
  generalize H1 = H at hP hS ⊢
  have hP : va_P D classes [(h0, .inr (2, [.ref q1, .ref q2, .ref q3, .ref q4, .int 0, .int 0, .ref q5, .int 0, .ref q6, .null])), (q1, .inl (cA 0, 20, .inl (fun _ => 0))), (q2, .inl (cA 0, 20, .inl (fun _ => 0))), (q3, .inl (cA 0, 20, .inl (fun _ => 0))), (q4, .inl (cA 0, 20, .inl (fun _ => 0))), (q5, .inl (cA 0, 40, .inl (fun _ => 0))), (q6, .inr (4, [.ref q7, .ref q8])), (q7, .inl (cA 1, 20, .inl (fun _ => 0))), (q8, .inl (cA 0, 1, .inl (fun _ => 0))), (q9, .inr (3, [.ref q10, .int 0])), (q10, .inl (cA 0, 40, .inl (fun _ => 0)))] H := hP
  have hD : va_D A [(h0, .inr (2, [.ref q1, .ref q2, .ref q3, .ref q4, .int 0, .int 0, .ref q5, .int 0, .ref q6, .null])), (q1, .inl (cA 0, 20, .inl (fun _ => 0))), (q2, .inl (cA 0, 20, .inl (fun _ => 0))), (q3, .inl (cA 0, 20, .inl (fun _ => 0))), (q4, .inl (cA 0, 20, .inl (fun _ => 0))), (q5, .inl (cA 0, 40, .inl (fun _ => 0))), (q6, .inr (4, [.ref q7, .ref q8])), (q7, .inl (cA 1, 20, .inl (fun _ => 0))), (q8, .inl (cA 0, 1, .inl (fun _ => 0))), (q9, .inr (3, [.ref q10, .int 0])), (q10, .inl (cA 0, 40, .inl (fun _ => 0)))] := hD
  refine W.widen (k := 10) (n := 185) (Nat.le_of_ble_eq_true rfl) (Nat.le_of_ble_eq_true rfl) ?_
  refine va_putF (D := D) (ci := 2) (v := .ref q9) (ty := .object "PeerScripts$Log") (C := R_Pe) (T := F_Pe) (N := 10) hx hb hT in_Pe t_Pe t_Pe_ok n_Pe hown hK hP hD hS 0 rfl rfl 9 (by decide) (hT _ fl_Pe_39) (fun _ h9 => h9) rfl hin rfl (by decide +kernel) rfl rfl (Nat.le_of_ble_eq_true rfl) d_Pe_init_64 (fun H locs hP hD hS => ?_)
  have hP : va_P D classes [(h0, .inr (2, [.ref q1, .ref q2, .ref q3, .ref q4, .int 0, .int 0, .ref q5, .int 0, .ref q6, .ref q9])), (q1, .inl (cA 0, 20, .inl (fun _ => 0))), (q2, .inl (cA 0, 20, .inl (fun _ => 0))), (q3, .inl (cA 0, 20, .inl (fun _ => 0))), (q4, .inl (cA 0, 20, .inl (fun _ => 0))), (q5, .inl (cA 0, 40, .inl (fun _ => 0))), (q6, .inr (4, [.ref q7, .ref q8])), (q7, .inl (cA 1, 20, .inl (fun _ => 0))), (q8, .inl (cA 0, 1, .inl (fun _ => 0))), (q9, .inr (3, [.ref q10, .int 0])), (q10, .inl (cA 0, 40, .inl (fun _ => 0)))] H := hP
  have hD : va_D A [(h0, .inr (2, [.ref q1, .ref q2, .ref q3, .ref q4, .int 0, .int 0, .ref q5, .int 0, .ref q6, .ref q9])), (q1, .inl (cA 0, 20, .inl (fun _ => 0))), (q2, .inl (cA 0, 20, .inl (fun _ => 0))), (q3, .inl (cA 0, 20, .inl (fun _ => 0))), (q4, .inl (cA 0, 20, .inl (fun _ => 0))), (q5, .inl (cA 0, 40, .inl (fun _ => 0))), (q6, .inr (4, [.ref q7, .ref q8])), (q7, .inl (cA 1, 20, .inl (fun _ => 0))), (q8, .inl (cA 0, 1, .inl (fun _ => 0))), (q9, .inr (3, [.ref q10, .int 0])), (q10, .inl (cA 0, 40, .inl (fun _ => 0)))] := hD
  exact W.vret hx hb hr (fun t ht hW => ⟨⟨(), rfl, trivial, q1, q2, q3, q4, q5, q6, q7, q8, q9, q10, by rw [ht]; exact hP, hD⟩, hS.F ht⟩) hS.2.2 d_Pe_init_67
