/-! Making cells: rows' kinds are known ahead -/
theorem ux_RA {s : State} {c1 c2 : ClassId} {ty : FieldType} (h1 : va_RA s c1 ty) (h2 : va_RA s c2 ty) : c1 = c2 := by
  cases ty with
  | object C =>
    obtain ⟨-, -, -, -, -, e1⟩ := h1
    obtain ⟨-, -, -, -, -, e2⟩ := h2
    exact Option.some.inj (e1.symm.trans e2)
  | _ => exact Option.some.inj ((show s.vm.findClass _ = some c1 from h1).symm.trans (show s.vm.findClass _ = some c2 from h2))
theorem ux_cA {D : va_G} {s : State} {cA : Nat → ClassId} {c1 : ClassId} {ty : FieldType} {t0 : Nat} (hK : va_K D classes (ux_t cA) s) (ht : (ux_t cA)[t0]? = some (cA t0, ty)) (h1 : va_K D classes (ux_t cA ++ [(c1, ty)]) s) : c1 = cA t0 :=
  ux_RA (h1.2 5 (c1, ty) rfl).2 (hK.2 t0 _ ht).2
section UXN
variable {p : Program} {l : Launch} {e : Env} {R : Room} {s : State} {m : MethodId} {args : Array Value} {below : List Frame} {meth : Method} {c : Code} {H : Heap} {locs : List Loc} {cells slots : Nat} {Q : State → Prop}
variable {cc : ByteArray} {pc : Nat} {ls : Array Slot} {rest : List Value} {D : va_G} {cA : Nat → ClassId} {H0 : Heap} {A : Nat → Prop} {ws : va_W}
theorem ux_newa (t0 : Nat) (hexec : p.tables.exec = Jvm.exec) (hb : c.code = cc) {atype : ArrayType} (harr : (Cond.arrayClass (newarray.typeOf atype)).before args s = true) {ty : FieldType} (hty : newarray.typeOf atype = ty) (hK : va_K D classes (ux_t cA) s) (ht : (ux_t cA)[t0]? = some (cA t0, ty)) (hP : va_P D classes ws H) (hD : va_D A ws) (hS : va_S A H0 H locs) (hA : ∀ q, H0.size ≤ q → A q)
    {n : Int32} {N' : Nat} (ha : ∀ c1 : ClassId, vp_cell c1 (N', .inl (fun _ => 0)) = arrV c1 N' (fun _ => defaultValue ty)) (hn : ¬ n < 0) (hN : n.toNatClampNeg = N') (hbytes : N' * componentBytes ty ≤ 536870912) (hcells : cells + 1 ≤ R.cells) (hslots : slots + N' ≤ R.slots) (hdg : decode cc pc = .ok (.newarray atype, 2))
    (kk : ∀ (q : Nat) (H1 : Heap), va_P D classes (ws ++ [(q, .inl (cA t0, N', .inl (fun _ => 0)))]) H1 → va_D A (ws ++ [(q, .inl (cA t0, N', .inl (fun _ => 0)))]) → va_S A H0 H1 locs →
      W p l e R s m args below meth c H1 locs (cells + 1) (slots + N') Q (F0 m (pc + 2) ls (.ref q :: rest))) : W p l e R s m args below meth c H locs cells slots Q (F0 m pc ls (.int n :: rest)) :=
  va_newa hexec hb harr hty hK hP hD hS hA ha hn hN hbytes hcells hslots hdg (fun q c1 H1 hK1 hP1 hD1 hS1 => by
    have e1 := ux_cA hK ht hK1
    subst e1
    exact kk q H1 hP1 hD1 hS1)
theorem ux_newq (t0 : Nat) (hexec : p.tables.exec = Jvm.exec) (hb : c.code = cc) {own C : String} {index : Nat} (hown : s.vm.findClass own = some m.cls) (hclink : (Cond.classLink own index C).before args s = true) (hover : va_AO C s) (hK : va_K D classes (ux_t cA) s) (ht : (ux_t cA)[t0]? = some (cA t0, .object C)) (hP : va_P D classes ws H) (hD : va_D A ws) (hS : va_S A H0 H locs) (hA : ∀ q, H0.size ≤ q → A q)
    {n : Int32} {N' : Nat} (hn : ¬ n < 0) (hN : n.toNatClampNeg = N') (hbytes : N' * 4 ≤ 536870912) (hcells : cells + 1 ≤ R.cells) (hslots : slots + N' ≤ R.slots) (hdg : decode cc pc = .ok (.anewarray index, 3))
    (kk : ∀ (q : Nat) (H1 : Heap), va_P D classes (ws ++ [(q, .inl (cA t0, N', .inr (.inr (.inr (.inr (fun _ => none))))))]) H1 → va_D A (ws ++ [(q, .inl (cA t0, N', .inr (.inr (.inr (.inr (fun _ => none))))))]) → va_S A H0 H1 locs →
      W p l e R s m args below meth c H1 locs (cells + 1) (slots + N') Q (F0 m (pc + 3) ls (.ref q :: rest))) : W p l e R s m args below meth c H locs cells slots Q (F0 m pc ls (.int n :: rest)) :=
  va_newq hexec hb hown hclink hover hK hP hD hS hA hn hN hbytes hcells hslots hdg (fun q c1 H1 hK1 hP1 hD1 hS1 => by
    have e1 := ux_cA hK ht hK1
    subst e1
    exact kk q H1 hP1 hD1 hS1)
end UXN
/-- rows of objects can be made of these two kinds -/
def ux_O (U : State) : Prop := va_AO "PeerScripts$Values" U ∧ va_AO "PeerScripts$Level" U
theorem ux_O.moved {u U : State} (h : u.vm.Alike U.vm) (q : ux_O u) : ux_O U := ⟨va_AO.moved h q.1, va_AO.moved h q.2⟩
/-- a maker's start: the blank cell, the kinds, the nest -/
def ux_C (D : va_G) (cA : Nat → ClassId) (sz : Nat) (ws : va_W) (U : State) : Prop := U.heap.size = sz ∧ va_P D classes ws U.heap ∧ va_K D classes (ux_t cA) U ∧ va_D (fun _ => True) ws ∧ ux_N U ∧ ux_O U
section UXP
variable {s : State} {H : Heap} {D : va_G} {cA : Nat → ClassId} {ws : va_W}
theorem ux_preC {sz : Nat} {As : List Value} {A : Nat → Prop} (hz : H.size = sz) (hP : va_P D classes ws H) (hK : va_K D classes (ux_t cA) s) (hD : va_D A ws) (hN : ux_N s) (hO : ux_O s) : PreS s H (va_Pc As (ux_C D cA sz ws)) As := by
  refine ⟨?_, fun U hU hW => ⟨rfl, by rw [hU]; exact hz, by rw [hU]; exact hP, va_K.moved hW.alike hK, hD.weaken (fun _ _ _ _ => trivial), hN.warm hW, hO.moved hW.alike⟩⟩
  intro a U g mk q
  obtain ⟨q0, q1, qP, qK, qD, qN, qO⟩ := q
  exact ⟨q0, q1, qP, va_K.moved (u := U) (U := U.calling g mk a) (Vm.Alike.refl U.vm) qK, qD, ux_N.same (u := U) (U := U.calling g mk a) rfl qN, ux_O.moved (u := U) (U := U.calling g mk a) (Vm.Alike.refl U.vm) qO⟩
end UXP
/-! a contract over a table, called out of a list of cells -/
theorem ux_A_in {sh : Nat → ux_S} {K : Nat} {ad : Nat → Nat} {cA : Nat → ClassId} {M : ux_M} {sz z : Nat} (h : ux_A K ad z) : va_A (ux_w sh K ad cA M) sz z := by
  obtain ⟨k, hk, rfl⟩ := h
  exact va_A.in (ux_w_at hk)
theorem ux_inj_of {sh : Nat → ux_S} {K : Nat} {ad : Nat → Nat} {cA : Nat → ClassId} {M : ux_M} {A : Nat → Prop} (h : va_D A (ux_w sh K ad cA M)) : ux_inj K ad := fun i j hi hj e => h.1 i j _ _ (ux_w_at hi) (ux_w_at hj) e
theorem ux_D2 {sh : Nat → ux_S} {K : Nat} {ad : Nat → Nat} {cA : Nat → ClassId} {M M1 : ux_M} {sz : Nat} (h : ux_inj K ad) : va_D (va_A (ux_w sh K ad cA M) sz) (ux_w sh K ad cA M1) := (ux_D h).weaken (fun _ _ _ q => ux_A_in q)
def ux_sV (n : Nat) : Nat → ux_S := fun k => match k with
  | 0 => .inl (4, [some 1, some 2])
  | 1 => .inr (1, 20 * n, none)
  | _ => .inr (0, n, none)
def ux_a3 (a b c : Nat) : Nat → Nat := fun k => match k with
  | 0 => a
  | 1 => b
  | _ => c
theorem ux_sV_ok {n : Nat} (h : n ≤ 1000) : ux_V (ux_sV n) 3 0 1 2 n := ⟨by decide, by decide, by decide, rfl, rfl, rfl, h⟩
/-- Values(n), by hand -/
theorem nx_20 {n : Nat} (h : n ≤ 1000) : nI n * 20 = nI (20 * n) := by rw [show (20 : Int32) = nI 20 from rfl, pk_mul, Nat.mul_comm]
set_option maxHeartbeats 4000000 in
set_option maxRecDepth 100000 in
theorem c_Vl_init (l : Launch) (D : va_G) (cA : Nat → ClassId) (h0 sz n : Nat) (hn : n ≤ 1000) : Met l y_Vl_init w_Vl_init ({ frames := 1, cells := 2, slots := 21 * n, locals := 12 }) (va_Pc [.ref h0, .int (nI n)] (ux_C D cA sz [(h0, .inr (4, [.null, .null]))])) (va_Qv (fun _ : Unit => True) (fun _ t => ∃ qs : Nat → Nat, va_P D classes [(h0, .inr (4, [.ref (qs 0), .ref (qs 1)])), ((qs 0), .inl (cA 1, 20 * n, .inl (fun _ => 0))), ((qs 1), .inl (cA 0, n, .inl (fun _ => 0)))] t.heap ∧ va_D (va_A [(h0, .inr (4, [.null, .null]))] sz) [(h0, .inr (4, [.ref (qs 0), .ref (qs 1)])), ((qs 0), .inl (cA 1, 20 * n, .inl (fun _ => 0))), ((qs 1), .inl (cA 0, n, .inl (fun _ => 0)))]) (va_A [(h0, .inr (4, [.null, .null]))] sz)) 2 (21 * n) (va_A [(h0, .inr (4, [.null, .null]))] sz) := by
  refine Met.ofW (cc := b_Vl_init) (maxL := 2) (ret := none) (by decide) rfl ?_
  intro p e s m args below meth c s₁ B hml hv
  obtain ⟨rfl, hsz, hP, hK, hD0, hN, hO⟩ := hv
  have hx := B.exec
  have hb := B.bytes
  have hr := B.returns
  have hts := atoms_spec (ws := w_Vl_init) B.pre
  have hown : s.vm.findClass R_Vl = some m.cls := findClass_of_methodNamed B.named
  have hlocks := B.notSynchronized
  have hin : meth.name = "<init>" := (name_of_methodNamed B.named B.method).1
  have hT : ∀ w ∈ tb, w.before _ s = true := fun w h => hts w (List.mem_cons_of_mem _ h)
  subst hsz
  have hD := hD0.self (sz := s.heap.size)
  generalize hAe : va_A [(h0, .inr (4, [.null, .null]))] s.heap.size = A at hD ⊢
  have hA : ∀ q : Nat, s.heap.size ≤ q → A q := fun q h => by rw [← hAe]; exact Or.inr h
  have hS : va_S A s.heap s.heap [] := va_S.rf
  have hl := lv_entry ([.ref h0, .int (nI n)]) (n := 2) (Nat.le_of_ble_eq_true rfl)
  rw [lg_entry_eq]
  generalize (lg_sl ([.ref h0, .int (nI n)]) ++ List.replicate (2 - (lg_sl ([.ref h0, .int (nI n)])).length) Slot.unset).toArray = ls at hl ⊢
  have hl : lv_has ls 2 [(0, .ref h0), (1, .int (nI n))] := hl
  refine lv_aload_n hx hb d_Vl_init_0 rfl (lv_at hl 0 rfl) ?_
  refine W.objInit hx hb hown (hT _ ml_Vl_3) (hT _ im_Ob_init) (hT _ kt_Ob_init) rfl (by rw [hml]; exact hl.1) rfl d_Vl_init_1 (Nat.le_of_ble_eq_true rfl) (Nat.le_of_ble_eq_true rfl) ?_
  refine W.eq (g2 := F0 m 4 ls []) rfl ?_
  refine lv_aload_n hx hb d_Vl_init_4 rfl (lv_at hl 0 rfl) ?_
  refine lv_iload_n hx hb d_Vl_init_5 rfl (lv_at hl 1 rfl) ?_
  refine lv_bipush (v := 20) hx hb d_Vl_init_6 (by decide) ?_
  refine lv_imul hx hb d_Vl_init_8 ?_
  rw [nx_20 hn]
  refine ux_newa 1 hx hb (atype := .char) (ty := .char) (hT _ ac_char) rfl hK rfl hP hD hS hA (fun _ => rfl) (nI_pos (by omega)) (nI_clamp (by omega)) (by show 20 * n * 2 ≤ _; omega) (Nat.le_of_ble_eq_true rfl) (by show 0 + 20 * n ≤ 21 * n; omega) d_Vl_init_9 (fun q1 H hP hD hS => ?_)
  have hP : va_P D classes [(h0, .inr (4, [.null, .null])), (q1, .inl (cA 1, 20 * n, .inl (fun _ => 0)))] H := hP
  have hD : va_D A [(h0, .inr (4, [.null, .null])), (q1, .inl (cA 1, 20 * n, .inl (fun _ => 0)))] := hD
  refine va_putF (D := D) (ci := 4) (v := .ref q1) (ty := .array .char) (C := R_Vl) (T := F_Vl) (N := 2) hx hb hT in_Vl t_Vl t_Vl_ok n_Vl hown hK hP hD hS 0 rfl rfl 0 (by decide) (hT _ fl_Vl_9) (fun _ h9 => h9) rfl hin rfl (by decide +kernel) rfl rfl (Nat.le_of_ble_eq_true rfl) d_Vl_init_11 (fun H locs hP hD hS => ?_)
  have hP : va_P D classes [(h0, .inr (4, [.ref q1, .null])), (q1, .inl (cA 1, 20 * n, .inl (fun _ => 0)))] H := hP
  have hD : va_D A [(h0, .inr (4, [.ref q1, .null])), (q1, .inl (cA 1, 20 * n, .inl (fun _ => 0)))] := hD
  refine lv_aload_n hx hb d_Vl_init_14 rfl (lv_at hl 0 rfl) ?_
  refine lv_iload_n hx hb d_Vl_init_15 rfl (lv_at hl 1 rfl) ?_
  refine ux_newa 0 hx hb (atype := .int) (ty := .int) (hT _ ac_int) rfl hK rfl hP hD hS hA (fun _ => rfl) (nI_pos (by omega)) (nI_clamp (by omega)) (by show n * 4 ≤ _; omega) (Nat.le_of_ble_eq_true rfl) (by show 0 + 20 * n + n ≤ 21 * n; omega) d_Vl_init_16 (fun q2 H hP hD hS => ?_)
  have hP : va_P D classes [(h0, .inr (4, [.ref q1, .null])), (q1, .inl (cA 1, 20 * n, .inl (fun _ => 0))), (q2, .inl (cA 0, n, .inl (fun _ => 0)))] H := hP
  have hD : va_D A [(h0, .inr (4, [.ref q1, .null])), (q1, .inl (cA 1, 20 * n, .inl (fun _ => 0))), (q2, .inl (cA 0, n, .inl (fun _ => 0)))] := hD
  refine va_putF (D := D) (ci := 4) (v := .ref q2) (ty := .array .int) (C := R_Vl) (T := F_Vl) (N := 2) hx hb hT in_Vl t_Vl t_Vl_ok n_Vl hown hK hP hD hS 0 rfl rfl 1 (by decide) (hT _ fl_Vl_15) (fun _ h9 => h9) rfl hin rfl (by decide +kernel) rfl rfl (Nat.le_of_ble_eq_true rfl) d_Vl_init_18 (fun H locs hP hD hS => ?_)
  have hP : va_P D classes [(h0, .inr (4, [.ref q1, .ref q2])), (q1, .inl (cA 1, 20 * n, .inl (fun _ => 0))), (q2, .inl (cA 0, n, .inl (fun _ => 0)))] H := hP
  have hD : va_D A [(h0, .inr (4, [.ref q1, .ref q2])), (q1, .inl (cA 1, 20 * n, .inl (fun _ => 0))), (q2, .inl (cA 0, n, .inl (fun _ => 0)))] := hD
  refine W.widen (k := 2) (n := 21 * n) (by omega) (by omega) ?_
  exact W.vret hx hb hr (fun t ht hW => ⟨⟨(), rfl, trivial, (fun k => ([q1, q2] : List Nat).getD k 0), by rw [ht]; exact hP, hD⟩, hS.F ht⟩) hS.2.2 d_Vl_init_21
