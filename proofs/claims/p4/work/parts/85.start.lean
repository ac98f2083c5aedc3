/-! the law from its entry; written by wip/gen/law2.py -/
set_option maxHeartbeats 4000000 in
set_option maxRecDepth 100000 in
/-- YOUR PART: from the entry, for every script of at most 2560 ints, the law comes to its end with true -/
theorem whole_start {p : Program} {e : Env} {s : State} {m : MethodId} {below : List Frame} {meth : Method} {c : Code} (l : Launch) {b L : Nat} {xs : Nat → Int32} (hL : L ≤ 2560) (C0 : lw_At p s m meth c b L xs) : W p l e room_1 s m #[Value.ref b] below meth c s.heap [] 0 0 (lw_Z below #[Value.ref b] s) (entryFrame m ([Value.ref b] : List Value).toArray 4) := by
  have C1 := C0
  obtain ⟨hx, hb, hr, hml, hown0, hts, hXs, hbl, hlocks, hgv⟩ := C0
  have hown : s.vm.findClass R_Lw = some m.cls := hown0
  have hT : ∀ w ∈ tb, w.before #[Value.ref b] s = true := fun w h => hts w (List.mem_filter.mp h).1
  have hbA : ¬ lx_A s b := Nat.not_le.mpr hbl
  obtain ⟨D, cA, hK⟩ := lx_kinds hts
  obtain ⟨adK, adV, fm, z1, z2, z3, z4, z5⟩ := lx_str (A := lx_A s) hgv hts (fun q hq => Nat.not_le.mpr hq)
  have hN : ux_N s := fun w hw => va_Nw.of (nw_on w hw) (hts w (nw_tbl w hw))
  have hO : ux_O s := ⟨va_AO.of (hts _ ao_Vl), va_AO.of (hts _ ao_Lv)⟩
  have hA : ∀ q, s.heap.size ≤ q → lx_A s q := fun q h => h
  have hS : va_S (lx_A s) s.heap s.heap [] := va_S.rf
  have hP : va_P D classes [] s.heap := fun k q h => by cases h
  have hD : va_D (lx_A s) [] := ⟨fun i j p q h => (by cases h), fun k q h => (by cases h)⟩
  have hl := lv_entry ([.ref b]) (n := 4) (Nat.le_of_ble_eq_true rfl)
  rw [lg_entry_eq]
  generalize (lg_sl ([.ref b]) ++ List.replicate (4 - (lg_sl ([.ref b])).length) Slot.unset).toArray = ls at hl ⊢
  have hl : lv_has ls 4 [(0, .ref b)] := hl
  refine va_new (ci := 0) (fs := [.null, .null, .null]) (C := R_PS) (T := F_PS) (N := 3) hx hb hT in_PS t_PS t_PS_ok hown (hT _ cl_Lw_7) (hT _ it_PS) (hT _ ii_PS) hK hP hD hS hA rfl (by decide) (Nat.le_of_ble_eq_true rfl) (Nat.le_of_ble_eq_true rfl) d_Lw_law_0 (fun h0 H hP hD hS => ?_)
  have hP : va_P D classes [(h0, .inr (0, [.null, .null, .null]))] H := hP
  have hD : va_D (lx_A s) [(h0, .inr (0, [.null, .null, .null]))] := hD
  refine lv_dup hx hb d_Lw_law_3 rfl ?_
  have hFx : ∀ q, va_A [(h0, .inr (0, [.null, .null, .null]))] H.size q → lx_A s q := fun q h => (lx_A1 h).elim (fun e => by rw [e]; exact hD.2 0 _ rfl) (fun h => Nat.le_trans hS.1 h)
  refine va_callv (va_runI (As := []) (rest := [.ref h0]) ⟨hx, hb, hml, hown, hT⟩ (c_PS_init l D cA h0 H.size) (cwI 0 hT (tb_goodI kt_PS_init) rfl rfl rfl (hT _ ii_PS) (hT _ ml_Lw_9) (hT _ im_PS_init) rfl (by decide +kernel) ⟨Nat.le_of_ble_eq_true rfl, Nat.le_of_ble_eq_true rfl⟩) (ux_preC rfl hP hK hD hN hO) rfl rfl hl.1 rfl (lv_room (Nat.le_of_ble_eq_true rfl)) d_Lw_law_4 ⟨Nat.le_of_ble_eq_true rfl, Nat.le_of_ble_eq_true rfl⟩) hS (fun q _ h => hFx q h) hFx (fun _ t H1 locs ht _ _ hB _ _ hS => ?_)
  obtain ⟨qs, hP1, hD1⟩ := hB
  rw [ht] at hP1
  obtain ⟨hX, hDx⟩ := psX hP1 hD1
  clear hP1 hD1
  have hix : ux_inj KX (adX h0 qs) := ux_inj_of hDx
  have hAx : ∀ i, i < KX → lx_A s (adX h0 qs i) := fun i hi => hFx _ (hDx.2 i _ (ux_w_at hi))
  refine lv_astore_n hx hb d_Lw_law_7 rfl hl (by decide) rfl (fun ls hl => ?_)
  have hl : lv_has ls 4 [(1, .ref (adX h0 qs 0)), (0, .ref b)] := hl
  generalize adX h0 qs = ax at hl hX hDx hix hAx
  have hDx : va_D (lx_A s) (ux_w shX KX ax cA m0X) := hDx.weaken (fun _ _ _ h => hFx _ h)
  refine va_new (ci := 10) (fs := [.null, .int 0, .int 0, .null, .null, .null, .null, .null, .null, .null, .int 0, .null, .null, .null, .null, .null, .null, .null, .null, .null, .null, .null, .null, .int 0, .int 0, .int 0, .null, .int 0, .int 0, .null, .null, .int 0, .int 0, .int 0, .int 0, .int 0, .null, .null, .int 0, .int 0, .null, .null, .null, .null, .int 0, .null, .int 0, .null, .int 0, .null]) (C := R_Md) (T := F_Md) (N := 50) hx hb hT in_Md t_Md t_Md_ok hown (hT _ cl_Lw_10) (hT _ it_Md) (hT _ ii_Md) hK hX hDx hS hA rfl (by decide) (Nat.le_of_ble_eq_true rfl) (Nat.le_of_ble_eq_true rfl) d_Lw_law_8 (fun g0 H hP hD hS => ?_)
  have hX := lx_pl hP
  have hG := lx_pr hP
  have hgA : lx_A s g0 := hD.2 KX _ (by rw [List.getElem?_append_right (by simp [ux_w])]; simp [ux_w]; rfl)
  have hgx : ∀ i, i < KX → ax i ≠ g0 := fun i hi e => absurd (hD.1 i KX _ _ (by rw [List.getElem?_append_left (by simp [ux_w]; exact hi)]; exact ux_w_at hi) (by rw [List.getElem?_append_right (by simp [ux_w])]; simp [ux_w]; rfl) e) (Nat.ne_of_lt hi)
  have hDg : va_D (lx_A s) [(g0, .inr (10, [.null, .int 0, .int 0, .null, .null, .null, .null, .null, .null, .null, .int 0, .null, .null, .null, .null, .null, .null, .null, .null, .null, .null, .null, .null, .int 0, .int 0, .int 0, .null, .int 0, .int 0, .null, .null, .int 0, .int 0, .int 0, .int 0, .int 0, .null, .null, .int 0, .int 0, .null, .null, .null, .null, .int 0, .null, .int 0, .null, .int 0, .null]))] := ⟨fun i j p q hi hj _ => by have h1 := (List.getElem?_eq_some_iff.mp hi).1; have h2 := (List.getElem?_eq_some_iff.mp hj).1; simp at h1 h2; omega, fun k q hk => by have h1 := (List.getElem?_eq_some_iff.mp hk).1; simp at h1; subst h1; cases hk; exact hgA⟩
  refine lv_dup hx hb d_Lw_law_11 rfl ?_
  have hFg : ∀ q, va_A [(g0, .inr (10, [.null, .int 0, .int 0, .null, .null, .null, .null, .null, .null, .null, .int 0, .null, .null, .null, .null, .null, .null, .null, .null, .null, .null, .null, .null, .int 0, .int 0, .int 0, .null, .int 0, .int 0, .null, .null, .int 0, .int 0, .int 0, .int 0, .int 0, .null, .null, .int 0, .int 0, .null, .null, .null, .null, .int 0, .null, .int 0, .null, .int 0, .null]))] H.size q → lx_A s q := fun q h => (lx_A1 h).elim (fun e => by rw [e]; exact hgA) (fun h => Nat.le_trans hS.1 h)
  refine va_callv (va_runI (As := []) (rest := [.ref g0]) ⟨hx, hb, hml, hown, hT⟩ (c_Md_init l D cA g0 H.size) (cwI 0 hT (tb_goodI kt_Md_init) rfl rfl rfl (hT _ ii_Md) (hT _ ml_Lw_12) (hT _ im_Md_init) rfl (by decide +kernel) ⟨Nat.le_of_ble_eq_true rfl, Nat.le_of_ble_eq_true rfl⟩) (ux_preC rfl hG hK hDg hN hO) rfl rfl hl.1 rfl (lv_room (Nat.le_of_ble_eq_true rfl)) d_Lw_law_12 ⟨Nat.le_of_ble_eq_true rfl, Nat.le_of_ble_eq_true rfl⟩) hS (fun q _ h => hFg q h) hFg (fun _ t H1 locs ht _ _ hB _ hk hS => ?_)
  obtain ⟨rs, hM, hDm⟩ := hB
  rw [ht] at hM
  have hX1 : va_P D classes (ux_w shX KX ax cA m0X) H1 := hX.kept (fun i q hi => hk q.1 ((hX i q hi).lt) (fun h => (lx_A1 h).elim (fun e => hgx i (ux_w_in hi).1 ((ux_w_in hi).2.symm.trans e)) (fun h => absurd ((hX i q hi).lt) (Nat.not_lt.mpr h))))
  have him : ux_inj KM (adX g0 rs) := ux_inj_of hDm
  have hAm : ∀ i, i < KM → lx_A s (adX g0 rs i) := fun i hi => hFg _ (hDm.2 i _ (ux_w_at hi))
  have hap : ∀ i, i < KX → ∀ j, j < KM → ax i ≠ adX g0 rs j := fun i hi j hj e => (lx_A1 (hDm.2 j _ (ux_w_at hj))).elim (fun h => hgx i hi (e.trans h)) (fun h => absurd ((hX i _ (ux_w_at hi)).lt) (Nat.not_lt.mpr (by show H.size ≤ ax i; rw [e]; exact h)))
  refine lv_astore_n hx hb d_Lw_law_15 rfl hl (by decide) rfl (fun ls hl => ?_)
  have hl : lv_has ls 4 [(2, .ref (adX g0 rs 0)), (1, .ref (ax 0)), (0, .ref b)] := hl
  generalize adX g0 rs = am at hl hM hDm him hAm hap
  refine W.widen (k := 600000) (n := 7302250) (Nat.le_of_ble_eq_true rfl) (Nat.le_of_ble_eq_true rfl) ?_
  refine lv_iconst (v := 0) hx hb d_Lw_law_16 (by decide) ?_
  refine lv_istore_n hx hb d_Lw_law_17 rfl hl (by decide) rfl (fun ls hl => ?_)
  have hl : lv_has ls 4 [(3, .int (nI 0)), (2, .ref (am 0)), (1, .ref (ax 0)), (0, .ref b)] := hl
  have Y : lx_Y D cA s ax am := ⟨hK, hN, hix, him, hap, hAx, hAm⟩
  have hAA : ∀ q, ux_A KX ax q → lx_A s q := fun q h => by obtain ⟨k, hk, e⟩ := h; rw [e]; exact hAx k hk
  have hZ : ux_Z ax adK adV fm s := ⟨z1.narrow hAA, z2.narrow hAA, z3.narrow hAA, z4, z5⟩
  exact lx_loop l hL C1 Y hZ L 0 m0X mM H1 locs ls (by omega) (by omega) Li_0 hl hX1 hM hS
