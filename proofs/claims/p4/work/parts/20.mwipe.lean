/-! the reference's wipe; written by wip/gen/mwipe.py -/
set_option maxHeartbeats 4000000 in
set_option maxRecDepth 100000 in
theorem c_Md_wipe (l : Launch) (D : va_G) (ad : Nat → Nat) (cA : Nat → ClassId) (M : ux_M) : Met l y_Md_wipe w_Md_wipe ({ frames := 0, cells := 0, slots := 0, locals := 0 }) (va_Pc [.ref (ad 0)] (ux_B D shM KM ad cA M)) (va_Qv (fun M1 => M1 = (vfill (vfill (ux_wr (ux_wr M 0 1 0) 0 2 0) 2 208 (-1)) 5 26 0)) (ux_E D shM KM ad cA) (ux_A KM ad)) 0 0 (ux_A KM ad) := by
  refine Met.ofW (cc := b_Md_wipe) (maxL := 2) (ret := none) (by decide) rfl ?_
  intro p e s m args below meth c s₁ B hml hv
  obtain ⟨rfl, hP, hK, hi, hN⟩ := hv
  have hx := B.exec
  have hb := B.bytes
  have hr := B.returns
  have hts := atoms_spec (ws := w_Md_wipe) B.pre
  have hown : s.vm.findClass R_Md = some m.cls := findClass_of_methodNamed B.named
  have hlocks := B.notSynchronized
  have hT : ∀ w ∈ tb, w.before _ s = true := fun w h => hts w (List.mem_cons_of_mem _ h)
  have hS : va_S (ux_A KM ad) s.heap s.heap [] := va_S.rf
  have loop2 : ∀ d i : Nat, i + d = 26 → ∀ (H : Heap) (locs : List Loc) (ls : Array Slot), va_P D classes (ux_w shM KM ad cA (vfill (vfill (ux_wr (ux_wr M 0 1 0) 0 2 0) 2 208 (-1)) 5 i 0)) H → va_S (ux_A KM ad) s.heap H locs → lv_has ls 2 [(1, .int (nI i)), (0, .ref (ad 0))] →
      W p l e (headSpec w_Md_wipe { frames := 0, cells := 0, slots := 0, locals := 0 }).room s m ([.ref (ad 0)] : List Value).toArray below meth c H locs 0 0 (MQ below (va_Qv (fun M1 => M1 = (vfill (vfill (ux_wr (ux_wr M 0 1 0) 0 2 0) 2 208 (-1)) 5 26 0)) (ux_E D shM KM ad cA) (ux_A KM ad)) ([.ref (ad 0)] : List Value).toArray s 0 0 (ux_A KM ad)) (F0 m 34 ls []) := by
    intro d
    induction d with
    | zero =>
      intro i hid H locs ls hP hS hl
      have hie : i = 26 := by omega
      subst hie
      refine lv_iload_n hx hb d_Md_wipe_34 rfl (lv_at hl 0 rfl) ?_
      refine lv_bipush (v := 26) hx hb d_Md_wipe_35 (by decide) ?_
      refine lv_icmp_ge hx hb d_Md_wipe_37 rfl (fun h1 => ?_) (fun h1 => absurd (by decide) h1)
      exact W.vret hx hb hr (fun t ht hW => ⟨⟨_, rfl, rfl, by unfold ux_E; rw [ht]; exact hP⟩, hS.F ht⟩) hS.2.2 d_Md_wipe_53
    | succ d ih =>
      intro i hid H locs ls hP hS hl
      refine lv_iload_n hx hb d_Md_wipe_34 rfl (lv_at hl 0 rfl) ?_
      refine lv_bipush (v := 26) hx hb d_Md_wipe_35 (by decide) ?_
      refine lv_icmp_ge hx hb d_Md_wipe_37 rfl (fun h1 => absurd h1 (nI_ge (b := 26) (by omega) (by omega))) (fun h1 => ?_)
      refine lv_aload_n hx hb d_Md_wipe_40 rfl (lv_at hl 1 rfl) ?_
      refine ux_get (C := R_Md) (T := F_Md) (N := 50) hx hb hT in_Md hown hK hP (k := 0) (by decide) rfl rfl 6 (by decide) (hT _ fl_Md_24) rfl d_Md_wipe_41 ?_
      refine lv_iload_n hx hb d_Md_wipe_44 rfl (lv_at hl 0 rfl) ?_
      refine lv_iconst (v := 0) hx hb d_Md_wipe_45 (by decide) ?_
      refine ux_zast (k := 5) hx hb hK hi hP hS (by decide) rfl (vp_in_nI (by omega) (by omega)) d_Md_wipe_46 (fun H locs hP hS => ?_)
      rw [nI_clamp (by omega), show vp_nar .boolean 0 = 0 from rfl, vfill_s] at hP
      refine lv_iinc (k := 0) (v := nI (i + 1)) hx hb d_Md_wipe_47 hl rfl (nI_1 i) (by decide) rfl (fun ls hl => ?_)
      have hl : lv_has ls 2 [(1, .int (nI (i + 1))), (0, .ref (ad 0))] := hl
      refine lv_goto hx hb d_Md_wipe_50 rfl ?_
      exact ih (i + 1) (by omega) H locs ls hP hS hl
  have loop1 : ∀ d i : Nat, i + d = 208 → ∀ (H : Heap) (locs : List Loc) (ls : Array Slot), va_P D classes (ux_w shM KM ad cA (vfill (ux_wr (ux_wr M 0 1 0) 0 2 0) 2 i (-1))) H → va_S (ux_A KM ad) s.heap H locs → lv_has ls 2 [(1, .int (nI i)), (0, .ref (ad 0))] →
      W p l e (headSpec w_Md_wipe { frames := 0, cells := 0, slots := 0, locals := 0 }).room s m ([.ref (ad 0)] : List Value).toArray below meth c H locs 0 0 (MQ below (va_Qv (fun M1 => M1 = (vfill (vfill (ux_wr (ux_wr M 0 1 0) 0 2 0) 2 208 (-1)) 5 26 0)) (ux_E D shM KM ad cA) (ux_A KM ad)) ([.ref (ad 0)] : List Value).toArray s 0 0 (ux_A KM ad)) (F0 m 12 ls []) := by
    intro d
    induction d with
    | zero =>
      intro i hid H locs ls hP hS hl
      have hie : i = 208 := by omega
      subst hie
      refine lv_iload_n hx hb d_Md_wipe_12 rfl (lv_at hl 0 rfl) ?_
      refine lv_sipush (v := 208) hx hb d_Md_wipe_13 (by decide) ?_
      refine lv_icmp_ge hx hb d_Md_wipe_16 rfl (fun h1 => ?_) (fun h1 => absurd (by decide) h1)
      refine lv_iconst (v := 0) hx hb d_Md_wipe_32 (by decide) ?_
      refine lv_istore_n hx hb d_Md_wipe_33 rfl hl (by decide) rfl (fun ls hl => ?_)
      have hl : lv_has ls 2 [(1, .int (nI 0)), (0, .ref (ad 0))] := hl
      exact loop2 26 0 (by decide) H locs ls (by rw [vfill_0]; exact hP) hS hl
    | succ d ih =>
      intro i hid H locs ls hP hS hl
      refine lv_iload_n hx hb d_Md_wipe_12 rfl (lv_at hl 0 rfl) ?_
      refine lv_sipush (v := 208) hx hb d_Md_wipe_13 (by decide) ?_
      refine lv_icmp_ge hx hb d_Md_wipe_16 rfl (fun h1 => absurd h1 (nI_ge (b := 208) (by omega) (by omega))) (fun h1 => ?_)
      refine lv_aload_n hx hb d_Md_wipe_19 rfl (lv_at hl 1 rfl) ?_
      refine ux_get (C := R_Md) (T := F_Md) (N := 50) hx hb hT in_Md hown hK hP (k := 0) (by decide) rfl rfl 3 (by decide) (hT _ fl_Md_13) rfl d_Md_wipe_20 ?_
      refine lv_iload_n hx hb d_Md_wipe_23 rfl (lv_at hl 0 rfl) ?_
      refine lv_iconst (v := (-1)) hx hb d_Md_wipe_24 (by decide) ?_
      refine ux_iast (k := 2) hx hb hK hi hP hS (by decide) rfl (vp_in_nI (by omega) (by omega)) d_Md_wipe_25 (fun H locs hP hS => ?_)
      rw [nI_clamp (by omega), vfill_s] at hP
      refine lv_iinc (k := 0) (v := nI (i + 1)) hx hb d_Md_wipe_26 hl rfl (nI_1 i) (by decide) rfl (fun ls hl => ?_)
      have hl : lv_has ls 2 [(1, .int (nI (i + 1))), (0, .ref (ad 0))] := hl
      refine lv_goto hx hb d_Md_wipe_29 rfl ?_
      exact ih (i + 1) (by omega) H locs ls hP hS hl
  have hl := lv_entry ([.ref (ad 0)]) (n := 2) (Nat.le_of_ble_eq_true rfl)
  rw [lg_entry_eq]
  generalize (lg_sl ([.ref (ad 0)]) ++ List.replicate (2 - (lg_sl ([.ref (ad 0)])).length) Slot.unset).toArray = ls at hl ⊢
  have hl : lv_has ls 2 [(0, .ref (ad 0))] := hl
  refine lv_aload_n hx hb d_Md_wipe_0 rfl (lv_at hl 0 rfl) ?_
  refine lv_iconst (v := 0) hx hb d_Md_wipe_1 (by decide) ?_
  refine ux_put (C := R_Md) (T := F_Md) (N := 50) hx hb hT in_Md t_Md t_Md_ok n_Md hown hK hi hP hS (k := 0) (by decide) rfl rfl 1 (by decide) (hT _ fl_Md_112) rfl rfl rfl rfl d_Md_wipe_2 (fun H locs hP hS => ?_)
  refine lv_aload_n hx hb d_Md_wipe_5 rfl (lv_at hl 0 rfl) ?_
  refine lv_iconst (v := 0) hx hb d_Md_wipe_6 (by decide) ?_
  refine ux_put (C := R_Md) (T := F_Md) (N := 50) hx hb hT in_Md t_Md t_Md_ok n_Md hown hK hi hP hS (k := 0) (by decide) rfl rfl 2 (by decide) (hT _ fl_Md_115) rfl rfl rfl rfl d_Md_wipe_7 (fun H locs hP hS => ?_)
  refine lv_iconst (v := 0) hx hb d_Md_wipe_10 (by decide) ?_
  refine lv_istore_n hx hb d_Md_wipe_11 rfl hl (by decide) rfl (fun ls hl => ?_)
  have hl : lv_has ls 2 [(1, .int (nI 0)), (0, .ref (ad 0))] := hl
  exact loop1 208 0 (by decide) _ _ ls (by rw [vfill_0]; exact hP) hS hl
