/-! wipe; run where the text is empty: written by wip/gen/ps.py -/
def vmax (x y : Int32) : Int32 := if x < y then y else x
def vmin (x y : Int32) : Int32 := if y < x then y else x

set_option maxHeartbeats 4000000 in
set_option maxRecDepth 100000 in
theorem c_Lv_begin_e (l : Launch) (D : va_G) (ad : Nat → Nat) (cA : Nat → ClassId) (M : ux_M) (ev : Int32) : Met l y_Lv_begin w_Lv_begin ({ frames := 1, cells := 0, slots := 0, locals := 21 }) (va_Pc [.ref (ad 53), .int 0, .int ev, .int 0, .int 0] (ux_B D shX KX ad cA M)) (va_Qv (fun M1 => M1 = (ux_wr (ux_wr (ux_wr (ux_wr (ux_wr (ux_wr M 53 4 0) 53 5 (vmax 0 0)) 53 6 (vmin ev 200)) 53 7 0) 53 8 0) 53 9 0)) (ux_E D shX KX ad cA) (ux_A KX ad)) 0 0 (ux_A KX ad) := by
  refine Met.ofW (cc := b_Lv_begin) (maxL := 5) (ret := none) (by decide) rfl ?_
  intro p e s m args below meth c s₁ B hml hv
  obtain ⟨rfl, hP, hK, hi, hN⟩ := hv
  have hx := B.exec
  have hb := B.bytes
  have hr := B.returns
  have hts := atoms_spec (ws := w_Lv_begin) B.pre
  have hown : s.vm.findClass R_Lv = some m.cls := findClass_of_methodNamed B.named
  have hlocks := B.notSynchronized
  have hT : ∀ w ∈ tb, w.before _ s = true := fun w h => hts w (List.mem_cons_of_mem _ h)
  have hS : va_S (ux_A KX ad) s.heap s.heap [] := va_S.rf
  have hl := lv_entry ([.ref (ad 53), .int 0, .int ev, .int 0, .int 0]) (n := 5) (Nat.le_of_ble_eq_true rfl)
  rw [lg_entry_eq]
  generalize (lg_sl ([.ref (ad 53), .int 0, .int ev, .int 0, .int 0]) ++ List.replicate (5 - (lg_sl ([.ref (ad 53), .int 0, .int ev, .int 0, .int 0])).length) Slot.unset).toArray = ls at hl ⊢
  have hl : lv_has ls 5 [(0, .ref (ad 53)), (1, .int 0), (2, .int ev), (3, .int 0), (4, .int 0)] := hl
  refine lv_aload_n hx hb d_Lv_begin_0 rfl (lv_at hl 0 rfl) ?_
  refine lv_iconst (v := 0) hx hb d_Lv_begin_1 (by decide) ?_
  refine ux_put (C := R_Lv) (T := F_Lv) (N := 10) hx hb hT in_Lv t_Lv t_Lv_ok n_Lv hown hK hi hP hS (by decide) rfl rfl 4 (by decide) (hT _ fl_Lv_31) rfl (rfl) (rfl) rfl d_Lv_begin_2 (fun H locs hP hS => ?_)
  refine lv_aload_n hx hb d_Lv_begin_5 rfl (lv_at hl 0 rfl) ?_
  refine lv_iload_n hx hb d_Lv_begin_6 rfl (lv_at hl 1 rfl) ?_
  refine lv_iconst (v := 0) hx hb d_Lv_begin_7 (by decide) ?_
  refine va_mmax hx hb (by rw [hml]; exact hl.1.symm) hown (hT _ ml_Lv_35) (hT _ sm_Ma_max) (hT _ ii_Ma) (hT _ kt_Ma_max) (Nat.le_of_ble_eq_true rfl) (Nat.le_of_ble_eq_true rfl) (Nat.zero_le _) (Nat.zero_le _) d_Lv_begin_8 ?_
  refine ux_put (C := R_Lv) (T := F_Lv) (N := 10) hx hb hT in_Lv t_Lv t_Lv_ok n_Lv hown hK hi hP hS (by decide) rfl rfl 5 (by decide) (hT _ fl_Lv_41) rfl (rfl) (rfl) rfl d_Lv_begin_11 (fun H locs hP hS => ?_)
  refine lv_aload_n hx hb d_Lv_begin_14 rfl (lv_at hl 0 rfl) ?_
  refine lv_iload_n hx hb d_Lv_begin_15 rfl (lv_at hl 2 rfl) ?_
  refine lv_sipush (v := 200) hx hb d_Lv_begin_16 (by decide) ?_
  refine va_mmin hx hb (by rw [hml]; exact hl.1.symm) hown (hT _ ml_Lv_44) (hT _ sm_Ma_min) (hT _ ii_Ma) (hT _ kt_Ma_min) (Nat.le_of_ble_eq_true rfl) (Nat.le_of_ble_eq_true rfl) (Nat.zero_le _) (Nat.zero_le _) d_Lv_begin_19 ?_
  refine ux_put (C := R_Lv) (T := F_Lv) (N := 10) hx hb hT in_Lv t_Lv t_Lv_ok n_Lv hown hK hi hP hS (by decide) rfl rfl 6 (by decide) (hT _ fl_Lv_47) rfl (rfl) (rfl) rfl d_Lv_begin_22 (fun H locs hP hS => ?_)
  refine lv_aload_n hx hb d_Lv_begin_25 rfl (lv_at hl 0 rfl) ?_
  refine lv_iload_n hx hb d_Lv_begin_26 rfl (lv_at hl 3 rfl) ?_
  refine ux_put (C := R_Lv) (T := F_Lv) (N := 10) hx hb hT in_Lv t_Lv t_Lv_ok n_Lv hown hK hi hP hS (by decide) rfl rfl 7 (by decide) (hT _ fl_Lv_50) rfl (rfl) (rfl) rfl d_Lv_begin_27 (fun H locs hP hS => ?_)
  refine lv_aload_n hx hb d_Lv_begin_30 rfl (lv_at hl 0 rfl) ?_
  refine lv_iload hx hb d_Lv_begin_31 (lv_at hl 4 rfl) ?_
  refine ux_put (C := R_Lv) (T := F_Lv) (N := 10) hx hb hT in_Lv t_Lv t_Lv_ok n_Lv hown hK hi hP hS (by decide) rfl rfl 8 (by decide) (hT _ fl_Lv_53) rfl (rfl) (rfl) rfl d_Lv_begin_33 (fun H locs hP hS => ?_)
  refine lv_aload_n hx hb d_Lv_begin_36 rfl (lv_at hl 0 rfl) ?_
  refine lv_iconst (v := 0) hx hb d_Lv_begin_37 (by decide) ?_
  refine ux_put (C := R_Lv) (T := F_Lv) (N := 10) hx hb hT in_Lv t_Lv t_Lv_ok n_Lv hown hK hi hP hS (by decide) rfl rfl 9 (by decide) (hT _ fl_Lv_57) rfl (rfl) (rfl) rfl d_Lv_begin_38 (fun H locs hP hS => ?_)
  exact W.vret hx hb hr (fun t ht hW => ⟨⟨(ux_wr (ux_wr (ux_wr (ux_wr (ux_wr (ux_wr M 53 4 0) 53 5 (vmax 0 0)) 53 6 (vmin ev 200)) 53 7 0) 53 8 0) 53 9 0), rfl, rfl, by unfold ux_E; rw [ht]; exact hP⟩, hS.F ht⟩) hS.2.2 d_Lv_begin_41

set_option maxHeartbeats 4000000 in
set_option maxRecDepth 100000 in
theorem c_Rn_readCommand_e (l : Launch) (D : va_G) (ad : Nat → Nat) (cA : Nat → ClassId) (M : ux_M) (hge : M 53 6 ≤ M 53 5) (hib : M 53 8 = 0) : Met l y_Rn_readCommand w_Rn_readCommand ({ frames := 0, cells := 0, slots := 0, locals := 0 }) (va_Pc [.ref (ad 13), .ref (ad 53), .int 0] (ux_B D shX KX ad cA M)) (va_Qi (fun r M1 => M1 = (ux_wr (ux_wr M 53 4 0) 53 9 1) ∧ r = 0) (ux_E D shX KX ad cA) (ux_A KX ad)) 0 0 (ux_A KX ad) := by
  refine Met.ofW (cc := b_Rn_readCommand) (maxL := 6) (ret := (some .int)) (by decide) rfl ?_
  intro p e s m args below meth c s₁ B hml hv
  obtain ⟨rfl, hP, hK, hi, hN⟩ := hv
  have hx := B.exec
  have hb := B.bytes
  have hr := B.returns
  have hts := atoms_spec (ws := w_Rn_readCommand) B.pre
  have hown : s.vm.findClass R_Rn = some m.cls := findClass_of_methodNamed B.named
  have hlocks := B.notSynchronized
  have hT : ∀ w ∈ tb, w.before _ s = true := fun w h => hts w (List.mem_cons_of_mem _ h)
  have hS : va_S (ux_A KX ad) s.heap s.heap [] := va_S.rf
  have hl := lv_entry ([.ref (ad 13), .ref (ad 53), .int 0]) (n := 6) (Nat.le_of_ble_eq_true rfl)
  rw [lg_entry_eq]
  generalize (lg_sl ([.ref (ad 13), .ref (ad 53), .int 0]) ++ List.replicate (6 - (lg_sl ([.ref (ad 13), .ref (ad 53), .int 0])).length) Slot.unset).toArray = ls at hl ⊢
  have hl : lv_has ls 6 [(0, .ref (ad 13)), (1, .ref (ad 53)), (2, .int 0)] := hl
  refine lv_aload_n hx hb d_Rn_readCommand_0 rfl (lv_at hl 1 rfl) ?_
  refine lv_iconst (v := 0) hx hb d_Rn_readCommand_1 (by decide) ?_
  refine ux_putN (C := R_Lv) (T := F_Lv) (N := 10) hx hb hT in_Lv t_Lv t_Lv_ok n_Lv hown hK hi hP hS (by decide) rfl rfl 4 (by decide) (hN _ nf_Rn_83) rfl (rfl) (rfl) rfl d_Rn_readCommand_2 (fun H locs hP hS => ?_)
  refine lv_iconst (v := 0) hx hb d_Rn_readCommand_5 (by decide) ?_
  refine lv_istore_n hx hb d_Rn_readCommand_6 rfl hl (by decide) rfl (fun ls hl => ?_)
  have hl : lv_has ls 6 [(3, .int 0), (0, .ref (ad 13)), (1, .ref (ad 53)), (2, .int 0)] := hl
  refine lv_iload_n hx hb d_Rn_readCommand_7 rfl (lv_at hl 0 rfl) ?_
  refine lv_sipush (v := 200) hx hb d_Rn_readCommand_8 (by decide) ?_
  refine lv_icmp_gt hx hb d_Rn_readCommand_11 rfl (fun hz => absurd hz (by decide)) (fun _ => ?_)
  refine lv_aload_n hx hb d_Rn_readCommand_14 rfl (lv_at hl 2 rfl) ?_
  refine ux_getN (C := R_Lv) (T := F_Lv) (N := 10) hx hb hT in_Lv hown hK hP (by decide) rfl rfl 5 (by decide) (hN _ nf_Rn_101) rfl d_Rn_readCommand_15 ?_
  refine lv_topi (fun z1 hz1 => ?_)
  rw [show ((ux_wr M 53 4 0)) 53 5 = M 53 5 from by simp [ux_wr_off, ux_wr_at]] at hz1
  subst hz1
  refine lv_aload_n hx hb d_Rn_readCommand_18 rfl (lv_at hl 2 rfl) ?_
  refine ux_getN (C := R_Lv) (T := F_Lv) (N := 10) hx hb hT in_Lv hown hK hP (by decide) rfl rfl 6 (by decide) (hN _ nf_Rn_104) rfl d_Rn_readCommand_19 ?_
  refine lv_topi (fun z2 hz2 => ?_)
  rw [show ((ux_wr M 53 4 0)) 53 6 = M 53 6 from by simp [ux_wr_off, ux_wr_at]] at hz2
  subst hz2
  refine lv_icmp_ge hx hb d_Rn_readCommand_22 rfl (fun h3 => ?_) (fun h3 => ?_)
  · refine lv_aload_n hx hb d_Rn_readCommand_120 rfl (lv_at hl 2 rfl) ?_
    refine lv_iconst (v := 1) hx hb d_Rn_readCommand_121 (by decide) ?_
    refine ux_putN (C := R_Lv) (T := F_Lv) (N := 10) hx hb hT in_Lv t_Lv t_Lv_ok n_Lv hown hK hi hP hS (by decide) rfl rfl 9 (by decide) (hN _ nf_Rn_75) rfl (rfl) (rfl) rfl d_Rn_readCommand_122 (fun H locs hP hS => ?_)
    refine lv_aload_n hx hb d_Rn_readCommand_125 rfl (lv_at hl 2 rfl) ?_
    refine ux_getN (C := R_Lv) (T := F_Lv) (N := 10) hx hb hT in_Lv hown hK hP (by decide) rfl rfl 8 (by decide) (hN _ nf_Rn_115) rfl d_Rn_readCommand_126 ?_
    refine lv_topi (fun z4 hz4 => ?_)
    rw [show ((ux_wr (ux_wr M 53 4 0) 53 9 1)) 53 8 = M 53 8 from by simp [ux_wr_off, ux_wr_at]] at hz4
    subst hz4
    refine lv_if_eq hx hb d_Rn_readCommand_129 rfl (fun h5 => ?_) (fun h5 => ?_)
    · refine lv_iconst (v := 0) hx hb d_Rn_readCommand_140 (by decide) ?_
      exact W.iret (v := 0) hx hb hr (fun t ht hW => ⟨⟨0, (ux_wr (ux_wr M 53 4 0) 53 9 1), rfl, ⟨rfl, rfl⟩, by unfold ux_E; rw [ht]; exact hP⟩, hS.F ht⟩) hS.2.2 d_Rn_readCommand_141
    · exact absurd hib h5
  · exact absurd hge h3

theorem nx_me {ev : Int32} (h : ev = 0) : vmin ev 200 ≤ vmax 0 0 := by subst h; decide
theorem vem_res (M : ux_M) : vem M 49 1 0 = ux_wr M 49 0 0 := rfl

set_option maxHeartbeats 4000000 in
set_option maxRecDepth 100000 in
theorem c_Rn_runScript_e (l : Launch) (D : va_G) (ad : Nat → Nat) (cA : Nat → ClassId) (M : ux_M) (ev : Int32) (hev : ev = 0) : Met l y_Rn_runScript w_Rn_runScript ({ frames := 2, cells := 0, slots := 0, locals := 45 }) (va_Pc [.ref (ad 13), .int 0, .int ev, .int 0, .int 0, .int 0] (ux_B D shX KX ad cA M)) (va_Qi (fun r M1 => True ∧ r = 0) (ux_E D shX KX ad cA) (ux_A KX ad)) 0 0 (ux_A KX ad) := by
  refine Met.ofW (cc := b_Rn_runScript) (maxL := 9) (ret := (some .int)) (by decide) rfl ?_
  intro p e s m args below meth c s₁ B hml hv
  obtain ⟨rfl, hP, hK, hi, hN⟩ := hv
  have hx := B.exec
  have hb := B.bytes
  have hr := B.returns
  have hts := atoms_spec (ws := w_Rn_runScript) B.pre
  have hown : s.vm.findClass R_Rn = some m.cls := findClass_of_methodNamed B.named
  have hlocks := B.notSynchronized
  have hT : ∀ w ∈ tb, w.before _ s = true := fun w h => hts w (List.mem_cons_of_mem _ h)
  have hS : va_S (ux_A KX ad) s.heap s.heap [] := va_S.rf
  have hl := lv_entry ([.ref (ad 13), .int 0, .int ev, .int 0, .int 0, .int 0]) (n := 9) (Nat.le_of_ble_eq_true rfl)
  rw [lg_entry_eq]
  generalize (lg_sl ([.ref (ad 13), .int 0, .int ev, .int 0, .int 0, .int 0]) ++ List.replicate (9 - (lg_sl ([.ref (ad 13), .int 0, .int ev, .int 0, .int 0, .int 0])).length) Slot.unset).toArray = ls at hl ⊢
  have hl : lv_has ls 9 [(0, .ref (ad 13)), (1, .int 0), (2, .int ev), (3, .int 0), (4, .int 0), (5, .int 0)] := hl
  refine lv_iload hx hb d_Rn_runScript_0 (lv_at hl 4 rfl) ?_
  refine lv_if_lt hx hb d_Rn_runScript_2 rfl (fun hz => absurd hz (by decide)) (fun _ => ?_)
  refine lv_iload hx hb d_Rn_runScript_5 (lv_at hl 4 rfl) ?_
  refine lv_bipush (v := 8) hx hb d_Rn_runScript_7 (by decide) ?_
  refine lv_icmp_lt hx hb d_Rn_runScript_9 rfl (fun _ => ?_) (fun hz => absurd (by decide) hz)
  refine lv_aload_n hx hb d_Rn_runScript_19 rfl (lv_at hl 0 rfl) ?_
  refine ux_get (C := R_Rn) (T := F_Rn) (N := 9) hx hb hT in_Rn hown hK hP (by decide) rfl rfl 5 (by decide) (hT _ fl_Rn_27) rfl d_Rn_runScript_20 ?_
  refine lv_iload hx hb d_Rn_runScript_23 (lv_at hl 4 rfl) ?_
  refine ux_aald hx hb hK hP (by decide) rfl rfl (by unfold vp_in; decide) d_Rn_runScript_25 ?_
  refine W.eq (g2 := F0 m 26 ls [.ref (ad 53)]) rfl ?_
  refine lv_astore hx hb d_Rn_runScript_26 hl (by decide) rfl (fun ls hl => ?_)
  have hl : lv_has ls 9 [(6, .ref (ad 53)), (0, .ref (ad 13)), (1, .int 0), (2, .int ev), (3, .int 0), (4, .int 0), (5, .int 0)] := hl
  refine lv_aload hx hb d_Rn_runScript_28 (lv_at hl 0 rfl) ?_
  refine lv_iload_n hx hb d_Rn_runScript_30 rfl (lv_at hl 2 rfl) ?_
  refine lv_iload_n hx hb d_Rn_runScript_31 rfl (lv_at hl 3 rfl) ?_
  refine lv_iload_n hx hb d_Rn_runScript_32 rfl (lv_at hl 4 rfl) ?_
  refine lv_iload hx hb d_Rn_runScript_33 (lv_at hl 6 rfl) ?_
  refine ux_callv (va_runV ⟨hx, hb, hml, hown, hts⟩ (c_Lv_begin_e l D ad cA M ev) (cwV 4 hts (tb_goodV ml_Rn_68 im_Lv_begin se_Lv_begin ii_Lv kt_Lv_begin) rfl rfl rfl (by decide +kernel) ⟨Nat.le_of_ble_eq_true rfl, Nat.le_of_ble_eq_true rfl⟩) (ux_preV (by decide) rfl rfl hP hK hi hN) rfl rfl hl.1 rfl (lv_room (Nat.le_of_ble_eq_true rfl)) d_Rn_runScript_35 ⟨Nat.zero_le _, Nat.zero_le _⟩) hS (fun M2 H locs q3 hP hS => ?_)
  rw [q3] at hP
  refine lv_aload_n hx hb d_Rn_runScript_38 rfl (lv_at hl 1 rfl) ?_
  refine ux_get (C := R_Rn) (T := F_Rn) (N := 9) hx hb hT in_Rn hown hK hP (by decide) rfl rfl 6 (by decide) (hT _ fl_Rn_36) rfl d_Rn_runScript_39 ?_
  refine lv_iconst (v := 0) hx hb d_Rn_runScript_42 (by decide) ?_
  refine ux_callv (va_runV ⟨hx, hb, hml, hown, hts⟩ (c_Vl_empty l D shX KX ad cA ((ux_wr (ux_wr (ux_wr (ux_wr (ux_wr (ux_wr M 53 4 0) 53 5 (vmax 0 0)) 53 6 (vmin ev 200)) 53 7 0) 53 8 0) 53 9 0)) 47 48 49 1 V_res 0) (cwV 1 hts (tb_goodV ml_Rn_72 im_Vl_empty se_Vl_empty ii_Vl kt_Vl_empty) rfl rfl rfl (by decide +kernel) ⟨Nat.le_of_ble_eq_true rfl, Nat.le_of_ble_eq_true rfl⟩) (ux_preV (by decide) rfl rfl hP hK hi hN) rfl rfl hl.1 rfl (lv_room (Nat.le_of_ble_eq_true rfl)) d_Rn_runScript_43 ⟨Nat.zero_le _, Nat.zero_le _⟩) hS (fun M5 H locs q6 hP hS => ?_)
  rw [q6, vem_res] at hP
  refine lv_iconst (v := 0) hx hb d_Rn_runScript_46 (by decide) ?_
  refine lv_istore hx hb d_Rn_runScript_47 hl (by decide) rfl (fun ls hl => ?_)
  have hl : lv_has ls 9 [(7, .int 0), (6, .ref (ad 53)), (0, .ref (ad 13)), (1, .int 0), (2, .int ev), (3, .int 0), (4, .int 0), (5, .int 0)] := hl
  refine lv_iconst (v := 0) hx hb d_Rn_runScript_49 (by decide) ?_
  refine lv_istore hx hb d_Rn_runScript_50 hl (by decide) rfl (fun ls hl => ?_)
  have hl : lv_has ls 9 [(8, .int 0), (7, .int 0), (6, .ref (ad 53)), (0, .ref (ad 13)), (1, .int 0), (2, .int ev), (3, .int 0), (4, .int 0), (5, .int 0)] := hl
  refine lv_iload hx hb d_Rn_runScript_52 (lv_at hl 0 rfl) ?_
  refine lv_sipush (v := 200) hx hb d_Rn_runScript_54 (by decide) ?_
  refine lv_icmp_gt hx hb d_Rn_runScript_57 rfl (fun hz => absurd hz (by decide)) (fun _ => ?_)
  refine lv_iload hx hb d_Rn_runScript_60 (lv_at hl 1 rfl) ?_
  refine lv_if_ne hx hb d_Rn_runScript_62 rfl (fun hz => absurd hz (by decide)) (fun _ => ?_)
  refine lv_aload hx hb d_Rn_runScript_65 (lv_at hl 2 rfl) ?_
  refine ux_getN (C := R_Lv) (T := F_Lv) (N := 10) hx hb hT in_Lv hown hK hP (by decide) rfl rfl 9 (by decide) (hN _ nf_Rn_75) rfl d_Rn_runScript_67 ?_
  refine lv_topi (fun z7 hz7 => ?_)
  rw [show ((ux_wr (ux_wr (ux_wr (ux_wr (ux_wr (ux_wr (ux_wr M 53 4 0) 53 5 (vmax 0 0)) 53 6 (vmin ev 200)) 53 7 0) 53 8 0) 53 9 0) 49 0 0)) 53 9 = 0 from by simp [ux_wr_off, ux_wr_at]] at hz7
  subst hz7
  refine lv_if_ne hx hb d_Rn_runScript_70 rfl (fun hz => absurd hz (by decide)) (fun _ => ?_)
  refine lv_aload_n hx hb d_Rn_runScript_73 rfl (lv_at hl 3 rfl) ?_
  refine lv_aload hx hb d_Rn_runScript_74 (lv_at hl 2 rfl) ?_
  refine lv_iload hx hb d_Rn_runScript_76 (lv_at hl 7 rfl) ?_
  refine ux_calli (va_runV ⟨hx, hb, hml, hown, hts⟩ (c_Rn_readCommand_e l D ad cA ((ux_wr (ux_wr (ux_wr (ux_wr (ux_wr (ux_wr (ux_wr M 53 4 0) 53 5 (vmax 0 0)) 53 6 (vmin ev 200)) 53 7 0) 53 8 0) 53 9 0) 49 0 0)) (by simp [vem, ux_wr_at, ux_wr_off]; exact nx_me hev) (by simp [vem, ux_wr_at, ux_wr_off])) (cwV 2 hts (tb_goodV ml_Rn_79 im_Rn_readCommand se_Rn_readCommand ii_Rn kt_Rn_readCommand) rfl rfl rfl (by decide +kernel) ⟨Nat.le_of_ble_eq_true rfl, Nat.le_of_ble_eq_true rfl⟩) (ux_preV (by decide) rfl rfl hP hK hi hN) rfl rfl hl.1 rfl (lv_room (Nat.le_of_ble_eq_true rfl)) d_Rn_runScript_78 ⟨Nat.zero_le _, Nat.zero_le _⟩) hS (fun r8 M9 H locs q10 hP hS => ?_)
  obtain ⟨q10m, q10e⟩ := q10
  rw [q10m] at hP
  subst q10e
  refine lv_istore hx hb d_Rn_runScript_81 hl (by decide) rfl (fun ls hl => ?_)
  have hl : lv_has ls 9 [(7, .int 0), (8, .int 0), (6, .ref (ad 53)), (0, .ref (ad 13)), (1, .int 0), (2, .int ev), (3, .int 0), (4, .int 0), (5, .int 0)] := hl
  refine lv_iload hx hb d_Rn_runScript_83 (lv_at hl 0 rfl) ?_
  refine lv_if_ne hx hb d_Rn_runScript_85 rfl (fun hz => absurd hz (by decide)) (fun _ => ?_)
  refine lv_aload hx hb d_Rn_runScript_88 (lv_at hl 2 rfl) ?_
  refine ux_getN (C := R_Lv) (T := F_Lv) (N := 10) hx hb hT in_Lv hown hK hP (by decide) rfl rfl 4 (by decide) (hN _ nf_Rn_83) rfl d_Rn_runScript_90 ?_
  refine lv_topi (fun z11 hz11 => ?_)
  rw [show ((ux_wr (ux_wr (ux_wr (ux_wr (ux_wr (ux_wr (ux_wr (ux_wr (ux_wr M 53 4 0) 53 5 (vmax 0 0)) 53 6 (vmin ev 200)) 53 7 0) 53 8 0) 53 9 0) 49 0 0) 53 4 0) 53 9 1)) 53 4 = 0 from by simp [ux_wr_off, ux_wr_at]] at hz11
  subst hz11
  refine lv_if_le hx hb d_Rn_runScript_93 rfl (fun _ => ?_) (fun hz => absurd (by decide) hz)
  refine lv_iinc (k := 1) (v := 1) hx hb d_Rn_runScript_119 hl rfl (by decide) (by decide) rfl (fun ls hl => ?_)
  have hl : lv_has ls 9 [(8, .int 1), (7, .int 0), (6, .ref (ad 53)), (0, .ref (ad 13)), (1, .int 0), (2, .int ev), (3, .int 0), (4, .int 0), (5, .int 0)] := hl
  refine lv_goto hx hb d_Rn_runScript_122 rfl ?_
  refine lv_iload hx hb d_Rn_runScript_52 (lv_at hl 0 rfl) ?_
  refine lv_sipush (v := 200) hx hb d_Rn_runScript_54 (by decide) ?_
  refine lv_icmp_gt hx hb d_Rn_runScript_57 rfl (fun hz => absurd hz (by decide)) (fun _ => ?_)
  refine lv_iload hx hb d_Rn_runScript_60 (lv_at hl 1 rfl) ?_
  refine lv_if_ne hx hb d_Rn_runScript_62 rfl (fun hz => absurd hz (by decide)) (fun _ => ?_)
  refine lv_aload hx hb d_Rn_runScript_65 (lv_at hl 2 rfl) ?_
  refine ux_getN (C := R_Lv) (T := F_Lv) (N := 10) hx hb hT in_Lv hown hK hP (by decide) rfl rfl 9 (by decide) (hN _ nf_Rn_75) rfl d_Rn_runScript_67 ?_
  refine lv_topi (fun z12 hz12 => ?_)
  rw [show ((ux_wr (ux_wr (ux_wr (ux_wr (ux_wr (ux_wr (ux_wr (ux_wr (ux_wr M 53 4 0) 53 5 (vmax 0 0)) 53 6 (vmin ev 200)) 53 7 0) 53 8 0) 53 9 0) 49 0 0) 53 4 0) 53 9 1)) 53 9 = 1 from by simp [ux_wr_off, ux_wr_at]] at hz12
  subst hz12
  refine lv_if_ne hx hb d_Rn_runScript_70 rfl (fun _ => ?_) (fun hz => absurd hz (by decide))
  refine lv_iload hx hb d_Rn_runScript_125 (lv_at hl 1 rfl) ?_
  exact W.iret (v := 0) hx hb hr (fun t ht hW => ⟨⟨0, (ux_wr (ux_wr (ux_wr (ux_wr (ux_wr (ux_wr (ux_wr (ux_wr (ux_wr M 53 4 0) 53 5 (vmax 0 0)) 53 6 (vmin ev 200)) 53 7 0) 53 8 0) 53 9 0) 49 0 0) 53 4 0) 53 9 1), rfl, ⟨trivial, rfl⟩, by unfold ux_E; rw [ht]; exact hP⟩, hS.F ht⟩) hS.2.2 d_Rn_runScript_127

set_option maxHeartbeats 4000000 in
set_option maxRecDepth 100000 in
theorem c_Rn_leave_e (l : Launch) (D : va_G) (ad : Nat → Nat) (cA : Nat → ClassId) (M : ux_M)  : Met l y_Rn_leave w_Rn_leave ({ frames := 0, cells := 0, slots := 0, locals := 0 }) (va_Pc [.ref (ad 13), .int 0] (ux_B D shX KX ad cA M)) (va_Qi (fun r M1 => M1 = M ∧ r = 0) (ux_E D shX KX ad cA) (ux_A KX ad)) 0 0 (ux_A KX ad) := by
  refine Met.ofW (cc := b_Rn_leave) (maxL := 2) (ret := (some .int)) (by decide) rfl ?_
  intro p e s m args below meth c s₁ B hml hv
  obtain ⟨rfl, hP, hK, hi, hN⟩ := hv
  have hx := B.exec
  have hb := B.bytes
  have hr := B.returns
  have hts := atoms_spec (ws := w_Rn_leave) B.pre
  have hown : s.vm.findClass R_Rn = some m.cls := findClass_of_methodNamed B.named
  have hlocks := B.notSynchronized
  have hT : ∀ w ∈ tb, w.before _ s = true := fun w h => hts w (List.mem_cons_of_mem _ h)
  have hS : va_S (ux_A KX ad) s.heap s.heap [] := va_S.rf
  have hl := lv_entry ([.ref (ad 13), .int 0]) (n := 2) (Nat.le_of_ble_eq_true rfl)
  rw [lg_entry_eq]
  generalize (lg_sl ([.ref (ad 13), .int 0]) ++ List.replicate (2 - (lg_sl ([.ref (ad 13), .int 0])).length) Slot.unset).toArray = ls at hl ⊢
  have hl : lv_has ls 2 [(0, .ref (ad 13)), (1, .int 0)] := hl
  refine lv_iload_n hx hb d_Rn_leave_0 rfl (lv_at hl 1 rfl) ?_
  refine lv_iconst (v := 3) hx hb d_Rn_leave_1 (by decide) ?_
  refine lv_icmp_eq hx hb d_Rn_leave_2 rfl (fun hz => absurd hz (by decide)) (fun _ => ?_)
  refine lv_iload_n hx hb d_Rn_leave_5 rfl (lv_at hl 1 rfl) ?_
  refine lv_iconst (v := 4) hx hb d_Rn_leave_6 (by decide) ?_
  refine lv_icmp_ne hx hb d_Rn_leave_7 rfl (fun _ => ?_) (fun hz => absurd hz (by decide))
  refine lv_iload_n hx hb d_Rn_leave_17 rfl (lv_at hl 1 rfl) ?_
  refine lv_iconst (v := 2) hx hb d_Rn_leave_18 (by decide) ?_
  refine lv_icmp_ne hx hb d_Rn_leave_19 rfl (fun _ => ?_) (fun hz => absurd hz (by decide))
  refine lv_iload_n hx hb d_Rn_leave_26 rfl (lv_at hl 1 rfl) ?_
  exact W.iret (v := 0) hx hb hr (fun t ht hW => ⟨⟨0, M, rfl, ⟨rfl, rfl⟩, by unfold ux_E; rw [ht]; exact hP⟩, hS.F ht⟩) hS.2.2 d_Rn_leave_27

def vrn (f : Int32) : Int32 := if f < 1 then -1 else if f ≤ 100 then 0 else -1

set_option maxHeartbeats 4000000 in
set_option maxRecDepth 100000 in
theorem c_PS_run_e (l : Launch) (D : va_G) (ad : Nat → Nat) (cA : Nat → ClassId) (M : ux_M) (f : Int32) (hev : M 14 1 = 0) : Met l y_PS_run w_PS_run ({ frames := 3, cells := 0, slots := 0, locals := 73 }) (va_Pc [.ref (ad 0), .int f] (ux_B D shX KX ad cA M)) (va_Qi (fun r M1 => r = vrn f) (ux_E D shX KX ad cA) (ux_A KX ad)) 0 0 (ux_A KX ad) := by
  refine Met.ofW (cc := b_PS_run) (maxL := 2) (ret := (some .int)) (by decide) rfl ?_
  intro p e s m args below meth c s₁ B hml hv
  obtain ⟨rfl, hP, hK, hi, hN⟩ := hv
  have hx := B.exec
  have hb := B.bytes
  have hr := B.returns
  have hts := atoms_spec (ws := w_PS_run) B.pre
  have hown : s.vm.findClass R_PS = some m.cls := findClass_of_methodNamed B.named
  have hlocks := B.notSynchronized
  have hT : ∀ w ∈ tb, w.before _ s = true := fun w h => hts w (List.mem_cons_of_mem _ h)
  have hS : va_S (ux_A KX ad) s.heap s.heap [] := va_S.rf
  have hl := lv_entry ([.ref (ad 0), .int f]) (n := 2) (Nat.le_of_ble_eq_true rfl)
  rw [lg_entry_eq]
  generalize (lg_sl ([.ref (ad 0), .int f]) ++ List.replicate (2 - (lg_sl ([.ref (ad 0), .int f])).length) Slot.unset).toArray = ls at hl ⊢
  have hl : lv_has ls 2 [(0, .ref (ad 0)), (1, .int f)] := hl
  refine lv_iload_n hx hb d_PS_run_0 rfl (lv_at hl 1 rfl) ?_
  refine lv_iconst (v := 1) hx hb d_PS_run_1 (by decide) ?_
  refine lv_icmp_lt hx hb d_PS_run_2 rfl (fun h1 => ?_) (fun h1 => ?_)
  · refine lv_iconst (v := (-1)) hx hb d_PS_run_11 (by decide) ?_
    exact W.iret (v := -1) hx hb hr (fun t ht hW => ⟨⟨-1, M, rfl, by rw [vrn, if_pos h1], by unfold ux_E; rw [ht]; exact hP⟩, hS.F ht⟩) hS.2.2 d_PS_run_12
  · refine lv_iload_n hx hb d_PS_run_5 rfl (lv_at hl 1 rfl) ?_
    refine lv_bipush (v := 100) hx hb d_PS_run_6 (by decide) ?_
    refine lv_icmp_le hx hb d_PS_run_8 rfl (fun h2 => ?_) (fun h2 => ?_)
    · refine lv_aload_n hx hb d_PS_run_13 rfl (lv_at hl 0 rfl) ?_
      refine ux_get (C := R_PS) (T := F_PS) (N := 3) hx hb hT in_PS hown hK hP (by decide) rfl rfl 0 (by decide) (hT _ fl_PS_10) rfl d_PS_run_14 ?_
      refine lv_iconst (v := 1) hx hb d_PS_run_17 (by decide) ?_
      refine ux_putN (C := R_Tx) (T := F_Tx) (N := 3) hx hb hT in_Tx t_Tx t_Tx_ok n_Tx hown hK hi hP hS (by decide) rfl rfl 2 (by decide) (hN _ nf_PS_36) rfl (rfl) (rfl) rfl d_PS_run_18 (fun H locs hP hS => ?_)
      refine lv_aload_n hx hb d_PS_run_21 rfl (lv_at hl 0 rfl) ?_
      refine ux_get (C := R_PS) (T := F_PS) (N := 3) hx hb hT in_PS hown hK hP (by decide) rfl rfl 2 (by decide) (hT _ fl_PS_28) rfl d_PS_run_22 ?_
      refine lv_iload_n hx hb d_PS_run_25 rfl (lv_at hl 1 rfl) ?_
      refine ux_putN (C := R_Rn) (T := F_Rn) (N := 9) hx hb hT in_Rn t_Rn t_Rn_ok n_Rn hown hK hi hP hS (by decide) rfl rfl 7 (by decide) (hN _ nf_PS_80) rfl (rfl) (rfl) rfl d_PS_run_26 (fun H locs hP hS => ?_)
      refine lv_aload_n hx hb d_PS_run_29 rfl (lv_at hl 0 rfl) ?_
      refine ux_get (C := R_PS) (T := F_PS) (N := 3) hx hb hT in_PS hown hK hP (by decide) rfl rfl 2 (by decide) (hT _ fl_PS_28) rfl d_PS_run_30 ?_
      refine lv_iload_n hx hb d_PS_run_33 rfl (lv_at hl 1 rfl) ?_
      refine ux_putN (C := R_Rn) (T := F_Rn) (N := 9) hx hb hT in_Rn t_Rn t_Rn_ok n_Rn hown hK hi hP hS (by decide) rfl rfl 8 (by decide) (hN _ nf_PS_83) rfl (rfl) (rfl) rfl d_PS_run_34 (fun H locs hP hS => ?_)
      refine lv_aload_n hx hb d_PS_run_37 rfl (lv_at hl 0 rfl) ?_
      refine ux_get (C := R_PS) (T := F_PS) (N := 3) hx hb hT in_PS hown hK hP (by decide) rfl rfl 2 (by decide) (hT _ fl_PS_28) rfl d_PS_run_38 ?_
      refine lv_aload_n hx hb d_PS_run_41 rfl (lv_at hl 0 rfl) ?_
      refine ux_get (C := R_PS) (T := F_PS) (N := 3) hx hb hT in_PS hown hK hP (by decide) rfl rfl 2 (by decide) (hT _ fl_PS_28) rfl d_PS_run_42 ?_
      refine lv_iconst (v := 0) hx hb d_PS_run_45 (by decide) ?_
      refine lv_aload_n hx hb d_PS_run_46 rfl (lv_at hl 0 rfl) ?_
      refine ux_get (C := R_PS) (T := F_PS) (N := 3) hx hb hT in_PS hown hK hP (by decide) rfl rfl 0 (by decide) (hT _ fl_PS_10) rfl d_PS_run_47 ?_
      refine ux_getN (C := R_Tx) (T := F_Tx) (N := 3) hx hb hT in_Tx hown hK hP (by decide) rfl rfl 1 (by decide) (hN _ nf_PS_40) rfl d_PS_run_50 ?_
      refine lv_topi (fun z3 hz3 => ?_)
      rw [show ((ux_wr (ux_wr (ux_wr M 14 2 1) 13 7 f) 13 8 f)) 14 1 = M 14 1 from by simp [ux_wr_off, ux_wr_at]] at hz3
      subst hz3
      refine lv_iconst (v := 0) hx hb d_PS_run_53 (by decide) ?_
      refine lv_iconst (v := 0) hx hb d_PS_run_54 (by decide) ?_
      refine lv_iconst (v := 0) hx hb d_PS_run_55 (by decide) ?_
      refine ux_calli (va_runVN ⟨hx, hb, hml, hown, hts⟩ (c_Rn_runScript_e l D ad cA ((ux_wr (ux_wr (ux_wr M 14 2 1) 13 7 f) 13 8 f)) (M 14 1) (by simpa [ux_wr_off] using hev)) ⟨va_cnB 5 hts (tb_good _ _ kt_Rn_runScript) rfl rfl rfl (hN _ nm_PS_86) (hT _ ii_Rn) (by decide +kernel) ⟨Nat.le_of_ble_eq_true rfl, Nat.le_of_ble_eq_true rfl⟩, hT _ im_Rn_runScript, hT _ se_Rn_runScript⟩ (ux_preV (by decide) rfl rfl hP hK hi hN) rfl rfl hl.1 rfl (lv_room (Nat.le_of_ble_eq_true rfl)) d_PS_run_56 ⟨Nat.zero_le _, Nat.zero_le _⟩) hS (fun r4 M5 H locs q6 hP hS => ?_)
      obtain ⟨-, q6e⟩ := q6
      subst q6e
      refine ux_calli (va_runVN ⟨hx, hb, hml, hown, hts⟩ (c_Rn_leave_e l D ad cA M5 ) ⟨va_cnB 1 hts (tb_good _ _ kt_Rn_leave) rfl rfl rfl (hN _ nm_PS_90) (hT _ ii_Rn) (by decide +kernel) ⟨Nat.le_of_ble_eq_true rfl, Nat.le_of_ble_eq_true rfl⟩, hT _ im_Rn_leave, hT _ se_Rn_leave⟩ (ux_preV (by decide) rfl rfl hP hK hi hN) rfl rfl hl.1 rfl (lv_room (Nat.le_of_ble_eq_true rfl)) d_PS_run_59 ⟨Nat.zero_le _, Nat.zero_le _⟩) hS (fun r7 M8 H locs q9 hP hS => ?_)
      obtain ⟨q9m, q9e⟩ := q9
      rw [q9m] at hP
      subst q9e
      exact W.iret (v := 0) hx hb hr (fun t ht hW => ⟨⟨0, M5, rfl, by rw [vrn, if_neg h1, if_pos h2], by unfold ux_E; rw [ht]; exact hP⟩, hS.F ht⟩) hS.2.2 d_PS_run_62
    · refine lv_iconst (v := (-1)) hx hb d_PS_run_11 (by decide) ?_
      exact W.iret (v := -1) hx hb hr (fun t ht hW => ⟨⟨-1, M, rfl, by rw [vrn, if_neg h1, if_neg h2], by unfold ux_E; rw [ht]; exact hP⟩, hS.F ht⟩) hS.2.2 d_PS_run_12

set_option maxHeartbeats 4000000 in
set_option maxRecDepth 100000 in
theorem c_Pd_forgetAll (l : Launch) (D : va_G) (ad : Nat → Nat) (cA : Nat → ClassId) (M : ux_M)  : Met l y_Pd_forgetAll w_Pd_forgetAll ({ frames := 1, cells := 0, slots := 0, locals := 23 }) (va_Pc [.ref (ad 42)] (ux_B D shX KX ad cA M)) (va_Qv (fun M1 => M1 = vfill M 45 26 (-1)) (ux_E D shX KX ad cA) (ux_A KX ad)) 0 0 (ux_A KX ad) := by
  refine Met.ofW (cc := b_Pd_forgetAll) (maxL := 1) (ret := none) (by decide) rfl ?_
  intro p e s m args below meth c s₁ B hml hv
  obtain ⟨rfl, hP, hK, hi, hN⟩ := hv
  have hx := B.exec
  have hb := B.bytes
  have hr := B.returns
  have hts := atoms_spec (ws := w_Pd_forgetAll) B.pre
  have hown : s.vm.findClass R_Pd = some m.cls := findClass_of_methodNamed B.named
  have hlocks := B.notSynchronized
  have hT : ∀ w ∈ tb, w.before _ s = true := fun w h => hts w (List.mem_cons_of_mem _ h)
  have hS : va_S (ux_A KX ad) s.heap s.heap [] := va_S.rf
  have hl := lv_entry ([.ref (ad 42)]) (n := 1) (Nat.le_of_ble_eq_true rfl)
  rw [lg_entry_eq]
  generalize (lg_sl ([.ref (ad 42)]) ++ List.replicate (1 - (lg_sl ([.ref (ad 42)])).length) Slot.unset).toArray = ls at hl ⊢
  have hl : lv_has ls 1 [(0, .ref (ad 42))] := hl
  refine lv_aload_n hx hb d_Pd_forgetAll_0 rfl (lv_at hl 0 rfl) ?_
  refine ux_get (C := R_Pd) (T := F_Pd) (N := 3) hx hb hT in_Pd hown hK hP (by decide) rfl rfl 0 (by decide) (hT _ fl_Pd_9) rfl d_Pd_forgetAll_1 ?_
  refine lv_iconst (v := (-1)) hx hb d_Pd_forgetAll_4 (by decide) ?_
  refine ux_callv (va_runS ⟨hx, hb, hml, hown, hts⟩ (c_Ar_fill l D shX KX ad cA M 45 26 (-1) (by decide) rfl (by decide)) (va_cwS 2 hts (tb_goodST ml_Pd_21 sm_Ar_fill ii_Ar kt_Ar_fill) rfl rfl rfl (by decide +kernel) ⟨Nat.le_of_ble_eq_true rfl, Nat.le_of_ble_eq_true rfl⟩) (ux_pre hP hK hi hN) rfl rfl hl.1 rfl (lv_room (Nat.le_of_ble_eq_true rfl)) d_Pd_forgetAll_5 ⟨Nat.zero_le _, Nat.zero_le _⟩) hS (fun M2 H locs q3 hP hS => ?_)
  rw [q3] at hP
  exact W.vret hx hb hr (fun t ht hW => ⟨⟨(vfill M 45 26 (-1)), rfl, rfl, by unfold ux_E; rw [ht]; exact hP⟩, hS.F ht⟩) hS.2.2 d_Pd_forgetAll_8

set_option maxHeartbeats 4000000 in
set_option maxRecDepth 100000 in
theorem c_PS_wipe (l : Launch) (D : va_G) (ad : Nat → Nat) (cA : Nat → ClassId) (M : ux_M)  : Met l y_PS_wipe w_PS_wipe ({ frames := 3, cells := 0, slots := 0, locals := 65 }) (va_Pc [.ref (ad 0)] (ux_B D shX KX ad cA M)) (va_Qv (fun M1 => M1 = vfill (mop (ux_wr (ux_wr M 14 1 0) 14 2 0) 0) 45 26 (-1)) (ux_E D shX KX ad cA) (ux_A KX ad)) 0 0 (ux_A KX ad) := by
  refine Met.ofW (cc := b_PS_wipe) (maxL := 1) (ret := none) (by decide) rfl ?_
  intro p e s m args below meth c s₁ B hml hv
  obtain ⟨rfl, hP, hK, hi, hN⟩ := hv
  have hx := B.exec
  have hb := B.bytes
  have hr := B.returns
  have hts := atoms_spec (ws := w_PS_wipe) B.pre
  have hown : s.vm.findClass R_PS = some m.cls := findClass_of_methodNamed B.named
  have hlocks := B.notSynchronized
  have hT : ∀ w ∈ tb, w.before _ s = true := fun w h => hts w (List.mem_cons_of_mem _ h)
  have hS : va_S (ux_A KX ad) s.heap s.heap [] := va_S.rf
  have hl := lv_entry ([.ref (ad 0)]) (n := 1) (Nat.le_of_ble_eq_true rfl)
  rw [lg_entry_eq]
  generalize (lg_sl ([.ref (ad 0)]) ++ List.replicate (1 - (lg_sl ([.ref (ad 0)])).length) Slot.unset).toArray = ls at hl ⊢
  have hl : lv_has ls 1 [(0, .ref (ad 0))] := hl
  refine lv_aload_n hx hb d_PS_wipe_0 rfl (lv_at hl 0 rfl) ?_
  refine ux_get (C := R_PS) (T := F_PS) (N := 3) hx hb hT in_PS hown hK hP (by decide) rfl rfl 0 (by decide) (hT _ fl_PS_10) rfl d_PS_wipe_1 ?_
  refine lv_iconst (v := 0) hx hb d_PS_wipe_4 (by decide) ?_
  refine ux_putN (C := R_Tx) (T := F_Tx) (N := 3) hx hb hT in_Tx t_Tx t_Tx_ok n_Tx hown hK hi hP hS (by decide) rfl rfl 1 (by decide) (hN _ nf_PS_40) rfl (rfl) (rfl) rfl d_PS_wipe_5 (fun H locs hP hS => ?_)
  refine lv_aload_n hx hb d_PS_wipe_8 rfl (lv_at hl 0 rfl) ?_
  refine ux_get (C := R_PS) (T := F_PS) (N := 3) hx hb hT in_PS hown hK hP (by decide) rfl rfl 0 (by decide) (hT _ fl_PS_10) rfl d_PS_wipe_9 ?_
  refine lv_iconst (v := 0) hx hb d_PS_wipe_12 (by decide) ?_
  refine ux_putN (C := R_Tx) (T := F_Tx) (N := 3) hx hb hT in_Tx t_Tx t_Tx_ok n_Tx hown hK hi hP hS (by decide) rfl rfl 2 (by decide) (hN _ nf_PS_36) rfl (rfl) (rfl) rfl d_PS_wipe_13 (fun H locs hP hS => ?_)
  refine lv_aload_n hx hb d_PS_wipe_16 rfl (lv_at hl 0 rfl) ?_
  refine ux_get (C := R_PS) (T := F_PS) (N := 3) hx hb hT in_PS hown hK hP (by decide) rfl rfl 2 (by decide) (hT _ fl_PS_28) rfl d_PS_wipe_17 ?_
  refine ux_getN (C := R_Rn) (T := F_Rn) (N := 9) hx hb hT in_Rn hown hK hP (by decide) rfl rfl 2 (by decide) (hN _ nf_PS_48) rfl d_PS_wipe_20 ?_
  refine lv_iconst (v := 0) hx hb d_PS_wipe_23 (by decide) ?_
  refine ux_callv (va_runV ⟨hx, hb, hml, hown, hts⟩ (c_Vs_open l D ad cA ((ux_wr (ux_wr M 14 1 0) 14 2 0)) 0 (by decide)) (cwV 1 hts (tb_goodV ml_PS_52 im_Vs_open se_Vs_open ii_Vs kt_Vs_open) rfl rfl rfl (by decide +kernel) ⟨Nat.le_of_ble_eq_true rfl, Nat.le_of_ble_eq_true rfl⟩) (ux_preV (by decide) rfl rfl hP hK hi hN) rfl rfl hl.1 rfl (lv_room (Nat.le_of_ble_eq_true rfl)) d_PS_wipe_24 ⟨Nat.zero_le _, Nat.zero_le _⟩) hS (fun M2 H locs q3 hP hS => ?_)
  rw [q3] at hP
  refine lv_aload_n hx hb d_PS_wipe_27 rfl (lv_at hl 0 rfl) ?_
  refine ux_get (C := R_PS) (T := F_PS) (N := 3) hx hb hT in_PS hown hK hP (by decide) rfl rfl 2 (by decide) (hT _ fl_PS_28) rfl d_PS_wipe_28 ?_
  refine ux_getN (C := R_Rn) (T := F_Rn) (N := 9) hx hb hT in_Rn hown hK hP (by decide) rfl rfl 3 (by decide) (hN _ nf_PS_58) rfl d_PS_wipe_31 ?_
  refine ux_callv (va_runV ⟨hx, hb, hml, hown, hts⟩ (c_Pd_forgetAll l D ad cA ((mop ((ux_wr (ux_wr M 14 1 0) 14 2 0)) 0)) ) (cwV 0 hts (tb_goodV ml_PS_62 im_Pd_forgetAll se_Pd_forgetAll ii_Pd kt_Pd_forgetAll) rfl rfl rfl (by decide +kernel) ⟨Nat.le_of_ble_eq_true rfl, Nat.le_of_ble_eq_true rfl⟩) (ux_preV (by decide) rfl rfl hP hK hi hN) rfl rfl hl.1 rfl (lv_room (Nat.le_of_ble_eq_true rfl)) d_PS_wipe_34 ⟨Nat.zero_le _, Nat.zero_le _⟩) hS (fun M5 H locs q6 hP hS => ?_)
  rw [q6] at hP
  exact W.vret hx hb hr (fun t ht hW => ⟨⟨(vfill ((mop ((ux_wr (ux_wr M 14 1 0) 14 2 0)) 0)) 45 26 (-1)), rfl, rfl, by unfold ux_E; rw [ht]; exact hP⟩, hS.F ht⟩) hS.2.2 d_PS_wipe_37
