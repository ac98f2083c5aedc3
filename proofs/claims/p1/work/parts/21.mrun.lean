/-! The reference's run where the text is empty, written by wip/gen/mrun.py -/
theorem tn0 : (0 : Int32).toNatClampNeg = 0 := rfl

set_option maxHeartbeats 4000000 in
set_option maxRecDepth 100000 in
theorem c_Md_enter_e (l : Launch) (D : va_G) (ad : Nat → Nat) (cA : Nat → ClassId) (M : ux_M) (h_level : M 0 10 = -1) : Met l y_Md_enter w_Md_enter ({ frames := 0, cells := 0, slots := 0, locals := 0 }) (va_Pc [.ref (ad 0), .int 0, .int 0, .int 0] (ux_B D shM KM ad cA M)) (va_Qi (fun r M1 => M1 = (ux_wr (ux_wr (ux_wr (ux_wr (ux_wr (ux_wr (ux_wr (ux_wr (ux_wr M 0 10 0) 9 0 0) 10 0 0) 11 0 0) 12 0 0) 13 0 0) 14 0 0) 15 0 0) 0 23 0) ∧ r = 1) (ux_E D shM KM ad cA) (ux_A KM ad)) 0 0 (ux_A KM ad) := by
  refine Met.ofW (cc := b_Md_enter) (maxL := 5) (ret := (some .boolean)) (by decide) rfl ?_
  intro p e s m args below meth c s₁ B hml hv
  obtain ⟨rfl, hP, hK, hi, hN⟩ := hv
  have hx := B.exec
  have hb := B.bytes
  have hr := B.returns
  have hts := atoms_spec (ws := w_Md_enter) B.pre
  have hown : s.vm.findClass R_Md = some m.cls := findClass_of_methodNamed B.named
  have hlocks := B.notSynchronized
  have hT : ∀ w ∈ tb, w.before _ s = true := fun w h => hts w (List.mem_cons_of_mem _ h)
  have hS : va_S (ux_A KM ad) s.heap s.heap [] := va_S.rf
  have hl := lv_entry ([.ref (ad 0), .int 0, .int 0, .int 0]) (n := 5) (Nat.le_of_ble_eq_true rfl)
  rw [lg_entry_eq]
  generalize (lg_sl ([.ref (ad 0), .int 0, .int 0, .int 0]) ++ List.replicate (5 - (lg_sl ([.ref (ad 0), .int 0, .int 0, .int 0])).length) Slot.unset).toArray = ls at hl ⊢
  have hl : lv_has ls 5 [(0, .ref (ad 0)), (1, .int 0), (2, .int 0), (3, .int 0)] := hl
  refine lv_aload_n hx hb d_Md_enter_0 rfl (lv_at hl 0 rfl) ?_
  refine ux_get (C := R_Md) (T := F_Md) (N := 50) hx hb hT in_Md hown hK hP (by decide) rfl rfl 10 (by decide) (hT _ fl_Md_36) rfl d_Md_enter_1 ?_
  refine lv_topi (fun z1 hz1 => ?_)
  rw [show M 0 10 = -1 from by simp [ux_wr_off, ux_wr_at, h_level]] at hz1
  subst hz1
  refine lv_bipush (v := 7) hx hb d_Md_enter_4 (by decide) ?_
  refine lv_icmp_lt hx hb d_Md_enter_6 rfl (fun _ => ?_) (fun hz => absurd (by decide) hz)
  refine lv_aload_n hx hb d_Md_enter_26 rfl (lv_at hl 0 rfl) ?_
  refine ux_get (C := R_Md) (T := F_Md) (N := 50) hx hb hT in_Md hown hK hP (by decide) rfl rfl 10 (by decide) (hT _ fl_Md_36) rfl d_Md_enter_27 ?_
  refine lv_topi (fun z2 hz2 => ?_)
  rw [show M 0 10 = -1 from by simp [ux_wr_off, ux_wr_at, h_level]] at hz2
  subst hz2
  refine lv_if_ge hx hb d_Md_enter_30 rfl (fun hz => absurd hz (by decide)) (fun _ => ?_)
  refine lv_iconst (v := 0) hx hb d_Md_enter_33 (by decide) ?_
  refine lv_goto hx hb d_Md_enter_34 rfl ?_
  refine lv_istore hx hb d_Md_enter_46 hl (by decide) rfl (fun ls hl => ?_)
  have hl : lv_has ls 5 [(4, .int 0), (0, .ref (ad 0)), (1, .int 0), (2, .int 0), (3, .int 0)] := hl
  refine lv_aload_n hx hb d_Md_enter_48 rfl (lv_at hl 1 rfl) ?_
  refine lv_dup hx hb d_Md_enter_49 rfl ?_
  refine ux_get (C := R_Md) (T := F_Md) (N := 50) hx hb hT in_Md hown hK hP (by decide) rfl rfl 10 (by decide) (hT _ fl_Md_36) rfl d_Md_enter_50 ?_
  refine lv_topi (fun z3 hz3 => ?_)
  rw [show M 0 10 = -1 from by simp [ux_wr_off, ux_wr_at, h_level]] at hz3
  subst hz3
  refine lv_iconst (v := 1) hx hb d_Md_enter_53 (by decide) ?_
  refine lv_iadd hx hb d_Md_enter_54 ?_
  refine lv_topi (fun z4 hz4 => ?_)
  rw [show (-1 : Int32) + 1 = 0 from rfl] at hz4
  subst hz4
  refine ux_put (C := R_Md) (T := F_Md) (N := 50) hx hb hT in_Md t_Md t_Md_ok n_Md hown hK hi hP hS (by decide) rfl rfl 10 (by decide) (hT _ fl_Md_36) rfl (rfl) (rfl) rfl d_Md_enter_55 (fun H locs hP hS => ?_)
  refine lv_aload_n hx hb d_Md_enter_58 rfl (lv_at hl 1 rfl) ?_
  refine ux_get (C := R_Md) (T := F_Md) (N := 50) hx hb hT in_Md hown hK hP (by decide) rfl rfl 11 (by decide) (hT _ fl_Md_40) rfl d_Md_enter_59 ?_
  refine lv_aload_n hx hb d_Md_enter_62 rfl (lv_at hl 1 rfl) ?_
  refine ux_get (C := R_Md) (T := F_Md) (N := 50) hx hb hT in_Md hown hK hP (by decide) rfl rfl 10 (by decide) (hT _ fl_Md_36) rfl d_Md_enter_63 ?_
  refine lv_topi (fun z5 hz5 => ?_)
  rw [show ((ux_wr M 0 10 0)) 0 10 = 0 from by simp [ux_wr_off, ux_wr_at]] at hz5
  subst hz5
  refine lv_iload_n hx hb d_Md_enter_66 rfl (lv_at hl 2 rfl) ?_
  refine ux_iast hx hb hK hi hP hS (by decide) rfl (by unfold vp_in; decide) d_Md_enter_67 (fun H locs hP hS => ?_)
  rw [tn0] at hP
  refine lv_aload_n hx hb d_Md_enter_68 rfl (lv_at hl 1 rfl) ?_
  refine ux_get (C := R_Md) (T := F_Md) (N := 50) hx hb hT in_Md hown hK hP (by decide) rfl rfl 12 (by decide) (hT _ fl_Md_43) rfl d_Md_enter_69 ?_
  refine lv_aload_n hx hb d_Md_enter_72 rfl (lv_at hl 1 rfl) ?_
  refine ux_get (C := R_Md) (T := F_Md) (N := 50) hx hb hT in_Md hown hK hP (by decide) rfl rfl 10 (by decide) (hT _ fl_Md_36) rfl d_Md_enter_73 ?_
  refine lv_topi (fun z6 hz6 => ?_)
  rw [show ((ux_wr (ux_wr M 0 10 0) 9 0 0)) 0 10 = 0 from by simp [ux_wr_off, ux_wr_at]] at hz6
  subst hz6
  refine lv_iload_n hx hb d_Md_enter_76 rfl (lv_at hl 3 rfl) ?_
  refine ux_iast hx hb hK hi hP hS (by decide) rfl (by unfold vp_in; decide) d_Md_enter_77 (fun H locs hP hS => ?_)
  rw [tn0] at hP
  refine lv_aload_n hx hb d_Md_enter_78 rfl (lv_at hl 1 rfl) ?_
  refine ux_get (C := R_Md) (T := F_Md) (N := 50) hx hb hT in_Md hown hK hP (by decide) rfl rfl 13 (by decide) (hT _ fl_Md_46) rfl d_Md_enter_79 ?_
  refine lv_aload_n hx hb d_Md_enter_82 rfl (lv_at hl 1 rfl) ?_
  refine ux_get (C := R_Md) (T := F_Md) (N := 50) hx hb hT in_Md hown hK hP (by decide) rfl rfl 10 (by decide) (hT _ fl_Md_36) rfl d_Md_enter_83 ?_
  refine lv_topi (fun z7 hz7 => ?_)
  rw [show ((ux_wr (ux_wr (ux_wr M 0 10 0) 9 0 0) 10 0 0)) 0 10 = 0 from by simp [ux_wr_off, ux_wr_at]] at hz7
  subst hz7
  refine lv_iload_n hx hb d_Md_enter_86 rfl (lv_at hl 4 rfl) ?_
  refine ux_iast hx hb hK hi hP hS (by decide) rfl (by unfold vp_in; decide) d_Md_enter_87 (fun H locs hP hS => ?_)
  rw [tn0] at hP
  refine lv_aload_n hx hb d_Md_enter_88 rfl (lv_at hl 1 rfl) ?_
  refine ux_get (C := R_Md) (T := F_Md) (N := 50) hx hb hT in_Md hown hK hP (by decide) rfl rfl 14 (by decide) (hT _ fl_Md_49) rfl d_Md_enter_89 ?_
  refine lv_aload_n hx hb d_Md_enter_92 rfl (lv_at hl 1 rfl) ?_
  refine ux_get (C := R_Md) (T := F_Md) (N := 50) hx hb hT in_Md hown hK hP (by decide) rfl rfl 10 (by decide) (hT _ fl_Md_36) rfl d_Md_enter_93 ?_
  refine lv_topi (fun z8 hz8 => ?_)
  rw [show ((ux_wr (ux_wr (ux_wr (ux_wr M 0 10 0) 9 0 0) 10 0 0) 11 0 0)) 0 10 = 0 from by simp [ux_wr_off, ux_wr_at]] at hz8
  subst hz8
  refine lv_iload hx hb d_Md_enter_96 (lv_at hl 0 rfl) ?_
  refine ux_iast hx hb hK hi hP hS (by decide) rfl (by unfold vp_in; decide) d_Md_enter_98 (fun H locs hP hS => ?_)
  rw [tn0] at hP
  refine lv_aload_n hx hb d_Md_enter_99 rfl (lv_at hl 1 rfl) ?_
  refine ux_get (C := R_Md) (T := F_Md) (N := 50) hx hb hT in_Md hown hK hP (by decide) rfl rfl 15 (by decide) (hT _ fl_Md_52) rfl d_Md_enter_100 ?_
  refine lv_aload_n hx hb d_Md_enter_103 rfl (lv_at hl 1 rfl) ?_
  refine ux_get (C := R_Md) (T := F_Md) (N := 50) hx hb hT in_Md hown hK hP (by decide) rfl rfl 10 (by decide) (hT _ fl_Md_36) rfl d_Md_enter_104 ?_
  refine lv_topi (fun z9 hz9 => ?_)
  rw [show ((ux_wr (ux_wr (ux_wr (ux_wr (ux_wr M 0 10 0) 9 0 0) 10 0 0) 11 0 0) 12 0 0)) 0 10 = 0 from by simp [ux_wr_off, ux_wr_at]] at hz9
  subst hz9
  refine lv_iconst (v := 0) hx hb d_Md_enter_107 (by decide) ?_
  refine ux_iast hx hb hK hi hP hS (by decide) rfl (by unfold vp_in; decide) d_Md_enter_108 (fun H locs hP hS => ?_)
  rw [tn0] at hP
  refine lv_aload_n hx hb d_Md_enter_109 rfl (lv_at hl 1 rfl) ?_
  refine ux_get (C := R_Md) (T := F_Md) (N := 50) hx hb hT in_Md hown hK hP (by decide) rfl rfl 16 (by decide) (hT _ fl_Md_55) rfl d_Md_enter_110 ?_
  refine lv_aload_n hx hb d_Md_enter_113 rfl (lv_at hl 1 rfl) ?_
  refine ux_get (C := R_Md) (T := F_Md) (N := 50) hx hb hT in_Md hown hK hP (by decide) rfl rfl 10 (by decide) (hT _ fl_Md_36) rfl d_Md_enter_114 ?_
  refine lv_topi (fun z10 hz10 => ?_)
  rw [show ((ux_wr (ux_wr (ux_wr (ux_wr (ux_wr (ux_wr M 0 10 0) 9 0 0) 10 0 0) 11 0 0) 12 0 0) 13 0 0)) 0 10 = 0 from by simp [ux_wr_off, ux_wr_at]] at hz10
  subst hz10
  refine lv_iconst (v := 0) hx hb d_Md_enter_117 (by decide) ?_
  refine ux_iast hx hb hK hi hP hS (by decide) rfl (by unfold vp_in; decide) d_Md_enter_118 (fun H locs hP hS => ?_)
  rw [tn0] at hP
  refine lv_aload_n hx hb d_Md_enter_119 rfl (lv_at hl 1 rfl) ?_
  refine ux_get (C := R_Md) (T := F_Md) (N := 50) hx hb hT in_Md hown hK hP (by decide) rfl rfl 17 (by decide) (hT _ fl_Md_58) rfl d_Md_enter_120 ?_
  refine lv_aload_n hx hb d_Md_enter_123 rfl (lv_at hl 1 rfl) ?_
  refine ux_get (C := R_Md) (T := F_Md) (N := 50) hx hb hT in_Md hown hK hP (by decide) rfl rfl 10 (by decide) (hT _ fl_Md_36) rfl d_Md_enter_124 ?_
  refine lv_topi (fun z11 hz11 => ?_)
  rw [show ((ux_wr (ux_wr (ux_wr (ux_wr (ux_wr (ux_wr (ux_wr M 0 10 0) 9 0 0) 10 0 0) 11 0 0) 12 0 0) 13 0 0) 14 0 0)) 0 10 = 0 from by simp [ux_wr_off, ux_wr_at]] at hz11
  subst hz11
  refine lv_iconst (v := 0) hx hb d_Md_enter_127 (by decide) ?_
  refine ux_iast hx hb hK hi hP hS (by decide) rfl (by unfold vp_in; decide) d_Md_enter_128 (fun H locs hP hS => ?_)
  rw [tn0] at hP
  refine lv_aload_n hx hb d_Md_enter_129 rfl (lv_at hl 1 rfl) ?_
  refine lv_iconst (v := 0) hx hb d_Md_enter_130 (by decide) ?_
  refine ux_put (C := R_Md) (T := F_Md) (N := 50) hx hb hT in_Md t_Md t_Md_ok n_Md hown hK hi hP hS (by decide) rfl rfl 23 (by decide) (hT _ fl_Md_152) rfl (rfl) (rfl) rfl d_Md_enter_131 (fun H locs hP hS => ?_)
  refine lv_iconst (v := 1) hx hb d_Md_enter_134 (by decide) ?_
  exact W.zret (v := 1) hx hb hr (rfl) (fun t ht hW => ⟨⟨1, (ux_wr (ux_wr (ux_wr (ux_wr (ux_wr (ux_wr (ux_wr (ux_wr (ux_wr M 0 10 0) 9 0 0) 10 0 0) 11 0 0) 12 0 0) 13 0 0) 14 0 0) 15 0 0) 0 23 0), rfl, ⟨rfl, rfl⟩, by unfold ux_E; rw [ht]; exact hP⟩, hS.F ht⟩) hS.2.2 d_Md_enter_135

set_option maxHeartbeats 4000000 in
set_option maxRecDepth 100000 in
theorem c_Md_over_e (l : Launch) (D : va_G) (ad : Nat → Nat) (cA : Nat → ClassId) (M : ux_M) (h_level : M 0 10 = 0) (h_at : M 9 0 = 0) (h_end : M 10 0 = 0) : Met l y_Md_over w_Md_over ({ frames := 0, cells := 0, slots := 0, locals := 0 }) (va_Pc [.ref (ad 0)] (ux_B D shM KM ad cA M)) (va_Qi (fun r M1 => M1 = M ∧ r = 1) (ux_E D shM KM ad cA) (ux_A KM ad)) 0 0 (ux_A KM ad) := by
  refine Met.ofW (cc := b_Md_over) (maxL := 1) (ret := (some .boolean)) (by decide) rfl ?_
  intro p e s m args below meth c s₁ B hml hv
  obtain ⟨rfl, hP, hK, hi, hN⟩ := hv
  have hx := B.exec
  have hb := B.bytes
  have hr := B.returns
  have hts := atoms_spec (ws := w_Md_over) B.pre
  have hown : s.vm.findClass R_Md = some m.cls := findClass_of_methodNamed B.named
  have hlocks := B.notSynchronized
  have hT : ∀ w ∈ tb, w.before _ s = true := fun w h => hts w (List.mem_cons_of_mem _ h)
  have hS : va_S (ux_A KM ad) s.heap s.heap [] := va_S.rf
  have hl := lv_entry ([.ref (ad 0)]) (n := 1) (Nat.le_of_ble_eq_true rfl)
  rw [lg_entry_eq]
  generalize (lg_sl ([.ref (ad 0)]) ++ List.replicate (1 - (lg_sl ([.ref (ad 0)])).length) Slot.unset).toArray = ls at hl ⊢
  have hl : lv_has ls 1 [(0, .ref (ad 0))] := hl
  refine lv_aload_n hx hb d_Md_over_0 rfl (lv_at hl 0 rfl) ?_
  refine ux_get (C := R_Md) (T := F_Md) (N := 50) hx hb hT in_Md hown hK hP (by decide) rfl rfl 11 (by decide) (hT _ fl_Md_40) rfl d_Md_over_1 ?_
  refine lv_aload_n hx hb d_Md_over_4 rfl (lv_at hl 0 rfl) ?_
  refine ux_get (C := R_Md) (T := F_Md) (N := 50) hx hb hT in_Md hown hK hP (by decide) rfl rfl 10 (by decide) (hT _ fl_Md_36) rfl d_Md_over_5 ?_
  refine lv_topi (fun z1 hz1 => ?_)
  rw [show M 0 10 = 0 from by simp [ux_wr_off, ux_wr_at, h_level]] at hz1
  subst hz1
  refine ux_iald hx hb hK hP (by decide) rfl (by unfold vp_in; decide) d_Md_over_8 ?_
  refine lv_topi (fun z2 hz2 => ?_)
  rw [show M 9 ((0 : Int32).toNatClampNeg) = 0 from by simp [ux_wr_off, ux_wr_at, tn0, h_at]] at hz2
  subst hz2
  refine lv_aload_n hx hb d_Md_over_9 rfl (lv_at hl 0 rfl) ?_
  refine ux_get (C := R_Md) (T := F_Md) (N := 50) hx hb hT in_Md hown hK hP (by decide) rfl rfl 12 (by decide) (hT _ fl_Md_43) rfl d_Md_over_10 ?_
  refine lv_aload_n hx hb d_Md_over_13 rfl (lv_at hl 0 rfl) ?_
  refine ux_get (C := R_Md) (T := F_Md) (N := 50) hx hb hT in_Md hown hK hP (by decide) rfl rfl 10 (by decide) (hT _ fl_Md_36) rfl d_Md_over_14 ?_
  refine lv_topi (fun z3 hz3 => ?_)
  rw [show M 0 10 = 0 from by simp [ux_wr_off, ux_wr_at, h_level]] at hz3
  subst hz3
  refine ux_iald hx hb hK hP (by decide) rfl (by unfold vp_in; decide) d_Md_over_17 ?_
  refine lv_topi (fun z4 hz4 => ?_)
  rw [show M 10 ((0 : Int32).toNatClampNeg) = 0 from by simp [ux_wr_off, ux_wr_at, tn0, h_end]] at hz4
  subst hz4
  refine lv_icmp_lt hx hb d_Md_over_18 rfl (fun hz => absurd hz (by decide)) (fun _ => ?_)
  refine lv_iconst (v := 1) hx hb d_Md_over_21 (by decide) ?_
  refine lv_goto hx hb d_Md_over_22 rfl ?_
  exact W.zret (v := 1) hx hb hr (rfl) (fun t ht hW => ⟨⟨1, M, rfl, ⟨rfl, rfl⟩, by unfold ux_E; rw [ht]; exact hP⟩, hS.F ht⟩) hS.2.2 d_Md_over_26

set_option maxHeartbeats 4000000 in
set_option maxRecDepth 100000 in
theorem c_Md_here_e (l : Launch) (D : va_G) (ad : Nat → Nat) (cA : Nat → ClassId) (M : ux_M) (h_level : M 0 10 = 0) (h_at : M 9 0 = 0) (h_end : M 10 0 = 0) : Met l y_Md_here w_Md_here ({ frames := 1, cells := 0, slots := 0, locals := 20 }) (va_Pc [.ref (ad 0)] (ux_B D shM KM ad cA M)) (va_Qi (fun r M1 => M1 = M ∧ r = 0) (ux_E D shM KM ad cA) (ux_A KM ad)) 0 0 (ux_A KM ad) := by
  refine Met.ofW (cc := b_Md_here) (maxL := 1) (ret := (some .char)) (by decide) rfl ?_
  intro p e s m args below meth c s₁ B hml hv
  obtain ⟨rfl, hP, hK, hi, hN⟩ := hv
  have hx := B.exec
  have hb := B.bytes
  have hr := B.returns
  have hts := atoms_spec (ws := w_Md_here) B.pre
  have hown : s.vm.findClass R_Md = some m.cls := findClass_of_methodNamed B.named
  have hlocks := B.notSynchronized
  have hT : ∀ w ∈ tb, w.before _ s = true := fun w h => hts w (List.mem_cons_of_mem _ h)
  have hS : va_S (ux_A KM ad) s.heap s.heap [] := va_S.rf
  have hl := lv_entry ([.ref (ad 0)]) (n := 1) (Nat.le_of_ble_eq_true rfl)
  rw [lg_entry_eq]
  generalize (lg_sl ([.ref (ad 0)]) ++ List.replicate (1 - (lg_sl ([.ref (ad 0)])).length) Slot.unset).toArray = ls at hl ⊢
  have hl : lv_has ls 1 [(0, .ref (ad 0))] := hl
  refine lv_aload_n hx hb d_Md_here_0 rfl (lv_at hl 0 rfl) ?_
  refine ux_calli (va_runV ⟨hx, hb, hml, hown, hts⟩ (c_Md_over_e l D ad cA M (by simp [ux_wr_at, ux_wr_off, h_level, h_at, h_end]) (by simp [ux_wr_at, ux_wr_off, h_level, h_at, h_end]) (by simp [ux_wr_at, ux_wr_off, h_level, h_at, h_end])) (cwV 0 hts (tb_goodV ml_Md_176 im_Md_over se_Md_over ii_Md kt_Md_over) rfl rfl rfl (by decide +kernel) ⟨Nat.le_of_ble_eq_true rfl, Nat.le_of_ble_eq_true rfl⟩) (ux_preV (by decide) rfl rfl hP hK hi hN) rfl rfl hl.1 rfl (lv_room (Nat.le_of_ble_eq_true rfl)) d_Md_here_1 ⟨Nat.zero_le _, Nat.zero_le _⟩) hS (fun r1 M2 H locs q3 hP hS => ?_)
  obtain ⟨q3m, q3e⟩ := q3
  rw [q3m] at hP
  subst q3e
  refine lv_if_eq hx hb d_Md_here_4 rfl (fun hz => absurd hz (by decide)) (fun _ => ?_)
  refine lv_iconst (v := 0) hx hb d_Md_here_7 (by decide) ?_
  refine lv_goto hx hb d_Md_here_8 rfl ?_
  exact W.zret (v := 0) hx hb hr (rfl) (fun t ht hW => ⟨⟨0, M, rfl, ⟨rfl, rfl⟩, by unfold ux_E; rw [ht]; exact hP⟩, hS.F ht⟩) hS.2.2 d_Md_here_25

set_option maxHeartbeats 4000000 in
set_option maxRecDepth 100000 in
theorem c_Md_closes_e (l : Launch) (D : va_G) (ad : Nat → Nat) (cA : Nat → ClassId) (M : ux_M) (h_level : M 0 10 = 0) (h_at : M 9 0 = 0) (h_end : M 10 0 = 0) : Met l y_Md_closes w_Md_closes ({ frames := 2, cells := 0, slots := 0, locals := 40 }) (va_Pc [.ref (ad 0)] (ux_B D shM KM ad cA M)) (va_Qi (fun r M1 => M1 = M ∧ r = 1) (ux_E D shM KM ad cA) (ux_A KM ad)) 0 0 (ux_A KM ad) := by
  refine Met.ofW (cc := b_Md_closes) (maxL := 1) (ret := (some .boolean)) (by decide) rfl ?_
  intro p e s m args below meth c s₁ B hml hv
  obtain ⟨rfl, hP, hK, hi, hN⟩ := hv
  have hx := B.exec
  have hb := B.bytes
  have hr := B.returns
  have hts := atoms_spec (ws := w_Md_closes) B.pre
  have hown : s.vm.findClass R_Md = some m.cls := findClass_of_methodNamed B.named
  have hlocks := B.notSynchronized
  have hT : ∀ w ∈ tb, w.before _ s = true := fun w h => hts w (List.mem_cons_of_mem _ h)
  have hS : va_S (ux_A KM ad) s.heap s.heap [] := va_S.rf
  have hl := lv_entry ([.ref (ad 0)]) (n := 1) (Nat.le_of_ble_eq_true rfl)
  rw [lg_entry_eq]
  generalize (lg_sl ([.ref (ad 0)]) ++ List.replicate (1 - (lg_sl ([.ref (ad 0)])).length) Slot.unset).toArray = ls at hl ⊢
  have hl : lv_has ls 1 [(0, .ref (ad 0))] := hl
  refine lv_aload_n hx hb d_Md_closes_0 rfl (lv_at hl 0 rfl) ?_
  refine ux_calli (va_runV ⟨hx, hb, hml, hown, hts⟩ (c_Md_over_e l D ad cA M (by simp [ux_wr_at, ux_wr_off, h_level, h_at, h_end]) (by simp [ux_wr_at, ux_wr_off, h_level, h_at, h_end]) (by simp [ux_wr_at, ux_wr_off, h_level, h_at, h_end])) (cwV 0 hts (tb_goodV ml_Md_176 im_Md_over se_Md_over ii_Md kt_Md_over) rfl rfl rfl (by decide +kernel) ⟨Nat.le_of_ble_eq_true rfl, Nat.le_of_ble_eq_true rfl⟩) (ux_preV (by decide) rfl rfl hP hK hi hN) rfl rfl hl.1 rfl (lv_room (Nat.le_of_ble_eq_true rfl)) d_Md_closes_1 ⟨Nat.zero_le _, Nat.zero_le _⟩) hS (fun r1 M2 H locs q3 hP hS => ?_)
  obtain ⟨q3m, q3e⟩ := q3
  rw [q3m] at hP
  subst q3e
  refine lv_if_ne hx hb d_Md_closes_4 rfl (fun _ => ?_) (fun hz => absurd hz (by decide))
  refine lv_iconst (v := 1) hx hb d_Md_closes_47 (by decide) ?_
  refine lv_goto hx hb d_Md_closes_48 rfl ?_
  exact W.zret (v := 1) hx hb hr (rfl) (fun t ht hW => ⟨⟨1, M, rfl, ⟨rfl, rfl⟩, by unfold ux_E; rw [ht]; exact hP⟩, hS.F ht⟩) hS.2.2 d_Md_closes_52

set_option maxHeartbeats 4000000 in
set_option maxRecDepth 100000 in
theorem c_Md_between_e (l : Launch) (D : va_G) (ad : Nat → Nat) (cA : Nat → ClassId) (M : ux_M) (h_level : M 0 10 = 0) (h_at : M 9 0 = 0) (h_end : M 10 0 = 0) (h_why : M 11 0 = 0) (h_count : M 14 0 = 0) (h_lastSize : M 15 0 = 0) : Met l y_Md_between w_Md_between ({ frames := 3, cells := 0, slots := 0, locals := 60 }) (va_Pc [.ref (ad 0)] (ux_B D shM KM ad cA M)) (va_Qv (fun M1 => M1 = (ux_wr (ux_wr (ux_wr (ux_wr M 9 0 1) 0 24 0) 0 25 0) 0 23 2)) (ux_E D shM KM ad cA) (ux_A KM ad)) 0 0 (ux_A KM ad) := by
  refine Met.ofW (cc := b_Md_between) (maxL := 3) (ret := none) (by decide) rfl ?_
  intro p e s m args below meth c s₁ B hml hv
  obtain ⟨rfl, hP, hK, hi, hN⟩ := hv
  have hx := B.exec
  have hb := B.bytes
  have hr := B.returns
  have hts := atoms_spec (ws := w_Md_between) B.pre
  have hown : s.vm.findClass R_Md = some m.cls := findClass_of_methodNamed B.named
  have hlocks := B.notSynchronized
  have hT : ∀ w ∈ tb, w.before _ s = true := fun w h => hts w (List.mem_cons_of_mem _ h)
  have hS : va_S (ux_A KM ad) s.heap s.heap [] := va_S.rf
  have hl := lv_entry ([.ref (ad 0)]) (n := 3) (Nat.le_of_ble_eq_true rfl)
  rw [lg_entry_eq]
  generalize (lg_sl ([.ref (ad 0)]) ++ List.replicate (3 - (lg_sl ([.ref (ad 0)])).length) Slot.unset).toArray = ls at hl ⊢
  have hl : lv_has ls 3 [(0, .ref (ad 0))] := hl
  refine lv_aload_n hx hb d_Md_between_0 rfl (lv_at hl 0 rfl) ?_
  refine ux_calli (va_runV ⟨hx, hb, hml, hown, hts⟩ (c_Md_here_e l D ad cA M (by simp [ux_wr_at, ux_wr_off, h_level, h_at, h_end, h_why, h_count, h_lastSize]) (by simp [ux_wr_at, ux_wr_off, h_level, h_at, h_end, h_why, h_count, h_lastSize]) (by simp [ux_wr_at, ux_wr_off, h_level, h_at, h_end, h_why, h_count, h_lastSize])) (cwV 0 hts (tb_goodV ml_Md_180 im_Md_here se_Md_here ii_Md kt_Md_here) rfl rfl rfl (by decide +kernel) ⟨Nat.le_of_ble_eq_true rfl, Nat.le_of_ble_eq_true rfl⟩) (ux_preV (by decide) rfl rfl hP hK hi hN) rfl rfl hl.1 rfl (lv_room (Nat.le_of_ble_eq_true rfl)) d_Md_between_1 ⟨Nat.zero_le _, Nat.zero_le _⟩) hS (fun r1 M2 H locs q3 hP hS => ?_)
  obtain ⟨q3m, q3e⟩ := q3
  rw [q3m] at hP
  subst q3e
  refine lv_istore_n hx hb d_Md_between_4 rfl hl (by decide) rfl (fun ls hl => ?_)
  have hl : lv_has ls 3 [(1, .int 0), (0, .ref (ad 0))] := hl
  refine lv_aload_n hx hb d_Md_between_5 rfl (lv_at hl 1 rfl) ?_
  refine ux_calli (va_runV ⟨hx, hb, hml, hown, hts⟩ (c_Md_closes_e l D ad cA M (by simp [ux_wr_at, ux_wr_off, h_level, h_at, h_end, h_why, h_count, h_lastSize]) (by simp [ux_wr_at, ux_wr_off, h_level, h_at, h_end, h_why, h_count, h_lastSize]) (by simp [ux_wr_at, ux_wr_off, h_level, h_at, h_end, h_why, h_count, h_lastSize])) (cwV 0 hts (tb_goodV ml_Md_190 im_Md_closes se_Md_closes ii_Md kt_Md_closes) rfl rfl rfl (by decide +kernel) ⟨Nat.le_of_ble_eq_true rfl, Nat.le_of_ble_eq_true rfl⟩) (ux_preV (by decide) rfl rfl hP hK hi hN) rfl rfl hl.1 rfl (lv_room (Nat.le_of_ble_eq_true rfl)) d_Md_between_6 ⟨Nat.zero_le _, Nat.zero_le _⟩) hS (fun r4 M5 H locs q6 hP hS => ?_)
  obtain ⟨q6m, q6e⟩ := q6
  rw [q6m] at hP
  subst q6e
  refine lv_if_ne hx hb d_Md_between_9 rfl (fun _ => ?_) (fun hz => absurd hz (by decide))
  refine lv_aload_n hx hb d_Md_between_40 rfl (lv_at hl 1 rfl) ?_
  refine ux_calli (va_runV ⟨hx, hb, hml, hown, hts⟩ (c_Md_over_e l D ad cA M (by simp [ux_wr_at, ux_wr_off, h_level, h_at, h_end, h_why, h_count, h_lastSize]) (by simp [ux_wr_at, ux_wr_off, h_level, h_at, h_end, h_why, h_count, h_lastSize]) (by simp [ux_wr_at, ux_wr_off, h_level, h_at, h_end, h_why, h_count, h_lastSize])) (cwV 0 hts (tb_goodV ml_Md_176 im_Md_over se_Md_over ii_Md kt_Md_over) rfl rfl rfl (by decide +kernel) ⟨Nat.le_of_ble_eq_true rfl, Nat.le_of_ble_eq_true rfl⟩) (ux_preV (by decide) rfl rfl hP hK hi hN) rfl rfl hl.1 rfl (lv_room (Nat.le_of_ble_eq_true rfl)) d_Md_between_41 ⟨Nat.zero_le _, Nat.zero_le _⟩) hS (fun r7 M8 H locs q9 hP hS => ?_)
  obtain ⟨q9m, q9e⟩ := q9
  rw [q9m] at hP
  subst q9e
  refine lv_if_eq hx hb d_Md_between_44 rfl (fun hz => absurd hz (by decide)) (fun _ => ?_)
  refine lv_aload_n hx hb d_Md_between_47 rfl (lv_at hl 1 rfl) ?_
  refine ux_get (C := R_Md) (T := F_Md) (N := 50) hx hb hT in_Md hown hK hP (by decide) rfl rfl 13 (by decide) (hT _ fl_Md_46) rfl d_Md_between_48 ?_
  refine lv_aload_n hx hb d_Md_between_51 rfl (lv_at hl 1 rfl) ?_
  refine ux_get (C := R_Md) (T := F_Md) (N := 50) hx hb hT in_Md hown hK hP (by decide) rfl rfl 10 (by decide) (hT _ fl_Md_36) rfl d_Md_between_52 ?_
  refine lv_topi (fun z10 hz10 => ?_)
  rw [show M 0 10 = 0 from by simp [ux_wr_off, ux_wr_at, h_level]] at hz10
  subst hz10
  refine ux_iald hx hb hK hP (by decide) rfl (by unfold vp_in; decide) d_Md_between_55 ?_
  refine lv_topi (fun z11 hz11 => ?_)
  rw [show M 11 ((0 : Int32).toNatClampNeg) = 0 from by simp [ux_wr_off, ux_wr_at, tn0, h_why]] at hz11
  subst hz11
  refine lv_iconst (v := 1) hx hb d_Md_between_56 (by decide) ?_
  refine lv_icmp_ne hx hb d_Md_between_57 rfl (fun _ => ?_) (fun hz => absurd hz (by decide))
  refine lv_aload_n hx hb d_Md_between_68 rfl (lv_at hl 1 rfl) ?_
  refine ux_get (C := R_Md) (T := F_Md) (N := 50) hx hb hT in_Md hown hK hP (by decide) rfl rfl 16 (by decide) (hT _ fl_Md_55) rfl d_Md_between_69 ?_
  refine lv_aload_n hx hb d_Md_between_72 rfl (lv_at hl 1 rfl) ?_
  refine ux_get (C := R_Md) (T := F_Md) (N := 50) hx hb hT in_Md hown hK hP (by decide) rfl rfl 10 (by decide) (hT _ fl_Md_36) rfl d_Md_between_73 ?_
  refine lv_topi (fun z12 hz12 => ?_)
  rw [show M 0 10 = 0 from by simp [ux_wr_off, ux_wr_at, h_level]] at hz12
  subst hz12
  refine ux_iald hx hb hK hP (by decide) rfl (by unfold vp_in; decide) d_Md_between_76 ?_
  refine lv_topi (fun z13 hz13 => ?_)
  rw [show M 14 ((0 : Int32).toNatClampNeg) = 0 from by simp [ux_wr_off, ux_wr_at, tn0, h_count]] at hz13
  subst hz13
  refine lv_if_le hx hb d_Md_between_77 rfl (fun _ => ?_) (fun hz => absurd (by decide) hz)
  refine lv_aload_n hx hb d_Md_between_87 rfl (lv_at hl 1 rfl) ?_
  refine ux_calli (va_runV ⟨hx, hb, hml, hown, hts⟩ (c_Md_over_e l D ad cA M (by simp [ux_wr_at, ux_wr_off, h_level, h_at, h_end, h_why, h_count, h_lastSize]) (by simp [ux_wr_at, ux_wr_off, h_level, h_at, h_end, h_why, h_count, h_lastSize]) (by simp [ux_wr_at, ux_wr_off, h_level, h_at, h_end, h_why, h_count, h_lastSize])) (cwV 0 hts (tb_goodV ml_Md_176 im_Md_over se_Md_over ii_Md kt_Md_over) rfl rfl rfl (by decide +kernel) ⟨Nat.le_of_ble_eq_true rfl, Nat.le_of_ble_eq_true rfl⟩) (ux_preV (by decide) rfl rfl hP hK hi hN) rfl rfl hl.1 rfl (lv_room (Nat.le_of_ble_eq_true rfl)) d_Md_between_88 ⟨Nat.zero_le _, Nat.zero_le _⟩) hS (fun r14 M15 H locs q16 hP hS => ?_)
  obtain ⟨q16m, q16e⟩ := q16
  rw [q16m] at hP
  subst q16e
  refine lv_if_ne hx hb d_Md_between_91 rfl (fun _ => ?_) (fun hz => absurd hz (by decide))
  refine lv_aload_n hx hb d_Md_between_100 rfl (lv_at hl 1 rfl) ?_
  refine ux_get (C := R_Md) (T := F_Md) (N := 50) hx hb hT in_Md hown hK hP (by decide) rfl rfl 11 (by decide) (hT _ fl_Md_40) rfl d_Md_between_101 ?_
  refine lv_aload_n hx hb d_Md_between_104 rfl (lv_at hl 1 rfl) ?_
  refine ux_get (C := R_Md) (T := F_Md) (N := 50) hx hb hT in_Md hown hK hP (by decide) rfl rfl 10 (by decide) (hT _ fl_Md_36) rfl d_Md_between_105 ?_
  refine lv_topi (fun z17 hz17 => ?_)
  rw [show M 0 10 = 0 from by simp [ux_wr_off, ux_wr_at, h_level]] at hz17
  subst hz17
  refine lv_dup2_11 hx hb d_Md_between_108 rfl rfl ?_
  refine ux_iald hx hb hK hP (by decide) rfl (by unfold vp_in; decide) d_Md_between_109 ?_
  refine lv_topi (fun z18 hz18 => ?_)
  rw [show M 9 ((0 : Int32).toNatClampNeg) = 0 from by simp [ux_wr_off, ux_wr_at, tn0, h_at]] at hz18
  subst hz18
  refine lv_iconst (v := 1) hx hb d_Md_between_110 (by decide) ?_
  refine lv_iadd hx hb d_Md_between_111 ?_
  refine lv_topi (fun z19 hz19 => ?_)
  rw [show (0 : Int32) + 1 = 1 from rfl] at hz19
  subst hz19
  refine ux_iast hx hb hK hi hP hS (by decide) rfl (by unfold vp_in; decide) d_Md_between_112 (fun H locs hP hS => ?_)
  rw [tn0] at hP
  refine lv_aload_n hx hb d_Md_between_113 rfl (lv_at hl 1 rfl) ?_
  refine lv_iconst (v := 0) hx hb d_Md_between_114 (by decide) ?_
  refine ux_put (C := R_Md) (T := F_Md) (N := 50) hx hb hT in_Md t_Md t_Md_ok n_Md hown hK hi hP hS (by decide) rfl rfl 24 (by decide) (hT _ fl_Md_149) rfl (rfl) (rfl) rfl d_Md_between_115 (fun H locs hP hS => ?_)
  refine lv_aload_n hx hb d_Md_between_118 rfl (lv_at hl 1 rfl) ?_
  refine lv_aload_n hx hb d_Md_between_119 rfl (lv_at hl 1 rfl) ?_
  refine ux_get (C := R_Md) (T := F_Md) (N := 50) hx hb hT in_Md hown hK hP (by decide) rfl rfl 17 (by decide) (hT _ fl_Md_58) rfl d_Md_between_120 ?_
  refine lv_aload_n hx hb d_Md_between_123 rfl (lv_at hl 1 rfl) ?_
  refine ux_get (C := R_Md) (T := F_Md) (N := 50) hx hb hT in_Md hown hK hP (by decide) rfl rfl 10 (by decide) (hT _ fl_Md_36) rfl d_Md_between_124 ?_
  refine lv_topi (fun z20 hz20 => ?_)
  rw [show ((ux_wr (ux_wr M 9 0 1) 0 24 0)) 0 10 = 0 from by simp [ux_wr_off, ux_wr_at, h_level]] at hz20
  subst hz20
  refine ux_iald hx hb hK hP (by decide) rfl (by unfold vp_in; decide) d_Md_between_127 ?_
  refine lv_topi (fun z21 hz21 => ?_)
  rw [show ((ux_wr (ux_wr M 9 0 1) 0 24 0)) 15 ((0 : Int32).toNatClampNeg) = 0 from by simp [ux_wr_off, ux_wr_at, tn0, h_lastSize]] at hz21
  subst hz21
  refine ux_put (C := R_Md) (T := F_Md) (N := 50) hx hb hT in_Md t_Md t_Md_ok n_Md hown hK hi hP hS (by decide) rfl rfl 25 (by decide) (hT _ fl_Md_135) rfl (rfl) (rfl) rfl d_Md_between_128 (fun H locs hP hS => ?_)
  refine lv_iconst (v := 0) hx hb d_Md_between_131 (by decide) ?_
  refine lv_istore_n hx hb d_Md_between_132 rfl hl (by decide) rfl (fun ls hl => ?_)
  have hl : lv_has ls 3 [(2, .int 0), (1, .int 0), (0, .ref (ad 0))] := hl
  refine lv_iload_n hx hb d_Md_between_133 rfl (lv_at hl 0 rfl) ?_
  refine lv_aload_n hx hb d_Md_between_134 rfl (lv_at hl 2 rfl) ?_
  refine ux_get (C := R_Md) (T := F_Md) (N := 50) hx hb hT in_Md hown hK hP (by decide) rfl rfl 25 (by decide) (hT _ fl_Md_135) rfl d_Md_between_135 ?_
  refine lv_topi (fun z22 hz22 => ?_)
  rw [show ((ux_wr (ux_wr (ux_wr M 9 0 1) 0 24 0) 0 25 0)) 0 25 = 0 from by simp [ux_wr_off, ux_wr_at]] at hz22
  subst hz22
  refine lv_icmp_ge hx hb d_Md_between_138 rfl (fun _ => ?_) (fun hz => absurd (by decide) hz)
  refine lv_aload_n hx hb d_Md_between_167 rfl (lv_at hl 2 rfl) ?_
  refine lv_iconst (v := 2) hx hb d_Md_between_168 (by decide) ?_
  refine ux_put (C := R_Md) (T := F_Md) (N := 50) hx hb hT in_Md t_Md t_Md_ok n_Md hown hK hi hP hS (by decide) rfl rfl 23 (by decide) (hT _ fl_Md_152) rfl (rfl) (rfl) rfl d_Md_between_169 (fun H locs hP hS => ?_)
  refine lv_goto hx hb d_Md_between_172 rfl ?_
  exact W.vret hx hb hr (fun t ht hW => ⟨⟨(ux_wr (ux_wr (ux_wr (ux_wr M 9 0 1) 0 24 0) 0 25 0) 0 23 2), rfl, rfl, by unfold ux_E; rw [ht]; exact hP⟩, hS.F ht⟩) hS.2.2 d_Md_between_188

set_option maxHeartbeats 4000000 in
set_option maxRecDepth 100000 in
theorem c_Md_read_e (l : Launch) (D : va_G) (ad : Nat → Nat) (cA : Nat → ClassId) (M : ux_M) (h_level : M 0 10 = 0) (h_at : M 9 0 = 0) (h_end : M 10 0 = 0) (h_why : M 11 0 = 0) (h_count : M 14 0 = 0) (h_lastSize : M 15 0 = 0) (h_mode : M 13 0 = 0) : Met l y_Md_read w_Md_read ({ frames := 4, cells := 0, slots := 0, locals := 82 }) (va_Pc [.ref (ad 0)] (ux_B D shM KM ad cA M)) (va_Qv (fun M1 => M1 = (ux_wr (ux_wr (ux_wr (ux_wr M 9 0 1) 0 24 0) 0 25 0) 0 23 2)) (ux_E D shM KM ad cA) (ux_A KM ad)) 0 0 (ux_A KM ad) := by
  refine Met.ofW (cc := b_Md_read) (maxL := 1) (ret := none) (by decide) rfl ?_
  intro p e s m args below meth c s₁ B hml hv
  obtain ⟨rfl, hP, hK, hi, hN⟩ := hv
  have hx := B.exec
  have hb := B.bytes
  have hr := B.returns
  have hts := atoms_spec (ws := w_Md_read) B.pre
  have hown : s.vm.findClass R_Md = some m.cls := findClass_of_methodNamed B.named
  have hlocks := B.notSynchronized
  have hT : ∀ w ∈ tb, w.before _ s = true := fun w h => hts w (List.mem_cons_of_mem _ h)
  have hS : va_S (ux_A KM ad) s.heap s.heap [] := va_S.rf
  have hl := lv_entry ([.ref (ad 0)]) (n := 1) (Nat.le_of_ble_eq_true rfl)
  rw [lg_entry_eq]
  generalize (lg_sl ([.ref (ad 0)]) ++ List.replicate (1 - (lg_sl ([.ref (ad 0)])).length) Slot.unset).toArray = ls at hl ⊢
  have hl : lv_has ls 1 [(0, .ref (ad 0))] := hl
  refine lv_aload_n hx hb d_Md_read_0 rfl (lv_at hl 0 rfl) ?_
  refine ux_get (C := R_Md) (T := F_Md) (N := 50) hx hb hT in_Md hown hK hP (by decide) rfl rfl 15 (by decide) (hT _ fl_Md_52) rfl d_Md_read_1 ?_
  refine lv_aload_n hx hb d_Md_read_4 rfl (lv_at hl 0 rfl) ?_
  refine ux_get (C := R_Md) (T := F_Md) (N := 50) hx hb hT in_Md hown hK hP (by decide) rfl rfl 10 (by decide) (hT _ fl_Md_36) rfl d_Md_read_5 ?_
  refine lv_topi (fun z1 hz1 => ?_)
  rw [show M 0 10 = 0 from by simp [ux_wr_off, ux_wr_at, h_level]] at hz1
  subst hz1
  refine ux_iald hx hb hK hP (by decide) rfl (by unfold vp_in; decide) d_Md_read_8 ?_
  refine lv_topi (fun z2 hz2 => ?_)
  rw [show M 13 ((0 : Int32).toNatClampNeg) = 0 from by simp [ux_wr_off, ux_wr_at, tn0, h_mode]] at hz2
  subst hz2
  refine lv_if_ne hx hb d_Md_read_9 rfl (fun hz => absurd hz (by decide)) (fun _ => ?_)
  refine lv_aload_n hx hb d_Md_read_12 rfl (lv_at hl 0 rfl) ?_
  refine ux_callv (va_runV ⟨hx, hb, hml, hown, hts⟩ (c_Md_between_e l D ad cA M (by simp [ux_wr_at, ux_wr_off, h_level, h_at, h_end, h_why, h_count, h_lastSize, h_mode]) (by simp [ux_wr_at, ux_wr_off, h_level, h_at, h_end, h_why, h_count, h_lastSize, h_mode]) (by simp [ux_wr_at, ux_wr_off, h_level, h_at, h_end, h_why, h_count, h_lastSize, h_mode]) (by simp [ux_wr_at, ux_wr_off, h_level, h_at, h_end, h_why, h_count, h_lastSize, h_mode]) (by simp [ux_wr_at, ux_wr_off, h_level, h_at, h_end, h_why, h_count, h_lastSize, h_mode]) (by simp [ux_wr_at, ux_wr_off, h_level, h_at, h_end, h_why, h_count, h_lastSize, h_mode])) (cwV 0 hts (tb_goodV ml_Md_184 im_Md_between se_Md_between ii_Md kt_Md_between) rfl rfl rfl (by decide +kernel) ⟨Nat.le_of_ble_eq_true rfl, Nat.le_of_ble_eq_true rfl⟩) (ux_preV (by decide) rfl rfl hP hK hi hN) rfl rfl hl.1 rfl (lv_room (Nat.le_of_ble_eq_true rfl)) d_Md_read_13 ⟨Nat.zero_le _, Nat.zero_le _⟩) hS (fun M4 H locs q5 hP hS => ?_)
  rw [q5] at hP
  refine lv_goto hx hb d_Md_read_16 rfl ?_
  exact W.vret hx hb hr (fun t ht hW => ⟨⟨(ux_wr (ux_wr (ux_wr (ux_wr M 9 0 1) 0 24 0) 0 25 0) 0 23 2), rfl, rfl, by unfold ux_E; rw [ht]; exact hP⟩, hS.F ht⟩) hS.2.2 d_Md_read_23

set_option maxHeartbeats 4000000 in
set_option maxRecDepth 100000 in
theorem c_Md_scriptEnded_e (l : Launch) (D : va_G) (ad : Nat → Nat) (cA : Nat → ClassId) (M : ux_M) (h_level : M 0 10 = 0) : Met l y_Md_scriptEnded w_Md_scriptEnded ({ frames := 0, cells := 0, slots := 0, locals := 0 }) (va_Pc [.ref (ad 0)] (ux_B D shM KM ad cA M)) (va_Qv (fun M1 => M1 = (ux_wr M 0 10 (-1))) (ux_E D shM KM ad cA) (ux_A KM ad)) 0 0 (ux_A KM ad) := by
  refine Met.ofW (cc := b_Md_scriptEnded) (maxL := 4) (ret := none) (by decide) rfl ?_
  intro p e s m args below meth c s₁ B hml hv
  obtain ⟨rfl, hP, hK, hi, hN⟩ := hv
  have hx := B.exec
  have hb := B.bytes
  have hr := B.returns
  have hts := atoms_spec (ws := w_Md_scriptEnded) B.pre
  have hown : s.vm.findClass R_Md = some m.cls := findClass_of_methodNamed B.named
  have hlocks := B.notSynchronized
  have hT : ∀ w ∈ tb, w.before _ s = true := fun w h => hts w (List.mem_cons_of_mem _ h)
  have hS : va_S (ux_A KM ad) s.heap s.heap [] := va_S.rf
  have hl := lv_entry ([.ref (ad 0)]) (n := 4) (Nat.le_of_ble_eq_true rfl)
  rw [lg_entry_eq]
  generalize (lg_sl ([.ref (ad 0)]) ++ List.replicate (4 - (lg_sl ([.ref (ad 0)])).length) Slot.unset).toArray = ls at hl ⊢
  have hl : lv_has ls 4 [(0, .ref (ad 0))] := hl
  refine lv_aload_n hx hb d_Md_scriptEnded_0 rfl (lv_at hl 0 rfl) ?_
  refine ux_get (C := R_Md) (T := F_Md) (N := 50) hx hb hT in_Md hown hK hP (by decide) rfl rfl 13 (by decide) (hT _ fl_Md_46) rfl d_Md_scriptEnded_1 ?_
  refine lv_aload_n hx hb d_Md_scriptEnded_4 rfl (lv_at hl 0 rfl) ?_
  refine ux_get (C := R_Md) (T := F_Md) (N := 50) hx hb hT in_Md hown hK hP (by decide) rfl rfl 10 (by decide) (hT _ fl_Md_36) rfl d_Md_scriptEnded_5 ?_
  refine lv_topi (fun z1 hz1 => ?_)
  rw [show M 0 10 = 0 from by simp [ux_wr_off, ux_wr_at, h_level]] at hz1
  subst hz1
  refine ux_iald hx hb hK hP (by decide) rfl (by unfold vp_in; decide) d_Md_scriptEnded_8 ?_
  refine lv_topi (fun z2 hz2 => ?_)
  rw [show M 11 ((0 : Int32).toNatClampNeg) = M 11 0 from by simp [ux_wr_off, ux_wr_at, tn0]] at hz2
  subst hz2
  refine lv_istore_n hx hb d_Md_scriptEnded_9 rfl hl (by decide) rfl (fun ls hl => ?_)
  have hl : lv_has ls 4 [(1, .int (M 11 0)), (0, .ref (ad 0))] := hl
  refine lv_aload_n hx hb d_Md_scriptEnded_10 rfl (lv_at hl 1 rfl) ?_
  refine ux_get (C := R_Md) (T := F_Md) (N := 50) hx hb hT in_Md hown hK hP (by decide) rfl rfl 11 (by decide) (hT _ fl_Md_40) rfl d_Md_scriptEnded_11 ?_
  refine lv_aload_n hx hb d_Md_scriptEnded_14 rfl (lv_at hl 1 rfl) ?_
  refine ux_get (C := R_Md) (T := F_Md) (N := 50) hx hb hT in_Md hown hK hP (by decide) rfl rfl 10 (by decide) (hT _ fl_Md_36) rfl d_Md_scriptEnded_15 ?_
  refine lv_topi (fun z3 hz3 => ?_)
  rw [show M 0 10 = 0 from by simp [ux_wr_off, ux_wr_at, h_level]] at hz3
  subst hz3
  refine ux_iald hx hb hK hP (by decide) rfl (by unfold vp_in; decide) d_Md_scriptEnded_18 ?_
  refine lv_topi (fun z4 hz4 => ?_)
  rw [show M 9 ((0 : Int32).toNatClampNeg) = M 9 0 from by simp [ux_wr_off, ux_wr_at, tn0]] at hz4
  subst hz4
  refine lv_istore_n hx hb d_Md_scriptEnded_19 rfl hl (by decide) rfl (fun ls hl => ?_)
  have hl : lv_has ls 4 [(2, .int (M 9 0)), (1, .int (M 11 0)), (0, .ref (ad 0))] := hl
  refine lv_aload_n hx hb d_Md_scriptEnded_20 rfl (lv_at hl 2 rfl) ?_
  refine lv_dup hx hb d_Md_scriptEnded_21 rfl ?_
  refine ux_get (C := R_Md) (T := F_Md) (N := 50) hx hb hT in_Md hown hK hP (by decide) rfl rfl 10 (by decide) (hT _ fl_Md_36) rfl d_Md_scriptEnded_22 ?_
  refine lv_topi (fun z5 hz5 => ?_)
  rw [show M 0 10 = 0 from by simp [ux_wr_off, ux_wr_at, h_level]] at hz5
  subst hz5
  refine lv_iconst (v := 1) hx hb d_Md_scriptEnded_25 (by decide) ?_
  refine lv_isub hx hb d_Md_scriptEnded_26 ?_
  refine lv_topi (fun z6 hz6 => ?_)
  rw [show (0 : Int32) - 1 = -1 from rfl] at hz6
  subst hz6
  refine ux_put (C := R_Md) (T := F_Md) (N := 50) hx hb hT in_Md t_Md t_Md_ok n_Md hown hK hi hP hS (by decide) rfl rfl 10 (by decide) (hT _ fl_Md_36) rfl (rfl) (rfl) rfl d_Md_scriptEnded_27 (fun H locs hP hS => ?_)
  refine lv_aload_n hx hb d_Md_scriptEnded_30 rfl (lv_at hl 2 rfl) ?_
  refine ux_get (C := R_Md) (T := F_Md) (N := 50) hx hb hT in_Md hown hK hP (by decide) rfl rfl 10 (by decide) (hT _ fl_Md_36) rfl d_Md_scriptEnded_31 ?_
  refine lv_topi (fun z7 hz7 => ?_)
  rw [show ((ux_wr M 0 10 (-1))) 0 10 = -1 from by simp [ux_wr_off, ux_wr_at]] at hz7
  subst hz7
  refine lv_if_ge hx hb d_Md_scriptEnded_34 rfl (fun hz => absurd hz (by decide)) (fun _ => ?_)
  exact W.vret hx hb hr (fun t ht hW => ⟨⟨(ux_wr M 0 10 (-1)), rfl, rfl, by unfold ux_E; rw [ht]; exact hP⟩, hS.F ht⟩) hS.2.2 d_Md_scriptEnded_37

set_option maxHeartbeats 4000000 in
set_option maxRecDepth 100000 in
theorem c_Md_run_e (l : Launch) (D : va_G) (ad : Nat → Nat) (cA : Nat → ClassId) (M : ux_M) (f : Int32) (h_size : M 0 1 = 0) : Met l y_Md_run w_Md_run ({ frames := 5, cells := 0, slots := 0, locals := 102 }) (va_Pc [.ref (ad 0), .int f] (ux_B D shM KM ad cA M)) (va_Qi (fun r M1 => r = if fv_Md_outside M f 1 100 = 0 then 0 else -1) (ux_E D shM KM ad cA) (ux_A KM ad)) 0 0 (ux_A KM ad) := by
  refine Met.ofW (cc := b_Md_run) (maxL := 4) (ret := (some .int)) (by decide) rfl ?_
  intro p e s m args below meth c s₁ B hml hv
  obtain ⟨rfl, hP, hK, hi, hN⟩ := hv
  have hx := B.exec
  have hb := B.bytes
  have hr := B.returns
  have hts := atoms_spec (ws := w_Md_run) B.pre
  have hown : s.vm.findClass R_Md = some m.cls := findClass_of_methodNamed B.named
  have hlocks := B.notSynchronized
  have hT : ∀ w ∈ tb, w.before _ s = true := fun w h => hts w (List.mem_cons_of_mem _ h)
  have hS : va_S (ux_A KM ad) s.heap s.heap [] := va_S.rf
  have hl := lv_entry ([.ref (ad 0), .int f]) (n := 4) (Nat.le_of_ble_eq_true rfl)
  rw [lg_entry_eq]
  generalize (lg_sl ([.ref (ad 0), .int f]) ++ List.replicate (4 - (lg_sl ([.ref (ad 0), .int f])).length) Slot.unset).toArray = ls at hl ⊢
  have hl : lv_has ls 4 [(0, .ref (ad 0)), (1, .int f)] := hl
  refine lv_iload_n hx hb d_Md_run_0 rfl (lv_at hl 1 rfl) ?_
  refine lv_iconst (v := 1) hx hb d_Md_run_1 (by decide) ?_
  refine lv_bipush (v := 100) hx hb d_Md_run_2 (by decide) ?_
  refine ux_calli (va_runS ⟨hx, hb, hml, hown, hts⟩ (c_Md_outside l D ad cA M f 1 100) (va_cwS 3 hts (tb_goodST ml_Md_119 sm_Md_outside ii_Md kt_Md_outside) rfl rfl rfl (by decide +kernel) ⟨Nat.le_of_ble_eq_true rfl, Nat.le_of_ble_eq_true rfl⟩) (ux_pre hP hK hi hN) rfl rfl hl.1 rfl (lv_room (Nat.le_of_ble_eq_true rfl)) d_Md_run_4 ⟨Nat.zero_le _, Nat.zero_le _⟩) hS (fun r1 M2 H locs q3 hP hS => ?_)
  obtain ⟨q3m, q3e⟩ := q3
  rw [q3m] at hP
  subst q3e
  rw [fk_Md_outside] at hP
  refine lv_if_eq hx hb d_Md_run_7 rfl (fun h4 => ?_) (fun h4 => ?_)
  · refine lv_aload_n hx hb d_Md_run_12 rfl (lv_at hl 0 rfl) ?_
    refine lv_iload_n hx hb d_Md_run_13 rfl (lv_at hl 1 rfl) ?_
    refine ux_put (C := R_Md) (T := F_Md) (N := 50) hx hb hT in_Md t_Md t_Md_ok n_Md hown hK hi hP hS (by decide) rfl rfl 27 (by decide) (hT _ fl_Md_229) rfl (rfl) (rfl) rfl d_Md_run_14 (fun H locs hP hS => ?_)
    refine lv_aload_n hx hb d_Md_run_17 rfl (lv_at hl 0 rfl) ?_
    refine lv_iconst (v := 0) hx hb d_Md_run_18 (by decide) ?_
    refine ux_put (C := R_Md) (T := F_Md) (N := 50) hx hb hT in_Md t_Md t_Md_ok n_Md hown hK hi hP hS (by decide) rfl rfl 28 (by decide) (hT _ fl_Md_232) rfl (rfl) (rfl) rfl d_Md_run_19 (fun H locs hP hS => ?_)
    refine lv_aload_n hx hb d_Md_run_22 rfl (lv_at hl 0 rfl) ?_
    refine lv_iconst (v := 1) hx hb d_Md_run_23 (by decide) ?_
    refine ux_put (C := R_Md) (T := F_Md) (N := 50) hx hb hT in_Md t_Md t_Md_ok n_Md hown hK hi hP hS (by decide) rfl rfl 2 (by decide) (hT _ fl_Md_115) rfl (rfl) (rfl) rfl d_Md_run_24 (fun H locs hP hS => ?_)
    refine lv_aload_n hx hb d_Md_run_27 rfl (lv_at hl 0 rfl) ?_
    refine lv_iconst (v := (-1)) hx hb d_Md_run_28 (by decide) ?_
    refine ux_put (C := R_Md) (T := F_Md) (N := 50) hx hb hT in_Md t_Md t_Md_ok n_Md hown hK hi hP hS (by decide) rfl rfl 10 (by decide) (hT _ fl_Md_36) rfl (rfl) (rfl) rfl d_Md_run_29 (fun H locs hP hS => ?_)
    refine lv_aload_n hx hb d_Md_run_32 rfl (lv_at hl 0 rfl) ?_
    refine lv_iconst (v := 0) hx hb d_Md_run_33 (by decide) ?_
    refine lv_aload_n hx hb d_Md_run_34 rfl (lv_at hl 0 rfl) ?_
    refine ux_get (C := R_Md) (T := F_Md) (N := 50) hx hb hT in_Md hown hK hP (by decide) rfl rfl 1 (by decide) (hT _ fl_Md_112) rfl d_Md_run_35 ?_
    refine lv_topi (fun z5 hz5 => ?_)
    rw [show ((ux_wr (ux_wr (ux_wr (ux_wr M 0 27 f) 0 28 0) 0 2 1) 0 10 (-1))) 0 1 = 0 from by simp [ux_wr_off, ux_wr_at, h_size]] at hz5
    subst hz5
    refine lv_iconst (v := 0) hx hb d_Md_run_38 (by decide) ?_
    refine ux_calli (va_runV ⟨hx, hb, hml, hown, hts⟩ (c_Md_enter_e l D ad cA ((ux_wr (ux_wr (ux_wr (ux_wr M 0 27 f) 0 28 0) 0 2 1) 0 10 (-1))) (by simp [ux_wr_at, ux_wr_off, h_size])) (cwV 3 hts (tb_goodV ml_Md_173 im_Md_enter se_Md_enter ii_Md kt_Md_enter) rfl rfl rfl (by decide +kernel) ⟨Nat.le_of_ble_eq_true rfl, Nat.le_of_ble_eq_true rfl⟩) (ux_preV (by decide) rfl rfl hP hK hi hN) rfl rfl hl.1 rfl (lv_room (Nat.le_of_ble_eq_true rfl)) d_Md_run_39 ⟨Nat.zero_le _, Nat.zero_le _⟩) hS (fun r6 M7 H locs q8 hP hS => ?_)
    obtain ⟨q8m, q8e⟩ := q8
    rw [q8m] at hP
    subst q8e
    refine lv_istore_n hx hb d_Md_run_42 rfl hl (by decide) rfl (fun ls hl => ?_)
    have hl : lv_has ls 4 [(2, .int 1), (0, .ref (ad 0)), (1, .int f)] := hl
    refine lv_iconst (v := 0) hx hb d_Md_run_43 (by decide) ?_
    refine lv_istore_n hx hb d_Md_run_44 rfl hl (by decide) rfl (fun ls hl => ?_)
    have hl : lv_has ls 4 [(3, .int 0), (2, .int 1), (0, .ref (ad 0)), (1, .int f)] := hl
    refine lv_iload_n hx hb d_Md_run_45 rfl (lv_at hl 0 rfl) ?_
    refine lv_ldcw (v := 10000000) hx hb hown (hT _ co_Md_383) d_Md_run_46 ?_
    refine lv_icmp_ge hx hb d_Md_run_49 rfl (fun hz => absurd hz (by decide)) (fun _ => ?_)
    refine lv_iload_n hx hb d_Md_run_52 rfl (lv_at hl 1 rfl) ?_
    refine lv_if_eq hx hb d_Md_run_53 rfl (fun hz => absurd hz (by decide)) (fun _ => ?_)
    refine lv_aload_n hx hb d_Md_run_56 rfl (lv_at hl 2 rfl) ?_
    refine ux_get (C := R_Md) (T := F_Md) (N := 50) hx hb hT in_Md hown hK hP (by decide) rfl rfl 10 (by decide) (hT _ fl_Md_36) rfl d_Md_run_57 ?_
    refine lv_topi (fun z9 hz9 => ?_)
    rw [show ((ux_wr (ux_wr (ux_wr (ux_wr (ux_wr (ux_wr (ux_wr (ux_wr (ux_wr (ux_wr (ux_wr (ux_wr (ux_wr M 0 27 f) 0 28 0) 0 2 1) 0 10 (-1)) 0 10 0) 9 0 0) 10 0 0) 11 0 0) 12 0 0) 13 0 0) 14 0 0) 15 0 0) 0 23 0)) 0 10 = 0 from by simp [ux_wr_off, ux_wr_at]] at hz9
    subst hz9
    refine lv_if_lt hx hb d_Md_run_60 rfl (fun hz => absurd hz (by decide)) (fun _ => ?_)
    refine lv_aload_n hx hb d_Md_run_63 rfl (lv_at hl 2 rfl) ?_
    refine ux_get (C := R_Md) (T := F_Md) (N := 50) hx hb hT in_Md hown hK hP (by decide) rfl rfl 23 (by decide) (hT _ fl_Md_152) rfl d_Md_run_64 ?_
    refine lv_topi (fun z10 hz10 => ?_)
    rw [show ((ux_wr (ux_wr (ux_wr (ux_wr (ux_wr (ux_wr (ux_wr (ux_wr (ux_wr (ux_wr (ux_wr (ux_wr (ux_wr M 0 27 f) 0 28 0) 0 2 1) 0 10 (-1)) 0 10 0) 9 0 0) 10 0 0) 11 0 0) 12 0 0) 13 0 0) 14 0 0) 15 0 0) 0 23 0)) 0 23 = 0 from by simp [ux_wr_off, ux_wr_at]] at hz10
    subst hz10
    refine lv_if_ne hx hb d_Md_run_67 rfl (fun hz => absurd hz (by decide)) (fun _ => ?_)
    refine lv_aload_n hx hb d_Md_run_70 rfl (lv_at hl 2 rfl) ?_
    refine ux_callv (va_runV ⟨hx, hb, hml, hown, hts⟩ (c_Md_read_e l D ad cA ((ux_wr (ux_wr (ux_wr (ux_wr (ux_wr (ux_wr (ux_wr (ux_wr (ux_wr (ux_wr (ux_wr (ux_wr (ux_wr M 0 27 f) 0 28 0) 0 2 1) 0 10 (-1)) 0 10 0) 9 0 0) 10 0 0) 11 0 0) 12 0 0) 13 0 0) 14 0 0) 15 0 0) 0 23 0)) (by simp [ux_wr_at, ux_wr_off, h_size]) (by simp [ux_wr_at, ux_wr_off, h_size]) (by simp [ux_wr_at, ux_wr_off, h_size]) (by simp [ux_wr_at, ux_wr_off, h_size]) (by simp [ux_wr_at, ux_wr_off, h_size]) (by simp [ux_wr_at, ux_wr_off, h_size]) (by simp [ux_wr_at, ux_wr_off, h_size])) (cwV 0 hts (tb_goodV ml_Md_384 im_Md_read se_Md_read ii_Md kt_Md_read) rfl rfl rfl (by decide +kernel) ⟨Nat.le_of_ble_eq_true rfl, Nat.le_of_ble_eq_true rfl⟩) (ux_preV (by decide) rfl rfl hP hK hi hN) rfl rfl hl.1 rfl (lv_room (Nat.le_of_ble_eq_true rfl)) d_Md_run_71 ⟨Nat.zero_le _, Nat.zero_le _⟩) hS (fun M12 H locs q13 hP hS => ?_)
    rw [q13] at hP
    refine lv_goto hx hb d_Md_run_74 rfl ?_
    refine lv_iinc (k := 0) (v := 1) hx hb d_Md_run_96 hl rfl (by decide) (by decide) rfl (fun ls hl => ?_)
    have hl : lv_has ls 4 [(3, .int 1), (2, .int 1), (0, .ref (ad 0)), (1, .int f)] := hl
    refine lv_goto hx hb d_Md_run_99 rfl ?_
    refine lv_iload_n hx hb d_Md_run_45 rfl (lv_at hl 0 rfl) ?_
    refine lv_ldcw (v := 10000000) hx hb hown (hT _ co_Md_383) d_Md_run_46 ?_
    refine lv_icmp_ge hx hb d_Md_run_49 rfl (fun hz => absurd hz (by decide)) (fun _ => ?_)
    refine lv_iload_n hx hb d_Md_run_52 rfl (lv_at hl 1 rfl) ?_
    refine lv_if_eq hx hb d_Md_run_53 rfl (fun hz => absurd hz (by decide)) (fun _ => ?_)
    refine lv_aload_n hx hb d_Md_run_56 rfl (lv_at hl 2 rfl) ?_
    refine ux_get (C := R_Md) (T := F_Md) (N := 50) hx hb hT in_Md hown hK hP (by decide) rfl rfl 10 (by decide) (hT _ fl_Md_36) rfl d_Md_run_57 ?_
    refine lv_topi (fun z14 hz14 => ?_)
    rw [show ((ux_wr (ux_wr (ux_wr (ux_wr (ux_wr (ux_wr (ux_wr (ux_wr (ux_wr (ux_wr (ux_wr (ux_wr (ux_wr (ux_wr (ux_wr (ux_wr (ux_wr M 0 27 f) 0 28 0) 0 2 1) 0 10 (-1)) 0 10 0) 9 0 0) 10 0 0) 11 0 0) 12 0 0) 13 0 0) 14 0 0) 15 0 0) 0 23 0) 9 0 1) 0 24 0) 0 25 0) 0 23 2)) 0 10 = 0 from by simp [ux_wr_off, ux_wr_at]] at hz14
    subst hz14
    refine lv_if_lt hx hb d_Md_run_60 rfl (fun hz => absurd hz (by decide)) (fun _ => ?_)
    refine lv_aload_n hx hb d_Md_run_63 rfl (lv_at hl 2 rfl) ?_
    refine ux_get (C := R_Md) (T := F_Md) (N := 50) hx hb hT in_Md hown hK hP (by decide) rfl rfl 23 (by decide) (hT _ fl_Md_152) rfl d_Md_run_64 ?_
    refine lv_topi (fun z15 hz15 => ?_)
    rw [show ((ux_wr (ux_wr (ux_wr (ux_wr (ux_wr (ux_wr (ux_wr (ux_wr (ux_wr (ux_wr (ux_wr (ux_wr (ux_wr (ux_wr (ux_wr (ux_wr (ux_wr M 0 27 f) 0 28 0) 0 2 1) 0 10 (-1)) 0 10 0) 9 0 0) 10 0 0) 11 0 0) 12 0 0) 13 0 0) 14 0 0) 15 0 0) 0 23 0) 9 0 1) 0 24 0) 0 25 0) 0 23 2)) 0 23 = 2 from by simp [ux_wr_off, ux_wr_at]] at hz15
    subst hz15
    refine lv_if_ne hx hb d_Md_run_67 rfl (fun _ => ?_) (fun hz => absurd hz (by decide))
    refine lv_aload_n hx hb d_Md_run_77 rfl (lv_at hl 2 rfl) ?_
    refine ux_get (C := R_Md) (T := F_Md) (N := 50) hx hb hT in_Md hown hK hP (by decide) rfl rfl 23 (by decide) (hT _ fl_Md_152) rfl d_Md_run_78 ?_
    refine lv_topi (fun z16 hz16 => ?_)
    rw [show ((ux_wr (ux_wr (ux_wr (ux_wr (ux_wr (ux_wr (ux_wr (ux_wr (ux_wr (ux_wr (ux_wr (ux_wr (ux_wr (ux_wr (ux_wr (ux_wr (ux_wr M 0 27 f) 0 28 0) 0 2 1) 0 10 (-1)) 0 10 0) 9 0 0) 10 0 0) 11 0 0) 12 0 0) 13 0 0) 14 0 0) 15 0 0) 0 23 0) 9 0 1) 0 24 0) 0 25 0) 0 23 2)) 0 23 = 2 from by simp [ux_wr_off, ux_wr_at]] at hz16
    subst hz16
    refine lv_iconst (v := 1) hx hb d_Md_run_81 (by decide) ?_
    refine lv_icmp_ne hx hb d_Md_run_82 rfl (fun _ => ?_) (fun hz => absurd hz (by decide))
    refine lv_aload_n hx hb d_Md_run_92 rfl (lv_at hl 2 rfl) ?_
    refine ux_callv (va_runV ⟨hx, hb, hml, hown, hts⟩ (c_Md_scriptEnded_e l D ad cA ((ux_wr (ux_wr (ux_wr (ux_wr (ux_wr (ux_wr (ux_wr (ux_wr (ux_wr (ux_wr (ux_wr (ux_wr (ux_wr (ux_wr (ux_wr (ux_wr (ux_wr M 0 27 f) 0 28 0) 0 2 1) 0 10 (-1)) 0 10 0) 9 0 0) 10 0 0) 11 0 0) 12 0 0) 13 0 0) 14 0 0) 15 0 0) 0 23 0) 9 0 1) 0 24 0) 0 25 0) 0 23 2)) (by simp [ux_wr_at, ux_wr_off, h_size])) (cwV 0 hts (tb_goodV ml_Md_390 im_Md_scriptEnded se_Md_scriptEnded ii_Md kt_Md_scriptEnded) rfl rfl rfl (by decide +kernel) ⟨Nat.le_of_ble_eq_true rfl, Nat.le_of_ble_eq_true rfl⟩) (ux_preV (by decide) rfl rfl hP hK hi hN) rfl rfl hl.1 rfl (lv_room (Nat.le_of_ble_eq_true rfl)) d_Md_run_93 ⟨Nat.zero_le _, Nat.zero_le _⟩) hS (fun M18 H locs q19 hP hS => ?_)
    rw [q19] at hP
    refine lv_iinc (k := 0) (v := 2) hx hb d_Md_run_96 hl rfl (by decide) (by decide) rfl (fun ls hl => ?_)
    have hl : lv_has ls 4 [(3, .int 2), (2, .int 1), (0, .ref (ad 0)), (1, .int f)] := hl
    refine lv_goto hx hb d_Md_run_99 rfl ?_
    refine lv_iload_n hx hb d_Md_run_45 rfl (lv_at hl 0 rfl) ?_
    refine lv_ldcw (v := 10000000) hx hb hown (hT _ co_Md_383) d_Md_run_46 ?_
    refine lv_icmp_ge hx hb d_Md_run_49 rfl (fun hz => absurd hz (by decide)) (fun _ => ?_)
    refine lv_iload_n hx hb d_Md_run_52 rfl (lv_at hl 1 rfl) ?_
    refine lv_if_eq hx hb d_Md_run_53 rfl (fun hz => absurd hz (by decide)) (fun _ => ?_)
    refine lv_aload_n hx hb d_Md_run_56 rfl (lv_at hl 2 rfl) ?_
    refine ux_get (C := R_Md) (T := F_Md) (N := 50) hx hb hT in_Md hown hK hP (by decide) rfl rfl 10 (by decide) (hT _ fl_Md_36) rfl d_Md_run_57 ?_
    refine lv_topi (fun z20 hz20 => ?_)
    rw [show ((ux_wr (ux_wr (ux_wr (ux_wr (ux_wr (ux_wr (ux_wr (ux_wr (ux_wr (ux_wr (ux_wr (ux_wr (ux_wr (ux_wr (ux_wr (ux_wr (ux_wr (ux_wr M 0 27 f) 0 28 0) 0 2 1) 0 10 (-1)) 0 10 0) 9 0 0) 10 0 0) 11 0 0) 12 0 0) 13 0 0) 14 0 0) 15 0 0) 0 23 0) 9 0 1) 0 24 0) 0 25 0) 0 23 2) 0 10 (-1))) 0 10 = -1 from by simp [ux_wr_off, ux_wr_at]] at hz20
    subst hz20
    refine lv_if_lt hx hb d_Md_run_60 rfl (fun _ => ?_) (fun hz => absurd (by decide) hz)
    refine lv_aload_n hx hb d_Md_run_102 rfl (lv_at hl 2 rfl) ?_
    refine ux_get (C := R_Md) (T := F_Md) (N := 50) hx hb hT in_Md hown hK hP (by decide) rfl rfl 24 (by decide) (hT _ fl_Md_149) rfl d_Md_run_103 ?_
    refine lv_topi (fun z21 hz21 => ?_)
    rw [show ((ux_wr (ux_wr (ux_wr (ux_wr (ux_wr (ux_wr (ux_wr (ux_wr (ux_wr (ux_wr (ux_wr (ux_wr (ux_wr (ux_wr (ux_wr (ux_wr (ux_wr (ux_wr M 0 27 f) 0 28 0) 0 2 1) 0 10 (-1)) 0 10 0) 9 0 0) 10 0 0) 11 0 0) 12 0 0) 13 0 0) 14 0 0) 15 0 0) 0 23 0) 9 0 1) 0 24 0) 0 25 0) 0 23 2) 0 10 (-1))) 0 24 = 0 from by simp [ux_wr_off, ux_wr_at]] at hz21
    subst hz21
    refine lv_iconst (v := 3) hx hb d_Md_run_106 (by decide) ?_
    refine lv_icmp_eq hx hb d_Md_run_107 rfl (fun hz => absurd hz (by decide)) (fun _ => ?_)
    refine lv_aload_n hx hb d_Md_run_110 rfl (lv_at hl 2 rfl) ?_
    refine ux_get (C := R_Md) (T := F_Md) (N := 50) hx hb hT in_Md hown hK hP (by decide) rfl rfl 24 (by decide) (hT _ fl_Md_149) rfl d_Md_run_111 ?_
    refine lv_topi (fun z22 hz22 => ?_)
    rw [show ((ux_wr (ux_wr (ux_wr (ux_wr (ux_wr (ux_wr (ux_wr (ux_wr (ux_wr (ux_wr (ux_wr (ux_wr (ux_wr (ux_wr (ux_wr (ux_wr (ux_wr (ux_wr M 0 27 f) 0 28 0) 0 2 1) 0 10 (-1)) 0 10 0) 9 0 0) 10 0 0) 11 0 0) 12 0 0) 13 0 0) 14 0 0) 15 0 0) 0 23 0) 9 0 1) 0 24 0) 0 25 0) 0 23 2) 0 10 (-1))) 0 24 = 0 from by simp [ux_wr_off, ux_wr_at]] at hz22
    subst hz22
    refine lv_iconst (v := 4) hx hb d_Md_run_114 (by decide) ?_
    refine lv_icmp_ne hx hb d_Md_run_115 rfl (fun _ => ?_) (fun hz => absurd hz (by decide))
    refine lv_aload_n hx hb d_Md_run_124 rfl (lv_at hl 2 rfl) ?_
    refine ux_get (C := R_Md) (T := F_Md) (N := 50) hx hb hT in_Md hown hK hP (by decide) rfl rfl 24 (by decide) (hT _ fl_Md_149) rfl d_Md_run_125 ?_
    refine lv_topi (fun z23 hz23 => ?_)
    rw [show ((ux_wr (ux_wr (ux_wr (ux_wr (ux_wr (ux_wr (ux_wr (ux_wr (ux_wr (ux_wr (ux_wr (ux_wr (ux_wr (ux_wr (ux_wr (ux_wr (ux_wr (ux_wr M 0 27 f) 0 28 0) 0 2 1) 0 10 (-1)) 0 10 0) 9 0 0) 10 0 0) 11 0 0) 12 0 0) 13 0 0) 14 0 0) 15 0 0) 0 23 0) 9 0 1) 0 24 0) 0 25 0) 0 23 2) 0 10 (-1))) 0 24 = 0 from by simp [ux_wr_off, ux_wr_at]] at hz23
    subst hz23
    refine lv_iconst (v := 2) hx hb d_Md_run_128 (by decide) ?_
    refine lv_icmp_ne hx hb d_Md_run_129 rfl (fun _ => ?_) (fun hz => absurd hz (by decide))
    refine lv_aload_n hx hb d_Md_run_136 rfl (lv_at hl 2 rfl) ?_
    refine ux_get (C := R_Md) (T := F_Md) (N := 50) hx hb hT in_Md hown hK hP (by decide) rfl rfl 24 (by decide) (hT _ fl_Md_149) rfl d_Md_run_137 ?_
    refine lv_topi (fun z24 hz24 => ?_)
    rw [show ((ux_wr (ux_wr (ux_wr (ux_wr (ux_wr (ux_wr (ux_wr (ux_wr (ux_wr (ux_wr (ux_wr (ux_wr (ux_wr (ux_wr (ux_wr (ux_wr (ux_wr (ux_wr M 0 27 f) 0 28 0) 0 2 1) 0 10 (-1)) 0 10 0) 9 0 0) 10 0 0) 11 0 0) 12 0 0) 13 0 0) 14 0 0) 15 0 0) 0 23 0) 9 0 1) 0 24 0) 0 25 0) 0 23 2) 0 10 (-1))) 0 24 = 0 from by simp [ux_wr_off, ux_wr_at]] at hz24
    subst hz24
    exact W.iret (v := 0) hx hb hr (fun t ht hW => ⟨⟨0, (ux_wr (ux_wr (ux_wr (ux_wr (ux_wr (ux_wr (ux_wr (ux_wr (ux_wr (ux_wr (ux_wr (ux_wr (ux_wr (ux_wr (ux_wr (ux_wr (ux_wr (ux_wr M 0 27 f) 0 28 0) 0 2 1) 0 10 (-1)) 0 10 0) 9 0 0) 10 0 0) 11 0 0) 12 0 0) 13 0 0) 14 0 0) 15 0 0) 0 23 0) 9 0 1) 0 24 0) 0 25 0) 0 23 2) 0 10 (-1)), rfl, by rw [if_pos h4], by unfold ux_E; rw [ht]; exact hP⟩, hS.F ht⟩) hS.2.2 d_Md_run_140
  · refine lv_iconst (v := (-1)) hx hb d_Md_run_10 (by decide) ?_
    exact W.iret (v := -1) hx hb hr (fun t ht hW => ⟨⟨-1, M, rfl, by rw [if_neg h4], by unfold ux_E; rw [ht]; exact hP⟩, hS.F ht⟩) hS.2.2 d_Md_run_11
