/-! The class's methods over its table, written by wip/gen/ps.py -/
theorem shV (k kl ks n : Nat) (h : (k < KX ∧ kl < KX ∧ ks < KX) ∧ n ≤ 1000) (h1 : shX k = .inl (4, [some kl, some ks])) (h2 : shX kl = .inr (1, 20 * n, none)) (h3 : shX ks = .inr (0, n, none)) : ux_V shX KX k kl ks n := ⟨h.1.1, h.1.2.1, h.1.2.2, h1, h2, h3, h.2⟩
theorem V_res : ux_V shX KX 47 48 49 1 := shV 47 48 49 1 (by decide) rfl rfl rfl
theorem V_buf : ux_V shX KX 8 9 10 1 := shV 8 9 10 1 (by decide) rfl rfl rfl
theorem V_glo : ux_V shX KX 18 19 20 26 := shV 18 19 20 26 (by decide) rfl rfl rfl
def pr (c : Int32) : Int32 := if c < 32 then 0 else if 126 < c then 0 else 1
def pz (c : Int32) : Int32 := if c = 0 then 1 else if pr c = 0 then 0 else 1
def pst (c : Int32) : Int32 := if c < 0 then 0 else if 8 ≤ c then 0 else 1

set_option maxHeartbeats 4000000 in
set_option maxRecDepth 100000 in
theorem c_PS_peer (l : Launch) (D : va_G) (ad : Nat → Nat) (cA : Nat → ClassId) (M : ux_M)  : Met l y_PS_peer w_PS_peer ({ frames := 0, cells := 0, slots := 0, locals := 0 }) (va_Pc [.ref (ad 0)] (ux_B D shX KX ad cA M)) (va_Qi (fun r M1 => M1 = M ∧ r = M 2 5) (ux_E D shX KX ad cA) (ux_A KX ad)) 0 0 (ux_A KX ad) := by
  refine Met.ofW (cc := b_PS_peer) (maxL := 1) (ret := (some .int)) (by decide) rfl ?_
  intro p e s m args below meth c s₁ B hml hv
  obtain ⟨rfl, hP, hK, hi, hN⟩ := hv
  have hx := B.exec
  have hb := B.bytes
  have hr := B.returns
  have hts := atoms_spec (ws := w_PS_peer) B.pre
  have hown : s.vm.findClass R_PS = some m.cls := findClass_of_methodNamed B.named
  have hlocks := B.notSynchronized
  have hT : ∀ w ∈ tb, w.before _ s = true := fun w h => hts w (List.mem_cons_of_mem _ h)
  have hS : va_S (ux_A KX ad) s.heap s.heap [] := va_S.rf
  have hl := lv_entry ([.ref (ad 0)]) (n := 1) (Nat.le_of_ble_eq_true rfl)
  rw [lg_entry_eq]
  generalize (lg_sl ([.ref (ad 0)]) ++ List.replicate (1 - (lg_sl ([.ref (ad 0)])).length) Slot.unset).toArray = ls at hl ⊢
  have hl : lv_has ls 1 [(0, .ref (ad 0))] := hl
  refine lv_aload_n hx hb d_PS_peer_0 rfl (lv_at hl 0 rfl) ?_
  refine ux_get (C := R_PS) (T := F_PS) (N := 3) hx hb hT in_PS hown hK hP (by decide) rfl rfl 1 (by decide) (hT _ fl_PS_19) rfl d_PS_peer_1 ?_
  refine ux_getN (C := R_Pe) (T := F_Pe) (N := 10) hx hb hT in_Pe hown hK hP (by decide) rfl rfl 5 (by decide) (hN _ nf_PS_114) rfl d_PS_peer_4 ?_
  exact W.iret (v := M 2 5) hx hb hr (fun t ht hW => ⟨⟨M 2 5, M, rfl, ⟨rfl, rfl⟩, by unfold ux_E; rw [ht]; exact hP⟩, hS.F ht⟩) hS.2.2 d_PS_peer_7

set_option maxHeartbeats 4000000 in
set_option maxRecDepth 100000 in
theorem c_PS_pending (l : Launch) (D : va_G) (ad : Nat → Nat) (cA : Nat → ClassId) (M : ux_M)  : Met l y_PS_pending w_PS_pending ({ frames := 0, cells := 0, slots := 0, locals := 0 }) (va_Pc [.ref (ad 0)] (ux_B D shX KX ad cA M)) (va_Qi (fun r M1 => M1 = M ∧ r = M 2 7) (ux_E D shX KX ad cA) (ux_A KX ad)) 0 0 (ux_A KX ad) := by
  refine Met.ofW (cc := b_PS_pending) (maxL := 1) (ret := (some .int)) (by decide) rfl ?_
  intro p e s m args below meth c s₁ B hml hv
  obtain ⟨rfl, hP, hK, hi, hN⟩ := hv
  have hx := B.exec
  have hb := B.bytes
  have hr := B.returns
  have hts := atoms_spec (ws := w_PS_pending) B.pre
  have hown : s.vm.findClass R_PS = some m.cls := findClass_of_methodNamed B.named
  have hlocks := B.notSynchronized
  have hT : ∀ w ∈ tb, w.before _ s = true := fun w h => hts w (List.mem_cons_of_mem _ h)
  have hS : va_S (ux_A KX ad) s.heap s.heap [] := va_S.rf
  have hl := lv_entry ([.ref (ad 0)]) (n := 1) (Nat.le_of_ble_eq_true rfl)
  rw [lg_entry_eq]
  generalize (lg_sl ([.ref (ad 0)]) ++ List.replicate (1 - (lg_sl ([.ref (ad 0)])).length) Slot.unset).toArray = ls at hl ⊢
  have hl : lv_has ls 1 [(0, .ref (ad 0))] := hl
  refine lv_aload_n hx hb d_PS_pending_0 rfl (lv_at hl 0 rfl) ?_
  refine ux_get (C := R_PS) (T := F_PS) (N := 3) hx hb hT in_PS hown hK hP (by decide) rfl rfl 1 (by decide) (hT _ fl_PS_19) rfl d_PS_pending_1 ?_
  refine ux_getN (C := R_Pe) (T := F_Pe) (N := 10) hx hb hT in_Pe hown hK hP (by decide) rfl rfl 7 (by decide) (hN _ nf_PS_117) rfl d_PS_pending_4 ?_
  exact W.iret (v := M 2 7) hx hb hr (fun t ht hW => ⟨⟨M 2 7, M, rfl, ⟨rfl, rfl⟩, by unfold ux_E; rw [ht]; exact hP⟩, hS.F ht⟩) hS.2.2 d_PS_pending_7

set_option maxHeartbeats 4000000 in
set_option maxRecDepth 100000 in
theorem c_PS_talk (l : Launch) (D : va_G) (ad : Nat → Nat) (cA : Nat → ClassId) (M : ux_M)  : Met l y_PS_talk w_PS_talk ({ frames := 0, cells := 0, slots := 0, locals := 0 }) (va_Pc [.ref (ad 0)] (ux_B D shX KX ad cA M)) (va_Qi (fun r M1 => M1 = M ∧ r = M 11 1) (ux_E D shX KX ad cA) (ux_A KX ad)) 0 0 (ux_A KX ad) := by
  refine Met.ofW (cc := b_PS_talk) (maxL := 1) (ret := (some .int)) (by decide) rfl ?_
  intro p e s m args below meth c s₁ B hml hv
  obtain ⟨rfl, hP, hK, hi, hN⟩ := hv
  have hx := B.exec
  have hb := B.bytes
  have hr := B.returns
  have hts := atoms_spec (ws := w_PS_talk) B.pre
  have hown : s.vm.findClass R_PS = some m.cls := findClass_of_methodNamed B.named
  have hlocks := B.notSynchronized
  have hT : ∀ w ∈ tb, w.before _ s = true := fun w h => hts w (List.mem_cons_of_mem _ h)
  have hS : va_S (ux_A KX ad) s.heap s.heap [] := va_S.rf
  have hl := lv_entry ([.ref (ad 0)]) (n := 1) (Nat.le_of_ble_eq_true rfl)
  rw [lg_entry_eq]
  generalize (lg_sl ([.ref (ad 0)]) ++ List.replicate (1 - (lg_sl ([.ref (ad 0)])).length) Slot.unset).toArray = ls at hl ⊢
  have hl : lv_has ls 1 [(0, .ref (ad 0))] := hl
  refine lv_aload_n hx hb d_PS_talk_0 rfl (lv_at hl 0 rfl) ?_
  refine ux_get (C := R_PS) (T := F_PS) (N := 3) hx hb hT in_PS hown hK hP (by decide) rfl rfl 1 (by decide) (hT _ fl_PS_19) rfl d_PS_talk_1 ?_
  refine ux_getN (C := R_Pe) (T := F_Pe) (N := 10) hx hb hT in_Pe hown hK hP (by decide) rfl rfl 9 (by decide) (hN _ nf_PS_123) rfl d_PS_talk_4 ?_
  refine ux_getN (C := R_Lg) (T := F_Lg) (N := 2) hx hb hT in_Lg hown hK hP (by decide) rfl rfl 1 (by decide) (hN _ nf_PS_127) rfl d_PS_talk_7 ?_
  exact W.iret (v := M 11 1) hx hb hr (fun t ht hW => ⟨⟨M 11 1, M, rfl, ⟨rfl, rfl⟩, by unfold ux_E; rw [ht]; exact hP⟩, hS.F ht⟩) hS.2.2 d_PS_talk_10

set_option maxHeartbeats 4000000 in
set_option maxRecDepth 100000 in
theorem c_PS_used (l : Launch) (D : va_G) (ad : Nat → Nat) (cA : Nat → ClassId) (M : ux_M)  : Met l y_PS_used w_PS_used ({ frames := 0, cells := 0, slots := 0, locals := 0 }) (va_Pc [.ref (ad 0)] (ux_B D shX KX ad cA M)) (va_Qi (fun r M1 => M1 = M ∧ r = M 13 7 - M 13 8) (ux_E D shX KX ad cA) (ux_A KX ad)) 0 0 (ux_A KX ad) := by
  refine Met.ofW (cc := b_PS_used) (maxL := 1) (ret := (some .int)) (by decide) rfl ?_
  intro p e s m args below meth c s₁ B hml hv
  obtain ⟨rfl, hP, hK, hi, hN⟩ := hv
  have hx := B.exec
  have hb := B.bytes
  have hr := B.returns
  have hts := atoms_spec (ws := w_PS_used) B.pre
  have hown : s.vm.findClass R_PS = some m.cls := findClass_of_methodNamed B.named
  have hlocks := B.notSynchronized
  have hT : ∀ w ∈ tb, w.before _ s = true := fun w h => hts w (List.mem_cons_of_mem _ h)
  have hS : va_S (ux_A KX ad) s.heap s.heap [] := va_S.rf
  have hl := lv_entry ([.ref (ad 0)]) (n := 1) (Nat.le_of_ble_eq_true rfl)
  rw [lg_entry_eq]
  generalize (lg_sl ([.ref (ad 0)]) ++ List.replicate (1 - (lg_sl ([.ref (ad 0)])).length) Slot.unset).toArray = ls at hl ⊢
  have hl : lv_has ls 1 [(0, .ref (ad 0))] := hl
  refine lv_aload_n hx hb d_PS_used_0 rfl (lv_at hl 0 rfl) ?_
  refine ux_get (C := R_PS) (T := F_PS) (N := 3) hx hb hT in_PS hown hK hP (by decide) rfl rfl 2 (by decide) (hT _ fl_PS_28) rfl d_PS_used_1 ?_
  refine ux_getN (C := R_Rn) (T := F_Rn) (N := 9) hx hb hT in_Rn hown hK hP (by decide) rfl rfl 7 (by decide) (hN _ nf_PS_80) rfl d_PS_used_4 ?_
  refine lv_aload_n hx hb d_PS_used_7 rfl (lv_at hl 0 rfl) ?_
  refine ux_get (C := R_PS) (T := F_PS) (N := 3) hx hb hT in_PS hown hK hP (by decide) rfl rfl 2 (by decide) (hT _ fl_PS_28) rfl d_PS_used_8 ?_
  refine ux_getN (C := R_Rn) (T := F_Rn) (N := 9) hx hb hT in_Rn hown hK hP (by decide) rfl rfl 8 (by decide) (hN _ nf_PS_83) rfl d_PS_used_11 ?_
  refine lv_isub hx hb d_PS_used_14 ?_
  exact W.iret (v := (M 13 7) - (M 13 8)) hx hb hr (fun t ht hW => ⟨⟨(M 13 7) - (M 13 8), M, rfl, ⟨rfl, rfl⟩, by unfold ux_E; rw [ht]; exact hP⟩, hS.F ht⟩) hS.2.2 d_PS_used_15

set_option maxHeartbeats 4000000 in
set_option maxRecDepth 100000 in
theorem c_PS_length (l : Launch) (D : va_G) (ad : Nat → Nat) (cA : Nat → ClassId) (M : ux_M)  : Met l y_PS_length w_PS_length ({ frames := 1, cells := 0, slots := 0, locals := 21 }) (va_Pc [.ref (ad 0)] (ux_B D shX KX ad cA M)) (va_Qi (fun r M1 => M1 = M ∧ r = vz M 49 1 0) (ux_E D shX KX ad cA) (ux_A KX ad)) 0 0 (ux_A KX ad) := by
  refine Met.ofW (cc := b_PS_length) (maxL := 1) (ret := (some .int)) (by decide) rfl ?_
  intro p e s m args below meth c s₁ B hml hv
  obtain ⟨rfl, hP, hK, hi, hN⟩ := hv
  have hx := B.exec
  have hb := B.bytes
  have hr := B.returns
  have hts := atoms_spec (ws := w_PS_length) B.pre
  have hown : s.vm.findClass R_PS = some m.cls := findClass_of_methodNamed B.named
  have hlocks := B.notSynchronized
  have hT : ∀ w ∈ tb, w.before _ s = true := fun w h => hts w (List.mem_cons_of_mem _ h)
  have hS : va_S (ux_A KX ad) s.heap s.heap [] := va_S.rf
  have hl := lv_entry ([.ref (ad 0)]) (n := 1) (Nat.le_of_ble_eq_true rfl)
  rw [lg_entry_eq]
  generalize (lg_sl ([.ref (ad 0)]) ++ List.replicate (1 - (lg_sl ([.ref (ad 0)])).length) Slot.unset).toArray = ls at hl ⊢
  have hl : lv_has ls 1 [(0, .ref (ad 0))] := hl
  refine lv_aload_n hx hb d_PS_length_0 rfl (lv_at hl 0 rfl) ?_
  refine ux_get (C := R_PS) (T := F_PS) (N := 3) hx hb hT in_PS hown hK hP (by decide) rfl rfl 2 (by decide) (hT _ fl_PS_28) rfl d_PS_length_1 ?_
  refine ux_getN (C := R_Rn) (T := F_Rn) (N := 9) hx hb hT in_Rn hown hK hP (by decide) rfl rfl 6 (by decide) (hN _ nf_PS_94) rfl d_PS_length_4 ?_
  refine lv_iconst (v := 0) hx hb d_PS_length_7 (by decide) ?_
  refine ux_calli (va_runV ⟨hx, hb, hml, hown, hts⟩ (c_Vl_sizeOf l D shX KX ad cA M 47 48 49 1 V_res 0) (cwV 1 hts (tb_goodV ml_PS_98 im_Vl_sizeOf se_Vl_sizeOf ii_Vl kt_Vl_sizeOf) rfl rfl rfl (by decide +kernel) ⟨Nat.le_of_ble_eq_true rfl, Nat.le_of_ble_eq_true rfl⟩) (ux_preV (by decide) rfl rfl hP hK hi hN) rfl rfl hl.1 rfl (lv_room (Nat.le_of_ble_eq_true rfl)) d_PS_length_8 ⟨Nat.zero_le _, Nat.zero_le _⟩) hS (fun r1 M2 H locs q3 hP hS => ?_)
  obtain ⟨q3m, q3e⟩ := q3
  rw [q3m] at hP
  subst q3e
  exact W.iret (v := vz M 49 1 0) hx hb hr (fun t ht hW => ⟨⟨vz M 49 1 0, M, rfl, ⟨rfl, rfl⟩, by unfold ux_E; rw [ht]; exact hP⟩, hS.F ht⟩) hS.2.2 d_PS_length_11

set_option maxHeartbeats 4000000 in
set_option maxRecDepth 100000 in
theorem c_PS_buffered (l : Launch) (D : va_G) (ad : Nat → Nat) (cA : Nat → ClassId) (M : ux_M)  : Met l y_PS_buffered w_PS_buffered ({ frames := 1, cells := 0, slots := 0, locals := 21 }) (va_Pc [.ref (ad 0)] (ux_B D shX KX ad cA M)) (va_Qi (fun r M1 => M1 = M ∧ r = vz M 10 1 0) (ux_E D shX KX ad cA) (ux_A KX ad)) 0 0 (ux_A KX ad) := by
  refine Met.ofW (cc := b_PS_buffered) (maxL := 1) (ret := (some .int)) (by decide) rfl ?_
  intro p e s m args below meth c s₁ B hml hv
  obtain ⟨rfl, hP, hK, hi, hN⟩ := hv
  have hx := B.exec
  have hb := B.bytes
  have hr := B.returns
  have hts := atoms_spec (ws := w_PS_buffered) B.pre
  have hown : s.vm.findClass R_PS = some m.cls := findClass_of_methodNamed B.named
  have hlocks := B.notSynchronized
  have hT : ∀ w ∈ tb, w.before _ s = true := fun w h => hts w (List.mem_cons_of_mem _ h)
  have hS : va_S (ux_A KX ad) s.heap s.heap [] := va_S.rf
  have hl := lv_entry ([.ref (ad 0)]) (n := 1) (Nat.le_of_ble_eq_true rfl)
  rw [lg_entry_eq]
  generalize (lg_sl ([.ref (ad 0)]) ++ List.replicate (1 - (lg_sl ([.ref (ad 0)])).length) Slot.unset).toArray = ls at hl ⊢
  have hl : lv_has ls 1 [(0, .ref (ad 0))] := hl
  refine lv_aload_n hx hb d_PS_buffered_0 rfl (lv_at hl 0 rfl) ?_
  refine ux_get (C := R_PS) (T := F_PS) (N := 3) hx hb hT in_PS hown hK hP (by decide) rfl rfl 1 (by decide) (hT _ fl_PS_19) rfl d_PS_buffered_1 ?_
  refine ux_getN (C := R_Pe) (T := F_Pe) (N := 10) hx hb hT in_Pe hown hK hP (by decide) rfl rfl 8 (by decide) (hN _ nf_PS_120) rfl d_PS_buffered_4 ?_
  refine lv_iconst (v := 0) hx hb d_PS_buffered_7 (by decide) ?_
  refine ux_calli (va_runV ⟨hx, hb, hml, hown, hts⟩ (c_Vl_sizeOf l D shX KX ad cA M 8 9 10 1 V_buf 0) (cwV 1 hts (tb_goodV ml_PS_98 im_Vl_sizeOf se_Vl_sizeOf ii_Vl kt_Vl_sizeOf) rfl rfl rfl (by decide +kernel) ⟨Nat.le_of_ble_eq_true rfl, Nat.le_of_ble_eq_true rfl⟩) (ux_preV (by decide) rfl rfl hP hK hi hN) rfl rfl hl.1 rfl (lv_room (Nat.le_of_ble_eq_true rfl)) d_PS_buffered_8 ⟨Nat.zero_le _, Nat.zero_le _⟩) hS (fun r1 M2 H locs q3 hP hS => ?_)
  obtain ⟨q3m, q3e⟩ := q3
  rw [q3m] at hP
  subst q3e
  exact W.iret (v := vz M 10 1 0) hx hb hr (fun t ht hW => ⟨⟨vz M 10 1 0, M, rfl, ⟨rfl, rfl⟩, by unfold ux_E; rw [ht]; exact hP⟩, hS.F ht⟩) hS.2.2 d_PS_buffered_11

set_option maxHeartbeats 4000000 in
set_option maxRecDepth 100000 in
theorem c_PS_at (l : Launch) (D : va_G) (ad : Nat → Nat) (cA : Nat → ClassId) (M : ux_M) (k : Int32) : Met l y_PS_at w_PS_at ({ frames := 1, cells := 0, slots := 0, locals := 22 }) (va_Pc [.ref (ad 0), .int k] (ux_B D shX KX ad cA M)) (va_Qi (fun r M1 => M1 = M ∧ r = vt M 48 49 1 0 k) (ux_E D shX KX ad cA) (ux_A KX ad)) 0 0 (ux_A KX ad) := by
  refine Met.ofW (cc := b_PS_at) (maxL := 2) (ret := (some .int)) (by decide) rfl ?_
  intro p e s m args below meth c s₁ B hml hv
  obtain ⟨rfl, hP, hK, hi, hN⟩ := hv
  have hx := B.exec
  have hb := B.bytes
  have hr := B.returns
  have hts := atoms_spec (ws := w_PS_at) B.pre
  have hown : s.vm.findClass R_PS = some m.cls := findClass_of_methodNamed B.named
  have hlocks := B.notSynchronized
  have hT : ∀ w ∈ tb, w.before _ s = true := fun w h => hts w (List.mem_cons_of_mem _ h)
  have hS : va_S (ux_A KX ad) s.heap s.heap [] := va_S.rf
  have hl := lv_entry ([.ref (ad 0), .int k]) (n := 2) (Nat.le_of_ble_eq_true rfl)
  rw [lg_entry_eq]
  generalize (lg_sl ([.ref (ad 0), .int k]) ++ List.replicate (2 - (lg_sl ([.ref (ad 0), .int k])).length) Slot.unset).toArray = ls at hl ⊢
  have hl : lv_has ls 2 [(0, .ref (ad 0)), (1, .int k)] := hl
  refine lv_aload_n hx hb d_PS_at_0 rfl (lv_at hl 0 rfl) ?_
  refine ux_get (C := R_PS) (T := F_PS) (N := 3) hx hb hT in_PS hown hK hP (by decide) rfl rfl 2 (by decide) (hT _ fl_PS_28) rfl d_PS_at_1 ?_
  refine ux_getN (C := R_Rn) (T := F_Rn) (N := 9) hx hb hT in_Rn hown hK hP (by decide) rfl rfl 6 (by decide) (hN _ nf_PS_94) rfl d_PS_at_4 ?_
  refine lv_iconst (v := 0) hx hb d_PS_at_7 (by decide) ?_
  refine lv_iload_n hx hb d_PS_at_8 rfl (lv_at hl 1 rfl) ?_
  refine ux_calli (va_runV ⟨hx, hb, hml, hown, hts⟩ (c_Vl_letterOf l D shX KX ad cA M 47 48 49 1 V_res 0 k) (cwV 2 hts (tb_goodV ml_PS_103 im_Vl_letterOf se_Vl_letterOf ii_Vl kt_Vl_letterOf) rfl rfl rfl (by decide +kernel) ⟨Nat.le_of_ble_eq_true rfl, Nat.le_of_ble_eq_true rfl⟩) (ux_preV (by decide) rfl rfl hP hK hi hN) rfl rfl hl.1 rfl (lv_room (Nat.le_of_ble_eq_true rfl)) d_PS_at_9 ⟨Nat.zero_le _, Nat.zero_le _⟩) hS (fun r1 M2 H locs q3 hP hS => ?_)
  obtain ⟨q3m, q3e⟩ := q3
  rw [q3m] at hP
  subst q3e
  exact W.iret (v := vt M 48 49 1 0 k) hx hb hr (fun t ht hW => ⟨⟨vt M 48 49 1 0 k, M, rfl, ⟨rfl, rfl⟩, by unfold ux_E; rw [ht]; exact hP⟩, hS.F ht⟩) hS.2.2 d_PS_at_12

set_option maxHeartbeats 4000000 in
set_option maxRecDepth 100000 in
theorem c_PS_isPrintable (l : Launch) (D : va_G) (ad : Nat → Nat) (cA : Nat → ClassId) (M : ux_M) (ch : Int32) : Met l y_PS_isPrintable w_PS_isPrintable ({ frames := 0, cells := 0, slots := 0, locals := 0 }) (va_Pc [.int ch] (ux_B D shX KX ad cA M)) (va_Qi (fun r M1 => M1 = M ∧ r = pr ch) (ux_E D shX KX ad cA) (ux_A KX ad)) 0 0 (ux_A KX ad) := by
  refine Met.ofW (cc := b_PS_isPrintable) (maxL := 1) (ret := (some .boolean)) (by decide) rfl ?_
  intro p e s m args below meth c s₁ B hml hv
  obtain ⟨rfl, hP, hK, hi, hN⟩ := hv
  have hx := B.exec
  have hb := B.bytes
  have hr := B.returns
  have hts := atoms_spec (ws := w_PS_isPrintable) B.pre
  have hown : s.vm.findClass R_PS = some m.cls := findClass_of_methodNamed B.named
  have hlocks := B.notSynchronized
  have hT : ∀ w ∈ tb, w.before _ s = true := fun w h => hts w (List.mem_cons_of_mem _ h)
  have hS : va_S (ux_A KX ad) s.heap s.heap [] := va_S.rf
  have hl := lv_entry ([.int ch]) (n := 1) (Nat.le_of_ble_eq_true rfl)
  rw [lg_entry_eq]
  generalize (lg_sl ([.int ch]) ++ List.replicate (1 - (lg_sl ([.int ch])).length) Slot.unset).toArray = ls at hl ⊢
  have hl : lv_has ls 1 [(0, .int ch)] := hl
  refine lv_iload_n hx hb d_PS_isPrintable_0 rfl (lv_at hl 0 rfl) ?_
  refine lv_bipush (v := 32) hx hb d_PS_isPrintable_1 (by decide) ?_
  refine lv_icmp_lt hx hb d_PS_isPrintable_3 rfl (fun h1 => ?_) (fun h1 => ?_)
  · refine lv_iconst (v := 0) hx hb d_PS_isPrintable_16 (by decide) ?_
    exact W.zret (v := 0) hx hb hr (rfl) (fun t ht hW => ⟨⟨0, M, rfl, ⟨rfl, by rw [pr, if_pos h1]⟩, by unfold ux_E; rw [ht]; exact hP⟩, hS.F ht⟩) hS.2.2 d_PS_isPrintable_17
  · refine lv_iload_n hx hb d_PS_isPrintable_6 rfl (lv_at hl 0 rfl) ?_
    refine lv_bipush (v := 126) hx hb d_PS_isPrintable_7 (by decide) ?_
    refine lv_icmp_gt hx hb d_PS_isPrintable_9 rfl (fun h2 => ?_) (fun h2 => ?_)
    · refine lv_iconst (v := 0) hx hb d_PS_isPrintable_16 (by decide) ?_
      exact W.zret (v := 0) hx hb hr (rfl) (fun t ht hW => ⟨⟨0, M, rfl, ⟨rfl, by rw [pr, if_neg h1, if_pos h2]⟩, by unfold ux_E; rw [ht]; exact hP⟩, hS.F ht⟩) hS.2.2 d_PS_isPrintable_17
    · refine lv_iconst (v := 1) hx hb d_PS_isPrintable_12 (by decide) ?_
      refine lv_goto hx hb d_PS_isPrintable_13 rfl ?_
      exact W.zret (v := 1) hx hb hr (rfl) (fun t ht hW => ⟨⟨1, M, rfl, ⟨rfl, by rw [pr, if_neg h1, if_neg h2]⟩, by unfold ux_E; rw [ht]; exact hP⟩, hS.F ht⟩) hS.2.2 d_PS_isPrintable_17

set_option maxHeartbeats 4000000 in
set_option maxRecDepth 100000 in
theorem c_PS_isState (l : Launch) (D : va_G) (ad : Nat → Nat) (cA : Nat → ClassId) (M : ux_M) (ch : Int32) : Met l y_PS_isState w_PS_isState ({ frames := 0, cells := 0, slots := 0, locals := 0 }) (va_Pc [.int ch] (ux_B D shX KX ad cA M)) (va_Qi (fun r M1 => M1 = M ∧ r = pst ch) (ux_E D shX KX ad cA) (ux_A KX ad)) 0 0 (ux_A KX ad) := by
  refine Met.ofW (cc := b_PS_isState) (maxL := 1) (ret := (some .boolean)) (by decide) rfl ?_
  intro p e s m args below meth c s₁ B hml hv
  obtain ⟨rfl, hP, hK, hi, hN⟩ := hv
  have hx := B.exec
  have hb := B.bytes
  have hr := B.returns
  have hts := atoms_spec (ws := w_PS_isState) B.pre
  have hown : s.vm.findClass R_PS = some m.cls := findClass_of_methodNamed B.named
  have hlocks := B.notSynchronized
  have hT : ∀ w ∈ tb, w.before _ s = true := fun w h => hts w (List.mem_cons_of_mem _ h)
  have hS : va_S (ux_A KX ad) s.heap s.heap [] := va_S.rf
  have hl := lv_entry ([.int ch]) (n := 1) (Nat.le_of_ble_eq_true rfl)
  rw [lg_entry_eq]
  generalize (lg_sl ([.int ch]) ++ List.replicate (1 - (lg_sl ([.int ch])).length) Slot.unset).toArray = ls at hl ⊢
  have hl : lv_has ls 1 [(0, .int ch)] := hl
  refine lv_iload_n hx hb d_PS_isState_0 rfl (lv_at hl 0 rfl) ?_
  refine lv_if_lt hx hb d_PS_isState_1 rfl (fun h1 => ?_) (fun h1 => ?_)
  · refine lv_iconst (v := 0) hx hb d_PS_isState_14 (by decide) ?_
    exact W.zret (v := 0) hx hb hr (rfl) (fun t ht hW => ⟨⟨0, M, rfl, ⟨rfl, by rw [pst, if_pos h1]⟩, by unfold ux_E; rw [ht]; exact hP⟩, hS.F ht⟩) hS.2.2 d_PS_isState_15
  · refine lv_iload_n hx hb d_PS_isState_4 rfl (lv_at hl 0 rfl) ?_
    refine lv_bipush (v := 8) hx hb d_PS_isState_5 (by decide) ?_
    refine lv_icmp_ge hx hb d_PS_isState_7 rfl (fun h2 => ?_) (fun h2 => ?_)
    · refine lv_iconst (v := 0) hx hb d_PS_isState_14 (by decide) ?_
      exact W.zret (v := 0) hx hb hr (rfl) (fun t ht hW => ⟨⟨0, M, rfl, ⟨rfl, by rw [pst, if_neg h1, if_pos h2]⟩, by unfold ux_E; rw [ht]; exact hP⟩, hS.F ht⟩) hS.2.2 d_PS_isState_15
    · refine lv_iconst (v := 1) hx hb d_PS_isState_10 (by decide) ?_
      refine lv_goto hx hb d_PS_isState_11 rfl ?_
      exact W.zret (v := 1) hx hb hr (rfl) (fun t ht hW => ⟨⟨1, M, rfl, ⟨rfl, by rw [pst, if_neg h1, if_neg h2]⟩, by unfold ux_E; rw [ht]; exact hP⟩, hS.F ht⟩) hS.2.2 d_PS_isState_15

set_option maxHeartbeats 4000000 in
set_option maxRecDepth 100000 in
theorem c_PS_isPrintableOrZero (l : Launch) (D : va_G) (ad : Nat → Nat) (cA : Nat → ClassId) (M : ux_M) (ch : Int32) : Met l y_PS_isPrintableOrZero w_PS_isPrintableOrZero ({ frames := 1, cells := 0, slots := 0, locals := 20 }) (va_Pc [.int ch] (ux_B D shX KX ad cA M)) (va_Qi (fun r M1 => M1 = M ∧ r = pz ch) (ux_E D shX KX ad cA) (ux_A KX ad)) 0 0 (ux_A KX ad) := by
  refine Met.ofW (cc := b_PS_isPrintableOrZero) (maxL := 1) (ret := (some .boolean)) (by decide) rfl ?_
  intro p e s m args below meth c s₁ B hml hv
  obtain ⟨rfl, hP, hK, hi, hN⟩ := hv
  have hx := B.exec
  have hb := B.bytes
  have hr := B.returns
  have hts := atoms_spec (ws := w_PS_isPrintableOrZero) B.pre
  have hown : s.vm.findClass R_PS = some m.cls := findClass_of_methodNamed B.named
  have hlocks := B.notSynchronized
  have hT : ∀ w ∈ tb, w.before _ s = true := fun w h => hts w (List.mem_cons_of_mem _ h)
  have hS : va_S (ux_A KX ad) s.heap s.heap [] := va_S.rf
  have hl := lv_entry ([.int ch]) (n := 1) (Nat.le_of_ble_eq_true rfl)
  rw [lg_entry_eq]
  generalize (lg_sl ([.int ch]) ++ List.replicate (1 - (lg_sl ([.int ch])).length) Slot.unset).toArray = ls at hl ⊢
  have hl : lv_has ls 1 [(0, .int ch)] := hl
  refine lv_iload_n hx hb d_PS_isPrintableOrZero_0 rfl (lv_at hl 0 rfl) ?_
  refine lv_if_eq hx hb d_PS_isPrintableOrZero_1 rfl (fun h1 => ?_) (fun h1 => ?_)
  · refine lv_iconst (v := 1) hx hb d_PS_isPrintableOrZero_11 (by decide) ?_
    refine lv_goto hx hb d_PS_isPrintableOrZero_12 rfl ?_
    exact W.zret (v := 1) hx hb hr (rfl) (fun t ht hW => ⟨⟨1, M, rfl, ⟨rfl, by rw [pz, if_pos h1]⟩, by unfold ux_E; rw [ht]; exact hP⟩, hS.F ht⟩) hS.2.2 d_PS_isPrintableOrZero_16
  · refine lv_iload_n hx hb d_PS_isPrintableOrZero_4 rfl (lv_at hl 0 rfl) ?_
    refine ux_calli (va_runS ⟨hx, hb, hml, hown, hts⟩ (c_PS_isPrintable l D ad cA M ch) (va_cwS 1 hts (tb_goodST ml_PS_32 sm_PS_isPrintable ii_PS kt_PS_isPrintable) rfl rfl rfl (by decide +kernel) ⟨Nat.le_of_ble_eq_true rfl, Nat.le_of_ble_eq_true rfl⟩) (ux_pre hP hK hi hN) rfl rfl hl.1 rfl (lv_room (Nat.le_of_ble_eq_true rfl)) d_PS_isPrintableOrZero_5 ⟨Nat.zero_le _, Nat.zero_le _⟩) hS (fun r2 M3 H locs q4 hP hS => ?_)
    obtain ⟨q4m, q4e⟩ := q4
    rw [q4m] at hP
    subst q4e
    refine lv_if_eq hx hb d_PS_isPrintableOrZero_8 rfl (fun h5 => ?_) (fun h5 => ?_)
    · refine lv_iconst (v := 0) hx hb d_PS_isPrintableOrZero_15 (by decide) ?_
      exact W.zret (v := 0) hx hb hr (rfl) (fun t ht hW => ⟨⟨0, M, rfl, ⟨rfl, by rw [pz, if_neg h1, if_pos h5]⟩, by unfold ux_E; rw [ht]; exact hP⟩, hS.F ht⟩) hS.2.2 d_PS_isPrintableOrZero_16
    · refine lv_iconst (v := 1) hx hb d_PS_isPrintableOrZero_11 (by decide) ?_
      refine lv_goto hx hb d_PS_isPrintableOrZero_12 rfl ?_
      exact W.zret (v := 1) hx hb hr (rfl) (fun t ht hW => ⟨⟨1, M, rfl, ⟨rfl, by rw [pz, if_neg h1, if_neg h5]⟩, by unfold ux_E; rw [ht]; exact hP⟩, hS.F ht⟩) hS.2.2 d_PS_isPrintableOrZero_16

def vput (M : ux_M) (ch : Int32) : Int32 := if (¬ pr ch = 0 ∨ ch = 10) ∧ M 14 2 = 0 ∧ M 14 1 < 200 then 1 else 0
def mput (M : ux_M) (ch : Int32) : ux_M := if (¬ pr ch = 0 ∨ ch = 10) ∧ M 14 2 = 0 ∧ M 14 1 < 200 then ux_wr (ux_wr M 1 (M 14 1).toNatClampNeg (vp_nar .char ch)) 14 1 (M 14 1 + 1) else M
theorem nx_put {x : Int32} (h0 : 0 ≤ x.toInt) (h : x < 200) : vp_in x 200 := by
  rw [vp_in_iff]
  rw [Int32.lt_iff_toInt_lt] at h
  have h2 : (200 : Int32).toInt = 200 := rfl
  rw [h2] at h
  omega

set_option maxHeartbeats 4000000 in
set_option maxRecDepth 100000 in
theorem c_PS_put (l : Launch) (D : va_G) (ad : Nat → Nat) (cA : Nat → ClassId) (M : ux_M) (ch : Int32) (hc : 0 ≤ (M 14 1).toInt) : Met l y_PS_put w_PS_put ({ frames := 1, cells := 0, slots := 0, locals := 20 }) (va_Pc [.ref (ad 0), .int ch] (ux_B D shX KX ad cA M)) (va_Qi (fun r M1 => M1 = mput M ch ∧ r = vput M ch) (ux_E D shX KX ad cA) (ux_A KX ad)) 0 0 (ux_A KX ad) := by
  refine Met.ofW (cc := b_PS_put) (maxL := 3) (ret := (some .boolean)) (by decide) rfl ?_
  intro p e s m args below meth c s₁ B hml hv
  obtain ⟨rfl, hP, hK, hi, hN⟩ := hv
  have hx := B.exec
  have hb := B.bytes
  have hr := B.returns
  have hts := atoms_spec (ws := w_PS_put) B.pre
  have hown : s.vm.findClass R_PS = some m.cls := findClass_of_methodNamed B.named
  have hlocks := B.notSynchronized
  have hT : ∀ w ∈ tb, w.before _ s = true := fun w h => hts w (List.mem_cons_of_mem _ h)
  have hS : va_S (ux_A KX ad) s.heap s.heap [] := va_S.rf
  have hl := lv_entry ([.ref (ad 0), .int ch]) (n := 3) (Nat.le_of_ble_eq_true rfl)
  rw [lg_entry_eq]
  generalize (lg_sl ([.ref (ad 0), .int ch]) ++ List.replicate (3 - (lg_sl ([.ref (ad 0), .int ch])).length) Slot.unset).toArray = ls at hl ⊢
  have hl : lv_has ls 3 [(0, .ref (ad 0)), (1, .int ch)] := hl
  refine lv_iload_n hx hb d_PS_put_0 rfl (lv_at hl 1 rfl) ?_
  refine ux_calli (va_runS ⟨hx, hb, hml, hown, hts⟩ (c_PS_isPrintable l D ad cA M ch) (va_cwS 1 hts (tb_goodST ml_PS_32 sm_PS_isPrintable ii_PS kt_PS_isPrintable) rfl rfl rfl (by decide +kernel) ⟨Nat.le_of_ble_eq_true rfl, Nat.le_of_ble_eq_true rfl⟩) (ux_pre hP hK hi hN) rfl rfl hl.1 rfl (lv_room (Nat.le_of_ble_eq_true rfl)) d_PS_put_1 ⟨Nat.zero_le _, Nat.zero_le _⟩) hS (fun r1 M2 H locs q3 hP hS => ?_)
  obtain ⟨q3m, q3e⟩ := q3
  rw [q3m] at hP
  subst q3e
  refine lv_if_ne hx hb d_PS_put_4 rfl (fun h4 => ?_) (fun h4 => ?_)
  · refine lv_iconst (v := 1) hx hb d_PS_put_13 (by decide) ?_
    refine lv_goto hx hb d_PS_put_14 rfl ?_
    refine lv_istore_n hx hb d_PS_put_18 rfl hl (by decide) rfl (fun ls hl => ?_)
    have hl : lv_has ls 3 [(2, .int 1), (0, .ref (ad 0)), (1, .int ch)] := hl
    refine lv_iload_n hx hb d_PS_put_19 rfl (lv_at hl 0 rfl) ?_
    refine lv_if_eq hx hb d_PS_put_20 rfl (fun hz => absurd hz (by decide)) (fun _ => ?_)
    refine lv_aload_n hx hb d_PS_put_23 rfl (lv_at hl 1 rfl) ?_
    refine ux_get (C := R_PS) (T := F_PS) (N := 3) hx hb hT in_PS hown hK hP (by decide) rfl rfl 0 (by decide) (hT _ fl_PS_10) rfl d_PS_put_24 ?_
    refine ux_getN (C := R_Tx) (T := F_Tx) (N := 3) hx hb hT in_Tx hown hK hP (by decide) rfl rfl 2 (by decide) (hN _ nf_PS_36) rfl d_PS_put_27 ?_
    refine lv_if_ne hx hb d_PS_put_30 rfl (fun h5 => ?_) (fun h5 => ?_)
    · refine lv_iconst (v := 0) hx hb d_PS_put_46 (by decide) ?_
      exact W.zret (v := 0) hx hb hr (rfl) (fun t ht hW => ⟨⟨0, M, rfl, ⟨by simp [mput, h4, h5], by simp [vput, h4, h5]⟩, by unfold ux_E; rw [ht]; exact hP⟩, hS.F ht⟩) hS.2.2 d_PS_put_47
    · refine lv_aload_n hx hb d_PS_put_33 rfl (lv_at hl 1 rfl) ?_
      refine ux_get (C := R_PS) (T := F_PS) (N := 3) hx hb hT in_PS hown hK hP (by decide) rfl rfl 0 (by decide) (hT _ fl_PS_10) rfl d_PS_put_34 ?_
      refine ux_getN (C := R_Tx) (T := F_Tx) (N := 3) hx hb hT in_Tx hown hK hP (by decide) rfl rfl 1 (by decide) (hN _ nf_PS_40) rfl d_PS_put_37 ?_
      refine lv_sipush (v := 200) hx hb d_PS_put_40 (by decide) ?_
      refine lv_icmp_lt hx hb d_PS_put_43 rfl (fun h6 => ?_) (fun h6 => ?_)
      · refine lv_aload_n hx hb d_PS_put_48 rfl (lv_at hl 1 rfl) ?_
        refine ux_get (C := R_PS) (T := F_PS) (N := 3) hx hb hT in_PS hown hK hP (by decide) rfl rfl 0 (by decide) (hT _ fl_PS_10) rfl d_PS_put_49 ?_
        refine ux_getN (C := R_Tx) (T := F_Tx) (N := 3) hx hb hT in_Tx hown hK hP (by decide) rfl rfl 0 (by decide) (hN _ nf_PS_44) rfl d_PS_put_52 ?_
        refine lv_aload_n hx hb d_PS_put_55 rfl (lv_at hl 1 rfl) ?_
        refine ux_get (C := R_PS) (T := F_PS) (N := 3) hx hb hT in_PS hown hK hP (by decide) rfl rfl 0 (by decide) (hT _ fl_PS_10) rfl d_PS_put_56 ?_
        refine ux_getN (C := R_Tx) (T := F_Tx) (N := 3) hx hb hT in_Tx hown hK hP (by decide) rfl rfl 1 (by decide) (hN _ nf_PS_40) rfl d_PS_put_59 ?_
        refine lv_iload_n hx hb d_PS_put_62 rfl (lv_at hl 2 rfl) ?_
        refine ux_cast hx hb hK hi hP hS (by decide) rfl (nx_put hc h6) d_PS_put_63 (fun H locs hP hS => ?_)
        refine lv_aload_n hx hb d_PS_put_64 rfl (lv_at hl 1 rfl) ?_
        refine ux_get (C := R_PS) (T := F_PS) (N := 3) hx hb hT in_PS hown hK hP (by decide) rfl rfl 0 (by decide) (hT _ fl_PS_10) rfl d_PS_put_65 ?_
        refine lv_dup hx hb d_PS_put_68 rfl ?_
        refine ux_getN (C := R_Tx) (T := F_Tx) (N := 3) hx hb hT in_Tx hown hK hP (by decide) rfl rfl 1 (by decide) (hN _ nf_PS_40) rfl d_PS_put_69 ?_
        refine lv_topi (fun z7 hz7 => ?_)
        rw [show ((ux_wr M 1 (M 14 1).toNatClampNeg (vp_nar .char ch))) 14 1 = M 14 1 from by simp [ux_wr_off, ux_wr_at]] at hz7
        subst hz7
        refine lv_iconst (v := 1) hx hb d_PS_put_72 (by decide) ?_
        refine lv_iadd hx hb d_PS_put_73 ?_
        refine ux_putN (C := R_Tx) (T := F_Tx) (N := 3) hx hb hT in_Tx t_Tx t_Tx_ok n_Tx hown hK hi hP hS (by decide) rfl rfl 1 (by decide) (hN _ nf_PS_40) rfl (rfl) (rfl) rfl d_PS_put_74 (fun H locs hP hS => ?_)
        refine lv_iconst (v := 1) hx hb d_PS_put_77 (by decide) ?_
        exact W.zret (v := 1) hx hb hr (rfl) (fun t ht hW => ⟨⟨1, (ux_wr (ux_wr M 1 (M 14 1).toNatClampNeg (vp_nar .char ch)) 14 1 ((M 14 1) + 1)), rfl, ⟨by simp [mput, h4, h5, h6], by simp [vput, h4, h5, h6]⟩, by unfold ux_E; rw [ht]; exact hP⟩, hS.F ht⟩) hS.2.2 d_PS_put_78
      · refine lv_iconst (v := 0) hx hb d_PS_put_46 (by decide) ?_
        exact W.zret (v := 0) hx hb hr (rfl) (fun t ht hW => ⟨⟨0, M, rfl, ⟨by simp [mput, h4, h5, h6], by simp [vput, h4, h5, h6]⟩, by unfold ux_E; rw [ht]; exact hP⟩, hS.F ht⟩) hS.2.2 d_PS_put_47
  · refine lv_iload_n hx hb d_PS_put_7 rfl (lv_at hl 1 rfl) ?_
    refine lv_bipush (v := 10) hx hb d_PS_put_8 (by decide) ?_
    refine lv_icmp_ne hx hb d_PS_put_10 rfl (fun h8 => ?_) (fun h8 => ?_)
    · refine lv_iconst (v := 0) hx hb d_PS_put_17 (by decide) ?_
      refine lv_istore_n hx hb d_PS_put_18 rfl hl (by decide) rfl (fun ls hl => ?_)
      have hl : lv_has ls 3 [(2, .int 0), (0, .ref (ad 0)), (1, .int ch)] := hl
      refine lv_iload_n hx hb d_PS_put_19 rfl (lv_at hl 0 rfl) ?_
      refine lv_if_eq hx hb d_PS_put_20 rfl (fun _ => ?_) (fun hz => absurd (by decide) hz)
      refine lv_iconst (v := 0) hx hb d_PS_put_46 (by decide) ?_
      exact W.zret (v := 0) hx hb hr (rfl) (fun t ht hW => ⟨⟨0, M, rfl, ⟨by simp [mput, h4, h8], by simp [vput, h4, h8]⟩, by unfold ux_E; rw [ht]; exact hP⟩, hS.F ht⟩) hS.2.2 d_PS_put_47
    · refine lv_iconst (v := 1) hx hb d_PS_put_13 (by decide) ?_
      refine lv_goto hx hb d_PS_put_14 rfl ?_
      refine lv_istore_n hx hb d_PS_put_18 rfl hl (by decide) rfl (fun ls hl => ?_)
      have hl : lv_has ls 3 [(2, .int 1), (0, .ref (ad 0)), (1, .int ch)] := hl
      refine lv_iload_n hx hb d_PS_put_19 rfl (lv_at hl 0 rfl) ?_
      refine lv_if_eq hx hb d_PS_put_20 rfl (fun hz => absurd hz (by decide)) (fun _ => ?_)
      refine lv_aload_n hx hb d_PS_put_23 rfl (lv_at hl 1 rfl) ?_
      refine ux_get (C := R_PS) (T := F_PS) (N := 3) hx hb hT in_PS hown hK hP (by decide) rfl rfl 0 (by decide) (hT _ fl_PS_10) rfl d_PS_put_24 ?_
      refine ux_getN (C := R_Tx) (T := F_Tx) (N := 3) hx hb hT in_Tx hown hK hP (by decide) rfl rfl 2 (by decide) (hN _ nf_PS_36) rfl d_PS_put_27 ?_
      refine lv_if_ne hx hb d_PS_put_30 rfl (fun h9 => ?_) (fun h9 => ?_)
      · refine lv_iconst (v := 0) hx hb d_PS_put_46 (by decide) ?_
        exact W.zret (v := 0) hx hb hr (rfl) (fun t ht hW => ⟨⟨0, M, rfl, ⟨by simp [mput, h4, h8, h9], by simp [vput, h4, h8, h9]⟩, by unfold ux_E; rw [ht]; exact hP⟩, hS.F ht⟩) hS.2.2 d_PS_put_47
      · refine lv_aload_n hx hb d_PS_put_33 rfl (lv_at hl 1 rfl) ?_
        refine ux_get (C := R_PS) (T := F_PS) (N := 3) hx hb hT in_PS hown hK hP (by decide) rfl rfl 0 (by decide) (hT _ fl_PS_10) rfl d_PS_put_34 ?_
        refine ux_getN (C := R_Tx) (T := F_Tx) (N := 3) hx hb hT in_Tx hown hK hP (by decide) rfl rfl 1 (by decide) (hN _ nf_PS_40) rfl d_PS_put_37 ?_
        refine lv_sipush (v := 200) hx hb d_PS_put_40 (by decide) ?_
        refine lv_icmp_lt hx hb d_PS_put_43 rfl (fun h10 => ?_) (fun h10 => ?_)
        · refine lv_aload_n hx hb d_PS_put_48 rfl (lv_at hl 1 rfl) ?_
          refine ux_get (C := R_PS) (T := F_PS) (N := 3) hx hb hT in_PS hown hK hP (by decide) rfl rfl 0 (by decide) (hT _ fl_PS_10) rfl d_PS_put_49 ?_
          refine ux_getN (C := R_Tx) (T := F_Tx) (N := 3) hx hb hT in_Tx hown hK hP (by decide) rfl rfl 0 (by decide) (hN _ nf_PS_44) rfl d_PS_put_52 ?_
          refine lv_aload_n hx hb d_PS_put_55 rfl (lv_at hl 1 rfl) ?_
          refine ux_get (C := R_PS) (T := F_PS) (N := 3) hx hb hT in_PS hown hK hP (by decide) rfl rfl 0 (by decide) (hT _ fl_PS_10) rfl d_PS_put_56 ?_
          refine ux_getN (C := R_Tx) (T := F_Tx) (N := 3) hx hb hT in_Tx hown hK hP (by decide) rfl rfl 1 (by decide) (hN _ nf_PS_40) rfl d_PS_put_59 ?_
          refine lv_iload_n hx hb d_PS_put_62 rfl (lv_at hl 2 rfl) ?_
          refine ux_cast hx hb hK hi hP hS (by decide) rfl (nx_put hc h10) d_PS_put_63 (fun H locs hP hS => ?_)
          refine lv_aload_n hx hb d_PS_put_64 rfl (lv_at hl 1 rfl) ?_
          refine ux_get (C := R_PS) (T := F_PS) (N := 3) hx hb hT in_PS hown hK hP (by decide) rfl rfl 0 (by decide) (hT _ fl_PS_10) rfl d_PS_put_65 ?_
          refine lv_dup hx hb d_PS_put_68 rfl ?_
          refine ux_getN (C := R_Tx) (T := F_Tx) (N := 3) hx hb hT in_Tx hown hK hP (by decide) rfl rfl 1 (by decide) (hN _ nf_PS_40) rfl d_PS_put_69 ?_
          refine lv_topi (fun z11 hz11 => ?_)
          rw [show ((ux_wr M 1 (M 14 1).toNatClampNeg (vp_nar .char ch))) 14 1 = M 14 1 from by simp [ux_wr_off, ux_wr_at]] at hz11
          subst hz11
          refine lv_iconst (v := 1) hx hb d_PS_put_72 (by decide) ?_
          refine lv_iadd hx hb d_PS_put_73 ?_
          refine ux_putN (C := R_Tx) (T := F_Tx) (N := 3) hx hb hT in_Tx t_Tx t_Tx_ok n_Tx hown hK hi hP hS (by decide) rfl rfl 1 (by decide) (hN _ nf_PS_40) rfl (rfl) (rfl) rfl d_PS_put_74 (fun H locs hP hS => ?_)
          refine lv_iconst (v := 1) hx hb d_PS_put_77 (by decide) ?_
          exact W.zret (v := 1) hx hb hr (rfl) (fun t ht hW => ⟨⟨1, (ux_wr (ux_wr M 1 (M 14 1).toNatClampNeg (vp_nar .char ch)) 14 1 ((M 14 1) + 1)), rfl, ⟨by simp [mput, h4, h8, h9, h10], by simp [vput, h4, h8, h9, h10]⟩, by unfold ux_E; rw [ht]; exact hP⟩, hS.F ht⟩) hS.2.2 d_PS_put_78
        · refine lv_iconst (v := 0) hx hb d_PS_put_46 (by decide) ?_
          exact W.zret (v := 0) hx hb hr (rfl) (fun t ht hW => ⟨⟨0, M, rfl, ⟨by simp [mput, h4, h8, h9, h10], by simp [vput, h4, h8, h9, h10]⟩, by unfold ux_E; rw [ht]; exact hP⟩, hS.F ht⟩) hS.2.2 d_PS_put_47

def vha (M : ux_M) (p : Int32) : Int32 := if p < 0 then 0 else if 26 ≤ p then 0 else if M 45 p.toNatClampNeg = -1 then 0 else 1
theorem nx_26 {x : Int32} (h1 : ¬ x < 0) (h2 : ¬ 26 ≤ x) : vp_in x 26 := nx_vin (by decide) h1 h2
theorem nx_r40 {x : Int32} (h : 0 ≤ x.toInt) : vp_in (x - x / 40 * 40) 40 := by
  obtain ⟨j, hj, rfl⟩ := nI_of (x := x) (by rw [Int32.lt_iff_toInt_lt]; have h0 : (0 : Int32).toInt = 0 := rfl; rw [h0]; omega)
  rw [show (40 : Int32) = nI 40 from rfl, pk_rem hj (by decide) (by decide)]
  exact vp_in_nI (Nat.mod_lt _ (by decide)) (by decide)

set_option maxHeartbeats 4000000 in
set_option maxRecDepth 100000 in
theorem c_Pd_has (l : Launch) (D : va_G) (ad : Nat → Nat) (cA : Nat → ClassId) (M : ux_M) (k : Int32) : Met l y_Pd_has w_Pd_has ({ frames := 0, cells := 0, slots := 0, locals := 0 }) (va_Pc [.ref (ad 42), .int k] (ux_B D shX KX ad cA M)) (va_Qi (fun r M1 => M1 = M ∧ r = vha M k) (ux_E D shX KX ad cA) (ux_A KX ad)) 0 0 (ux_A KX ad) := by
  refine Met.ofW (cc := b_Pd_has) (maxL := 2) (ret := (some .boolean)) (by decide) rfl ?_
  intro p e s m args below meth c s₁ B hml hv
  obtain ⟨rfl, hP, hK, hi, hN⟩ := hv
  have hx := B.exec
  have hb := B.bytes
  have hr := B.returns
  have hts := atoms_spec (ws := w_Pd_has) B.pre
  have hown : s.vm.findClass R_Pd = some m.cls := findClass_of_methodNamed B.named
  have hlocks := B.notSynchronized
  have hT : ∀ w ∈ tb, w.before _ s = true := fun w h => hts w (List.mem_cons_of_mem _ h)
  have hS : va_S (ux_A KX ad) s.heap s.heap [] := va_S.rf
  have hl := lv_entry ([.ref (ad 42), .int k]) (n := 2) (Nat.le_of_ble_eq_true rfl)
  rw [lg_entry_eq]
  generalize (lg_sl ([.ref (ad 42), .int k]) ++ List.replicate (2 - (lg_sl ([.ref (ad 42), .int k])).length) Slot.unset).toArray = ls at hl ⊢
  have hl : lv_has ls 2 [(0, .ref (ad 42)), (1, .int k)] := hl
  refine lv_iload_n hx hb d_Pd_has_0 rfl (lv_at hl 1 rfl) ?_
  refine lv_if_lt hx hb d_Pd_has_1 rfl (fun h1 => ?_) (fun h1 => ?_)
  · refine lv_iconst (v := 0) hx hb d_Pd_has_24 (by decide) ?_
    exact W.zret (v := 0) hx hb hr (rfl) (fun t ht hW => ⟨⟨0, M, rfl, ⟨rfl, by rw [vha, if_pos h1]⟩, by unfold ux_E; rw [ht]; exact hP⟩, hS.F ht⟩) hS.2.2 d_Pd_has_25
  · refine lv_iload_n hx hb d_Pd_has_4 rfl (lv_at hl 1 rfl) ?_
    refine lv_bipush (v := 26) hx hb d_Pd_has_5 (by decide) ?_
    refine lv_icmp_ge hx hb d_Pd_has_7 rfl (fun h2 => ?_) (fun h2 => ?_)
    · refine lv_iconst (v := 0) hx hb d_Pd_has_24 (by decide) ?_
      exact W.zret (v := 0) hx hb hr (rfl) (fun t ht hW => ⟨⟨0, M, rfl, ⟨rfl, by rw [vha, if_neg h1, if_pos h2]⟩, by unfold ux_E; rw [ht]; exact hP⟩, hS.F ht⟩) hS.2.2 d_Pd_has_25
    · refine lv_aload_n hx hb d_Pd_has_10 rfl (lv_at hl 0 rfl) ?_
      refine ux_get (C := R_Pd) (T := F_Pd) (N := 3) hx hb hT in_Pd hown hK hP (by decide) rfl rfl 0 (by decide) (hT _ fl_Pd_9) rfl d_Pd_has_11 ?_
      refine lv_iload_n hx hb d_Pd_has_14 rfl (lv_at hl 1 rfl) ?_
      refine ux_iald hx hb hK hP (by decide) rfl (nx_26 h1 h2) d_Pd_has_15 ?_
      refine lv_iconst (v := (-1)) hx hb d_Pd_has_16 (by decide) ?_
      refine lv_icmp_eq hx hb d_Pd_has_17 rfl (fun h3 => ?_) (fun h3 => ?_)
      · refine lv_iconst (v := 0) hx hb d_Pd_has_24 (by decide) ?_
        exact W.zret (v := 0) hx hb hr (rfl) (fun t ht hW => ⟨⟨0, M, rfl, ⟨rfl, by rw [vha, if_neg h1, if_neg h2, if_pos h3]⟩, by unfold ux_E; rw [ht]; exact hP⟩, hS.F ht⟩) hS.2.2 d_Pd_has_25
      · refine lv_iconst (v := 1) hx hb d_Pd_has_20 (by decide) ?_
        refine lv_goto hx hb d_Pd_has_21 rfl ?_
        exact W.zret (v := 1) hx hb hr (rfl) (fun t ht hW => ⟨⟨1, M, rfl, ⟨rfl, by rw [vha, if_neg h1, if_neg h2, if_neg h3]⟩, by unfold ux_E; rw [ht]; exact hP⟩, hS.F ht⟩) hS.2.2 d_Pd_has_25

theorem vha_n (M : ux_M) (k : Int32) : narrow .boolean (.int (vha M k)) = .int (vha M k) := by
  unfold vha
  repeat' split
  all_goals rfl

set_option maxHeartbeats 4000000 in
set_option maxRecDepth 100000 in
theorem c_PS_defined (l : Launch) (D : va_G) (ad : Nat → Nat) (cA : Nat → ClassId) (M : ux_M) (k : Int32) : Met l y_PS_defined w_PS_defined ({ frames := 1, cells := 0, slots := 0, locals := 21 }) (va_Pc [.ref (ad 0), .int k] (ux_B D shX KX ad cA M)) (va_Qi (fun r M1 => M1 = M ∧ r = vha M k) (ux_E D shX KX ad cA) (ux_A KX ad)) 0 0 (ux_A KX ad) := by
  refine Met.ofW (cc := b_PS_defined) (maxL := 2) (ret := (some .boolean)) (by decide) rfl ?_
  intro p e s m args below meth c s₁ B hml hv
  obtain ⟨rfl, hP, hK, hi, hN⟩ := hv
  have hx := B.exec
  have hb := B.bytes
  have hr := B.returns
  have hts := atoms_spec (ws := w_PS_defined) B.pre
  have hown : s.vm.findClass R_PS = some m.cls := findClass_of_methodNamed B.named
  have hlocks := B.notSynchronized
  have hT : ∀ w ∈ tb, w.before _ s = true := fun w h => hts w (List.mem_cons_of_mem _ h)
  have hS : va_S (ux_A KX ad) s.heap s.heap [] := va_S.rf
  have hl := lv_entry ([.ref (ad 0), .int k]) (n := 2) (Nat.le_of_ble_eq_true rfl)
  rw [lg_entry_eq]
  generalize (lg_sl ([.ref (ad 0), .int k]) ++ List.replicate (2 - (lg_sl ([.ref (ad 0), .int k])).length) Slot.unset).toArray = ls at hl ⊢
  have hl : lv_has ls 2 [(0, .ref (ad 0)), (1, .int k)] := hl
  refine lv_aload_n hx hb d_PS_defined_0 rfl (lv_at hl 0 rfl) ?_
  refine ux_get (C := R_PS) (T := F_PS) (N := 3) hx hb hT in_PS hown hK hP (by decide) rfl rfl 2 (by decide) (hT _ fl_PS_28) rfl d_PS_defined_1 ?_
  refine ux_getN (C := R_Rn) (T := F_Rn) (N := 9) hx hb hT in_Rn hown hK hP (by decide) rfl rfl 3 (by decide) (hN _ nf_PS_58) rfl d_PS_defined_4 ?_
  refine lv_iload_n hx hb d_PS_defined_7 rfl (lv_at hl 1 rfl) ?_
  refine ux_calli (va_runV ⟨hx, hb, hml, hown, hts⟩ (c_Pd_has l D ad cA M k) (cwV 1 hts (tb_goodV ml_PS_111 im_Pd_has se_Pd_has ii_Pd kt_Pd_has) rfl rfl rfl (by decide +kernel) ⟨Nat.le_of_ble_eq_true rfl, Nat.le_of_ble_eq_true rfl⟩) (ux_preV (by decide) rfl rfl hP hK hi hN) rfl rfl hl.1 rfl (lv_room (Nat.le_of_ble_eq_true rfl)) d_PS_defined_8 ⟨Nat.zero_le _, Nat.zero_le _⟩) hS (fun r1 M2 H locs q3 hP hS => ?_)
  obtain ⟨q3m, q3e⟩ := q3
  rw [q3m] at hP
  subst q3e
  exact W.zret (v := vha M k) hx hb hr (vha_n M k) (fun t ht hW => ⟨⟨vha M k, M, rfl, ⟨rfl, rfl⟩, by unfold ux_E; rw [ht]; exact hP⟩, hS.F ht⟩) hS.2.2 d_PS_defined_11

theorem nx_bl {x k : Int32} (hc : 0 ≤ x.toInt) (h1 : ¬ k < 0) (h2 : k < x) : 0 ≤ (x - 1 - k).toInt := by
  obtain ⟨a, ha, rfl⟩ := nI_of (x := x) (by rw [Int32.lt_iff_toInt_lt]; have h0 : (0 : Int32).toInt = 0 := rfl; rw [h0]; omega)
  obtain ⟨b, hb, rfl⟩ := nI_of h1
  rw [nI_ltI hb ha] at h2
  obtain ⟨d, rfl⟩ : ∃ d, a = d + 1 := ⟨a - 1, by omega⟩
  rw [nI_pred, pk_sub (by omega), nI_toInt (by omega)]
  omega

set_option maxHeartbeats 4000000 in
set_option maxRecDepth 100000 in
theorem c_Lg_beforeLatest_0 (l : Launch) (D : va_G) (ad : Nat → Nat) (cA : Nat → ClassId) (M : ux_M) (k : Int32) (hc : M 11 1 = 0) : Met l y_Lg_beforeLatest w_Lg_beforeLatest ({ frames := 0, cells := 0, slots := 0, locals := 0 }) (va_Pc [.ref (ad 11), .int k] (ux_B D shX KX ad cA M)) (va_Qi (fun r M1 => M1 = M ∧ r = 0) (ux_E D shX KX ad cA) (ux_A KX ad)) 0 0 (ux_A KX ad) := by
  refine Met.ofW (cc := b_Lg_beforeLatest) (maxL := 2) (ret := (some .int)) (by decide) rfl ?_
  intro p e s m args below meth c s₁ B hml hv
  obtain ⟨rfl, hP, hK, hi, hN⟩ := hv
  have hx := B.exec
  have hb := B.bytes
  have hr := B.returns
  have hts := atoms_spec (ws := w_Lg_beforeLatest) B.pre
  have hown : s.vm.findClass R_Lg = some m.cls := findClass_of_methodNamed B.named
  have hlocks := B.notSynchronized
  have hT : ∀ w ∈ tb, w.before _ s = true := fun w h => hts w (List.mem_cons_of_mem _ h)
  have hS : va_S (ux_A KX ad) s.heap s.heap [] := va_S.rf
  have hl := lv_entry ([.ref (ad 11), .int k]) (n := 2) (Nat.le_of_ble_eq_true rfl)
  rw [lg_entry_eq]
  generalize (lg_sl ([.ref (ad 11), .int k]) ++ List.replicate (2 - (lg_sl ([.ref (ad 11), .int k])).length) Slot.unset).toArray = ls at hl ⊢
  have hl : lv_has ls 2 [(0, .ref (ad 11)), (1, .int k)] := hl
  refine lv_iload_n hx hb d_Lg_beforeLatest_0 rfl (lv_at hl 1 rfl) ?_
  refine lv_if_lt hx hb d_Lg_beforeLatest_1 rfl (fun h1 => ?_) (fun h1 => ?_)
  · refine lv_iconst (v := 0) hx hb d_Lg_beforeLatest_18 (by decide) ?_
    exact W.iret (v := 0) hx hb hr (fun t ht hW => ⟨⟨0, M, rfl, ⟨rfl, rfl⟩, by unfold ux_E; rw [ht]; exact hP⟩, hS.F ht⟩) hS.2.2 d_Lg_beforeLatest_19
  · refine lv_iload_n hx hb d_Lg_beforeLatest_4 rfl (lv_at hl 1 rfl) ?_
    refine lv_bipush (v := 40) hx hb d_Lg_beforeLatest_5 (by decide) ?_
    refine lv_icmp_ge hx hb d_Lg_beforeLatest_7 rfl (fun h2 => ?_) (fun h2 => ?_)
    · refine lv_iconst (v := 0) hx hb d_Lg_beforeLatest_18 (by decide) ?_
      exact W.iret (v := 0) hx hb hr (fun t ht hW => ⟨⟨0, M, rfl, ⟨rfl, rfl⟩, by unfold ux_E; rw [ht]; exact hP⟩, hS.F ht⟩) hS.2.2 d_Lg_beforeLatest_19
    · refine lv_iload_n hx hb d_Lg_beforeLatest_10 rfl (lv_at hl 1 rfl) ?_
      refine lv_aload_n hx hb d_Lg_beforeLatest_11 rfl (lv_at hl 0 rfl) ?_
      refine ux_get (C := R_Lg) (T := F_Lg) (N := 2) hx hb hT in_Lg hown hK hP (by decide) rfl rfl 1 (by decide) (hT _ fl_Lg_15) rfl d_Lg_beforeLatest_12 ?_
      refine lv_icmp_lt hx hb d_Lg_beforeLatest_15 rfl (fun h3 => ?_) (fun h3 => ?_)
      · exact absurd (hc ▸ h3) h1
      · refine lv_iconst (v := 0) hx hb d_Lg_beforeLatest_18 (by decide) ?_
        exact W.iret (v := 0) hx hb hr (fun t ht hW => ⟨⟨0, M, rfl, ⟨rfl, rfl⟩, by unfold ux_E; rw [ht]; exact hP⟩, hS.F ht⟩) hS.2.2 d_Lg_beforeLatest_19

set_option maxHeartbeats 4000000 in
set_option maxRecDepth 100000 in
theorem c_PS_talked_0 (l : Launch) (D : va_G) (ad : Nat → Nat) (cA : Nat → ClassId) (M : ux_M) (k : Int32) (hc : M 11 1 = 0) : Met l y_PS_talked w_PS_talked ({ frames := 1, cells := 0, slots := 0, locals := 21 }) (va_Pc [.ref (ad 0), .int k] (ux_B D shX KX ad cA M)) (va_Qi (fun r M1 => M1 = M ∧ r = 0) (ux_E D shX KX ad cA) (ux_A KX ad)) 0 0 (ux_A KX ad) := by
  refine Met.ofW (cc := b_PS_talked) (maxL := 2) (ret := (some .int)) (by decide) rfl ?_
  intro p e s m args below meth c s₁ B hml hv
  obtain ⟨rfl, hP, hK, hi, hN⟩ := hv
  have hx := B.exec
  have hb := B.bytes
  have hr := B.returns
  have hts := atoms_spec (ws := w_PS_talked) B.pre
  have hown : s.vm.findClass R_PS = some m.cls := findClass_of_methodNamed B.named
  have hlocks := B.notSynchronized
  have hT : ∀ w ∈ tb, w.before _ s = true := fun w h => hts w (List.mem_cons_of_mem _ h)
  have hS : va_S (ux_A KX ad) s.heap s.heap [] := va_S.rf
  have hl := lv_entry ([.ref (ad 0), .int k]) (n := 2) (Nat.le_of_ble_eq_true rfl)
  rw [lg_entry_eq]
  generalize (lg_sl ([.ref (ad 0), .int k]) ++ List.replicate (2 - (lg_sl ([.ref (ad 0), .int k])).length) Slot.unset).toArray = ls at hl ⊢
  have hl : lv_has ls 2 [(0, .ref (ad 0)), (1, .int k)] := hl
  refine lv_aload_n hx hb d_PS_talked_0 rfl (lv_at hl 0 rfl) ?_
  refine ux_get (C := R_PS) (T := F_PS) (N := 3) hx hb hT in_PS hown hK hP (by decide) rfl rfl 1 (by decide) (hT _ fl_PS_19) rfl d_PS_talked_1 ?_
  refine ux_getN (C := R_Pe) (T := F_Pe) (N := 10) hx hb hT in_Pe hown hK hP (by decide) rfl rfl 9 (by decide) (hN _ nf_PS_123) rfl d_PS_talked_4 ?_
  refine lv_iload_n hx hb d_PS_talked_7 rfl (lv_at hl 1 rfl) ?_
  refine ux_calli (va_runV ⟨hx, hb, hml, hown, hts⟩ (c_Lg_beforeLatest_0 l D ad cA M k hc) (cwV 1 hts (tb_goodV ml_PS_130 im_Lg_beforeLatest se_Lg_beforeLatest ii_Lg kt_Lg_beforeLatest) rfl rfl rfl (by decide +kernel) ⟨Nat.le_of_ble_eq_true rfl, Nat.le_of_ble_eq_true rfl⟩) (ux_preV (by decide) rfl rfl hP hK hi hN) rfl rfl hl.1 rfl (lv_room (Nat.le_of_ble_eq_true rfl)) d_PS_talked_8 ⟨Nat.zero_le _, Nat.zero_le _⟩) hS (fun r1 M2 H locs q3 hP hS => ?_)
  obtain ⟨q3m, q3e⟩ := q3
  rw [q3m] at hP
  subst q3e
  exact W.iret (v := 0) hx hb hr (fun t ht hW => ⟨⟨0, M, rfl, ⟨rfl, rfl⟩, by unfold ux_E; rw [ht]; exact hP⟩, hS.F ht⟩) hS.2.2 d_PS_talked_11

def msa (M : ux_M) : ux_M := vem (ux_wr (ux_wr (ux_wr M 2 4 0) 2 5 0) 2 7 0) 10 1 0

set_option maxHeartbeats 4000000 in
set_option maxRecDepth 100000 in
theorem c_Pe_startAnew (l : Launch) (D : va_G) (ad : Nat → Nat) (cA : Nat → ClassId) (M : ux_M)  : Met l y_Pe_startAnew w_Pe_startAnew ({ frames := 1, cells := 0, slots := 0, locals := 21 }) (va_Pc [.ref (ad 2)] (ux_B D shX KX ad cA M)) (va_Qv (fun M1 => M1 = msa M) (ux_E D shX KX ad cA) (ux_A KX ad)) 0 0 (ux_A KX ad) := by
  refine Met.ofW (cc := b_Pe_startAnew) (maxL := 1) (ret := none) (by decide) rfl ?_
  intro p e s m args below meth c s₁ B hml hv
  obtain ⟨rfl, hP, hK, hi, hN⟩ := hv
  have hx := B.exec
  have hb := B.bytes
  have hr := B.returns
  have hts := atoms_spec (ws := w_Pe_startAnew) B.pre
  have hown : s.vm.findClass R_Pe = some m.cls := findClass_of_methodNamed B.named
  have hlocks := B.notSynchronized
  have hT : ∀ w ∈ tb, w.before _ s = true := fun w h => hts w (List.mem_cons_of_mem _ h)
  have hS : va_S (ux_A KX ad) s.heap s.heap [] := va_S.rf
  have hl := lv_entry ([.ref (ad 2)]) (n := 1) (Nat.le_of_ble_eq_true rfl)
  rw [lg_entry_eq]
  generalize (lg_sl ([.ref (ad 2)]) ++ List.replicate (1 - (lg_sl ([.ref (ad 2)])).length) Slot.unset).toArray = ls at hl ⊢
  have hl : lv_has ls 1 [(0, .ref (ad 2))] := hl
  refine lv_aload_n hx hb d_Pe_startAnew_0 rfl (lv_at hl 0 rfl) ?_
  refine lv_iconst (v := 0) hx hb d_Pe_startAnew_1 (by decide) ?_
  refine ux_put (C := R_Pe) (T := F_Pe) (N := 10) hx hb hT in_Pe t_Pe t_Pe_ok n_Pe hown hK hi hP hS (by decide) rfl rfl 4 (by decide) (hT _ fl_Pe_43) rfl (rfl) (rfl) rfl d_Pe_startAnew_2 (fun H locs hP hS => ?_)
  refine lv_aload_n hx hb d_Pe_startAnew_5 rfl (lv_at hl 0 rfl) ?_
  refine lv_iconst (v := 0) hx hb d_Pe_startAnew_6 (by decide) ?_
  refine ux_put (C := R_Pe) (T := F_Pe) (N := 10) hx hb hT in_Pe t_Pe t_Pe_ok n_Pe hown hK hi hP hS (by decide) rfl rfl 5 (by decide) (hT _ fl_Pe_47) rfl (rfl) (rfl) rfl d_Pe_startAnew_7 (fun H locs hP hS => ?_)
  refine lv_aload_n hx hb d_Pe_startAnew_10 rfl (lv_at hl 0 rfl) ?_
  refine lv_iconst (v := 0) hx hb d_Pe_startAnew_11 (by decide) ?_
  refine ux_put (C := R_Pe) (T := F_Pe) (N := 10) hx hb hT in_Pe t_Pe t_Pe_ok n_Pe hown hK hi hP hS (by decide) rfl rfl 7 (by decide) (hT _ fl_Pe_50) rfl (rfl) (rfl) rfl d_Pe_startAnew_12 (fun H locs hP hS => ?_)
  refine lv_aload_n hx hb d_Pe_startAnew_15 rfl (lv_at hl 0 rfl) ?_
  refine ux_get (C := R_Pe) (T := F_Pe) (N := 10) hx hb hT in_Pe hown hK hP (by decide) rfl rfl 8 (by decide) (hT _ fl_Pe_32) rfl d_Pe_startAnew_16 ?_
  refine lv_iconst (v := 0) hx hb d_Pe_startAnew_19 (by decide) ?_
  refine ux_callv (va_runV ⟨hx, hb, hml, hown, hts⟩ (c_Vl_empty l D shX KX ad cA ((ux_wr (ux_wr (ux_wr M 2 4 0) 2 5 0) 2 7 0)) 8 9 10 1 V_buf 0) (cwV 1 hts (tb_goodV ml_Pe_53 im_Vl_empty se_Vl_empty ii_Vl kt_Vl_empty) rfl rfl rfl (by decide +kernel) ⟨Nat.le_of_ble_eq_true rfl, Nat.le_of_ble_eq_true rfl⟩) (ux_preV (by decide) rfl rfl hP hK hi hN) rfl rfl hl.1 rfl (lv_room (Nat.le_of_ble_eq_true rfl)) d_Pe_startAnew_20 ⟨Nat.zero_le _, Nat.zero_le _⟩) hS (fun M2 H locs q3 hP hS => ?_)
  rw [q3] at hP
  exact W.vret hx hb hr (fun t ht hW => ⟨⟨(vem ((ux_wr (ux_wr (ux_wr M 2 4 0) 2 5 0) 2 7 0)) 10 1 0), rfl, rfl, by unfold ux_E; rw [ht]; exact hP⟩, hS.F ht⟩) hS.2.2 d_Pe_startAnew_23

set_option maxHeartbeats 4000000 in
set_option maxRecDepth 100000 in
theorem c_PS_reset (l : Launch) (D : va_G) (ad : Nat → Nat) (cA : Nat → ClassId) (M : ux_M)  : Met l y_PS_reset w_PS_reset ({ frames := 2, cells := 0, slots := 0, locals := 41 }) (va_Pc [.ref (ad 0)] (ux_B D shX KX ad cA M)) (va_Qv (fun M1 => M1 = msa M) (ux_E D shX KX ad cA) (ux_A KX ad)) 0 0 (ux_A KX ad) := by
  refine Met.ofW (cc := b_PS_reset) (maxL := 1) (ret := none) (by decide) rfl ?_
  intro p e s m args below meth c s₁ B hml hv
  obtain ⟨rfl, hP, hK, hi, hN⟩ := hv
  have hx := B.exec
  have hb := B.bytes
  have hr := B.returns
  have hts := atoms_spec (ws := w_PS_reset) B.pre
  have hown : s.vm.findClass R_PS = some m.cls := findClass_of_methodNamed B.named
  have hlocks := B.notSynchronized
  have hT : ∀ w ∈ tb, w.before _ s = true := fun w h => hts w (List.mem_cons_of_mem _ h)
  have hS : va_S (ux_A KX ad) s.heap s.heap [] := va_S.rf
  have hl := lv_entry ([.ref (ad 0)]) (n := 1) (Nat.le_of_ble_eq_true rfl)
  rw [lg_entry_eq]
  generalize (lg_sl ([.ref (ad 0)]) ++ List.replicate (1 - (lg_sl ([.ref (ad 0)])).length) Slot.unset).toArray = ls at hl ⊢
  have hl : lv_has ls 1 [(0, .ref (ad 0))] := hl
  refine lv_aload_n hx hb d_PS_reset_0 rfl (lv_at hl 0 rfl) ?_
  refine ux_get (C := R_PS) (T := F_PS) (N := 3) hx hb hT in_PS hown hK hP (by decide) rfl rfl 1 (by decide) (hT _ fl_PS_19) rfl d_PS_reset_1 ?_
  refine ux_callv (va_runV ⟨hx, hb, hml, hown, hts⟩ (c_Pe_startAnew l D ad cA M ) (cwV 0 hts (tb_goodV ml_PS_77 im_Pe_startAnew se_Pe_startAnew ii_Pe kt_Pe_startAnew) rfl rfl rfl (by decide +kernel) ⟨Nat.le_of_ble_eq_true rfl, Nat.le_of_ble_eq_true rfl⟩) (ux_preV (by decide) rfl rfl hP hK hi hN) rfl rfl hl.1 rfl (lv_room (Nat.le_of_ble_eq_true rfl)) d_PS_reset_4 ⟨Nat.zero_le _, Nat.zero_le _⟩) hS (fun M2 H locs q3 hP hS => ?_)
  rw [q3] at hP
  exact W.vret hx hb hr (fun t ht hW => ⟨⟨(msa M), rfl, rfl, by unfold ux_E; rw [ht]; exact hP⟩, hS.F ht⟩) hS.2.2 d_PS_reset_7

def var (M : ux_M) : Int32 := if M 2 4 < 20 then 1 else 0
def mar (M : ux_M) (a b d f : Int32) : ux_M := if M 2 4 < 20 then ux_wr (ux_wr (ux_wr (ux_wr (ux_wr M 3 (M 2 4).toNatClampNeg a) 4 (M 2 4).toNatClampNeg b) 5 (M 2 4).toNatClampNeg d) 6 (M 2 4).toNatClampNeg f) 2 4 (M 2 4 + 1) else M

theorem nx_n0 {x : Int32} (h : 0 ≤ x.toInt) : ¬ x < 0 := by
  rw [Int32.lt_iff_toInt_lt]
  have h0 : (0 : Int32).toInt = 0 := rfl
  rw [h0]
  omega

set_option maxHeartbeats 4000000 in
set_option maxRecDepth 100000 in
theorem c_Pe_addRule (l : Launch) (D : va_G) (ad : Nat → Nat) (cA : Nat → ClassId) (M : ux_M) (a b d f : Int32) (hc : 0 ≤ (M 2 4).toInt) : Met l y_Pe_addRule w_Pe_addRule ({ frames := 0, cells := 0, slots := 0, locals := 0 }) (va_Pc [.ref (ad 2), .int a, .int b, .int d, .int f] (ux_B D shX KX ad cA M)) (va_Qi (fun r M1 => M1 = mar M a b d f ∧ r = var M) (ux_E D shX KX ad cA) (ux_A KX ad)) 0 0 (ux_A KX ad) := by
  refine Met.ofW (cc := b_Pe_addRule) (maxL := 5) (ret := (some .boolean)) (by decide) rfl ?_
  intro p e s m args below meth c s₁ B hml hv
  obtain ⟨rfl, hP, hK, hi, hN⟩ := hv
  have hx := B.exec
  have hb := B.bytes
  have hr := B.returns
  have hts := atoms_spec (ws := w_Pe_addRule) B.pre
  have hown : s.vm.findClass R_Pe = some m.cls := findClass_of_methodNamed B.named
  have hlocks := B.notSynchronized
  have hT : ∀ w ∈ tb, w.before _ s = true := fun w h => hts w (List.mem_cons_of_mem _ h)
  have hS : va_S (ux_A KX ad) s.heap s.heap [] := va_S.rf
  have hl := lv_entry ([.ref (ad 2), .int a, .int b, .int d, .int f]) (n := 5) (Nat.le_of_ble_eq_true rfl)
  rw [lg_entry_eq]
  generalize (lg_sl ([.ref (ad 2), .int a, .int b, .int d, .int f]) ++ List.replicate (5 - (lg_sl ([.ref (ad 2), .int a, .int b, .int d, .int f])).length) Slot.unset).toArray = ls at hl ⊢
  have hl : lv_has ls 5 [(0, .ref (ad 2)), (1, .int a), (2, .int b), (3, .int d), (4, .int f)] := hl
  refine lv_aload_n hx hb d_Pe_addRule_0 rfl (lv_at hl 0 rfl) ?_
  refine ux_get (C := R_Pe) (T := F_Pe) (N := 10) hx hb hT in_Pe hown hK hP (by decide) rfl rfl 4 (by decide) (hT _ fl_Pe_43) rfl d_Pe_addRule_1 ?_
  refine lv_bipush (v := 20) hx hb d_Pe_addRule_4 (by decide) ?_
  refine lv_icmp_lt hx hb d_Pe_addRule_6 rfl (fun h1 => ?_) (fun h1 => ?_)
  · refine lv_aload_n hx hb d_Pe_addRule_11 rfl (lv_at hl 0 rfl) ?_
    refine ux_get (C := R_Pe) (T := F_Pe) (N := 10) hx hb hT in_Pe hown hK hP (by decide) rfl rfl 0 (by decide) (hT _ fl_Pe_9) rfl d_Pe_addRule_12 ?_
    refine lv_aload_n hx hb d_Pe_addRule_15 rfl (lv_at hl 0 rfl) ?_
    refine ux_get (C := R_Pe) (T := F_Pe) (N := 10) hx hb hT in_Pe hown hK hP (by decide) rfl rfl 4 (by decide) (hT _ fl_Pe_43) rfl d_Pe_addRule_16 ?_
    refine lv_iload_n hx hb d_Pe_addRule_19 rfl (lv_at hl 1 rfl) ?_
    refine ux_iast hx hb hK hi hP hS (by decide) rfl (nx_vin3 (nx_n0 hc) h1) d_Pe_addRule_20 (fun H locs hP hS => ?_)
    refine lv_aload_n hx hb d_Pe_addRule_21 rfl (lv_at hl 0 rfl) ?_
    refine ux_get (C := R_Pe) (T := F_Pe) (N := 10) hx hb hT in_Pe hown hK hP (by decide) rfl rfl 1 (by decide) (hT _ fl_Pe_15) rfl d_Pe_addRule_22 ?_
    refine lv_aload_n hx hb d_Pe_addRule_25 rfl (lv_at hl 0 rfl) ?_
    refine ux_get (C := R_Pe) (T := F_Pe) (N := 10) hx hb hT in_Pe hown hK hP (by decide) rfl rfl 4 (by decide) (hT _ fl_Pe_43) rfl d_Pe_addRule_26 ?_
    refine lv_topi (fun z2 hz2 => ?_)
    rw [show ((ux_wr M 3 (M 2 4).toNatClampNeg a)) 2 4 = M 2 4 from by simp [ux_wr_off, ux_wr_at]] at hz2
    subst hz2
    refine lv_iload_n hx hb d_Pe_addRule_29 rfl (lv_at hl 2 rfl) ?_
    refine ux_iast hx hb hK hi hP hS (by decide) rfl (nx_vin3 (nx_n0 hc) h1) d_Pe_addRule_30 (fun H locs hP hS => ?_)
    refine lv_aload_n hx hb d_Pe_addRule_31 rfl (lv_at hl 0 rfl) ?_
    refine ux_get (C := R_Pe) (T := F_Pe) (N := 10) hx hb hT in_Pe hown hK hP (by decide) rfl rfl 2 (by decide) (hT _ fl_Pe_18) rfl d_Pe_addRule_32 ?_
    refine lv_aload_n hx hb d_Pe_addRule_35 rfl (lv_at hl 0 rfl) ?_
    refine ux_get (C := R_Pe) (T := F_Pe) (N := 10) hx hb hT in_Pe hown hK hP (by decide) rfl rfl 4 (by decide) (hT _ fl_Pe_43) rfl d_Pe_addRule_36 ?_
    refine lv_topi (fun z3 hz3 => ?_)
    rw [show ((ux_wr (ux_wr M 3 (M 2 4).toNatClampNeg a) 4 (M 2 4).toNatClampNeg b)) 2 4 = M 2 4 from by simp [ux_wr_off, ux_wr_at]] at hz3
    subst hz3
    refine lv_iload_n hx hb d_Pe_addRule_39 rfl (lv_at hl 3 rfl) ?_
    refine ux_iast hx hb hK hi hP hS (by decide) rfl (nx_vin3 (nx_n0 hc) h1) d_Pe_addRule_40 (fun H locs hP hS => ?_)
    refine lv_aload_n hx hb d_Pe_addRule_41 rfl (lv_at hl 0 rfl) ?_
    refine ux_get (C := R_Pe) (T := F_Pe) (N := 10) hx hb hT in_Pe hown hK hP (by decide) rfl rfl 3 (by decide) (hT _ fl_Pe_21) rfl d_Pe_addRule_42 ?_
    refine lv_aload_n hx hb d_Pe_addRule_45 rfl (lv_at hl 0 rfl) ?_
    refine ux_get (C := R_Pe) (T := F_Pe) (N := 10) hx hb hT in_Pe hown hK hP (by decide) rfl rfl 4 (by decide) (hT _ fl_Pe_43) rfl d_Pe_addRule_46 ?_
    refine lv_topi (fun z4 hz4 => ?_)
    rw [show ((ux_wr (ux_wr (ux_wr M 3 (M 2 4).toNatClampNeg a) 4 (M 2 4).toNatClampNeg b) 5 (M 2 4).toNatClampNeg d)) 2 4 = M 2 4 from by simp [ux_wr_off, ux_wr_at]] at hz4
    subst hz4
    refine lv_iload hx hb d_Pe_addRule_49 (lv_at hl 4 rfl) ?_
    refine ux_iast hx hb hK hi hP hS (by decide) rfl (nx_vin3 (nx_n0 hc) h1) d_Pe_addRule_51 (fun H locs hP hS => ?_)
    refine lv_aload_n hx hb d_Pe_addRule_52 rfl (lv_at hl 0 rfl) ?_
    refine lv_dup hx hb d_Pe_addRule_53 rfl ?_
    refine ux_get (C := R_Pe) (T := F_Pe) (N := 10) hx hb hT in_Pe hown hK hP (by decide) rfl rfl 4 (by decide) (hT _ fl_Pe_43) rfl d_Pe_addRule_54 ?_
    refine lv_topi (fun z5 hz5 => ?_)
    rw [show ((ux_wr (ux_wr (ux_wr (ux_wr M 3 (M 2 4).toNatClampNeg a) 4 (M 2 4).toNatClampNeg b) 5 (M 2 4).toNatClampNeg d) 6 (M 2 4).toNatClampNeg f)) 2 4 = M 2 4 from by simp [ux_wr_off, ux_wr_at]] at hz5
    subst hz5
    refine lv_iconst (v := 1) hx hb d_Pe_addRule_57 (by decide) ?_
    refine lv_iadd hx hb d_Pe_addRule_58 ?_
    refine ux_put (C := R_Pe) (T := F_Pe) (N := 10) hx hb hT in_Pe t_Pe t_Pe_ok n_Pe hown hK hi hP hS (by decide) rfl rfl 4 (by decide) (hT _ fl_Pe_43) rfl (rfl) (rfl) rfl d_Pe_addRule_59 (fun H locs hP hS => ?_)
    refine lv_iconst (v := 1) hx hb d_Pe_addRule_62 (by decide) ?_
    exact W.zret (v := 1) hx hb hr (rfl) (fun t ht hW => ⟨⟨1, (ux_wr (ux_wr (ux_wr (ux_wr (ux_wr M 3 (M 2 4).toNatClampNeg a) 4 (M 2 4).toNatClampNeg b) 5 (M 2 4).toNatClampNeg d) 6 (M 2 4).toNatClampNeg f) 2 4 ((M 2 4) + 1)), rfl, ⟨by rw [mar, if_pos h1], by rw [var, if_pos h1]⟩, by unfold ux_E; rw [ht]; exact hP⟩, hS.F ht⟩) hS.2.2 d_Pe_addRule_63
  · refine lv_iconst (v := 0) hx hb d_Pe_addRule_9 (by decide) ?_
    exact W.zret (v := 0) hx hb hr (rfl) (fun t ht hW => ⟨⟨0, M, rfl, ⟨by rw [mar, if_neg h1], by rw [var, if_neg h1]⟩, by unfold ux_E; rw [ht]; exact hP⟩, hS.F ht⟩) hS.2.2 d_Pe_addRule_10

def okr (a b d f : Int32) : Prop := ¬ pst a = 0 ∧ ¬ pz b = 0 ∧ ¬ pz d = 0 ∧ ¬ pst f = 0
def vru (M : ux_M) (a b d f : Int32) (r : Int32) (M1 : ux_M) : Prop := (okr a b d f ∧ ¬ var M = 0 → r = 1) ∧ (¬ (okr a b d f ∧ ¬ var M = 0) → r = 0) ∧ (okr a b d f → M1 = mar M a b d f) ∧ (¬ okr a b d f → M1 = M)

set_option maxHeartbeats 4000000 in
set_option maxRecDepth 100000 in
theorem c_PS_rule (l : Launch) (D : va_G) (ad : Nat → Nat) (cA : Nat → ClassId) (M : ux_M) (a b d f : Int32) (hc : 0 ≤ (M 2 4).toInt) : Met l y_PS_rule w_PS_rule ({ frames := 2, cells := 0, slots := 0, locals := 40 }) (va_Pc [.ref (ad 0), .int a, .int b, .int d, .int f] (ux_B D shX KX ad cA M)) (va_Qi (fun r M1 => vru M a b d f r M1) (ux_E D shX KX ad cA) (ux_A KX ad)) 0 0 (ux_A KX ad) := by
  refine Met.ofW (cc := b_PS_rule) (maxL := 6) (ret := (some .boolean)) (by decide) rfl ?_
  intro p e s m args below meth c s₁ B hml hv
  obtain ⟨rfl, hP, hK, hi, hN⟩ := hv
  have hx := B.exec
  have hb := B.bytes
  have hr := B.returns
  have hts := atoms_spec (ws := w_PS_rule) B.pre
  have hown : s.vm.findClass R_PS = some m.cls := findClass_of_methodNamed B.named
  have hlocks := B.notSynchronized
  have hT : ∀ w ∈ tb, w.before _ s = true := fun w h => hts w (List.mem_cons_of_mem _ h)
  have hS : va_S (ux_A KX ad) s.heap s.heap [] := va_S.rf
  have hl := lv_entry ([.ref (ad 0), .int a, .int b, .int d, .int f]) (n := 6) (Nat.le_of_ble_eq_true rfl)
  rw [lg_entry_eq]
  generalize (lg_sl ([.ref (ad 0), .int a, .int b, .int d, .int f]) ++ List.replicate (6 - (lg_sl ([.ref (ad 0), .int a, .int b, .int d, .int f])).length) Slot.unset).toArray = ls at hl ⊢
  have hl : lv_has ls 6 [(0, .ref (ad 0)), (1, .int a), (2, .int b), (3, .int d), (4, .int f)] := hl
  refine lv_iload_n hx hb d_PS_rule_0 rfl (lv_at hl 1 rfl) ?_
  refine ux_calli (va_runS ⟨hx, hb, hml, hown, hts⟩ (c_PS_isState l D ad cA M a) (va_cwS 1 hts (tb_goodST ml_PS_67 sm_PS_isState ii_PS kt_PS_isState) rfl rfl rfl (by decide +kernel) ⟨Nat.le_of_ble_eq_true rfl, Nat.le_of_ble_eq_true rfl⟩) (ux_pre hP hK hi hN) rfl rfl hl.1 rfl (lv_room (Nat.le_of_ble_eq_true rfl)) d_PS_rule_1 ⟨Nat.zero_le _, Nat.zero_le _⟩) hS (fun r1 M2 H locs q3 hP hS => ?_)
  obtain ⟨q3m, q3e⟩ := q3
  rw [q3m] at hP
  subst q3e
  refine lv_if_eq hx hb d_PS_rule_4 rfl (fun h4 => ?_) (fun h4 => ?_)
  · refine lv_iconst (v := 0) hx hb d_PS_rule_33 (by decide) ?_
    refine lv_istore hx hb d_PS_rule_34 hl (by decide) rfl (fun ls hl => ?_)
    have hl : lv_has ls 6 [(5, .int 0), (0, .ref (ad 0)), (1, .int a), (2, .int b), (3, .int d), (4, .int f)] := hl
    refine lv_iload hx hb d_PS_rule_36 (lv_at hl 0 rfl) ?_
    refine lv_if_eq hx hb d_PS_rule_38 rfl (fun _ => ?_) (fun hz => absurd (by decide) hz)
    refine lv_iconst (v := 0) hx hb d_PS_rule_60 (by decide) ?_
    exact W.zret (v := 0) hx hb hr (rfl) (fun t ht hW => ⟨⟨0, M, rfl, (by simp [vru, okr, h4]), by unfold ux_E; rw [ht]; exact hP⟩, hS.F ht⟩) hS.2.2 d_PS_rule_61
  · refine lv_iload_n hx hb d_PS_rule_7 rfl (lv_at hl 2 rfl) ?_
    refine ux_calli (va_runS ⟨hx, hb, hml, hown, hts⟩ (c_PS_isPrintableOrZero l D ad cA M b) (va_cwS 1 hts (tb_goodST ml_PS_70 sm_PS_isPrintableOrZero ii_PS kt_PS_isPrintableOrZero) rfl rfl rfl (by decide +kernel) ⟨Nat.le_of_ble_eq_true rfl, Nat.le_of_ble_eq_true rfl⟩) (ux_pre hP hK hi hN) rfl rfl hl.1 rfl (lv_room (Nat.le_of_ble_eq_true rfl)) d_PS_rule_8 ⟨Nat.zero_le _, Nat.zero_le _⟩) hS (fun r5 M6 H locs q7 hP hS => ?_)
    obtain ⟨q7m, q7e⟩ := q7
    rw [q7m] at hP
    subst q7e
    refine lv_if_eq hx hb d_PS_rule_11 rfl (fun h8 => ?_) (fun h8 => ?_)
    · refine lv_iconst (v := 0) hx hb d_PS_rule_33 (by decide) ?_
      refine lv_istore hx hb d_PS_rule_34 hl (by decide) rfl (fun ls hl => ?_)
      have hl : lv_has ls 6 [(5, .int 0), (0, .ref (ad 0)), (1, .int a), (2, .int b), (3, .int d), (4, .int f)] := hl
      refine lv_iload hx hb d_PS_rule_36 (lv_at hl 0 rfl) ?_
      refine lv_if_eq hx hb d_PS_rule_38 rfl (fun _ => ?_) (fun hz => absurd (by decide) hz)
      refine lv_iconst (v := 0) hx hb d_PS_rule_60 (by decide) ?_
      exact W.zret (v := 0) hx hb hr (rfl) (fun t ht hW => ⟨⟨0, M, rfl, (by simp [vru, okr, h4, h8]), by unfold ux_E; rw [ht]; exact hP⟩, hS.F ht⟩) hS.2.2 d_PS_rule_61
    · refine lv_iload_n hx hb d_PS_rule_14 rfl (lv_at hl 3 rfl) ?_
      refine ux_calli (va_runS ⟨hx, hb, hml, hown, hts⟩ (c_PS_isPrintableOrZero l D ad cA M d) (va_cwS 1 hts (tb_goodST ml_PS_70 sm_PS_isPrintableOrZero ii_PS kt_PS_isPrintableOrZero) rfl rfl rfl (by decide +kernel) ⟨Nat.le_of_ble_eq_true rfl, Nat.le_of_ble_eq_true rfl⟩) (ux_pre hP hK hi hN) rfl rfl hl.1 rfl (lv_room (Nat.le_of_ble_eq_true rfl)) d_PS_rule_15 ⟨Nat.zero_le _, Nat.zero_le _⟩) hS (fun r9 M10 H locs q11 hP hS => ?_)
      obtain ⟨q11m, q11e⟩ := q11
      rw [q11m] at hP
      subst q11e
      refine lv_if_eq hx hb d_PS_rule_18 rfl (fun h12 => ?_) (fun h12 => ?_)
      · refine lv_iconst (v := 0) hx hb d_PS_rule_33 (by decide) ?_
        refine lv_istore hx hb d_PS_rule_34 hl (by decide) rfl (fun ls hl => ?_)
        have hl : lv_has ls 6 [(5, .int 0), (0, .ref (ad 0)), (1, .int a), (2, .int b), (3, .int d), (4, .int f)] := hl
        refine lv_iload hx hb d_PS_rule_36 (lv_at hl 0 rfl) ?_
        refine lv_if_eq hx hb d_PS_rule_38 rfl (fun _ => ?_) (fun hz => absurd (by decide) hz)
        refine lv_iconst (v := 0) hx hb d_PS_rule_60 (by decide) ?_
        exact W.zret (v := 0) hx hb hr (rfl) (fun t ht hW => ⟨⟨0, M, rfl, (by simp [vru, okr, h4, h8, h12]), by unfold ux_E; rw [ht]; exact hP⟩, hS.F ht⟩) hS.2.2 d_PS_rule_61
      · refine lv_iload hx hb d_PS_rule_21 (lv_at hl 4 rfl) ?_
        refine ux_calli (va_runS ⟨hx, hb, hml, hown, hts⟩ (c_PS_isState l D ad cA M f) (va_cwS 1 hts (tb_goodST ml_PS_67 sm_PS_isState ii_PS kt_PS_isState) rfl rfl rfl (by decide +kernel) ⟨Nat.le_of_ble_eq_true rfl, Nat.le_of_ble_eq_true rfl⟩) (ux_pre hP hK hi hN) rfl rfl hl.1 rfl (lv_room (Nat.le_of_ble_eq_true rfl)) d_PS_rule_23 ⟨Nat.zero_le _, Nat.zero_le _⟩) hS (fun r13 M14 H locs q15 hP hS => ?_)
        obtain ⟨q15m, q15e⟩ := q15
        rw [q15m] at hP
        subst q15e
        refine lv_if_eq hx hb d_PS_rule_26 rfl (fun h16 => ?_) (fun h16 => ?_)
        · refine lv_iconst (v := 0) hx hb d_PS_rule_33 (by decide) ?_
          refine lv_istore hx hb d_PS_rule_34 hl (by decide) rfl (fun ls hl => ?_)
          have hl : lv_has ls 6 [(5, .int 0), (0, .ref (ad 0)), (1, .int a), (2, .int b), (3, .int d), (4, .int f)] := hl
          refine lv_iload hx hb d_PS_rule_36 (lv_at hl 0 rfl) ?_
          refine lv_if_eq hx hb d_PS_rule_38 rfl (fun _ => ?_) (fun hz => absurd (by decide) hz)
          refine lv_iconst (v := 0) hx hb d_PS_rule_60 (by decide) ?_
          exact W.zret (v := 0) hx hb hr (rfl) (fun t ht hW => ⟨⟨0, M, rfl, (by simp [vru, okr, h4, h8, h12, h16]), by unfold ux_E; rw [ht]; exact hP⟩, hS.F ht⟩) hS.2.2 d_PS_rule_61
        · refine lv_iconst (v := 1) hx hb d_PS_rule_29 (by decide) ?_
          refine lv_goto hx hb d_PS_rule_30 rfl ?_
          refine lv_istore hx hb d_PS_rule_34 hl (by decide) rfl (fun ls hl => ?_)
          have hl : lv_has ls 6 [(5, .int 1), (0, .ref (ad 0)), (1, .int a), (2, .int b), (3, .int d), (4, .int f)] := hl
          refine lv_iload hx hb d_PS_rule_36 (lv_at hl 0 rfl) ?_
          refine lv_if_eq hx hb d_PS_rule_38 rfl (fun hz => absurd hz (by decide)) (fun _ => ?_)
          refine lv_aload_n hx hb d_PS_rule_41 rfl (lv_at hl 1 rfl) ?_
          refine ux_get (C := R_PS) (T := F_PS) (N := 3) hx hb hT in_PS hown hK hP (by decide) rfl rfl 1 (by decide) (hT _ fl_PS_19) rfl d_PS_rule_42 ?_
          refine lv_iload_n hx hb d_PS_rule_45 rfl (lv_at hl 2 rfl) ?_
          refine lv_iload_n hx hb d_PS_rule_46 rfl (lv_at hl 3 rfl) ?_
          refine lv_iload_n hx hb d_PS_rule_47 rfl (lv_at hl 4 rfl) ?_
          refine lv_iload hx hb d_PS_rule_48 (lv_at hl 5 rfl) ?_
          refine ux_calli (va_runV ⟨hx, hb, hml, hown, hts⟩ (c_Pe_addRule l D ad cA M a b d f hc) (cwV 4 hts (tb_goodV ml_PS_73 im_Pe_addRule se_Pe_addRule ii_Pe kt_Pe_addRule) rfl rfl rfl (by decide +kernel) ⟨Nat.le_of_ble_eq_true rfl, Nat.le_of_ble_eq_true rfl⟩) (ux_preV (by decide) rfl rfl hP hK hi hN) rfl rfl hl.1 rfl (lv_room (Nat.le_of_ble_eq_true rfl)) d_PS_rule_50 ⟨Nat.zero_le _, Nat.zero_le _⟩) hS (fun r17 M18 H locs q19 hP hS => ?_)
          obtain ⟨q19m, q19e⟩ := q19
          rw [q19m] at hP
          subst q19e
          refine lv_if_eq hx hb d_PS_rule_53 rfl (fun h20 => ?_) (fun h20 => ?_)
          · refine lv_iconst (v := 0) hx hb d_PS_rule_60 (by decide) ?_
            exact W.zret (v := 0) hx hb hr (rfl) (fun t ht hW => ⟨⟨0, (mar M a b d f), rfl, (by simp [vru, okr, h4, h8, h12, h16, h20]), by unfold ux_E; rw [ht]; exact hP⟩, hS.F ht⟩) hS.2.2 d_PS_rule_61
          · refine lv_iconst (v := 1) hx hb d_PS_rule_56 (by decide) ?_
            refine lv_goto hx hb d_PS_rule_57 rfl ?_
            exact W.zret (v := 1) hx hb hr (rfl) (fun t ht hW => ⟨⟨1, (mar M a b d f), rfl, (by simp [vru, okr, h4, h8, h12, h16, h20]), by unfold ux_E; rw [ht]; exact hP⟩, hS.F ht⟩) hS.2.2 d_PS_rule_61

def vlo (f nm : Int32) : Int32 := if f ≤ 0 then 0 else if 8 ≤ f then 0 else if nm < 0 then 0 else if 26 ≤ nm then 0 else 1
def vme (M : ux_M) (f nm : Int32) : Nat := if vlo f nm = 0 then 18 else if M 17 (f * 26 + nm).toNatClampNeg = 0 then gX16 f.toNatClampNeg else 18
theorem nx_lo {f nm : Int32} (h : ¬ vlo f nm = 0) : vp_in f 8 ∧ vp_in nm 26 := by
  unfold vlo at h
  by_cases h1 : f ≤ 0
  · rw [if_pos h1] at h; exact absurd rfl h
  rw [if_neg h1] at h
  by_cases h2 : 8 ≤ f
  · rw [if_pos h2] at h; exact absurd rfl h
  rw [if_neg h2] at h
  by_cases h3 : nm < 0
  · rw [if_pos h3] at h; exact absurd rfl h
  rw [if_neg h3] at h
  by_cases h4 : 26 ≤ nm
  · rw [if_pos h4] at h; exact absurd rfl h
  refine ⟨nx_vin (by decide) ?_ h2, nx_vin (by decide) h3 h4⟩
  intro hh
  rw [Int32.lt_iff_toInt_lt] at hh
  rw [Int32.le_iff_toInt_le] at h1
  omega
theorem nx_lk {f nm : Int32} (h : vp_in f 8) (h2 : vp_in nm 26) : vp_in (f * 26 + nm) 208 := by
  obtain ⟨a, ha, rfl⟩ := vp_in_of h (by decide)
  obtain ⟨b, hb, rfl⟩ := vp_in_of h2 (by decide)
  rw [show (26 : Int32) = nI 26 from rfl, pk_mul, nI_add]
  exact vp_in_nI (by omega) (by decide)

set_option maxHeartbeats 4000000 in
set_option maxRecDepth 100000 in
theorem c_Vs_isLocal (l : Launch) (D : va_G) (ad : Nat → Nat) (cA : Nat → ClassId) (M : ux_M) (f nm : Int32) : Met l y_Vs_isLocal w_Vs_isLocal ({ frames := 0, cells := 0, slots := 0, locals := 0 }) (va_Pc [.int f, .int nm] (ux_B D shX KX ad cA M)) (va_Qi (fun r M1 => M1 = M ∧ r = vlo f nm) (ux_E D shX KX ad cA) (ux_A KX ad)) 0 0 (ux_A KX ad) := by
  refine Met.ofW (cc := b_Vs_isLocal) (maxL := 2) (ret := (some .boolean)) (by decide) rfl ?_
  intro p e s m args below meth c s₁ B hml hv
  obtain ⟨rfl, hP, hK, hi, hN⟩ := hv
  have hx := B.exec
  have hb := B.bytes
  have hr := B.returns
  have hts := atoms_spec (ws := w_Vs_isLocal) B.pre
  have hown : s.vm.findClass R_Vs = some m.cls := findClass_of_methodNamed B.named
  have hlocks := B.notSynchronized
  have hT : ∀ w ∈ tb, w.before _ s = true := fun w h => hts w (List.mem_cons_of_mem _ h)
  have hS : va_S (ux_A KX ad) s.heap s.heap [] := va_S.rf
  have hl := lv_entry ([.int f, .int nm]) (n := 2) (Nat.le_of_ble_eq_true rfl)
  rw [lg_entry_eq]
  generalize (lg_sl ([.int f, .int nm]) ++ List.replicate (2 - (lg_sl ([.int f, .int nm])).length) Slot.unset).toArray = ls at hl ⊢
  have hl : lv_has ls 2 [(0, .int f), (1, .int nm)] := hl
  refine lv_iload_n hx hb d_Vs_isLocal_0 rfl (lv_at hl 0 rfl) ?_
  refine lv_if_le hx hb d_Vs_isLocal_1 rfl (fun h1 => ?_) (fun h1 => ?_)
  · refine lv_iconst (v := 0) hx hb d_Vs_isLocal_24 (by decide) ?_
    exact W.zret (v := 0) hx hb hr (rfl) (fun t ht hW => ⟨⟨0, M, rfl, ⟨rfl, by rw [vlo, if_pos h1]⟩, by unfold ux_E; rw [ht]; exact hP⟩, hS.F ht⟩) hS.2.2 d_Vs_isLocal_25
  · refine lv_iload_n hx hb d_Vs_isLocal_4 rfl (lv_at hl 0 rfl) ?_
    refine lv_bipush (v := 8) hx hb d_Vs_isLocal_5 (by decide) ?_
    refine lv_icmp_ge hx hb d_Vs_isLocal_7 rfl (fun h2 => ?_) (fun h2 => ?_)
    · refine lv_iconst (v := 0) hx hb d_Vs_isLocal_24 (by decide) ?_
      exact W.zret (v := 0) hx hb hr (rfl) (fun t ht hW => ⟨⟨0, M, rfl, ⟨rfl, by rw [vlo, if_neg h1, if_pos h2]⟩, by unfold ux_E; rw [ht]; exact hP⟩, hS.F ht⟩) hS.2.2 d_Vs_isLocal_25
    · refine lv_iload_n hx hb d_Vs_isLocal_10 rfl (lv_at hl 1 rfl) ?_
      refine lv_if_lt hx hb d_Vs_isLocal_11 rfl (fun h3 => ?_) (fun h3 => ?_)
      · refine lv_iconst (v := 0) hx hb d_Vs_isLocal_24 (by decide) ?_
        exact W.zret (v := 0) hx hb hr (rfl) (fun t ht hW => ⟨⟨0, M, rfl, ⟨rfl, by rw [vlo, if_neg h1, if_neg h2, if_pos h3]⟩, by unfold ux_E; rw [ht]; exact hP⟩, hS.F ht⟩) hS.2.2 d_Vs_isLocal_25
      · refine lv_iload_n hx hb d_Vs_isLocal_14 rfl (lv_at hl 1 rfl) ?_
        refine lv_bipush (v := 26) hx hb d_Vs_isLocal_15 (by decide) ?_
        refine lv_icmp_ge hx hb d_Vs_isLocal_17 rfl (fun h4 => ?_) (fun h4 => ?_)
        · refine lv_iconst (v := 0) hx hb d_Vs_isLocal_24 (by decide) ?_
          exact W.zret (v := 0) hx hb hr (rfl) (fun t ht hW => ⟨⟨0, M, rfl, ⟨rfl, by rw [vlo, if_neg h1, if_neg h2, if_neg h3, if_pos h4]⟩, by unfold ux_E; rw [ht]; exact hP⟩, hS.F ht⟩) hS.2.2 d_Vs_isLocal_25
        · refine lv_iconst (v := 1) hx hb d_Vs_isLocal_20 (by decide) ?_
          refine lv_goto hx hb d_Vs_isLocal_21 rfl ?_
          exact W.zret (v := 1) hx hb hr (rfl) (fun t ht hW => ⟨⟨1, M, rfl, ⟨rfl, by rw [vlo, if_neg h1, if_neg h2, if_neg h3, if_neg h4]⟩, by unfold ux_E; rw [ht]; exact hP⟩, hS.F ht⟩) hS.2.2 d_Vs_isLocal_25

set_option maxHeartbeats 4000000 in
set_option maxRecDepth 100000 in
theorem c_Vs_meant (l : Launch) (D : va_G) (ad : Nat → Nat) (cA : Nat → ClassId) (M : ux_M) (f nm : Int32) : Met l y_Vs_meant w_Vs_meant ({ frames := 1, cells := 0, slots := 0, locals := 21 }) (va_Pc [.ref (ad 15), .int f, .int nm] (ux_B D shX KX ad cA M)) (va_Qr (fun M1 : ux_M => M1 = M) (fun M1 a t => a = ad (vme M f nm) ∧ ux_E D shX KX ad cA M1 t) (ux_A KX ad)) 0 0 (ux_A KX ad) := by
  refine Met.ofW (cc := b_Vs_meant) (maxL := 3) (ret := (some (FieldType.object "PeerScripts$Values"))) (by decide) rfl ?_
  intro p e s m args below meth c s₁ B hml hv
  obtain ⟨rfl, hP, hK, hi, hN⟩ := hv
  have hx := B.exec
  have hb := B.bytes
  have hr := B.returns
  have hts := atoms_spec (ws := w_Vs_meant) B.pre
  have hown : s.vm.findClass R_Vs = some m.cls := findClass_of_methodNamed B.named
  have hlocks := B.notSynchronized
  have hT : ∀ w ∈ tb, w.before _ s = true := fun w h => hts w (List.mem_cons_of_mem _ h)
  have hS : va_S (ux_A KX ad) s.heap s.heap [] := va_S.rf
  have hl := lv_entry ([.ref (ad 15), .int f, .int nm]) (n := 3) (Nat.le_of_ble_eq_true rfl)
  rw [lg_entry_eq]
  generalize (lg_sl ([.ref (ad 15), .int f, .int nm]) ++ List.replicate (3 - (lg_sl ([.ref (ad 15), .int f, .int nm])).length) Slot.unset).toArray = ls at hl ⊢
  have hl : lv_has ls 3 [(0, .ref (ad 15)), (1, .int f), (2, .int nm)] := hl
  refine lv_iload_n hx hb d_Vs_meant_0 rfl (lv_at hl 1 rfl) ?_
  refine lv_iload_n hx hb d_Vs_meant_1 rfl (lv_at hl 2 rfl) ?_
  refine ux_calli (va_runS ⟨hx, hb, hml, hown, hts⟩ (c_Vs_isLocal l D ad cA M f nm) (va_cwS 2 hts (tb_goodST ml_Vs_27 sm_Vs_isLocal ii_Vs kt_Vs_isLocal) rfl rfl rfl (by decide +kernel) ⟨Nat.le_of_ble_eq_true rfl, Nat.le_of_ble_eq_true rfl⟩) (ux_pre hP hK hi hN) rfl rfl hl.1 rfl (lv_room (Nat.le_of_ble_eq_true rfl)) d_Vs_meant_2 ⟨Nat.zero_le _, Nat.zero_le _⟩) hS (fun r1 M2 H locs q3 hP hS => ?_)
  obtain ⟨q3m, q3e⟩ := q3
  rw [q3m] at hP
  subst q3e
  refine lv_if_eq hx hb d_Vs_meant_5 rfl (fun h4 => ?_) (fun h4 => ?_)
  · refine lv_aload_n hx hb d_Vs_meant_29 rfl (lv_at hl 0 rfl) ?_
    refine ux_get (C := R_Vs) (T := F_Vs) (N := 2) hx hb hT in_Vs hown hK hP (by decide) rfl rfl 0 (by decide) (hT _ fl_Vs_11) rfl d_Vs_meant_30 ?_
    refine lv_iconst (v := 0) hx hb d_Vs_meant_33 (by decide) ?_
    refine ux_aald hx hb hK hP (by decide) rfl rfl (by unfold vp_in; decide) d_Vs_meant_34 ?_
    refine W.eq (g2 := F0 m 35 ls [.ref (ad 18)]) rfl ?_
    exact W.aret (v := .ref (ad 18)) hx hb hr (Or.inl ⟨_, rfl⟩) (Or.inr ⟨_, rfl⟩) (fun t ht hW => ⟨⟨M, ad 18, rfl, rfl, ⟨by rw [vme, if_pos h4], by unfold ux_E; rw [ht]; exact hP⟩⟩, hS.F ht⟩) hS.2.2 d_Vs_meant_35
  · refine lv_aload_n hx hb d_Vs_meant_8 rfl (lv_at hl 0 rfl) ?_
    refine ux_get (C := R_Vs) (T := F_Vs) (N := 2) hx hb hT in_Vs hown hK hP (by decide) rfl rfl 1 (by decide) (hT _ fl_Vs_17) rfl d_Vs_meant_9 ?_
    refine lv_iload_n hx hb d_Vs_meant_12 rfl (lv_at hl 1 rfl) ?_
    refine lv_bipush (v := 26) hx hb d_Vs_meant_13 (by decide) ?_
    refine lv_imul hx hb d_Vs_meant_15 ?_
    refine lv_iload_n hx hb d_Vs_meant_16 rfl (lv_at hl 2 rfl) ?_
    refine lv_iadd hx hb d_Vs_meant_17 ?_
    refine ux_zald hx hb hK hP (by decide) rfl (nx_lk (nx_lo h4).1 (nx_lo h4).2) d_Vs_meant_18 ?_
    refine lv_if_ne hx hb d_Vs_meant_19 rfl (fun h5 => ?_) (fun h5 => ?_)
    · refine lv_aload_n hx hb d_Vs_meant_29 rfl (lv_at hl 0 rfl) ?_
      refine ux_get (C := R_Vs) (T := F_Vs) (N := 2) hx hb hT in_Vs hown hK hP (by decide) rfl rfl 0 (by decide) (hT _ fl_Vs_11) rfl d_Vs_meant_30 ?_
      refine lv_iconst (v := 0) hx hb d_Vs_meant_33 (by decide) ?_
      refine ux_aald hx hb hK hP (by decide) rfl rfl (by unfold vp_in; decide) d_Vs_meant_34 ?_
      refine W.eq (g2 := F0 m 35 ls [.ref (ad 18)]) rfl ?_
      exact W.aret (v := .ref (ad 18)) hx hb hr (Or.inl ⟨_, rfl⟩) (Or.inr ⟨_, rfl⟩) (fun t ht hW => ⟨⟨M, ad 18, rfl, rfl, ⟨by rw [vme, if_neg h4, if_neg h5], by unfold ux_E; rw [ht]; exact hP⟩⟩, hS.F ht⟩) hS.2.2 d_Vs_meant_35
    · refine lv_aload_n hx hb d_Vs_meant_22 rfl (lv_at hl 0 rfl) ?_
      refine ux_get (C := R_Vs) (T := F_Vs) (N := 2) hx hb hT in_Vs hown hK hP (by decide) rfl rfl 0 (by decide) (hT _ fl_Vs_11) rfl d_Vs_meant_23 ?_
      refine lv_iload_n hx hb d_Vs_meant_26 rfl (lv_at hl 1 rfl) ?_
      refine ux_aald hx hb hK hP (by decide) rfl rfl ((nx_lo h4).1) d_Vs_meant_27 ?_
      exact W.aret (v := .ref (ad (gX16 f.toNatClampNeg))) hx hb hr (Or.inl ⟨_, rfl⟩) (Or.inr ⟨_, rfl⟩) (fun t ht hW => ⟨⟨M, ad (gX16 f.toNatClampNeg), rfl, rfl, ⟨by rw [vme, if_neg h4, if_pos h5], by unfold ux_E; rw [ht]; exact hP⟩⟩, hS.F ht⟩) hS.2.2 d_Vs_meant_28

set_option maxHeartbeats 4000000 in
set_option maxRecDepth 100000 in
theorem c_PS_size (l : Launch) (D : va_G) (ad : Nat → Nat) (cA : Nat → ClassId) (M : ux_M) (v : Int32) : Met l y_PS_size w_PS_size ({ frames := 2, cells := 0, slots := 0, locals := 43 }) (va_Pc [.ref (ad 0), .int v] (ux_B D shX KX ad cA M)) (va_Qi (fun r M1 => M1 = M ∧ r = vz M 20 26 v) (ux_E D shX KX ad cA) (ux_A KX ad)) 0 0 (ux_A KX ad) := by
  refine Met.ofW (cc := b_PS_size) (maxL := 2) (ret := (some .int)) (by decide) rfl ?_
  intro p e s m args below meth c s₁ B hml hv
  obtain ⟨rfl, hP, hK, hi, hN⟩ := hv
  have hx := B.exec
  have hb := B.bytes
  have hr := B.returns
  have hts := atoms_spec (ws := w_PS_size) B.pre
  have hown : s.vm.findClass R_PS = some m.cls := findClass_of_methodNamed B.named
  have hlocks := B.notSynchronized
  have hT : ∀ w ∈ tb, w.before _ s = true := fun w h => hts w (List.mem_cons_of_mem _ h)
  have hS : va_S (ux_A KX ad) s.heap s.heap [] := va_S.rf
  have hl := lv_entry ([.ref (ad 0), .int v]) (n := 2) (Nat.le_of_ble_eq_true rfl)
  rw [lg_entry_eq]
  generalize (lg_sl ([.ref (ad 0), .int v]) ++ List.replicate (2 - (lg_sl ([.ref (ad 0), .int v])).length) Slot.unset).toArray = ls at hl ⊢
  have hl : lv_has ls 2 [(0, .ref (ad 0)), (1, .int v)] := hl
  refine lv_aload_n hx hb d_PS_size_0 rfl (lv_at hl 0 rfl) ?_
  refine ux_get (C := R_PS) (T := F_PS) (N := 3) hx hb hT in_PS hown hK hP (by decide) rfl rfl 2 (by decide) (hT _ fl_PS_28) rfl d_PS_size_1 ?_
  refine ux_getN (C := R_Rn) (T := F_Rn) (N := 9) hx hb hT in_Rn hown hK hP (by decide) rfl rfl 2 (by decide) (hN _ nf_PS_48) rfl d_PS_size_4 ?_
  refine lv_iconst (v := 0) hx hb d_PS_size_7 (by decide) ?_
  refine lv_iload_n hx hb d_PS_size_8 rfl (lv_at hl 1 rfl) ?_
  refine ux_callr (va_runV ⟨hx, hb, hml, hown, hts⟩ (c_Vs_meant l D ad cA M 0 v) (cwV 2 hts (tb_goodV ml_PS_107 im_Vs_meant se_Vs_meant ii_Vs kt_Vs_meant) rfl rfl rfl (by decide +kernel) ⟨Nat.le_of_ble_eq_true rfl, Nat.le_of_ble_eq_true rfl⟩) (ux_preV (by decide) rfl rfl hP hK hi hN) rfl rfl hl.1 rfl (lv_room (Nat.le_of_ble_eq_true rfl)) d_PS_size_9 ⟨Nat.zero_le _, Nat.zero_le _⟩) hS (fun M2 H locs q3 hP hS => ?_)
  rw [q3] at hP
  rw [show vme M 0 v = 18 from by simp [vme, vlo]]
  refine lv_iload_n hx hb d_PS_size_12 rfl (lv_at hl 1 rfl) ?_
  refine ux_calli (va_runV ⟨hx, hb, hml, hown, hts⟩ (c_Vl_sizeOf l D shX KX ad cA M 18 19 20 26 V_glo v) (cwV 1 hts (tb_goodV ml_PS_98 im_Vl_sizeOf se_Vl_sizeOf ii_Vl kt_Vl_sizeOf) rfl rfl rfl (by decide +kernel) ⟨Nat.le_of_ble_eq_true rfl, Nat.le_of_ble_eq_true rfl⟩) (ux_preV (by decide) rfl rfl hP hK hi hN) rfl rfl hl.1 rfl (lv_room (Nat.le_of_ble_eq_true rfl)) d_PS_size_13 ⟨Nat.zero_le _, Nat.zero_le _⟩) hS (fun r4 M5 H locs q6 hP hS => ?_)
  obtain ⟨q6m, q6e⟩ := q6
  rw [q6m] at hP
  subst q6e
  exact W.iret (v := vz M 20 26 v) hx hb hr (fun t ht hW => ⟨⟨vz M 20 26 v, M, rfl, ⟨rfl, rfl⟩, by unfold ux_E; rw [ht]; exact hP⟩, hS.F ht⟩) hS.2.2 d_PS_size_16

set_option maxHeartbeats 4000000 in
set_option maxRecDepth 100000 in
theorem c_PS_letter (l : Launch) (D : va_G) (ad : Nat → Nat) (cA : Nat → ClassId) (M : ux_M) (v k : Int32) : Met l y_PS_letter w_PS_letter ({ frames := 2, cells := 0, slots := 0, locals := 43 }) (va_Pc [.ref (ad 0), .int v, .int k] (ux_B D shX KX ad cA M)) (va_Qi (fun r M1 => M1 = M ∧ r = vt M 19 20 26 v k) (ux_E D shX KX ad cA) (ux_A KX ad)) 0 0 (ux_A KX ad) := by
  refine Met.ofW (cc := b_PS_letter) (maxL := 3) (ret := (some .int)) (by decide) rfl ?_
  intro p e s m args below meth c s₁ B hml hv
  obtain ⟨rfl, hP, hK, hi, hN⟩ := hv
  have hx := B.exec
  have hb := B.bytes
  have hr := B.returns
  have hts := atoms_spec (ws := w_PS_letter) B.pre
  have hown : s.vm.findClass R_PS = some m.cls := findClass_of_methodNamed B.named
  have hlocks := B.notSynchronized
  have hT : ∀ w ∈ tb, w.before _ s = true := fun w h => hts w (List.mem_cons_of_mem _ h)
  have hS : va_S (ux_A KX ad) s.heap s.heap [] := va_S.rf
  have hl := lv_entry ([.ref (ad 0), .int v, .int k]) (n := 3) (Nat.le_of_ble_eq_true rfl)
  rw [lg_entry_eq]
  generalize (lg_sl ([.ref (ad 0), .int v, .int k]) ++ List.replicate (3 - (lg_sl ([.ref (ad 0), .int v, .int k])).length) Slot.unset).toArray = ls at hl ⊢
  have hl : lv_has ls 3 [(0, .ref (ad 0)), (1, .int v), (2, .int k)] := hl
  refine lv_aload_n hx hb d_PS_letter_0 rfl (lv_at hl 0 rfl) ?_
  refine ux_get (C := R_PS) (T := F_PS) (N := 3) hx hb hT in_PS hown hK hP (by decide) rfl rfl 2 (by decide) (hT _ fl_PS_28) rfl d_PS_letter_1 ?_
  refine ux_getN (C := R_Rn) (T := F_Rn) (N := 9) hx hb hT in_Rn hown hK hP (by decide) rfl rfl 2 (by decide) (hN _ nf_PS_48) rfl d_PS_letter_4 ?_
  refine lv_iconst (v := 0) hx hb d_PS_letter_7 (by decide) ?_
  refine lv_iload_n hx hb d_PS_letter_8 rfl (lv_at hl 1 rfl) ?_
  refine ux_callr (va_runV ⟨hx, hb, hml, hown, hts⟩ (c_Vs_meant l D ad cA M 0 v) (cwV 2 hts (tb_goodV ml_PS_107 im_Vs_meant se_Vs_meant ii_Vs kt_Vs_meant) rfl rfl rfl (by decide +kernel) ⟨Nat.le_of_ble_eq_true rfl, Nat.le_of_ble_eq_true rfl⟩) (ux_preV (by decide) rfl rfl hP hK hi hN) rfl rfl hl.1 rfl (lv_room (Nat.le_of_ble_eq_true rfl)) d_PS_letter_9 ⟨Nat.zero_le _, Nat.zero_le _⟩) hS (fun M2 H locs q3 hP hS => ?_)
  rw [q3] at hP
  rw [show vme M 0 v = 18 from by simp [vme, vlo]]
  refine lv_iload_n hx hb d_PS_letter_12 rfl (lv_at hl 1 rfl) ?_
  refine lv_iload_n hx hb d_PS_letter_13 rfl (lv_at hl 2 rfl) ?_
  refine ux_calli (va_runV ⟨hx, hb, hml, hown, hts⟩ (c_Vl_letterOf l D shX KX ad cA M 18 19 20 26 V_glo v k) (cwV 2 hts (tb_goodV ml_PS_103 im_Vl_letterOf se_Vl_letterOf ii_Vl kt_Vl_letterOf) rfl rfl rfl (by decide +kernel) ⟨Nat.le_of_ble_eq_true rfl, Nat.le_of_ble_eq_true rfl⟩) (ux_preV (by decide) rfl rfl hP hK hi hN) rfl rfl hl.1 rfl (lv_room (Nat.le_of_ble_eq_true rfl)) d_PS_letter_14 ⟨Nat.zero_le _, Nat.zero_le _⟩) hS (fun r4 M5 H locs q6 hP hS => ?_)
  obtain ⟨q6m, q6e⟩ := q6
  rw [q6m] at hP
  subst q6e
  exact W.iret (v := vt M 19 20 26 v k) hx hb hr (fun t ht hW => ⟨⟨vt M 19 20 26 v k, M, rfl, ⟨rfl, rfl⟩, by unfold ux_E; rw [ht]; exact hP⟩, hS.F ht⟩) hS.2.2 d_PS_letter_17
