/-! The reference's methods, written by wip/gen/md.py -/
def fm_Md_length (M : ux_M)  : ux_M := M
def fv_Md_length (M : ux_M)  : Int32 := M 0 25

set_option maxHeartbeats 4000000 in
set_option maxRecDepth 100000 in
theorem c_Md_length (l : Launch) (D : va_G) (ad : Nat → Nat) (cA : Nat → ClassId) (M : ux_M)  : Met l y_Md_length w_Md_length ({ frames := 0, cells := 0, slots := 0, locals := 0 }) (va_Pc [.ref (ad 0)] (ux_B D shM KM ad cA M)) (va_Qi (fun r M1 => M1 = fm_Md_length M  ∧ r = fv_Md_length M ) (ux_E D shM KM ad cA) (ux_A KM ad)) 0 0 (ux_A KM ad) := by
  refine Met.ofW (cc := b_Md_length) (maxL := 1) (ret := (some .int)) (by decide) rfl ?_
  intro p e s m args below meth c s₁ B hml hv
  obtain ⟨rfl, hP, hK, hi, hN⟩ := hv
  have hx := B.exec
  have hb := B.bytes
  have hr := B.returns
  have hts := atoms_spec (ws := w_Md_length) B.pre
  have hown : s.vm.findClass R_Md = some m.cls := findClass_of_methodNamed B.named
  have hlocks := B.notSynchronized
  have hT : ∀ w ∈ tb, w.before _ s = true := fun w h => hts w (List.mem_cons_of_mem _ h)
  have hS : va_S (ux_A KM ad) s.heap s.heap [] := va_S.rf
  have hl := lv_entry ([.ref (ad 0)]) (n := 1) (Nat.le_of_ble_eq_true rfl)
  rw [lg_entry_eq]
  generalize (lg_sl ([.ref (ad 0)]) ++ List.replicate (1 - (lg_sl ([.ref (ad 0)])).length) Slot.unset).toArray = ls at hl ⊢
  have hl : lv_has ls 1 [(0, .ref (ad 0))] := hl
  refine lv_aload_n hx hb d_Md_length_0 rfl (lv_at hl 0 rfl) ?_
  refine ux_get (C := R_Md) (T := F_Md) (N := 50) hx hb hT in_Md hown hK hP (by decide) rfl rfl 25 (by decide) (hT _ fl_Md_135) rfl d_Md_length_1 ?_
  exact W.iret (v := M 0 25) hx hb hr (fun t ht hW => ⟨⟨M 0 25, M, rfl, ⟨by rw [fm_Md_length], by rw [fv_Md_length]⟩, by unfold ux_E; rw [ht]; exact hP⟩, hS.F ht⟩) hS.2.2 d_Md_length_4

def fm_Md_used (M : ux_M)  : ux_M := M
def fv_Md_used (M : ux_M)  : Int32 := M 0 28

set_option maxHeartbeats 4000000 in
set_option maxRecDepth 100000 in
theorem c_Md_used (l : Launch) (D : va_G) (ad : Nat → Nat) (cA : Nat → ClassId) (M : ux_M)  : Met l y_Md_used w_Md_used ({ frames := 0, cells := 0, slots := 0, locals := 0 }) (va_Pc [.ref (ad 0)] (ux_B D shM KM ad cA M)) (va_Qi (fun r M1 => M1 = fm_Md_used M  ∧ r = fv_Md_used M ) (ux_E D shM KM ad cA) (ux_A KM ad)) 0 0 (ux_A KM ad) := by
  refine Met.ofW (cc := b_Md_used) (maxL := 1) (ret := (some .int)) (by decide) rfl ?_
  intro p e s m args below meth c s₁ B hml hv
  obtain ⟨rfl, hP, hK, hi, hN⟩ := hv
  have hx := B.exec
  have hb := B.bytes
  have hr := B.returns
  have hts := atoms_spec (ws := w_Md_used) B.pre
  have hown : s.vm.findClass R_Md = some m.cls := findClass_of_methodNamed B.named
  have hlocks := B.notSynchronized
  have hT : ∀ w ∈ tb, w.before _ s = true := fun w h => hts w (List.mem_cons_of_mem _ h)
  have hS : va_S (ux_A KM ad) s.heap s.heap [] := va_S.rf
  have hl := lv_entry ([.ref (ad 0)]) (n := 1) (Nat.le_of_ble_eq_true rfl)
  rw [lg_entry_eq]
  generalize (lg_sl ([.ref (ad 0)]) ++ List.replicate (1 - (lg_sl ([.ref (ad 0)])).length) Slot.unset).toArray = ls at hl ⊢
  have hl : lv_has ls 1 [(0, .ref (ad 0))] := hl
  refine lv_aload_n hx hb d_Md_used_0 rfl (lv_at hl 0 rfl) ?_
  refine ux_get (C := R_Md) (T := F_Md) (N := 50) hx hb hT in_Md hown hK hP (by decide) rfl rfl 28 (by decide) (hT _ fl_Md_232) rfl d_Md_used_1 ?_
  exact W.iret (v := M 0 28) hx hb hr (fun t ht hW => ⟨⟨M 0 28, M, rfl, ⟨by rw [fm_Md_used], by rw [fv_Md_used]⟩, by unfold ux_E; rw [ht]; exact hP⟩, hS.F ht⟩) hS.2.2 d_Md_used_4

def fm_Md_peer (M : ux_M)  : ux_M := M
def fv_Md_peer (M : ux_M)  : Int32 := M 0 38

set_option maxHeartbeats 4000000 in
set_option maxRecDepth 100000 in
theorem c_Md_peer (l : Launch) (D : va_G) (ad : Nat → Nat) (cA : Nat → ClassId) (M : ux_M)  : Met l y_Md_peer w_Md_peer ({ frames := 0, cells := 0, slots := 0, locals := 0 }) (va_Pc [.ref (ad 0)] (ux_B D shM KM ad cA M)) (va_Qi (fun r M1 => M1 = fm_Md_peer M  ∧ r = fv_Md_peer M ) (ux_E D shM KM ad cA) (ux_A KM ad)) 0 0 (ux_A KM ad) := by
  refine Met.ofW (cc := b_Md_peer) (maxL := 1) (ret := (some .int)) (by decide) rfl ?_
  intro p e s m args below meth c s₁ B hml hv
  obtain ⟨rfl, hP, hK, hi, hN⟩ := hv
  have hx := B.exec
  have hb := B.bytes
  have hr := B.returns
  have hts := atoms_spec (ws := w_Md_peer) B.pre
  have hown : s.vm.findClass R_Md = some m.cls := findClass_of_methodNamed B.named
  have hlocks := B.notSynchronized
  have hT : ∀ w ∈ tb, w.before _ s = true := fun w h => hts w (List.mem_cons_of_mem _ h)
  have hS : va_S (ux_A KM ad) s.heap s.heap [] := va_S.rf
  have hl := lv_entry ([.ref (ad 0)]) (n := 1) (Nat.le_of_ble_eq_true rfl)
  rw [lg_entry_eq]
  generalize (lg_sl ([.ref (ad 0)]) ++ List.replicate (1 - (lg_sl ([.ref (ad 0)])).length) Slot.unset).toArray = ls at hl ⊢
  have hl : lv_has ls 1 [(0, .ref (ad 0))] := hl
  refine lv_aload_n hx hb d_Md_peer_0 rfl (lv_at hl 0 rfl) ?_
  refine ux_get (C := R_Md) (T := F_Md) (N := 50) hx hb hT in_Md hown hK hP (by decide) rfl rfl 38 (by decide) (hT _ fl_Md_126) rfl d_Md_peer_1 ?_
  exact W.iret (v := M 0 38) hx hb hr (fun t ht hW => ⟨⟨M 0 38, M, rfl, ⟨by rw [fm_Md_peer], by rw [fv_Md_peer]⟩, by unfold ux_E; rw [ht]; exact hP⟩, hS.F ht⟩) hS.2.2 d_Md_peer_4

def fm_Md_pending (M : ux_M)  : ux_M := M
def fv_Md_pending (M : ux_M)  : Int32 := M 0 44

set_option maxHeartbeats 4000000 in
set_option maxRecDepth 100000 in
theorem c_Md_pending (l : Launch) (D : va_G) (ad : Nat → Nat) (cA : Nat → ClassId) (M : ux_M)  : Met l y_Md_pending w_Md_pending ({ frames := 0, cells := 0, slots := 0, locals := 0 }) (va_Pc [.ref (ad 0)] (ux_B D shM KM ad cA M)) (va_Qi (fun r M1 => M1 = fm_Md_pending M  ∧ r = fv_Md_pending M ) (ux_E D shM KM ad cA) (ux_A KM ad)) 0 0 (ux_A KM ad) := by
  refine Met.ofW (cc := b_Md_pending) (maxL := 1) (ret := (some .int)) (by decide) rfl ?_
  intro p e s m args below meth c s₁ B hml hv
  obtain ⟨rfl, hP, hK, hi, hN⟩ := hv
  have hx := B.exec
  have hb := B.bytes
  have hr := B.returns
  have hts := atoms_spec (ws := w_Md_pending) B.pre
  have hown : s.vm.findClass R_Md = some m.cls := findClass_of_methodNamed B.named
  have hlocks := B.notSynchronized
  have hT : ∀ w ∈ tb, w.before _ s = true := fun w h => hts w (List.mem_cons_of_mem _ h)
  have hS : va_S (ux_A KM ad) s.heap s.heap [] := va_S.rf
  have hl := lv_entry ([.ref (ad 0)]) (n := 1) (Nat.le_of_ble_eq_true rfl)
  rw [lg_entry_eq]
  generalize (lg_sl ([.ref (ad 0)]) ++ List.replicate (1 - (lg_sl ([.ref (ad 0)])).length) Slot.unset).toArray = ls at hl ⊢
  have hl : lv_has ls 1 [(0, .ref (ad 0))] := hl
  refine lv_aload_n hx hb d_Md_pending_0 rfl (lv_at hl 0 rfl) ?_
  refine ux_get (C := R_Md) (T := F_Md) (N := 50) hx hb hT in_Md hown hK hP (by decide) rfl rfl 44 (by decide) (hT _ fl_Md_129) rfl d_Md_pending_1 ?_
  exact W.iret (v := M 0 44) hx hb hr (fun t ht hW => ⟨⟨M 0 44, M, rfl, ⟨by rw [fm_Md_pending], by rw [fv_Md_pending]⟩, by unfold ux_E; rw [ht]; exact hP⟩, hS.F ht⟩) hS.2.2 d_Md_pending_4

def fm_Md_buffered (M : ux_M)  : ux_M := M
def fv_Md_buffered (M : ux_M)  : Int32 := M 0 46

set_option maxHeartbeats 4000000 in
set_option maxRecDepth 100000 in
theorem c_Md_buffered (l : Launch) (D : va_G) (ad : Nat → Nat) (cA : Nat → ClassId) (M : ux_M)  : Met l y_Md_buffered w_Md_buffered ({ frames := 0, cells := 0, slots := 0, locals := 0 }) (va_Pc [.ref (ad 0)] (ux_B D shM KM ad cA M)) (va_Qi (fun r M1 => M1 = fm_Md_buffered M  ∧ r = fv_Md_buffered M ) (ux_E D shM KM ad cA) (ux_A KM ad)) 0 0 (ux_A KM ad) := by
  refine Met.ofW (cc := b_Md_buffered) (maxL := 1) (ret := (some .int)) (by decide) rfl ?_
  intro p e s m args below meth c s₁ B hml hv
  obtain ⟨rfl, hP, hK, hi, hN⟩ := hv
  have hx := B.exec
  have hb := B.bytes
  have hr := B.returns
  have hts := atoms_spec (ws := w_Md_buffered) B.pre
  have hown : s.vm.findClass R_Md = some m.cls := findClass_of_methodNamed B.named
  have hlocks := B.notSynchronized
  have hT : ∀ w ∈ tb, w.before _ s = true := fun w h => hts w (List.mem_cons_of_mem _ h)
  have hS : va_S (ux_A KM ad) s.heap s.heap [] := va_S.rf
  have hl := lv_entry ([.ref (ad 0)]) (n := 1) (Nat.le_of_ble_eq_true rfl)
  rw [lg_entry_eq]
  generalize (lg_sl ([.ref (ad 0)]) ++ List.replicate (1 - (lg_sl ([.ref (ad 0)])).length) Slot.unset).toArray = ls at hl ⊢
  have hl : lv_has ls 1 [(0, .ref (ad 0))] := hl
  refine lv_aload_n hx hb d_Md_buffered_0 rfl (lv_at hl 0 rfl) ?_
  refine ux_get (C := R_Md) (T := F_Md) (N := 50) hx hb hT in_Md hown hK hP (by decide) rfl rfl 46 (by decide) (hT _ fl_Md_132) rfl d_Md_buffered_1 ?_
  exact W.iret (v := M 0 46) hx hb hr (fun t ht hW => ⟨⟨M 0 46, M, rfl, ⟨by rw [fm_Md_buffered], by rw [fv_Md_buffered]⟩, by unfold ux_E; rw [ht]; exact hP⟩, hS.F ht⟩) hS.2.2 d_Md_buffered_4

def fm_Md_talk (M : ux_M)  : ux_M := M
def fv_Md_talk (M : ux_M)  : Int32 := M 0 48

set_option maxHeartbeats 4000000 in
set_option maxRecDepth 100000 in
theorem c_Md_talk (l : Launch) (D : va_G) (ad : Nat → Nat) (cA : Nat → ClassId) (M : ux_M)  : Met l y_Md_talk w_Md_talk ({ frames := 0, cells := 0, slots := 0, locals := 0 }) (va_Pc [.ref (ad 0)] (ux_B D shM KM ad cA M)) (va_Qi (fun r M1 => M1 = fm_Md_talk M  ∧ r = fv_Md_talk M ) (ux_E D shM KM ad cA) (ux_A KM ad)) 0 0 (ux_A KM ad) := by
  refine Met.ofW (cc := b_Md_talk) (maxL := 1) (ret := (some .int)) (by decide) rfl ?_
  intro p e s m args below meth c s₁ B hml hv
  obtain ⟨rfl, hP, hK, hi, hN⟩ := hv
  have hx := B.exec
  have hb := B.bytes
  have hr := B.returns
  have hts := atoms_spec (ws := w_Md_talk) B.pre
  have hown : s.vm.findClass R_Md = some m.cls := findClass_of_methodNamed B.named
  have hlocks := B.notSynchronized
  have hT : ∀ w ∈ tb, w.before _ s = true := fun w h => hts w (List.mem_cons_of_mem _ h)
  have hS : va_S (ux_A KM ad) s.heap s.heap [] := va_S.rf
  have hl := lv_entry ([.ref (ad 0)]) (n := 1) (Nat.le_of_ble_eq_true rfl)
  rw [lg_entry_eq]
  generalize (lg_sl ([.ref (ad 0)]) ++ List.replicate (1 - (lg_sl ([.ref (ad 0)])).length) Slot.unset).toArray = ls at hl ⊢
  have hl : lv_has ls 1 [(0, .ref (ad 0))] := hl
  refine lv_aload_n hx hb d_Md_talk_0 rfl (lv_at hl 0 rfl) ?_
  refine ux_get (C := R_Md) (T := F_Md) (N := 50) hx hb hT in_Md hown hK hP (by decide) rfl rfl 48 (by decide) (hT _ fl_Md_370) rfl d_Md_talk_1 ?_
  exact W.iret (v := M 0 48) hx hb hr (fun t ht hW => ⟨⟨M 0 48, M, rfl, ⟨by rw [fm_Md_talk], by rw [fv_Md_talk]⟩, by unfold ux_E; rw [ht]; exact hP⟩, hS.F ht⟩) hS.2.2 d_Md_talk_4

def fm_Md_outside (M : ux_M) (v a b : Int32) : ux_M := if v < a then M else if v ≤ b then M else M
def fv_Md_outside (M : ux_M) (v a b : Int32) : Int32 := if v < a then 1 else if v ≤ b then 0 else 1
theorem fk_Md_outside (M : ux_M) (v a b : Int32) : fm_Md_outside M v a b = M := by
  unfold fm_Md_outside
  repeat' split
  all_goals rfl

set_option maxHeartbeats 4000000 in
set_option maxRecDepth 100000 in
theorem c_Md_outside (l : Launch) (D : va_G) (ad : Nat → Nat) (cA : Nat → ClassId) (M : ux_M) (v a b : Int32) : Met l y_Md_outside w_Md_outside ({ frames := 0, cells := 0, slots := 0, locals := 0 }) (va_Pc [.int v, .int a, .int b] (ux_B D shM KM ad cA M)) (va_Qi (fun r M1 => M1 = fm_Md_outside M v a b ∧ r = fv_Md_outside M v a b) (ux_E D shM KM ad cA) (ux_A KM ad)) 0 0 (ux_A KM ad) := by
  refine Met.ofW (cc := b_Md_outside) (maxL := 3) (ret := (some .boolean)) (by decide) rfl ?_
  intro p e s m args below meth c s₁ B hml hv
  obtain ⟨rfl, hP, hK, hi, hN⟩ := hv
  have hx := B.exec
  have hb := B.bytes
  have hr := B.returns
  have hts := atoms_spec (ws := w_Md_outside) B.pre
  have hown : s.vm.findClass R_Md = some m.cls := findClass_of_methodNamed B.named
  have hlocks := B.notSynchronized
  have hT : ∀ w ∈ tb, w.before _ s = true := fun w h => hts w (List.mem_cons_of_mem _ h)
  have hS : va_S (ux_A KM ad) s.heap s.heap [] := va_S.rf
  have hl := lv_entry ([.int v, .int a, .int b]) (n := 3) (Nat.le_of_ble_eq_true rfl)
  rw [lg_entry_eq]
  generalize (lg_sl ([.int v, .int a, .int b]) ++ List.replicate (3 - (lg_sl ([.int v, .int a, .int b])).length) Slot.unset).toArray = ls at hl ⊢
  have hl : lv_has ls 3 [(0, .int v), (1, .int a), (2, .int b)] := hl
  refine lv_iload_n hx hb d_Md_outside_0 rfl (lv_at hl 0 rfl) ?_
  refine lv_iload_n hx hb d_Md_outside_1 rfl (lv_at hl 1 rfl) ?_
  refine lv_icmp_lt hx hb d_Md_outside_2 rfl (fun h1 => ?_) (fun h1 => ?_)
  · refine lv_iconst (v := 1) hx hb d_Md_outside_10 (by decide) ?_
    refine lv_goto hx hb d_Md_outside_11 rfl ?_
    exact W.zret (v := 1) hx hb hr (rfl) (fun t ht hW => ⟨⟨1, M, rfl, ⟨by rw [fm_Md_outside, if_pos h1], by rw [fv_Md_outside, if_pos h1]⟩, by unfold ux_E; rw [ht]; exact hP⟩, hS.F ht⟩) hS.2.2 d_Md_outside_15
  · refine lv_iload_n hx hb d_Md_outside_5 rfl (lv_at hl 0 rfl) ?_
    refine lv_iload_n hx hb d_Md_outside_6 rfl (lv_at hl 2 rfl) ?_
    refine lv_icmp_le hx hb d_Md_outside_7 rfl (fun h2 => ?_) (fun h2 => ?_)
    · refine lv_iconst (v := 0) hx hb d_Md_outside_14 (by decide) ?_
      exact W.zret (v := 0) hx hb hr (rfl) (fun t ht hW => ⟨⟨0, M, rfl, ⟨by rw [fm_Md_outside, if_neg h1, if_pos h2], by rw [fv_Md_outside, if_neg h1, if_pos h2]⟩, by unfold ux_E; rw [ht]; exact hP⟩, hS.F ht⟩) hS.2.2 d_Md_outside_15
    · refine lv_iconst (v := 1) hx hb d_Md_outside_10 (by decide) ?_
      refine lv_goto hx hb d_Md_outside_11 rfl ?_
      exact W.zret (v := 1) hx hb hr (rfl) (fun t ht hW => ⟨⟨1, M, rfl, ⟨by rw [fm_Md_outside, if_neg h1, if_neg h2], by rw [fv_Md_outside, if_neg h1, if_neg h2]⟩, by unfold ux_E; rw [ht]; exact hP⟩, hS.F ht⟩) hS.2.2 d_Md_outside_15

theorem nx_out {M : ux_M} {v : Int32} {n : Nat} {b : Int32} (hn : n ≤ 1000) (hb : b.toInt + 1 ≤ n) (h : fv_Md_outside M v 0 b = 0) : vp_in v n := by
  unfold fv_Md_outside at h
  by_cases h1 : v < 0
  · rw [if_pos h1] at h; exact absurd h (by decide)
  rw [if_neg h1] at h
  by_cases h2 : v ≤ b
  · rw [vp_in_iff]
    rw [Int32.le_iff_toInt_le] at h2
    rw [Int32.lt_iff_toInt_lt] at h1
    have h0 : (0 : Int32).toInt = 0 := rfl
    rw [h0] at h1
    omega
  · rw [if_neg h2] at h; exact absurd h (by decide)
theorem nx_out0 {M : ux_M} {v b : Int32} (h : fv_Md_outside M v 0 b = 0) : ¬ v < 0 := by
  unfold fv_Md_outside at h
  intro h1
  rw [if_pos h1] at h
  exact absurd h (by decide)
theorem nx_le {k x : Int32} {n : Nat} (h1 : ¬ k < 0) (h2 : ¬ x ≤ k) (hx : x.toInt ≤ n) : vp_in k n := by
  rw [vp_in_iff]
  rw [Int32.le_iff_toInt_le] at h2
  rw [Int32.lt_iff_toInt_lt] at h1
  have h0 : (0 : Int32).toInt = 0 := rfl
  rw [h0] at h1
  omega
theorem nx_200 {x : Int32} (h0 : 0 ≤ x.toInt) (h : ¬ 200 ≤ x) : vp_in x 200 := nx_vin (by decide) (nx_n0 h0) h
theorem nx_hl {v k x : Int32} (hv : vp_in v 26) (h1 : ¬ x ≤ k) (h2 : ¬ k < 0) (hx : x.toInt ≤ 20) : vp_in (20 * v + k) 4160 := by
  have hk : vp_in k 20 := nx_le h2 h1 hx
  obtain ⟨a, ha, rfl⟩ := vp_in_of hv (by decide)
  obtain ⟨b, hb, rfl⟩ := vp_in_of hk (by decide)
  rw [show (20 : Int32) = nI 20 from rfl, pk_mul, nI_add]
  exact vp_in_nI (by omega) (by decide)

def fm_Md_reset (M : ux_M)  : ux_M := (ux_wr (ux_wr (ux_wr (ux_wr M 0 39 0) 0 38 0) 0 44 0) 0 46 0)

set_option maxHeartbeats 4000000 in
set_option maxRecDepth 100000 in
theorem c_Md_reset (l : Launch) (D : va_G) (ad : Nat → Nat) (cA : Nat → ClassId) (M : ux_M)  : Met l y_Md_reset w_Md_reset ({ frames := 0, cells := 0, slots := 0, locals := 0 }) (va_Pc [.ref (ad 0)] (ux_B D shM KM ad cA M)) (va_Qv (fun M1 => M1 = fm_Md_reset M ) (ux_E D shM KM ad cA) (ux_A KM ad)) 0 0 (ux_A KM ad) := by
  refine Met.ofW (cc := b_Md_reset) (maxL := 1) (ret := none) (by decide) rfl ?_
  intro p e s m args below meth c s₁ B hml hv
  obtain ⟨rfl, hP, hK, hi, hN⟩ := hv
  have hx := B.exec
  have hb := B.bytes
  have hr := B.returns
  have hts := atoms_spec (ws := w_Md_reset) B.pre
  have hown : s.vm.findClass R_Md = some m.cls := findClass_of_methodNamed B.named
  have hlocks := B.notSynchronized
  have hT : ∀ w ∈ tb, w.before _ s = true := fun w h => hts w (List.mem_cons_of_mem _ h)
  have hS : va_S (ux_A KM ad) s.heap s.heap [] := va_S.rf
  have hl := lv_entry ([.ref (ad 0)]) (n := 1) (Nat.le_of_ble_eq_true rfl)
  rw [lg_entry_eq]
  generalize (lg_sl ([.ref (ad 0)]) ++ List.replicate (1 - (lg_sl ([.ref (ad 0)])).length) Slot.unset).toArray = ls at hl ⊢
  have hl : lv_has ls 1 [(0, .ref (ad 0))] := hl
  refine lv_aload_n hx hb d_Md_reset_0 rfl (lv_at hl 0 rfl) ?_
  refine lv_iconst (v := 0) hx hb d_Md_reset_1 (by decide) ?_
  refine ux_put (C := R_Md) (T := F_Md) (N := 50) hx hb hT in_Md t_Md t_Md_ok n_Md hown hK hi hP hS (by decide) rfl rfl 39 (by decide) (hT _ fl_Md_123) rfl (rfl) (rfl) rfl d_Md_reset_2 (fun H locs hP hS => ?_)
  refine lv_aload_n hx hb d_Md_reset_5 rfl (lv_at hl 0 rfl) ?_
  refine lv_iconst (v := 0) hx hb d_Md_reset_6 (by decide) ?_
  refine ux_put (C := R_Md) (T := F_Md) (N := 50) hx hb hT in_Md t_Md t_Md_ok n_Md hown hK hi hP hS (by decide) rfl rfl 38 (by decide) (hT _ fl_Md_126) rfl (rfl) (rfl) rfl d_Md_reset_7 (fun H locs hP hS => ?_)
  refine lv_aload_n hx hb d_Md_reset_10 rfl (lv_at hl 0 rfl) ?_
  refine lv_iconst (v := 0) hx hb d_Md_reset_11 (by decide) ?_
  refine ux_put (C := R_Md) (T := F_Md) (N := 50) hx hb hT in_Md t_Md t_Md_ok n_Md hown hK hi hP hS (by decide) rfl rfl 44 (by decide) (hT _ fl_Md_129) rfl (rfl) (rfl) rfl d_Md_reset_12 (fun H locs hP hS => ?_)
  refine lv_aload_n hx hb d_Md_reset_15 rfl (lv_at hl 0 rfl) ?_
  refine lv_iconst (v := 0) hx hb d_Md_reset_16 (by decide) ?_
  refine ux_put (C := R_Md) (T := F_Md) (N := 50) hx hb hT in_Md t_Md t_Md_ok n_Md hown hK hi hP hS (by decide) rfl rfl 46 (by decide) (hT _ fl_Md_132) rfl (rfl) (rfl) rfl d_Md_reset_17 (fun H locs hP hS => ?_)
  exact W.vret hx hb hr (fun t ht hW => ⟨⟨(ux_wr (ux_wr (ux_wr (ux_wr M 0 39 0) 0 38 0) 0 44 0) 0 46 0), rfl, by rw [fm_Md_reset], by unfold ux_E; rw [ht]; exact hP⟩, hS.F ht⟩) hS.2.2 d_Md_reset_20

def fm_Md_at (M : ux_M) (k : Int32) : ux_M := if k < 0 then M else if (M 0 25) ≤ k then M else M
def fv_Md_at (M : ux_M) (k : Int32) : Int32 := if k < 0 then 0 else if (M 0 25) ≤ k then 0 else M 21 k.toNatClampNeg

set_option maxHeartbeats 4000000 in
set_option maxRecDepth 100000 in
theorem c_Md_at (l : Launch) (D : va_G) (ad : Nat → Nat) (cA : Nat → ClassId) (M : ux_M) (k : Int32) (hc : (M 0 25).toInt ≤ 20) : Met l y_Md_at w_Md_at ({ frames := 0, cells := 0, slots := 0, locals := 0 }) (va_Pc [.ref (ad 0), .int k] (ux_B D shM KM ad cA M)) (va_Qi (fun r M1 => M1 = fm_Md_at M k ∧ r = fv_Md_at M k) (ux_E D shM KM ad cA) (ux_A KM ad)) 0 0 (ux_A KM ad) := by
  refine Met.ofW (cc := b_Md_at) (maxL := 2) (ret := (some .int)) (by decide) rfl ?_
  intro p e s m args below meth c s₁ B hml hv
  obtain ⟨rfl, hP, hK, hi, hN⟩ := hv
  have hx := B.exec
  have hb := B.bytes
  have hr := B.returns
  have hts := atoms_spec (ws := w_Md_at) B.pre
  have hown : s.vm.findClass R_Md = some m.cls := findClass_of_methodNamed B.named
  have hlocks := B.notSynchronized
  have hT : ∀ w ∈ tb, w.before _ s = true := fun w h => hts w (List.mem_cons_of_mem _ h)
  have hS : va_S (ux_A KM ad) s.heap s.heap [] := va_S.rf
  have hl := lv_entry ([.ref (ad 0), .int k]) (n := 2) (Nat.le_of_ble_eq_true rfl)
  rw [lg_entry_eq]
  generalize (lg_sl ([.ref (ad 0), .int k]) ++ List.replicate (2 - (lg_sl ([.ref (ad 0), .int k])).length) Slot.unset).toArray = ls at hl ⊢
  have hl : lv_has ls 2 [(0, .ref (ad 0)), (1, .int k)] := hl
  refine lv_iload_n hx hb d_Md_at_0 rfl (lv_at hl 1 rfl) ?_
  refine lv_if_lt hx hb d_Md_at_1 rfl (fun h1 => ?_) (fun h1 => ?_)
  · refine lv_iconst (v := 0) hx hb d_Md_at_21 (by decide) ?_
    exact W.iret (v := 0) hx hb hr (fun t ht hW => ⟨⟨0, M, rfl, ⟨by rw [fm_Md_at, if_pos h1], by rw [fv_Md_at, if_pos h1]⟩, by unfold ux_E; rw [ht]; exact hP⟩, hS.F ht⟩) hS.2.2 d_Md_at_22
  · refine lv_iload_n hx hb d_Md_at_4 rfl (lv_at hl 1 rfl) ?_
    refine lv_aload_n hx hb d_Md_at_5 rfl (lv_at hl 0 rfl) ?_
    refine ux_get (C := R_Md) (T := F_Md) (N := 50) hx hb hT in_Md hown hK hP (by decide) rfl rfl 25 (by decide) (hT _ fl_Md_135) rfl d_Md_at_6 ?_
    refine lv_icmp_ge hx hb d_Md_at_9 rfl (fun h2 => ?_) (fun h2 => ?_)
    · refine lv_iconst (v := 0) hx hb d_Md_at_21 (by decide) ?_
      exact W.iret (v := 0) hx hb hr (fun t ht hW => ⟨⟨0, M, rfl, ⟨by rw [fm_Md_at, if_neg h1, if_pos h2], by rw [fv_Md_at, if_neg h1, if_pos h2]⟩, by unfold ux_E; rw [ht]; exact hP⟩, hS.F ht⟩) hS.2.2 d_Md_at_22
    · refine lv_aload_n hx hb d_Md_at_12 rfl (lv_at hl 0 rfl) ?_
      refine ux_get (C := R_Md) (T := F_Md) (N := 50) hx hb hT in_Md hown hK hP (by decide) rfl rfl 26 (by decide) (hT _ fl_Md_76) rfl d_Md_at_13 ?_
      refine lv_iload_n hx hb d_Md_at_16 rfl (lv_at hl 1 rfl) ?_
      refine ux_cald hx hb hK hP (by decide) rfl (nx_le h1 h2 hc) d_Md_at_17 ?_
      refine lv_goto hx hb d_Md_at_18 rfl ?_
      exact W.iret (v := M 21 k.toNatClampNeg) hx hb hr (fun t ht hW => ⟨⟨M 21 k.toNatClampNeg, M, rfl, ⟨by rw [fm_Md_at, if_neg h1, if_neg h2], by rw [fv_Md_at, if_neg h1, if_neg h2]⟩, by unfold ux_E; rw [ht]; exact hP⟩, hS.F ht⟩) hS.2.2 d_Md_at_22

def fm_Md_size (M : ux_M) (v : Int32) : ux_M := if (fv_Md_outside M v 0 25) = 0 then M else M
def fv_Md_size (M : ux_M) (v : Int32) : Int32 := if (fv_Md_outside M v 0 25) = 0 then M 2 v.toNatClampNeg else -1
theorem fk_Md_size (M : ux_M) (v : Int32) : fm_Md_size M v = M := by
  unfold fm_Md_size
  repeat' split
  all_goals rfl

set_option maxHeartbeats 4000000 in
set_option maxRecDepth 100000 in
theorem c_Md_size (l : Launch) (D : va_G) (ad : Nat → Nat) (cA : Nat → ClassId) (M : ux_M) (v : Int32) : Met l y_Md_size w_Md_size ({ frames := 1, cells := 0, slots := 0, locals := 22 }) (va_Pc [.ref (ad 0), .int v] (ux_B D shM KM ad cA M)) (va_Qi (fun r M1 => M1 = fm_Md_size M v ∧ r = fv_Md_size M v) (ux_E D shM KM ad cA) (ux_A KM ad)) 0 0 (ux_A KM ad) := by
  refine Met.ofW (cc := b_Md_size) (maxL := 2) (ret := (some .int)) (by decide) rfl ?_
  intro p e s m args below meth c s₁ B hml hv
  obtain ⟨rfl, hP, hK, hi, hN⟩ := hv
  have hx := B.exec
  have hb := B.bytes
  have hr := B.returns
  have hts := atoms_spec (ws := w_Md_size) B.pre
  have hown : s.vm.findClass R_Md = some m.cls := findClass_of_methodNamed B.named
  have hlocks := B.notSynchronized
  have hT : ∀ w ∈ tb, w.before _ s = true := fun w h => hts w (List.mem_cons_of_mem _ h)
  have hS : va_S (ux_A KM ad) s.heap s.heap [] := va_S.rf
  have hl := lv_entry ([.ref (ad 0), .int v]) (n := 2) (Nat.le_of_ble_eq_true rfl)
  rw [lg_entry_eq]
  generalize (lg_sl ([.ref (ad 0), .int v]) ++ List.replicate (2 - (lg_sl ([.ref (ad 0), .int v])).length) Slot.unset).toArray = ls at hl ⊢
  have hl : lv_has ls 2 [(0, .ref (ad 0)), (1, .int v)] := hl
  refine lv_iload_n hx hb d_Md_size_0 rfl (lv_at hl 1 rfl) ?_
  refine lv_iconst (v := 0) hx hb d_Md_size_1 (by decide) ?_
  refine lv_bipush (v := 25) hx hb d_Md_size_2 (by decide) ?_
  refine ux_calli (va_runS ⟨hx, hb, hml, hown, hts⟩ (c_Md_outside l D ad cA M v 0 25 ) (va_cwS 3 hts (tb_goodST ml_Md_119 sm_Md_outside ii_Md kt_Md_outside) rfl rfl rfl (by decide +kernel) ⟨Nat.le_of_ble_eq_true rfl, Nat.le_of_ble_eq_true rfl⟩) (ux_pre hP hK hi hN) rfl rfl hl.1 rfl (lv_room (Nat.le_of_ble_eq_true rfl)) d_Md_size_4 ⟨Nat.zero_le _, Nat.zero_le _⟩) hS (fun r1 M2 H locs q3 hP hS => ?_)
  obtain ⟨q3m, q3e⟩ := q3
  rw [q3m] at hP
  subst q3e
  rw [fk_Md_outside] at hP
  refine lv_if_eq hx hb d_Md_size_7 rfl (fun h4 => ?_) (fun h4 => ?_)
  · refine lv_aload_n hx hb d_Md_size_14 rfl (lv_at hl 0 rfl) ?_
    refine ux_get (C := R_Md) (T := F_Md) (N := 50) hx hb hT in_Md hown hK hP (by decide) rfl rfl 3 (by decide) (hT _ fl_Md_13) rfl d_Md_size_15 ?_
    refine lv_iload_n hx hb d_Md_size_18 rfl (lv_at hl 1 rfl) ?_
    refine ux_iald hx hb hK hP (by decide) rfl (nx_out (by decide) (by decide) h4) d_Md_size_19 ?_
    exact W.iret (v := M 2 v.toNatClampNeg) hx hb hr (fun t ht hW => ⟨⟨M 2 v.toNatClampNeg, M, rfl, ⟨by rw [fm_Md_size, if_pos h4], by rw [fv_Md_size, if_pos h4]⟩, by unfold ux_E; rw [ht]; exact hP⟩, hS.F ht⟩) hS.2.2 d_Md_size_20
  · refine lv_iconst (v := (-1)) hx hb d_Md_size_10 (by decide) ?_
    refine lv_goto hx hb d_Md_size_11 rfl ?_
    exact W.iret (v := -1) hx hb hr (fun t ht hW => ⟨⟨-1, M, rfl, ⟨by rw [fm_Md_size, if_neg h4], by rw [fv_Md_size, if_neg h4]⟩, by unfold ux_E; rw [ht]; exact hP⟩, hS.F ht⟩) hS.2.2 d_Md_size_20

def fm_Md_defined (M : ux_M) (v : Int32) : ux_M := if (fv_Md_outside M v 0 25) = 0 then if (M 5 v.toNatClampNeg) = 0 then M else M else M
def fv_Md_defined (M : ux_M) (v : Int32) : Int32 := if (fv_Md_outside M v 0 25) = 0 then if (M 5 v.toNatClampNeg) = 0 then 0 else 1 else 0

set_option maxHeartbeats 4000000 in
set_option maxRecDepth 100000 in
theorem c_Md_defined (l : Launch) (D : va_G) (ad : Nat → Nat) (cA : Nat → ClassId) (M : ux_M) (v : Int32) : Met l y_Md_defined w_Md_defined ({ frames := 1, cells := 0, slots := 0, locals := 22 }) (va_Pc [.ref (ad 0), .int v] (ux_B D shM KM ad cA M)) (va_Qi (fun r M1 => M1 = fm_Md_defined M v ∧ r = fv_Md_defined M v) (ux_E D shM KM ad cA) (ux_A KM ad)) 0 0 (ux_A KM ad) := by
  refine Met.ofW (cc := b_Md_defined) (maxL := 2) (ret := (some .boolean)) (by decide) rfl ?_
  intro p e s m args below meth c s₁ B hml hv
  obtain ⟨rfl, hP, hK, hi, hN⟩ := hv
  have hx := B.exec
  have hb := B.bytes
  have hr := B.returns
  have hts := atoms_spec (ws := w_Md_defined) B.pre
  have hown : s.vm.findClass R_Md = some m.cls := findClass_of_methodNamed B.named
  have hlocks := B.notSynchronized
  have hT : ∀ w ∈ tb, w.before _ s = true := fun w h => hts w (List.mem_cons_of_mem _ h)
  have hS : va_S (ux_A KM ad) s.heap s.heap [] := va_S.rf
  have hl := lv_entry ([.ref (ad 0), .int v]) (n := 2) (Nat.le_of_ble_eq_true rfl)
  rw [lg_entry_eq]
  generalize (lg_sl ([.ref (ad 0), .int v]) ++ List.replicate (2 - (lg_sl ([.ref (ad 0), .int v])).length) Slot.unset).toArray = ls at hl ⊢
  have hl : lv_has ls 2 [(0, .ref (ad 0)), (1, .int v)] := hl
  refine lv_iload_n hx hb d_Md_defined_0 rfl (lv_at hl 1 rfl) ?_
  refine lv_iconst (v := 0) hx hb d_Md_defined_1 (by decide) ?_
  refine lv_bipush (v := 25) hx hb d_Md_defined_2 (by decide) ?_
  refine ux_calli (va_runS ⟨hx, hb, hml, hown, hts⟩ (c_Md_outside l D ad cA M v 0 25 ) (va_cwS 3 hts (tb_goodST ml_Md_119 sm_Md_outside ii_Md kt_Md_outside) rfl rfl rfl (by decide +kernel) ⟨Nat.le_of_ble_eq_true rfl, Nat.le_of_ble_eq_true rfl⟩) (ux_pre hP hK hi hN) rfl rfl hl.1 rfl (lv_room (Nat.le_of_ble_eq_true rfl)) d_Md_defined_4 ⟨Nat.zero_le _, Nat.zero_le _⟩) hS (fun r1 M2 H locs q3 hP hS => ?_)
  obtain ⟨q3m, q3e⟩ := q3
  rw [q3m] at hP
  subst q3e
  rw [fk_Md_outside] at hP
  refine lv_if_ne hx hb d_Md_defined_7 rfl (fun h4 => ?_) (fun h4 => ?_)
  · refine lv_iconst (v := 0) hx hb d_Md_defined_23 (by decide) ?_
    exact W.zret (v := 0) hx hb hr (rfl) (fun t ht hW => ⟨⟨0, M, rfl, ⟨by rw [fm_Md_defined, if_neg h4], by rw [fv_Md_defined, if_neg h4]⟩, by unfold ux_E; rw [ht]; exact hP⟩, hS.F ht⟩) hS.2.2 d_Md_defined_24
  · refine lv_aload_n hx hb d_Md_defined_10 rfl (lv_at hl 0 rfl) ?_
    refine ux_get (C := R_Md) (T := F_Md) (N := 50) hx hb hT in_Md hown hK hP (by decide) rfl rfl 6 (by decide) (hT _ fl_Md_24) rfl d_Md_defined_11 ?_
    refine lv_iload_n hx hb d_Md_defined_14 rfl (lv_at hl 1 rfl) ?_
    refine ux_zald hx hb hK hP (by decide) rfl (nx_out (by decide) (by decide) h4) d_Md_defined_15 ?_
    refine lv_if_eq hx hb d_Md_defined_16 rfl (fun h5 => ?_) (fun h5 => ?_)
    · refine lv_iconst (v := 0) hx hb d_Md_defined_23 (by decide) ?_
      exact W.zret (v := 0) hx hb hr (rfl) (fun t ht hW => ⟨⟨0, M, rfl, ⟨by rw [fm_Md_defined, if_pos h4, if_pos h5], by rw [fv_Md_defined, if_pos h4, if_pos h5]⟩, by unfold ux_E; rw [ht]; exact hP⟩, hS.F ht⟩) hS.2.2 d_Md_defined_24
    · refine lv_iconst (v := 1) hx hb d_Md_defined_19 (by decide) ?_
      refine lv_goto hx hb d_Md_defined_20 rfl ?_
      exact W.zret (v := 1) hx hb hr (rfl) (fun t ht hW => ⟨⟨1, M, rfl, ⟨by rw [fm_Md_defined, if_pos h4, if_neg h5], by rw [fv_Md_defined, if_pos h4, if_neg h5]⟩, by unfold ux_E; rw [ht]; exact hP⟩, hS.F ht⟩) hS.2.2 d_Md_defined_24

def fm_Md_talked (M : ux_M) (k : Int32) : ux_M := if (fv_Md_outside M k 0 39) = 0 then if k < (M 0 48) then M else M else M
def fv_Md_talked (M : ux_M) (k : Int32) : Int32 := if (fv_Md_outside M k 0 39) = 0 then if k < (M 0 48) then M 32 (((((M 0 48) - 1) - k) - (((M 0 48) - 1) - k) / 40 * 40).toNatClampNeg) else 0 else 0

set_option maxHeartbeats 4000000 in
set_option maxRecDepth 100000 in
theorem c_Md_talked (l : Launch) (D : va_G) (ad : Nat → Nat) (cA : Nat → ClassId) (M : ux_M) (k : Int32) (hc : 0 ≤ (M 0 48).toInt) : Met l y_Md_talked w_Md_talked ({ frames := 1, cells := 0, slots := 0, locals := 22 }) (va_Pc [.ref (ad 0), .int k] (ux_B D shM KM ad cA M)) (va_Qi (fun r M1 => M1 = fm_Md_talked M k ∧ r = fv_Md_talked M k) (ux_E D shM KM ad cA) (ux_A KM ad)) 0 0 (ux_A KM ad) := by
  refine Met.ofW (cc := b_Md_talked) (maxL := 2) (ret := (some .int)) (by decide) rfl ?_
  intro p e s m args below meth c s₁ B hml hv
  obtain ⟨rfl, hP, hK, hi, hN⟩ := hv
  have hx := B.exec
  have hb := B.bytes
  have hr := B.returns
  have hts := atoms_spec (ws := w_Md_talked) B.pre
  have hown : s.vm.findClass R_Md = some m.cls := findClass_of_methodNamed B.named
  have hlocks := B.notSynchronized
  have hT : ∀ w ∈ tb, w.before _ s = true := fun w h => hts w (List.mem_cons_of_mem _ h)
  have hS : va_S (ux_A KM ad) s.heap s.heap [] := va_S.rf
  have hl := lv_entry ([.ref (ad 0), .int k]) (n := 2) (Nat.le_of_ble_eq_true rfl)
  rw [lg_entry_eq]
  generalize (lg_sl ([.ref (ad 0), .int k]) ++ List.replicate (2 - (lg_sl ([.ref (ad 0), .int k])).length) Slot.unset).toArray = ls at hl ⊢
  have hl : lv_has ls 2 [(0, .ref (ad 0)), (1, .int k)] := hl
  refine lv_iload_n hx hb d_Md_talked_0 rfl (lv_at hl 1 rfl) ?_
  refine lv_iconst (v := 0) hx hb d_Md_talked_1 (by decide) ?_
  refine lv_bipush (v := 39) hx hb d_Md_talked_2 (by decide) ?_
  refine ux_calli (va_runS ⟨hx, hb, hml, hown, hts⟩ (c_Md_outside l D ad cA M k 0 39 ) (va_cwS 3 hts (tb_goodST ml_Md_119 sm_Md_outside ii_Md kt_Md_outside) rfl rfl rfl (by decide +kernel) ⟨Nat.le_of_ble_eq_true rfl, Nat.le_of_ble_eq_true rfl⟩) (ux_pre hP hK hi hN) rfl rfl hl.1 rfl (lv_room (Nat.le_of_ble_eq_true rfl)) d_Md_talked_4 ⟨Nat.zero_le _, Nat.zero_le _⟩) hS (fun r1 M2 H locs q3 hP hS => ?_)
  obtain ⟨q3m, q3e⟩ := q3
  rw [q3m] at hP
  subst q3e
  rw [fk_Md_outside] at hP
  refine lv_if_ne hx hb d_Md_talked_7 rfl (fun h4 => ?_) (fun h4 => ?_)
  · refine lv_iconst (v := 0) hx hb d_Md_talked_18 (by decide) ?_
    refine lv_goto hx hb d_Md_talked_19 rfl ?_
    exact W.iret (v := 0) hx hb hr (fun t ht hW => ⟨⟨0, M, rfl, ⟨by rw [fm_Md_talked, if_neg h4], by rw [fv_Md_talked, if_neg h4]⟩, by unfold ux_E; rw [ht]; exact hP⟩, hS.F ht⟩) hS.2.2 d_Md_talked_38
  · refine lv_iload_n hx hb d_Md_talked_10 rfl (lv_at hl 1 rfl) ?_
    refine lv_aload_n hx hb d_Md_talked_11 rfl (lv_at hl 0 rfl) ?_
    refine ux_get (C := R_Md) (T := F_Md) (N := 50) hx hb hT in_Md hown hK hP (by decide) rfl rfl 48 (by decide) (hT _ fl_Md_370) rfl d_Md_talked_12 ?_
    refine lv_icmp_lt hx hb d_Md_talked_15 rfl (fun h5 => ?_) (fun h5 => ?_)
    · refine lv_aload_n hx hb d_Md_talked_22 rfl (lv_at hl 0 rfl) ?_
      refine ux_get (C := R_Md) (T := F_Md) (N := 50) hx hb hT in_Md hown hK hP (by decide) rfl rfl 49 (by decide) (hT _ fl_Md_109) rfl d_Md_talked_23 ?_
      refine lv_aload_n hx hb d_Md_talked_26 rfl (lv_at hl 0 rfl) ?_
      refine ux_get (C := R_Md) (T := F_Md) (N := 50) hx hb hT in_Md hown hK hP (by decide) rfl rfl 48 (by decide) (hT _ fl_Md_370) rfl d_Md_talked_27 ?_
      refine lv_iconst (v := 1) hx hb d_Md_talked_30 (by decide) ?_
      refine lv_isub hx hb d_Md_talked_31 ?_
      refine lv_iload_n hx hb d_Md_talked_32 rfl (lv_at hl 1 rfl) ?_
      refine lv_isub hx hb d_Md_talked_33 ?_
      refine lv_bipush (v := 40) hx hb d_Md_talked_34 (by decide) ?_
      refine lv_irem hx hb d_Md_talked_36 ((by decide : ¬ (40 : Int32) = 0)) ?_
      refine ux_iald hx hb hK hP (by decide) rfl (nx_r40 (nx_bl hc (nx_out0 h4) h5)) d_Md_talked_37 ?_
      exact W.iret (v := M 32 (((((M 0 48) - 1) - k) - (((M 0 48) - 1) - k) / 40 * 40).toNatClampNeg)) hx hb hr (fun t ht hW => ⟨⟨M 32 (((((M 0 48) - 1) - k) - (((M 0 48) - 1) - k) / 40 * 40).toNatClampNeg), M, rfl, ⟨by rw [fm_Md_talked, if_pos h4, if_pos h5], by rw [fv_Md_talked, if_pos h4, if_pos h5]⟩, by unfold ux_E; rw [ht]; exact hP⟩, hS.F ht⟩) hS.2.2 d_Md_talked_38
    · refine lv_iconst (v := 0) hx hb d_Md_talked_18 (by decide) ?_
      refine lv_goto hx hb d_Md_talked_19 rfl ?_
      exact W.iret (v := 0) hx hb hr (fun t ht hW => ⟨⟨0, M, rfl, ⟨by rw [fm_Md_talked, if_pos h4, if_neg h5], by rw [fv_Md_talked, if_pos h4, if_neg h5]⟩, by unfold ux_E; rw [ht]; exact hP⟩, hS.F ht⟩) hS.2.2 d_Md_talked_38

def fm_Md_put (M : ux_M) (ch : Int32) : ux_M := if ch = 10 then if 200 ≤ (M 0 1) then M else if (M 0 2) = 0 then (ux_wr (ux_wr M 1 (M 0 1).toNatClampNeg (vp_nar .char ch)) 0 1 ((M 0 1) + 1)) else M else if ch < 32 then M else if 126 < ch then M else if 200 ≤ (M 0 1) then M else if (M 0 2) = 0 then (ux_wr (ux_wr M 1 (M 0 1).toNatClampNeg (vp_nar .char ch)) 0 1 ((M 0 1) + 1)) else M
def fv_Md_put (M : ux_M) (ch : Int32) : Int32 := if ch = 10 then if 200 ≤ (M 0 1) then 0 else if (M 0 2) = 0 then 1 else 0 else if ch < 32 then 0 else if 126 < ch then 0 else if 200 ≤ (M 0 1) then 0 else if (M 0 2) = 0 then 1 else 0

set_option maxHeartbeats 4000000 in
set_option maxRecDepth 100000 in
theorem c_Md_put (l : Launch) (D : va_G) (ad : Nat → Nat) (cA : Nat → ClassId) (M : ux_M) (ch : Int32) (hc : 0 ≤ (M 0 1).toInt) : Met l y_Md_put w_Md_put ({ frames := 0, cells := 0, slots := 0, locals := 0 }) (va_Pc [.ref (ad 0), .int ch] (ux_B D shM KM ad cA M)) (va_Qi (fun r M1 => M1 = fm_Md_put M ch ∧ r = fv_Md_put M ch) (ux_E D shM KM ad cA) (ux_A KM ad)) 0 0 (ux_A KM ad) := by
  refine Met.ofW (cc := b_Md_put) (maxL := 2) (ret := (some .boolean)) (by decide) rfl ?_
  intro p e s m args below meth c s₁ B hml hv
  obtain ⟨rfl, hP, hK, hi, hN⟩ := hv
  have hx := B.exec
  have hb := B.bytes
  have hr := B.returns
  have hts := atoms_spec (ws := w_Md_put) B.pre
  have hown : s.vm.findClass R_Md = some m.cls := findClass_of_methodNamed B.named
  have hlocks := B.notSynchronized
  have hT : ∀ w ∈ tb, w.before _ s = true := fun w h => hts w (List.mem_cons_of_mem _ h)
  have hS : va_S (ux_A KM ad) s.heap s.heap [] := va_S.rf
  have hl := lv_entry ([.ref (ad 0), .int ch]) (n := 2) (Nat.le_of_ble_eq_true rfl)
  rw [lg_entry_eq]
  generalize (lg_sl ([.ref (ad 0), .int ch]) ++ List.replicate (2 - (lg_sl ([.ref (ad 0), .int ch])).length) Slot.unset).toArray = ls at hl ⊢
  have hl : lv_has ls 2 [(0, .ref (ad 0)), (1, .int ch)] := hl
  refine lv_iload_n hx hb d_Md_put_0 rfl (lv_at hl 1 rfl) ?_
  refine lv_bipush (v := 10) hx hb d_Md_put_1 (by decide) ?_
  refine lv_icmp_eq hx hb d_Md_put_3 rfl (fun h1 => ?_) (fun h1 => ?_)
  · refine lv_aload_n hx hb d_Md_put_18 rfl (lv_at hl 0 rfl) ?_
    refine ux_get (C := R_Md) (T := F_Md) (N := 50) hx hb hT in_Md hown hK hP (by decide) rfl rfl 1 (by decide) (hT _ fl_Md_112) rfl d_Md_put_19 ?_
    refine lv_sipush (v := 200) hx hb d_Md_put_22 (by decide) ?_
    refine lv_icmp_ge hx hb d_Md_put_25 rfl (fun h2 => ?_) (fun h2 => ?_)
    · refine lv_iconst (v := 0) hx hb d_Md_put_35 (by decide) ?_
      exact W.zret (v := 0) hx hb hr (rfl) (fun t ht hW => ⟨⟨0, M, rfl, ⟨by rw [fm_Md_put, if_pos h1, if_pos h2], by rw [fv_Md_put, if_pos h1, if_pos h2]⟩, by unfold ux_E; rw [ht]; exact hP⟩, hS.F ht⟩) hS.2.2 d_Md_put_36
    · refine lv_aload_n hx hb d_Md_put_28 rfl (lv_at hl 0 rfl) ?_
      refine ux_get (C := R_Md) (T := F_Md) (N := 50) hx hb hT in_Md hown hK hP (by decide) rfl rfl 2 (by decide) (hT _ fl_Md_115) rfl d_Md_put_29 ?_
      refine lv_if_eq hx hb d_Md_put_32 rfl (fun h3 => ?_) (fun h3 => ?_)
      · refine lv_aload_n hx hb d_Md_put_37 rfl (lv_at hl 0 rfl) ?_
        refine ux_get (C := R_Md) (T := F_Md) (N := 50) hx hb hT in_Md hown hK hP (by decide) rfl rfl 0 (by decide) (hT _ fl_Md_7) rfl d_Md_put_38 ?_
        refine lv_aload_n hx hb d_Md_put_41 rfl (lv_at hl 0 rfl) ?_
        refine ux_get (C := R_Md) (T := F_Md) (N := 50) hx hb hT in_Md hown hK hP (by decide) rfl rfl 1 (by decide) (hT _ fl_Md_112) rfl d_Md_put_42 ?_
        refine lv_iload_n hx hb d_Md_put_45 rfl (lv_at hl 1 rfl) ?_
        refine ux_cast hx hb hK hi hP hS (by decide) rfl (nx_200 hc h2) d_Md_put_46 (fun H locs hP hS => ?_)
        refine lv_aload_n hx hb d_Md_put_47 rfl (lv_at hl 0 rfl) ?_
        refine lv_dup hx hb d_Md_put_48 rfl ?_
        refine ux_get (C := R_Md) (T := F_Md) (N := 50) hx hb hT in_Md hown hK hP (by decide) rfl rfl 1 (by decide) (hT _ fl_Md_112) rfl d_Md_put_49 ?_
        refine lv_topi (fun z4 hz4 => ?_)
        rw [show ((ux_wr M 1 (M 0 1).toNatClampNeg (vp_nar .char ch))) 0 1 = M 0 1 from by simp [ux_wr_off, ux_wr_at]] at hz4
        subst hz4
        refine lv_iconst (v := 1) hx hb d_Md_put_52 (by decide) ?_
        refine lv_iadd hx hb d_Md_put_53 ?_
        refine ux_put (C := R_Md) (T := F_Md) (N := 50) hx hb hT in_Md t_Md t_Md_ok n_Md hown hK hi hP hS (by decide) rfl rfl 1 (by decide) (hT _ fl_Md_112) rfl (rfl) (rfl) rfl d_Md_put_54 (fun H locs hP hS => ?_)
        refine lv_iconst (v := 1) hx hb d_Md_put_57 (by decide) ?_
        exact W.zret (v := 1) hx hb hr (rfl) (fun t ht hW => ⟨⟨1, (ux_wr (ux_wr M 1 (M 0 1).toNatClampNeg (vp_nar .char ch)) 0 1 ((M 0 1) + 1)), rfl, ⟨by rw [fm_Md_put, if_pos h1, if_neg h2, if_pos h3], by rw [fv_Md_put, if_pos h1, if_neg h2, if_pos h3]⟩, by unfold ux_E; rw [ht]; exact hP⟩, hS.F ht⟩) hS.2.2 d_Md_put_58
      · refine lv_iconst (v := 0) hx hb d_Md_put_35 (by decide) ?_
        exact W.zret (v := 0) hx hb hr (rfl) (fun t ht hW => ⟨⟨0, M, rfl, ⟨by rw [fm_Md_put, if_pos h1, if_neg h2, if_neg h3], by rw [fv_Md_put, if_pos h1, if_neg h2, if_neg h3]⟩, by unfold ux_E; rw [ht]; exact hP⟩, hS.F ht⟩) hS.2.2 d_Md_put_36
  · refine lv_iload_n hx hb d_Md_put_6 rfl (lv_at hl 1 rfl) ?_
    refine lv_bipush (v := 32) hx hb d_Md_put_7 (by decide) ?_
    refine lv_icmp_lt hx hb d_Md_put_9 rfl (fun h5 => ?_) (fun h5 => ?_)
    · refine lv_iconst (v := 0) hx hb d_Md_put_35 (by decide) ?_
      exact W.zret (v := 0) hx hb hr (rfl) (fun t ht hW => ⟨⟨0, M, rfl, ⟨by rw [fm_Md_put, if_neg h1, if_pos h5], by rw [fv_Md_put, if_neg h1, if_pos h5]⟩, by unfold ux_E; rw [ht]; exact hP⟩, hS.F ht⟩) hS.2.2 d_Md_put_36
    · refine lv_iload_n hx hb d_Md_put_12 rfl (lv_at hl 1 rfl) ?_
      refine lv_bipush (v := 126) hx hb d_Md_put_13 (by decide) ?_
      refine lv_icmp_gt hx hb d_Md_put_15 rfl (fun h6 => ?_) (fun h6 => ?_)
      · refine lv_iconst (v := 0) hx hb d_Md_put_35 (by decide) ?_
        exact W.zret (v := 0) hx hb hr (rfl) (fun t ht hW => ⟨⟨0, M, rfl, ⟨by rw [fm_Md_put, if_neg h1, if_neg h5, if_pos h6], by rw [fv_Md_put, if_neg h1, if_neg h5, if_pos h6]⟩, by unfold ux_E; rw [ht]; exact hP⟩, hS.F ht⟩) hS.2.2 d_Md_put_36
      · refine lv_aload_n hx hb d_Md_put_18 rfl (lv_at hl 0 rfl) ?_
        refine ux_get (C := R_Md) (T := F_Md) (N := 50) hx hb hT in_Md hown hK hP (by decide) rfl rfl 1 (by decide) (hT _ fl_Md_112) rfl d_Md_put_19 ?_
        refine lv_sipush (v := 200) hx hb d_Md_put_22 (by decide) ?_
        refine lv_icmp_ge hx hb d_Md_put_25 rfl (fun h7 => ?_) (fun h7 => ?_)
        · refine lv_iconst (v := 0) hx hb d_Md_put_35 (by decide) ?_
          exact W.zret (v := 0) hx hb hr (rfl) (fun t ht hW => ⟨⟨0, M, rfl, ⟨by rw [fm_Md_put, if_neg h1, if_neg h5, if_neg h6, if_pos h7], by rw [fv_Md_put, if_neg h1, if_neg h5, if_neg h6, if_pos h7]⟩, by unfold ux_E; rw [ht]; exact hP⟩, hS.F ht⟩) hS.2.2 d_Md_put_36
        · refine lv_aload_n hx hb d_Md_put_28 rfl (lv_at hl 0 rfl) ?_
          refine ux_get (C := R_Md) (T := F_Md) (N := 50) hx hb hT in_Md hown hK hP (by decide) rfl rfl 2 (by decide) (hT _ fl_Md_115) rfl d_Md_put_29 ?_
          refine lv_if_eq hx hb d_Md_put_32 rfl (fun h8 => ?_) (fun h8 => ?_)
          · refine lv_aload_n hx hb d_Md_put_37 rfl (lv_at hl 0 rfl) ?_
            refine ux_get (C := R_Md) (T := F_Md) (N := 50) hx hb hT in_Md hown hK hP (by decide) rfl rfl 0 (by decide) (hT _ fl_Md_7) rfl d_Md_put_38 ?_
            refine lv_aload_n hx hb d_Md_put_41 rfl (lv_at hl 0 rfl) ?_
            refine ux_get (C := R_Md) (T := F_Md) (N := 50) hx hb hT in_Md hown hK hP (by decide) rfl rfl 1 (by decide) (hT _ fl_Md_112) rfl d_Md_put_42 ?_
            refine lv_iload_n hx hb d_Md_put_45 rfl (lv_at hl 1 rfl) ?_
            refine ux_cast hx hb hK hi hP hS (by decide) rfl (nx_200 hc h7) d_Md_put_46 (fun H locs hP hS => ?_)
            refine lv_aload_n hx hb d_Md_put_47 rfl (lv_at hl 0 rfl) ?_
            refine lv_dup hx hb d_Md_put_48 rfl ?_
            refine ux_get (C := R_Md) (T := F_Md) (N := 50) hx hb hT in_Md hown hK hP (by decide) rfl rfl 1 (by decide) (hT _ fl_Md_112) rfl d_Md_put_49 ?_
            refine lv_topi (fun z9 hz9 => ?_)
            rw [show ((ux_wr M 1 (M 0 1).toNatClampNeg (vp_nar .char ch))) 0 1 = M 0 1 from by simp [ux_wr_off, ux_wr_at]] at hz9
            subst hz9
            refine lv_iconst (v := 1) hx hb d_Md_put_52 (by decide) ?_
            refine lv_iadd hx hb d_Md_put_53 ?_
            refine ux_put (C := R_Md) (T := F_Md) (N := 50) hx hb hT in_Md t_Md t_Md_ok n_Md hown hK hi hP hS (by decide) rfl rfl 1 (by decide) (hT _ fl_Md_112) rfl (rfl) (rfl) rfl d_Md_put_54 (fun H locs hP hS => ?_)
            refine lv_iconst (v := 1) hx hb d_Md_put_57 (by decide) ?_
            exact W.zret (v := 1) hx hb hr (rfl) (fun t ht hW => ⟨⟨1, (ux_wr (ux_wr M 1 (M 0 1).toNatClampNeg (vp_nar .char ch)) 0 1 ((M 0 1) + 1)), rfl, ⟨by rw [fm_Md_put, if_neg h1, if_neg h5, if_neg h6, if_neg h7, if_pos h8], by rw [fv_Md_put, if_neg h1, if_neg h5, if_neg h6, if_neg h7, if_pos h8]⟩, by unfold ux_E; rw [ht]; exact hP⟩, hS.F ht⟩) hS.2.2 d_Md_put_58
          · refine lv_iconst (v := 0) hx hb d_Md_put_35 (by decide) ?_
            exact W.zret (v := 0) hx hb hr (rfl) (fun t ht hW => ⟨⟨0, M, rfl, ⟨by rw [fm_Md_put, if_neg h1, if_neg h5, if_neg h6, if_neg h7, if_neg h8], by rw [fv_Md_put, if_neg h1, if_neg h5, if_neg h6, if_neg h7, if_neg h8]⟩, by unfold ux_E; rw [ht]; exact hP⟩, hS.F ht⟩) hS.2.2 d_Md_put_36

def fm_Md_rule (M : ux_M) (a b d f : Int32) : ux_M := if (fv_Md_outside M a 0 7) = 0 then if (fv_Md_outside M f 0 7) = 0 then if (M 0 39) < 20 then if b = 0 then if d = 0 then (ux_wr (ux_wr (ux_wr (ux_wr (ux_wr M 26 (M 0 39).toNatClampNeg a) 27 (M 0 39).toNatClampNeg b) 28 (M 0 39).toNatClampNeg d) 29 (M 0 39).toNatClampNeg f) 0 39 ((M 0 39) + 1)) else if (fv_Md_outside M d 32 126) = 0 then (ux_wr (ux_wr (ux_wr (ux_wr (ux_wr M 26 (M 0 39).toNatClampNeg a) 27 (M 0 39).toNatClampNeg b) 28 (M 0 39).toNatClampNeg d) 29 (M 0 39).toNatClampNeg f) 0 39 ((M 0 39) + 1)) else M else if (fv_Md_outside M b 32 126) = 0 then if d = 0 then (ux_wr (ux_wr (ux_wr (ux_wr (ux_wr M 26 (M 0 39).toNatClampNeg a) 27 (M 0 39).toNatClampNeg b) 28 (M 0 39).toNatClampNeg d) 29 (M 0 39).toNatClampNeg f) 0 39 ((M 0 39) + 1)) else if (fv_Md_outside M d 32 126) = 0 then (ux_wr (ux_wr (ux_wr (ux_wr (ux_wr M 26 (M 0 39).toNatClampNeg a) 27 (M 0 39).toNatClampNeg b) 28 (M 0 39).toNatClampNeg d) 29 (M 0 39).toNatClampNeg f) 0 39 ((M 0 39) + 1)) else M else M else M else M else M
def fv_Md_rule (M : ux_M) (a b d f : Int32) : Int32 := if (fv_Md_outside M a 0 7) = 0 then if (fv_Md_outside M f 0 7) = 0 then if (M 0 39) < 20 then if b = 0 then if d = 0 then 1 else if (fv_Md_outside M d 32 126) = 0 then 1 else 0 else if (fv_Md_outside M b 32 126) = 0 then if d = 0 then 1 else if (fv_Md_outside M d 32 126) = 0 then 1 else 0 else 0 else 0 else 0 else 0

set_option maxHeartbeats 4000000 in
set_option maxRecDepth 100000 in
theorem c_Md_rule (l : Launch) (D : va_G) (ad : Nat → Nat) (cA : Nat → ClassId) (M : ux_M) (a b d f : Int32) (hc : 0 ≤ (M 0 39).toInt) : Met l y_Md_rule w_Md_rule ({ frames := 1, cells := 0, slots := 0, locals := 22 }) (va_Pc [.ref (ad 0), .int a, .int b, .int d, .int f] (ux_B D shM KM ad cA M)) (va_Qi (fun r M1 => M1 = fm_Md_rule M a b d f ∧ r = fv_Md_rule M a b d f) (ux_E D shM KM ad cA) (ux_A KM ad)) 0 0 (ux_A KM ad) := by
  refine Met.ofW (cc := b_Md_rule) (maxL := 5) (ret := (some .boolean)) (by decide) rfl ?_
  intro p e s m args below meth c s₁ B hml hv
  obtain ⟨rfl, hP, hK, hi, hN⟩ := hv
  have hx := B.exec
  have hb := B.bytes
  have hr := B.returns
  have hts := atoms_spec (ws := w_Md_rule) B.pre
  have hown : s.vm.findClass R_Md = some m.cls := findClass_of_methodNamed B.named
  have hlocks := B.notSynchronized
  have hT : ∀ w ∈ tb, w.before _ s = true := fun w h => hts w (List.mem_cons_of_mem _ h)
  have hS : va_S (ux_A KM ad) s.heap s.heap [] := va_S.rf
  have hl := lv_entry ([.ref (ad 0), .int a, .int b, .int d, .int f]) (n := 5) (Nat.le_of_ble_eq_true rfl)
  rw [lg_entry_eq]
  generalize (lg_sl ([.ref (ad 0), .int a, .int b, .int d, .int f]) ++ List.replicate (5 - (lg_sl ([.ref (ad 0), .int a, .int b, .int d, .int f])).length) Slot.unset).toArray = ls at hl ⊢
  have hl : lv_has ls 5 [(0, .ref (ad 0)), (1, .int a), (2, .int b), (3, .int d), (4, .int f)] := hl
  refine lv_iload_n hx hb d_Md_rule_0 rfl (lv_at hl 1 rfl) ?_
  refine lv_iconst (v := 0) hx hb d_Md_rule_1 (by decide) ?_
  refine lv_bipush (v := 7) hx hb d_Md_rule_2 (by decide) ?_
  refine ux_calli (va_runS ⟨hx, hb, hml, hown, hts⟩ (c_Md_outside l D ad cA M a 0 7 ) (va_cwS 3 hts (tb_goodST ml_Md_119 sm_Md_outside ii_Md kt_Md_outside) rfl rfl rfl (by decide +kernel) ⟨Nat.le_of_ble_eq_true rfl, Nat.le_of_ble_eq_true rfl⟩) (ux_pre hP hK hi hN) rfl rfl hl.1 rfl (lv_room (Nat.le_of_ble_eq_true rfl)) d_Md_rule_4 ⟨Nat.zero_le _, Nat.zero_le _⟩) hS (fun r1 M2 H locs q3 hP hS => ?_)
  obtain ⟨q3m, q3e⟩ := q3
  rw [q3m] at hP
  subst q3e
  rw [fk_Md_outside] at hP
  refine lv_if_ne hx hb d_Md_rule_7 rfl (fun h4 => ?_) (fun h4 => ?_)
  · refine lv_iconst (v := 0) hx hb d_Md_rule_30 (by decide) ?_
    exact W.zret (v := 0) hx hb hr (rfl) (fun t ht hW => ⟨⟨0, M, rfl, ⟨by rw [fm_Md_rule, if_neg h4], by rw [fv_Md_rule, if_neg h4]⟩, by unfold ux_E; rw [ht]; exact hP⟩, hS.F ht⟩) hS.2.2 d_Md_rule_31
  · refine lv_iload hx hb d_Md_rule_10 (lv_at hl 4 rfl) ?_
    refine lv_iconst (v := 0) hx hb d_Md_rule_12 (by decide) ?_
    refine lv_bipush (v := 7) hx hb d_Md_rule_13 (by decide) ?_
    refine ux_calli (va_runS ⟨hx, hb, hml, hown, hts⟩ (c_Md_outside l D ad cA M f 0 7 ) (va_cwS 3 hts (tb_goodST ml_Md_119 sm_Md_outside ii_Md kt_Md_outside) rfl rfl rfl (by decide +kernel) ⟨Nat.le_of_ble_eq_true rfl, Nat.le_of_ble_eq_true rfl⟩) (ux_pre hP hK hi hN) rfl rfl hl.1 rfl (lv_room (Nat.le_of_ble_eq_true rfl)) d_Md_rule_15 ⟨Nat.zero_le _, Nat.zero_le _⟩) hS (fun r5 M6 H locs q7 hP hS => ?_)
    obtain ⟨q7m, q7e⟩ := q7
    rw [q7m] at hP
    subst q7e
    rw [fk_Md_outside] at hP
    refine lv_if_ne hx hb d_Md_rule_18 rfl (fun h8 => ?_) (fun h8 => ?_)
    · refine lv_iconst (v := 0) hx hb d_Md_rule_30 (by decide) ?_
      exact W.zret (v := 0) hx hb hr (rfl) (fun t ht hW => ⟨⟨0, M, rfl, ⟨by rw [fm_Md_rule, if_pos h4, if_neg h8], by rw [fv_Md_rule, if_pos h4, if_neg h8]⟩, by unfold ux_E; rw [ht]; exact hP⟩, hS.F ht⟩) hS.2.2 d_Md_rule_31
    · refine lv_aload_n hx hb d_Md_rule_21 rfl (lv_at hl 0 rfl) ?_
      refine ux_get (C := R_Md) (T := F_Md) (N := 50) hx hb hT in_Md hown hK hP (by decide) rfl rfl 39 (by decide) (hT _ fl_Md_123) rfl d_Md_rule_22 ?_
      refine lv_bipush (v := 20) hx hb d_Md_rule_25 (by decide) ?_
      refine lv_icmp_lt hx hb d_Md_rule_27 rfl (fun h9 => ?_) (fun h9 => ?_)
      · refine lv_iload_n hx hb d_Md_rule_32 rfl (lv_at hl 2 rfl) ?_
        refine lv_if_eq hx hb d_Md_rule_33 rfl (fun h10 => ?_) (fun h10 => ?_)
        · refine lv_iload_n hx hb d_Md_rule_47 rfl (lv_at hl 3 rfl) ?_
          refine lv_if_eq hx hb d_Md_rule_48 rfl (fun h11 => ?_) (fun h11 => ?_)
          · refine lv_aload_n hx hb d_Md_rule_64 rfl (lv_at hl 0 rfl) ?_
            refine ux_get (C := R_Md) (T := F_Md) (N := 50) hx hb hT in_Md hown hK hP (by decide) rfl rfl 40 (by decide) (hT _ fl_Md_91) rfl d_Md_rule_65 ?_
            refine lv_aload_n hx hb d_Md_rule_68 rfl (lv_at hl 0 rfl) ?_
            refine ux_get (C := R_Md) (T := F_Md) (N := 50) hx hb hT in_Md hown hK hP (by decide) rfl rfl 39 (by decide) (hT _ fl_Md_123) rfl d_Md_rule_69 ?_
            refine lv_iload_n hx hb d_Md_rule_72 rfl (lv_at hl 1 rfl) ?_
            refine ux_iast hx hb hK hi hP hS (by decide) rfl (nx_vin3 (nx_n0 hc) h9) d_Md_rule_73 (fun H locs hP hS => ?_)
            refine lv_aload_n hx hb d_Md_rule_74 rfl (lv_at hl 0 rfl) ?_
            refine ux_get (C := R_Md) (T := F_Md) (N := 50) hx hb hT in_Md hown hK hP (by decide) rfl rfl 41 (by decide) (hT _ fl_Md_94) rfl d_Md_rule_75 ?_
            refine lv_aload_n hx hb d_Md_rule_78 rfl (lv_at hl 0 rfl) ?_
            refine ux_get (C := R_Md) (T := F_Md) (N := 50) hx hb hT in_Md hown hK hP (by decide) rfl rfl 39 (by decide) (hT _ fl_Md_123) rfl d_Md_rule_79 ?_
            refine lv_topi (fun z12 hz12 => ?_)
            rw [show ((ux_wr M 26 (M 0 39).toNatClampNeg a)) 0 39 = M 0 39 from by simp [ux_wr_off, ux_wr_at]] at hz12
            subst hz12
            refine lv_iload_n hx hb d_Md_rule_82 rfl (lv_at hl 2 rfl) ?_
            refine ux_iast hx hb hK hi hP hS (by decide) rfl (nx_vin3 (nx_n0 hc) h9) d_Md_rule_83 (fun H locs hP hS => ?_)
            refine lv_aload_n hx hb d_Md_rule_84 rfl (lv_at hl 0 rfl) ?_
            refine ux_get (C := R_Md) (T := F_Md) (N := 50) hx hb hT in_Md hown hK hP (by decide) rfl rfl 42 (by decide) (hT _ fl_Md_97) rfl d_Md_rule_85 ?_
            refine lv_aload_n hx hb d_Md_rule_88 rfl (lv_at hl 0 rfl) ?_
            refine ux_get (C := R_Md) (T := F_Md) (N := 50) hx hb hT in_Md hown hK hP (by decide) rfl rfl 39 (by decide) (hT _ fl_Md_123) rfl d_Md_rule_89 ?_
            refine lv_topi (fun z13 hz13 => ?_)
            rw [show ((ux_wr (ux_wr M 26 (M 0 39).toNatClampNeg a) 27 (M 0 39).toNatClampNeg b)) 0 39 = M 0 39 from by simp [ux_wr_off, ux_wr_at]] at hz13
            subst hz13
            refine lv_iload_n hx hb d_Md_rule_92 rfl (lv_at hl 3 rfl) ?_
            refine ux_iast hx hb hK hi hP hS (by decide) rfl (nx_vin3 (nx_n0 hc) h9) d_Md_rule_93 (fun H locs hP hS => ?_)
            refine lv_aload_n hx hb d_Md_rule_94 rfl (lv_at hl 0 rfl) ?_
            refine ux_get (C := R_Md) (T := F_Md) (N := 50) hx hb hT in_Md hown hK hP (by decide) rfl rfl 43 (by decide) (hT _ fl_Md_100) rfl d_Md_rule_95 ?_
            refine lv_aload_n hx hb d_Md_rule_98 rfl (lv_at hl 0 rfl) ?_
            refine ux_get (C := R_Md) (T := F_Md) (N := 50) hx hb hT in_Md hown hK hP (by decide) rfl rfl 39 (by decide) (hT _ fl_Md_123) rfl d_Md_rule_99 ?_
            refine lv_topi (fun z14 hz14 => ?_)
            rw [show ((ux_wr (ux_wr (ux_wr M 26 (M 0 39).toNatClampNeg a) 27 (M 0 39).toNatClampNeg b) 28 (M 0 39).toNatClampNeg d)) 0 39 = M 0 39 from by simp [ux_wr_off, ux_wr_at]] at hz14
            subst hz14
            refine lv_iload hx hb d_Md_rule_102 (lv_at hl 4 rfl) ?_
            refine ux_iast hx hb hK hi hP hS (by decide) rfl (nx_vin3 (nx_n0 hc) h9) d_Md_rule_104 (fun H locs hP hS => ?_)
            refine lv_aload_n hx hb d_Md_rule_105 rfl (lv_at hl 0 rfl) ?_
            refine lv_dup hx hb d_Md_rule_106 rfl ?_
            refine ux_get (C := R_Md) (T := F_Md) (N := 50) hx hb hT in_Md hown hK hP (by decide) rfl rfl 39 (by decide) (hT _ fl_Md_123) rfl d_Md_rule_107 ?_
            refine lv_topi (fun z15 hz15 => ?_)
            rw [show ((ux_wr (ux_wr (ux_wr (ux_wr M 26 (M 0 39).toNatClampNeg a) 27 (M 0 39).toNatClampNeg b) 28 (M 0 39).toNatClampNeg d) 29 (M 0 39).toNatClampNeg f)) 0 39 = M 0 39 from by simp [ux_wr_off, ux_wr_at]] at hz15
            subst hz15
            refine lv_iconst (v := 1) hx hb d_Md_rule_110 (by decide) ?_
            refine lv_iadd hx hb d_Md_rule_111 ?_
            refine ux_put (C := R_Md) (T := F_Md) (N := 50) hx hb hT in_Md t_Md t_Md_ok n_Md hown hK hi hP hS (by decide) rfl rfl 39 (by decide) (hT _ fl_Md_123) rfl (rfl) (rfl) rfl d_Md_rule_112 (fun H locs hP hS => ?_)
            refine lv_iconst (v := 1) hx hb d_Md_rule_115 (by decide) ?_
            exact W.zret (v := 1) hx hb hr (rfl) (fun t ht hW => ⟨⟨1, (ux_wr (ux_wr (ux_wr (ux_wr (ux_wr M 26 (M 0 39).toNatClampNeg a) 27 (M 0 39).toNatClampNeg b) 28 (M 0 39).toNatClampNeg d) 29 (M 0 39).toNatClampNeg f) 0 39 ((M 0 39) + 1)), rfl, ⟨by rw [fm_Md_rule, if_pos h4, if_pos h8, if_pos h9, if_pos h10, if_pos h11], by rw [fv_Md_rule, if_pos h4, if_pos h8, if_pos h9, if_pos h10, if_pos h11]⟩, by unfold ux_E; rw [ht]; exact hP⟩, hS.F ht⟩) hS.2.2 d_Md_rule_116
          · refine lv_iload_n hx hb d_Md_rule_51 rfl (lv_at hl 3 rfl) ?_
            refine lv_bipush (v := 32) hx hb d_Md_rule_52 (by decide) ?_
            refine lv_bipush (v := 126) hx hb d_Md_rule_54 (by decide) ?_
            refine ux_calli (va_runS ⟨hx, hb, hml, hown, hts⟩ (c_Md_outside l D ad cA M d 32 126 ) (va_cwS 3 hts (tb_goodST ml_Md_119 sm_Md_outside ii_Md kt_Md_outside) rfl rfl rfl (by decide +kernel) ⟨Nat.le_of_ble_eq_true rfl, Nat.le_of_ble_eq_true rfl⟩) (ux_pre hP hK hi hN) rfl rfl hl.1 rfl (lv_room (Nat.le_of_ble_eq_true rfl)) d_Md_rule_56 ⟨Nat.zero_le _, Nat.zero_le _⟩) hS (fun r16 M17 H locs q18 hP hS => ?_)
            obtain ⟨q18m, q18e⟩ := q18
            rw [q18m] at hP
            subst q18e
            rw [fk_Md_outside] at hP
            refine lv_if_eq hx hb d_Md_rule_59 rfl (fun h19 => ?_) (fun h19 => ?_)
            · refine lv_aload_n hx hb d_Md_rule_64 rfl (lv_at hl 0 rfl) ?_
              refine ux_get (C := R_Md) (T := F_Md) (N := 50) hx hb hT in_Md hown hK hP (by decide) rfl rfl 40 (by decide) (hT _ fl_Md_91) rfl d_Md_rule_65 ?_
              refine lv_aload_n hx hb d_Md_rule_68 rfl (lv_at hl 0 rfl) ?_
              refine ux_get (C := R_Md) (T := F_Md) (N := 50) hx hb hT in_Md hown hK hP (by decide) rfl rfl 39 (by decide) (hT _ fl_Md_123) rfl d_Md_rule_69 ?_
              refine lv_iload_n hx hb d_Md_rule_72 rfl (lv_at hl 1 rfl) ?_
              refine ux_iast hx hb hK hi hP hS (by decide) rfl (nx_vin3 (nx_n0 hc) h9) d_Md_rule_73 (fun H locs hP hS => ?_)
              refine lv_aload_n hx hb d_Md_rule_74 rfl (lv_at hl 0 rfl) ?_
              refine ux_get (C := R_Md) (T := F_Md) (N := 50) hx hb hT in_Md hown hK hP (by decide) rfl rfl 41 (by decide) (hT _ fl_Md_94) rfl d_Md_rule_75 ?_
              refine lv_aload_n hx hb d_Md_rule_78 rfl (lv_at hl 0 rfl) ?_
              refine ux_get (C := R_Md) (T := F_Md) (N := 50) hx hb hT in_Md hown hK hP (by decide) rfl rfl 39 (by decide) (hT _ fl_Md_123) rfl d_Md_rule_79 ?_
              refine lv_topi (fun z20 hz20 => ?_)
              rw [show ((ux_wr M 26 (M 0 39).toNatClampNeg a)) 0 39 = M 0 39 from by simp [ux_wr_off, ux_wr_at]] at hz20
              subst hz20
              refine lv_iload_n hx hb d_Md_rule_82 rfl (lv_at hl 2 rfl) ?_
              refine ux_iast hx hb hK hi hP hS (by decide) rfl (nx_vin3 (nx_n0 hc) h9) d_Md_rule_83 (fun H locs hP hS => ?_)
              refine lv_aload_n hx hb d_Md_rule_84 rfl (lv_at hl 0 rfl) ?_
              refine ux_get (C := R_Md) (T := F_Md) (N := 50) hx hb hT in_Md hown hK hP (by decide) rfl rfl 42 (by decide) (hT _ fl_Md_97) rfl d_Md_rule_85 ?_
              refine lv_aload_n hx hb d_Md_rule_88 rfl (lv_at hl 0 rfl) ?_
              refine ux_get (C := R_Md) (T := F_Md) (N := 50) hx hb hT in_Md hown hK hP (by decide) rfl rfl 39 (by decide) (hT _ fl_Md_123) rfl d_Md_rule_89 ?_
              refine lv_topi (fun z21 hz21 => ?_)
              rw [show ((ux_wr (ux_wr M 26 (M 0 39).toNatClampNeg a) 27 (M 0 39).toNatClampNeg b)) 0 39 = M 0 39 from by simp [ux_wr_off, ux_wr_at]] at hz21
              subst hz21
              refine lv_iload_n hx hb d_Md_rule_92 rfl (lv_at hl 3 rfl) ?_
              refine ux_iast hx hb hK hi hP hS (by decide) rfl (nx_vin3 (nx_n0 hc) h9) d_Md_rule_93 (fun H locs hP hS => ?_)
              refine lv_aload_n hx hb d_Md_rule_94 rfl (lv_at hl 0 rfl) ?_
              refine ux_get (C := R_Md) (T := F_Md) (N := 50) hx hb hT in_Md hown hK hP (by decide) rfl rfl 43 (by decide) (hT _ fl_Md_100) rfl d_Md_rule_95 ?_
              refine lv_aload_n hx hb d_Md_rule_98 rfl (lv_at hl 0 rfl) ?_
              refine ux_get (C := R_Md) (T := F_Md) (N := 50) hx hb hT in_Md hown hK hP (by decide) rfl rfl 39 (by decide) (hT _ fl_Md_123) rfl d_Md_rule_99 ?_
              refine lv_topi (fun z22 hz22 => ?_)
              rw [show ((ux_wr (ux_wr (ux_wr M 26 (M 0 39).toNatClampNeg a) 27 (M 0 39).toNatClampNeg b) 28 (M 0 39).toNatClampNeg d)) 0 39 = M 0 39 from by simp [ux_wr_off, ux_wr_at]] at hz22
              subst hz22
              refine lv_iload hx hb d_Md_rule_102 (lv_at hl 4 rfl) ?_
              refine ux_iast hx hb hK hi hP hS (by decide) rfl (nx_vin3 (nx_n0 hc) h9) d_Md_rule_104 (fun H locs hP hS => ?_)
              refine lv_aload_n hx hb d_Md_rule_105 rfl (lv_at hl 0 rfl) ?_
              refine lv_dup hx hb d_Md_rule_106 rfl ?_
              refine ux_get (C := R_Md) (T := F_Md) (N := 50) hx hb hT in_Md hown hK hP (by decide) rfl rfl 39 (by decide) (hT _ fl_Md_123) rfl d_Md_rule_107 ?_
              refine lv_topi (fun z23 hz23 => ?_)
              rw [show ((ux_wr (ux_wr (ux_wr (ux_wr M 26 (M 0 39).toNatClampNeg a) 27 (M 0 39).toNatClampNeg b) 28 (M 0 39).toNatClampNeg d) 29 (M 0 39).toNatClampNeg f)) 0 39 = M 0 39 from by simp [ux_wr_off, ux_wr_at]] at hz23
              subst hz23
              refine lv_iconst (v := 1) hx hb d_Md_rule_110 (by decide) ?_
              refine lv_iadd hx hb d_Md_rule_111 ?_
              refine ux_put (C := R_Md) (T := F_Md) (N := 50) hx hb hT in_Md t_Md t_Md_ok n_Md hown hK hi hP hS (by decide) rfl rfl 39 (by decide) (hT _ fl_Md_123) rfl (rfl) (rfl) rfl d_Md_rule_112 (fun H locs hP hS => ?_)
              refine lv_iconst (v := 1) hx hb d_Md_rule_115 (by decide) ?_
              exact W.zret (v := 1) hx hb hr (rfl) (fun t ht hW => ⟨⟨1, (ux_wr (ux_wr (ux_wr (ux_wr (ux_wr M 26 (M 0 39).toNatClampNeg a) 27 (M 0 39).toNatClampNeg b) 28 (M 0 39).toNatClampNeg d) 29 (M 0 39).toNatClampNeg f) 0 39 ((M 0 39) + 1)), rfl, ⟨by rw [fm_Md_rule, if_pos h4, if_pos h8, if_pos h9, if_pos h10, if_neg h11, if_pos h19], by rw [fv_Md_rule, if_pos h4, if_pos h8, if_pos h9, if_pos h10, if_neg h11, if_pos h19]⟩, by unfold ux_E; rw [ht]; exact hP⟩, hS.F ht⟩) hS.2.2 d_Md_rule_116
            · refine lv_iconst (v := 0) hx hb d_Md_rule_62 (by decide) ?_
              exact W.zret (v := 0) hx hb hr (rfl) (fun t ht hW => ⟨⟨0, M, rfl, ⟨by rw [fm_Md_rule, if_pos h4, if_pos h8, if_pos h9, if_pos h10, if_neg h11, if_neg h19], by rw [fv_Md_rule, if_pos h4, if_pos h8, if_pos h9, if_pos h10, if_neg h11, if_neg h19]⟩, by unfold ux_E; rw [ht]; exact hP⟩, hS.F ht⟩) hS.2.2 d_Md_rule_63
        · refine lv_iload_n hx hb d_Md_rule_36 rfl (lv_at hl 2 rfl) ?_
          refine lv_bipush (v := 32) hx hb d_Md_rule_37 (by decide) ?_
          refine lv_bipush (v := 126) hx hb d_Md_rule_39 (by decide) ?_
          refine ux_calli (va_runS ⟨hx, hb, hml, hown, hts⟩ (c_Md_outside l D ad cA M b 32 126 ) (va_cwS 3 hts (tb_goodST ml_Md_119 sm_Md_outside ii_Md kt_Md_outside) rfl rfl rfl (by decide +kernel) ⟨Nat.le_of_ble_eq_true rfl, Nat.le_of_ble_eq_true rfl⟩) (ux_pre hP hK hi hN) rfl rfl hl.1 rfl (lv_room (Nat.le_of_ble_eq_true rfl)) d_Md_rule_41 ⟨Nat.zero_le _, Nat.zero_le _⟩) hS (fun r24 M25 H locs q26 hP hS => ?_)
          obtain ⟨q26m, q26e⟩ := q26
          rw [q26m] at hP
          subst q26e
          rw [fk_Md_outside] at hP
          refine lv_if_ne hx hb d_Md_rule_44 rfl (fun h27 => ?_) (fun h27 => ?_)
          · refine lv_iconst (v := 0) hx hb d_Md_rule_62 (by decide) ?_
            exact W.zret (v := 0) hx hb hr (rfl) (fun t ht hW => ⟨⟨0, M, rfl, ⟨by rw [fm_Md_rule, if_pos h4, if_pos h8, if_pos h9, if_neg h10, if_neg h27], by rw [fv_Md_rule, if_pos h4, if_pos h8, if_pos h9, if_neg h10, if_neg h27]⟩, by unfold ux_E; rw [ht]; exact hP⟩, hS.F ht⟩) hS.2.2 d_Md_rule_63
          · refine lv_iload_n hx hb d_Md_rule_47 rfl (lv_at hl 3 rfl) ?_
            refine lv_if_eq hx hb d_Md_rule_48 rfl (fun h28 => ?_) (fun h28 => ?_)
            · refine lv_aload_n hx hb d_Md_rule_64 rfl (lv_at hl 0 rfl) ?_
              refine ux_get (C := R_Md) (T := F_Md) (N := 50) hx hb hT in_Md hown hK hP (by decide) rfl rfl 40 (by decide) (hT _ fl_Md_91) rfl d_Md_rule_65 ?_
              refine lv_aload_n hx hb d_Md_rule_68 rfl (lv_at hl 0 rfl) ?_
              refine ux_get (C := R_Md) (T := F_Md) (N := 50) hx hb hT in_Md hown hK hP (by decide) rfl rfl 39 (by decide) (hT _ fl_Md_123) rfl d_Md_rule_69 ?_
              refine lv_iload_n hx hb d_Md_rule_72 rfl (lv_at hl 1 rfl) ?_
              refine ux_iast hx hb hK hi hP hS (by decide) rfl (nx_vin3 (nx_n0 hc) h9) d_Md_rule_73 (fun H locs hP hS => ?_)
              refine lv_aload_n hx hb d_Md_rule_74 rfl (lv_at hl 0 rfl) ?_
              refine ux_get (C := R_Md) (T := F_Md) (N := 50) hx hb hT in_Md hown hK hP (by decide) rfl rfl 41 (by decide) (hT _ fl_Md_94) rfl d_Md_rule_75 ?_
              refine lv_aload_n hx hb d_Md_rule_78 rfl (lv_at hl 0 rfl) ?_
              refine ux_get (C := R_Md) (T := F_Md) (N := 50) hx hb hT in_Md hown hK hP (by decide) rfl rfl 39 (by decide) (hT _ fl_Md_123) rfl d_Md_rule_79 ?_
              refine lv_topi (fun z29 hz29 => ?_)
              rw [show ((ux_wr M 26 (M 0 39).toNatClampNeg a)) 0 39 = M 0 39 from by simp [ux_wr_off, ux_wr_at]] at hz29
              subst hz29
              refine lv_iload_n hx hb d_Md_rule_82 rfl (lv_at hl 2 rfl) ?_
              refine ux_iast hx hb hK hi hP hS (by decide) rfl (nx_vin3 (nx_n0 hc) h9) d_Md_rule_83 (fun H locs hP hS => ?_)
              refine lv_aload_n hx hb d_Md_rule_84 rfl (lv_at hl 0 rfl) ?_
              refine ux_get (C := R_Md) (T := F_Md) (N := 50) hx hb hT in_Md hown hK hP (by decide) rfl rfl 42 (by decide) (hT _ fl_Md_97) rfl d_Md_rule_85 ?_
              refine lv_aload_n hx hb d_Md_rule_88 rfl (lv_at hl 0 rfl) ?_
              refine ux_get (C := R_Md) (T := F_Md) (N := 50) hx hb hT in_Md hown hK hP (by decide) rfl rfl 39 (by decide) (hT _ fl_Md_123) rfl d_Md_rule_89 ?_
              refine lv_topi (fun z30 hz30 => ?_)
              rw [show ((ux_wr (ux_wr M 26 (M 0 39).toNatClampNeg a) 27 (M 0 39).toNatClampNeg b)) 0 39 = M 0 39 from by simp [ux_wr_off, ux_wr_at]] at hz30
              subst hz30
              refine lv_iload_n hx hb d_Md_rule_92 rfl (lv_at hl 3 rfl) ?_
              refine ux_iast hx hb hK hi hP hS (by decide) rfl (nx_vin3 (nx_n0 hc) h9) d_Md_rule_93 (fun H locs hP hS => ?_)
              refine lv_aload_n hx hb d_Md_rule_94 rfl (lv_at hl 0 rfl) ?_
              refine ux_get (C := R_Md) (T := F_Md) (N := 50) hx hb hT in_Md hown hK hP (by decide) rfl rfl 43 (by decide) (hT _ fl_Md_100) rfl d_Md_rule_95 ?_
              refine lv_aload_n hx hb d_Md_rule_98 rfl (lv_at hl 0 rfl) ?_
              refine ux_get (C := R_Md) (T := F_Md) (N := 50) hx hb hT in_Md hown hK hP (by decide) rfl rfl 39 (by decide) (hT _ fl_Md_123) rfl d_Md_rule_99 ?_
              refine lv_topi (fun z31 hz31 => ?_)
              rw [show ((ux_wr (ux_wr (ux_wr M 26 (M 0 39).toNatClampNeg a) 27 (M 0 39).toNatClampNeg b) 28 (M 0 39).toNatClampNeg d)) 0 39 = M 0 39 from by simp [ux_wr_off, ux_wr_at]] at hz31
              subst hz31
              refine lv_iload hx hb d_Md_rule_102 (lv_at hl 4 rfl) ?_
              refine ux_iast hx hb hK hi hP hS (by decide) rfl (nx_vin3 (nx_n0 hc) h9) d_Md_rule_104 (fun H locs hP hS => ?_)
              refine lv_aload_n hx hb d_Md_rule_105 rfl (lv_at hl 0 rfl) ?_
              refine lv_dup hx hb d_Md_rule_106 rfl ?_
              refine ux_get (C := R_Md) (T := F_Md) (N := 50) hx hb hT in_Md hown hK hP (by decide) rfl rfl 39 (by decide) (hT _ fl_Md_123) rfl d_Md_rule_107 ?_
              refine lv_topi (fun z32 hz32 => ?_)
              rw [show ((ux_wr (ux_wr (ux_wr (ux_wr M 26 (M 0 39).toNatClampNeg a) 27 (M 0 39).toNatClampNeg b) 28 (M 0 39).toNatClampNeg d) 29 (M 0 39).toNatClampNeg f)) 0 39 = M 0 39 from by simp [ux_wr_off, ux_wr_at]] at hz32
              subst hz32
              refine lv_iconst (v := 1) hx hb d_Md_rule_110 (by decide) ?_
              refine lv_iadd hx hb d_Md_rule_111 ?_
              refine ux_put (C := R_Md) (T := F_Md) (N := 50) hx hb hT in_Md t_Md t_Md_ok n_Md hown hK hi hP hS (by decide) rfl rfl 39 (by decide) (hT _ fl_Md_123) rfl (rfl) (rfl) rfl d_Md_rule_112 (fun H locs hP hS => ?_)
              refine lv_iconst (v := 1) hx hb d_Md_rule_115 (by decide) ?_
              exact W.zret (v := 1) hx hb hr (rfl) (fun t ht hW => ⟨⟨1, (ux_wr (ux_wr (ux_wr (ux_wr (ux_wr M 26 (M 0 39).toNatClampNeg a) 27 (M 0 39).toNatClampNeg b) 28 (M 0 39).toNatClampNeg d) 29 (M 0 39).toNatClampNeg f) 0 39 ((M 0 39) + 1)), rfl, ⟨by rw [fm_Md_rule, if_pos h4, if_pos h8, if_pos h9, if_neg h10, if_pos h27, if_pos h28], by rw [fv_Md_rule, if_pos h4, if_pos h8, if_pos h9, if_neg h10, if_pos h27, if_pos h28]⟩, by unfold ux_E; rw [ht]; exact hP⟩, hS.F ht⟩) hS.2.2 d_Md_rule_116
            · refine lv_iload_n hx hb d_Md_rule_51 rfl (lv_at hl 3 rfl) ?_
              refine lv_bipush (v := 32) hx hb d_Md_rule_52 (by decide) ?_
              refine lv_bipush (v := 126) hx hb d_Md_rule_54 (by decide) ?_
              refine ux_calli (va_runS ⟨hx, hb, hml, hown, hts⟩ (c_Md_outside l D ad cA M d 32 126 ) (va_cwS 3 hts (tb_goodST ml_Md_119 sm_Md_outside ii_Md kt_Md_outside) rfl rfl rfl (by decide +kernel) ⟨Nat.le_of_ble_eq_true rfl, Nat.le_of_ble_eq_true rfl⟩) (ux_pre hP hK hi hN) rfl rfl hl.1 rfl (lv_room (Nat.le_of_ble_eq_true rfl)) d_Md_rule_56 ⟨Nat.zero_le _, Nat.zero_le _⟩) hS (fun r33 M34 H locs q35 hP hS => ?_)
              obtain ⟨q35m, q35e⟩ := q35
              rw [q35m] at hP
              subst q35e
              rw [fk_Md_outside] at hP
              refine lv_if_eq hx hb d_Md_rule_59 rfl (fun h36 => ?_) (fun h36 => ?_)
              · refine lv_aload_n hx hb d_Md_rule_64 rfl (lv_at hl 0 rfl) ?_
                refine ux_get (C := R_Md) (T := F_Md) (N := 50) hx hb hT in_Md hown hK hP (by decide) rfl rfl 40 (by decide) (hT _ fl_Md_91) rfl d_Md_rule_65 ?_
                refine lv_aload_n hx hb d_Md_rule_68 rfl (lv_at hl 0 rfl) ?_
                refine ux_get (C := R_Md) (T := F_Md) (N := 50) hx hb hT in_Md hown hK hP (by decide) rfl rfl 39 (by decide) (hT _ fl_Md_123) rfl d_Md_rule_69 ?_
                refine lv_iload_n hx hb d_Md_rule_72 rfl (lv_at hl 1 rfl) ?_
                refine ux_iast hx hb hK hi hP hS (by decide) rfl (nx_vin3 (nx_n0 hc) h9) d_Md_rule_73 (fun H locs hP hS => ?_)
                refine lv_aload_n hx hb d_Md_rule_74 rfl (lv_at hl 0 rfl) ?_
                refine ux_get (C := R_Md) (T := F_Md) (N := 50) hx hb hT in_Md hown hK hP (by decide) rfl rfl 41 (by decide) (hT _ fl_Md_94) rfl d_Md_rule_75 ?_
                refine lv_aload_n hx hb d_Md_rule_78 rfl (lv_at hl 0 rfl) ?_
                refine ux_get (C := R_Md) (T := F_Md) (N := 50) hx hb hT in_Md hown hK hP (by decide) rfl rfl 39 (by decide) (hT _ fl_Md_123) rfl d_Md_rule_79 ?_
                refine lv_topi (fun z37 hz37 => ?_)
                rw [show ((ux_wr M 26 (M 0 39).toNatClampNeg a)) 0 39 = M 0 39 from by simp [ux_wr_off, ux_wr_at]] at hz37
                subst hz37
                refine lv_iload_n hx hb d_Md_rule_82 rfl (lv_at hl 2 rfl) ?_
                refine ux_iast hx hb hK hi hP hS (by decide) rfl (nx_vin3 (nx_n0 hc) h9) d_Md_rule_83 (fun H locs hP hS => ?_)
                refine lv_aload_n hx hb d_Md_rule_84 rfl (lv_at hl 0 rfl) ?_
                refine ux_get (C := R_Md) (T := F_Md) (N := 50) hx hb hT in_Md hown hK hP (by decide) rfl rfl 42 (by decide) (hT _ fl_Md_97) rfl d_Md_rule_85 ?_
                refine lv_aload_n hx hb d_Md_rule_88 rfl (lv_at hl 0 rfl) ?_
                refine ux_get (C := R_Md) (T := F_Md) (N := 50) hx hb hT in_Md hown hK hP (by decide) rfl rfl 39 (by decide) (hT _ fl_Md_123) rfl d_Md_rule_89 ?_
                refine lv_topi (fun z38 hz38 => ?_)
                rw [show ((ux_wr (ux_wr M 26 (M 0 39).toNatClampNeg a) 27 (M 0 39).toNatClampNeg b)) 0 39 = M 0 39 from by simp [ux_wr_off, ux_wr_at]] at hz38
                subst hz38
                refine lv_iload_n hx hb d_Md_rule_92 rfl (lv_at hl 3 rfl) ?_
                refine ux_iast hx hb hK hi hP hS (by decide) rfl (nx_vin3 (nx_n0 hc) h9) d_Md_rule_93 (fun H locs hP hS => ?_)
                refine lv_aload_n hx hb d_Md_rule_94 rfl (lv_at hl 0 rfl) ?_
                refine ux_get (C := R_Md) (T := F_Md) (N := 50) hx hb hT in_Md hown hK hP (by decide) rfl rfl 43 (by decide) (hT _ fl_Md_100) rfl d_Md_rule_95 ?_
                refine lv_aload_n hx hb d_Md_rule_98 rfl (lv_at hl 0 rfl) ?_
                refine ux_get (C := R_Md) (T := F_Md) (N := 50) hx hb hT in_Md hown hK hP (by decide) rfl rfl 39 (by decide) (hT _ fl_Md_123) rfl d_Md_rule_99 ?_
                refine lv_topi (fun z39 hz39 => ?_)
                rw [show ((ux_wr (ux_wr (ux_wr M 26 (M 0 39).toNatClampNeg a) 27 (M 0 39).toNatClampNeg b) 28 (M 0 39).toNatClampNeg d)) 0 39 = M 0 39 from by simp [ux_wr_off, ux_wr_at]] at hz39
                subst hz39
                refine lv_iload hx hb d_Md_rule_102 (lv_at hl 4 rfl) ?_
                refine ux_iast hx hb hK hi hP hS (by decide) rfl (nx_vin3 (nx_n0 hc) h9) d_Md_rule_104 (fun H locs hP hS => ?_)
                refine lv_aload_n hx hb d_Md_rule_105 rfl (lv_at hl 0 rfl) ?_
                refine lv_dup hx hb d_Md_rule_106 rfl ?_
                refine ux_get (C := R_Md) (T := F_Md) (N := 50) hx hb hT in_Md hown hK hP (by decide) rfl rfl 39 (by decide) (hT _ fl_Md_123) rfl d_Md_rule_107 ?_
                refine lv_topi (fun z40 hz40 => ?_)
                rw [show ((ux_wr (ux_wr (ux_wr (ux_wr M 26 (M 0 39).toNatClampNeg a) 27 (M 0 39).toNatClampNeg b) 28 (M 0 39).toNatClampNeg d) 29 (M 0 39).toNatClampNeg f)) 0 39 = M 0 39 from by simp [ux_wr_off, ux_wr_at]] at hz40
                subst hz40
                refine lv_iconst (v := 1) hx hb d_Md_rule_110 (by decide) ?_
                refine lv_iadd hx hb d_Md_rule_111 ?_
                refine ux_put (C := R_Md) (T := F_Md) (N := 50) hx hb hT in_Md t_Md t_Md_ok n_Md hown hK hi hP hS (by decide) rfl rfl 39 (by decide) (hT _ fl_Md_123) rfl (rfl) (rfl) rfl d_Md_rule_112 (fun H locs hP hS => ?_)
                refine lv_iconst (v := 1) hx hb d_Md_rule_115 (by decide) ?_
                exact W.zret (v := 1) hx hb hr (rfl) (fun t ht hW => ⟨⟨1, (ux_wr (ux_wr (ux_wr (ux_wr (ux_wr M 26 (M 0 39).toNatClampNeg a) 27 (M 0 39).toNatClampNeg b) 28 (M 0 39).toNatClampNeg d) 29 (M 0 39).toNatClampNeg f) 0 39 ((M 0 39) + 1)), rfl, ⟨by rw [fm_Md_rule, if_pos h4, if_pos h8, if_pos h9, if_neg h10, if_pos h27, if_neg h28, if_pos h36], by rw [fv_Md_rule, if_pos h4, if_pos h8, if_pos h9, if_neg h10, if_pos h27, if_neg h28, if_pos h36]⟩, by unfold ux_E; rw [ht]; exact hP⟩, hS.F ht⟩) hS.2.2 d_Md_rule_116
              · refine lv_iconst (v := 0) hx hb d_Md_rule_62 (by decide) ?_
                exact W.zret (v := 0) hx hb hr (rfl) (fun t ht hW => ⟨⟨0, M, rfl, ⟨by rw [fm_Md_rule, if_pos h4, if_pos h8, if_pos h9, if_neg h10, if_pos h27, if_neg h28, if_neg h36], by rw [fv_Md_rule, if_pos h4, if_pos h8, if_pos h9, if_neg h10, if_pos h27, if_neg h28, if_neg h36]⟩, by unfold ux_E; rw [ht]; exact hP⟩, hS.F ht⟩) hS.2.2 d_Md_rule_63
      · refine lv_iconst (v := 0) hx hb d_Md_rule_30 (by decide) ?_
        exact W.zret (v := 0) hx hb hr (rfl) (fun t ht hW => ⟨⟨0, M, rfl, ⟨by rw [fm_Md_rule, if_pos h4, if_pos h8, if_neg h9], by rw [fv_Md_rule, if_pos h4, if_pos h8, if_neg h9]⟩, by unfold ux_E; rw [ht]; exact hP⟩, hS.F ht⟩) hS.2.2 d_Md_rule_31

theorem nx_lt {M : ux_M} {v k : Int32} (hs : ∀ j, (M 2 j).toInt ≤ 20) (h1 : ¬ fv_Md_size M v ≤ k) (h2 : ¬ k < 0) : vp_in (20 * v + k) 4160 := by
  unfold fv_Md_size at h1
  by_cases h : fv_Md_outside M v 0 25 = 0
  · rw [if_pos h] at h1
    exact nx_hl (nx_out (by decide) (by decide) h) h1 h2 (hs _)
  · rw [if_neg h] at h1
    exfalso
    rw [Int32.le_iff_toInt_le] at h1
    rw [Int32.lt_iff_toInt_lt] at h2
    have h0 : (0 : Int32).toInt = 0 := rfl
    have h3 : (-1 : Int32).toInt = -1 := rfl
    rw [h0] at h2
    rw [h3] at h1
    omega

def fm_Md_letter (M : ux_M) (v k : Int32) : ux_M := if (fv_Md_size M v) ≤ k then M else if k < 0 then M else M
def fv_Md_letter (M : ux_M) (v k : Int32) : Int32 := if (fv_Md_size M v) ≤ k then 0 else if k < 0 then 0 else M 3 (((20 * v) + k).toNatClampNeg)

set_option maxHeartbeats 4000000 in
set_option maxRecDepth 100000 in
theorem c_Md_letter (l : Launch) (D : va_G) (ad : Nat → Nat) (cA : Nat → ClassId) (M : ux_M) (v k : Int32) (hs20 : ∀ j, (M 2 j).toInt ≤ 20) : Met l y_Md_letter w_Md_letter ({ frames := 2, cells := 0, slots := 0, locals := 43 }) (va_Pc [.ref (ad 0), .int v, .int k] (ux_B D shM KM ad cA M)) (va_Qi (fun r M1 => M1 = fm_Md_letter M v k ∧ r = fv_Md_letter M v k) (ux_E D shM KM ad cA) (ux_A KM ad)) 0 0 (ux_A KM ad) := by
  refine Met.ofW (cc := b_Md_letter) (maxL := 3) (ret := (some .int)) (by decide) rfl ?_
  intro p e s m args below meth c s₁ B hml hv
  obtain ⟨rfl, hP, hK, hi, hN⟩ := hv
  have hx := B.exec
  have hb := B.bytes
  have hr := B.returns
  have hts := atoms_spec (ws := w_Md_letter) B.pre
  have hown : s.vm.findClass R_Md = some m.cls := findClass_of_methodNamed B.named
  have hlocks := B.notSynchronized
  have hT : ∀ w ∈ tb, w.before _ s = true := fun w h => hts w (List.mem_cons_of_mem _ h)
  have hS : va_S (ux_A KM ad) s.heap s.heap [] := va_S.rf
  have hl := lv_entry ([.ref (ad 0), .int v, .int k]) (n := 3) (Nat.le_of_ble_eq_true rfl)
  rw [lg_entry_eq]
  generalize (lg_sl ([.ref (ad 0), .int v, .int k]) ++ List.replicate (3 - (lg_sl ([.ref (ad 0), .int v, .int k])).length) Slot.unset).toArray = ls at hl ⊢
  have hl : lv_has ls 3 [(0, .ref (ad 0)), (1, .int v), (2, .int k)] := hl
  refine lv_aload_n hx hb d_Md_letter_0 rfl (lv_at hl 0 rfl) ?_
  refine lv_iload_n hx hb d_Md_letter_1 rfl (lv_at hl 1 rfl) ?_
  refine ux_calli (va_runV ⟨hx, hb, hml, hown, hts⟩ (c_Md_size l D ad cA M v ) (cwV 1 hts (tb_goodV ml_Md_393 im_Md_size se_Md_size ii_Md kt_Md_size) rfl rfl rfl (by decide +kernel) ⟨Nat.le_of_ble_eq_true rfl, Nat.le_of_ble_eq_true rfl⟩) (ux_preV (by decide) rfl rfl hP hK hi hN) rfl rfl hl.1 rfl (lv_room (Nat.le_of_ble_eq_true rfl)) d_Md_letter_2 ⟨Nat.zero_le _, Nat.zero_le _⟩) hS (fun r1 M2 H locs q3 hP hS => ?_)
  obtain ⟨q3m, q3e⟩ := q3
  rw [q3m] at hP
  subst q3e
  rw [fk_Md_size] at hP
  refine lv_iload_n hx hb d_Md_letter_5 rfl (lv_at hl 2 rfl) ?_
  refine lv_icmp_le hx hb d_Md_letter_6 rfl (fun h4 => ?_) (fun h4 => ?_)
  · refine lv_iconst (v := 0) hx hb d_Md_letter_27 (by decide) ?_
    exact W.iret (v := 0) hx hb hr (fun t ht hW => ⟨⟨0, M, rfl, ⟨by rw [fm_Md_letter, if_pos h4], by rw [fv_Md_letter, if_pos h4]⟩, by unfold ux_E; rw [ht]; exact hP⟩, hS.F ht⟩) hS.2.2 d_Md_letter_28
  · refine lv_iload_n hx hb d_Md_letter_9 rfl (lv_at hl 2 rfl) ?_
    refine lv_if_lt hx hb d_Md_letter_10 rfl (fun h5 => ?_) (fun h5 => ?_)
    · refine lv_iconst (v := 0) hx hb d_Md_letter_27 (by decide) ?_
      exact W.iret (v := 0) hx hb hr (fun t ht hW => ⟨⟨0, M, rfl, ⟨by rw [fm_Md_letter, if_neg h4, if_pos h5], by rw [fv_Md_letter, if_neg h4, if_pos h5]⟩, by unfold ux_E; rw [ht]; exact hP⟩, hS.F ht⟩) hS.2.2 d_Md_letter_28
    · refine lv_aload_n hx hb d_Md_letter_13 rfl (lv_at hl 0 rfl) ?_
      refine ux_get (C := R_Md) (T := F_Md) (N := 50) hx hb hT in_Md hown hK hP (by decide) rfl rfl 4 (by decide) (hT _ fl_Md_17) rfl d_Md_letter_14 ?_
      refine lv_bipush (v := 20) hx hb d_Md_letter_17 (by decide) ?_
      refine lv_iload_n hx hb d_Md_letter_19 rfl (lv_at hl 1 rfl) ?_
      refine lv_imul hx hb d_Md_letter_20 ?_
      refine lv_iload_n hx hb d_Md_letter_21 rfl (lv_at hl 2 rfl) ?_
      refine lv_iadd hx hb d_Md_letter_22 ?_
      refine ux_cald hx hb hK hP (by decide) rfl (nx_lt hs20 h4 h5) d_Md_letter_23 ?_
      refine lv_goto hx hb d_Md_letter_24 rfl ?_
      exact W.iret (v := M 3 (((20 * v) + k).toNatClampNeg)) hx hb hr (fun t ht hW => ⟨⟨M 3 (((20 * v) + k).toNatClampNeg), M, rfl, ⟨by rw [fm_Md_letter, if_neg h4, if_neg h5], by rw [fv_Md_letter, if_neg h4, if_neg h5]⟩, by unfold ux_E; rw [ht]; exact hP⟩, hS.F ht⟩) hS.2.2 d_Md_letter_28
