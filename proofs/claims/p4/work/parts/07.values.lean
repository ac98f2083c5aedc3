/-! Values: contracts, written by wip/gen/values.py -/
/-- cell k is a row of n values: letters in kl, sizes in ks -/
def ux_V (sh : Nat → ux_S) (K k kl ks n : Nat) : Prop := k < K ∧ kl < K ∧ ks < K ∧ sh k = .inl (4, [some kl, some ks]) ∧ sh kl = .inr (1, 20 * n, none) ∧ sh ks = .inr (0, n, none) ∧ n ≤ 1000
def vz (M : ux_M) (ks n : Nat) (i : Int32) : Int32 := if i < 0 then -1 else if nI n ≤ i then -1 else M ks i.toNatClampNeg
def vh (n : Nat) (i : Int32) : Int32 := if i < 0 then 0 else if nI n ≤ i then 0 else 1
def vt (M : ux_M) (kl ks n : Nat) (i j : Int32) : Int32 := if i < 0 then 0 else if nI n ≤ i then 0 else if 20 < M ks i.toNatClampNeg then 0 else if j < 0 then 0 else if j < M ks i.toNatClampNeg then M kl (i * 20 + j).toNatClampNeg else 0
def vn (M : ux_M) (kl ks n : Nat) (i : Int32) : Int32 := if vz M ks n i = 1 then vt M kl ks n i 0 else 0
def vem (M : ux_M) (ks n : Nat) (i : Int32) : ux_M := if i < 0 then M else if nI n ≤ i then M else ux_wr M ks i.toNatClampNeg 0

set_option maxHeartbeats 4000000 in
set_option maxRecDepth 100000 in
theorem c_Vl_sizeOf (l : Launch) (D : va_G) (sh : Nat → ux_S) (K : Nat) (ad : Nat → Nat) (cA : Nat → ClassId) (M : ux_M) (k kl ks n : Nat) (hV : ux_V sh K k kl ks n) (i : Int32) : Met l y_Vl_sizeOf w_Vl_sizeOf ({ frames := 0, cells := 0, slots := 0, locals := 0 }) (va_Pc [.ref (ad k), .int i] (ux_B D sh K ad cA M)) (va_Qi (fun r M1 => M1 = M ∧ r = vz M ks n i) (ux_E D sh K ad cA) (ux_A K ad)) 0 0 (ux_A K ad) := by
  obtain ⟨hk, hkl, hks, hs, hsl, hss, hn⟩ := hV
  refine Met.ofW (cc := b_Vl_sizeOf) (maxL := 2) (ret := (some .int)) (by decide) rfl ?_
  intro p e s m args below meth c s₁ B hml hv
  obtain ⟨rfl, hP, hK, hi, hN⟩ := hv
  have hx := B.exec
  have hb := B.bytes
  have hr := B.returns
  have hts := atoms_spec (ws := w_Vl_sizeOf) B.pre
  have hown : s.vm.findClass R_Vl = some m.cls := findClass_of_methodNamed B.named
  have hlocks := B.notSynchronized
  have hT : ∀ w ∈ tb, w.before _ s = true := fun w h => hts w (List.mem_cons_of_mem _ h)
  have hS : va_S (ux_A K ad) s.heap s.heap [] := va_S.rf
  have hl := lv_entry ([.ref (ad k), .int i]) (n := 2) (Nat.le_of_ble_eq_true rfl)
  rw [lg_entry_eq]
  generalize (lg_sl ([.ref (ad k), .int i]) ++ List.replicate (2 - (lg_sl ([.ref (ad k), .int i])).length) Slot.unset).toArray = ls at hl ⊢
  have hl : lv_has ls 2 [(0, .ref (ad k)), (1, .int i)] := hl
  refine lv_iload_n hx hb d_Vl_sizeOf_0 rfl (lv_at hl 1 rfl) ?_
  refine lv_if_lt hx hb d_Vl_sizeOf_1 rfl (fun h1 => ?_) (fun h1 => ?_)
  · refine lv_iconst (v := (-1)) hx hb d_Vl_sizeOf_22 (by decide) ?_
    exact W.iret (v := -1) hx hb hr (fun t ht hW => ⟨⟨-1, M, rfl, ⟨rfl, by rw [vz, if_pos h1]⟩, by unfold ux_E; rw [ht]; exact hP⟩, hS.F ht⟩) hS.2.2 d_Vl_sizeOf_23
  · refine lv_iload_n hx hb d_Vl_sizeOf_4 rfl (lv_at hl 1 rfl) ?_
    refine lv_aload_n hx hb d_Vl_sizeOf_5 rfl (lv_at hl 0 rfl) ?_
    refine ux_get (C := R_Vl) (T := F_Vl) (N := 2) hx hb hT in_Vl hown hK hP hk hs rfl 1 (by decide) (hT _ fl_Vl_15) rfl d_Vl_sizeOf_6 ?_
    refine ux_alen hx hb hK hP hks hss rfl d_Vl_sizeOf_9 ?_
    refine lv_icmp_ge hx hb d_Vl_sizeOf_10 rfl (fun h2 => ?_) (fun h2 => ?_)
    · refine lv_iconst (v := (-1)) hx hb d_Vl_sizeOf_22 (by decide) ?_
      exact W.iret (v := -1) hx hb hr (fun t ht hW => ⟨⟨-1, M, rfl, ⟨rfl, by rw [vz, if_neg h1, if_pos h2]⟩, by unfold ux_E; rw [ht]; exact hP⟩, hS.F ht⟩) hS.2.2 d_Vl_sizeOf_23
    · refine lv_aload_n hx hb d_Vl_sizeOf_13 rfl (lv_at hl 0 rfl) ?_
      refine ux_get (C := R_Vl) (T := F_Vl) (N := 2) hx hb hT in_Vl hown hK hP hk hs rfl 1 (by decide) (hT _ fl_Vl_15) rfl d_Vl_sizeOf_14 ?_
      refine lv_iload_n hx hb d_Vl_sizeOf_17 rfl (lv_at hl 1 rfl) ?_
      refine ux_iald hx hb hK hP hks hss (nx_vin hn h1 h2) d_Vl_sizeOf_18 ?_
      refine lv_goto hx hb d_Vl_sizeOf_19 rfl ?_
      exact W.iret (v := M ks i.toNatClampNeg) hx hb hr (fun t ht hW => ⟨⟨M ks i.toNatClampNeg, M, rfl, ⟨rfl, by rw [vz, if_neg h1, if_neg h2]⟩, by unfold ux_E; rw [ht]; exact hP⟩, hS.F ht⟩) hS.2.2 d_Vl_sizeOf_23

set_option maxHeartbeats 4000000 in
set_option maxRecDepth 100000 in
theorem c_Vl_holds (l : Launch) (D : va_G) (sh : Nat → ux_S) (K : Nat) (ad : Nat → Nat) (cA : Nat → ClassId) (M : ux_M) (k kl ks n : Nat) (hV : ux_V sh K k kl ks n) (i : Int32) : Met l y_Vl_holds w_Vl_holds ({ frames := 0, cells := 0, slots := 0, locals := 0 }) (va_Pc [.ref (ad k), .int i] (ux_B D sh K ad cA M)) (va_Qi (fun r M1 => M1 = M ∧ r = vh n i) (ux_E D sh K ad cA) (ux_A K ad)) 0 0 (ux_A K ad) := by
  obtain ⟨hk, hkl, hks, hs, hsl, hss, hn⟩ := hV
  refine Met.ofW (cc := b_Vl_holds) (maxL := 2) (ret := (some .boolean)) (by decide) rfl ?_
  intro p e s m args below meth c s₁ B hml hv
  obtain ⟨rfl, hP, hK, hi, hN⟩ := hv
  have hx := B.exec
  have hb := B.bytes
  have hr := B.returns
  have hts := atoms_spec (ws := w_Vl_holds) B.pre
  have hown : s.vm.findClass R_Vl = some m.cls := findClass_of_methodNamed B.named
  have hlocks := B.notSynchronized
  have hT : ∀ w ∈ tb, w.before _ s = true := fun w h => hts w (List.mem_cons_of_mem _ h)
  have hS : va_S (ux_A K ad) s.heap s.heap [] := va_S.rf
  have hl := lv_entry ([.ref (ad k), .int i]) (n := 2) (Nat.le_of_ble_eq_true rfl)
  rw [lg_entry_eq]
  generalize (lg_sl ([.ref (ad k), .int i]) ++ List.replicate (2 - (lg_sl ([.ref (ad k), .int i])).length) Slot.unset).toArray = ls at hl ⊢
  have hl : lv_has ls 2 [(0, .ref (ad k)), (1, .int i)] := hl
  refine lv_iload_n hx hb d_Vl_holds_0 rfl (lv_at hl 1 rfl) ?_
  refine lv_if_lt hx hb d_Vl_holds_1 rfl (fun h1 => ?_) (fun h1 => ?_)
  · refine lv_iconst (v := 0) hx hb d_Vl_holds_17 (by decide) ?_
    exact W.zret (v := 0) hx hb hr (rfl) (fun t ht hW => ⟨⟨0, M, rfl, ⟨rfl, by rw [vh, if_pos h1]⟩, by unfold ux_E; rw [ht]; exact hP⟩, hS.F ht⟩) hS.2.2 d_Vl_holds_18
  · refine lv_iload_n hx hb d_Vl_holds_4 rfl (lv_at hl 1 rfl) ?_
    refine lv_aload_n hx hb d_Vl_holds_5 rfl (lv_at hl 0 rfl) ?_
    refine ux_get (C := R_Vl) (T := F_Vl) (N := 2) hx hb hT in_Vl hown hK hP hk hs rfl 1 (by decide) (hT _ fl_Vl_15) rfl d_Vl_holds_6 ?_
    refine ux_alen hx hb hK hP hks hss rfl d_Vl_holds_9 ?_
    refine lv_icmp_ge hx hb d_Vl_holds_10 rfl (fun h2 => ?_) (fun h2 => ?_)
    · refine lv_iconst (v := 0) hx hb d_Vl_holds_17 (by decide) ?_
      exact W.zret (v := 0) hx hb hr (rfl) (fun t ht hW => ⟨⟨0, M, rfl, ⟨rfl, by rw [vh, if_neg h1, if_pos h2]⟩, by unfold ux_E; rw [ht]; exact hP⟩, hS.F ht⟩) hS.2.2 d_Vl_holds_18
    · refine lv_iconst (v := 1) hx hb d_Vl_holds_13 (by decide) ?_
      refine lv_goto hx hb d_Vl_holds_14 rfl ?_
      exact W.zret (v := 1) hx hb hr (rfl) (fun t ht hW => ⟨⟨1, M, rfl, ⟨rfl, by rw [vh, if_neg h1, if_neg h2]⟩, by unfold ux_E; rw [ht]; exact hP⟩, hS.F ht⟩) hS.2.2 d_Vl_holds_18

set_option maxHeartbeats 4000000 in
set_option maxRecDepth 100000 in
theorem c_Vl_letterOf (l : Launch) (D : va_G) (sh : Nat → ux_S) (K : Nat) (ad : Nat → Nat) (cA : Nat → ClassId) (M : ux_M) (k kl ks n : Nat) (hV : ux_V sh K k kl ks n) (i j : Int32) : Met l y_Vl_letterOf w_Vl_letterOf ({ frames := 0, cells := 0, slots := 0, locals := 0 }) (va_Pc [.ref (ad k), .int i, .int j] (ux_B D sh K ad cA M)) (va_Qi (fun r M1 => M1 = M ∧ r = vt M kl ks n i j) (ux_E D sh K ad cA) (ux_A K ad)) 0 0 (ux_A K ad) := by
  obtain ⟨hk, hkl, hks, hs, hsl, hss, hn⟩ := hV
  refine Met.ofW (cc := b_Vl_letterOf) (maxL := 3) (ret := (some .int)) (by decide) rfl ?_
  intro p e s m args below meth c s₁ B hml hv
  obtain ⟨rfl, hP, hK, hi, hN⟩ := hv
  have hx := B.exec
  have hb := B.bytes
  have hr := B.returns
  have hts := atoms_spec (ws := w_Vl_letterOf) B.pre
  have hown : s.vm.findClass R_Vl = some m.cls := findClass_of_methodNamed B.named
  have hlocks := B.notSynchronized
  have hT : ∀ w ∈ tb, w.before _ s = true := fun w h => hts w (List.mem_cons_of_mem _ h)
  have hS : va_S (ux_A K ad) s.heap s.heap [] := va_S.rf
  have hl := lv_entry ([.ref (ad k), .int i, .int j]) (n := 3) (Nat.le_of_ble_eq_true rfl)
  rw [lg_entry_eq]
  generalize (lg_sl ([.ref (ad k), .int i, .int j]) ++ List.replicate (3 - (lg_sl ([.ref (ad k), .int i, .int j])).length) Slot.unset).toArray = ls at hl ⊢
  have hl : lv_has ls 3 [(0, .ref (ad k)), (1, .int i), (2, .int j)] := hl
  refine lv_iload_n hx hb d_Vl_letterOf_0 rfl (lv_at hl 1 rfl) ?_
  refine lv_if_lt hx hb d_Vl_letterOf_1 rfl (fun h1 => ?_) (fun h1 => ?_)
  · refine lv_iconst (v := 0) hx hb d_Vl_letterOf_38 (by decide) ?_
    exact W.iret (v := 0) hx hb hr (fun t ht hW => ⟨⟨0, M, rfl, ⟨rfl, by rw [vt, if_pos h1]⟩, by unfold ux_E; rw [ht]; exact hP⟩, hS.F ht⟩) hS.2.2 d_Vl_letterOf_39
  · refine lv_iload_n hx hb d_Vl_letterOf_4 rfl (lv_at hl 1 rfl) ?_
    refine lv_aload_n hx hb d_Vl_letterOf_5 rfl (lv_at hl 0 rfl) ?_
    refine ux_get (C := R_Vl) (T := F_Vl) (N := 2) hx hb hT in_Vl hown hK hP hk hs rfl 1 (by decide) (hT _ fl_Vl_15) rfl d_Vl_letterOf_6 ?_
    refine ux_alen hx hb hK hP hks hss rfl d_Vl_letterOf_9 ?_
    refine lv_icmp_ge hx hb d_Vl_letterOf_10 rfl (fun h2 => ?_) (fun h2 => ?_)
    · refine lv_iconst (v := 0) hx hb d_Vl_letterOf_38 (by decide) ?_
      exact W.iret (v := 0) hx hb hr (fun t ht hW => ⟨⟨0, M, rfl, ⟨rfl, by rw [vt, if_neg h1, if_pos h2]⟩, by unfold ux_E; rw [ht]; exact hP⟩, hS.F ht⟩) hS.2.2 d_Vl_letterOf_39
    · refine lv_aload_n hx hb d_Vl_letterOf_13 rfl (lv_at hl 0 rfl) ?_
      refine ux_get (C := R_Vl) (T := F_Vl) (N := 2) hx hb hT in_Vl hown hK hP hk hs rfl 1 (by decide) (hT _ fl_Vl_15) rfl d_Vl_letterOf_14 ?_
      refine lv_iload_n hx hb d_Vl_letterOf_17 rfl (lv_at hl 1 rfl) ?_
      refine ux_iald hx hb hK hP hks hss (nx_vin hn h1 h2) d_Vl_letterOf_18 ?_
      refine lv_bipush (v := 20) hx hb d_Vl_letterOf_19 (by decide) ?_
      refine lv_icmp_gt hx hb d_Vl_letterOf_21 rfl (fun h3 => ?_) (fun h3 => ?_)
      · refine lv_iconst (v := 0) hx hb d_Vl_letterOf_38 (by decide) ?_
        exact W.iret (v := 0) hx hb hr (fun t ht hW => ⟨⟨0, M, rfl, ⟨rfl, by rw [vt, if_neg h1, if_neg h2, if_pos h3]⟩, by unfold ux_E; rw [ht]; exact hP⟩, hS.F ht⟩) hS.2.2 d_Vl_letterOf_39
      · refine lv_iload_n hx hb d_Vl_letterOf_24 rfl (lv_at hl 2 rfl) ?_
        refine lv_if_lt hx hb d_Vl_letterOf_25 rfl (fun h4 => ?_) (fun h4 => ?_)
        · refine lv_iconst (v := 0) hx hb d_Vl_letterOf_38 (by decide) ?_
          exact W.iret (v := 0) hx hb hr (fun t ht hW => ⟨⟨0, M, rfl, ⟨rfl, by rw [vt, if_neg h1, if_neg h2, if_neg h3, if_pos h4]⟩, by unfold ux_E; rw [ht]; exact hP⟩, hS.F ht⟩) hS.2.2 d_Vl_letterOf_39
        · refine lv_iload_n hx hb d_Vl_letterOf_28 rfl (lv_at hl 2 rfl) ?_
          refine lv_aload_n hx hb d_Vl_letterOf_29 rfl (lv_at hl 0 rfl) ?_
          refine ux_get (C := R_Vl) (T := F_Vl) (N := 2) hx hb hT in_Vl hown hK hP hk hs rfl 1 (by decide) (hT _ fl_Vl_15) rfl d_Vl_letterOf_30 ?_
          refine lv_iload_n hx hb d_Vl_letterOf_33 rfl (lv_at hl 1 rfl) ?_
          refine ux_iald hx hb hK hP hks hss (nx_vin hn h1 h2) d_Vl_letterOf_34 ?_
          refine lv_icmp_lt hx hb d_Vl_letterOf_35 rfl (fun h5 => ?_) (fun h5 => ?_)
          · refine lv_aload_n hx hb d_Vl_letterOf_40 rfl (lv_at hl 0 rfl) ?_
            refine ux_get (C := R_Vl) (T := F_Vl) (N := 2) hx hb hT in_Vl hown hK hP hk hs rfl 0 (by decide) (hT _ fl_Vl_9) rfl d_Vl_letterOf_41 ?_
            refine lv_iload_n hx hb d_Vl_letterOf_44 rfl (lv_at hl 1 rfl) ?_
            refine lv_bipush (v := 20) hx hb d_Vl_letterOf_45 (by decide) ?_
            refine lv_imul hx hb d_Vl_letterOf_47 ?_
            refine lv_iload_n hx hb d_Vl_letterOf_48 rfl (lv_at hl 2 rfl) ?_
            refine lv_iadd hx hb d_Vl_letterOf_49 ?_
            refine ux_cald hx hb hK hP hkl hsl (nx_let hn (nx_vin hn h1 h2) (nx_vin2 h3 h4 h5)) d_Vl_letterOf_50 ?_
            exact W.iret (v := M kl (((i * 20) + j).toNatClampNeg)) hx hb hr (fun t ht hW => ⟨⟨M kl (((i * 20) + j).toNatClampNeg), M, rfl, ⟨rfl, by rw [vt, if_neg h1, if_neg h2, if_neg h3, if_neg h4, if_pos h5]⟩, by unfold ux_E; rw [ht]; exact hP⟩, hS.F ht⟩) hS.2.2 d_Vl_letterOf_51
          · refine lv_iconst (v := 0) hx hb d_Vl_letterOf_38 (by decide) ?_
            exact W.iret (v := 0) hx hb hr (fun t ht hW => ⟨⟨0, M, rfl, ⟨rfl, by rw [vt, if_neg h1, if_neg h2, if_neg h3, if_neg h4, if_neg h5]⟩, by unfold ux_E; rw [ht]; exact hP⟩, hS.F ht⟩) hS.2.2 d_Vl_letterOf_39

set_option maxHeartbeats 4000000 in
set_option maxRecDepth 100000 in
theorem c_Vl_nameOf (l : Launch) (D : va_G) (sh : Nat → ux_S) (K : Nat) (ad : Nat → Nat) (cA : Nat → ClassId) (M : ux_M) (k kl ks n : Nat) (hV : ux_V sh K k kl ks n) (i : Int32) : Met l y_Vl_nameOf w_Vl_nameOf ({ frames := 1, cells := 0, slots := 0, locals := 22 }) (va_Pc [.ref (ad k), .int i] (ux_B D sh K ad cA M)) (va_Qi (fun r M1 => M1 = M ∧ r = vn M kl ks n i) (ux_E D sh K ad cA) (ux_A K ad)) 0 0 (ux_A K ad) := by
  obtain ⟨hk, hkl, hks, hs, hsl, hss, hn⟩ := hV
  refine Met.ofW (cc := b_Vl_nameOf) (maxL := 2) (ret := (some .int)) (by decide) rfl ?_
  intro p e s m args below meth c s₁ B hml hv
  obtain ⟨rfl, hP, hK, hi, hN⟩ := hv
  have hx := B.exec
  have hb := B.bytes
  have hr := B.returns
  have hts := atoms_spec (ws := w_Vl_nameOf) B.pre
  have hown : s.vm.findClass R_Vl = some m.cls := findClass_of_methodNamed B.named
  have hlocks := B.notSynchronized
  have hT : ∀ w ∈ tb, w.before _ s = true := fun w h => hts w (List.mem_cons_of_mem _ h)
  have hS : va_S (ux_A K ad) s.heap s.heap [] := va_S.rf
  have hl := lv_entry ([.ref (ad k), .int i]) (n := 2) (Nat.le_of_ble_eq_true rfl)
  rw [lg_entry_eq]
  generalize (lg_sl ([.ref (ad k), .int i]) ++ List.replicate (2 - (lg_sl ([.ref (ad k), .int i])).length) Slot.unset).toArray = ls at hl ⊢
  have hl : lv_has ls 2 [(0, .ref (ad k)), (1, .int i)] := hl
  refine lv_aload_n hx hb d_Vl_nameOf_0 rfl (lv_at hl 0 rfl) ?_
  refine lv_iload_n hx hb d_Vl_nameOf_1 rfl (lv_at hl 1 rfl) ?_
  refine ux_calli (va_runV ⟨hx, hb, hml, hown, hts⟩ (c_Vl_sizeOf l D sh K ad cA M k kl ks n ⟨hk, hkl, hks, hs, hsl, hss, hn⟩ i) (cwV 1 hts (tb_goodV ml_Vl_25 im_Vl_sizeOf se_Vl_sizeOf ii_Vl kt_Vl_sizeOf) rfl rfl rfl (by decide +kernel) ⟨Nat.le_of_ble_eq_true rfl, Nat.le_of_ble_eq_true rfl⟩) (ux_preV hk hs rfl hP hK hi hN) rfl rfl hl.1 rfl (lv_room (Nat.le_of_ble_eq_true rfl)) d_Vl_nameOf_2 ⟨Nat.zero_le _, Nat.zero_le _⟩) hS (fun r1 M2 H locs q3 hP hS => ?_)
  obtain ⟨q3m, q3e⟩ := q3
  rw [q3m] at hP
  subst q3e
  refine lv_iconst (v := 1) hx hb d_Vl_nameOf_5 (by decide) ?_
  refine lv_icmp_ne hx hb d_Vl_nameOf_6 rfl (fun h4 => ?_) (fun h4 => ?_)
  · refine lv_iconst (v := 0) hx hb d_Vl_nameOf_18 (by decide) ?_
    exact W.iret (v := 0) hx hb hr (fun t ht hW => ⟨⟨0, M, rfl, ⟨rfl, by rw [vn, if_neg h4]⟩, by unfold ux_E; rw [ht]; exact hP⟩, hS.F ht⟩) hS.2.2 d_Vl_nameOf_19
  · refine lv_aload_n hx hb d_Vl_nameOf_9 rfl (lv_at hl 0 rfl) ?_
    refine lv_iload_n hx hb d_Vl_nameOf_10 rfl (lv_at hl 1 rfl) ?_
    refine lv_iconst (v := 0) hx hb d_Vl_nameOf_11 (by decide) ?_
    refine ux_calli (va_runV ⟨hx, hb, hml, hown, hts⟩ (c_Vl_letterOf l D sh K ad cA M k kl ks n ⟨hk, hkl, hks, hs, hsl, hss, hn⟩ i 0) (cwV 2 hts (tb_goodV ml_Vl_29 im_Vl_letterOf se_Vl_letterOf ii_Vl kt_Vl_letterOf) rfl rfl rfl (by decide +kernel) ⟨Nat.le_of_ble_eq_true rfl, Nat.le_of_ble_eq_true rfl⟩) (ux_preV hk hs rfl hP hK hi hN) rfl rfl hl.1 rfl (lv_room (Nat.le_of_ble_eq_true rfl)) d_Vl_nameOf_12 ⟨Nat.zero_le _, Nat.zero_le _⟩) hS (fun r5 M6 H locs q7 hP hS => ?_)
    obtain ⟨q7m, q7e⟩ := q7
    rw [q7m] at hP
    subst q7e
    refine lv_goto hx hb d_Vl_nameOf_15 rfl ?_
    exact W.iret (v := vt M kl ks n i 0) hx hb hr (fun t ht hW => ⟨⟨vt M kl ks n i 0, M, rfl, ⟨rfl, by rw [vn, if_pos h4]⟩, by unfold ux_E; rw [ht]; exact hP⟩, hS.F ht⟩) hS.2.2 d_Vl_nameOf_19

set_option maxHeartbeats 4000000 in
set_option maxRecDepth 100000 in
theorem c_Vl_empty (l : Launch) (D : va_G) (sh : Nat → ux_S) (K : Nat) (ad : Nat → Nat) (cA : Nat → ClassId) (M : ux_M) (k kl ks n : Nat) (hV : ux_V sh K k kl ks n) (i : Int32) : Met l y_Vl_empty w_Vl_empty ({ frames := 0, cells := 0, slots := 0, locals := 0 }) (va_Pc [.ref (ad k), .int i] (ux_B D sh K ad cA M)) (va_Qv (fun M1 => M1 = vem M ks n i) (ux_E D sh K ad cA) (ux_A K ad)) 0 0 (ux_A K ad) := by
  obtain ⟨hk, hkl, hks, hs, hsl, hss, hn⟩ := hV
  refine Met.ofW (cc := b_Vl_empty) (maxL := 2) (ret := none) (by decide) rfl ?_
  intro p e s m args below meth c s₁ B hml hv
  obtain ⟨rfl, hP, hK, hi, hN⟩ := hv
  have hx := B.exec
  have hb := B.bytes
  have hr := B.returns
  have hts := atoms_spec (ws := w_Vl_empty) B.pre
  have hown : s.vm.findClass R_Vl = some m.cls := findClass_of_methodNamed B.named
  have hlocks := B.notSynchronized
  have hT : ∀ w ∈ tb, w.before _ s = true := fun w h => hts w (List.mem_cons_of_mem _ h)
  have hS : va_S (ux_A K ad) s.heap s.heap [] := va_S.rf
  have hl := lv_entry ([.ref (ad k), .int i]) (n := 2) (Nat.le_of_ble_eq_true rfl)
  rw [lg_entry_eq]
  generalize (lg_sl ([.ref (ad k), .int i]) ++ List.replicate (2 - (lg_sl ([.ref (ad k), .int i])).length) Slot.unset).toArray = ls at hl ⊢
  have hl : lv_has ls 2 [(0, .ref (ad k)), (1, .int i)] := hl
  refine lv_iload_n hx hb d_Vl_empty_0 rfl (lv_at hl 1 rfl) ?_
  refine lv_if_lt hx hb d_Vl_empty_1 rfl (fun h1 => ?_) (fun h1 => ?_)
  · exact W.vret hx hb hr (fun t ht hW => ⟨⟨M, rfl, by rw [vem, if_pos h1], by unfold ux_E; rw [ht]; exact hP⟩, hS.F ht⟩) hS.2.2 d_Vl_empty_20
  · refine lv_iload_n hx hb d_Vl_empty_4 rfl (lv_at hl 1 rfl) ?_
    refine lv_aload_n hx hb d_Vl_empty_5 rfl (lv_at hl 0 rfl) ?_
    refine ux_get (C := R_Vl) (T := F_Vl) (N := 2) hx hb hT in_Vl hown hK hP hk hs rfl 1 (by decide) (hT _ fl_Vl_15) rfl d_Vl_empty_6 ?_
    refine ux_alen hx hb hK hP hks hss rfl d_Vl_empty_9 ?_
    refine lv_icmp_ge hx hb d_Vl_empty_10 rfl (fun h2 => ?_) (fun h2 => ?_)
    · exact W.vret hx hb hr (fun t ht hW => ⟨⟨M, rfl, by rw [vem, if_neg h1, if_pos h2], by unfold ux_E; rw [ht]; exact hP⟩, hS.F ht⟩) hS.2.2 d_Vl_empty_20
    · refine lv_aload_n hx hb d_Vl_empty_13 rfl (lv_at hl 0 rfl) ?_
      refine ux_get (C := R_Vl) (T := F_Vl) (N := 2) hx hb hT in_Vl hown hK hP hk hs rfl 1 (by decide) (hT _ fl_Vl_15) rfl d_Vl_empty_14 ?_
      refine lv_iload_n hx hb d_Vl_empty_17 rfl (lv_at hl 1 rfl) ?_
      refine lv_iconst (v := 0) hx hb d_Vl_empty_18 (by decide) ?_
      refine ux_iast hx hb hK hi hP hS hks hss (nx_vin hn h1 h2) d_Vl_empty_19 (fun H locs hP hS => ?_)
      exact W.vret hx hb hr (fun t ht hW => ⟨⟨(ux_wr M ks (i).toNatClampNeg 0), rfl, by rw [vem, if_neg h1, if_neg h2], by unfold ux_E; rw [ht]; exact hP⟩, hS.F ht⟩) hS.2.2 d_Vl_empty_20
