/-! Variables.open and wipe -/
def vli (M : ux_M) (f i : Nat) : ux_M := fun a b => if a = 17 ∧ f * 26 ≤ b ∧ b < f * 26 + i then 0 else M a b
theorem vli_0 (M : ux_M) (f : Nat) : vli M f 0 = M := by
  funext a b
  unfold vli
  rw [if_neg (by omega)]
theorem vli_s (M : ux_M) (f i : Nat) : ux_wr (vli M f i) 17 (f * 26 + i) 0 = vli M f (i + 1) := by
  funext a b
  by_cases ha : a = 17
  · subst ha
    by_cases hb : b = f * 26 + i
    · subst hb
      rw [ux_wr_at]
      unfold vli
      rw [if_pos ⟨rfl, by omega, by omega⟩]
    · rw [ux_wr_off (Or.inr hb)]
      unfold vli
      by_cases h : f * 26 ≤ b ∧ b < f * 26 + i
      · rw [if_pos ⟨rfl, h⟩, if_pos ⟨rfl, h.1, by omega⟩]
      · rw [if_neg (fun q => h q.2), if_neg (fun q => h ⟨q.2.1, by omega⟩)]
  · rw [ux_wr_ne ha]
    unfold vli
    rw [if_neg (fun q => ha q.1), if_neg (fun q => ha q.1)]
theorem V_fr : ∀ f, f < 8 → ux_V shX KX (gX16 f) (gX16 f + 1) (gX16 f + 2) 26 := lt8 (P := fun f => ux_V shX KX (gX16 f) (gX16 f + 1) (gX16 f + 2) 26) (shV _ _ _ _ (by decide) rfl rfl rfl) (shV _ _ _ _ (by decide) rfl rfl rfl) (shV _ _ _ _ (by decide) rfl rfl rfl) (shV _ _ _ _ (by decide) rfl rfl rfl) (shV _ _ _ _ (by decide) rfl rfl rfl) (shV _ _ _ _ (by decide) rfl rfl rfl) (shV _ _ _ _ (by decide) rfl rfl rfl) (shV _ _ _ _ (by decide) rfl rfl rfl)
/-- what open(f) leaves -/
def mop (M : ux_M) (f : Nat) : ux_M := vli (vfill M (gX16 f + 2) 26 (-1)) f 26
set_option maxHeartbeats 4000000 in
set_option maxRecDepth 100000 in
theorem c_Vs_open (l : Launch) (D : va_G) (ad : Nat → Nat) (cA : Nat → ClassId) (M : ux_M) (f : Nat) (hf : f < 8) : Met l y_Vs_open w_Vs_open ({ frames := 2, cells := 0, slots := 0, locals := 43 }) (va_Pc [.ref (ad 15), .int (nI f)] (ux_B D shX KX ad cA M)) (va_Qv (fun M1 => M1 = mop M f) (ux_E D shX KX ad cA) (ux_A KX ad)) 0 0 (ux_A KX ad) := by
  refine Met.ofW (cc := b_Vs_open) (maxL := 3) (ret := none) (by decide) rfl ?_
  intro p e s m args below meth c s₁ B hml hv
  obtain ⟨rfl, hP, hK, hi, hN⟩ := hv
  have hx := B.exec
  have hb := B.bytes
  have hr := B.returns
  have hts := atoms_spec (ws := w_Vs_open) B.pre
  have hown : s.vm.findClass R_Vs = some m.cls := findClass_of_methodNamed B.named
  have hlocks := B.notSynchronized
  have hT : ∀ w ∈ tb, w.before _ s = true := fun w h => hts w (List.mem_cons_of_mem _ h)
  have hS : va_S (ux_A KX ad) s.heap s.heap [] := va_S.rf
  have loop : ∀ d i : Nat, i + d = 26 → ∀ (H : Heap) (locs : List Loc) (ls : Array Slot), va_P D classes (ux_w shX KX ad cA (vli (vfill M (gX16 f + 2) 26 (-1)) f i)) H → va_S (ux_A KX ad) s.heap H locs → lv_has ls 3 [(2, .int (nI i)), (0, .ref (ad 15)), (1, .int (nI f))] →
      W p l e (headSpec w_Vs_open { frames := 2, cells := 0, slots := 0, locals := 43 }).room s m ([.ref (ad 15), .int (nI f)] : List Value).toArray below meth c H locs 0 0 (MQ below (va_Qv (fun M1 => M1 = mop M f) (ux_E D shX KX ad cA) (ux_A KX ad)) ([.ref (ad 15), .int (nI f)] : List Value).toArray s 0 0 (ux_A KX ad)) (F0 m 22 ls []) := by
    intro d
    induction d with
    | zero =>
      intro i hid H locs ls hP hS hl
      have hie : i = 26 := by omega
      subst hie
      refine lv_iload_n hx hb d_Vs_open_22 rfl (lv_at hl 0 rfl) ?_
      refine lv_bipush (v := 26) hx hb d_Vs_open_23 (by decide) ?_
      refine lv_icmp_ge hx hb d_Vs_open_25 rfl (fun h1 => ?_) (fun h1 => absurd (by decide) h1)
      exact W.vret hx hb hr (fun t ht hW => ⟨⟨_, rfl, rfl, by unfold ux_E; rw [ht]; exact hP⟩, hS.F ht⟩) hS.2.2 d_Vs_open_46
    | succ d ih =>
      intro i hid H locs ls hP hS hl
      refine lv_iload_n hx hb d_Vs_open_22 rfl (lv_at hl 0 rfl) ?_
      refine lv_bipush (v := 26) hx hb d_Vs_open_23 (by decide) ?_
      refine lv_icmp_ge hx hb d_Vs_open_25 rfl (fun h1 => absurd h1 (nI_ge (b := 26) (by omega) (by omega))) (fun h1 => ?_)
      refine lv_aload_n hx hb d_Vs_open_28 rfl (lv_at hl 1 rfl) ?_
      refine ux_get (C := R_Vs) (T := F_Vs) (N := 2) hx hb hT in_Vs hown hK hP (k := 15) (by decide) rfl rfl 1 (by decide) (hT _ fl_Vs_17) rfl d_Vs_open_29 ?_
      refine lv_iload_n hx hb d_Vs_open_32 rfl (lv_at hl 2 rfl) ?_
      refine lv_bipush (v := 26) hx hb d_Vs_open_33 (by decide) ?_
      refine lv_imul hx hb d_Vs_open_35 ?_
      refine lv_iload_n hx hb d_Vs_open_36 rfl (lv_at hl 0 rfl) ?_
      refine lv_iadd hx hb d_Vs_open_37 ?_
      rw [show nI f * 26 + nI i = nI (f * 26 + i) from by rw [show (26 : Int32) = nI 26 from rfl, pk_mul, nI_add]]
      refine lv_iconst (v := 0) hx hb d_Vs_open_38 (by decide) ?_
      refine ux_zast hx hb hK hi hP hS (k := 17) (by decide) rfl (vp_in_nI (by omega) (by omega)) d_Vs_open_39 (fun H locs hP hS => ?_)
      rw [nI_clamp (by omega), show vp_nar .boolean 0 = 0 from rfl, vli_s] at hP
      refine lv_iinc (k := 0) (v := nI (i + 1)) hx hb d_Vs_open_40 hl rfl (nI_1 i) (by decide) rfl (fun ls hl => ?_)
      have hl : lv_has ls 3 [(2, .int (nI (i + 1))), (0, .ref (ad 15)), (1, .int (nI f))] := hl
      refine lv_goto hx hb d_Vs_open_43 rfl ?_
      exact ih (i + 1) (by omega) H locs ls hP hS hl
  have hl := lv_entry ([.ref (ad 15), .int (nI f)]) (n := 3) (Nat.le_of_ble_eq_true rfl)
  rw [lg_entry_eq]
  generalize (lg_sl ([.ref (ad 15), .int (nI f)]) ++ List.replicate (3 - (lg_sl ([.ref (ad 15), .int (nI f)])).length) Slot.unset).toArray = ls at hl ⊢
  have hl : lv_has ls 3 [(0, .ref (ad 15)), (1, .int (nI f))] := hl
  refine lv_iload_n hx hb d_Vs_open_0 rfl (lv_at hl 1 rfl) ?_
  refine lv_if_lt hx hb d_Vs_open_1 rfl (fun h1 => absurd h1 (nI_pos (by omega))) (fun _ => ?_)
  refine lv_iload_n hx hb d_Vs_open_4 rfl (lv_at hl 1 rfl) ?_
  refine lv_bipush (v := 8) hx hb d_Vs_open_5 (by decide) ?_
  refine lv_icmp_lt hx hb d_Vs_open_7 rfl (fun _ => ?_) (fun h1 => absurd (nI_lt (b := 8) hf (by decide)) h1)
  refine lv_aload_n hx hb d_Vs_open_11 rfl (lv_at hl 0 rfl) ?_
  refine ux_get (C := R_Vs) (T := F_Vs) (N := 2) hx hb hT in_Vs hown hK hP (k := 15) (by decide) rfl rfl 0 (by decide) (hT _ fl_Vs_11) rfl d_Vs_open_12 ?_
  refine lv_iload_n hx hb d_Vs_open_15 rfl (lv_at hl 1 rfl) ?_
  refine ux_aald (k := 16) hx hb hK hP (by decide) rfl rfl (vp_in_nI hf (by decide)) d_Vs_open_16 ?_
  rw [nI_clamp (by omega)]
  refine ux_callv (va_runV ⟨hx, hb, hml, hown, hts⟩ (c_Vl_forgetAll l D shX KX ad cA M (gX16 f) (gX16 f + 1) (gX16 f + 2) 26 (V_fr f hf)) (cwV 0 hts (tb_goodV ml_Vs_24 im_Vl_forgetAll se_Vl_forgetAll ii_Vl kt_Vl_forgetAll) rfl rfl rfl (by decide +kernel) ⟨Nat.le_of_ble_eq_true rfl, Nat.le_of_ble_eq_true rfl⟩) (ux_preV (V_fr f hf).1 (V_fr f hf).2.2.2.1 rfl hP hK hi hN) rfl rfl hl.1 rfl (lv_room (Nat.le_of_ble_eq_true rfl)) d_Vs_open_17 ⟨Nat.zero_le _, Nat.zero_le _⟩) hS (fun M1 H locs q hP hS => ?_)
  rw [q] at hP
  refine lv_iconst (v := 0) hx hb d_Vs_open_20 (by decide) ?_
  refine lv_istore_n hx hb d_Vs_open_21 rfl hl (by decide) rfl (fun ls hl => ?_)
  have hl : lv_has ls 3 [(2, .int (nI 0)), (0, .ref (ad 15)), (1, .int (nI f))] := hl
  exact loop 26 0 (by decide) H locs ls (by rw [vli_0]; exact hP) hS hl
