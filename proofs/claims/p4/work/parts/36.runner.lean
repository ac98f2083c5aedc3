/-! Runner, safe: written by wip/gen/cls.py -/
def tFu (a _b : Nat) : Prop := a = 13
def tRb (d a b : Nat) : Prop := (a = 53 + 7 * d ∧ (b = 4 ∨ b = 5)) ∨ (54 + 7 * d ≤ a ∧ a < 60 + 7 * d) ∨ a = 48 ∨ a = 49
def tCC (a _b : Nat) : Prop := a = 13 ∨ a = 48 ∨ a = 49
def tSS (a _b : Nat) : Prop := (18 ≤ a ∧ a < 42) ∨ a = 48 ∨ a = 49
def tSw (a _b : Nat) : Prop := a = 48 ∨ a = 49 ∨ a = 50 ∨ a = 51 ∨ a = 52
theorem vha_1 {M : ux_M} {k : Int32} (h : ¬ (vha M k).toInt = 0) : 0 ≤ k.toInt ∧ k.toInt < 26 := by
  unfold vha at h
  by_cases h1 : k < 0
  · rw [if_pos h1] at h; exact absurd rfl h
  · by_cases h2 : 26 ≤ k
    · rw [if_neg h1, if_pos h2] at h; exact absurd rfl h
    · rw [Int32.lt_iff_toInt_lt] at h1
      rw [Int32.le_iff_toInt_le] at h2
      have h0 : (0 : Int32).toInt = 0 := rfl
      have h3 : (26 : Int32).toInt = 26 := rfl
      omega
theorem vha_b (M : ux_M) (k : Int32) : vha M k = 0 ∨ vha M k = 1 := by
  unfold vha
  repeat' split
  all_goals first | exact Or.inl rfl | exact Or.inr rfl
section UXS
variable {p : Program} {l : Launch} {e : Env} {R : Room} {s : State} {m : MethodId} {args : Array Value} {below : List Frame} {meth : Method} {c : Code} {H : Heap} {locs : List Loc} {cells slots : Nat} {Q : State → Prop}
variable {cc : ByteArray} {pc : Nat} {ls : Array Slot} {rest st0 : List Value} {D : va_G} {ad adK : Nat → Nat} {cA : Nat → ClassId} {M : ux_M} {H0 : Heap}
theorem ux_callrS {a : Array Value} (hr : va_Run p l e R s m args below meth c H locs cells slots 0 0 (F0 m pc ls st0) rest (va_Qr (fun M1 : ux_M => M1 = M) (fun M1 q t => (∃ i, i < 16 ∧ q = adK i) ∧ ux_E D shX KX ad cA M1 t) (ux_A KX ad) a) (ux_A KX ad)) (hS : va_S (ux_A KX ad) H0 H locs)
    (kk : ∀ (i : Nat) (H1 : Heap) (locs1 : List Loc), i < 16 → va_P D classes (ux_w shX KX ad cA M) H1 → va_S (ux_A KX ad) H0 H1 locs1 → W p l e R s m args below meth c H1 locs1 cells slots Q (F0 m (pc + 3) ls (.ref (adK i) :: rest))) : W p l e R s m args below meth c H locs cells slots Q (F0 m pc ls st0) :=
  va_callr hr hS (fun _ _ h => h) (fun _ h => h) (fun u q t H1 locs1 ht _ hp hB _ _ hS1 => by
    obtain ⟨⟨i, hi, rfl⟩, hB⟩ := hB
    subst hp
    exact kk i H1 locs1 hi (by subst ht; exact hB) hS1)
end UXS

set_option maxHeartbeats 8000000 in
set_option maxRecDepth 100000 in
theorem s_Rn_fail (l : Launch) (D : va_G) (ad : Nat → Nat) (cA : Nat → ClassId) (M : ux_M) (hI : IvX M) (er : Int32) : Met l y_Rn_fail w_Rn_fail ({ frames := 1, cells := 0, slots := 0, locals := 22 }) (va_Pc [.ref (ad 13), .int er] (ux_B D shX KX ad cA M)) (va_Qi (fun r M1 => IvX M1 ∧ (∀ a b, ¬ (tV 48 49) a b → M1 a b = M a b) ∧ (True)) (ux_E D shX KX ad cA) (ux_A KX ad)) 0 0 (ux_A KX ad) := by
  refine Met.ofW (cc := b_Rn_fail) (maxL := 2) (ret := (some .int)) (by decide) rfl ?_
  intro p e s m args below meth c s₁ B hml hv
  obtain ⟨rfl, hP, hK, hi, hN⟩ := hv
  have hx := B.exec
  have hb := B.bytes
  have hr := B.returns
  have hts := atoms_spec (ws := w_Rn_fail) B.pre
  have hown : s.vm.findClass R_Rn = some m.cls := findClass_of_methodNamed B.named
  have hlocks := B.notSynchronized
  have hT : ∀ w ∈ tb, w.before _ s = true := fun w h => hts w (List.mem_cons_of_mem _ h)
  have hS : va_S (ux_A KX ad) s.heap s.heap [] := va_S.rf
  have hl := lv_entry ([.ref (ad 13), .int er]) (n := 2) (Nat.le_of_ble_eq_true rfl)
  rw [lg_entry_eq]
  generalize (lg_sl ([.ref (ad 13), .int er]) ++ List.replicate (2 - (lg_sl ([.ref (ad 13), .int er])).length) Slot.unset).toArray = ls at hl ⊢
  have hl : lv_has ls 2 [(0, .ref (ad 13)), (1, .int er)] := hl
  have hF : ∀ a b, ¬ (tV 48 49) a b → M a b = M a b := fun _ _ _ => rfl
  refine lv_aload_n hx hb d_Rn_fail_0 rfl (lv_at hl 0 rfl) ?_
  refine ux_get (C := R_Rn) (T := F_Rn) (N := 9) hx hb hT in_Rn hown hK hP (by decide) rfl rfl 6 (by decide) (hT _ fl_Rn_36) rfl d_Rn_fail_1 ?_
  refine lv_iconst (v := 0) hx hb d_Rn_fail_4 (by decide) ?_
  refine ux_callv (va_runV ⟨hx, hb, hml, hown, hts⟩ (c_Vl_empty l D shX KX ad cA M 47 48 49 1 V_res 0) (cwV 1 hts (tb_goodV ml_Rn_72 im_Vl_empty se_Vl_empty ii_Vl kt_Vl_empty) rfl rfl rfl (by decide +kernel) ⟨Nat.le_of_ble_eq_true rfl, Nat.le_of_ble_eq_true rfl⟩) (ux_preV (by decide) rfl rfl hP hK hi hN) rfl rfl hl.1 rfl (lv_room (Nat.le_of_ble_eq_true rfl)) d_Rn_fail_5 ⟨Nat.zero_le _, Nat.zero_le _⟩) hS (fun M1 H locs q2 hP hS => ?_)
  have fq2 := vem_off (M := M) (ks := 49) (n := 1) (i := 0)
  rw [← q2] at fq2
  have hI : IvX M1 := by rw [q2]; exact vem_I hI (fun b => by unfold ppn; omega) (by unfold pch; omega)
  have hF := fr_call hF fq2 (fun a b q => by unfold tV1 at q; unfold tV; omega)
  refine lv_aload_n hx hb d_Rn_fail_8 rfl (lv_at hl 0 rfl) ?_
  refine ux_get (C := R_Rn) (T := F_Rn) (N := 9) hx hb hT in_Rn hown hK hP (by decide) rfl rfl 6 (by decide) (hT _ fl_Rn_36) rfl d_Rn_fail_9 ?_
  refine lv_iconst (v := 0) hx hb d_Rn_fail_12 (by decide) ?_
  refine lv_bipush (v := 69) hx hb d_Rn_fail_13 (by decide) ?_
  refine ux_calli (va_runV ⟨hx, hb, hml, hown, hts⟩ (s_Vl_append l D ad cA M1 hI 47 48 49 1 vV_res 0 69) (cwV 2 hts (tb_goodV ml_Rn_94 im_Vl_append se_Vl_append ii_Vl kt_Vl_append) rfl rfl rfl (by decide +kernel) ⟨Nat.le_of_ble_eq_true rfl, Nat.le_of_ble_eq_true rfl⟩) (ux_preV (by decide) rfl rfl hP hK hi hN) rfl rfl hl.1 rfl (lv_room (Nat.le_of_ble_eq_true rfl)) d_Rn_fail_15 ⟨Nat.zero_le _, Nat.zero_le _⟩) hS (fun r3 M4 H locs q5 hP hS => ?_)
  obtain ⟨hI, fq5, q5p⟩ := q5
  have hF := fr_call hF fq5 (fun a b q => by unfold tV at q; unfold tV; omega)
  refine lv_pop hx hb d_Rn_fail_18 rfl ?_
  refine lv_aload_n hx hb d_Rn_fail_19 rfl (lv_at hl 0 rfl) ?_
  refine ux_get (C := R_Rn) (T := F_Rn) (N := 9) hx hb hT in_Rn hown hK hP (by decide) rfl rfl 6 (by decide) (hT _ fl_Rn_36) rfl d_Rn_fail_20 ?_
  refine lv_iconst (v := 0) hx hb d_Rn_fail_23 (by decide) ?_
  refine lv_bipush (v := 48) hx hb d_Rn_fail_24 (by decide) ?_
  refine lv_iload_n hx hb d_Rn_fail_26 rfl (lv_at hl 1 rfl) ?_
  refine lv_iadd hx hb d_Rn_fail_27 ?_
  refine lv_topi (fun x6 ex6 => ?_)
  try have fx6 : x6.toInt = 48 + er.toInt := by rw [ex6]; exact ti_add (by (try rw [show (48 : Int32).toInt = 48 from rfl]); omega) (by (try rw [show (48 : Int32).toInt = 48 from rfl]); omega)
  refine ux_calli (va_runV ⟨hx, hb, hml, hown, hts⟩ (s_Vl_append l D ad cA M4 hI 47 48 49 1 vV_res 0 x6) (cwV 2 hts (tb_goodV ml_Rn_94 im_Vl_append se_Vl_append ii_Vl kt_Vl_append) rfl rfl rfl (by decide +kernel) ⟨Nat.le_of_ble_eq_true rfl, Nat.le_of_ble_eq_true rfl⟩) (ux_preV (by decide) rfl rfl hP hK hi hN) rfl rfl hl.1 rfl (lv_room (Nat.le_of_ble_eq_true rfl)) d_Rn_fail_28 ⟨Nat.zero_le _, Nat.zero_le _⟩) hS (fun r7 M8 H locs q9 hP hS => ?_)
  obtain ⟨hI, fq9, q9p⟩ := q9
  have hF := fr_call hF fq9 (fun a b q => by unfold tV at q; unfold tV; omega)
  refine lv_pop hx hb d_Rn_fail_31 rfl ?_
  refine lv_iconst (v := 1) hx hb d_Rn_fail_32 (by decide) ?_
  exact W.iret (v := 1) hx hb hr (fun t ht hW => ⟨⟨1, M8, rfl, ⟨hI, hF, trivial⟩, by unfold ux_E; rw [ht]; exact hP⟩, hS.F ht⟩) hS.2.2 d_Rn_fail_33

set_option maxHeartbeats 8000000 in
set_option maxRecDepth 100000 in
theorem s_Rn_endOut (l : Launch) (D : va_G) (ad : Nat → Nat) (cA : Nat → ClassId) (M : ux_M) (hI : IvX M)  : Met l y_Rn_endOut w_Rn_endOut ({ frames := 1, cells := 0, slots := 0, locals := 21 }) (va_Pc [.ref (ad 13)] (ux_B D shX KX ad cA M)) (va_Qi (fun r M1 => IvX M1 ∧ (∀ a b, ¬ (tV 48 49) a b → M1 a b = M a b) ∧ (True)) (ux_E D shX KX ad cA) (ux_A KX ad)) 0 0 (ux_A KX ad) := by
  refine Met.ofW (cc := b_Rn_endOut) (maxL := 1) (ret := (some .int)) (by decide) rfl ?_
  intro p e s m args below meth c s₁ B hml hv
  obtain ⟨rfl, hP, hK, hi, hN⟩ := hv
  have hx := B.exec
  have hb := B.bytes
  have hr := B.returns
  have hts := atoms_spec (ws := w_Rn_endOut) B.pre
  have hown : s.vm.findClass R_Rn = some m.cls := findClass_of_methodNamed B.named
  have hlocks := B.notSynchronized
  have hT : ∀ w ∈ tb, w.before _ s = true := fun w h => hts w (List.mem_cons_of_mem _ h)
  have hS : va_S (ux_A KX ad) s.heap s.heap [] := va_S.rf
  have hl := lv_entry ([.ref (ad 13)]) (n := 1) (Nat.le_of_ble_eq_true rfl)
  rw [lg_entry_eq]
  generalize (lg_sl ([.ref (ad 13)]) ++ List.replicate (1 - (lg_sl ([.ref (ad 13)])).length) Slot.unset).toArray = ls at hl ⊢
  have hl : lv_has ls 1 [(0, .ref (ad 13))] := hl
  have hF : ∀ a b, ¬ (tV 48 49) a b → M a b = M a b := fun _ _ _ => rfl
  refine lv_aload_n hx hb d_Rn_endOut_0 rfl (lv_at hl 0 rfl) ?_
  refine ux_get (C := R_Rn) (T := F_Rn) (N := 9) hx hb hT in_Rn hown hK hP (by decide) rfl rfl 6 (by decide) (hT _ fl_Rn_36) rfl d_Rn_endOut_1 ?_
  refine lv_iconst (v := 0) hx hb d_Rn_endOut_4 (by decide) ?_
  refine ux_callv (va_runV ⟨hx, hb, hml, hown, hts⟩ (c_Vl_empty l D shX KX ad cA M 47 48 49 1 V_res 0) (cwV 1 hts (tb_goodV ml_Rn_72 im_Vl_empty se_Vl_empty ii_Vl kt_Vl_empty) rfl rfl rfl (by decide +kernel) ⟨Nat.le_of_ble_eq_true rfl, Nat.le_of_ble_eq_true rfl⟩) (ux_preV (by decide) rfl rfl hP hK hi hN) rfl rfl hl.1 rfl (lv_room (Nat.le_of_ble_eq_true rfl)) d_Rn_endOut_5 ⟨Nat.zero_le _, Nat.zero_le _⟩) hS (fun M1 H locs q2 hP hS => ?_)
  have fq2 := vem_off (M := M) (ks := 49) (n := 1) (i := 0)
  rw [← q2] at fq2
  have hI : IvX M1 := by rw [q2]; exact vem_I hI (fun b => by unfold ppn; omega) (by unfold pch; omega)
  have hF := fr_call hF fq2 (fun a b q => by unfold tV1 at q; unfold tV; omega)
  refine lv_iconst (v := 5) hx hb d_Rn_endOut_8 (by decide) ?_
  exact W.iret (v := 5) hx hb hr (fun t ht hW => ⟨⟨5, M1, rfl, ⟨hI, hF, trivial⟩, by unfold ux_E; rw [ht]; exact hP⟩, hS.F ht⟩) hS.2.2 d_Rn_endOut_9

set_option maxHeartbeats 8000000 in
set_option maxRecDepth 100000 in
theorem s_Rn_takeFuel (l : Launch) (D : va_G) (ad : Nat → Nat) (cA : Nat → ClassId) (M : ux_M) (hI : IvX M)  : Met l y_Rn_takeFuel w_Rn_takeFuel ({ frames := 0, cells := 0, slots := 0, locals := 0 }) (va_Pc [.ref (ad 13)] (ux_B D shX KX ad cA M)) (va_Qi (fun r M1 => IvX M1 ∧ (∀ a b, ¬ tFu a b → M1 a b = M a b) ∧ (r = 0 ∨ r = 1)) (ux_E D shX KX ad cA) (ux_A KX ad)) 0 0 (ux_A KX ad) := by
  refine Met.ofW (cc := b_Rn_takeFuel) (maxL := 1) (ret := (some .boolean)) (by decide) rfl ?_
  intro p e s m args below meth c s₁ B hml hv
  obtain ⟨rfl, hP, hK, hi, hN⟩ := hv
  have hx := B.exec
  have hb := B.bytes
  have hr := B.returns
  have hts := atoms_spec (ws := w_Rn_takeFuel) B.pre
  have hown : s.vm.findClass R_Rn = some m.cls := findClass_of_methodNamed B.named
  have hlocks := B.notSynchronized
  have hT : ∀ w ∈ tb, w.before _ s = true := fun w h => hts w (List.mem_cons_of_mem _ h)
  have hS : va_S (ux_A KX ad) s.heap s.heap [] := va_S.rf
  have hl := lv_entry ([.ref (ad 13)]) (n := 1) (Nat.le_of_ble_eq_true rfl)
  rw [lg_entry_eq]
  generalize (lg_sl ([.ref (ad 13)]) ++ List.replicate (1 - (lg_sl ([.ref (ad 13)])).length) Slot.unset).toArray = ls at hl ⊢
  have hl : lv_has ls 1 [(0, .ref (ad 13))] := hl
  have hF : ∀ a b, ¬ tFu a b → M a b = M a b := fun _ _ _ => rfl
  refine lv_aload_n hx hb d_Rn_takeFuel_0 rfl (lv_at hl 0 rfl) ?_
  refine ux_get (C := R_Rn) (T := F_Rn) (N := 9) hx hb hT in_Rn hown hK hP (by decide) rfl rfl 8 (by decide) (hT _ fl_Rn_98) rfl d_Rn_takeFuel_1 ?_
  refine lv_if_gt hx hb d_Rn_takeFuel_4 rfl (fun h1 => ?_) (fun h1 => ?_)
  · have g1 : 0 < (M 13 8).toInt := Int32.lt_iff_toInt_lt.mp h1
    have u1 := ti_hi (M 13 8)
    refine lv_aload_n hx hb d_Rn_takeFuel_9 rfl (lv_at hl 0 rfl) ?_
    refine lv_dup hx hb d_Rn_takeFuel_10 rfl ?_
    refine ux_get (C := R_Rn) (T := F_Rn) (N := 9) hx hb hT in_Rn hown hK hP (by decide) rfl rfl 8 (by decide) (hT _ fl_Rn_98) rfl d_Rn_takeFuel_11 ?_
    refine lv_iconst (v := 1) hx hb d_Rn_takeFuel_14 (by decide) ?_
    refine lv_isub hx hb d_Rn_takeFuel_15 ?_
    refine lv_topi (fun x2 ex2 => ?_)
    try have fx2 : x2.toInt = (M 13 8).toInt - 1 := by rw [ex2]; exact ti_sub (by (try rw [show (1 : Int32).toInt = 1 from rfl]); omega) (by (try rw [show (1 : Int32).toInt = 1 from rfl]); omega)
    refine ux_put (C := R_Rn) (T := F_Rn) (N := 9) hx hb hT in_Rn t_Rn t_Rn_ok n_Rn hown hK hi hP hS (by decide) rfl rfl 8 (by decide) (hT _ fl_Rn_98) rfl (rfl) (rfl) rfl d_Rn_takeFuel_16 (fun H locs hP hS => ?_)
    have hI := IvX_free (k := 13) (j := 8) (v := x2) hI (by unfold ppn; omega) (by unfold pch; omega)
    have hF := fr_wr (k := 13) (j := 8) (v := x2) hF (by unfold tFu; omega)
    generalize eM3 : ux_wr M 13 8 x2 = M3 at hP hI hF
    refine lv_iconst (v := 1) hx hb d_Rn_takeFuel_19 (by decide) ?_
    exact W.zret (v := 1) hx hb hr (rfl) (fun t ht hW => ⟨⟨1, M3, rfl, ⟨hI, hF, Or.inr rfl⟩, by unfold ux_E; rw [ht]; exact hP⟩, hS.F ht⟩) hS.2.2 d_Rn_takeFuel_20
  · have g1 : ¬ (0 < (M 13 8).toInt) := fun q => h1 (Int32.lt_iff_toInt_lt.mpr q)
    have w1 := ti_lo (M 13 8)
    refine lv_iconst (v := 0) hx hb d_Rn_takeFuel_7 (by decide) ?_
    exact W.zret (v := 0) hx hb hr (rfl) (fun t ht hW => ⟨⟨0, M, rfl, ⟨hI, hF, Or.inl rfl⟩, by unfold ux_E; rw [ht]; exact hP⟩, hS.F ht⟩) hS.2.2 d_Rn_takeFuel_8

set_option maxHeartbeats 8000000 in
set_option maxRecDepth 100000 in
theorem s_Rn_leave (l : Launch) (D : va_G) (ad : Nat → Nat) (cA : Nat → ClassId) (M : ux_M) (hI : IvX M) (co : Int32) : Met l y_Rn_leave w_Rn_leave ({ frames := 2, cells := 0, slots := 0, locals := 43 }) (va_Pc [.ref (ad 13), .int co] (ux_B D shX KX ad cA M)) (va_Qi (fun r M1 => IvX M1 ∧ (∀ a b, ¬ (tV 48 49) a b → M1 a b = M a b) ∧ (True)) (ux_E D shX KX ad cA) (ux_A KX ad)) 0 0 (ux_A KX ad) := by
  refine Met.ofW (cc := b_Rn_leave) (maxL := 2) (ret := (some .int)) (by decide) rfl ?_
  intro p e s m args below meth c s₁ B hml hv
  obtain ⟨rfl, hP, hK, hi, hN⟩ := hv
  have hx := B.exec
  have hb := B.bytes
  have hr := B.returns
  have hts := atoms_spec (ws := w_Rn_leave) B.pre
  have hown : s.vm.findClass R_Rn = some m.cls := findClass_of_methodNamed B.named
  have hlocks := B.notSynchronized
  have hT : ∀ w ∈ tb, w.before _ s = true := fun w h => hts w (List.mem_cons_of_mem _ h)
  have hS : va_S (ux_A KX ad) s.heap s.heap [] := va_S.rf
  have hl := lv_entry ([.ref (ad 13), .int co]) (n := 2) (Nat.le_of_ble_eq_true rfl)
  rw [lg_entry_eq]
  generalize (lg_sl ([.ref (ad 13), .int co]) ++ List.replicate (2 - (lg_sl ([.ref (ad 13), .int co])).length) Slot.unset).toArray = ls at hl ⊢
  have hl : lv_has ls 2 [(0, .ref (ad 13)), (1, .int co)] := hl
  have hF : ∀ a b, ¬ (tV 48 49) a b → M a b = M a b := fun _ _ _ => rfl
  refine lv_iload_n hx hb d_Rn_leave_0 rfl (lv_at hl 1 rfl) ?_
  refine lv_iconst (v := 3) hx hb d_Rn_leave_1 (by decide) ?_
  refine lv_icmp_eq hx hb d_Rn_leave_2 rfl (fun h1 => ?_) (fun h1 => ?_)
  · have g1 : co.toInt = 3 := congrArg Int32.toInt h1
    refine lv_aload_n hx hb d_Rn_leave_10 rfl (lv_at hl 0 rfl) ?_
    refine lv_bipush (v := 9) hx hb d_Rn_leave_11 (by decide) ?_
    refine ux_calli (va_runV ⟨hx, hb, hml, hown, hts⟩ (s_Rn_fail l D ad cA M hI 9) (cwV 1 hts (tb_goodV ml_Rn_64 im_Rn_fail se_Rn_fail ii_Rn kt_Rn_fail) rfl rfl rfl (by decide +kernel) ⟨Nat.le_of_ble_eq_true rfl, Nat.le_of_ble_eq_true rfl⟩) (ux_preV (by decide) rfl rfl hP hK hi hN) rfl rfl hl.1 rfl (lv_room (Nat.le_of_ble_eq_true rfl)) d_Rn_leave_13 ⟨Nat.zero_le _, Nat.zero_le _⟩) hS (fun r2 M3 H locs q4 hP hS => ?_)
    obtain ⟨hI, fq4, q4p⟩ := q4
    have hF := fr_call hF fq4 (fun a b q => by unfold tV at q; unfold tV; omega)
    exact W.iret (v := r2) hx hb hr (fun t ht hW => ⟨⟨r2, M3, rfl, ⟨hI, hF, trivial⟩, by unfold ux_E; rw [ht]; exact hP⟩, hS.F ht⟩) hS.2.2 d_Rn_leave_16
  · have g1 : ¬ (co.toInt = 3) := fun q => h1 (Int32.toInt_inj.mp q)
    refine lv_iload_n hx hb d_Rn_leave_5 rfl (lv_at hl 1 rfl) ?_
    refine lv_iconst (v := 4) hx hb d_Rn_leave_6 (by decide) ?_
    refine lv_icmp_ne hx hb d_Rn_leave_7 rfl (fun h5 => ?_) (fun h5 => ?_)
    · have g5 : ¬ (co.toInt = 4) := fun q => h5 (Int32.toInt_inj.mp q)
      refine lv_iload_n hx hb d_Rn_leave_17 rfl (lv_at hl 1 rfl) ?_
      refine lv_iconst (v := 2) hx hb d_Rn_leave_18 (by decide) ?_
      refine lv_icmp_ne hx hb d_Rn_leave_19 rfl (fun h6 => ?_) (fun h6 => ?_)
      · have g6 : ¬ (co.toInt = 2) := fun q => h6 (Int32.toInt_inj.mp q)
        refine lv_iload_n hx hb d_Rn_leave_26 rfl (lv_at hl 1 rfl) ?_
        exact W.iret (v := co) hx hb hr (fun t ht hW => ⟨⟨co, M, rfl, ⟨hI, hF, trivial⟩, by unfold ux_E; rw [ht]; exact hP⟩, hS.F ht⟩) hS.2.2 d_Rn_leave_27
      · have g6 : co.toInt = 2 := congrArg Int32.toInt h6
        refine lv_iconst (v := 0) hx hb d_Rn_leave_22 (by decide) ?_
        refine lv_goto hx hb d_Rn_leave_23 rfl ?_
        exact W.iret (v := 0) hx hb hr (fun t ht hW => ⟨⟨0, M, rfl, ⟨hI, hF, trivial⟩, by unfold ux_E; rw [ht]; exact hP⟩, hS.F ht⟩) hS.2.2 d_Rn_leave_27
    · have g5 : co.toInt = 4 := congrArg Int32.toInt h5
      refine lv_aload_n hx hb d_Rn_leave_10 rfl (lv_at hl 0 rfl) ?_
      refine lv_bipush (v := 9) hx hb d_Rn_leave_11 (by decide) ?_
      refine ux_calli (va_runV ⟨hx, hb, hml, hown, hts⟩ (s_Rn_fail l D ad cA M hI 9) (cwV 1 hts (tb_goodV ml_Rn_64 im_Rn_fail se_Rn_fail ii_Rn kt_Rn_fail) rfl rfl rfl (by decide +kernel) ⟨Nat.le_of_ble_eq_true rfl, Nat.le_of_ble_eq_true rfl⟩) (ux_preV (by decide) rfl rfl hP hK hi hN) rfl rfl hl.1 rfl (lv_room (Nat.le_of_ble_eq_true rfl)) d_Rn_leave_13 ⟨Nat.zero_le _, Nat.zero_le _⟩) hS (fun r7 M8 H locs q9 hP hS => ?_)
      obtain ⟨hI, fq9, q9p⟩ := q9
      have hF := fr_call hF fq9 (fun a b q => by unfold tV at q; unfold tV; omega)
      exact W.iret (v := r7) hx hb hr (fun t ht hW => ⟨⟨r7, M8, rfl, ⟨hI, hF, trivial⟩, by unfold ux_E; rw [ht]; exact hP⟩, hS.F ht⟩) hS.2.2 d_Rn_leave_16

set_option maxHeartbeats 8000000 in
set_option maxRecDepth 100000 in
theorem s_Rn_checkBehind (l : Launch) (D : va_G) (ad : Nat → Nat) (cA : Nat → ClassId) (M : ux_M) (hI : IvX M) (d : Nat) (hd : d < 8) : Met l y_Rn_checkBehind w_Rn_checkBehind ({ frames := 2, cells := 0, slots := 0, locals := 43 }) (va_Pc [.ref (ad 13), .ref (ad (53 + 7 * d))] (ux_B D shX KX ad cA M)) (va_Qi (fun r M1 => IvX M1 ∧ (∀ a b, ¬ (tV 48 49) a b → M1 a b = M a b) ∧ (True)) (ux_E D shX KX ad cA) (ux_A KX ad)) 0 0 (ux_A KX ad) := by
  refine Met.ofW (cc := b_Rn_checkBehind) (maxL := 3) (ret := (some .int)) (by decide) rfl ?_
  intro p e s m args below meth c s₁ B hml hv
  obtain ⟨rfl, hP, hK, hi, hN⟩ := hv
  have hx := B.exec
  have hb := B.bytes
  have hr := B.returns
  have hts := atoms_spec (ws := w_Rn_checkBehind) B.pre
  have hown : s.vm.findClass R_Rn = some m.cls := findClass_of_methodNamed B.named
  have hlocks := B.notSynchronized
  have hT : ∀ w ∈ tb, w.before _ s = true := fun w h => hts w (List.mem_cons_of_mem _ h)
  have hS : va_S (ux_A KX ad) s.heap s.heap [] := va_S.rf
  have hl := lv_entry ([.ref (ad 13), .ref (ad (53 + 7 * d))]) (n := 3) (Nat.le_of_ble_eq_true rfl)
  rw [lg_entry_eq]
  generalize (lg_sl ([.ref (ad 13), .ref (ad (53 + 7 * d))]) ++ List.replicate (3 - (lg_sl ([.ref (ad 13), .ref (ad (53 + 7 * d))])).length) Slot.unset).toArray = ls at hl ⊢
  have hl : lv_has ls 3 [(0, .ref (ad 13)), (1, .ref (ad (53 + 7 * d)))] := hl
  have hF : ∀ a b, ¬ (tV 48 49) a b → M a b = M a b := fun _ _ _ => rfl
  refine lv_aload_n hx hb d_Rn_checkBehind_0 rfl (lv_at hl 1 rfl) ?_
  refine ux_getN (C := R_Lv) (T := F_Lv) (N := 10) hx hb hT in_Lv hown hK hP (lk 53 (by decide) hd) (L53 hd) rfl 5 (by decide) (hN _ nf_Rn_101) rfl d_Rn_checkBehind_1 ?_
  have b1 := iv0 (M := M) (a := 53 + 7 * d) (b := 5) hI (by unfold p0; omega)
  refine lv_aload_n hx hb d_Rn_checkBehind_4 rfl (lv_at hl 1 rfl) ?_
  refine ux_getN (C := R_Lv) (T := F_Lv) (N := 10) hx hb hT in_Lv hown hK hP (lk 53 (by decide) hd) (L53 hd) rfl 6 (by decide) (hN _ nf_Rn_104) rfl d_Rn_checkBehind_5 ?_
  have b2 := iv200 (M := M) (a := 53 + 7 * d) (b := 6) hI (by unfold p200; omega)
  refine lv_icmp_lt hx hb d_Rn_checkBehind_8 rfl (fun h3 => ?_) (fun h3 => ?_)
  · have g3 : (M (53 + 7 * d) 5).toInt < (M (53 + 7 * d) 6).toInt := Int32.lt_iff_toInt_lt.mp h3
    have u3 := ti_hi (M (53 + 7 * d) 6)
    have w3 := ti_lo (M (53 + 7 * d) 5)
    refine lv_aload_n hx hb d_Rn_checkBehind_13 rfl (lv_at hl 0 rfl) ?_
    refine ux_get (C := R_Rn) (T := F_Rn) (N := 9) hx hb hT in_Rn hown hK hP (by decide) rfl rfl 0 (by decide) (hT _ fl_Rn_40) rfl d_Rn_checkBehind_14 ?_
    refine ux_getN (C := R_Tx) (T := F_Tx) (N := 3) hx hb hT in_Tx hown hK hP (by decide) rfl rfl 0 (by decide) (hN _ nf_Rn_50) rfl d_Rn_checkBehind_17 ?_
    refine lv_aload_n hx hb d_Rn_checkBehind_20 rfl (lv_at hl 1 rfl) ?_
    refine ux_getN (C := R_Lv) (T := F_Lv) (N := 10) hx hb hT in_Lv hown hK hP (lk 53 (by decide) hd) (L53 hd) rfl 5 (by decide) (hN _ nf_Rn_101) rfl d_Rn_checkBehind_21 ?_
    have b4 := iv0 (M := M) (a := 53 + 7 * d) (b := 5) hI (by unfold p0; omega)
    refine ux_cald hx hb hK hP (by decide) rfl ((vi (show 0 ≤ (M (53 + 7 * d) 5).toInt by omega) (show (M (53 + 7 * d) 5).toInt < ((200 : Nat) : Int) by omega))) d_Rn_checkBehind_24 ?_
    refine lv_istore_n hx hb d_Rn_checkBehind_25 rfl hl (by decide) rfl (fun ls hl => ?_)
    have hl : lv_has ls 3 [(2, .int (M 1 ((M (53 + 7 * d) 5).toNatClampNeg))), (0, .ref (ad 13)), (1, .ref (ad (53 + 7 * d)))] := hl
    refine lv_iload_n hx hb d_Rn_checkBehind_26 rfl (lv_at hl 0 rfl) ?_
    refine lv_bipush (v := 32) hx hb d_Rn_checkBehind_27 (by decide) ?_
    refine lv_icmp_eq hx hb d_Rn_checkBehind_29 rfl (fun h5 => ?_) (fun h5 => ?_)
    · have g5 : (M 1 ((M (53 + 7 * d) 5).toNatClampNeg)).toInt = 32 := congrArg Int32.toInt h5
      refine lv_iconst (v := 0) hx hb d_Rn_checkBehind_40 (by decide) ?_
      refine lv_goto hx hb d_Rn_checkBehind_41 rfl ?_
      exact W.iret (v := 0) hx hb hr (fun t ht hW => ⟨⟨0, M, rfl, ⟨hI, hF, trivial⟩, by unfold ux_E; rw [ht]; exact hP⟩, hS.F ht⟩) hS.2.2 d_Rn_checkBehind_49
    · have g5 : ¬ ((M 1 ((M (53 + 7 * d) 5).toNatClampNeg)).toInt = 32) := fun q => h5 (Int32.toInt_inj.mp q)
      refine lv_aload_n hx hb d_Rn_checkBehind_32 rfl (lv_at hl 2 rfl) ?_
      refine lv_iload_n hx hb d_Rn_checkBehind_33 rfl (lv_at hl 0 rfl) ?_
      refine ux_calli (va_runV ⟨hx, hb, hml, hown, hts⟩ (s_Lv_endsCommand l D ad cA M hI d hd (M 1 ((M (53 + 7 * d) 5).toNatClampNeg))) (cwV 1 hts (tb_goodV ml_Rn_107 im_Lv_endsCommand se_Lv_endsCommand ii_Lv kt_Lv_endsCommand) rfl rfl rfl (by decide +kernel) ⟨Nat.le_of_ble_eq_true rfl, Nat.le_of_ble_eq_true rfl⟩) (ux_preV (lk 53 (by decide) hd) (L53 hd) rfl hP hK hi hN) rfl rfl hl.1 rfl (lv_room (Nat.le_of_ble_eq_true rfl)) d_Rn_checkBehind_34 ⟨Nat.zero_le _, Nat.zero_le _⟩) hS (fun r6 M7 H locs q8 hP hS => ?_)
      obtain ⟨hI, fq8, q8p⟩ := q8
      rw [tN_eq fq8] at hP hI
      refine lv_if_eq hx hb d_Rn_checkBehind_37 rfl (fun h9 => ?_) (fun h9 => ?_)
      · have g9 : r6.toInt = 0 := congrArg Int32.toInt h9
        refine lv_aload_n hx hb d_Rn_checkBehind_44 rfl (lv_at hl 1 rfl) ?_
        refine lv_iconst (v := 1) hx hb d_Rn_checkBehind_45 (by decide) ?_
        refine ux_calli (va_runV ⟨hx, hb, hml, hown, hts⟩ (s_Rn_fail l D ad cA M hI 1) (cwV 1 hts (tb_goodV ml_Rn_64 im_Rn_fail se_Rn_fail ii_Rn kt_Rn_fail) rfl rfl rfl (by decide +kernel) ⟨Nat.le_of_ble_eq_true rfl, Nat.le_of_ble_eq_true rfl⟩) (ux_preV (by decide) rfl rfl hP hK hi hN) rfl rfl hl.1 rfl (lv_room (Nat.le_of_ble_eq_true rfl)) d_Rn_checkBehind_46 ⟨Nat.zero_le _, Nat.zero_le _⟩) hS (fun r10 M11 H locs q12 hP hS => ?_)
        obtain ⟨hI, fq12, q12p⟩ := q12
        have hF := fr_call hF fq12 (fun a b q => by unfold tV at q; unfold tV; omega)
        exact W.iret (v := r10) hx hb hr (fun t ht hW => ⟨⟨r10, M11, rfl, ⟨hI, hF, trivial⟩, by unfold ux_E; rw [ht]; exact hP⟩, hS.F ht⟩) hS.2.2 d_Rn_checkBehind_49
      · have g9 : ¬ (r6.toInt = 0) := fun q => h9 (Int32.toInt_inj.mp q)
        refine lv_iconst (v := 0) hx hb d_Rn_checkBehind_40 (by decide) ?_
        refine lv_goto hx hb d_Rn_checkBehind_41 rfl ?_
        exact W.iret (v := 0) hx hb hr (fun t ht hW => ⟨⟨0, M, rfl, ⟨hI, hF, trivial⟩, by unfold ux_E; rw [ht]; exact hP⟩, hS.F ht⟩) hS.2.2 d_Rn_checkBehind_49
  · have g3 : ¬ ((M (53 + 7 * d) 5).toInt < (M (53 + 7 * d) 6).toInt) := fun q => h3 (Int32.lt_iff_toInt_lt.mpr q)
    have u3 := ti_hi (M (53 + 7 * d) 5)
    have w3 := ti_lo (M (53 + 7 * d) 6)
    refine lv_iconst (v := 0) hx hb d_Rn_checkBehind_11 (by decide) ?_
    exact W.iret (v := 0) hx hb hr (fun t ht hW => ⟨⟨0, M, rfl, ⟨hI, hF, trivial⟩, by unfold ux_E; rw [ht]; exact hP⟩, hS.F ht⟩) hS.2.2 d_Rn_checkBehind_12

set_option maxHeartbeats 8000000 in
set_option maxRecDepth 100000 in
theorem s_Rn_readBraced (l : Launch) (D : va_G) (ad : Nat → Nat) (cA : Nat → ClassId) (M : ux_M) (hI : IvX M) (d : Nat) (hd : d < 8) : Met l y_Rn_readBraced w_Rn_readBraced ({ frames := 3, cells := 0, slots := 0, locals := 69 }) (va_Pc [.ref (ad 13), .ref (ad (53 + 7 * d))] (ux_B D shX KX ad cA M)) (va_Qi (fun r M1 => IvX M1 ∧ (∀ a b, ¬ (tRb d) a b → M1 a b = M a b) ∧ (True)) (ux_E D shX KX ad cA) (ux_A KX ad)) 0 0 (ux_A KX ad) := by
  refine Met.ofW (cc := b_Rn_readBraced) (maxL := 5) (ret := (some .int)) (by decide) rfl ?_
  intro p e s m args below meth c s₁ B hml hv
  obtain ⟨rfl, hP, hK, hi, hN⟩ := hv
  have hx := B.exec
  have hb := B.bytes
  have hr := B.returns
  have hts := atoms_spec (ws := w_Rn_readBraced) B.pre
  have hown : s.vm.findClass R_Rn = some m.cls := findClass_of_methodNamed B.named
  have hlocks := B.notSynchronized
  have hT : ∀ w ∈ tb, w.before _ s = true := fun w h => hts w (List.mem_cons_of_mem _ h)
  have hS : va_S (ux_A KX ad) s.heap s.heap [] := va_S.rf
  have hl := lv_entry ([.ref (ad 13), .ref (ad (53 + 7 * d))]) (n := 5) (Nat.le_of_ble_eq_true rfl)
  rw [lg_entry_eq]
  generalize (lg_sl ([.ref (ad 13), .ref (ad (53 + 7 * d))]) ++ List.replicate (5 - (lg_sl ([.ref (ad 13), .ref (ad (53 + 7 * d))])).length) Slot.unset).toArray = ls at hl ⊢
  have hl : lv_has ls 5 [(0, .ref (ad 13)), (1, .ref (ad (53 + 7 * d)))] := hl
  have hF : ∀ a b, ¬ (tRb d) a b → M a b = M a b := fun _ _ _ => rfl
  have cut7 : ∀ (nn : Nat) (i_2 i_3 : Int32) (Mc7 : ux_M) (H : Heap) (locs : List Loc) (ls : Array Slot), ((200 : Int) - i_3.toInt).toNat = nn → (0 ≤ i_3.toInt) → ((Mc7 (53 + 7 * d) 5).toInt ≤ i_3.toInt) → va_P D classes (ux_w shX KX ad cA Mc7) H → IvX Mc7 → (∀ a b, ¬ (tRb d) a b → Mc7 a b = M a b) → va_S (ux_A KX ad) s.heap H locs → lv_has ls 5 [(0, .ref (ad 13)), (1, .ref (ad (53 + 7 * d))), (2, .int i_2), (3, .int i_3)] → W p l e (headSpec w_Rn_readBraced ({ frames := 3, cells := 0, slots := 0, locals := 69 })).room s m (([.ref (ad 13), .ref (ad (53 + 7 * d))] : List Value).toArray) below meth c H locs 0 0 (MQ below (va_Qi (fun r M1 => IvX M1 ∧ (∀ a b, ¬ (tRb d) a b → M1 a b = M a b) ∧ (True)) (ux_E D shX KX ad cA) (ux_A KX ad)) (([.ref (ad 13), .ref (ad (53 + 7 * d))] : List Value).toArray) s 0 0 (ux_A KX ad)) (F0 m 7 ls []) := by
    intro nn
    induction nn using Nat.strongRecOn with
    | ind nn ih7 =>
      intro i_2 i_3 Mc7 H locs ls hn c7_0 c7_1 hP hI hF hS hl
      refine lv_iload_n hx hb d_Rn_readBraced_7 rfl (lv_at hl 3 rfl) ?_
      refine lv_aload_n hx hb d_Rn_readBraced_8 rfl (lv_at hl 1 rfl) ?_
      refine ux_getN (C := R_Lv) (T := F_Lv) (N := 10) hx hb hT in_Lv hown hK hP (lk 53 (by decide) hd) (L53 hd) rfl 6 (by decide) (hN _ nf_Rn_104) rfl d_Rn_readBraced_9 ?_
      have b1 := iv200 (M := Mc7) (a := 53 + 7 * d) (b := 6) hI (by unfold p200; omega)
      refine lv_icmp_ge hx hb d_Rn_readBraced_12 rfl (fun h2 => ?_) (fun h2 => ?_)
      · have g2 : (Mc7 (53 + 7 * d) 6).toInt ≤ i_3.toInt := Int32.le_iff_toInt_le.mp h2
        have u2 := ti_hi i_3
        have w2 := ti_lo (Mc7 (53 + 7 * d) 6)
        refine lv_aload_n hx hb d_Rn_readBraced_90 rfl (lv_at hl 0 rfl) ?_
        refine lv_iconst (v := 1) hx hb d_Rn_readBraced_91 (by decide) ?_
        refine ux_calli (va_runV ⟨hx, hb, hml, hown, hts⟩ (s_Rn_fail l D ad cA Mc7 hI 1) (cwV 1 hts (tb_goodV ml_Rn_64 im_Rn_fail se_Rn_fail ii_Rn kt_Rn_fail) rfl rfl rfl (by decide +kernel) ⟨Nat.le_of_ble_eq_true rfl, Nat.le_of_ble_eq_true rfl⟩) (ux_preV (by decide) rfl rfl hP hK hi hN) rfl rfl hl.1 rfl (lv_room (Nat.le_of_ble_eq_true rfl)) d_Rn_readBraced_92 ⟨Nat.zero_le _, Nat.zero_le _⟩) hS (fun r3 M4 H locs q5 hP hS => ?_)
        obtain ⟨hI, fq5, q5p⟩ := q5
        have hF := fr_call hF fq5 (fun a b q => by unfold tV at q; unfold tRb; omega)
        exact W.iret (v := r3) hx hb hr (fun t ht hW => ⟨⟨r3, M4, rfl, ⟨hI, hF, trivial⟩, by unfold ux_E; rw [ht]; exact hP⟩, hS.F ht⟩) hS.2.2 d_Rn_readBraced_95
      · have g2 : ¬ ((Mc7 (53 + 7 * d) 6).toInt ≤ i_3.toInt) := fun q => h2 (Int32.le_iff_toInt_le.mpr q)
        have u2 := ti_hi (Mc7 (53 + 7 * d) 6)
        have w2 := ti_lo i_3
        refine lv_aload_n hx hb d_Rn_readBraced_15 rfl (lv_at hl 0 rfl) ?_
        refine ux_get (C := R_Rn) (T := F_Rn) (N := 9) hx hb hT in_Rn hown hK hP (by decide) rfl rfl 0 (by decide) (hT _ fl_Rn_40) rfl d_Rn_readBraced_16 ?_
        refine ux_getN (C := R_Tx) (T := F_Tx) (N := 3) hx hb hT in_Tx hown hK hP (by decide) rfl rfl 0 (by decide) (hN _ nf_Rn_50) rfl d_Rn_readBraced_19 ?_
        refine lv_iload_n hx hb d_Rn_readBraced_22 rfl (lv_at hl 3 rfl) ?_
        refine ux_cald hx hb hK hP (by decide) rfl ((vi (show 0 ≤ i_3.toInt by omega) (show i_3.toInt < ((200 : Nat) : Int) by omega))) d_Rn_readBraced_23 ?_
        refine lv_istore hx hb d_Rn_readBraced_24 hl (by decide) rfl (fun ls hl => ?_)
        have hl : lv_has ls 5 [(4, .int (Mc7 1 i_3.toNatClampNeg)), (0, .ref (ad 13)), (1, .ref (ad (53 + 7 * d))), (2, .int i_2), (3, .int i_3)] := hl
        refine lv_iload hx hb d_Rn_readBraced_26 (lv_at hl 0 rfl) ?_
        refine lv_bipush (v := 123) hx hb d_Rn_readBraced_28 (by decide) ?_
        refine lv_icmp_ne hx hb d_Rn_readBraced_30 rfl (fun h6 => ?_) (fun h6 => ?_)
        · have g6 : ¬ ((Mc7 1 i_3.toNatClampNeg).toInt = 123) := fun q => h6 (Int32.toInt_inj.mp q)
          refine lv_iload hx hb d_Rn_readBraced_39 (lv_at hl 0 rfl) ?_
          refine lv_bipush (v := 125) hx hb d_Rn_readBraced_41 (by decide) ?_
          refine lv_icmp_ne hx hb d_Rn_readBraced_43 rfl (fun h7 => ?_) (fun h7 => ?_)
          · have g7 : ¬ ((Mc7 1 i_3.toNatClampNeg).toInt = 125) := fun q => h7 (Int32.toInt_inj.mp q)
            refine lv_iload_n hx hb d_Rn_readBraced_49 rfl (lv_at hl 3 rfl) ?_
            refine lv_if_ne hx hb d_Rn_readBraced_50 rfl (fun h8 => ?_) (fun h8 => ?_)
            · have g8 : ¬ (i_2.toInt = 0) := fun q => h8 (Int32.toInt_inj.mp q)
              obtain ⟨x9, ex9⟩ : ∃ z : Int32, z = i_3 + 1 := ⟨_, rfl⟩
              refine lv_iinc (k := 4) (v := x9) hx hb d_Rn_readBraced_84 hl rfl ex9.symm (by decide) rfl (fun ls hl => ?_)
              have hl : lv_has ls 5 [(3, .int x9), (4, .int (Mc7 1 i_3.toNatClampNeg)), (0, .ref (ad 13)), (1, .ref (ad (53 + 7 * d))), (2, .int i_2)] := hl
              try have fx9 : x9.toInt = i_3.toInt + 1 := by rw [ex9]; exact ti_add (by (try rw [show (1 : Int32).toInt = 1 from rfl]); omega) (by (try rw [show (1 : Int32).toInt = 1 from rfl]); omega)
              refine lv_goto hx hb d_Rn_readBraced_87 rfl ?_
              exact ih7 (((200 : Int) - x9.toInt).toNat) (by omega) i_2 x9 Mc7 _ _ ls rfl (show 0 ≤ x9.toInt from by first | omega | assumption | exact Or.inl rfl | exact Or.inr rfl | rfl | decide) (show (Mc7 (53 + 7 * d) 5).toInt ≤ x9.toInt from by first | omega | assumption | exact Or.inl rfl | exact Or.inr rfl | rfl | decide) hP hI hF hS (lv_sub hl [2, 3, 4, 0] rfl)
            · have g8 : i_2.toInt = 0 := congrArg Int32.toInt h8
              refine lv_aload_n hx hb d_Rn_readBraced_53 rfl (lv_at hl 2 rfl) ?_
              refine lv_aload_n hx hb d_Rn_readBraced_54 rfl (lv_at hl 1 rfl) ?_
              refine ux_get (C := R_Rn) (T := F_Rn) (N := 9) hx hb hT in_Rn hown hK hP (by decide) rfl rfl 0 (by decide) (hT _ fl_Rn_40) rfl d_Rn_readBraced_55 ?_
              refine ux_getN (C := R_Tx) (T := F_Tx) (N := 3) hx hb hT in_Tx hown hK hP (by decide) rfl rfl 0 (by decide) (hN _ nf_Rn_50) rfl d_Rn_readBraced_58 ?_
              refine lv_aload_n hx hb d_Rn_readBraced_61 rfl (lv_at hl 2 rfl) ?_
              refine ux_getN (C := R_Lv) (T := F_Lv) (N := 10) hx hb hT in_Lv hown hK hP (lk 53 (by decide) hd) (L53 hd) rfl 5 (by decide) (hN _ nf_Rn_101) rfl d_Rn_readBraced_62 ?_
              have b10 := iv0 (M := Mc7) (a := 53 + 7 * d) (b := 5) hI (by unfold p0; omega)
              refine lv_iconst (v := 1) hx hb d_Rn_readBraced_65 (by decide) ?_
              refine lv_iadd hx hb d_Rn_readBraced_66 ?_
              refine lv_topi (fun x11 ex11 => ?_)
              try have fx11 : x11.toInt = (Mc7 (53 + 7 * d) 5).toInt + 1 := by rw [ex11]; exact ti_add (by (try rw [show (1 : Int32).toInt = 1 from rfl]); omega) (by (try rw [show (1 : Int32).toInt = 1 from rfl]); omega)
              refine lv_iload_n hx hb d_Rn_readBraced_67 rfl (lv_at hl 4 rfl) ?_
              refine ux_callv (va_runV ⟨hx, hb, hml, hown, hts⟩ (s_Lv_endBraced l D ad cA Mc7 hI d hd x11 i_3 (by omega) (by omega) (by omega) (by omega)) (cwV 3 hts (tb_goodV ml_Rn_131 im_Lv_endBraced se_Lv_endBraced ii_Lv kt_Lv_endBraced) rfl rfl rfl (by decide +kernel) ⟨Nat.le_of_ble_eq_true rfl, Nat.le_of_ble_eq_true rfl⟩) (ux_preV (lk 53 (by decide) hd) (L53 hd) rfl hP hK hi hN) rfl rfl hl.1 rfl (lv_room (Nat.le_of_ble_eq_true rfl)) d_Rn_readBraced_68 ⟨Nat.zero_le _, Nat.zero_le _⟩) hS (fun M13 H locs q14 hP hS => ?_)
              obtain ⟨hI, fq14, q14p⟩ := q14
              have hF := fr_call hF fq14 (fun a b q => by unfold tLe at q; unfold tRb; omega)
              refine lv_aload_n hx hb d_Rn_readBraced_71 rfl (lv_at hl 2 rfl) ?_
              refine lv_iload_n hx hb d_Rn_readBraced_72 rfl (lv_at hl 4 rfl) ?_
              refine lv_iconst (v := 1) hx hb d_Rn_readBraced_73 (by decide) ?_
              refine lv_iadd hx hb d_Rn_readBraced_74 ?_
              refine lv_topi (fun x15 ex15 => ?_)
              try have fx15 : x15.toInt = i_3.toInt + 1 := by rw [ex15]; exact ti_add (by (try rw [show (1 : Int32).toInt = 1 from rfl]); omega) (by (try rw [show (1 : Int32).toInt = 1 from rfl]); omega)
              refine ux_putN (C := R_Lv) (T := F_Lv) (N := 10) hx hb hT in_Lv t_Lv t_Lv_ok n_Lv hown hK hi hP hS (lk 53 (by decide) hd) (L53 hd) rfl 5 (by decide) (hN _ nf_Rn_101) rfl (rfl) (rfl) rfl d_Rn_readBraced_75 (fun H locs hP hS => ?_)
              have hI := IvX_wr (k := 53 + 7 * d) (j := 5) (v := x15) hI (fun q => by unfold p0 at q; omega) (fun q => by unfold p8 at q; omega) (fun q => by unfold p20 at q; omega) (fun q => by unfold p40 at q; omega) (fun q => by unfold p200 at q; omega) (fun q => by unfold pch at q; omega)
              have hF := fr_wr (k := 53 + 7 * d) (j := 5) (v := x15) hF (by unfold tRb; omega)
              generalize eM16 : ux_wr M13 (53 + 7 * d) 5 x15 = M16 at hP hI hF
              refine lv_aload_n hx hb d_Rn_readBraced_78 rfl (lv_at hl 1 rfl) ?_
              refine lv_aload_n hx hb d_Rn_readBraced_79 rfl (lv_at hl 2 rfl) ?_
              refine ux_calli (va_runV ⟨hx, hb, hml, hown, hts⟩ (s_Rn_checkBehind l D ad cA M16 hI d hd ) (cwV 1 hts (tb_goodV ml_Rn_128 im_Rn_checkBehind se_Rn_checkBehind ii_Rn kt_Rn_checkBehind) rfl rfl rfl (by decide +kernel) ⟨Nat.le_of_ble_eq_true rfl, Nat.le_of_ble_eq_true rfl⟩) (ux_preV (by decide) rfl rfl hP hK hi hN) rfl rfl hl.1 rfl (lv_room (Nat.le_of_ble_eq_true rfl)) d_Rn_readBraced_80 ⟨Nat.zero_le _, Nat.zero_le _⟩) hS (fun r17 M18 H locs q19 hP hS => ?_)
              obtain ⟨hI, fq19, q19p⟩ := q19
              have hF := fr_call hF fq19 (fun a b q => by unfold tV at q; unfold tRb; omega)
              exact W.iret (v := r17) hx hb hr (fun t ht hW => ⟨⟨r17, M18, rfl, ⟨hI, hF, trivial⟩, by unfold ux_E; rw [ht]; exact hP⟩, hS.F ht⟩) hS.2.2 d_Rn_readBraced_83
          · have g7 : (Mc7 1 i_3.toNatClampNeg).toInt = 125 := congrArg Int32.toInt h7
            obtain ⟨x20, ex20⟩ : ∃ z : Int32, z = i_2 + (-1) := ⟨_, rfl⟩
            refine lv_iinc (k := 3) (v := x20) hx hb d_Rn_readBraced_46 hl rfl ex20.symm (by decide) rfl (fun ls hl => ?_)
            have hl : lv_has ls 5 [(2, .int x20), (4, .int (Mc7 1 i_3.toNatClampNeg)), (0, .ref (ad 13)), (1, .ref (ad (53 + 7 * d))), (3, .int i_3)] := hl
            try have fx20 : x20.toInt = i_2.toInt + (-1) := by rw [ex20]; exact ti_add (by (try rw [show ((-1) : Int32).toInt = (-1) from rfl]); omega) (by (try rw [show ((-1) : Int32).toInt = (-1) from rfl]); omega)
            refine lv_iload_n hx hb d_Rn_readBraced_49 rfl (lv_at hl 0 rfl) ?_
            refine lv_if_ne hx hb d_Rn_readBraced_50 rfl (fun h21 => ?_) (fun h21 => ?_)
            · have g21 : ¬ (x20.toInt = 0) := fun q => h21 (Int32.toInt_inj.mp q)
              obtain ⟨x22, ex22⟩ : ∃ z : Int32, z = i_3 + 1 := ⟨_, rfl⟩
              refine lv_iinc (k := 4) (v := x22) hx hb d_Rn_readBraced_84 hl rfl ex22.symm (by decide) rfl (fun ls hl => ?_)
              have hl : lv_has ls 5 [(3, .int x22), (2, .int x20), (4, .int (Mc7 1 i_3.toNatClampNeg)), (0, .ref (ad 13)), (1, .ref (ad (53 + 7 * d)))] := hl
              try have fx22 : x22.toInt = i_3.toInt + 1 := by rw [ex22]; exact ti_add (by (try rw [show (1 : Int32).toInt = 1 from rfl]); omega) (by (try rw [show (1 : Int32).toInt = 1 from rfl]); omega)
              refine lv_goto hx hb d_Rn_readBraced_87 rfl ?_
              exact ih7 (((200 : Int) - x22.toInt).toNat) (by omega) x20 x22 Mc7 _ _ ls rfl (show 0 ≤ x22.toInt from by first | omega | assumption | exact Or.inl rfl | exact Or.inr rfl | rfl | decide) (show (Mc7 (53 + 7 * d) 5).toInt ≤ x22.toInt from by first | omega | assumption | exact Or.inl rfl | exact Or.inr rfl | rfl | decide) hP hI hF hS (lv_sub hl [3, 4, 1, 0] rfl)
            · have g21 : x20.toInt = 0 := congrArg Int32.toInt h21
              refine lv_aload_n hx hb d_Rn_readBraced_53 rfl (lv_at hl 3 rfl) ?_
              refine lv_aload_n hx hb d_Rn_readBraced_54 rfl (lv_at hl 2 rfl) ?_
              refine ux_get (C := R_Rn) (T := F_Rn) (N := 9) hx hb hT in_Rn hown hK hP (by decide) rfl rfl 0 (by decide) (hT _ fl_Rn_40) rfl d_Rn_readBraced_55 ?_
              refine ux_getN (C := R_Tx) (T := F_Tx) (N := 3) hx hb hT in_Tx hown hK hP (by decide) rfl rfl 0 (by decide) (hN _ nf_Rn_50) rfl d_Rn_readBraced_58 ?_
              refine lv_aload_n hx hb d_Rn_readBraced_61 rfl (lv_at hl 3 rfl) ?_
              refine ux_getN (C := R_Lv) (T := F_Lv) (N := 10) hx hb hT in_Lv hown hK hP (lk 53 (by decide) hd) (L53 hd) rfl 5 (by decide) (hN _ nf_Rn_101) rfl d_Rn_readBraced_62 ?_
              have b23 := iv0 (M := Mc7) (a := 53 + 7 * d) (b := 5) hI (by unfold p0; omega)
              refine lv_iconst (v := 1) hx hb d_Rn_readBraced_65 (by decide) ?_
              refine lv_iadd hx hb d_Rn_readBraced_66 ?_
              refine lv_topi (fun x24 ex24 => ?_)
              try have fx24 : x24.toInt = (Mc7 (53 + 7 * d) 5).toInt + 1 := by rw [ex24]; exact ti_add (by (try rw [show (1 : Int32).toInt = 1 from rfl]); omega) (by (try rw [show (1 : Int32).toInt = 1 from rfl]); omega)
              refine lv_iload_n hx hb d_Rn_readBraced_67 rfl (lv_at hl 4 rfl) ?_
              refine ux_callv (va_runV ⟨hx, hb, hml, hown, hts⟩ (s_Lv_endBraced l D ad cA Mc7 hI d hd x24 i_3 (by omega) (by omega) (by omega) (by omega)) (cwV 3 hts (tb_goodV ml_Rn_131 im_Lv_endBraced se_Lv_endBraced ii_Lv kt_Lv_endBraced) rfl rfl rfl (by decide +kernel) ⟨Nat.le_of_ble_eq_true rfl, Nat.le_of_ble_eq_true rfl⟩) (ux_preV (lk 53 (by decide) hd) (L53 hd) rfl hP hK hi hN) rfl rfl hl.1 rfl (lv_room (Nat.le_of_ble_eq_true rfl)) d_Rn_readBraced_68 ⟨Nat.zero_le _, Nat.zero_le _⟩) hS (fun M26 H locs q27 hP hS => ?_)
              obtain ⟨hI, fq27, q27p⟩ := q27
              have hF := fr_call hF fq27 (fun a b q => by unfold tLe at q; unfold tRb; omega)
              refine lv_aload_n hx hb d_Rn_readBraced_71 rfl (lv_at hl 3 rfl) ?_
              refine lv_iload_n hx hb d_Rn_readBraced_72 rfl (lv_at hl 4 rfl) ?_
              refine lv_iconst (v := 1) hx hb d_Rn_readBraced_73 (by decide) ?_
              refine lv_iadd hx hb d_Rn_readBraced_74 ?_
              refine lv_topi (fun x28 ex28 => ?_)
              try have fx28 : x28.toInt = i_3.toInt + 1 := by rw [ex28]; exact ti_add (by (try rw [show (1 : Int32).toInt = 1 from rfl]); omega) (by (try rw [show (1 : Int32).toInt = 1 from rfl]); omega)
              refine ux_putN (C := R_Lv) (T := F_Lv) (N := 10) hx hb hT in_Lv t_Lv t_Lv_ok n_Lv hown hK hi hP hS (lk 53 (by decide) hd) (L53 hd) rfl 5 (by decide) (hN _ nf_Rn_101) rfl (rfl) (rfl) rfl d_Rn_readBraced_75 (fun H locs hP hS => ?_)
              have hI := IvX_wr (k := 53 + 7 * d) (j := 5) (v := x28) hI (fun q => by unfold p0 at q; omega) (fun q => by unfold p8 at q; omega) (fun q => by unfold p20 at q; omega) (fun q => by unfold p40 at q; omega) (fun q => by unfold p200 at q; omega) (fun q => by unfold pch at q; omega)
              have hF := fr_wr (k := 53 + 7 * d) (j := 5) (v := x28) hF (by unfold tRb; omega)
              generalize eM29 : ux_wr M26 (53 + 7 * d) 5 x28 = M29 at hP hI hF
              refine lv_aload_n hx hb d_Rn_readBraced_78 rfl (lv_at hl 2 rfl) ?_
              refine lv_aload_n hx hb d_Rn_readBraced_79 rfl (lv_at hl 3 rfl) ?_
              refine ux_calli (va_runV ⟨hx, hb, hml, hown, hts⟩ (s_Rn_checkBehind l D ad cA M29 hI d hd ) (cwV 1 hts (tb_goodV ml_Rn_128 im_Rn_checkBehind se_Rn_checkBehind ii_Rn kt_Rn_checkBehind) rfl rfl rfl (by decide +kernel) ⟨Nat.le_of_ble_eq_true rfl, Nat.le_of_ble_eq_true rfl⟩) (ux_preV (by decide) rfl rfl hP hK hi hN) rfl rfl hl.1 rfl (lv_room (Nat.le_of_ble_eq_true rfl)) d_Rn_readBraced_80 ⟨Nat.zero_le _, Nat.zero_le _⟩) hS (fun r30 M31 H locs q32 hP hS => ?_)
              obtain ⟨hI, fq32, q32p⟩ := q32
              have hF := fr_call hF fq32 (fun a b q => by unfold tV at q; unfold tRb; omega)
              exact W.iret (v := r30) hx hb hr (fun t ht hW => ⟨⟨r30, M31, rfl, ⟨hI, hF, trivial⟩, by unfold ux_E; rw [ht]; exact hP⟩, hS.F ht⟩) hS.2.2 d_Rn_readBraced_83
        · have g6 : (Mc7 1 i_3.toNatClampNeg).toInt = 123 := congrArg Int32.toInt h6
          obtain ⟨x33, ex33⟩ : ∃ z : Int32, z = i_2 + 1 := ⟨_, rfl⟩
          refine lv_iinc (k := 3) (v := x33) hx hb d_Rn_readBraced_33 hl rfl ex33.symm (by decide) rfl (fun ls hl => ?_)
          have hl : lv_has ls 5 [(2, .int x33), (4, .int (Mc7 1 i_3.toNatClampNeg)), (0, .ref (ad 13)), (1, .ref (ad (53 + 7 * d))), (3, .int i_3)] := hl
          try have fx33 : x33.toInt = i_2.toInt + 1 := by rw [ex33]; exact ti_add (by (try rw [show (1 : Int32).toInt = 1 from rfl]); omega) (by (try rw [show (1 : Int32).toInt = 1 from rfl]); omega)
          refine lv_goto hx hb d_Rn_readBraced_36 rfl ?_
          refine lv_iload_n hx hb d_Rn_readBraced_49 rfl (lv_at hl 0 rfl) ?_
          refine lv_if_ne hx hb d_Rn_readBraced_50 rfl (fun h34 => ?_) (fun h34 => ?_)
          · have g34 : ¬ (x33.toInt = 0) := fun q => h34 (Int32.toInt_inj.mp q)
            obtain ⟨x35, ex35⟩ : ∃ z : Int32, z = i_3 + 1 := ⟨_, rfl⟩
            refine lv_iinc (k := 4) (v := x35) hx hb d_Rn_readBraced_84 hl rfl ex35.symm (by decide) rfl (fun ls hl => ?_)
            have hl : lv_has ls 5 [(3, .int x35), (2, .int x33), (4, .int (Mc7 1 i_3.toNatClampNeg)), (0, .ref (ad 13)), (1, .ref (ad (53 + 7 * d)))] := hl
            try have fx35 : x35.toInt = i_3.toInt + 1 := by rw [ex35]; exact ti_add (by (try rw [show (1 : Int32).toInt = 1 from rfl]); omega) (by (try rw [show (1 : Int32).toInt = 1 from rfl]); omega)
            refine lv_goto hx hb d_Rn_readBraced_87 rfl ?_
            exact ih7 (((200 : Int) - x35.toInt).toNat) (by omega) x33 x35 Mc7 _ _ ls rfl (show 0 ≤ x35.toInt from by first | omega | assumption | exact Or.inl rfl | exact Or.inr rfl | rfl | decide) (show (Mc7 (53 + 7 * d) 5).toInt ≤ x35.toInt from by first | omega | assumption | exact Or.inl rfl | exact Or.inr rfl | rfl | decide) hP hI hF hS (lv_sub hl [3, 4, 1, 0] rfl)
          · have g34 : x33.toInt = 0 := congrArg Int32.toInt h34
            refine lv_aload_n hx hb d_Rn_readBraced_53 rfl (lv_at hl 3 rfl) ?_
            refine lv_aload_n hx hb d_Rn_readBraced_54 rfl (lv_at hl 2 rfl) ?_
            refine ux_get (C := R_Rn) (T := F_Rn) (N := 9) hx hb hT in_Rn hown hK hP (by decide) rfl rfl 0 (by decide) (hT _ fl_Rn_40) rfl d_Rn_readBraced_55 ?_
            refine ux_getN (C := R_Tx) (T := F_Tx) (N := 3) hx hb hT in_Tx hown hK hP (by decide) rfl rfl 0 (by decide) (hN _ nf_Rn_50) rfl d_Rn_readBraced_58 ?_
            refine lv_aload_n hx hb d_Rn_readBraced_61 rfl (lv_at hl 3 rfl) ?_
            refine ux_getN (C := R_Lv) (T := F_Lv) (N := 10) hx hb hT in_Lv hown hK hP (lk 53 (by decide) hd) (L53 hd) rfl 5 (by decide) (hN _ nf_Rn_101) rfl d_Rn_readBraced_62 ?_
            have b36 := iv0 (M := Mc7) (a := 53 + 7 * d) (b := 5) hI (by unfold p0; omega)
            refine lv_iconst (v := 1) hx hb d_Rn_readBraced_65 (by decide) ?_
            refine lv_iadd hx hb d_Rn_readBraced_66 ?_
            refine lv_topi (fun x37 ex37 => ?_)
            try have fx37 : x37.toInt = (Mc7 (53 + 7 * d) 5).toInt + 1 := by rw [ex37]; exact ti_add (by (try rw [show (1 : Int32).toInt = 1 from rfl]); omega) (by (try rw [show (1 : Int32).toInt = 1 from rfl]); omega)
            refine lv_iload_n hx hb d_Rn_readBraced_67 rfl (lv_at hl 4 rfl) ?_
            refine ux_callv (va_runV ⟨hx, hb, hml, hown, hts⟩ (s_Lv_endBraced l D ad cA Mc7 hI d hd x37 i_3 (by omega) (by omega) (by omega) (by omega)) (cwV 3 hts (tb_goodV ml_Rn_131 im_Lv_endBraced se_Lv_endBraced ii_Lv kt_Lv_endBraced) rfl rfl rfl (by decide +kernel) ⟨Nat.le_of_ble_eq_true rfl, Nat.le_of_ble_eq_true rfl⟩) (ux_preV (lk 53 (by decide) hd) (L53 hd) rfl hP hK hi hN) rfl rfl hl.1 rfl (lv_room (Nat.le_of_ble_eq_true rfl)) d_Rn_readBraced_68 ⟨Nat.zero_le _, Nat.zero_le _⟩) hS (fun M39 H locs q40 hP hS => ?_)
            obtain ⟨hI, fq40, q40p⟩ := q40
            have hF := fr_call hF fq40 (fun a b q => by unfold tLe at q; unfold tRb; omega)
            refine lv_aload_n hx hb d_Rn_readBraced_71 rfl (lv_at hl 3 rfl) ?_
            refine lv_iload_n hx hb d_Rn_readBraced_72 rfl (lv_at hl 4 rfl) ?_
            refine lv_iconst (v := 1) hx hb d_Rn_readBraced_73 (by decide) ?_
            refine lv_iadd hx hb d_Rn_readBraced_74 ?_
            refine lv_topi (fun x41 ex41 => ?_)
            try have fx41 : x41.toInt = i_3.toInt + 1 := by rw [ex41]; exact ti_add (by (try rw [show (1 : Int32).toInt = 1 from rfl]); omega) (by (try rw [show (1 : Int32).toInt = 1 from rfl]); omega)
            refine ux_putN (C := R_Lv) (T := F_Lv) (N := 10) hx hb hT in_Lv t_Lv t_Lv_ok n_Lv hown hK hi hP hS (lk 53 (by decide) hd) (L53 hd) rfl 5 (by decide) (hN _ nf_Rn_101) rfl (rfl) (rfl) rfl d_Rn_readBraced_75 (fun H locs hP hS => ?_)
            have hI := IvX_wr (k := 53 + 7 * d) (j := 5) (v := x41) hI (fun q => by unfold p0 at q; omega) (fun q => by unfold p8 at q; omega) (fun q => by unfold p20 at q; omega) (fun q => by unfold p40 at q; omega) (fun q => by unfold p200 at q; omega) (fun q => by unfold pch at q; omega)
            have hF := fr_wr (k := 53 + 7 * d) (j := 5) (v := x41) hF (by unfold tRb; omega)
            generalize eM42 : ux_wr M39 (53 + 7 * d) 5 x41 = M42 at hP hI hF
            refine lv_aload_n hx hb d_Rn_readBraced_78 rfl (lv_at hl 2 rfl) ?_
            refine lv_aload_n hx hb d_Rn_readBraced_79 rfl (lv_at hl 3 rfl) ?_
            refine ux_calli (va_runV ⟨hx, hb, hml, hown, hts⟩ (s_Rn_checkBehind l D ad cA M42 hI d hd ) (cwV 1 hts (tb_goodV ml_Rn_128 im_Rn_checkBehind se_Rn_checkBehind ii_Rn kt_Rn_checkBehind) rfl rfl rfl (by decide +kernel) ⟨Nat.le_of_ble_eq_true rfl, Nat.le_of_ble_eq_true rfl⟩) (ux_preV (by decide) rfl rfl hP hK hi hN) rfl rfl hl.1 rfl (lv_room (Nat.le_of_ble_eq_true rfl)) d_Rn_readBraced_80 ⟨Nat.zero_le _, Nat.zero_le _⟩) hS (fun r43 M44 H locs q45 hP hS => ?_)
            obtain ⟨hI, fq45, q45p⟩ := q45
            have hF := fr_call hF fq45 (fun a b q => by unfold tV at q; unfold tRb; omega)
            exact W.iret (v := r43) hx hb hr (fun t ht hW => ⟨⟨r43, M44, rfl, ⟨hI, hF, trivial⟩, by unfold ux_E; rw [ht]; exact hP⟩, hS.F ht⟩) hS.2.2 d_Rn_readBraced_83
  refine lv_iconst (v := 0) hx hb d_Rn_readBraced_0 (by decide) ?_
  refine lv_istore_n hx hb d_Rn_readBraced_1 rfl hl (by decide) rfl (fun ls hl => ?_)
  have hl : lv_has ls 5 [(2, .int 0), (0, .ref (ad 13)), (1, .ref (ad (53 + 7 * d)))] := hl
  refine lv_aload_n hx hb d_Rn_readBraced_2 rfl (lv_at hl 2 rfl) ?_
  refine ux_getN (C := R_Lv) (T := F_Lv) (N := 10) hx hb hT in_Lv hown hK hP (lk 53 (by decide) hd) (L53 hd) rfl 5 (by decide) (hN _ nf_Rn_101) rfl d_Rn_readBraced_3 ?_
  have b46 := iv0 (M := M) (a := 53 + 7 * d) (b := 5) hI (by unfold p0; omega)
  refine lv_istore_n hx hb d_Rn_readBraced_6 rfl hl (by decide) rfl (fun ls hl => ?_)
  have hl : lv_has ls 5 [(3, .int (M (53 + 7 * d) 5)), (2, .int 0), (0, .ref (ad 13)), (1, .ref (ad (53 + 7 * d)))] := hl
  exact cut7 (((200 : Int) - (M (53 + 7 * d) 5).toInt).toNat) 0 (M (53 + 7 * d) 5) M _ _ ls rfl (show 0 ≤ (M (53 + 7 * d) 5).toInt from by first | omega | assumption | exact Or.inl rfl | exact Or.inr rfl | rfl | decide) (show (M (53 + 7 * d) 5).toInt ≤ (M (53 + 7 * d) 5).toInt from by first | omega | assumption | exact Or.inl rfl | exact Or.inr rfl | rfl | decide) hP hI hF hS (lv_sub hl [2, 3, 1, 0] rfl)

set_option maxHeartbeats 8000000 in
set_option maxRecDepth 100000 in
theorem s_Rn_isCommand (l : Launch) (D : va_G) (ad : Nat → Nat) (cA : Nat → ClassId) (M : ux_M) (hI : IvX M) (adK adV : Nat → Nat) (fm : Value) (nm : Int32) : Met l y_Rn_isCommand w_Rn_isCommand ({ frames := 4, cells := 0, slots := 0, locals := 91 }) (va_Pc [.ref (ad 13), .int nm] (ux_BZ D ad cA M adK adV fm)) (va_Qi (fun r M1 => IvX M1 ∧ (∀ a b, ¬ tN a b → M1 a b = M a b) ∧ (r = 0 ∨ r = 1)) (ux_E D shX KX ad cA) (ux_A KX ad)) 0 0 (ux_A KX ad) := by
  refine Met.ofW (cc := b_Rn_isCommand) (maxL := 2) (ret := (some .boolean)) (by decide) rfl ?_
  intro p e s m args below meth c s₁ B hml hv
  obtain ⟨rfl, ⟨hP, hK, hi, hN⟩, hZ⟩ := hv
  have hx := B.exec
  have hb := B.bytes
  have hr := B.returns
  have hts := atoms_spec (ws := w_Rn_isCommand) B.pre
  have hown : s.vm.findClass R_Rn = some m.cls := findClass_of_methodNamed B.named
  have hlocks := B.notSynchronized
  have hT : ∀ w ∈ tb, w.before _ s = true := fun w h => hts w (List.mem_cons_of_mem _ h)
  have hS : va_S (ux_A KX ad) s.heap s.heap [] := va_S.rf
  have hl := lv_entry ([.ref (ad 13), .int nm]) (n := 2) (Nat.le_of_ble_eq_true rfl)
  rw [lg_entry_eq]
  generalize (lg_sl ([.ref (ad 13), .int nm]) ++ List.replicate (2 - (lg_sl ([.ref (ad 13), .int nm])).length) Slot.unset).toArray = ls at hl ⊢
  have hl : lv_has ls 2 [(0, .ref (ad 13)), (1, .int nm)] := hl
  have hF : ∀ a b, ¬ tN a b → M a b = M a b := fun _ _ _ => rfl
  have hi1 : (0 : Nat) < 16 := by decide
  refine lv_iload_n hx hb d_Rn_isCommand_0 rfl (lv_at hl 1 rfl) ?_
  refine ux_calli (va_runSN ⟨hx, hb, hml, hown, hts⟩ (s_PS_isProcedure l D ad cA M hI nm) ⟨va_cnB 1 hts (tb_good _ _ kt_PS_isProcedure) rfl rfl rfl (hN _ nm_Rn_197) (hT _ ii_PS) (by decide +kernel) ⟨Nat.le_of_ble_eq_true rfl, Nat.le_of_ble_eq_true rfl⟩, hT _ sm_PS_isProcedure, trivial⟩ (ux_pre hP hK hi hN) rfl rfl hl.1 rfl (lv_room (Nat.le_of_ble_eq_true rfl)) d_Rn_isCommand_1 ⟨Nat.zero_le _, Nat.zero_le _⟩) hS (fun r1 M2 H locs q3 hP hS => ?_)
  obtain ⟨hI, fq3, q3p⟩ := q3
  rw [tN_eq fq3] at hP hI
  subst q3p
  have b4 := isp_b nm
  refine lv_if_eq hx hb d_Rn_isCommand_4 rfl (fun h5 => ?_) (fun h5 => ?_)
  · have g5 : (isp nm).toInt = 0 := congrArg Int32.toInt h5
    refine lv_iload_n hx hb d_Rn_isCommand_19 rfl (lv_at hl 1 rfl) ?_
    refine lv_if_eq hx hb d_Rn_isCommand_20 rfl (fun h6 => ?_) (fun h6 => ?_)
    · have g6 : nm.toInt = 0 := congrArg Int32.toInt h6
      refine lv_iconst (v := 0) hx hb d_Rn_isCommand_37 (by decide) ?_
      exact W.zret (v := 0) hx hb hr (rfl) (fun t ht hW => ⟨⟨0, M, rfl, ⟨hI, hF, Or.inl rfl⟩, by unfold ux_E; rw [ht]; exact hP⟩, hS.F ht⟩) hS.2.2 d_Rn_isCommand_38
    · have g6 : ¬ (nm.toInt = 0) := fun q => h6 (Int32.toInt_inj.mp q)
      refine va_ldcS (tx := txS.getD 0 "") hx hb hown (hZ.2.2.2.2 0 (by decide)) d_Rn_isCommand_23 ?_
      refine lv_iload_n hx hb d_Rn_isCommand_25 rfl (lv_at hl 1 rfl) ?_
      refine lv_i2c hx hb d_Rn_isCommand_26 rfl ?_
      refine lv_topi (fun x7 ex7 => ?_)
      have fx7 : 0 ≤ x7.toInt ∧ x7.toInt ≤ 65535 := by rw [ex7]; exact ti_i2c _
      refine ux_calli (va_runV ⟨hx, hb, hml, hown, hts⟩ (s_St_indexOf_0 l D ad cA M hI adK adV fm 0 hi1 x7 ) (cwV 1 hts (tb_goodV ml_Rn_205 im_St_indexOf_0 se_St_indexOf_0 ii_St kt_St_indexOf_0) rfl rfl rfl (by decide +kernel) ⟨Nat.le_of_ble_eq_true rfl, Nat.le_of_ble_eq_true rfl⟩) (ux_preVS hi1 hP hK hi hN hZ hS) rfl rfl hl.1 rfl (lv_room (Nat.le_of_ble_eq_true rfl)) d_Rn_isCommand_27 ⟨Nat.zero_le _, Nat.zero_le _⟩) hS (fun r8 M9 H locs q10 hP hS => ?_)
      obtain ⟨hI, fq10, q10p⟩ := q10
      rw [tN_eq fq10] at hP hI
      refine lv_if_lt hx hb d_Rn_isCommand_30 rfl (fun h11 => ?_) (fun h11 => ?_)
      · have g11 : r8.toInt < 0 := Int32.lt_iff_toInt_lt.mp h11
        have w11 := ti_lo r8
        refine lv_iconst (v := 0) hx hb d_Rn_isCommand_37 (by decide) ?_
        exact W.zret (v := 0) hx hb hr (rfl) (fun t ht hW => ⟨⟨0, M, rfl, ⟨hI, hF, Or.inl rfl⟩, by unfold ux_E; rw [ht]; exact hP⟩, hS.F ht⟩) hS.2.2 d_Rn_isCommand_38
      · have g11 : ¬ (r8.toInt < 0) := fun q => h11 (Int32.lt_iff_toInt_lt.mpr q)
        have u11 := ti_hi r8
        refine lv_iconst (v := 1) hx hb d_Rn_isCommand_33 (by decide) ?_
        refine lv_goto hx hb d_Rn_isCommand_34 rfl ?_
        exact W.zret (v := 1) hx hb hr (rfl) (fun t ht hW => ⟨⟨1, M, rfl, ⟨hI, hF, Or.inr rfl⟩, by unfold ux_E; rw [ht]; exact hP⟩, hS.F ht⟩) hS.2.2 d_Rn_isCommand_38
  · have g5 : ¬ ((isp nm).toInt = 0) := fun q => h5 (Int32.toInt_inj.mp q)
    refine lv_aload_n hx hb d_Rn_isCommand_7 rfl (lv_at hl 0 rfl) ?_
    refine ux_get (C := R_Rn) (T := F_Rn) (N := 9) hx hb hT in_Rn hown hK hP (by decide) rfl rfl 3 (by decide) (hT _ fl_Rn_21) rfl d_Rn_isCommand_8 ?_
    refine lv_iload_n hx hb d_Rn_isCommand_11 rfl (lv_at hl 1 rfl) ?_
    refine lv_bipush (v := 65) hx hb d_Rn_isCommand_12 (by decide) ?_
    refine lv_isub hx hb d_Rn_isCommand_14 ?_
    refine lv_topi (fun x12 ex12 => ?_)
    try have fx12 : x12.toInt = nm.toInt - 65 := by rw [ex12]; exact ti_sub (by (try rw [show (65 : Int32).toInt = 65 from rfl]); omega) (by (try rw [show (65 : Int32).toInt = 65 from rfl]); omega)
    refine ux_calli (va_runV ⟨hx, hb, hml, hown, hts⟩ (c_Pd_has l D ad cA M x12) (cwV 1 hts (tb_goodV ml_Rn_200 im_Pd_has se_Pd_has ii_Pd kt_Pd_has) rfl rfl rfl (by decide +kernel) ⟨Nat.le_of_ble_eq_true rfl, Nat.le_of_ble_eq_true rfl⟩) (ux_preV (by decide) rfl rfl hP hK hi hN) rfl rfl hl.1 rfl (lv_room (Nat.le_of_ble_eq_true rfl)) d_Rn_isCommand_15 ⟨Nat.zero_le _, Nat.zero_le _⟩) hS (fun r13 M14 H locs q15 hP hS => ?_)
    obtain ⟨q15m, q15e⟩ := q15
    rw [q15m] at hP
    subst q15e
    exact W.zret (v := vha M x12) hx hb hr (nb_n (by first | assumption | exact vha_b _ _)) (fun t ht hW => ⟨⟨vha M x12, M, rfl, ⟨hI, hF, vha_b _ _⟩, by unfold ux_E; rw [ht]; exact hP⟩, hS.F ht⟩) hS.2.2 d_Rn_isCommand_18

set_option maxHeartbeats 8000000 in
set_option maxRecDepth 100000 in
theorem s_Rn_formOf (l : Launch) (D : va_G) (ad : Nat → Nat) (cA : Nat → ClassId) (M : ux_M) (hI : IvX M) (adK adV : Nat → Nat) (fm : Value) (nm ws : Int32) : Met l y_Rn_formOf w_Rn_formOf ({ frames := 0, cells := 0, slots := 0, locals := 0 }) (va_Pc [.int nm, .int ws] (ux_BZ D ad cA M adK adV fm)) (va_Qr (fun M1 : ux_M => M1 = M) (fun M1 q t => (∃ i, i < 16 ∧ q = adK i) ∧ ux_E D shX KX ad cA M1 t) (ux_A KX ad)) 0 0 (ux_A KX ad) := by
  refine Met.ofW (cc := b_Rn_formOf) (maxL := 2) (ret := (some (FieldType.object "java/lang/String"))) (by decide) rfl ?_
  intro p e s m args below meth c s₁ B hml hv
  obtain ⟨rfl, ⟨hP, hK, hi, hN⟩, hZ⟩ := hv
  have hx := B.exec
  have hb := B.bytes
  have hr := B.returns
  have hts := atoms_spec (ws := w_Rn_formOf) B.pre
  have hown : s.vm.findClass R_Rn = some m.cls := findClass_of_methodNamed B.named
  have hlocks := B.notSynchronized
  have hT : ∀ w ∈ tb, w.before _ s = true := fun w h => hts w (List.mem_cons_of_mem _ h)
  have hS : va_S (ux_A KX ad) s.heap s.heap [] := va_S.rf
  have hl := lv_entry ([.int nm, .int ws]) (n := 2) (Nat.le_of_ble_eq_true rfl)
  rw [lg_entry_eq]
  generalize (lg_sl ([.int nm, .int ws]) ++ List.replicate (2 - (lg_sl ([.int nm, .int ws])).length) Slot.unset).toArray = ls at hl ⊢
  have hl : lv_has ls 2 [(0, .int nm), (1, .int ws)] := hl
  have hF : ∀ a b, ¬ tN a b → M a b = M a b := fun _ _ _ => rfl
  refine lv_iload_n hx hb d_Rn_formOf_0 rfl (lv_at hl 0 rfl) ?_
  by_cases h1 : nm = 42
  · have g1 : nm.toInt = 42 := congrArg Int32.toInt h1
    refine lv_lookup (off := 152) (tgt := 153) hx hb d_Rn_formOf_1 (by decide) (by rw [g1]; rfl) (by decide) ?_
    refine va_ldcS (tx := txS.getD 6 "") hx hb hown (hZ.2.2.2.2 6 (by decide)) d_Rn_formOf_153 ?_
    exact W.aret (v := .ref (adK 6)) hx hb hr (Or.inl ⟨_, rfl⟩) (Or.inr ⟨_, rfl⟩) (fun t ht hW => ⟨⟨M, adK 6, rfl, rfl, ⟨⟨6, by decide, rfl⟩, by unfold ux_E; rw [ht]; exact hP⟩⟩, hS.F ht⟩) hS.2.2 d_Rn_formOf_155
  have g1 : ¬ nm.toInt = 42 := fun q => h1 (Int32.toInt_inj.mp q)
  by_cases h2 : nm = 60
  · have g2 : nm.toInt = 60 := congrArg Int32.toInt h2
    refine lv_lookup (off := 177) (tgt := 178) hx hb d_Rn_formOf_1 (by decide) (by rw [g2]; rfl) (by decide) ?_
    refine lv_iload_n hx hb d_Rn_formOf_178 rfl (lv_at hl 1 rfl) ?_
    refine lv_iconst (v := 4) hx hb d_Rn_formOf_179 (by decide) ?_
    refine lv_icmp_ne hx hb d_Rn_formOf_180 rfl (fun h3 => ?_) (fun h3 => ?_)
    · have g3 : ¬ (ws.toInt = 4) := fun q => h3 (Int32.toInt_inj.mp q)
      refine lv_iload_n hx hb d_Rn_formOf_188 rfl (lv_at hl 1 rfl) ?_
      refine lv_bipush (v := 6) hx hb d_Rn_formOf_189 (by decide) ?_
      refine lv_icmp_ne hx hb d_Rn_formOf_191 rfl (fun h4 => ?_) (fun h4 => ?_)
      · have g4 : ¬ (ws.toInt = 6) := fun q => h4 (Int32.toInt_inj.mp q)
        refine va_ldcS (tx := txS.getD 14 "") hx hb hown (hZ.2.2.2.2 14 (by decide)) d_Rn_formOf_199 ?_
        exact W.aret (v := .ref (adK 14)) hx hb hr (Or.inl ⟨_, rfl⟩) (Or.inr ⟨_, rfl⟩) (fun t ht hW => ⟨⟨M, adK 14, rfl, rfl, ⟨⟨14, by decide, rfl⟩, by unfold ux_E; rw [ht]; exact hP⟩⟩, hS.F ht⟩) hS.2.2 d_Rn_formOf_201
      · have g4 : ws.toInt = 6 := congrArg Int32.toInt h4
        refine va_ldcS (tx := txS.getD 13 "") hx hb hown (hZ.2.2.2.2 13 (by decide)) d_Rn_formOf_194 ?_
        refine lv_goto hx hb d_Rn_formOf_196 rfl ?_
        exact W.aret (v := .ref (adK 13)) hx hb hr (Or.inl ⟨_, rfl⟩) (Or.inr ⟨_, rfl⟩) (fun t ht hW => ⟨⟨M, adK 13, rfl, rfl, ⟨⟨13, by decide, rfl⟩, by unfold ux_E; rw [ht]; exact hP⟩⟩, hS.F ht⟩) hS.2.2 d_Rn_formOf_201
    · have g3 : ws.toInt = 4 := congrArg Int32.toInt h3
      refine va_ldcS (tx := txS.getD 12 "") hx hb hown (hZ.2.2.2.2 12 (by decide)) d_Rn_formOf_183 ?_
      refine lv_goto hx hb d_Rn_formOf_185 rfl ?_
      exact W.aret (v := .ref (adK 12)) hx hb hr (Or.inl ⟨_, rfl⟩) (Or.inr ⟨_, rfl⟩) (fun t ht hW => ⟨⟨M, adK 12, rfl, rfl, ⟨⟨12, by decide, rfl⟩, by unfold ux_E; rw [ht]; exact hP⟩⟩, hS.F ht⟩) hS.2.2 d_Rn_formOf_201
  have g2 : ¬ nm.toInt = 60 := fun q => h2 (Int32.toInt_inj.mp q)
  by_cases h5 : nm = 63
  · have g5 : nm.toInt = 63 := congrArg Int32.toInt h5
    refine lv_lookup (off := 139) (tgt := 140) hx hb d_Rn_formOf_1 (by decide) (by rw [g5]; rfl) (by decide) ?_
    refine lv_iload_n hx hb d_Rn_formOf_140 rfl (lv_at hl 1 rfl) ?_
    refine lv_iconst (v := 3) hx hb d_Rn_formOf_141 (by decide) ?_
    refine lv_icmp_ne hx hb d_Rn_formOf_142 rfl (fun h6 => ?_) (fun h6 => ?_)
    · have g6 : ¬ (ws.toInt = 3) := fun q => h6 (Int32.toInt_inj.mp q)
      refine va_ldcS (tx := txS.getD 7 "") hx hb hown (hZ.2.2.2.2 7 (by decide)) d_Rn_formOf_150 ?_
      exact W.aret (v := .ref (adK 7)) hx hb hr (Or.inl ⟨_, rfl⟩) (Or.inr ⟨_, rfl⟩) (fun t ht hW => ⟨⟨M, adK 7, rfl, rfl, ⟨⟨7, by decide, rfl⟩, by unfold ux_E; rw [ht]; exact hP⟩⟩, hS.F ht⟩) hS.2.2 d_Rn_formOf_152
    · have g6 : ws.toInt = 3 := congrArg Int32.toInt h6
      refine va_ldcS (tx := txS.getD 6 "") hx hb hown (hZ.2.2.2.2 6 (by decide)) d_Rn_formOf_145 ?_
      refine lv_goto hx hb d_Rn_formOf_147 rfl ?_
      exact W.aret (v := .ref (adK 6)) hx hb hr (Or.inl ⟨_, rfl⟩) (Or.inr ⟨_, rfl⟩) (fun t ht hW => ⟨⟨M, adK 6, rfl, rfl, ⟨⟨6, by decide, rfl⟩, by unfold ux_E; rw [ht]; exact hP⟩⟩, hS.F ht⟩) hS.2.2 d_Rn_formOf_152
  have g5 : ¬ nm.toInt = 63 := fun q => h5 (Int32.toInt_inj.mp q)
  by_cases h7 : nm = 98
  · have g7 : nm.toInt = 98 := congrArg Int32.toInt h7
    refine lv_lookup (off := 161) (tgt := 162) hx hb d_Rn_formOf_1 (by decide) (by rw [g7]; rfl) (by decide) ?_
    refine va_ldcS (tx := txS.getD 9 "") hx hb hown (hZ.2.2.2.2 9 (by decide)) d_Rn_formOf_162 ?_
    exact W.aret (v := .ref (adK 9)) hx hb hr (Or.inl ⟨_, rfl⟩) (Or.inr ⟨_, rfl⟩) (fun t ht hW => ⟨⟨M, adK 9, rfl, rfl, ⟨⟨9, by decide, rfl⟩, by unfold ux_E; rw [ht]; exact hP⟩⟩, hS.F ht⟩) hS.2.2 d_Rn_formOf_164
  have g7 : ¬ nm.toInt = 98 := fun q => h7 (Int32.toInt_inj.mp q)
  by_cases h8 : nm = 99
  · have g8 : nm.toInt = 99 := congrArg Int32.toInt h8
    refine lv_lookup (off := 161) (tgt := 162) hx hb d_Rn_formOf_1 (by decide) (by rw [g8]; rfl) (by decide) ?_
    refine va_ldcS (tx := txS.getD 9 "") hx hb hown (hZ.2.2.2.2 9 (by decide)) d_Rn_formOf_162 ?_
    exact W.aret (v := .ref (adK 9)) hx hb hr (Or.inl ⟨_, rfl⟩) (Or.inr ⟨_, rfl⟩) (fun t ht hW => ⟨⟨M, adK 9, rfl, rfl, ⟨⟨9, by decide, rfl⟩, by unfold ux_E; rw [ht]; exact hP⟩⟩, hS.F ht⟩) hS.2.2 d_Rn_formOf_164
  have g8 : ¬ nm.toInt = 99 := fun q => h8 (Int32.toInt_inj.mp q)
  by_cases h9 : nm = 101
  · have g9 : nm.toInt = 101 := congrArg Int32.toInt h9
    refine lv_lookup (off := 133) (tgt := 134) hx hb d_Rn_formOf_1 (by decide) (by rw [g9]; rfl) (by decide) ?_
    refine va_ldcS (tx := txS.getD 4 "") hx hb hown (hZ.2.2.2.2 4 (by decide)) d_Rn_formOf_134 ?_
    exact W.aret (v := .ref (adK 4)) hx hb hr (Or.inl ⟨_, rfl⟩) (Or.inr ⟨_, rfl⟩) (fun t ht hW => ⟨⟨M, adK 4, rfl, rfl, ⟨⟨4, by decide, rfl⟩, by unfold ux_E; rw [ht]; exact hP⟩⟩, hS.F ht⟩) hS.2.2 d_Rn_formOf_136
  have g9 : ¬ nm.toInt = 101 := fun q => h9 (Int32.toInt_inj.mp q)
  by_cases h10 : nm = 103
  · have g10 : nm.toInt = 103 := congrArg Int32.toInt h10
    refine lv_lookup (off := 158) (tgt := 159) hx hb d_Rn_formOf_1 (by decide) (by rw [g10]; rfl) (by decide) ?_
    refine va_ldcS (tx := txS.getD 1 "") hx hb hown (hZ.2.2.2.2 1 (by decide)) d_Rn_formOf_159 ?_
    exact W.aret (v := .ref (adK 1)) hx hb hr (Or.inl ⟨_, rfl⟩) (Or.inr ⟨_, rfl⟩) (fun t ht hW => ⟨⟨M, adK 1, rfl, rfl, ⟨⟨1, by decide, rfl⟩, by unfold ux_E; rw [ht]; exact hP⟩⟩, hS.F ht⟩) hS.2.2 d_Rn_formOf_161
  have g10 : ¬ nm.toInt = 103 := fun q => h10 (Int32.toInt_inj.mp q)
  by_cases h11 : nm = 105
  · have g11 : nm.toInt = 105 := congrArg Int32.toInt h11
    refine lv_lookup (off := 120) (tgt := 121) hx hb d_Rn_formOf_1 (by decide) (by rw [g11]; rfl) (by decide) ?_
    refine lv_iload_n hx hb d_Rn_formOf_121 rfl (lv_at hl 1 rfl) ?_
    refine lv_iconst (v := 2) hx hb d_Rn_formOf_122 (by decide) ?_
    refine lv_icmp_ne hx hb d_Rn_formOf_123 rfl (fun h12 => ?_) (fun h12 => ?_)
    · have g12 : ¬ (ws.toInt = 2) := fun q => h12 (Int32.toInt_inj.mp q)
      refine va_ldcS (tx := txS.getD 3 "") hx hb hown (hZ.2.2.2.2 3 (by decide)) d_Rn_formOf_131 ?_
      exact W.aret (v := .ref (adK 3)) hx hb hr (Or.inl ⟨_, rfl⟩) (Or.inr ⟨_, rfl⟩) (fun t ht hW => ⟨⟨M, adK 3, rfl, rfl, ⟨⟨3, by decide, rfl⟩, by unfold ux_E; rw [ht]; exact hP⟩⟩, hS.F ht⟩) hS.2.2 d_Rn_formOf_133
    · have g12 : ws.toInt = 2 := congrArg Int32.toInt h12
      refine va_ldcS (tx := txS.getD 1 "") hx hb hown (hZ.2.2.2.2 1 (by decide)) d_Rn_formOf_126 ?_
      refine lv_goto hx hb d_Rn_formOf_128 rfl ?_
      exact W.aret (v := .ref (adK 1)) hx hb hr (Or.inl ⟨_, rfl⟩) (Or.inr ⟨_, rfl⟩) (fun t ht hW => ⟨⟨M, adK 1, rfl, rfl, ⟨⟨1, by decide, rfl⟩, by unfold ux_E; rw [ht]; exact hP⟩⟩, hS.F ht⟩) hS.2.2 d_Rn_formOf_133
  have g11 : ¬ nm.toInt = 105 := fun q => h11 (Int32.toInt_inj.mp q)
  by_cases h13 : nm = 107
  · have g13 : nm.toInt = 107 := congrArg Int32.toInt h13
    refine lv_lookup (off := 164) (tgt := 165) hx hb d_Rn_formOf_1 (by decide) (by rw [g13]; rfl) (by decide) ?_
    refine lv_iload_n hx hb d_Rn_formOf_165 rfl (lv_at hl 1 rfl) ?_
    refine lv_iconst (v := 2) hx hb d_Rn_formOf_166 (by decide) ?_
    refine lv_icmp_ne hx hb d_Rn_formOf_167 rfl (fun h14 => ?_) (fun h14 => ?_)
    · have g14 : ¬ (ws.toInt = 2) := fun q => h14 (Int32.toInt_inj.mp q)
      refine va_ldcS (tx := txS.getD 11 "") hx hb hown (hZ.2.2.2.2 11 (by decide)) d_Rn_formOf_175 ?_
      exact W.aret (v := .ref (adK 11)) hx hb hr (Or.inl ⟨_, rfl⟩) (Or.inr ⟨_, rfl⟩) (fun t ht hW => ⟨⟨M, adK 11, rfl, rfl, ⟨⟨11, by decide, rfl⟩, by unfold ux_E; rw [ht]; exact hP⟩⟩, hS.F ht⟩) hS.2.2 d_Rn_formOf_177
    · have g14 : ws.toInt = 2 := congrArg Int32.toInt h14
      refine va_ldcS (tx := txS.getD 10 "") hx hb hown (hZ.2.2.2.2 10 (by decide)) d_Rn_formOf_170 ?_
      refine lv_goto hx hb d_Rn_formOf_172 rfl ?_
      exact W.aret (v := .ref (adK 10)) hx hb hr (Or.inl ⟨_, rfl⟩) (Or.inr ⟨_, rfl⟩) (fun t ht hW => ⟨⟨M, adK 10, rfl, rfl, ⟨⟨10, by decide, rfl⟩, by unfold ux_E; rw [ht]; exact hP⟩⟩, hS.F ht⟩) hS.2.2 d_Rn_formOf_177
  have g13 : ¬ nm.toInt = 107 := fun q => h13 (Int32.toInt_inj.mp q)
  by_cases h15 : nm = 109
  · have g15 : nm.toInt = 109 := congrArg Int32.toInt h15
    refine lv_lookup (off := 136) (tgt := 137) hx hb d_Rn_formOf_1 (by decide) (by rw [g15]; rfl) (by decide) ?_
    refine va_ldcS (tx := txS.getD 5 "") hx hb hown (hZ.2.2.2.2 5 (by decide)) d_Rn_formOf_137 ?_
    exact W.aret (v := .ref (adK 5)) hx hb hr (Or.inl ⟨_, rfl⟩) (Or.inr ⟨_, rfl⟩) (fun t ht hW => ⟨⟨M, adK 5, rfl, rfl, ⟨⟨5, by decide, rfl⟩, by unfold ux_E; rw [ht]; exact hP⟩⟩, hS.F ht⟩) hS.2.2 d_Rn_formOf_139
  have g15 : ¬ nm.toInt = 109 := fun q => h15 (Int32.toInt_inj.mp q)
  by_cases h16 : nm = 112
  · have g16 : nm.toInt = 112 := congrArg Int32.toInt h16
    refine lv_lookup (off := 155) (tgt := 156) hx hb d_Rn_formOf_1 (by decide) (by rw [g16]; rfl) (by decide) ?_
    refine va_ldcS (tx := txS.getD 8 "") hx hb hown (hZ.2.2.2.2 8 (by decide)) d_Rn_formOf_156 ?_
    exact W.aret (v := .ref (adK 8)) hx hb hr (Or.inl ⟨_, rfl⟩) (Or.inr ⟨_, rfl⟩) (fun t ht hW => ⟨⟨M, adK 8, rfl, rfl, ⟨⟨8, by decide, rfl⟩, by unfold ux_E; rw [ht]; exact hP⟩⟩, hS.F ht⟩) hS.2.2 d_Rn_formOf_158
  have g16 : ¬ nm.toInt = 112 := fun q => h16 (Int32.toInt_inj.mp q)
  by_cases h17 : nm = 115
  · have g17 : nm.toInt = 115 := congrArg Int32.toInt h17
    refine lv_lookup (off := 107) (tgt := 108) hx hb d_Rn_formOf_1 (by decide) (by rw [g17]; rfl) (by decide) ?_
    refine lv_iload_n hx hb d_Rn_formOf_108 rfl (lv_at hl 1 rfl) ?_
    refine lv_iconst (v := 2) hx hb d_Rn_formOf_109 (by decide) ?_
    refine lv_icmp_ne hx hb d_Rn_formOf_110 rfl (fun h18 => ?_) (fun h18 => ?_)
    · have g18 : ¬ (ws.toInt = 2) := fun q => h18 (Int32.toInt_inj.mp q)
      refine va_ldcS (tx := txS.getD 2 "") hx hb hown (hZ.2.2.2.2 2 (by decide)) d_Rn_formOf_118 ?_
      exact W.aret (v := .ref (adK 2)) hx hb hr (Or.inl ⟨_, rfl⟩) (Or.inr ⟨_, rfl⟩) (fun t ht hW => ⟨⟨M, adK 2, rfl, rfl, ⟨⟨2, by decide, rfl⟩, by unfold ux_E; rw [ht]; exact hP⟩⟩, hS.F ht⟩) hS.2.2 d_Rn_formOf_120
    · have g18 : ws.toInt = 2 := congrArg Int32.toInt h18
      refine va_ldcS (tx := txS.getD 1 "") hx hb hown (hZ.2.2.2.2 1 (by decide)) d_Rn_formOf_113 ?_
      refine lv_goto hx hb d_Rn_formOf_115 rfl ?_
      exact W.aret (v := .ref (adK 1)) hx hb hr (Or.inl ⟨_, rfl⟩) (Or.inr ⟨_, rfl⟩) (fun t ht hW => ⟨⟨M, adK 1, rfl, rfl, ⟨⟨1, by decide, rfl⟩, by unfold ux_E; rw [ht]; exact hP⟩⟩, hS.F ht⟩) hS.2.2 d_Rn_formOf_120
  have g17 : ¬ nm.toInt = 115 := fun q => h17 (Int32.toInt_inj.mp q)
  refine lv_lookup (off := 201) (tgt := 202) hx hb d_Rn_formOf_1 (by decide) (by show Op.lookupswitch.offset [(42, 152), (60, 177), (63, 139), (98, 161), (99, 161), (101, 133), (103, 158), (105, 120), (107, 164), (109, 136), (112, 155), (115, 107)] 201 nm.toInt = 201; rw [Op.lookupswitch.offset_cons, if_neg (show ¬ (42 : Int) = nm.toInt by omega), Op.lookupswitch.offset_cons, if_neg (show ¬ (60 : Int) = nm.toInt by omega), Op.lookupswitch.offset_cons, if_neg (show ¬ (63 : Int) = nm.toInt by omega), Op.lookupswitch.offset_cons, if_neg (show ¬ (98 : Int) = nm.toInt by omega), Op.lookupswitch.offset_cons, if_neg (show ¬ (99 : Int) = nm.toInt by omega), Op.lookupswitch.offset_cons, if_neg (show ¬ (101 : Int) = nm.toInt by omega), Op.lookupswitch.offset_cons, if_neg (show ¬ (103 : Int) = nm.toInt by omega), Op.lookupswitch.offset_cons, if_neg (show ¬ (105 : Int) = nm.toInt by omega), Op.lookupswitch.offset_cons, if_neg (show ¬ (107 : Int) = nm.toInt by omega), Op.lookupswitch.offset_cons, if_neg (show ¬ (109 : Int) = nm.toInt by omega), Op.lookupswitch.offset_cons, if_neg (show ¬ (112 : Int) = nm.toInt by omega), Op.lookupswitch.offset_cons, if_neg (show ¬ (115 : Int) = nm.toInt by omega)]; rfl) (by decide) ?_
  refine va_ldcS (tx := txS.getD 15 "") hx hb hown (hZ.2.2.2.2 15 (by decide)) d_Rn_formOf_202 ?_
  exact W.aret (v := .ref (adK 15)) hx hb hr (Or.inl ⟨_, rfl⟩) (Or.inr ⟨_, rfl⟩) (fun t ht hW => ⟨⟨M, adK 15, rfl, rfl, ⟨⟨15, by decide, rfl⟩, by unfold ux_E; rw [ht]; exact hP⟩⟩, hS.F ht⟩) hS.2.2 d_Rn_formOf_204

set_option maxHeartbeats 8000000 in
set_option maxRecDepth 100000 in
theorem s_Rn_errorOf (l : Launch) (D : va_G) (ad : Nat → Nat) (cA : Nat → ClassId) (M : ux_M) (hI : IvX M) (d : Nat) (hd : d < 8) (i kd : Int32) : Met l y_Rn_errorOf w_Rn_errorOf ({ frames := 2, cells := 0, slots := 0, locals := 47 }) (va_Pc [.ref (ad (54 + 7 * d)), .int i, .int kd] (ux_B D shX KX ad cA M)) (va_Qi (fun r M1 => IvX M1 ∧ (∀ a b, ¬ tN a b → M1 a b = M a b) ∧ (True)) (ux_E D shX KX ad cA) (ux_A KX ad)) 0 0 (ux_A KX ad) := by
  refine Met.ofW (cc := b_Rn_errorOf) (maxL := 4) (ret := (some .int)) (by decide) rfl ?_
  intro p e s m args below meth c s₁ B hml hv
  obtain ⟨rfl, hP, hK, hi, hN⟩ := hv
  have hx := B.exec
  have hb := B.bytes
  have hr := B.returns
  have hts := atoms_spec (ws := w_Rn_errorOf) B.pre
  have hown : s.vm.findClass R_Rn = some m.cls := findClass_of_methodNamed B.named
  have hlocks := B.notSynchronized
  have hT : ∀ w ∈ tb, w.before _ s = true := fun w h => hts w (List.mem_cons_of_mem _ h)
  have hS : va_S (ux_A KX ad) s.heap s.heap [] := va_S.rf
  have hl := lv_entry ([.ref (ad (54 + 7 * d)), .int i, .int kd]) (n := 4) (Nat.le_of_ble_eq_true rfl)
  rw [lg_entry_eq]
  generalize (lg_sl ([.ref (ad (54 + 7 * d)), .int i, .int kd]) ++ List.replicate (4 - (lg_sl ([.ref (ad (54 + 7 * d)), .int i, .int kd])).length) Slot.unset).toArray = ls at hl ⊢
  have hl : lv_has ls 4 [(0, .ref (ad (54 + 7 * d))), (1, .int i), (2, .int kd)] := hl
  have hF : ∀ a b, ¬ tN a b → M a b = M a b := fun _ _ _ => rfl
  refine lv_aload_n hx hb d_Rn_errorOf_0 rfl (lv_at hl 0 rfl) ?_
  refine lv_iload_n hx hb d_Rn_errorOf_1 rfl (lv_at hl 1 rfl) ?_
  refine ux_calli (va_runV ⟨hx, hb, hml, hown, hts⟩ (c_Vl_sizeOf l D shX KX ad cA M (54 + 7 * d) (55 + 7 * d) (56 + 7 * d) 8 (V_lv hd) i) (cwV 1 hts (tb_goodV ml_Rn_160 im_Vl_sizeOf se_Vl_sizeOf ii_Vl kt_Vl_sizeOf) rfl rfl rfl (by decide +kernel) ⟨Nat.le_of_ble_eq_true rfl, Nat.le_of_ble_eq_true rfl⟩) (ux_preV (lk 54 (by decide) hd) (L54 hd) rfl hP hK hi hN) rfl rfl hl.1 rfl (lv_room (Nat.le_of_ble_eq_true rfl)) d_Rn_errorOf_2 ⟨Nat.zero_le _, Nat.zero_le _⟩) hS (fun r1 M2 H locs q3 hP hS => ?_)
  obtain ⟨q3m, q3e⟩ := q3
  rw [q3m] at hP
  subst q3e
  refine lv_bipush (v := 20) hx hb d_Rn_errorOf_5 (by decide) ?_
  refine lv_icmp_le hx hb d_Rn_errorOf_7 rfl (fun h4 => ?_) (fun h4 => ?_)
  · have g4 : (vz M (56 + 7 * d) 8 i).toInt ≤ 20 := Int32.le_iff_toInt_le.mp h4
    have w4 := ti_lo (vz M (56 + 7 * d) 8 i)
    refine lv_iconst (v := 0) hx hb d_Rn_errorOf_14 (by decide) ?_
    refine lv_istore_n hx hb d_Rn_errorOf_15 rfl hl (by decide) rfl (fun ls hl => ?_)
    have hl : lv_has ls 4 [(3, .int 0), (0, .ref (ad (54 + 7 * d))), (1, .int i), (2, .int kd)] := hl
    refine lv_iload_n hx hb d_Rn_errorOf_16 rfl (lv_at hl 3 rfl) ?_
    by_cases h5 : kd = 78
    · have g5 : kd.toInt = 78 := congrArg Int32.toInt h5
      refine lv_lookup (off := 85) (tgt := 102) hx hb d_Rn_errorOf_17 (by decide) (by rw [g5]; rfl) (by decide) ?_
      refine lv_iload_n hx hb d_Rn_errorOf_102 rfl (lv_at hl 0 rfl) ?_
      refine lv_if_eq hx hb d_Rn_errorOf_103 rfl (fun _ => ?_) (fun hz => absurd (by decide) hz)
      refine lv_aload_n hx hb d_Rn_errorOf_109 rfl (lv_at hl 1 rfl) ?_
      refine lv_iload_n hx hb d_Rn_errorOf_110 rfl (lv_at hl 2 rfl) ?_
      refine ux_calli (va_runV ⟨hx, hb, hml, hown, hts⟩ (c_Vl_nameOf l D shX KX ad cA M (54 + 7 * d) (55 + 7 * d) (56 + 7 * d) 8 (V_lv hd) i) (cwV 1 hts (tb_goodV ml_Rn_171 im_Vl_nameOf se_Vl_nameOf ii_Vl kt_Vl_nameOf) rfl rfl rfl (by decide +kernel) ⟨Nat.le_of_ble_eq_true rfl, Nat.le_of_ble_eq_true rfl⟩) (ux_preV (lk 54 (by decide) hd) (L54 hd) rfl hP hK hi hN) rfl rfl hl.1 rfl (lv_room (Nat.le_of_ble_eq_true rfl)) d_Rn_errorOf_111 ⟨Nat.zero_le _, Nat.zero_le _⟩) hS (fun r6 M7 H locs q8 hP hS => ?_)
      obtain ⟨q8m, q8e⟩ := q8
      rw [q8m] at hP
      subst q8e
      refine ux_calli (va_runSN ⟨hx, hb, hml, hown, hts⟩ (s_PS_isProcedure l D ad cA M hI (vn M (55 + 7 * d) (56 + 7 * d) 8 i)) ⟨va_cnB 1 hts (tb_good _ _ kt_PS_isProcedure) rfl rfl rfl (hN _ nm_Rn_197) (hT _ ii_PS) (by decide +kernel) ⟨Nat.le_of_ble_eq_true rfl, Nat.le_of_ble_eq_true rfl⟩, hT _ sm_PS_isProcedure, trivial⟩ (ux_pre hP hK hi hN) rfl rfl hl.1 rfl (lv_room (Nat.le_of_ble_eq_true rfl)) d_Rn_errorOf_114 ⟨Nat.zero_le _, Nat.zero_le _⟩) hS (fun r9 M10 H locs q11 hP hS => ?_)
      obtain ⟨hI, fq11, q11p⟩ := q11
      rw [tN_eq fq11] at hP hI
      subst q11p
      have b12 := isp_b (vn M (55 + 7 * d) (56 + 7 * d) 8 i)
      refine lv_if_eq hx hb d_Rn_errorOf_117 rfl (fun h13 => ?_) (fun h13 => ?_)
      · have g13 : (isp (vn M (55 + 7 * d) (56 + 7 * d) 8 i)).toInt = 0 := congrArg Int32.toInt h13
        refine lv_iconst (v := 4) hx hb d_Rn_errorOf_124 (by decide) ?_
        exact W.iret (v := 4) hx hb hr (fun t ht hW => ⟨⟨4, M, rfl, ⟨hI, hF, trivial⟩, by unfold ux_E; rw [ht]; exact hP⟩, hS.F ht⟩) hS.2.2 d_Rn_errorOf_125
      · have g13 : ¬ ((isp (vn M (55 + 7 * d) (56 + 7 * d) 8 i)).toInt = 0) := fun q => h13 (Int32.toInt_inj.mp q)
        refine lv_iconst (v := 0) hx hb d_Rn_errorOf_120 (by decide) ?_
        refine lv_goto hx hb d_Rn_errorOf_121 rfl ?_
        exact W.iret (v := 0) hx hb hr (fun t ht hW => ⟨⟨0, M, rfl, ⟨hI, hF, trivial⟩, by unfold ux_E; rw [ht]; exact hP⟩, hS.F ht⟩) hS.2.2 d_Rn_errorOf_125
    have g5 : ¬ kd.toInt = 78 := fun q => h5 (Int32.toInt_inj.mp q)
    by_cases h14 : kd = 110
    · have g14 : kd.toInt = 110 := congrArg Int32.toInt h14
      refine lv_lookup (off := 60) (tgt := 77) hx hb d_Rn_errorOf_17 (by decide) (by rw [g14]; rfl) (by decide) ?_
      refine lv_aload_n hx hb d_Rn_errorOf_77 rfl (lv_at hl 1 rfl) ?_
      refine lv_iload_n hx hb d_Rn_errorOf_78 rfl (lv_at hl 2 rfl) ?_
      refine ux_calli (va_runV ⟨hx, hb, hml, hown, hts⟩ (s_Vl_isNumber l D ad cA M hI (54 + 7 * d) (55 + 7 * d) (56 + 7 * d) 8 (vV_lv hd) i) (cwV 1 hts (tb_goodV ml_Rn_238 im_Vl_isNumber se_Vl_isNumber ii_Vl kt_Vl_isNumber) rfl rfl rfl (by decide +kernel) ⟨Nat.le_of_ble_eq_true rfl, Nat.le_of_ble_eq_true rfl⟩) (ux_preV (lk 54 (by decide) hd) (L54 hd) rfl hP hK hi hN) rfl rfl hl.1 rfl (lv_room (Nat.le_of_ble_eq_true rfl)) d_Rn_errorOf_79 ⟨Nat.zero_le _, Nat.zero_le _⟩) hS (fun r15 M16 H locs q17 hP hS => ?_)
      obtain ⟨hI, fq17, q17p⟩ := q17
      rw [tN_eq fq17] at hP hI
      refine lv_if_eq hx hb d_Rn_errorOf_82 rfl (fun h18 => ?_) (fun h18 => ?_)
      · have g18 : r15.toInt = 0 := congrArg Int32.toInt h18
        refine lv_iconst (v := 5) hx hb d_Rn_errorOf_89 (by decide) ?_
        exact W.iret (v := 5) hx hb hr (fun t ht hW => ⟨⟨5, M, rfl, ⟨hI, hF, trivial⟩, by unfold ux_E; rw [ht]; exact hP⟩, hS.F ht⟩) hS.2.2 d_Rn_errorOf_90
      · have g18 : ¬ (r15.toInt = 0) := fun q => h18 (Int32.toInt_inj.mp q)
        refine lv_iconst (v := 0) hx hb d_Rn_errorOf_85 (by decide) ?_
        refine lv_goto hx hb d_Rn_errorOf_86 rfl ?_
        exact W.iret (v := 0) hx hb hr (fun t ht hW => ⟨⟨0, M, rfl, ⟨hI, hF, trivial⟩, by unfold ux_E; rw [ht]; exact hP⟩, hS.F ht⟩) hS.2.2 d_Rn_errorOf_90
    have g14 : ¬ kd.toInt = 110 := fun q => h14 (Int32.toInt_inj.mp q)
    by_cases h19 : kd = 118
    · have g19 : kd.toInt = 118 := congrArg Int32.toInt h19
      refine lv_lookup (off := 43) (tgt := 60) hx hb d_Rn_errorOf_17 (by decide) (by rw [g19]; rfl) (by decide) ?_
      refine lv_aload_n hx hb d_Rn_errorOf_60 rfl (lv_at hl 1 rfl) ?_
      refine lv_iload_n hx hb d_Rn_errorOf_61 rfl (lv_at hl 2 rfl) ?_
      refine ux_calli (va_runV ⟨hx, hb, hml, hown, hts⟩ (c_Vl_nameOf l D shX KX ad cA M (54 + 7 * d) (55 + 7 * d) (56 + 7 * d) 8 (V_lv hd) i) (cwV 1 hts (tb_goodV ml_Rn_171 im_Vl_nameOf se_Vl_nameOf ii_Vl kt_Vl_nameOf) rfl rfl rfl (by decide +kernel) ⟨Nat.le_of_ble_eq_true rfl, Nat.le_of_ble_eq_true rfl⟩) (ux_preV (lk 54 (by decide) hd) (L54 hd) rfl hP hK hi hN) rfl rfl hl.1 rfl (lv_room (Nat.le_of_ble_eq_true rfl)) d_Rn_errorOf_62 ⟨Nat.zero_le _, Nat.zero_le _⟩) hS (fun r20 M21 H locs q22 hP hS => ?_)
      obtain ⟨q22m, q22e⟩ := q22
      rw [q22m] at hP
      subst q22e
      refine ux_calli (va_runSN ⟨hx, hb, hml, hown, hts⟩ (s_PS_isVariable l D ad cA M hI (vn M (55 + 7 * d) (56 + 7 * d) 8 i)) ⟨va_cnB 1 hts (tb_good _ _ kt_PS_isVariable) rfl rfl rfl (hN _ nm_Rn_152) (hT _ ii_PS) (by decide +kernel) ⟨Nat.le_of_ble_eq_true rfl, Nat.le_of_ble_eq_true rfl⟩, hT _ sm_PS_isVariable, trivial⟩ (ux_pre hP hK hi hN) rfl rfl hl.1 rfl (lv_room (Nat.le_of_ble_eq_true rfl)) d_Rn_errorOf_65 ⟨Nat.zero_le _, Nat.zero_le _⟩) hS (fun r23 M24 H locs q25 hP hS => ?_)
      obtain ⟨hI, fq25, q25p⟩ := q25
      rw [tN_eq fq25] at hP hI
      subst q25p
      have b26 := isv_b (vn M (55 + 7 * d) (56 + 7 * d) 8 i)
      refine lv_if_eq hx hb d_Rn_errorOf_68 rfl (fun h27 => ?_) (fun h27 => ?_)
      · have g27 : (isv (vn M (55 + 7 * d) (56 + 7 * d) 8 i)).toInt = 0 := congrArg Int32.toInt h27
        refine lv_iconst (v := 4) hx hb d_Rn_errorOf_75 (by decide) ?_
        exact W.iret (v := 4) hx hb hr (fun t ht hW => ⟨⟨4, M, rfl, ⟨hI, hF, trivial⟩, by unfold ux_E; rw [ht]; exact hP⟩, hS.F ht⟩) hS.2.2 d_Rn_errorOf_76
      · have g27 : ¬ ((isv (vn M (55 + 7 * d) (56 + 7 * d) 8 i)).toInt = 0) := fun q => h27 (Int32.toInt_inj.mp q)
        refine lv_iconst (v := 0) hx hb d_Rn_errorOf_71 (by decide) ?_
        refine lv_goto hx hb d_Rn_errorOf_72 rfl ?_
        exact W.iret (v := 0) hx hb hr (fun t ht hW => ⟨⟨0, M, rfl, ⟨hI, hF, trivial⟩, by unfold ux_E; rw [ht]; exact hP⟩, hS.F ht⟩) hS.2.2 d_Rn_errorOf_76
    have g19 : ¬ kd.toInt = 118 := fun q => h19 (Int32.toInt_inj.mp q)
    by_cases h28 : kd = 120
    · have g28 : kd.toInt = 120 := congrArg Int32.toInt h28
      refine lv_lookup (off := 74) (tgt := 91) hx hb d_Rn_errorOf_17 (by decide) (by rw [g28]; rfl) (by decide) ?_
      refine lv_iload_n hx hb d_Rn_errorOf_91 rfl (lv_at hl 0 rfl) ?_
      refine lv_if_eq hx hb d_Rn_errorOf_92 rfl (fun _ => ?_) (fun hz => absurd (by decide) hz)
      refine lv_iconst (v := 0) hx hb d_Rn_errorOf_100 (by decide) ?_
      exact W.iret (v := 0) hx hb hr (fun t ht hW => ⟨⟨0, M, rfl, ⟨hI, hF, trivial⟩, by unfold ux_E; rw [ht]; exact hP⟩, hS.F ht⟩) hS.2.2 d_Rn_errorOf_101
    have g28 : ¬ kd.toInt = 120 := fun q => h28 (Int32.toInt_inj.mp q)
    refine lv_lookup (off := 109) (tgt := 126) hx hb d_Rn_errorOf_17 (by decide) (by show Op.lookupswitch.offset [(78, 85), (110, 60), (118, 43), (120, 74)] 109 kd.toInt = 109; rw [Op.lookupswitch.offset_cons, if_neg (show ¬ (78 : Int) = kd.toInt by omega), Op.lookupswitch.offset_cons, if_neg (show ¬ (110 : Int) = kd.toInt by omega), Op.lookupswitch.offset_cons, if_neg (show ¬ (118 : Int) = kd.toInt by omega), Op.lookupswitch.offset_cons, if_neg (show ¬ (120 : Int) = kd.toInt by omega)]; rfl) (by decide) ?_
    refine lv_iconst (v := 0) hx hb d_Rn_errorOf_126 (by decide) ?_
    exact W.iret (v := 0) hx hb hr (fun t ht hW => ⟨⟨0, M, rfl, ⟨hI, hF, trivial⟩, by unfold ux_E; rw [ht]; exact hP⟩, hS.F ht⟩) hS.2.2 d_Rn_errorOf_127
  · have g4 : ¬ ((vz M (56 + 7 * d) 8 i).toInt ≤ 20) := fun q => h4 (Int32.le_iff_toInt_le.mpr q)
    have u4 := ti_hi (vz M (56 + 7 * d) 8 i)
    refine lv_iconst (v := 1) hx hb d_Rn_errorOf_10 (by decide) ?_
    refine lv_goto hx hb d_Rn_errorOf_11 rfl ?_
    refine lv_istore_n hx hb d_Rn_errorOf_15 rfl hl (by decide) rfl (fun ls hl => ?_)
    have hl : lv_has ls 4 [(3, .int 1), (0, .ref (ad (54 + 7 * d))), (1, .int i), (2, .int kd)] := hl
    refine lv_iload_n hx hb d_Rn_errorOf_16 rfl (lv_at hl 3 rfl) ?_
    by_cases h29 : kd = 78
    · have g29 : kd.toInt = 78 := congrArg Int32.toInt h29
      refine lv_lookup (off := 85) (tgt := 102) hx hb d_Rn_errorOf_17 (by decide) (by rw [g29]; rfl) (by decide) ?_
      refine lv_iload_n hx hb d_Rn_errorOf_102 rfl (lv_at hl 0 rfl) ?_
      refine lv_if_eq hx hb d_Rn_errorOf_103 rfl (fun hz => absurd hz (by decide)) (fun _ => ?_)
      refine lv_bipush (v := 7) hx hb d_Rn_errorOf_106 (by decide) ?_
      exact W.iret (v := 7) hx hb hr (fun t ht hW => ⟨⟨7, M, rfl, ⟨hI, hF, trivial⟩, by unfold ux_E; rw [ht]; exact hP⟩, hS.F ht⟩) hS.2.2 d_Rn_errorOf_108
    have g29 : ¬ kd.toInt = 78 := fun q => h29 (Int32.toInt_inj.mp q)
    by_cases h30 : kd = 110
    · have g30 : kd.toInt = 110 := congrArg Int32.toInt h30
      refine lv_lookup (off := 60) (tgt := 77) hx hb d_Rn_errorOf_17 (by decide) (by rw [g30]; rfl) (by decide) ?_
      refine lv_aload_n hx hb d_Rn_errorOf_77 rfl (lv_at hl 1 rfl) ?_
      refine lv_iload_n hx hb d_Rn_errorOf_78 rfl (lv_at hl 2 rfl) ?_
      refine ux_calli (va_runV ⟨hx, hb, hml, hown, hts⟩ (s_Vl_isNumber l D ad cA M hI (54 + 7 * d) (55 + 7 * d) (56 + 7 * d) 8 (vV_lv hd) i) (cwV 1 hts (tb_goodV ml_Rn_238 im_Vl_isNumber se_Vl_isNumber ii_Vl kt_Vl_isNumber) rfl rfl rfl (by decide +kernel) ⟨Nat.le_of_ble_eq_true rfl, Nat.le_of_ble_eq_true rfl⟩) (ux_preV (lk 54 (by decide) hd) (L54 hd) rfl hP hK hi hN) rfl rfl hl.1 rfl (lv_room (Nat.le_of_ble_eq_true rfl)) d_Rn_errorOf_79 ⟨Nat.zero_le _, Nat.zero_le _⟩) hS (fun r31 M32 H locs q33 hP hS => ?_)
      obtain ⟨hI, fq33, q33p⟩ := q33
      rw [tN_eq fq33] at hP hI
      refine lv_if_eq hx hb d_Rn_errorOf_82 rfl (fun h34 => ?_) (fun h34 => ?_)
      · have g34 : r31.toInt = 0 := congrArg Int32.toInt h34
        refine lv_iconst (v := 5) hx hb d_Rn_errorOf_89 (by decide) ?_
        exact W.iret (v := 5) hx hb hr (fun t ht hW => ⟨⟨5, M, rfl, ⟨hI, hF, trivial⟩, by unfold ux_E; rw [ht]; exact hP⟩, hS.F ht⟩) hS.2.2 d_Rn_errorOf_90
      · have g34 : ¬ (r31.toInt = 0) := fun q => h34 (Int32.toInt_inj.mp q)
        refine lv_iconst (v := 0) hx hb d_Rn_errorOf_85 (by decide) ?_
        refine lv_goto hx hb d_Rn_errorOf_86 rfl ?_
        exact W.iret (v := 0) hx hb hr (fun t ht hW => ⟨⟨0, M, rfl, ⟨hI, hF, trivial⟩, by unfold ux_E; rw [ht]; exact hP⟩, hS.F ht⟩) hS.2.2 d_Rn_errorOf_90
    have g30 : ¬ kd.toInt = 110 := fun q => h30 (Int32.toInt_inj.mp q)
    by_cases h35 : kd = 118
    · have g35 : kd.toInt = 118 := congrArg Int32.toInt h35
      refine lv_lookup (off := 43) (tgt := 60) hx hb d_Rn_errorOf_17 (by decide) (by rw [g35]; rfl) (by decide) ?_
      refine lv_aload_n hx hb d_Rn_errorOf_60 rfl (lv_at hl 1 rfl) ?_
      refine lv_iload_n hx hb d_Rn_errorOf_61 rfl (lv_at hl 2 rfl) ?_
      refine ux_calli (va_runV ⟨hx, hb, hml, hown, hts⟩ (c_Vl_nameOf l D shX KX ad cA M (54 + 7 * d) (55 + 7 * d) (56 + 7 * d) 8 (V_lv hd) i) (cwV 1 hts (tb_goodV ml_Rn_171 im_Vl_nameOf se_Vl_nameOf ii_Vl kt_Vl_nameOf) rfl rfl rfl (by decide +kernel) ⟨Nat.le_of_ble_eq_true rfl, Nat.le_of_ble_eq_true rfl⟩) (ux_preV (lk 54 (by decide) hd) (L54 hd) rfl hP hK hi hN) rfl rfl hl.1 rfl (lv_room (Nat.le_of_ble_eq_true rfl)) d_Rn_errorOf_62 ⟨Nat.zero_le _, Nat.zero_le _⟩) hS (fun r36 M37 H locs q38 hP hS => ?_)
      obtain ⟨q38m, q38e⟩ := q38
      rw [q38m] at hP
      subst q38e
      refine ux_calli (va_runSN ⟨hx, hb, hml, hown, hts⟩ (s_PS_isVariable l D ad cA M hI (vn M (55 + 7 * d) (56 + 7 * d) 8 i)) ⟨va_cnB 1 hts (tb_good _ _ kt_PS_isVariable) rfl rfl rfl (hN _ nm_Rn_152) (hT _ ii_PS) (by decide +kernel) ⟨Nat.le_of_ble_eq_true rfl, Nat.le_of_ble_eq_true rfl⟩, hT _ sm_PS_isVariable, trivial⟩ (ux_pre hP hK hi hN) rfl rfl hl.1 rfl (lv_room (Nat.le_of_ble_eq_true rfl)) d_Rn_errorOf_65 ⟨Nat.zero_le _, Nat.zero_le _⟩) hS (fun r39 M40 H locs q41 hP hS => ?_)
      obtain ⟨hI, fq41, q41p⟩ := q41
      rw [tN_eq fq41] at hP hI
      subst q41p
      have b42 := isv_b (vn M (55 + 7 * d) (56 + 7 * d) 8 i)
      refine lv_if_eq hx hb d_Rn_errorOf_68 rfl (fun h43 => ?_) (fun h43 => ?_)
      · have g43 : (isv (vn M (55 + 7 * d) (56 + 7 * d) 8 i)).toInt = 0 := congrArg Int32.toInt h43
        refine lv_iconst (v := 4) hx hb d_Rn_errorOf_75 (by decide) ?_
        exact W.iret (v := 4) hx hb hr (fun t ht hW => ⟨⟨4, M, rfl, ⟨hI, hF, trivial⟩, by unfold ux_E; rw [ht]; exact hP⟩, hS.F ht⟩) hS.2.2 d_Rn_errorOf_76
      · have g43 : ¬ ((isv (vn M (55 + 7 * d) (56 + 7 * d) 8 i)).toInt = 0) := fun q => h43 (Int32.toInt_inj.mp q)
        refine lv_iconst (v := 0) hx hb d_Rn_errorOf_71 (by decide) ?_
        refine lv_goto hx hb d_Rn_errorOf_72 rfl ?_
        exact W.iret (v := 0) hx hb hr (fun t ht hW => ⟨⟨0, M, rfl, ⟨hI, hF, trivial⟩, by unfold ux_E; rw [ht]; exact hP⟩, hS.F ht⟩) hS.2.2 d_Rn_errorOf_76
    have g35 : ¬ kd.toInt = 118 := fun q => h35 (Int32.toInt_inj.mp q)
    by_cases h44 : kd = 120
    · have g44 : kd.toInt = 120 := congrArg Int32.toInt h44
      refine lv_lookup (off := 74) (tgt := 91) hx hb d_Rn_errorOf_17 (by decide) (by rw [g44]; rfl) (by decide) ?_
      refine lv_iload_n hx hb d_Rn_errorOf_91 rfl (lv_at hl 0 rfl) ?_
      refine lv_if_eq hx hb d_Rn_errorOf_92 rfl (fun hz => absurd hz (by decide)) (fun _ => ?_)
      refine lv_bipush (v := 7) hx hb d_Rn_errorOf_95 (by decide) ?_
      refine lv_goto hx hb d_Rn_errorOf_97 rfl ?_
      exact W.iret (v := 7) hx hb hr (fun t ht hW => ⟨⟨7, M, rfl, ⟨hI, hF, trivial⟩, by unfold ux_E; rw [ht]; exact hP⟩, hS.F ht⟩) hS.2.2 d_Rn_errorOf_101
    have g44 : ¬ kd.toInt = 120 := fun q => h44 (Int32.toInt_inj.mp q)
    refine lv_lookup (off := 109) (tgt := 126) hx hb d_Rn_errorOf_17 (by decide) (by show Op.lookupswitch.offset [(78, 85), (110, 60), (118, 43), (120, 74)] 109 kd.toInt = 109; rw [Op.lookupswitch.offset_cons, if_neg (show ¬ (78 : Int) = kd.toInt by omega), Op.lookupswitch.offset_cons, if_neg (show ¬ (110 : Int) = kd.toInt by omega), Op.lookupswitch.offset_cons, if_neg (show ¬ (118 : Int) = kd.toInt by omega), Op.lookupswitch.offset_cons, if_neg (show ¬ (120 : Int) = kd.toInt by omega)]; rfl) (by decide) ?_
    refine lv_iconst (v := 0) hx hb d_Rn_errorOf_126 (by decide) ?_
    exact W.iret (v := 0) hx hb hr (fun t ht hW => ⟨⟨0, M, rfl, ⟨hI, hF, trivial⟩, by unfold ux_E; rw [ht]; exact hP⟩, hS.F ht⟩) hS.2.2 d_Rn_errorOf_127

set_option maxHeartbeats 8000000 in
set_option maxRecDepth 100000 in
theorem s_Rn_checkCommand (l : Launch) (D : va_G) (ad : Nat → Nat) (cA : Nat → ClassId) (M : ux_M) (hI : IvX M) (adK adV : Nat → Nat) (fm : Value) (d : Nat) (hd : d < 8) : Met l y_Rn_checkCommand w_Rn_checkCommand ({ frames := 5, cells := 0, slots := 0, locals := 112 }) (va_Pc [.ref (ad 13), .ref (ad (53 + 7 * d))] (ux_BZ D ad cA M adK adV fm)) (va_Qi (fun r M1 => IvX M1 ∧ (∀ a b, ¬ tCC a b → M1 a b = M a b) ∧ (True)) (ux_E D shX KX ad cA) (ux_A KX ad)) 0 0 (ux_A KX ad) := by
  refine Met.ofW (cc := b_Rn_checkCommand) (maxL := 6) (ret := (some .int)) (by decide) rfl ?_
  intro p e s m args below meth c s₁ B hml hv
  obtain ⟨rfl, ⟨hP, hK, hi, hN⟩, hZ⟩ := hv
  have hx := B.exec
  have hb := B.bytes
  have hr := B.returns
  have hts := atoms_spec (ws := w_Rn_checkCommand) B.pre
  have hown : s.vm.findClass R_Rn = some m.cls := findClass_of_methodNamed B.named
  have hlocks := B.notSynchronized
  have hT : ∀ w ∈ tb, w.before _ s = true := fun w h => hts w (List.mem_cons_of_mem _ h)
  have hS : va_S (ux_A KX ad) s.heap s.heap [] := va_S.rf
  have hl := lv_entry ([.ref (ad 13), .ref (ad (53 + 7 * d))]) (n := 6) (Nat.le_of_ble_eq_true rfl)
  rw [lg_entry_eq]
  generalize (lg_sl ([.ref (ad 13), .ref (ad (53 + 7 * d))]) ++ List.replicate (6 - (lg_sl ([.ref (ad 13), .ref (ad (53 + 7 * d))])).length) Slot.unset).toArray = ls at hl ⊢
  have hl : lv_has ls 6 [(0, .ref (ad 13)), (1, .ref (ad (53 + 7 * d)))] := hl
  have hF : ∀ a b, ¬ tCC a b → M a b = M a b := fun _ _ _ => rfl
  refine lv_aload_n hx hb d_Rn_checkCommand_0 rfl (lv_at hl 0 rfl) ?_
  refine ux_calli (va_runV ⟨hx, hb, hml, hown, hts⟩ (s_Rn_takeFuel l D ad cA M hI ) (cwV 0 hts (tb_goodV ml_Rn_163 im_Rn_takeFuel se_Rn_takeFuel ii_Rn kt_Rn_takeFuel) rfl rfl rfl (by decide +kernel) ⟨Nat.le_of_ble_eq_true rfl, Nat.le_of_ble_eq_true rfl⟩) (ux_preV (by decide) rfl rfl hP hK hi hN) rfl rfl hl.1 rfl (lv_room (Nat.le_of_ble_eq_true rfl)) d_Rn_checkCommand_1 ⟨Nat.zero_le _, Nat.zero_le _⟩) hS (fun r1 M2 H locs q3 hP hS => ?_)
  obtain ⟨hI, fq3, q3p⟩ := q3
  have hF := fr_call hF fq3 (fun a b q => by unfold tFu at q; unfold tCC; omega)
  refine lv_if_ne hx hb d_Rn_checkCommand_4 rfl (fun h4 => ?_) (fun h4 => ?_)
  · have g4 : ¬ (r1.toInt = 0) := fun q => h4 (Int32.toInt_inj.mp q)
    refine lv_aload_n hx hb d_Rn_checkCommand_12 rfl (lv_at hl 1 rfl) ?_
    refine ux_getN (C := R_Lv) (T := F_Lv) (N := 10) hx hb hT in_Lv hown hK hP (lk 53 (by decide) hd) (L53 hd) rfl 0 (by decide) (hN _ nf_Rn_145) rfl d_Rn_checkCommand_13 ?_
    refine lv_iconst (v := 0) hx hb d_Rn_checkCommand_16 (by decide) ?_
    refine ux_calli (va_runV ⟨hx, hb, hml, hown, hts⟩ (c_Vl_nameOf l D shX KX ad cA M2 (54 + 7 * d) (55 + 7 * d) (56 + 7 * d) 8 (V_lv hd) 0) (cwV 1 hts (tb_goodV ml_Rn_171 im_Vl_nameOf se_Vl_nameOf ii_Vl kt_Vl_nameOf) rfl rfl rfl (by decide +kernel) ⟨Nat.le_of_ble_eq_true rfl, Nat.le_of_ble_eq_true rfl⟩) (ux_preV (lk 54 (by decide) hd) (L54 hd) rfl hP hK hi hN) rfl rfl hl.1 rfl (lv_room (Nat.le_of_ble_eq_true rfl)) d_Rn_checkCommand_17 ⟨Nat.zero_le _, Nat.zero_le _⟩) hS (fun r5 M6 H locs q7 hP hS => ?_)
    obtain ⟨q7m, q7e⟩ := q7
    rw [q7m] at hP
    subst q7e
    refine lv_istore_n hx hb d_Rn_checkCommand_20 rfl hl (by decide) rfl (fun ls hl => ?_)
    have hl : lv_has ls 6 [(2, .int (vn M2 (55 + 7 * d) (56 + 7 * d) 8 0)), (0, .ref (ad 13)), (1, .ref (ad (53 + 7 * d)))] := hl
    refine lv_aload_n hx hb d_Rn_checkCommand_21 rfl (lv_at hl 1 rfl) ?_
    refine lv_iload_n hx hb d_Rn_checkCommand_22 rfl (lv_at hl 0 rfl) ?_
    refine ux_calli (va_runV ⟨hx, hb, hml, hown, hts⟩ (s_Rn_isCommand l D ad cA M2 hI adK adV fm (vn M2 (55 + 7 * d) (56 + 7 * d) 8 0)) (cwV 1 hts (tb_goodV ml_Rn_174 im_Rn_isCommand se_Rn_isCommand ii_Rn kt_Rn_isCommand) rfl rfl rfl (by decide +kernel) ⟨Nat.le_of_ble_eq_true rfl, Nat.le_of_ble_eq_true rfl⟩) (ux_preVZ (by decide) rfl rfl hP hK hi hN hZ hS) rfl rfl hl.1 rfl (lv_room (Nat.le_of_ble_eq_true rfl)) d_Rn_checkCommand_23 ⟨Nat.zero_le _, Nat.zero_le _⟩) hS (fun r8 M9 H locs q10 hP hS => ?_)
    obtain ⟨hI, fq10, q10p⟩ := q10
    rw [tN_eq fq10] at hP hI
    refine lv_if_ne hx hb d_Rn_checkCommand_26 rfl (fun h11 => ?_) (fun h11 => ?_)
    · have g11 : ¬ (r8.toInt = 0) := fun q => h11 (Int32.toInt_inj.mp q)
      refine lv_iload_n hx hb d_Rn_checkCommand_35 rfl (lv_at hl 0 rfl) ?_
      refine lv_aload_n hx hb d_Rn_checkCommand_36 rfl (lv_at hl 2 rfl) ?_
      refine ux_getN (C := R_Lv) (T := F_Lv) (N := 10) hx hb hT in_Lv hown hK hP (lk 53 (by decide) hd) (L53 hd) rfl 4 (by decide) (hN _ nf_Rn_83) rfl d_Rn_checkCommand_37 ?_
      have b12 := iv0 (M := M2) (a := 53 + 7 * d) (b := 4) hI (by unfold p0; omega)
      have b13 := iv8 (M := M2) (a := 53 + 7 * d) (b := 4) hI (by unfold p8; omega)
      refine ux_callrS (va_runS ⟨hx, hb, hml, hown, hts⟩ (s_Rn_formOf l D ad cA M2 hI adK adV fm (vn M2 (55 + 7 * d) (56 + 7 * d) 8 0) (M2 (53 + 7 * d) 4)) (va_cwS 2 hts (tb_goodST ml_Rn_177 sm_Rn_formOf ii_Rn kt_Rn_formOf) rfl rfl rfl (by decide +kernel) ⟨Nat.le_of_ble_eq_true rfl, Nat.le_of_ble_eq_true rfl⟩) (ux_preZ hP hK hi hN hZ hS) rfl rfl hl.1 rfl (lv_room (Nat.le_of_ble_eq_true rfl)) d_Rn_checkCommand_40 ⟨Nat.zero_le _, Nat.zero_le _⟩) hS (fun j1 H locs hi1 hP hS => ?_)
      refine lv_astore_n hx hb d_Rn_checkCommand_43 rfl hl (by decide) rfl (fun ls hl => ?_)
      have hl : lv_has ls 6 [(3, .ref (adK j1)), (2, .int (vn M2 (55 + 7 * d) (56 + 7 * d) 8 0)), (0, .ref (ad 13)), (1, .ref (ad (53 + 7 * d)))] := hl
      refine lv_aload_n hx hb d_Rn_checkCommand_44 rfl (lv_at hl 3 rfl) ?_
      refine ux_getN (C := R_Lv) (T := F_Lv) (N := 10) hx hb hT in_Lv hown hK hP (lk 53 (by decide) hd) (L53 hd) rfl 4 (by decide) (hN _ nf_Rn_83) rfl d_Rn_checkCommand_45 ?_
      have b14 := iv0 (M := M2) (a := 53 + 7 * d) (b := 4) hI (by unfold p0; omega)
      have b15 := iv8 (M := M2) (a := 53 + 7 * d) (b := 4) hI (by unfold p8; omega)
      refine lv_aload_n hx hb d_Rn_checkCommand_48 rfl (lv_at hl 0 rfl) ?_
      refine ux_calli (va_runV ⟨hx, hb, hml, hown, hts⟩ (s_St_length l D ad cA M2 hI adK adV fm j1 hi1  ) (cwV 0 hts (tb_goodV ml_Rn_181 im_St_length se_St_length ii_St kt_St_length) rfl rfl rfl (by decide +kernel) ⟨Nat.le_of_ble_eq_true rfl, Nat.le_of_ble_eq_true rfl⟩) (ux_preVS hi1 hP hK hi hN hZ hS) rfl rfl hl.1 rfl (lv_room (Nat.le_of_ble_eq_true rfl)) d_Rn_checkCommand_49 ⟨Nat.zero_le _, Nat.zero_le _⟩) hS (fun r16 M17 H locs q18 hP hS => ?_)
      obtain ⟨hI, fq18, q18p⟩ := q18
      rw [tN_eq fq18] at hP hI
      have b19 := lenS_t hi1
      refine lv_iconst (v := 1) hx hb d_Rn_checkCommand_52 (by decide) ?_
      refine lv_iadd hx hb d_Rn_checkCommand_53 ?_
      refine lv_topi (fun x20 ex20 => ?_)
      try have fx20 : x20.toInt = r16.toInt + 1 := by rw [ex20]; exact ti_add (by (try rw [show (1 : Int32).toInt = 1 from rfl]); omega) (by (try rw [show (1 : Int32).toInt = 1 from rfl]); omega)
      refine lv_icmp_eq hx hb d_Rn_checkCommand_54 rfl (fun h21 => ?_) (fun h21 => ?_)
      · have g21 : (M2 (53 + 7 * d) 4).toInt = x20.toInt := congrArg Int32.toInt h21
        have cut123 : ∀ (nn : Nat) (i_4 : Int32) (Mc123 : ux_M) (H : Heap) (locs : List Loc) (ls : Array Slot), ((8 : Int) - i_4.toInt).toNat = nn → (1 ≤ i_4.toInt) → ((Mc123 (53 + 7 * d) 4).toInt = (lenS.getD j1 0 : Int) + 1) → va_P D classes (ux_w shX KX ad cA Mc123) H → IvX Mc123 → (∀ a b, ¬ tCC a b → Mc123 a b = M a b) → va_S (ux_A KX ad) s.heap H locs → lv_has ls 6 [(0, .ref (ad 13)), (1, .ref (ad (53 + 7 * d))), (3, .ref (adK j1)), (4, .int i_4)] → W p l e (headSpec w_Rn_checkCommand ({ frames := 5, cells := 0, slots := 0, locals := 112 })).room s m (([.ref (ad 13), .ref (ad (53 + 7 * d))] : List Value).toArray) below meth c H locs 0 0 (MQ below (va_Qi (fun r M1 => IvX M1 ∧ (∀ a b, ¬ tCC a b → M1 a b = M a b) ∧ (True)) (ux_E D shX KX ad cA) (ux_A KX ad)) (([.ref (ad 13), .ref (ad (53 + 7 * d))] : List Value).toArray) s 0 0 (ux_A KX ad)) (F0 m 123 ls []) := by
          intro nn
          induction nn using Nat.strongRecOn with
          | ind nn ih123 =>
            intro i_4 Mc123 H locs ls hn c123_0 c123_1 hP hI hF hS hl
            refine lv_iload hx hb d_Rn_checkCommand_123 (lv_at hl 3 rfl) ?_
            refine lv_aload_n hx hb d_Rn_checkCommand_125 rfl (lv_at hl 1 rfl) ?_
            refine ux_getN (C := R_Lv) (T := F_Lv) (N := 10) hx hb hT in_Lv hown hK hP (lk 53 (by decide) hd) (L53 hd) rfl 4 (by decide) (hN _ nf_Rn_83) rfl d_Rn_checkCommand_126 ?_
            have b22 := iv0 (M := Mc123) (a := 53 + 7 * d) (b := 4) hI (by unfold p0; omega)
            have b23 := iv8 (M := Mc123) (a := 53 + 7 * d) (b := 4) hI (by unfold p8; omega)
            refine lv_icmp_ge hx hb d_Rn_checkCommand_129 rfl (fun h24 => ?_) (fun h24 => ?_)
            · have g24 : (Mc123 (53 + 7 * d) 4).toInt ≤ i_4.toInt := Int32.le_iff_toInt_le.mp h24
              have u24 := ti_hi i_4
              have w24 := ti_lo (Mc123 (53 + 7 * d) 4)
              refine lv_iconst (v := 0) hx hb d_Rn_checkCommand_169 (by decide) ?_
              exact W.iret (v := 0) hx hb hr (fun t ht hW => ⟨⟨0, Mc123, rfl, ⟨hI, hF, trivial⟩, by unfold ux_E; rw [ht]; exact hP⟩, hS.F ht⟩) hS.2.2 d_Rn_checkCommand_170
            · have g24 : ¬ ((Mc123 (53 + 7 * d) 4).toInt ≤ i_4.toInt) := fun q => h24 (Int32.le_iff_toInt_le.mpr q)
              have u24 := ti_hi (Mc123 (53 + 7 * d) 4)
              have w24 := ti_lo i_4
              refine lv_aload_n hx hb d_Rn_checkCommand_132 rfl (lv_at hl 1 rfl) ?_
              refine ux_getN (C := R_Lv) (T := F_Lv) (N := 10) hx hb hT in_Lv hown hK hP (lk 53 (by decide) hd) (L53 hd) rfl 0 (by decide) (hN _ nf_Rn_145) rfl d_Rn_checkCommand_133 ?_
              refine lv_iload hx hb d_Rn_checkCommand_136 (lv_at hl 3 rfl) ?_
              refine lv_aload_n hx hb d_Rn_checkCommand_138 rfl (lv_at hl 2 rfl) ?_
              refine lv_iload hx hb d_Rn_checkCommand_139 (lv_at hl 3 rfl) ?_
              refine lv_iconst (v := 1) hx hb d_Rn_checkCommand_141 (by decide) ?_
              refine lv_isub hx hb d_Rn_checkCommand_142 ?_
              refine lv_topi (fun x25 ex25 => ?_)
              try have fx25 : x25.toInt = i_4.toInt - 1 := by rw [ex25]; exact ti_sub (by (try rw [show (1 : Int32).toInt = 1 from rfl]); omega) (by (try rw [show (1 : Int32).toInt = 1 from rfl]); omega)
              refine ux_calli (va_runV ⟨hx, hb, hml, hown, hts⟩ (s_St_charAt l D ad cA Mc123 hI adK adV fm j1 hi1 x25  (by omega) (by omega)) (cwV 1 hts (tb_goodV ml_Rn_186 im_St_charAt se_St_charAt ii_St kt_St_charAt) rfl rfl rfl (by decide +kernel) ⟨Nat.le_of_ble_eq_true rfl, Nat.le_of_ble_eq_true rfl⟩) (ux_preVS hi1 hP hK hi hN hZ hS) rfl rfl hl.1 rfl (lv_room (Nat.le_of_ble_eq_true rfl)) d_Rn_checkCommand_143 ⟨Nat.zero_le _, Nat.zero_le _⟩) hS (fun r26 M27 H locs q28 hP hS => ?_)
              obtain ⟨hI, fq28, q28p⟩ := q28
              rw [tN_eq fq28] at hP hI
              refine ux_calli (va_runS ⟨hx, hb, hml, hown, hts⟩ (s_Rn_errorOf l D ad cA Mc123 hI d hd i_4 r26) (va_cwS 3 hts (tb_goodST ml_Rn_193 sm_Rn_errorOf ii_Rn kt_Rn_errorOf) rfl rfl rfl (by decide +kernel) ⟨Nat.le_of_ble_eq_true rfl, Nat.le_of_ble_eq_true rfl⟩) (ux_pre hP hK hi hN) rfl rfl hl.1 rfl (lv_room (Nat.le_of_ble_eq_true rfl)) d_Rn_checkCommand_146 ⟨Nat.zero_le _, Nat.zero_le _⟩) hS (fun r29 M30 H locs q31 hP hS => ?_)
              obtain ⟨hI, fq31, q31p⟩ := q31
              rw [tN_eq fq31] at hP hI
              refine lv_istore hx hb d_Rn_checkCommand_149 hl (by decide) rfl (fun ls hl => ?_)
              have hl : lv_has ls 6 [(5, .int r29), (0, .ref (ad 13)), (1, .ref (ad (53 + 7 * d))), (3, .ref (adK j1)), (4, .int i_4)] := hl
              refine lv_iload hx hb d_Rn_checkCommand_151 (lv_at hl 0 rfl) ?_
              refine lv_if_eq hx hb d_Rn_checkCommand_153 rfl (fun h32 => ?_) (fun h32 => ?_)
              · have g32 : r29.toInt = 0 := congrArg Int32.toInt h32
                obtain ⟨x33, ex33⟩ : ∃ z : Int32, z = i_4 + 1 := ⟨_, rfl⟩
                refine lv_iinc (k := 4) (v := x33) hx hb d_Rn_checkCommand_163 hl rfl ex33.symm (by decide) rfl (fun ls hl => ?_)
                have hl : lv_has ls 6 [(4, .int x33), (5, .int r29), (0, .ref (ad 13)), (1, .ref (ad (53 + 7 * d))), (3, .ref (adK j1))] := hl
                try have fx33 : x33.toInt = i_4.toInt + 1 := by rw [ex33]; exact ti_add (by (try rw [show (1 : Int32).toInt = 1 from rfl]); omega) (by (try rw [show (1 : Int32).toInt = 1 from rfl]); omega)
                refine lv_goto hx hb d_Rn_checkCommand_166 rfl ?_
                exact ih123 (((8 : Int) - x33.toInt).toNat) (by omega) x33 Mc123 _ _ ls rfl (show 1 ≤ x33.toInt from by first | omega | assumption | exact Or.inl rfl | exact Or.inr rfl | rfl | decide) (show (Mc123 (53 + 7 * d) 4).toInt = (lenS.getD j1 0 : Int) + 1 from by first | omega | assumption | exact Or.inl rfl | exact Or.inr rfl | rfl | decide) hP hI hF hS (lv_sub hl [2, 3, 4, 0] rfl)
              · have g32 : ¬ (r29.toInt = 0) := fun q => h32 (Int32.toInt_inj.mp q)
                refine lv_aload_n hx hb d_Rn_checkCommand_156 rfl (lv_at hl 1 rfl) ?_
                refine lv_iload hx hb d_Rn_checkCommand_157 (lv_at hl 0 rfl) ?_
                refine ux_calli (va_runV ⟨hx, hb, hml, hown, hts⟩ (s_Rn_fail l D ad cA Mc123 hI r29) (cwV 1 hts (tb_goodV ml_Rn_64 im_Rn_fail se_Rn_fail ii_Rn kt_Rn_fail) rfl rfl rfl (by decide +kernel) ⟨Nat.le_of_ble_eq_true rfl, Nat.le_of_ble_eq_true rfl⟩) (ux_preV (by decide) rfl rfl hP hK hi hN) rfl rfl hl.1 rfl (lv_room (Nat.le_of_ble_eq_true rfl)) d_Rn_checkCommand_159 ⟨Nat.zero_le _, Nat.zero_le _⟩) hS (fun r34 M35 H locs q36 hP hS => ?_)
                obtain ⟨hI, fq36, q36p⟩ := q36
                have hF := fr_call hF fq36 (fun a b q => by unfold tV at q; unfold tCC; omega)
                exact W.iret (v := r34) hx hb hr (fun t ht hW => ⟨⟨r34, M35, rfl, ⟨hI, hF, trivial⟩, by unfold ux_E; rw [ht]; exact hP⟩, hS.F ht⟩) hS.2.2 d_Rn_checkCommand_162
        have cut66 : ∀ (nn : Nat) (i_4 : Int32) (Mc66 : ux_M) (H : Heap) (locs : List Loc) (ls : Array Slot), ((8 : Int) - i_4.toInt).toNat = nn → (1 ≤ i_4.toInt) → ((Mc66 (53 + 7 * d) 4).toInt = (lenS.getD j1 0 : Int) + 1) → va_P D classes (ux_w shX KX ad cA Mc66) H → IvX Mc66 → (∀ a b, ¬ tCC a b → Mc66 a b = M a b) → va_S (ux_A KX ad) s.heap H locs → lv_has ls 6 [(0, .ref (ad 13)), (1, .ref (ad (53 + 7 * d))), (3, .ref (adK j1)), (4, .int i_4)] → W p l e (headSpec w_Rn_checkCommand ({ frames := 5, cells := 0, slots := 0, locals := 112 })).room s m (([.ref (ad 13), .ref (ad (53 + 7 * d))] : List Value).toArray) below meth c H locs 0 0 (MQ below (va_Qi (fun r M1 => IvX M1 ∧ (∀ a b, ¬ tCC a b → M1 a b = M a b) ∧ (True)) (ux_E D shX KX ad cA) (ux_A KX ad)) (([.ref (ad 13), .ref (ad (53 + 7 * d))] : List Value).toArray) s 0 0 (ux_A KX ad)) (F0 m 66 ls []) := by
          intro nn
          induction nn using Nat.strongRecOn with
          | ind nn ih66 =>
            intro i_4 Mc66 H locs ls hn c66_0 c66_1 hP hI hF hS hl
            refine lv_iload hx hb d_Rn_checkCommand_66 (lv_at hl 3 rfl) ?_
            refine lv_aload_n hx hb d_Rn_checkCommand_68 rfl (lv_at hl 1 rfl) ?_
            refine ux_getN (C := R_Lv) (T := F_Lv) (N := 10) hx hb hT in_Lv hown hK hP (lk 53 (by decide) hd) (L53 hd) rfl 4 (by decide) (hN _ nf_Rn_83) rfl d_Rn_checkCommand_69 ?_
            have b37 := iv0 (M := Mc66) (a := 53 + 7 * d) (b := 4) hI (by unfold p0; omega)
            have b38 := iv8 (M := Mc66) (a := 53 + 7 * d) (b := 4) hI (by unfold p8; omega)
            refine lv_icmp_ge hx hb d_Rn_checkCommand_72 rfl (fun h39 => ?_) (fun h39 => ?_)
            · have g39 : (Mc66 (53 + 7 * d) 4).toInt ≤ i_4.toInt := Int32.le_iff_toInt_le.mp h39
              have u39 := ti_hi i_4
              have w39 := ti_lo (Mc66 (53 + 7 * d) 4)
              refine lv_iconst (v := 1) hx hb d_Rn_checkCommand_120 (by decide) ?_
              refine lv_istore hx hb d_Rn_checkCommand_121 hl (by decide) rfl (fun ls hl => ?_)
              have hl : lv_has ls 6 [(4, .int 1), (0, .ref (ad 13)), (1, .ref (ad (53 + 7 * d))), (3, .ref (adK j1))] := hl
              exact cut123 (((8 : Int) - 1).toNat) 1 Mc66 _ _ ls rfl (show 1 ≤ 1 from by first | omega | assumption | exact Or.inl rfl | exact Or.inr rfl | rfl | decide) (show (Mc66 (53 + 7 * d) 4).toInt = (lenS.getD j1 0 : Int) + 1 from by first | omega | assumption | exact Or.inl rfl | exact Or.inr rfl | rfl | decide) hP hI hF hS (lv_sub hl [1, 2, 3, 0] rfl)
            · have g39 : ¬ ((Mc66 (53 + 7 * d) 4).toInt ≤ i_4.toInt) := fun q => h39 (Int32.le_iff_toInt_le.mpr q)
              have u39 := ti_hi (Mc66 (53 + 7 * d) 4)
              have w39 := ti_lo i_4
              refine lv_aload_n hx hb d_Rn_checkCommand_75 rfl (lv_at hl 2 rfl) ?_
              refine lv_iload hx hb d_Rn_checkCommand_76 (lv_at hl 3 rfl) ?_
              refine lv_iconst (v := 1) hx hb d_Rn_checkCommand_78 (by decide) ?_
              refine lv_isub hx hb d_Rn_checkCommand_79 ?_
              refine lv_topi (fun x40 ex40 => ?_)
              try have fx40 : x40.toInt = i_4.toInt - 1 := by rw [ex40]; exact ti_sub (by (try rw [show (1 : Int32).toInt = 1 from rfl]); omega) (by (try rw [show (1 : Int32).toInt = 1 from rfl]); omega)
              refine ux_calli (va_runV ⟨hx, hb, hml, hown, hts⟩ (s_St_charAt l D ad cA Mc66 hI adK adV fm j1 hi1 x40  (by omega) (by omega)) (cwV 1 hts (tb_goodV ml_Rn_186 im_St_charAt se_St_charAt ii_St kt_St_charAt) rfl rfl rfl (by decide +kernel) ⟨Nat.le_of_ble_eq_true rfl, Nat.le_of_ble_eq_true rfl⟩) (ux_preVS hi1 hP hK hi hN hZ hS) rfl rfl hl.1 rfl (lv_room (Nat.le_of_ble_eq_true rfl)) d_Rn_checkCommand_80 ⟨Nat.zero_le _, Nat.zero_le _⟩) hS (fun r41 M42 H locs q43 hP hS => ?_)
              obtain ⟨hI, fq43, q43p⟩ := q43
              rw [tN_eq fq43] at hP hI
              refine lv_istore hx hb d_Rn_checkCommand_83 hl (by decide) rfl (fun ls hl => ?_)
              have hl : lv_has ls 6 [(5, .int r41), (0, .ref (ad 13)), (1, .ref (ad (53 + 7 * d))), (3, .ref (adK j1)), (4, .int i_4)] := hl
              refine lv_iload hx hb d_Rn_checkCommand_85 (lv_at hl 0 rfl) ?_
              refine lv_bipush (v := 119) hx hb d_Rn_checkCommand_87 (by decide) ?_
              refine lv_icmp_eq hx hb d_Rn_checkCommand_89 rfl (fun h44 => ?_) (fun h44 => ?_)
              · have g44 : r41.toInt = 119 := congrArg Int32.toInt h44
                refine lv_aload_n hx hb d_Rn_checkCommand_99 rfl (lv_at hl 2 rfl) ?_
                refine lv_iload hx hb d_Rn_checkCommand_100 (lv_at hl 4 rfl) ?_
                refine ux_calli (va_runV ⟨hx, hb, hml, hown, hts⟩ (s_Lv_isBraced l D ad cA Mc66 hI d hd i_4) (cwV 1 hts (tb_goodV ml_Rn_190 im_Lv_isBraced se_Lv_isBraced ii_Lv kt_Lv_isBraced) rfl rfl rfl (by decide +kernel) ⟨Nat.le_of_ble_eq_true rfl, Nat.le_of_ble_eq_true rfl⟩) (ux_preV (lk 53 (by decide) hd) (L53 hd) rfl hP hK hi hN) rfl rfl hl.1 rfl (lv_room (Nat.le_of_ble_eq_true rfl)) d_Rn_checkCommand_102 ⟨Nat.zero_le _, Nat.zero_le _⟩) hS (fun r45 M46 H locs q47 hP hS => ?_)
                obtain ⟨hI, fq47, q47p⟩ := q47
                rw [tN_eq fq47] at hP hI
                obtain ⟨q47p, q47i⟩ := q47p
                refine lv_if_ne hx hb d_Rn_checkCommand_105 rfl (fun h48 => ?_) (fun h48 => ?_)
                · have g48 : ¬ (r45.toInt = 0) := fun q => h48 (Int32.toInt_inj.mp q)
                  obtain ⟨x49, ex49⟩ : ∃ z : Int32, z = i_4 + 1 := ⟨_, rfl⟩
                  refine lv_iinc (k := 4) (v := x49) hx hb d_Rn_checkCommand_114 hl rfl ex49.symm (by decide) rfl (fun ls hl => ?_)
                  have hl : lv_has ls 6 [(4, .int x49), (5, .int r41), (0, .ref (ad 13)), (1, .ref (ad (53 + 7 * d))), (3, .ref (adK j1))] := hl
                  try have fx49 : x49.toInt = i_4.toInt + 1 := by rw [ex49]; exact ti_add (by (try rw [show (1 : Int32).toInt = 1 from rfl]); omega) (by (try rw [show (1 : Int32).toInt = 1 from rfl]); omega)
                  refine lv_goto hx hb d_Rn_checkCommand_117 rfl ?_
                  exact ih66 (((8 : Int) - x49.toInt).toNat) (by omega) x49 Mc66 _ _ ls rfl (show 1 ≤ x49.toInt from by first | omega | assumption | exact Or.inl rfl | exact Or.inr rfl | rfl | decide) (show (Mc66 (53 + 7 * d) 4).toInt = (lenS.getD j1 0 : Int) + 1 from by first | omega | assumption | exact Or.inl rfl | exact Or.inr rfl | rfl | decide) hP hI hF hS (lv_sub hl [2, 3, 4, 0] rfl)
                · have g48 : r45.toInt = 0 := congrArg Int32.toInt h48
                  refine lv_aload_n hx hb d_Rn_checkCommand_108 rfl (lv_at hl 1 rfl) ?_
                  refine lv_iconst (v := 3) hx hb d_Rn_checkCommand_109 (by decide) ?_
                  refine ux_calli (va_runV ⟨hx, hb, hml, hown, hts⟩ (s_Rn_fail l D ad cA Mc66 hI 3) (cwV 1 hts (tb_goodV ml_Rn_64 im_Rn_fail se_Rn_fail ii_Rn kt_Rn_fail) rfl rfl rfl (by decide +kernel) ⟨Nat.le_of_ble_eq_true rfl, Nat.le_of_ble_eq_true rfl⟩) (ux_preV (by decide) rfl rfl hP hK hi hN) rfl rfl hl.1 rfl (lv_room (Nat.le_of_ble_eq_true rfl)) d_Rn_checkCommand_110 ⟨Nat.zero_le _, Nat.zero_le _⟩) hS (fun r50 M51 H locs q52 hP hS => ?_)
                  obtain ⟨hI, fq52, q52p⟩ := q52
                  have hF := fr_call hF fq52 (fun a b q => by unfold tV at q; unfold tCC; omega)
                  exact W.iret (v := r50) hx hb hr (fun t ht hW => ⟨⟨r50, M51, rfl, ⟨hI, hF, trivial⟩, by unfold ux_E; rw [ht]; exact hP⟩, hS.F ht⟩) hS.2.2 d_Rn_checkCommand_113
              · have g44 : ¬ (r41.toInt = 119) := fun q => h44 (Int32.toInt_inj.mp q)
                refine lv_iload hx hb d_Rn_checkCommand_92 (lv_at hl 0 rfl) ?_
                refine lv_bipush (v := 99) hx hb d_Rn_checkCommand_94 (by decide) ?_
                refine lv_icmp_ne hx hb d_Rn_checkCommand_96 rfl (fun h53 => ?_) (fun h53 => ?_)
                · have g53 : ¬ (r41.toInt = 99) := fun q => h53 (Int32.toInt_inj.mp q)
                  obtain ⟨x54, ex54⟩ : ∃ z : Int32, z = i_4 + 1 := ⟨_, rfl⟩
                  refine lv_iinc (k := 4) (v := x54) hx hb d_Rn_checkCommand_114 hl rfl ex54.symm (by decide) rfl (fun ls hl => ?_)
                  have hl : lv_has ls 6 [(4, .int x54), (5, .int r41), (0, .ref (ad 13)), (1, .ref (ad (53 + 7 * d))), (3, .ref (adK j1))] := hl
                  try have fx54 : x54.toInt = i_4.toInt + 1 := by rw [ex54]; exact ti_add (by (try rw [show (1 : Int32).toInt = 1 from rfl]); omega) (by (try rw [show (1 : Int32).toInt = 1 from rfl]); omega)
                  refine lv_goto hx hb d_Rn_checkCommand_117 rfl ?_
                  exact ih66 (((8 : Int) - x54.toInt).toNat) (by omega) x54 Mc66 _ _ ls rfl (show 1 ≤ x54.toInt from by first | omega | assumption | exact Or.inl rfl | exact Or.inr rfl | rfl | decide) (show (Mc66 (53 + 7 * d) 4).toInt = (lenS.getD j1 0 : Int) + 1 from by first | omega | assumption | exact Or.inl rfl | exact Or.inr rfl | rfl | decide) hP hI hF hS (lv_sub hl [2, 3, 4, 0] rfl)
                · have g53 : r41.toInt = 99 := congrArg Int32.toInt h53
                  refine lv_aload_n hx hb d_Rn_checkCommand_99 rfl (lv_at hl 2 rfl) ?_
                  refine lv_iload hx hb d_Rn_checkCommand_100 (lv_at hl 4 rfl) ?_
                  refine ux_calli (va_runV ⟨hx, hb, hml, hown, hts⟩ (s_Lv_isBraced l D ad cA Mc66 hI d hd i_4) (cwV 1 hts (tb_goodV ml_Rn_190 im_Lv_isBraced se_Lv_isBraced ii_Lv kt_Lv_isBraced) rfl rfl rfl (by decide +kernel) ⟨Nat.le_of_ble_eq_true rfl, Nat.le_of_ble_eq_true rfl⟩) (ux_preV (lk 53 (by decide) hd) (L53 hd) rfl hP hK hi hN) rfl rfl hl.1 rfl (lv_room (Nat.le_of_ble_eq_true rfl)) d_Rn_checkCommand_102 ⟨Nat.zero_le _, Nat.zero_le _⟩) hS (fun r55 M56 H locs q57 hP hS => ?_)
                  obtain ⟨hI, fq57, q57p⟩ := q57
                  rw [tN_eq fq57] at hP hI
                  obtain ⟨q57p, q57i⟩ := q57p
                  refine lv_if_ne hx hb d_Rn_checkCommand_105 rfl (fun h58 => ?_) (fun h58 => ?_)
                  · have g58 : ¬ (r55.toInt = 0) := fun q => h58 (Int32.toInt_inj.mp q)
                    obtain ⟨x59, ex59⟩ : ∃ z : Int32, z = i_4 + 1 := ⟨_, rfl⟩
                    refine lv_iinc (k := 4) (v := x59) hx hb d_Rn_checkCommand_114 hl rfl ex59.symm (by decide) rfl (fun ls hl => ?_)
                    have hl : lv_has ls 6 [(4, .int x59), (5, .int r41), (0, .ref (ad 13)), (1, .ref (ad (53 + 7 * d))), (3, .ref (adK j1))] := hl
                    try have fx59 : x59.toInt = i_4.toInt + 1 := by rw [ex59]; exact ti_add (by (try rw [show (1 : Int32).toInt = 1 from rfl]); omega) (by (try rw [show (1 : Int32).toInt = 1 from rfl]); omega)
                    refine lv_goto hx hb d_Rn_checkCommand_117 rfl ?_
                    exact ih66 (((8 : Int) - x59.toInt).toNat) (by omega) x59 Mc66 _ _ ls rfl (show 1 ≤ x59.toInt from by first | omega | assumption | exact Or.inl rfl | exact Or.inr rfl | rfl | decide) (show (Mc66 (53 + 7 * d) 4).toInt = (lenS.getD j1 0 : Int) + 1 from by first | omega | assumption | exact Or.inl rfl | exact Or.inr rfl | rfl | decide) hP hI hF hS (lv_sub hl [2, 3, 4, 0] rfl)
                  · have g58 : r55.toInt = 0 := congrArg Int32.toInt h58
                    refine lv_aload_n hx hb d_Rn_checkCommand_108 rfl (lv_at hl 1 rfl) ?_
                    refine lv_iconst (v := 3) hx hb d_Rn_checkCommand_109 (by decide) ?_
                    refine ux_calli (va_runV ⟨hx, hb, hml, hown, hts⟩ (s_Rn_fail l D ad cA Mc66 hI 3) (cwV 1 hts (tb_goodV ml_Rn_64 im_Rn_fail se_Rn_fail ii_Rn kt_Rn_fail) rfl rfl rfl (by decide +kernel) ⟨Nat.le_of_ble_eq_true rfl, Nat.le_of_ble_eq_true rfl⟩) (ux_preV (by decide) rfl rfl hP hK hi hN) rfl rfl hl.1 rfl (lv_room (Nat.le_of_ble_eq_true rfl)) d_Rn_checkCommand_110 ⟨Nat.zero_le _, Nat.zero_le _⟩) hS (fun r60 M61 H locs q62 hP hS => ?_)
                    obtain ⟨hI, fq62, q62p⟩ := q62
                    have hF := fr_call hF fq62 (fun a b q => by unfold tV at q; unfold tCC; omega)
                    exact W.iret (v := r60) hx hb hr (fun t ht hW => ⟨⟨r60, M61, rfl, ⟨hI, hF, trivial⟩, by unfold ux_E; rw [ht]; exact hP⟩, hS.F ht⟩) hS.2.2 d_Rn_checkCommand_113
        refine lv_iconst (v := 1) hx hb d_Rn_checkCommand_63 (by decide) ?_
        refine lv_istore hx hb d_Rn_checkCommand_64 hl (by decide) rfl (fun ls hl => ?_)
        have hl : lv_has ls 6 [(4, .int 1), (3, .ref (adK j1)), (2, .int (vn M2 (55 + 7 * d) (56 + 7 * d) 8 0)), (0, .ref (ad 13)), (1, .ref (ad (53 + 7 * d)))] := hl
        exact cut66 (((8 : Int) - 1).toNat) 1 M2 _ _ ls rfl (show 1 ≤ 1 from by first | omega | assumption | exact Or.inl rfl | exact Or.inr rfl | rfl | decide) (show (M2 (53 + 7 * d) 4).toInt = (lenS.getD j1 0 : Int) + 1 from by first | omega | assumption | exact Or.inl rfl | exact Or.inr rfl | rfl | decide) hP hI hF hS (lv_sub hl [3, 4, 1, 0] rfl)
      · have g21 : ¬ ((M2 (53 + 7 * d) 4).toInt = x20.toInt) := fun q => h21 (Int32.toInt_inj.mp q)
        refine lv_aload_n hx hb d_Rn_checkCommand_57 rfl (lv_at hl 2 rfl) ?_
        refine lv_iconst (v := 3) hx hb d_Rn_checkCommand_58 (by decide) ?_
        refine ux_calli (va_runV ⟨hx, hb, hml, hown, hts⟩ (s_Rn_fail l D ad cA M2 hI 3) (cwV 1 hts (tb_goodV ml_Rn_64 im_Rn_fail se_Rn_fail ii_Rn kt_Rn_fail) rfl rfl rfl (by decide +kernel) ⟨Nat.le_of_ble_eq_true rfl, Nat.le_of_ble_eq_true rfl⟩) (ux_preV (by decide) rfl rfl hP hK hi hN) rfl rfl hl.1 rfl (lv_room (Nat.le_of_ble_eq_true rfl)) d_Rn_checkCommand_59 ⟨Nat.zero_le _, Nat.zero_le _⟩) hS (fun r63 M64 H locs q65 hP hS => ?_)
        obtain ⟨hI, fq65, q65p⟩ := q65
        have hF := fr_call hF fq65 (fun a b q => by unfold tV at q; unfold tCC; omega)
        exact W.iret (v := r63) hx hb hr (fun t ht hW => ⟨⟨r63, M64, rfl, ⟨hI, hF, trivial⟩, by unfold ux_E; rw [ht]; exact hP⟩, hS.F ht⟩) hS.2.2 d_Rn_checkCommand_62
    · have g11 : r8.toInt = 0 := congrArg Int32.toInt h11
      refine lv_aload_n hx hb d_Rn_checkCommand_29 rfl (lv_at hl 1 rfl) ?_
      refine lv_iconst (v := 2) hx hb d_Rn_checkCommand_30 (by decide) ?_
      refine ux_calli (va_runV ⟨hx, hb, hml, hown, hts⟩ (s_Rn_fail l D ad cA M2 hI 2) (cwV 1 hts (tb_goodV ml_Rn_64 im_Rn_fail se_Rn_fail ii_Rn kt_Rn_fail) rfl rfl rfl (by decide +kernel) ⟨Nat.le_of_ble_eq_true rfl, Nat.le_of_ble_eq_true rfl⟩) (ux_preV (by decide) rfl rfl hP hK hi hN) rfl rfl hl.1 rfl (lv_room (Nat.le_of_ble_eq_true rfl)) d_Rn_checkCommand_31 ⟨Nat.zero_le _, Nat.zero_le _⟩) hS (fun r66 M67 H locs q68 hP hS => ?_)
      obtain ⟨hI, fq68, q68p⟩ := q68
      have hF := fr_call hF fq68 (fun a b q => by unfold tV at q; unfold tCC; omega)
      exact W.iret (v := r66) hx hb hr (fun t ht hW => ⟨⟨r66, M67, rfl, ⟨hI, hF, trivial⟩, by unfold ux_E; rw [ht]; exact hP⟩, hS.F ht⟩) hS.2.2 d_Rn_checkCommand_34
  · have g4 : r1.toInt = 0 := congrArg Int32.toInt h4
    refine lv_aload_n hx hb d_Rn_checkCommand_7 rfl (lv_at hl 0 rfl) ?_
    refine ux_calli (va_runV ⟨hx, hb, hml, hown, hts⟩ (s_Rn_endOut l D ad cA M2 hI ) (cwV 0 hts (tb_goodV ml_Rn_167 im_Rn_endOut se_Rn_endOut ii_Rn kt_Rn_endOut) rfl rfl rfl (by decide +kernel) ⟨Nat.le_of_ble_eq_true rfl, Nat.le_of_ble_eq_true rfl⟩) (ux_preV (by decide) rfl rfl hP hK hi hN) rfl rfl hl.1 rfl (lv_room (Nat.le_of_ble_eq_true rfl)) d_Rn_checkCommand_8 ⟨Nat.zero_le _, Nat.zero_le _⟩) hS (fun r69 M70 H locs q71 hP hS => ?_)
    obtain ⟨hI, fq71, q71p⟩ := q71
    have hF := fr_call hF fq71 (fun a b q => by unfold tV at q; unfold tCC; omega)
    exact W.iret (v := r69) hx hb hr (fun t ht hW => ⟨⟨r69, M70, rfl, ⟨hI, hF, trivial⟩, by unfold ux_E; rw [ht]; exact hP⟩, hS.F ht⟩) hS.2.2 d_Rn_checkCommand_11

set_option maxHeartbeats 8000000 in
set_option maxRecDepth 100000 in
theorem s_Rn_setOrShow (l : Launch) (D : va_G) (ad : Nat → Nat) (cA : Nat → ClassId) (M : ux_M) (hI : IvX M) (d : Nat) (hd : d < 8) : Met l y_Rn_setOrShow w_Rn_setOrShow ({ frames := 2, cells := 0, slots := 0, locals := 44 }) (va_Pc [.ref (ad 13), .ref (ad (53 + 7 * d))] (ux_B D shX KX ad cA M)) (va_Qi (fun r M1 => IvX M1 ∧ (∀ a b, ¬ tSS a b → M1 a b = M a b) ∧ (True)) (ux_E D shX KX ad cA) (ux_A KX ad)) 0 0 (ux_A KX ad) := by
  refine Met.ofW (cc := b_Rn_setOrShow) (maxL := 4) (ret := (some .int)) (by decide) rfl ?_
  intro p e s m args below meth c s₁ B hml hv
  obtain ⟨rfl, hP, hK, hi, hN⟩ := hv
  have hx := B.exec
  have hb := B.bytes
  have hr := B.returns
  have hts := atoms_spec (ws := w_Rn_setOrShow) B.pre
  have hown : s.vm.findClass R_Rn = some m.cls := findClass_of_methodNamed B.named
  have hlocks := B.notSynchronized
  have hT : ∀ w ∈ tb, w.before _ s = true := fun w h => hts w (List.mem_cons_of_mem _ h)
  have hS : va_S (ux_A KX ad) s.heap s.heap [] := va_S.rf
  have hl := lv_entry ([.ref (ad 13), .ref (ad (53 + 7 * d))]) (n := 4) (Nat.le_of_ble_eq_true rfl)
  rw [lg_entry_eq]
  generalize (lg_sl ([.ref (ad 13), .ref (ad (53 + 7 * d))]) ++ List.replicate (4 - (lg_sl ([.ref (ad 13), .ref (ad (53 + 7 * d))])).length) Slot.unset).toArray = ls at hl ⊢
  have hl : lv_has ls 4 [(0, .ref (ad 13)), (1, .ref (ad (53 + 7 * d)))] := hl
  have hF : ∀ a b, ¬ tSS a b → M a b = M a b := fun _ _ _ => rfl
  refine lv_aload_n hx hb d_Rn_setOrShow_0 rfl (lv_at hl 1 rfl) ?_
  refine ux_getN (C := R_Lv) (T := F_Lv) (N := 10) hx hb hT in_Lv hown hK hP (lk 53 (by decide) hd) (L53 hd) rfl 0 (by decide) (hN _ nf_Rn_145) rfl d_Rn_setOrShow_1 ?_
  refine lv_iconst (v := 1) hx hb d_Rn_setOrShow_4 (by decide) ?_
  refine ux_calli (va_runV ⟨hx, hb, hml, hown, hts⟩ (c_Vl_nameOf l D shX KX ad cA M (54 + 7 * d) (55 + 7 * d) (56 + 7 * d) 8 (V_lv hd) 1) (cwV 1 hts (tb_goodV ml_Rn_171 im_Vl_nameOf se_Vl_nameOf ii_Vl kt_Vl_nameOf) rfl rfl rfl (by decide +kernel) ⟨Nat.le_of_ble_eq_true rfl, Nat.le_of_ble_eq_true rfl⟩) (ux_preV (lk 54 (by decide) hd) (L54 hd) rfl hP hK hi hN) rfl rfl hl.1 rfl (lv_room (Nat.le_of_ble_eq_true rfl)) d_Rn_setOrShow_5 ⟨Nat.zero_le _, Nat.zero_le _⟩) hS (fun r1 M2 H locs q3 hP hS => ?_)
  obtain ⟨q3m, q3e⟩ := q3
  rw [q3m] at hP
  subst q3e
  refine lv_bipush (v := 97) hx hb d_Rn_setOrShow_8 (by decide) ?_
  refine lv_isub hx hb d_Rn_setOrShow_10 ?_
  refine lv_topi (fun x4 ex4 => ?_)
  try have fx4 : x4.toInt = (vn M (55 + 7 * d) (56 + 7 * d) 8 1).toInt - 97 := by rw [ex4]; exact ti_sub (by (try rw [show (97 : Int32).toInt = 97 from rfl]); omega) (by (try rw [show (97 : Int32).toInt = 97 from rfl]); omega)
  refine lv_istore_n hx hb d_Rn_setOrShow_11 rfl hl (by decide) rfl (fun ls hl => ?_)
  have hl : lv_has ls 4 [(2, .int x4), (0, .ref (ad 13)), (1, .ref (ad (53 + 7 * d)))] := hl
  refine lv_aload_n hx hb d_Rn_setOrShow_12 rfl (lv_at hl 1 rfl) ?_
  refine ux_get (C := R_Rn) (T := F_Rn) (N := 9) hx hb hT in_Rn hown hK hP (by decide) rfl rfl 2 (by decide) (hT _ fl_Rn_12) rfl d_Rn_setOrShow_13 ?_
  refine lv_aload_n hx hb d_Rn_setOrShow_16 rfl (lv_at hl 2 rfl) ?_
  refine ux_getN (C := R_Lv) (T := F_Lv) (N := 10) hx hb hT in_Lv hown hK hP (lk 53 (by decide) hd) (L53 hd) rfl 7 (by decide) (hN _ nf_Rn_138) rfl d_Rn_setOrShow_17 ?_
  refine lv_iload_n hx hb d_Rn_setOrShow_20 rfl (lv_at hl 0 rfl) ?_
  refine ux_callr (va_runV ⟨hx, hb, hml, hown, hts⟩ (c_Vs_meant l D ad cA M (M (53 + 7 * d) 7) x4) (cwV 2 hts (tb_goodV ml_Rn_156 im_Vs_meant se_Vs_meant ii_Vs kt_Vs_meant) rfl rfl rfl (by decide +kernel) ⟨Nat.le_of_ble_eq_true rfl, Nat.le_of_ble_eq_true rfl⟩) (ux_preV (by decide) rfl rfl hP hK hi hN) rfl rfl hl.1 rfl (lv_room (Nat.le_of_ble_eq_true rfl)) d_Rn_setOrShow_21 ⟨Nat.zero_le _, Nat.zero_le _⟩) hS (fun M6 H locs q7 hP hS => ?_)
  rw [q7] at hP
  obtain ⟨v8, hv8, ev8⟩ := vme_in M (M (53 + 7 * d) 7) x4
  rw [ev8]
  refine lv_astore_n hx hb d_Rn_setOrShow_24 rfl hl (by decide) rfl (fun ls hl => ?_)
  have hl : lv_has ls 4 [(3, .ref (ad (18 + 3 * v8))), (2, .int x4), (0, .ref (ad 13)), (1, .ref (ad (53 + 7 * d)))] := hl
  refine lv_aload_n hx hb d_Rn_setOrShow_25 rfl (lv_at hl 3 rfl) ?_
  refine ux_getN (C := R_Lv) (T := F_Lv) (N := 10) hx hb hT in_Lv hown hK hP (lk 53 (by decide) hd) (L53 hd) rfl 4 (by decide) (hN _ nf_Rn_83) rfl d_Rn_setOrShow_26 ?_
  have b9 := iv0 (M := M) (a := 53 + 7 * d) (b := 4) hI (by unfold p0; omega)
  have b10 := iv8 (M := M) (a := 53 + 7 * d) (b := 4) hI (by unfold p8; omega)
  refine lv_iconst (v := 2) hx hb d_Rn_setOrShow_29 (by decide) ?_
  refine lv_icmp_le hx hb d_Rn_setOrShow_30 rfl (fun h11 => ?_) (fun h11 => ?_)
  · have g11 : (M (53 + 7 * d) 4).toInt ≤ 2 := Int32.le_iff_toInt_le.mp h11
    have w11 := ti_lo (M (53 + 7 * d) 4)
    refine lv_aload_n hx hb d_Rn_setOrShow_43 rfl (lv_at hl 0 rfl) ?_
    refine lv_iload_n hx hb d_Rn_setOrShow_44 rfl (lv_at hl 1 rfl) ?_
    refine ux_calli (va_runV ⟨hx, hb, hml, hown, hts⟩ (c_Vl_sizeOf l D shX KX ad cA M (18 + 3 * v8) (19 + 3 * v8) (20 + 3 * v8) 26 (VF_fr hv8) x4) (cwV 1 hts (tb_goodV ml_Rn_160 im_Vl_sizeOf se_Vl_sizeOf ii_Vl kt_Vl_sizeOf) rfl rfl rfl (by decide +kernel) ⟨Nat.le_of_ble_eq_true rfl, Nat.le_of_ble_eq_true rfl⟩) (ux_preV (fk 18 (by decide) hv8) (F18 hv8) rfl hP hK hi hN) rfl rfl hl.1 rfl (lv_room (Nat.le_of_ble_eq_true rfl)) d_Rn_setOrShow_45 ⟨Nat.zero_le _, Nat.zero_le _⟩) hS (fun r12 M13 H locs q14 hP hS => ?_)
    obtain ⟨q14m, q14e⟩ := q14
    rw [q14m] at hP
    subst q14e
    refine lv_iconst (v := (-1)) hx hb d_Rn_setOrShow_48 (by decide) ?_
    refine lv_icmp_ne hx hb d_Rn_setOrShow_49 rfl (fun h15 => ?_) (fun h15 => ?_)
    · have g15 : ¬ ((vz M (20 + 3 * v8) 26 x4).toInt = (-1)) := fun q => h15 (Int32.toInt_inj.mp q)
      refine lv_aload_n hx hb d_Rn_setOrShow_58 rfl (lv_at hl 2 rfl) ?_
      refine ux_get (C := R_Rn) (T := F_Rn) (N := 9) hx hb hT in_Rn hown hK hP (by decide) rfl rfl 6 (by decide) (hT _ fl_Rn_36) rfl d_Rn_setOrShow_59 ?_
      refine lv_iconst (v := 0) hx hb d_Rn_setOrShow_62 (by decide) ?_
      refine lv_aload_n hx hb d_Rn_setOrShow_63 rfl (lv_at hl 0 rfl) ?_
      refine lv_iload_n hx hb d_Rn_setOrShow_64 rfl (lv_at hl 1 rfl) ?_
      refine ux_callv (va_runV ⟨hx, hb, hml, hown, hts⟩ (s_Vl_copy l D ad cA M hI 47 48 49 1 vV_res (18 + 3 * v8) (19 + 3 * v8) (20 + 3 * v8) 26 (vV_fr hv8) 0 x4) (cwV 3 hts (tb_goodV ml_Rn_277 im_Vl_copy se_Vl_copy ii_Vl kt_Vl_copy) rfl rfl rfl (by decide +kernel) ⟨Nat.le_of_ble_eq_true rfl, Nat.le_of_ble_eq_true rfl⟩) (ux_preV (by decide) rfl rfl hP hK hi hN) rfl rfl hl.1 rfl (lv_room (Nat.le_of_ble_eq_true rfl)) d_Rn_setOrShow_65 ⟨Nat.zero_le _, Nat.zero_le _⟩) hS (fun M17 H locs q18 hP hS => ?_)
      obtain ⟨hI, fq18, q18p⟩ := q18
      have hF := fr_call hF fq18 (fun a b q => by unfold tV at q; unfold tSS; omega)
      refine lv_iconst (v := 0) hx hb d_Rn_setOrShow_68 (by decide) ?_
      exact W.iret (v := 0) hx hb hr (fun t ht hW => ⟨⟨0, M17, rfl, ⟨hI, hF, trivial⟩, by unfold ux_E; rw [ht]; exact hP⟩, hS.F ht⟩) hS.2.2 d_Rn_setOrShow_69
    · have g15 : (vz M (20 + 3 * v8) 26 x4).toInt = (-1) := congrArg Int32.toInt h15
      refine lv_aload_n hx hb d_Rn_setOrShow_52 rfl (lv_at hl 2 rfl) ?_
      refine lv_iconst (v := 4) hx hb d_Rn_setOrShow_53 (by decide) ?_
      refine ux_calli (va_runV ⟨hx, hb, hml, hown, hts⟩ (s_Rn_fail l D ad cA M hI 4) (cwV 1 hts (tb_goodV ml_Rn_64 im_Rn_fail se_Rn_fail ii_Rn kt_Rn_fail) rfl rfl rfl (by decide +kernel) ⟨Nat.le_of_ble_eq_true rfl, Nat.le_of_ble_eq_true rfl⟩) (ux_preV (by decide) rfl rfl hP hK hi hN) rfl rfl hl.1 rfl (lv_room (Nat.le_of_ble_eq_true rfl)) d_Rn_setOrShow_54 ⟨Nat.zero_le _, Nat.zero_le _⟩) hS (fun r19 M20 H locs q21 hP hS => ?_)
      obtain ⟨hI, fq21, q21p⟩ := q21
      have hF := fr_call hF fq21 (fun a b q => by unfold tV at q; unfold tSS; omega)
      exact W.iret (v := r19) hx hb hr (fun t ht hW => ⟨⟨r19, M20, rfl, ⟨hI, hF, trivial⟩, by unfold ux_E; rw [ht]; exact hP⟩, hS.F ht⟩) hS.2.2 d_Rn_setOrShow_57
  · have g11 : ¬ ((M (53 + 7 * d) 4).toInt ≤ 2) := fun q => h11 (Int32.le_iff_toInt_le.mpr q)
    have u11 := ti_hi (M (53 + 7 * d) 4)
    refine lv_aload_n hx hb d_Rn_setOrShow_33 rfl (lv_at hl 0 rfl) ?_
    refine lv_iload_n hx hb d_Rn_setOrShow_34 rfl (lv_at hl 1 rfl) ?_
    refine lv_aload_n hx hb d_Rn_setOrShow_35 rfl (lv_at hl 3 rfl) ?_
    refine ux_getN (C := R_Lv) (T := F_Lv) (N := 10) hx hb hT in_Lv hown hK hP (lk 53 (by decide) hd) (L53 hd) rfl 0 (by decide) (hN _ nf_Rn_145) rfl d_Rn_setOrShow_36 ?_
    refine lv_iconst (v := 2) hx hb d_Rn_setOrShow_39 (by decide) ?_
    refine ux_callv (va_runV ⟨hx, hb, hml, hown, hts⟩ (s_Vl_copy l D ad cA M hI (18 + 3 * v8) (19 + 3 * v8) (20 + 3 * v8) 26 (vV_fr hv8) (54 + 7 * d) (55 + 7 * d) (56 + 7 * d) 8 (vV_lv hd) x4 2) (cwV 3 hts (tb_goodV ml_Rn_277 im_Vl_copy se_Vl_copy ii_Vl kt_Vl_copy) rfl rfl rfl (by decide +kernel) ⟨Nat.le_of_ble_eq_true rfl, Nat.le_of_ble_eq_true rfl⟩) (ux_preV (fk 18 (by decide) hv8) (F18 hv8) rfl hP hK hi hN) rfl rfl hl.1 rfl (lv_room (Nat.le_of_ble_eq_true rfl)) d_Rn_setOrShow_40 ⟨Nat.zero_le _, Nat.zero_le _⟩) hS (fun M23 H locs q24 hP hS => ?_)
    obtain ⟨hI, fq24, q24p⟩ := q24
    have hF := fr_call hF fq24 (fun a b q => by unfold tV at q; unfold tSS; omega)
    refine lv_aload_n hx hb d_Rn_setOrShow_43 rfl (lv_at hl 0 rfl) ?_
    refine lv_iload_n hx hb d_Rn_setOrShow_44 rfl (lv_at hl 1 rfl) ?_
    refine ux_calli (va_runV ⟨hx, hb, hml, hown, hts⟩ (c_Vl_sizeOf l D shX KX ad cA M23 (18 + 3 * v8) (19 + 3 * v8) (20 + 3 * v8) 26 (VF_fr hv8) x4) (cwV 1 hts (tb_goodV ml_Rn_160 im_Vl_sizeOf se_Vl_sizeOf ii_Vl kt_Vl_sizeOf) rfl rfl rfl (by decide +kernel) ⟨Nat.le_of_ble_eq_true rfl, Nat.le_of_ble_eq_true rfl⟩) (ux_preV (fk 18 (by decide) hv8) (F18 hv8) rfl hP hK hi hN) rfl rfl hl.1 rfl (lv_room (Nat.le_of_ble_eq_true rfl)) d_Rn_setOrShow_45 ⟨Nat.zero_le _, Nat.zero_le _⟩) hS (fun r25 M26 H locs q27 hP hS => ?_)
    obtain ⟨q27m, q27e⟩ := q27
    rw [q27m] at hP
    subst q27e
    refine lv_iconst (v := (-1)) hx hb d_Rn_setOrShow_48 (by decide) ?_
    refine lv_icmp_ne hx hb d_Rn_setOrShow_49 rfl (fun h28 => ?_) (fun h28 => ?_)
    · have g28 : ¬ ((vz M23 (20 + 3 * v8) 26 x4).toInt = (-1)) := fun q => h28 (Int32.toInt_inj.mp q)
      refine lv_aload_n hx hb d_Rn_setOrShow_58 rfl (lv_at hl 2 rfl) ?_
      refine ux_get (C := R_Rn) (T := F_Rn) (N := 9) hx hb hT in_Rn hown hK hP (by decide) rfl rfl 6 (by decide) (hT _ fl_Rn_36) rfl d_Rn_setOrShow_59 ?_
      refine lv_iconst (v := 0) hx hb d_Rn_setOrShow_62 (by decide) ?_
      refine lv_aload_n hx hb d_Rn_setOrShow_63 rfl (lv_at hl 0 rfl) ?_
      refine lv_iload_n hx hb d_Rn_setOrShow_64 rfl (lv_at hl 1 rfl) ?_
      refine ux_callv (va_runV ⟨hx, hb, hml, hown, hts⟩ (s_Vl_copy l D ad cA M23 hI 47 48 49 1 vV_res (18 + 3 * v8) (19 + 3 * v8) (20 + 3 * v8) 26 (vV_fr hv8) 0 x4) (cwV 3 hts (tb_goodV ml_Rn_277 im_Vl_copy se_Vl_copy ii_Vl kt_Vl_copy) rfl rfl rfl (by decide +kernel) ⟨Nat.le_of_ble_eq_true rfl, Nat.le_of_ble_eq_true rfl⟩) (ux_preV (by decide) rfl rfl hP hK hi hN) rfl rfl hl.1 rfl (lv_room (Nat.le_of_ble_eq_true rfl)) d_Rn_setOrShow_65 ⟨Nat.zero_le _, Nat.zero_le _⟩) hS (fun M30 H locs q31 hP hS => ?_)
      obtain ⟨hI, fq31, q31p⟩ := q31
      have hF := fr_call hF fq31 (fun a b q => by unfold tV at q; unfold tSS; omega)
      refine lv_iconst (v := 0) hx hb d_Rn_setOrShow_68 (by decide) ?_
      exact W.iret (v := 0) hx hb hr (fun t ht hW => ⟨⟨0, M30, rfl, ⟨hI, hF, trivial⟩, by unfold ux_E; rw [ht]; exact hP⟩, hS.F ht⟩) hS.2.2 d_Rn_setOrShow_69
    · have g28 : (vz M23 (20 + 3 * v8) 26 x4).toInt = (-1) := congrArg Int32.toInt h28
      refine lv_aload_n hx hb d_Rn_setOrShow_52 rfl (lv_at hl 2 rfl) ?_
      refine lv_iconst (v := 4) hx hb d_Rn_setOrShow_53 (by decide) ?_
      refine ux_calli (va_runV ⟨hx, hb, hml, hown, hts⟩ (s_Rn_fail l D ad cA M23 hI 4) (cwV 1 hts (tb_goodV ml_Rn_64 im_Rn_fail se_Rn_fail ii_Rn kt_Rn_fail) rfl rfl rfl (by decide +kernel) ⟨Nat.le_of_ble_eq_true rfl, Nat.le_of_ble_eq_true rfl⟩) (ux_preV (by decide) rfl rfl hP hK hi hN) rfl rfl hl.1 rfl (lv_room (Nat.le_of_ble_eq_true rfl)) d_Rn_setOrShow_54 ⟨Nat.zero_le _, Nat.zero_le _⟩) hS (fun r32 M33 H locs q34 hP hS => ?_)
      obtain ⟨hI, fq34, q34p⟩ := q34
      have hF := fr_call hF fq34 (fun a b q => by unfold tV at q; unfold tSS; omega)
      exact W.iret (v := r32) hx hb hr (fun t ht hW => ⟨⟨r32, M33, rfl, ⟨hI, hF, trivial⟩, by unfold ux_E; rw [ht]; exact hP⟩, hS.F ht⟩) hS.2.2 d_Rn_setOrShow_57

set_option maxHeartbeats 8000000 in
set_option maxRecDepth 100000 in
theorem s_Rn_grow (l : Launch) (D : va_G) (ad : Nat → Nat) (cA : Nat → ClassId) (M : ux_M) (hI : IvX M) (d : Nat) (hd : d < 8) : Met l y_Rn_grow w_Rn_grow ({ frames := 2, cells := 0, slots := 0, locals := 49 }) (va_Pc [.ref (ad 13), .ref (ad (53 + 7 * d))] (ux_B D shX KX ad cA M)) (va_Qi (fun r M1 => IvX M1 ∧ (∀ a b, ¬ tSS a b → M1 a b = M a b) ∧ (True)) (ux_E D shX KX ad cA) (ux_A KX ad)) 0 0 (ux_A KX ad) := by
  refine Met.ofW (cc := b_Rn_grow) (maxL := 5) (ret := (some .int)) (by decide) rfl ?_
  intro p e s m args below meth c s₁ B hml hv
  obtain ⟨rfl, hP, hK, hi, hN⟩ := hv
  have hx := B.exec
  have hb := B.bytes
  have hr := B.returns
  have hts := atoms_spec (ws := w_Rn_grow) B.pre
  have hown : s.vm.findClass R_Rn = some m.cls := findClass_of_methodNamed B.named
  have hlocks := B.notSynchronized
  have hT : ∀ w ∈ tb, w.before _ s = true := fun w h => hts w (List.mem_cons_of_mem _ h)
  have hS : va_S (ux_A KX ad) s.heap s.heap [] := va_S.rf
  have hl := lv_entry ([.ref (ad 13), .ref (ad (53 + 7 * d))]) (n := 5) (Nat.le_of_ble_eq_true rfl)
  rw [lg_entry_eq]
  generalize (lg_sl ([.ref (ad 13), .ref (ad (53 + 7 * d))]) ++ List.replicate (5 - (lg_sl ([.ref (ad 13), .ref (ad (53 + 7 * d))])).length) Slot.unset).toArray = ls at hl ⊢
  have hl : lv_has ls 5 [(0, .ref (ad 13)), (1, .ref (ad (53 + 7 * d)))] := hl
  have hF : ∀ a b, ¬ tSS a b → M a b = M a b := fun _ _ _ => rfl
  refine lv_aload_n hx hb d_Rn_grow_0 rfl (lv_at hl 1 rfl) ?_
  refine ux_getN (C := R_Lv) (T := F_Lv) (N := 10) hx hb hT in_Lv hown hK hP (lk 53 (by decide) hd) (L53 hd) rfl 0 (by decide) (hN _ nf_Rn_145) rfl d_Rn_grow_1 ?_
  refine lv_iconst (v := 1) hx hb d_Rn_grow_4 (by decide) ?_
  refine ux_calli (va_runV ⟨hx, hb, hml, hown, hts⟩ (c_Vl_nameOf l D shX KX ad cA M (54 + 7 * d) (55 + 7 * d) (56 + 7 * d) 8 (V_lv hd) 1) (cwV 1 hts (tb_goodV ml_Rn_171 im_Vl_nameOf se_Vl_nameOf ii_Vl kt_Vl_nameOf) rfl rfl rfl (by decide +kernel) ⟨Nat.le_of_ble_eq_true rfl, Nat.le_of_ble_eq_true rfl⟩) (ux_preV (lk 54 (by decide) hd) (L54 hd) rfl hP hK hi hN) rfl rfl hl.1 rfl (lv_room (Nat.le_of_ble_eq_true rfl)) d_Rn_grow_5 ⟨Nat.zero_le _, Nat.zero_le _⟩) hS (fun r1 M2 H locs q3 hP hS => ?_)
  obtain ⟨q3m, q3e⟩ := q3
  rw [q3m] at hP
  subst q3e
  refine lv_bipush (v := 97) hx hb d_Rn_grow_8 (by decide) ?_
  refine lv_isub hx hb d_Rn_grow_10 ?_
  refine lv_topi (fun x4 ex4 => ?_)
  try have fx4 : x4.toInt = (vn M (55 + 7 * d) (56 + 7 * d) 8 1).toInt - 97 := by rw [ex4]; exact ti_sub (by (try rw [show (97 : Int32).toInt = 97 from rfl]); omega) (by (try rw [show (97 : Int32).toInt = 97 from rfl]); omega)
  refine lv_istore_n hx hb d_Rn_grow_11 rfl hl (by decide) rfl (fun ls hl => ?_)
  have hl : lv_has ls 5 [(2, .int x4), (0, .ref (ad 13)), (1, .ref (ad (53 + 7 * d)))] := hl
  refine lv_aload_n hx hb d_Rn_grow_12 rfl (lv_at hl 2 rfl) ?_
  refine ux_getN (C := R_Lv) (T := F_Lv) (N := 10) hx hb hT in_Lv hown hK hP (lk 53 (by decide) hd) (L53 hd) rfl 4 (by decide) (hN _ nf_Rn_83) rfl d_Rn_grow_13 ?_
  have b5 := iv0 (M := M) (a := 53 + 7 * d) (b := 4) hI (by unfold p0; omega)
  have b6 := iv8 (M := M) (a := 53 + 7 * d) (b := 4) hI (by unfold p8; omega)
  refine lv_iconst (v := 2) hx hb d_Rn_grow_16 (by decide) ?_
  refine lv_icmp_le hx hb d_Rn_grow_17 rfl (fun h7 => ?_) (fun h7 => ?_)
  · have g7 : (M (53 + 7 * d) 4).toInt ≤ 2 := Int32.le_iff_toInt_le.mp h7
    have w7 := ti_lo (M (53 + 7 * d) 4)
    refine lv_iconst (v := 1) hx hb d_Rn_grow_31 (by decide) ?_
    refine lv_istore_n hx hb d_Rn_grow_32 rfl hl (by decide) rfl (fun ls hl => ?_)
    have hl : lv_has ls 5 [(3, .int 1), (2, .int x4), (0, .ref (ad 13)), (1, .ref (ad (53 + 7 * d)))] := hl
    refine lv_aload_n hx hb d_Rn_grow_33 rfl (lv_at hl 2 rfl) ?_
    refine ux_get (C := R_Rn) (T := F_Rn) (N := 9) hx hb hT in_Rn hown hK hP (by decide) rfl rfl 2 (by decide) (hT _ fl_Rn_12) rfl d_Rn_grow_34 ?_
    refine lv_aload_n hx hb d_Rn_grow_37 rfl (lv_at hl 3 rfl) ?_
    refine ux_getN (C := R_Lv) (T := F_Lv) (N := 10) hx hb hT in_Lv hown hK hP (lk 53 (by decide) hd) (L53 hd) rfl 7 (by decide) (hN _ nf_Rn_138) rfl d_Rn_grow_38 ?_
    refine lv_iload_n hx hb d_Rn_grow_41 rfl (lv_at hl 1 rfl) ?_
    refine ux_callr (va_runV ⟨hx, hb, hml, hown, hts⟩ (c_Vs_meant l D ad cA M (M (53 + 7 * d) 7) x4) (cwV 2 hts (tb_goodV ml_Rn_156 im_Vs_meant se_Vs_meant ii_Vs kt_Vs_meant) rfl rfl rfl (by decide +kernel) ⟨Nat.le_of_ble_eq_true rfl, Nat.le_of_ble_eq_true rfl⟩) (ux_preV (by decide) rfl rfl hP hK hi hN) rfl rfl hl.1 rfl (lv_room (Nat.le_of_ble_eq_true rfl)) d_Rn_grow_42 ⟨Nat.zero_le _, Nat.zero_le _⟩) hS (fun M9 H locs q10 hP hS => ?_)
    rw [q10] at hP
    obtain ⟨v11, hv11, ev11⟩ := vme_in M (M (53 + 7 * d) 7) x4
    rw [ev11]
    refine lv_astore hx hb d_Rn_grow_45 hl (by decide) rfl (fun ls hl => ?_)
    have hl : lv_has ls 5 [(4, .ref (ad (18 + 3 * v11))), (3, .int 1), (2, .int x4), (0, .ref (ad 13)), (1, .ref (ad (53 + 7 * d)))] := hl
    refine lv_aload hx hb d_Rn_grow_47 (lv_at hl 0 rfl) ?_
    refine lv_iload_n hx hb d_Rn_grow_49 rfl (lv_at hl 2 rfl) ?_
    refine ux_calli (va_runV ⟨hx, hb, hml, hown, hts⟩ (c_Vl_sizeOf l D shX KX ad cA M (18 + 3 * v11) (19 + 3 * v11) (20 + 3 * v11) 26 (VF_fr hv11) x4) (cwV 1 hts (tb_goodV ml_Rn_160 im_Vl_sizeOf se_Vl_sizeOf ii_Vl kt_Vl_sizeOf) rfl rfl rfl (by decide +kernel) ⟨Nat.le_of_ble_eq_true rfl, Nat.le_of_ble_eq_true rfl⟩) (ux_preV (fk 18 (by decide) hv11) (F18 hv11) rfl hP hK hi hN) rfl rfl hl.1 rfl (lv_room (Nat.le_of_ble_eq_true rfl)) d_Rn_grow_50 ⟨Nat.zero_le _, Nat.zero_le _⟩) hS (fun r12 M13 H locs q14 hP hS => ?_)
    obtain ⟨q14m, q14e⟩ := q14
    rw [q14m] at hP
    subst q14e
    refine lv_iconst (v := (-1)) hx hb d_Rn_grow_53 (by decide) ?_
    refine lv_icmp_ne hx hb d_Rn_grow_54 rfl (fun h15 => ?_) (fun h15 => ?_)
    · have g15 : ¬ ((vz M (20 + 3 * v11) 26 x4).toInt = (-1)) := fun q => h15 (Int32.toInt_inj.mp q)
      refine lv_aload hx hb d_Rn_grow_63 (lv_at hl 0 rfl) ?_
      refine lv_iload_n hx hb d_Rn_grow_65 rfl (lv_at hl 2 rfl) ?_
      refine ux_calli (va_runV ⟨hx, hb, hml, hown, hts⟩ (s_Vl_isNumber l D ad cA M hI (18 + 3 * v11) (19 + 3 * v11) (20 + 3 * v11) 26 (vV_fr hv11) x4) (cwV 1 hts (tb_goodV ml_Rn_238 im_Vl_isNumber se_Vl_isNumber ii_Vl kt_Vl_isNumber) rfl rfl rfl (by decide +kernel) ⟨Nat.le_of_ble_eq_true rfl, Nat.le_of_ble_eq_true rfl⟩) (ux_preV (fk 18 (by decide) hv11) (F18 hv11) rfl hP hK hi hN) rfl rfl hl.1 rfl (lv_room (Nat.le_of_ble_eq_true rfl)) d_Rn_grow_66 ⟨Nat.zero_le _, Nat.zero_le _⟩) hS (fun r16 M17 H locs q18 hP hS => ?_)
      obtain ⟨hI, fq18, q18p⟩ := q18
      rw [tN_eq fq18] at hP hI
      refine lv_if_ne hx hb d_Rn_grow_69 rfl (fun h19 => ?_) (fun h19 => ?_)
      · have g19 : ¬ (r16.toInt = 0) := fun q => h19 (Int32.toInt_inj.mp q)
        refine lv_aload hx hb d_Rn_grow_78 (lv_at hl 0 rfl) ?_
        refine lv_iload_n hx hb d_Rn_grow_80 rfl (lv_at hl 2 rfl) ?_
        refine lv_aload hx hb d_Rn_grow_81 (lv_at hl 0 rfl) ?_
        refine lv_iload_n hx hb d_Rn_grow_83 rfl (lv_at hl 2 rfl) ?_
        refine ux_calli (va_runV ⟨hx, hb, hml, hown, hts⟩ (s_Vl_numberOf l D ad cA M hI (18 + 3 * v11) (19 + 3 * v11) (20 + 3 * v11) 26 (vV_fr hv11) x4) (cwV 1 hts (tb_goodV ml_Rn_297 im_Vl_numberOf se_Vl_numberOf ii_Vl kt_Vl_numberOf) rfl rfl rfl (by decide +kernel) ⟨Nat.le_of_ble_eq_true rfl, Nat.le_of_ble_eq_true rfl⟩) (ux_preV (fk 18 (by decide) hv11) (F18 hv11) rfl hP hK hi hN) rfl rfl hl.1 rfl (lv_room (Nat.le_of_ble_eq_true rfl)) d_Rn_grow_84 ⟨Nat.zero_le _, Nat.zero_le _⟩) hS (fun r20 M21 H locs q22 hP hS => ?_)
        obtain ⟨hI, fq22, q22p⟩ := q22
        rw [tN_eq fq22] at hP hI
        refine lv_iload_n hx hb d_Rn_grow_87 rfl (lv_at hl 1 rfl) ?_
        refine lv_iadd hx hb d_Rn_grow_88 ?_
        refine lv_topi (fun x23 ex23 => ?_)
        try have fx23 : x23.toInt = r20.toInt + 1 := by rw [ex23]; exact ti_add (by (try rw [show (1 : Int32).toInt = 1 from rfl]); omega) (by (try rw [show (1 : Int32).toInt = 1 from rfl]); omega)
        refine ux_callv (va_runV ⟨hx, hb, hml, hown, hts⟩ (s_Vl_writeNumber l D ad cA M hI (18 + 3 * v11) (19 + 3 * v11) (20 + 3 * v11) 26 (vV_fr hv11) x4 x23) (cwV 2 hts (tb_goodV ml_Rn_250 im_Vl_writeNumber se_Vl_writeNumber ii_Vl kt_Vl_writeNumber) rfl rfl rfl (by decide +kernel) ⟨Nat.le_of_ble_eq_true rfl, Nat.le_of_ble_eq_true rfl⟩) (ux_preV (fk 18 (by decide) hv11) (F18 hv11) rfl hP hK hi hN) rfl rfl hl.1 rfl (lv_room (Nat.le_of_ble_eq_true rfl)) d_Rn_grow_89 ⟨Nat.zero_le _, Nat.zero_le _⟩) hS (fun M25 H locs q26 hP hS => ?_)
        obtain ⟨hI, fq26, q26p⟩ := q26
        have hF := fr_call hF fq26 (fun a b q => by unfold tV at q; unfold tSS; omega)
        refine lv_aload_n hx hb d_Rn_grow_92 rfl (lv_at hl 3 rfl) ?_
        refine ux_get (C := R_Rn) (T := F_Rn) (N := 9) hx hb hT in_Rn hown hK hP (by decide) rfl rfl 6 (by decide) (hT _ fl_Rn_36) rfl d_Rn_grow_93 ?_
        refine lv_iconst (v := 0) hx hb d_Rn_grow_96 (by decide) ?_
        refine lv_aload hx hb d_Rn_grow_97 (lv_at hl 0 rfl) ?_
        refine lv_iload_n hx hb d_Rn_grow_99 rfl (lv_at hl 2 rfl) ?_
        refine ux_callv (va_runV ⟨hx, hb, hml, hown, hts⟩ (s_Vl_copy l D ad cA M25 hI 47 48 49 1 vV_res (18 + 3 * v11) (19 + 3 * v11) (20 + 3 * v11) 26 (vV_fr hv11) 0 x4) (cwV 3 hts (tb_goodV ml_Rn_277 im_Vl_copy se_Vl_copy ii_Vl kt_Vl_copy) rfl rfl rfl (by decide +kernel) ⟨Nat.le_of_ble_eq_true rfl, Nat.le_of_ble_eq_true rfl⟩) (ux_preV (by decide) rfl rfl hP hK hi hN) rfl rfl hl.1 rfl (lv_room (Nat.le_of_ble_eq_true rfl)) d_Rn_grow_100 ⟨Nat.zero_le _, Nat.zero_le _⟩) hS (fun M28 H locs q29 hP hS => ?_)
        obtain ⟨hI, fq29, q29p⟩ := q29
        have hF := fr_call hF fq29 (fun a b q => by unfold tV at q; unfold tSS; omega)
        refine lv_iconst (v := 0) hx hb d_Rn_grow_103 (by decide) ?_
        exact W.iret (v := 0) hx hb hr (fun t ht hW => ⟨⟨0, M28, rfl, ⟨hI, hF, trivial⟩, by unfold ux_E; rw [ht]; exact hP⟩, hS.F ht⟩) hS.2.2 d_Rn_grow_104
      · have g19 : r16.toInt = 0 := congrArg Int32.toInt h19
        refine lv_aload_n hx hb d_Rn_grow_72 rfl (lv_at hl 3 rfl) ?_
        refine lv_iconst (v := 5) hx hb d_Rn_grow_73 (by decide) ?_
        refine ux_calli (va_runV ⟨hx, hb, hml, hown, hts⟩ (s_Rn_fail l D ad cA M hI 5) (cwV 1 hts (tb_goodV ml_Rn_64 im_Rn_fail se_Rn_fail ii_Rn kt_Rn_fail) rfl rfl rfl (by decide +kernel) ⟨Nat.le_of_ble_eq_true rfl, Nat.le_of_ble_eq_true rfl⟩) (ux_preV (by decide) rfl rfl hP hK hi hN) rfl rfl hl.1 rfl (lv_room (Nat.le_of_ble_eq_true rfl)) d_Rn_grow_74 ⟨Nat.zero_le _, Nat.zero_le _⟩) hS (fun r30 M31 H locs q32 hP hS => ?_)
        obtain ⟨hI, fq32, q32p⟩ := q32
        have hF := fr_call hF fq32 (fun a b q => by unfold tV at q; unfold tSS; omega)
        exact W.iret (v := r30) hx hb hr (fun t ht hW => ⟨⟨r30, M31, rfl, ⟨hI, hF, trivial⟩, by unfold ux_E; rw [ht]; exact hP⟩, hS.F ht⟩) hS.2.2 d_Rn_grow_77
    · have g15 : (vz M (20 + 3 * v11) 26 x4).toInt = (-1) := congrArg Int32.toInt h15
      refine lv_aload_n hx hb d_Rn_grow_57 rfl (lv_at hl 3 rfl) ?_
      refine lv_iconst (v := 4) hx hb d_Rn_grow_58 (by decide) ?_
      refine ux_calli (va_runV ⟨hx, hb, hml, hown, hts⟩ (s_Rn_fail l D ad cA M hI 4) (cwV 1 hts (tb_goodV ml_Rn_64 im_Rn_fail se_Rn_fail ii_Rn kt_Rn_fail) rfl rfl rfl (by decide +kernel) ⟨Nat.le_of_ble_eq_true rfl, Nat.le_of_ble_eq_true rfl⟩) (ux_preV (by decide) rfl rfl hP hK hi hN) rfl rfl hl.1 rfl (lv_room (Nat.le_of_ble_eq_true rfl)) d_Rn_grow_59 ⟨Nat.zero_le _, Nat.zero_le _⟩) hS (fun r33 M34 H locs q35 hP hS => ?_)
      obtain ⟨hI, fq35, q35p⟩ := q35
      have hF := fr_call hF fq35 (fun a b q => by unfold tV at q; unfold tSS; omega)
      exact W.iret (v := r33) hx hb hr (fun t ht hW => ⟨⟨r33, M34, rfl, ⟨hI, hF, trivial⟩, by unfold ux_E; rw [ht]; exact hP⟩, hS.F ht⟩) hS.2.2 d_Rn_grow_62
  · have g7 : ¬ ((M (53 + 7 * d) 4).toInt ≤ 2) := fun q => h7 (Int32.le_iff_toInt_le.mpr q)
    have u7 := ti_hi (M (53 + 7 * d) 4)
    refine lv_aload_n hx hb d_Rn_grow_20 rfl (lv_at hl 2 rfl) ?_
    refine ux_getN (C := R_Lv) (T := F_Lv) (N := 10) hx hb hT in_Lv hown hK hP (lk 53 (by decide) hd) (L53 hd) rfl 0 (by decide) (hN _ nf_Rn_145) rfl d_Rn_grow_21 ?_
    refine lv_iconst (v := 2) hx hb d_Rn_grow_24 (by decide) ?_
    refine ux_calli (va_runV ⟨hx, hb, hml, hown, hts⟩ (s_Vl_numberOf l D ad cA M hI (54 + 7 * d) (55 + 7 * d) (56 + 7 * d) 8 (vV_lv hd) 2) (cwV 1 hts (tb_goodV ml_Rn_297 im_Vl_numberOf se_Vl_numberOf ii_Vl kt_Vl_numberOf) rfl rfl rfl (by decide +kernel) ⟨Nat.le_of_ble_eq_true rfl, Nat.le_of_ble_eq_true rfl⟩) (ux_preV (lk 54 (by decide) hd) (L54 hd) rfl hP hK hi hN) rfl rfl hl.1 rfl (lv_room (Nat.le_of_ble_eq_true rfl)) d_Rn_grow_25 ⟨Nat.zero_le _, Nat.zero_le _⟩) hS (fun r36 M37 H locs q38 hP hS => ?_)
    obtain ⟨hI, fq38, q38p⟩ := q38
    rw [tN_eq fq38] at hP hI
    refine lv_goto hx hb d_Rn_grow_28 rfl ?_
    refine lv_istore_n hx hb d_Rn_grow_32 rfl hl (by decide) rfl (fun ls hl => ?_)
    have hl : lv_has ls 5 [(3, .int r36), (2, .int x4), (0, .ref (ad 13)), (1, .ref (ad (53 + 7 * d)))] := hl
    refine lv_aload_n hx hb d_Rn_grow_33 rfl (lv_at hl 2 rfl) ?_
    refine ux_get (C := R_Rn) (T := F_Rn) (N := 9) hx hb hT in_Rn hown hK hP (by decide) rfl rfl 2 (by decide) (hT _ fl_Rn_12) rfl d_Rn_grow_34 ?_
    refine lv_aload_n hx hb d_Rn_grow_37 rfl (lv_at hl 3 rfl) ?_
    refine ux_getN (C := R_Lv) (T := F_Lv) (N := 10) hx hb hT in_Lv hown hK hP (lk 53 (by decide) hd) (L53 hd) rfl 7 (by decide) (hN _ nf_Rn_138) rfl d_Rn_grow_38 ?_
    refine lv_iload_n hx hb d_Rn_grow_41 rfl (lv_at hl 1 rfl) ?_
    refine ux_callr (va_runV ⟨hx, hb, hml, hown, hts⟩ (c_Vs_meant l D ad cA M (M (53 + 7 * d) 7) x4) (cwV 2 hts (tb_goodV ml_Rn_156 im_Vs_meant se_Vs_meant ii_Vs kt_Vs_meant) rfl rfl rfl (by decide +kernel) ⟨Nat.le_of_ble_eq_true rfl, Nat.le_of_ble_eq_true rfl⟩) (ux_preV (by decide) rfl rfl hP hK hi hN) rfl rfl hl.1 rfl (lv_room (Nat.le_of_ble_eq_true rfl)) d_Rn_grow_42 ⟨Nat.zero_le _, Nat.zero_le _⟩) hS (fun M40 H locs q41 hP hS => ?_)
    rw [q41] at hP
    obtain ⟨v42, hv42, ev42⟩ := vme_in M (M (53 + 7 * d) 7) x4
    rw [ev42]
    refine lv_astore hx hb d_Rn_grow_45 hl (by decide) rfl (fun ls hl => ?_)
    have hl : lv_has ls 5 [(4, .ref (ad (18 + 3 * v42))), (3, .int r36), (2, .int x4), (0, .ref (ad 13)), (1, .ref (ad (53 + 7 * d)))] := hl
    refine lv_aload hx hb d_Rn_grow_47 (lv_at hl 0 rfl) ?_
    refine lv_iload_n hx hb d_Rn_grow_49 rfl (lv_at hl 2 rfl) ?_
    refine ux_calli (va_runV ⟨hx, hb, hml, hown, hts⟩ (c_Vl_sizeOf l D shX KX ad cA M (18 + 3 * v42) (19 + 3 * v42) (20 + 3 * v42) 26 (VF_fr hv42) x4) (cwV 1 hts (tb_goodV ml_Rn_160 im_Vl_sizeOf se_Vl_sizeOf ii_Vl kt_Vl_sizeOf) rfl rfl rfl (by decide +kernel) ⟨Nat.le_of_ble_eq_true rfl, Nat.le_of_ble_eq_true rfl⟩) (ux_preV (fk 18 (by decide) hv42) (F18 hv42) rfl hP hK hi hN) rfl rfl hl.1 rfl (lv_room (Nat.le_of_ble_eq_true rfl)) d_Rn_grow_50 ⟨Nat.zero_le _, Nat.zero_le _⟩) hS (fun r43 M44 H locs q45 hP hS => ?_)
    obtain ⟨q45m, q45e⟩ := q45
    rw [q45m] at hP
    subst q45e
    refine lv_iconst (v := (-1)) hx hb d_Rn_grow_53 (by decide) ?_
    refine lv_icmp_ne hx hb d_Rn_grow_54 rfl (fun h46 => ?_) (fun h46 => ?_)
    · have g46 : ¬ ((vz M (20 + 3 * v42) 26 x4).toInt = (-1)) := fun q => h46 (Int32.toInt_inj.mp q)
      refine lv_aload hx hb d_Rn_grow_63 (lv_at hl 0 rfl) ?_
      refine lv_iload_n hx hb d_Rn_grow_65 rfl (lv_at hl 2 rfl) ?_
      refine ux_calli (va_runV ⟨hx, hb, hml, hown, hts⟩ (s_Vl_isNumber l D ad cA M hI (18 + 3 * v42) (19 + 3 * v42) (20 + 3 * v42) 26 (vV_fr hv42) x4) (cwV 1 hts (tb_goodV ml_Rn_238 im_Vl_isNumber se_Vl_isNumber ii_Vl kt_Vl_isNumber) rfl rfl rfl (by decide +kernel) ⟨Nat.le_of_ble_eq_true rfl, Nat.le_of_ble_eq_true rfl⟩) (ux_preV (fk 18 (by decide) hv42) (F18 hv42) rfl hP hK hi hN) rfl rfl hl.1 rfl (lv_room (Nat.le_of_ble_eq_true rfl)) d_Rn_grow_66 ⟨Nat.zero_le _, Nat.zero_le _⟩) hS (fun r47 M48 H locs q49 hP hS => ?_)
      obtain ⟨hI, fq49, q49p⟩ := q49
      rw [tN_eq fq49] at hP hI
      refine lv_if_ne hx hb d_Rn_grow_69 rfl (fun h50 => ?_) (fun h50 => ?_)
      · have g50 : ¬ (r47.toInt = 0) := fun q => h50 (Int32.toInt_inj.mp q)
        refine lv_aload hx hb d_Rn_grow_78 (lv_at hl 0 rfl) ?_
        refine lv_iload_n hx hb d_Rn_grow_80 rfl (lv_at hl 2 rfl) ?_
        refine lv_aload hx hb d_Rn_grow_81 (lv_at hl 0 rfl) ?_
        refine lv_iload_n hx hb d_Rn_grow_83 rfl (lv_at hl 2 rfl) ?_
        refine ux_calli (va_runV ⟨hx, hb, hml, hown, hts⟩ (s_Vl_numberOf l D ad cA M hI (18 + 3 * v42) (19 + 3 * v42) (20 + 3 * v42) 26 (vV_fr hv42) x4) (cwV 1 hts (tb_goodV ml_Rn_297 im_Vl_numberOf se_Vl_numberOf ii_Vl kt_Vl_numberOf) rfl rfl rfl (by decide +kernel) ⟨Nat.le_of_ble_eq_true rfl, Nat.le_of_ble_eq_true rfl⟩) (ux_preV (fk 18 (by decide) hv42) (F18 hv42) rfl hP hK hi hN) rfl rfl hl.1 rfl (lv_room (Nat.le_of_ble_eq_true rfl)) d_Rn_grow_84 ⟨Nat.zero_le _, Nat.zero_le _⟩) hS (fun r51 M52 H locs q53 hP hS => ?_)
        obtain ⟨hI, fq53, q53p⟩ := q53
        rw [tN_eq fq53] at hP hI
        refine lv_iload_n hx hb d_Rn_grow_87 rfl (lv_at hl 1 rfl) ?_
        refine lv_iadd hx hb d_Rn_grow_88 ?_
        refine lv_topi (fun x54 ex54 => ?_)
        try have fx54 : x54.toInt = r51.toInt + r36.toInt := by rw [ex54]; exact ti_add (by omega) (by omega)
        refine ux_callv (va_runV ⟨hx, hb, hml, hown, hts⟩ (s_Vl_writeNumber l D ad cA M hI (18 + 3 * v42) (19 + 3 * v42) (20 + 3 * v42) 26 (vV_fr hv42) x4 x54) (cwV 2 hts (tb_goodV ml_Rn_250 im_Vl_writeNumber se_Vl_writeNumber ii_Vl kt_Vl_writeNumber) rfl rfl rfl (by decide +kernel) ⟨Nat.le_of_ble_eq_true rfl, Nat.le_of_ble_eq_true rfl⟩) (ux_preV (fk 18 (by decide) hv42) (F18 hv42) rfl hP hK hi hN) rfl rfl hl.1 rfl (lv_room (Nat.le_of_ble_eq_true rfl)) d_Rn_grow_89 ⟨Nat.zero_le _, Nat.zero_le _⟩) hS (fun M56 H locs q57 hP hS => ?_)
        obtain ⟨hI, fq57, q57p⟩ := q57
        have hF := fr_call hF fq57 (fun a b q => by unfold tV at q; unfold tSS; omega)
        refine lv_aload_n hx hb d_Rn_grow_92 rfl (lv_at hl 3 rfl) ?_
        refine ux_get (C := R_Rn) (T := F_Rn) (N := 9) hx hb hT in_Rn hown hK hP (by decide) rfl rfl 6 (by decide) (hT _ fl_Rn_36) rfl d_Rn_grow_93 ?_
        refine lv_iconst (v := 0) hx hb d_Rn_grow_96 (by decide) ?_
        refine lv_aload hx hb d_Rn_grow_97 (lv_at hl 0 rfl) ?_
        refine lv_iload_n hx hb d_Rn_grow_99 rfl (lv_at hl 2 rfl) ?_
        refine ux_callv (va_runV ⟨hx, hb, hml, hown, hts⟩ (s_Vl_copy l D ad cA M56 hI 47 48 49 1 vV_res (18 + 3 * v42) (19 + 3 * v42) (20 + 3 * v42) 26 (vV_fr hv42) 0 x4) (cwV 3 hts (tb_goodV ml_Rn_277 im_Vl_copy se_Vl_copy ii_Vl kt_Vl_copy) rfl rfl rfl (by decide +kernel) ⟨Nat.le_of_ble_eq_true rfl, Nat.le_of_ble_eq_true rfl⟩) (ux_preV (by decide) rfl rfl hP hK hi hN) rfl rfl hl.1 rfl (lv_room (Nat.le_of_ble_eq_true rfl)) d_Rn_grow_100 ⟨Nat.zero_le _, Nat.zero_le _⟩) hS (fun M59 H locs q60 hP hS => ?_)
        obtain ⟨hI, fq60, q60p⟩ := q60
        have hF := fr_call hF fq60 (fun a b q => by unfold tV at q; unfold tSS; omega)
        refine lv_iconst (v := 0) hx hb d_Rn_grow_103 (by decide) ?_
        exact W.iret (v := 0) hx hb hr (fun t ht hW => ⟨⟨0, M59, rfl, ⟨hI, hF, trivial⟩, by unfold ux_E; rw [ht]; exact hP⟩, hS.F ht⟩) hS.2.2 d_Rn_grow_104
      · have g50 : r47.toInt = 0 := congrArg Int32.toInt h50
        refine lv_aload_n hx hb d_Rn_grow_72 rfl (lv_at hl 3 rfl) ?_
        refine lv_iconst (v := 5) hx hb d_Rn_grow_73 (by decide) ?_
        refine ux_calli (va_runV ⟨hx, hb, hml, hown, hts⟩ (s_Rn_fail l D ad cA M hI 5) (cwV 1 hts (tb_goodV ml_Rn_64 im_Rn_fail se_Rn_fail ii_Rn kt_Rn_fail) rfl rfl rfl (by decide +kernel) ⟨Nat.le_of_ble_eq_true rfl, Nat.le_of_ble_eq_true rfl⟩) (ux_preV (by decide) rfl rfl hP hK hi hN) rfl rfl hl.1 rfl (lv_room (Nat.le_of_ble_eq_true rfl)) d_Rn_grow_74 ⟨Nat.zero_le _, Nat.zero_le _⟩) hS (fun r61 M62 H locs q63 hP hS => ?_)
        obtain ⟨hI, fq63, q63p⟩ := q63
        have hF := fr_call hF fq63 (fun a b q => by unfold tV at q; unfold tSS; omega)
        exact W.iret (v := r61) hx hb hr (fun t ht hW => ⟨⟨r61, M62, rfl, ⟨hI, hF, trivial⟩, by unfold ux_E; rw [ht]; exact hP⟩, hS.F ht⟩) hS.2.2 d_Rn_grow_77
    · have g46 : (vz M (20 + 3 * v42) 26 x4).toInt = (-1) := congrArg Int32.toInt h46
      refine lv_aload_n hx hb d_Rn_grow_57 rfl (lv_at hl 3 rfl) ?_
      refine lv_iconst (v := 4) hx hb d_Rn_grow_58 (by decide) ?_
      refine ux_calli (va_runV ⟨hx, hb, hml, hown, hts⟩ (s_Rn_fail l D ad cA M hI 4) (cwV 1 hts (tb_goodV ml_Rn_64 im_Rn_fail se_Rn_fail ii_Rn kt_Rn_fail) rfl rfl rfl (by decide +kernel) ⟨Nat.le_of_ble_eq_true rfl, Nat.le_of_ble_eq_true rfl⟩) (ux_preV (by decide) rfl rfl hP hK hi hN) rfl rfl hl.1 rfl (lv_room (Nat.le_of_ble_eq_true rfl)) d_Rn_grow_59 ⟨Nat.zero_le _, Nat.zero_le _⟩) hS (fun r64 M65 H locs q66 hP hS => ?_)
      obtain ⟨hI, fq66, q66p⟩ := q66
      have hF := fr_call hF fq66 (fun a b q => by unfold tV at q; unfold tSS; omega)
      exact W.iret (v := r64) hx hb hr (fun t ht hW => ⟨⟨r64, M65, rfl, ⟨hI, hF, trivial⟩, by unfold ux_E; rw [ht]; exact hP⟩, hS.F ht⟩) hS.2.2 d_Rn_grow_62

set_option maxHeartbeats 8000000 in
set_option maxRecDepth 100000 in
theorem s_Rn_showSum (l : Launch) (D : va_G) (ad : Nat → Nat) (cA : Nat → ClassId) (M : ux_M) (hI : IvX M) (d : Nat) (hd : d < 8) : Met l y_Rn_showSum w_Rn_showSum ({ frames := 4, cells := 0, slots := 0, locals := 97 }) (va_Pc [.ref (ad 13), .ref (ad (53 + 7 * d))] (ux_B D shX KX ad cA M)) (va_Qi (fun r M1 => IvX M1 ∧ (∀ a b, ¬ tSw a b → M1 a b = M a b) ∧ (True)) (ux_E D shX KX ad cA) (ux_A KX ad)) 0 0 (ux_A KX ad) := by
  refine Met.ofW (cc := b_Rn_showSum) (maxL := 3) (ret := (some .int)) (by decide) rfl ?_
  intro p e s m args below meth c s₁ B hml hv
  obtain ⟨rfl, hP, hK, hi, hN⟩ := hv
  have hx := B.exec
  have hb := B.bytes
  have hr := B.returns
  have hts := atoms_spec (ws := w_Rn_showSum) B.pre
  have hown : s.vm.findClass R_Rn = some m.cls := findClass_of_methodNamed B.named
  have hlocks := B.notSynchronized
  have hT : ∀ w ∈ tb, w.before _ s = true := fun w h => hts w (List.mem_cons_of_mem _ h)
  have hS : va_S (ux_A KX ad) s.heap s.heap [] := va_S.rf
  have hl := lv_entry ([.ref (ad 13), .ref (ad (53 + 7 * d))]) (n := 3) (Nat.le_of_ble_eq_true rfl)
  rw [lg_entry_eq]
  generalize (lg_sl ([.ref (ad 13), .ref (ad (53 + 7 * d))]) ++ List.replicate (3 - (lg_sl ([.ref (ad 13), .ref (ad (53 + 7 * d))])).length) Slot.unset).toArray = ls at hl ⊢
  have hl : lv_has ls 3 [(0, .ref (ad 13)), (1, .ref (ad (53 + 7 * d)))] := hl
  have hF : ∀ a b, ¬ tSw a b → M a b = M a b := fun _ _ _ => rfl
  refine lv_aload_n hx hb d_Rn_showSum_0 rfl (lv_at hl 0 rfl) ?_
  refine ux_get (C := R_Rn) (T := F_Rn) (N := 9) hx hb hT in_Rn hown hK hP (by decide) rfl rfl 4 (by decide) (hT _ fl_Rn_59) rfl d_Rn_showSum_1 ?_
  refine lv_aload_n hx hb d_Rn_showSum_4 rfl (lv_at hl 1 rfl) ?_
  refine lv_iconst (v := 1) hx hb d_Rn_showSum_5 (by decide) ?_
  refine ux_calli (va_runV ⟨hx, hb, hml, hown, hts⟩ (s_Lv_startOf l D ad cA M hI d hd 1) (cwV 1 hts (tb_goodV ml_Rn_264 im_Lv_startOf se_Lv_startOf ii_Lv kt_Lv_startOf) rfl rfl rfl (by decide +kernel) ⟨Nat.le_of_ble_eq_true rfl, Nat.le_of_ble_eq_true rfl⟩) (ux_preV (lk 53 (by decide) hd) (L53 hd) rfl hP hK hi hN) rfl rfl hl.1 rfl (lv_room (Nat.le_of_ble_eq_true rfl)) d_Rn_showSum_6 ⟨Nat.zero_le _, Nat.zero_le _⟩) hS (fun r1 M2 H locs q3 hP hS => ?_)
  obtain ⟨hI, fq3, q3p⟩ := q3
  rw [tN_eq fq3] at hP hI
  refine lv_aload_n hx hb d_Rn_showSum_9 rfl (lv_at hl 1 rfl) ?_
  refine lv_iconst (v := 1) hx hb d_Rn_showSum_10 (by decide) ?_
  refine ux_calli (va_runV ⟨hx, hb, hml, hown, hts⟩ (s_Lv_endOf l D ad cA M hI d hd 1) (cwV 1 hts (tb_goodV ml_Rn_267 im_Lv_endOf se_Lv_endOf ii_Lv kt_Lv_endOf) rfl rfl rfl (by decide +kernel) ⟨Nat.le_of_ble_eq_true rfl, Nat.le_of_ble_eq_true rfl⟩) (ux_preV (lk 53 (by decide) hd) (L53 hd) rfl hP hK hi hN) rfl rfl hl.1 rfl (lv_room (Nat.le_of_ble_eq_true rfl)) d_Rn_showSum_11 ⟨Nat.zero_le _, Nat.zero_le _⟩) hS (fun r4 M5 H locs q6 hP hS => ?_)
  obtain ⟨hI, fq6, q6p⟩ := q6
  rw [tN_eq fq6] at hP hI
  refine lv_aload_n hx hb d_Rn_showSum_14 rfl (lv_at hl 1 rfl) ?_
  refine ux_getN (C := R_Lv) (T := F_Lv) (N := 10) hx hb hT in_Lv hown hK hP (lk 53 (by decide) hd) (L53 hd) rfl 7 (by decide) (hN _ nf_Rn_138) rfl d_Rn_showSum_15 ?_
  refine ux_calli (va_runV ⟨hx, hb, hml, hown, hts⟩ (s_Sm_workOut l D ad cA M hI r1 r4 (M (53 + 7 * d) 7)) (cwV 3 hts (tb_goodV ml_Rn_300 im_Sm_workOut se_Sm_workOut ii_Sm kt_Sm_workOut) rfl rfl rfl (by decide +kernel) ⟨Nat.le_of_ble_eq_true rfl, Nat.le_of_ble_eq_true rfl⟩) (ux_preV (by decide) rfl rfl hP hK hi hN) rfl rfl hl.1 rfl (lv_room (Nat.le_of_ble_eq_true rfl)) d_Rn_showSum_18 ⟨Nat.zero_le _, Nat.zero_le _⟩) hS (fun r7 M8 H locs q9 hP hS => ?_)
  obtain ⟨hI, fq9, q9p⟩ := q9
  have hF := fr_call hF fq9 (fun a b q => by unfold tSm at q; unfold tSw; omega)
  refine lv_istore_n hx hb d_Rn_showSum_21 rfl hl (by decide) rfl (fun ls hl => ?_)
  have hl : lv_has ls 3 [(2, .int r7), (0, .ref (ad 13)), (1, .ref (ad (53 + 7 * d)))] := hl
  refine lv_iload_n hx hb d_Rn_showSum_22 rfl (lv_at hl 0 rfl) ?_
  refine lv_if_eq hx hb d_Rn_showSum_23 rfl (fun h10 => ?_) (fun h10 => ?_)
  · have g10 : r7.toInt = 0 := congrArg Int32.toInt h10
    refine lv_aload_n hx hb d_Rn_showSum_32 rfl (lv_at hl 1 rfl) ?_
    refine ux_get (C := R_Rn) (T := F_Rn) (N := 9) hx hb hT in_Rn hown hK hP (by decide) rfl rfl 6 (by decide) (hT _ fl_Rn_36) rfl d_Rn_showSum_33 ?_
    refine lv_iconst (v := 0) hx hb d_Rn_showSum_36 (by decide) ?_
    refine lv_aload_n hx hb d_Rn_showSum_37 rfl (lv_at hl 1 rfl) ?_
    refine ux_get (C := R_Rn) (T := F_Rn) (N := 9) hx hb hT in_Rn hown hK hP (by decide) rfl rfl 4 (by decide) (hT _ fl_Rn_59) rfl d_Rn_showSum_38 ?_
    refine ux_getN (C := R_Sm) (T := F_Sm) (N := 14) hx hb hT in_Sm hown hK hP (by decide) rfl rfl 13 (by decide) (hN _ nf_Rn_304) rfl d_Rn_showSum_41 ?_
    refine ux_callv (va_runV ⟨hx, hb, hml, hown, hts⟩ (s_Vl_writeNumber l D ad cA M8 hI 47 48 49 1 vV_res 0 (M8 50 13)) (cwV 2 hts (tb_goodV ml_Rn_250 im_Vl_writeNumber se_Vl_writeNumber ii_Vl kt_Vl_writeNumber) rfl rfl rfl (by decide +kernel) ⟨Nat.le_of_ble_eq_true rfl, Nat.le_of_ble_eq_true rfl⟩) (ux_preV (by decide) rfl rfl hP hK hi hN) rfl rfl hl.1 rfl (lv_room (Nat.le_of_ble_eq_true rfl)) d_Rn_showSum_44 ⟨Nat.zero_le _, Nat.zero_le _⟩) hS (fun M12 H locs q13 hP hS => ?_)
    obtain ⟨hI, fq13, q13p⟩ := q13
    have hF := fr_call hF fq13 (fun a b q => by unfold tV at q; unfold tSw; omega)
    refine lv_iconst (v := 0) hx hb d_Rn_showSum_47 (by decide) ?_
    exact W.iret (v := 0) hx hb hr (fun t ht hW => ⟨⟨0, M12, rfl, ⟨hI, hF, trivial⟩, by unfold ux_E; rw [ht]; exact hP⟩, hS.F ht⟩) hS.2.2 d_Rn_showSum_48
  · have g10 : ¬ (r7.toInt = 0) := fun q => h10 (Int32.toInt_inj.mp q)
    refine lv_aload_n hx hb d_Rn_showSum_26 rfl (lv_at hl 1 rfl) ?_
    refine lv_iload_n hx hb d_Rn_showSum_27 rfl (lv_at hl 0 rfl) ?_
    refine ux_calli (va_runV ⟨hx, hb, hml, hown, hts⟩ (s_Rn_fail l D ad cA M8 hI r7) (cwV 1 hts (tb_goodV ml_Rn_64 im_Rn_fail se_Rn_fail ii_Rn kt_Rn_fail) rfl rfl rfl (by decide +kernel) ⟨Nat.le_of_ble_eq_true rfl, Nat.le_of_ble_eq_true rfl⟩) (ux_preV (by decide) rfl rfl hP hK hi hN) rfl rfl hl.1 rfl (lv_room (Nat.le_of_ble_eq_true rfl)) d_Rn_showSum_28 ⟨Nat.zero_le _, Nat.zero_le _⟩) hS (fun r14 M15 H locs q16 hP hS => ?_)
    obtain ⟨hI, fq16, q16p⟩ := q16
    have hF := fr_call hF fq16 (fun a b q => by unfold tV at q; unfold tSw; omega)
    exact W.iret (v := r14) hx hb hr (fun t ht hW => ⟨⟨r14, M15, rfl, ⟨hI, hF, trivial⟩, by unfold ux_E; rw [ht]; exact hP⟩, hS.F ht⟩) hS.2.2 d_Rn_showSum_31

set_option maxHeartbeats 8000000 in
set_option maxRecDepth 100000 in
theorem s_Rn_takeFitting (l : Launch) (D : va_G) (ad : Nat → Nat) (cA : Nat → ClassId) (M : ux_M) (hI : IvX M) (d : Nat) (hd : d < 8) : Met l y_Rn_takeFitting w_Rn_takeFitting ({ frames := 3, cells := 0, slots := 0, locals := 76 }) (va_Pc [.ref (ad 13), .ref (ad (53 + 7 * d))] (ux_B D shX KX ad cA M)) (va_Qi (fun r M1 => IvX M1 ∧ (∀ a b, ¬ (tV 9 10) a b → M1 a b = M a b) ∧ (True)) (ux_E D shX KX ad cA) (ux_A KX ad)) 0 0 (ux_A KX ad) := by
  refine Met.ofW (cc := b_Rn_takeFitting) (maxL := 7) (ret := (some .int)) (by decide) rfl ?_
  intro p e s m args below meth c s₁ B hml hv
  obtain ⟨rfl, hP, hK, hi, hN⟩ := hv
  have hx := B.exec
  have hb := B.bytes
  have hr := B.returns
  have hts := atoms_spec (ws := w_Rn_takeFitting) B.pre
  have hown : s.vm.findClass R_Rn = some m.cls := findClass_of_methodNamed B.named
  have hlocks := B.notSynchronized
  have hT : ∀ w ∈ tb, w.before _ s = true := fun w h => hts w (List.mem_cons_of_mem _ h)
  have hS : va_S (ux_A KX ad) s.heap s.heap [] := va_S.rf
  have hl := lv_entry ([.ref (ad 13), .ref (ad (53 + 7 * d))]) (n := 7) (Nat.le_of_ble_eq_true rfl)
  rw [lg_entry_eq]
  generalize (lg_sl ([.ref (ad 13), .ref (ad (53 + 7 * d))]) ++ List.replicate (7 - (lg_sl ([.ref (ad 13), .ref (ad (53 + 7 * d))])).length) Slot.unset).toArray = ls at hl ⊢
  have hl : lv_has ls 7 [(0, .ref (ad 13)), (1, .ref (ad (53 + 7 * d)))] := hl
  have hF : ∀ a b, ¬ (tV 9 10) a b → M a b = M a b := fun _ _ _ => rfl
  have cut8 : ∀ (nn : Nat) (i_2 i_3 i_4 : Int32) (Mc8 : ux_M) (H : Heap) (locs : List Loc) (ls : Array Slot), ((8 : Int) - i_4.toInt).toNat = nn → (0 ≤ i_4.toInt) → va_P D classes (ux_w shX KX ad cA Mc8) H → IvX Mc8 → (∀ a b, ¬ (tV 9 10) a b → Mc8 a b = M a b) → va_S (ux_A KX ad) s.heap H locs → lv_has ls 7 [(0, .ref (ad 13)), (1, .ref (ad (53 + 7 * d))), (2, .int i_2), (3, .int i_3), (4, .int i_4)] → W p l e (headSpec w_Rn_takeFitting ({ frames := 3, cells := 0, slots := 0, locals := 76 })).room s m (([.ref (ad 13), .ref (ad (53 + 7 * d))] : List Value).toArray) below meth c H locs 0 0 (MQ below (va_Qi (fun r M1 => IvX M1 ∧ (∀ a b, ¬ (tV 9 10) a b → M1 a b = M a b) ∧ (True)) (ux_E D shX KX ad cA) (ux_A KX ad)) (([.ref (ad 13), .ref (ad (53 + 7 * d))] : List Value).toArray) s 0 0 (ux_A KX ad)) (F0 m 8 ls []) := by
    intro nn
    induction nn using Nat.strongRecOn with
    | ind nn ih8 =>
      intro i_2 i_3 i_4 Mc8 H locs ls hn c8_0 hP hI hF hS hl
      have cut39 : ∀ (nn : Nat) (i_22 i_33 i_5 i_6 : Int32) (Mc39 : ux_M) (H : Heap) (locs : List Loc) (ls : Array Slot), (i_33.toInt - i_6.toInt).toNat = nn → (0 ≤ i_6.toInt) → (i_4.toInt < 8) → va_P D classes (ux_w shX KX ad cA Mc39) H → IvX Mc39 → (∀ a b, ¬ (tV 9 10) a b → Mc39 a b = M a b) → va_S (ux_A KX ad) s.heap H locs → lv_has ls 7 [(0, .ref (ad 13)), (1, .ref (ad (53 + 7 * d))), (2, .int i_22), (3, .int i_33), (4, .int i_4), (5, .int i_5), (6, .int i_6)] → W p l e (headSpec w_Rn_takeFitting ({ frames := 3, cells := 0, slots := 0, locals := 76 })).room s m (([.ref (ad 13), .ref (ad (53 + 7 * d))] : List Value).toArray) below meth c H locs 0 0 (MQ below (va_Qi (fun r M1 => IvX M1 ∧ (∀ a b, ¬ (tV 9 10) a b → M1 a b = M a b) ∧ (True)) (ux_E D shX KX ad cA) (ux_A KX ad)) (([.ref (ad 13), .ref (ad (53 + 7 * d))] : List Value).toArray) s 0 0 (ux_A KX ad)) (F0 m 39 ls []) := by
        intro nn
        induction nn using Nat.strongRecOn with
        | ind nn ih39 =>
          intro i_22 i_33 i_5 i_6 Mc39 H locs ls hn c39_0 c39_1 hP hI hF hS hl
          refine lv_iload hx hb d_Rn_takeFitting_39 (lv_at hl 6 rfl) ?_
          refine lv_iload_n hx hb d_Rn_takeFitting_41 rfl (lv_at hl 3 rfl) ?_
          refine lv_icmp_ge hx hb d_Rn_takeFitting_42 rfl (fun h1 => ?_) (fun h1 => ?_)
          · have g1 : i_33.toInt ≤ i_6.toInt := Int32.le_iff_toInt_le.mp h1
            have u1 := ti_hi i_6
            have w1 := ti_lo i_33
            obtain ⟨x2, ex2⟩ : ∃ z : Int32, z = i_4 + 2 := ⟨_, rfl⟩
            refine lv_iinc (k := 4) (v := x2) hx hb d_Rn_takeFitting_68 hl rfl ex2.symm (by decide) rfl (fun ls hl => ?_)
            have hl : lv_has ls 7 [(4, .int x2), (0, .ref (ad 13)), (1, .ref (ad (53 + 7 * d))), (2, .int i_22), (3, .int i_33), (5, .int i_5), (6, .int i_6)] := hl
            try have fx2 : x2.toInt = i_4.toInt + 2 := by rw [ex2]; exact ti_add (by (try rw [show (2 : Int32).toInt = 2 from rfl]); omega) (by (try rw [show (2 : Int32).toInt = 2 from rfl]); omega)
            refine lv_goto hx hb d_Rn_takeFitting_71 rfl ?_
            exact ih8 (((8 : Int) - x2.toInt).toNat) (by omega) i_22 i_33 x2 Mc39 _ _ ls rfl (show 0 ≤ x2.toInt from by first | omega | assumption | exact Or.inl rfl | exact Or.inr rfl | rfl | decide) hP hI hF hS (lv_sub hl [1, 2, 3, 4, 0] rfl)
          · have g1 : ¬ (i_33.toInt ≤ i_6.toInt) := fun q => h1 (Int32.le_iff_toInt_le.mpr q)
            have u1 := ti_hi i_33
            have w1 := ti_lo i_6
            refine lv_iload hx hb d_Rn_takeFitting_45 (lv_at hl 5 rfl) ?_
            refine lv_iload hx hb d_Rn_takeFitting_47 (lv_at hl 6 rfl) ?_
            refine lv_ishr hx hb d_Rn_takeFitting_49 ?_
            refine lv_topi (fun x3 ex3 => ?_)
            refine lv_iconst (v := 1) hx hb d_Rn_takeFitting_50 (by decide) ?_
            refine lv_iand hx hb d_Rn_takeFitting_51 ?_
            refine lv_topi (fun x4 ex4 => ?_)
            refine lv_iconst (v := 1) hx hb d_Rn_takeFitting_52 (by decide) ?_
            refine lv_icmp_ne hx hb d_Rn_takeFitting_53 rfl (fun h5 => ?_) (fun h5 => ?_)
            · have g5 : ¬ (x4.toInt = 1) := fun q => h5 (Int32.toInt_inj.mp q)
              obtain ⟨x6, ex6⟩ : ∃ z : Int32, z = i_6 + 1 := ⟨_, rfl⟩
              refine lv_iinc (k := 6) (v := x6) hx hb d_Rn_takeFitting_62 hl rfl ex6.symm (by decide) rfl (fun ls hl => ?_)
              have hl : lv_has ls 7 [(6, .int x6), (0, .ref (ad 13)), (1, .ref (ad (53 + 7 * d))), (2, .int i_22), (3, .int i_33), (4, .int i_4), (5, .int i_5)] := hl
              try have fx6 : x6.toInt = i_6.toInt + 1 := by rw [ex6]; exact ti_add (by (try rw [show (1 : Int32).toInt = 1 from rfl]); omega) (by (try rw [show (1 : Int32).toInt = 1 from rfl]); omega)
              refine lv_goto hx hb d_Rn_takeFitting_65 rfl ?_
              exact ih39 ((i_33.toInt - x6.toInt).toNat) (by omega) i_22 i_33 i_5 x6 Mc39 _ _ ls rfl (show 0 ≤ x6.toInt from by first | omega | assumption | exact Or.inl rfl | exact Or.inr rfl | rfl | decide) (show i_4.toInt < 8 from by first | omega | assumption | exact Or.inl rfl | exact Or.inr rfl | rfl | decide) hP hI hF hS (lv_sub hl [1, 2, 3, 4, 5, 6, 0] rfl)
            · have g5 : x4.toInt = 1 := congrArg Int32.toInt h5
              refine lv_iload hx hb d_Rn_takeFitting_56 (lv_at hl 4 rfl) ?_
              refine lv_istore_n hx hb d_Rn_takeFitting_58 rfl hl (by decide) rfl (fun ls hl => ?_)
              have hl : lv_has ls 7 [(2, .int i_4), (0, .ref (ad 13)), (1, .ref (ad (53 + 7 * d))), (3, .int i_33), (4, .int i_4), (5, .int i_5), (6, .int i_6)] := hl
              refine lv_iload hx hb d_Rn_takeFitting_59 (lv_at hl 6 rfl) ?_
              refine lv_istore_n hx hb d_Rn_takeFitting_61 rfl hl (by decide) rfl (fun ls hl => ?_)
              have hl : lv_has ls 7 [(3, .int i_6), (2, .int i_4), (0, .ref (ad 13)), (1, .ref (ad (53 + 7 * d))), (4, .int i_4), (5, .int i_5), (6, .int i_6)] := hl
              obtain ⟨x7, ex7⟩ : ∃ z : Int32, z = i_6 + 1 := ⟨_, rfl⟩
              refine lv_iinc (k := 6) (v := x7) hx hb d_Rn_takeFitting_62 hl rfl ex7.symm (by decide) rfl (fun ls hl => ?_)
              have hl : lv_has ls 7 [(6, .int x7), (3, .int i_6), (2, .int i_4), (0, .ref (ad 13)), (1, .ref (ad (53 + 7 * d))), (4, .int i_4), (5, .int i_5)] := hl
              try have fx7 : x7.toInt = i_6.toInt + 1 := by rw [ex7]; exact ti_add (by (try rw [show (1 : Int32).toInt = 1 from rfl]); omega) (by (try rw [show (1 : Int32).toInt = 1 from rfl]); omega)
              refine lv_goto hx hb d_Rn_takeFitting_65 rfl ?_
              exact ih39 ((i_6.toInt - x7.toInt).toNat) (by omega) i_4 i_6 i_5 x7 Mc39 _ _ ls rfl (show 0 ≤ x7.toInt from by first | omega | assumption | exact Or.inl rfl | exact Or.inr rfl | rfl | decide) (show i_4.toInt < 8 from by first | omega | assumption | exact Or.inl rfl | exact Or.inr rfl | rfl | decide) hP hI hF hS (lv_sub hl [3, 4, 2, 1, 5, 6, 0] rfl)
      refine lv_iload hx hb d_Rn_takeFitting_8 (lv_at hl 4 rfl) ?_
      refine lv_aload_n hx hb d_Rn_takeFitting_10 rfl (lv_at hl 1 rfl) ?_
      refine ux_getN (C := R_Lv) (T := F_Lv) (N := 10) hx hb hT in_Lv hown hK hP (lk 53 (by decide) hd) (L53 hd) rfl 4 (by decide) (hN _ nf_Rn_83) rfl d_Rn_takeFitting_11 ?_
      have b8 := iv0 (M := Mc8) (a := 53 + 7 * d) (b := 4) hI (by unfold p0; omega)
      have b9 := iv8 (M := Mc8) (a := 53 + 7 * d) (b := 4) hI (by unfold p8; omega)
      refine lv_icmp_ge hx hb d_Rn_takeFitting_14 rfl (fun h10 => ?_) (fun h10 => ?_)
      · have g10 : (Mc8 (53 + 7 * d) 4).toInt ≤ i_4.toInt := Int32.le_iff_toInt_le.mp h10
        have u10 := ti_hi i_4
        have w10 := ti_lo (Mc8 (53 + 7 * d) 4)
        refine lv_iload_n hx hb d_Rn_takeFitting_74 rfl (lv_at hl 2 rfl) ?_
        refine lv_iconst (v := (-1)) hx hb d_Rn_takeFitting_75 (by decide) ?_
        refine lv_icmp_eq hx hb d_Rn_takeFitting_76 rfl (fun h11 => ?_) (fun h11 => ?_)
        · have g11 : i_2.toInt = (-1) := congrArg Int32.toInt h11
          refine lv_iload_n hx hb d_Rn_takeFitting_91 rfl (lv_at hl 2 rfl) ?_
          exact W.iret (v := i_2) hx hb hr (fun t ht hW => ⟨⟨i_2, Mc8, rfl, ⟨hI, hF, trivial⟩, by unfold ux_E; rw [ht]; exact hP⟩, hS.F ht⟩) hS.2.2 d_Rn_takeFitting_92
        · have g11 : ¬ (i_2.toInt = (-1)) := fun q => h11 (Int32.toInt_inj.mp q)
          refine lv_aload_n hx hb d_Rn_takeFitting_79 rfl (lv_at hl 0 rfl) ?_
          refine ux_get (C := R_Rn) (T := F_Rn) (N := 9) hx hb hT in_Rn hown hK hP (by decide) rfl rfl 1 (by decide) (hT _ fl_Rn_44) rfl d_Rn_takeFitting_80 ?_
          refine ux_getN (C := R_Pe) (T := F_Pe) (N := 10) hx hb hT in_Pe hown hK hP (by decide) rfl rfl 8 (by decide) (hN _ nf_Rn_332) rfl d_Rn_takeFitting_83 ?_
          refine lv_iconst (v := 0) hx hb d_Rn_takeFitting_86 (by decide) ?_
          refine lv_iload_n hx hb d_Rn_takeFitting_87 rfl (lv_at hl 3 rfl) ?_
          refine ux_callv (va_runV ⟨hx, hb, hml, hown, hts⟩ (s_Vl_dropFirst l D ad cA Mc8 hI 8 9 10 1 vV_buf 0 i_3) (cwV 2 hts (tb_goodV ml_Rn_335 im_Vl_dropFirst se_Vl_dropFirst ii_Vl kt_Vl_dropFirst) rfl rfl rfl (by decide +kernel) ⟨Nat.le_of_ble_eq_true rfl, Nat.le_of_ble_eq_true rfl⟩) (ux_preV (by decide) rfl rfl hP hK hi hN) rfl rfl hl.1 rfl (lv_room (Nat.le_of_ble_eq_true rfl)) d_Rn_takeFitting_88 ⟨Nat.zero_le _, Nat.zero_le _⟩) hS (fun M13 H locs q14 hP hS => ?_)
          obtain ⟨hI, fq14, q14p⟩ := q14
          have hF := fr_call hF fq14 (fun a b q => by unfold tV at q; unfold tV; omega)
          refine lv_iload_n hx hb d_Rn_takeFitting_91 rfl (lv_at hl 2 rfl) ?_
          exact W.iret (v := i_2) hx hb hr (fun t ht hW => ⟨⟨i_2, M13, rfl, ⟨hI, hF, trivial⟩, by unfold ux_E; rw [ht]; exact hP⟩, hS.F ht⟩) hS.2.2 d_Rn_takeFitting_92
      · have g10 : ¬ ((Mc8 (53 + 7 * d) 4).toInt ≤ i_4.toInt) := fun q => h10 (Int32.le_iff_toInt_le.mpr q)
        have u10 := ti_hi (Mc8 (53 + 7 * d) 4)
        have w10 := ti_lo i_4
        refine lv_aload_n hx hb d_Rn_takeFitting_17 rfl (lv_at hl 0 rfl) ?_
        refine ux_get (C := R_Rn) (T := F_Rn) (N := 9) hx hb hT in_Rn hown hK hP (by decide) rfl rfl 1 (by decide) (hT _ fl_Rn_44) rfl d_Rn_takeFitting_18 ?_
        refine ux_getN (C := R_Pe) (T := F_Pe) (N := 10) hx hb hT in_Pe hown hK hP (by decide) rfl rfl 8 (by decide) (hN _ nf_Rn_332) rfl d_Rn_takeFitting_21 ?_
        refine lv_iconst (v := 0) hx hb d_Rn_takeFitting_24 (by decide) ?_
        refine lv_aload_n hx hb d_Rn_takeFitting_25 rfl (lv_at hl 1 rfl) ?_
        refine ux_getN (C := R_Lv) (T := F_Lv) (N := 10) hx hb hT in_Lv hown hK hP (lk 53 (by decide) hd) (L53 hd) rfl 0 (by decide) (hN _ nf_Rn_145) rfl d_Rn_takeFitting_26 ?_
        refine lv_iload hx hb d_Rn_takeFitting_29 (lv_at hl 4 rfl) ?_
        refine ux_calli (va_runV ⟨hx, hb, hml, hown, hts⟩ (s_Vl_fittingBeginnings l D ad cA Mc8 hI 8 9 10 1 vV_buf (54 + 7 * d) (55 + 7 * d) (56 + 7 * d) 8 (vV_lv hd) 0 i_4) (cwV 3 hts (tb_goodV ml_Rn_254 im_Vl_fittingBeginnings se_Vl_fittingBeginnings ii_Vl kt_Vl_fittingBeginnings) rfl rfl rfl (by decide +kernel) ⟨Nat.le_of_ble_eq_true rfl, Nat.le_of_ble_eq_true rfl⟩) (ux_preV (by decide) rfl rfl hP hK hi hN) rfl rfl hl.1 rfl (lv_room (Nat.le_of_ble_eq_true rfl)) d_Rn_takeFitting_31 ⟨Nat.zero_le _, Nat.zero_le _⟩) hS (fun r15 M16 H locs q17 hP hS => ?_)
        obtain ⟨hI, fq17, q17p⟩ := q17
        rw [tN_eq fq17] at hP hI
        refine lv_istore hx hb d_Rn_takeFitting_34 hl (by decide) rfl (fun ls hl => ?_)
        have hl : lv_has ls 7 [(5, .int r15), (0, .ref (ad 13)), (1, .ref (ad (53 + 7 * d))), (2, .int i_2), (3, .int i_3), (4, .int i_4)] := hl
        refine lv_iconst (v := 0) hx hb d_Rn_takeFitting_36 (by decide) ?_
        refine lv_istore hx hb d_Rn_takeFitting_37 hl (by decide) rfl (fun ls hl => ?_)
        have hl : lv_has ls 7 [(6, .int 0), (5, .int r15), (0, .ref (ad 13)), (1, .ref (ad (53 + 7 * d))), (2, .int i_2), (3, .int i_3), (4, .int i_4)] := hl
        exact cut39 ((i_3.toInt - 0).toNat) i_2 i_3 r15 0 Mc8 _ _ ls rfl (show 0 ≤ 0 from by first | omega | assumption | exact Or.inl rfl | exact Or.inr rfl | rfl | decide) (show i_4.toInt < 8 from by first | omega | assumption | exact Or.inl rfl | exact Or.inr rfl | rfl | decide) hP hI hF hS (lv_sub hl [2, 3, 4, 5, 6, 1, 0] rfl)
  refine lv_iconst (v := (-1)) hx hb d_Rn_takeFitting_0 (by decide) ?_
  refine lv_istore_n hx hb d_Rn_takeFitting_1 rfl hl (by decide) rfl (fun ls hl => ?_)
  have hl : lv_has ls 7 [(2, .int (-1)), (0, .ref (ad 13)), (1, .ref (ad (53 + 7 * d)))] := hl
  refine lv_bipush (v := 21) hx hb d_Rn_takeFitting_2 (by decide) ?_
  refine lv_istore_n hx hb d_Rn_takeFitting_4 rfl hl (by decide) rfl (fun ls hl => ?_)
  have hl : lv_has ls 7 [(3, .int 21), (2, .int (-1)), (0, .ref (ad 13)), (1, .ref (ad (53 + 7 * d)))] := hl
  refine lv_iconst (v := 2) hx hb d_Rn_takeFitting_5 (by decide) ?_
  refine lv_istore hx hb d_Rn_takeFitting_6 hl (by decide) rfl (fun ls hl => ?_)
  have hl : lv_has ls 7 [(4, .int 2), (3, .int 21), (2, .int (-1)), (0, .ref (ad 13)), (1, .ref (ad (53 + 7 * d)))] := hl
  exact cut8 (((8 : Int) - 2).toNat) (-1) 21 2 M _ _ ls rfl (show 0 ≤ 2 from by first | omega | assumption | exact Or.inl rfl | exact Or.inr rfl | rfl | decide) hP hI hF hS (lv_sub hl [3, 4, 2, 1, 0] rfl)
