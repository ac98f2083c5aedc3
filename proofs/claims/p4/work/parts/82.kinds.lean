/-! the kinds and strings at the start; written by wip/gen/law2.py -/
theorem ao_Vl : (Cond.arrayOver (.object "PeerScripts$Values")) ∈ lw_tbl := List.mem_append_right _ (List.mem_append_left _ (List.mem_of_getElem? (i := 130) rfl))
theorem ao_Lv : (Cond.arrayOver (.object "PeerScripts$Level")) ∈ lw_tbl := List.mem_append_right _ (List.mem_append_left _ (List.mem_of_getElem? (i := 168) rfl))
theorem lx_kinds {s : State} {a : Array Value} (hts : ∀ w ∈ lw_tbl, w.before a s = true) : ∃ (D : va_G) (cA : Nat → ClassId), va_K D classes (ux_t cA) s := by
  have hT : ∀ w ∈ tb, w.before a s = true := fun w h => hts w (List.mem_filter.mp h).1
  obtain ⟨c0, i0, k0⟩ := u_known hT in_PS (hT _ it_PS)
  obtain ⟨c1, i1, k1⟩ := u_known hT in_Tx (hT _ it_Tx)
  obtain ⟨c2, i2, k2⟩ := u_known hT in_Pe (hT _ it_Pe)
  obtain ⟨c3, i3, k3⟩ := u_known hT in_Lg (hT _ it_Lg)
  obtain ⟨c4, i4, k4⟩ := u_known hT in_Vl (hT _ it_Vl)
  obtain ⟨c5, i5, k5⟩ := u_known hT in_Rn (hT _ it_Rn)
  obtain ⟨c6, i6, k6⟩ := u_known hT in_Vs (hT _ it_Vs)
  obtain ⟨c7, i7, k7⟩ := u_known hT in_Pd (hT _ it_Pd)
  obtain ⟨c8, i8, k8⟩ := u_known hT in_Sm (hT _ it_Sm)
  obtain ⟨c9, i9, k9⟩ := u_known hT in_Lv (hT _ it_Lv)
  obtain ⟨c10, i10, k10⟩ := u_known hT in_Md (hT _ it_Md)
  obtain ⟨a0, ka0, co0, x0, y0, z0⟩ := Cond.arrayClass_spec (hT _ ac_int)
  obtain ⟨a1, ka1, co1, x1, y1, z1⟩ := Cond.arrayClass_spec (hT _ ac_char)
  obtain ⟨a2, ka2, co2, x2, y2, z2⟩ := Cond.arrayClass_spec (hT _ ac_boolean)
  obtain ⟨co3, a3, ka3, w3, -, y3, z3, x3⟩ := Cond.arrayOver_spec (hts _ ao_Vl)
  obtain ⟨co4, a4, ka4, w4, -, y4, z4, x4⟩ := Cond.arrayOver_spec (hts _ ao_Lv)
  refine ⟨(fun k => match k with | 0 => c0 | 1 => c1 | 2 => c2 | 3 => c3 | 4 => c4 | 5 => c5 | 6 => c6 | 7 => c7 | 8 => c8 | 9 => c9 | _ => c10, fun k => match k with | 0 => i0 | 1 => i1 | 2 => i2 | 3 => i3 | 4 => i4 | 5 => i5 | 6 => i6 | 7 => i7 | 8 => i8 | 9 => i9 | _ => i10), fun k => match k with | 0 => a0 | 1 => a1 | 2 => a2 | 3 => a3 | _ => a4, ?_, ?_⟩
  · intro c q hq
    rcases c with _ | c
    · cases hq; exact k0
    rcases c with _ | c
    · cases hq; exact k1
    rcases c with _ | c
    · cases hq; exact k2
    rcases c with _ | c
    · cases hq; exact k3
    rcases c with _ | c
    · cases hq; exact k4
    rcases c with _ | c
    · cases hq; exact k5
    rcases c with _ | c
    · cases hq; exact k6
    rcases c with _ | c
    · cases hq; exact k7
    rcases c with _ | c
    · cases hq; exact k8
    rcases c with _ | c
    · cases hq; exact k9
    rcases c with _ | c
    · cases hq; exact k10
    cases hq
  · intro k q hq
    rcases k with _ | k
    · cases hq; exact ⟨fun n z => ⟨fun k h => (by cases h), ka0, y0, co0, z0⟩, x0⟩
    rcases k with _ | k
    · cases hq; exact ⟨fun n z => ⟨fun k h => (by cases h), ka1, y1, co1, z1⟩, x1⟩
    rcases k with _ | k
    · cases hq; exact ⟨fun n z => ⟨fun k h => (by cases h), ka2, y2, co2, z2⟩, x2⟩
    rcases k with _ | k
    · cases hq; exact ⟨fun n z => ⟨fun k h => (by cases h), ka3, y3, co3, z3⟩, ⟨ka3, co3, y3, z3, w3, x3⟩⟩
    rcases k with _ | k
    · cases hq; exact ⟨fun n z => ⟨fun k h => (by cases h), ka4, y4, co4, z4⟩, ⟨ka4, co4, y4, z4, w4, x4⟩⟩
    cases hq
set_option maxRecDepth 100000 in
theorem st_ex : ∀ i, i < 16 → Cond.exactly (Term.string "PeerScripts$Runner" (idxS.getD i 0)) "java/lang/String" ∈ flatC (Jvm.Cond.and given_1 narrow_1) := by decide +kernel
set_option maxRecDepth 100000 in
theorem st_co : ∀ i, i < 16 → Cond.eq (.field (Term.string "PeerScripts$Runner" (idxS.getD i 0)) "java/lang/String" "coder" "B") (.int 0) ∈ flatC (Jvm.Cond.and given_1 narrow_1) := by decide +kernel
set_option maxRecDepth 100000 in
theorem st_ar : ∀ i, i < 16 → Cond.arrayOf (.field (Term.string "PeerScripts$Runner" (idxS.getD i 0)) "java/lang/String" "value" "[B") .byte ∈ flatC (Jvm.Cond.and given_1 narrow_1) := by decide +kernel
set_option maxRecDepth 100000 in
theorem st_le : ∀ i, i < 16 → Cond.eq (.length (.field (Term.string "PeerScripts$Runner" (idxS.getD i 0)) "java/lang/String" "value" "[B")) (.int (Int32.ofNat (lenS.getD i 0))) ∈ flatC (Jvm.Cond.and given_1 narrow_1) := by decide +kernel
set_option maxRecDepth 100000 in
theorem st_el : ∀ i, i < 16 → ∀ j, j < lenS.getD i 0 → Cond.eq (.elem (.field (Term.string "PeerScripts$Runner" (idxS.getD i 0)) "java/lang/String" "value" "[B") (.int (Int32.ofNat j))) (.int ((bytS.getD i []).getD j 0)) ∈ flatC (Jvm.Cond.and given_1 narrow_1) := by decide +kernel
set_option maxRecDepth 100000 in
theorem st_ne : ∀ i, i < 16 → ∀ j, j < i → Cond.not (Cond.eq (Term.string "PeerScripts$Runner" (idxS.getD j 0)) (Term.string "PeerScripts$Runner" (idxS.getD i 0))) ∈ flatC (Jvm.Cond.and given_1 narrow_1) := by decide +kernel
set_option maxRecDepth 100000 in
theorem st_cs : Cond.eq (.static "java/lang/String" "COMPACT_STRINGS" "Z") (.int 1) ∈ flatC (Jvm.Cond.and given_1 narrow_1) := by decide +kernel
set_option maxRecDepth 100000 in
theorem st_fm : Cond.isRef (.static "jdk/internal/util/Preconditions" "SIOOBE_FORMATTER" "Ljava/util/function/BiFunction;") ∈ flatC (Jvm.Cond.and given_1 narrow_1) := by decide +kernel
theorem st_r0 : Cond.stringRef "PeerScripts$Runner" 203 "sielm?*pgrbcxk><" ∈ lw_tbl := (List.mem_append_right _ (List.mem_append_right _ (List.mem_append_right _ (List.mem_append_left _ (List.mem_of_getElem? (i := 0) rfl)))))
theorem st_r1 : Cond.stringRef "PeerScripts$Runner" 208 "v" ∈ lw_tbl := (List.mem_append_right _ (List.mem_append_right _ (List.mem_append_right _ (List.mem_append_left _ (List.mem_of_getElem? (i := 86) rfl)))))
theorem st_r2 : Cond.stringRef "PeerScripts$Runner" 210 "vx" ∈ lw_tbl := (List.mem_append_right _ (List.mem_append_right _ (List.mem_append_right _ (List.mem_append_left _ (List.mem_of_getElem? (i := 87) rfl)))))
theorem st_r3 : Cond.stringRef "PeerScripts$Runner" 212 "vn" ∈ lw_tbl := (List.mem_append_right _ (List.mem_append_right _ (List.mem_append_right _ (List.mem_append_left _ (List.mem_of_getElem? (i := 88) rfl)))))
theorem st_r4 : Cond.stringRef "PeerScripts$Runner" 214 "c" ∈ lw_tbl := (List.mem_append_right _ (List.mem_append_right _ (List.mem_append_right _ (List.mem_append_left _ (List.mem_of_getElem? (i := 89) rfl)))))
theorem st_r5 : Cond.stringRef "PeerScripts$Runner" 216 "xx" ∈ lw_tbl := (List.mem_append_right _ (List.mem_append_right _ (List.mem_append_right _ (List.mem_append_left _ (List.mem_of_getElem? (i := 90) rfl)))))
theorem st_r6 : Cond.stringRef "PeerScripts$Runner" 218 "cw" ∈ lw_tbl := (List.mem_append_right _ (List.mem_append_right _ (List.mem_append_right _ (List.mem_append_left _ (List.mem_of_getElem? (i := 91) rfl)))))
theorem st_r7 : Cond.stringRef "PeerScripts$Runner" 220 "cww" ∈ lw_tbl := (List.mem_append_right _ (List.mem_append_right _ (List.mem_append_right _ (List.mem_append_left _ (List.mem_of_getElem? (i := 92) rfl)))))
theorem st_r8 : Cond.stringRef "PeerScripts$Runner" 222 "Nvw" ∈ lw_tbl := (List.mem_append_right _ (List.mem_append_right _ (List.mem_append_right _ (List.mem_append_left _ (List.mem_of_getElem? (i := 93) rfl)))))
theorem st_r9 : Cond.stringRef "PeerScripts$Runner" 224 "" ∈ lw_tbl := (List.mem_append_right _ (List.mem_append_right _ (List.mem_append_right _ (List.mem_append_left _ (List.mem_of_getElem? (i := 94) rfl)))))
theorem st_r10 : Cond.stringRef "PeerScripts$Runner" 226 "w" ∈ lw_tbl := (List.mem_append_right _ (List.mem_append_right _ (List.mem_append_right _ (List.mem_append_left _ (List.mem_of_getElem? (i := 95) rfl)))))
theorem st_r11 : Cond.stringRef "PeerScripts$Runner" 228 "wv" ∈ lw_tbl := (List.mem_append_right _ (List.mem_append_right _ (List.mem_append_right _ (List.mem_append_left _ (List.mem_of_getElem? (i := 96) rfl)))))
theorem st_r12 : Cond.stringRef "PeerScripts$Runner" 230 "nxw" ∈ lw_tbl := (List.mem_append_right _ (List.mem_append_right _ (List.mem_append_right _ (List.mem_append_left _ (List.mem_of_getElem? (i := 97) rfl)))))
theorem st_r13 : Cond.stringRef "PeerScripts$Runner" 232 "nxwxw" ∈ lw_tbl := (List.mem_append_right _ (List.mem_append_right _ (List.mem_append_right _ (List.mem_append_left _ (List.mem_of_getElem? (i := 98) rfl)))))
theorem st_r14 : Cond.stringRef "PeerScripts$Runner" 234 "nxwxwxw" ∈ lw_tbl := (List.mem_append_right _ (List.mem_append_right _ (List.mem_append_right _ (List.mem_append_left _ (List.mem_of_getElem? (i := 99) rfl)))))
theorem st_r15 : Cond.stringRef "PeerScripts$Runner" 236 "x" ∈ lw_tbl := (List.mem_append_right _ (List.mem_append_right _ (List.mem_append_right _ (List.mem_append_left _ (List.mem_of_getElem? (i := 100) rfl)))))
theorem st_cl : Cond.laysStatic "java/lang/String" "COMPACT_STRINGS" "Z" ∈ lw_tbl := (List.mem_append_right _ (List.mem_append_right _ (List.mem_append_right _ (List.mem_append_left _ (List.mem_of_getElem? (i := 14) rfl)))))
theorem st_li : Cond.initialized "java/lang/String" ∈ lw_tbl := (List.mem_append_right _ (List.mem_append_left _ (List.mem_of_getElem? (i := 15) rfl)))
theorem st_ps : Cond.laysStatic "jdk/internal/util/Preconditions" "SIOOBE_FORMATTER" "Ljava/util/function/BiFunction;" ∈ lw_tbl := (List.mem_append_right _ (List.mem_append_right _ (List.mem_append_right _ (List.mem_append_left _ (List.mem_of_getElem? (i := 53) rfl)))))
theorem st_pi : Cond.initialized "jdk/internal/util/Preconditions" ∈ lw_tbl := (List.mem_append_right _ (List.mem_append_left _ (List.mem_of_getElem? (i := 18) rfl)))
theorem st_rr {s : State} {a : Array Value} (hts : ∀ w ∈ lw_tbl, w.before a s = true) : ∀ i, i < 16 → (Cond.stringRef "PeerScripts$Runner" (idxS.getD i 0) (txS.getD i "")).before a s = true := by
  intro i hi
  obtain rfl | rfl | rfl | rfl | rfl | rfl | rfl | rfl | rfl | rfl | rfl | rfl | rfl | rfl | rfl | rfl : i = 0 ∨ i = 1 ∨ i = 2 ∨ i = 3 ∨ i = 4 ∨ i = 5 ∨ i = 6 ∨ i = 7 ∨ i = 8 ∨ i = 9 ∨ i = 10 ∨ i = 11 ∨ i = 12 ∨ i = 13 ∨ i = 14 ∨ i = 15 := by omega
  · exact hts _ st_r0
  · exact hts _ st_r1
  · exact hts _ st_r2
  · exact hts _ st_r3
  · exact hts _ st_r4
  · exact hts _ st_r5
  · exact hts _ st_r6
  · exact hts _ st_r7
  · exact hts _ st_r8
  · exact hts _ st_r9
  · exact hts _ st_r10
  · exact hts _ st_r11
  · exact hts _ st_r12
  · exact hts _ st_r13
  · exact hts _ st_r14
  · exact hts _ st_r15
theorem lx_str {s : State} {a : Array Value} {A : Nat → Prop} (hg : (Jvm.Cond.and given_1 narrow_1).before a s = true) (hts : ∀ w ∈ lw_tbl, w.before a s = true) (hA : ∀ q : Nat, q < s.heap.size → ¬ A q) : ∃ (adK adV : Nat → Nat) (fm : Value), vk_S 16 lenS bytS adK adV A s s.heap ∧ va_Z "java/lang/String" "COMPACT_STRINGS" "Z" (.int 1) A s s.heap ∧ va_Z "jdk/internal/util/Preconditions" "SIOOBE_FORMATTER" "Ljava/util/function/BiFunction;" fm A s s.heap ∧ (fm = .null ∨ ∃ z, fm = .ref z) ∧ ∀ i, i < 16 → vk_R "PeerScripts$Runner" (idxS.getD i 0) (txS.getD i "") (adK i) s := by
  have hs := flat_of_before _ hg
  obtain ⟨adK, adV, h1, h2⟩ := vk_Sof (args := a) (s := s) (N := 16) (tm := fun i => Term.string "PeerScripts$Runner" (idxS.getD i 0)) (len := lenS) (byt := bytS) (A := A) (by decide) (fun i hi => hs _ (st_ex i hi)) (fun i hi => hs _ (st_co i hi)) (fun i hi => hs _ (st_ar i hi)) (fun i hi => hs _ (st_le i hi)) (fun i hi j hj => hs _ (st_el i hi j hj)) (fun i j hi hj hij => by
    by_cases q : i < j
    · exact Or.inl (hs _ (st_ne j hj i q))
    · exact Or.inr (hs _ (st_ne i hi j (by omega)))) hA
  have h3 := va_Zof (A := A) (hts _ st_cl) (hts _ st_li) (va_eqi (hs _ st_cs)) hA
  have h5 : ∀ i, i < 16 → vk_R "PeerScripts$Runner" (idxS.getD i 0) (txS.getD i "") (adK i) s := fun i hi => vk_R.of (st_rr hts i hi) (h2 i hi)
  rcases va_Zqof (A := A) (hts _ st_ps) (hts _ st_pi) (hs _ st_fm) hA with h | ⟨t, h⟩
  · exact ⟨adK, adV, .null, h1, h3, h, Or.inl rfl, h5⟩
  · exact ⟨adK, adV, .ref t, h1, h3, h, Or.inr ⟨t, rfl⟩, h5⟩
