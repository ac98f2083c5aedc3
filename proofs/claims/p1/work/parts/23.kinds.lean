/-! the kinds at the start; written by wip/gen/law.py -/
theorem ao_Vl : (Cond.arrayOver (.object "PeerScripts$Values")) ∈ lw_tbl := List.mem_append_right _ (List.mem_append_left _ (List.mem_of_getElem? (i := 130) rfl))
theorem ao_Lv : (Cond.arrayOver (.object "PeerScripts$Level")) ∈ lw_tbl := List.mem_append_right _ (List.mem_append_left _ (List.mem_of_getElem? (i := 168) rfl))
theorem lx_kinds {s : State} {a : Array Value} (hts : ∀ w ∈ lw_tbl, w.before a s = true) : ∃ (D : va_G) (cA : Nat → ClassId), va_K D classes (ux_t cA) s := by
  have hT : ∀ w ∈ tb, w.before a s = true := fun w h => hts w (List.mem_filter.mp h).1
  obtain ⟨c0, i0, k0⟩ := u_known hT in_PS (hT _ it_PS)
  obtain ⟨c1, i1, k1⟩ := u_known hT in_Tx (hT _ it_Tx)
  obtain ⟨c2, i2, k2⟩ := u_known hT in_Pe (hT _ it_Pe)
  obtain ⟨c3, i3, k3⟩ := u_known hT in_Lg (hT _ it_Lg)
  obtain ⟨c4, i4, k4⟩ := u_known hT in_Vl (hT _ it_Vl)
  obtain ⟨c5, i5, k5⟩ := u_known hT in_Rn (hT _ it_Rn)
  obtain ⟨c6, i6, k6⟩ := u_known hT in_Vs (hT _ it_Vs)
  obtain ⟨c7, i7, k7⟩ := u_known hT in_Pd (hT _ it_Pd)
  obtain ⟨c8, i8, k8⟩ := u_known hT in_Sm (hT _ it_Sm)
  obtain ⟨c9, i9, k9⟩ := u_known hT in_Lv (hT _ it_Lv)
  obtain ⟨c10, i10, k10⟩ := u_known hT in_Md (hT _ it_Md)
  obtain ⟨a0, ka0, co0, x0, y0, z0⟩ := Cond.arrayClass_spec (hT _ ac_int)
  obtain ⟨a1, ka1, co1, x1, y1, z1⟩ := Cond.arrayClass_spec (hT _ ac_char)
  obtain ⟨a2, ka2, co2, x2, y2, z2⟩ := Cond.arrayClass_spec (hT _ ac_boolean)
  obtain ⟨co3, a3, ka3, w3, -, y3, z3, x3⟩ := Cond.arrayOver_spec (hts _ ao_Vl)
  obtain ⟨co4, a4, ka4, w4, -, y4, z4, x4⟩ := Cond.arrayOver_spec (hts _ ao_Lv)
  refine ⟨(fun k => match k with | 0 => c0 | 1 => c1 | 2 => c2 | 3 => c3 | 4 => c4 | 5 => c5 | 6 => c6 | 7 => c7 | 8 => c8 | 9 => c9 | _ => c10, fun k => match k with | 0 => i0 | 1 => i1 | 2 => i2 | 3 => i3 | 4 => i4 | 5 => i5 | 6 => i6 | 7 => i7 | 8 => i8 | 9 => i9 | _ => i10), fun k => match k with | 0 => a0 | 1 => a1 | 2 => a2 | 3 => a3 | _ => a4, ?_, ?_⟩
  · intro c q hq
    rcases c with _ | c
    · cases hq; exact k0
    rcases c with _ | c
    · cases hq; exact k1
    rcases c with _ | c
    · cases hq; exact k2
    rcases c with _ | c
    · cases hq; exact k3
    rcases c with _ | c
    · cases hq; exact k4
    rcases c with _ | c
    · cases hq; exact k5
    rcases c with _ | c
    · cases hq; exact k6
    rcases c with _ | c
    · cases hq; exact k7
    rcases c with _ | c
    · cases hq; exact k8
    rcases c with _ | c
    · cases hq; exact k9
    rcases c with _ | c
    · cases hq; exact k10
    cases hq
  · intro k q hq
    rcases k with _ | k
    · cases hq; exact ⟨fun n z => ⟨fun k h => (by cases h), ka0, y0, co0, z0⟩, x0⟩
    rcases k with _ | k
    · cases hq; exact ⟨fun n z => ⟨fun k h => (by cases h), ka1, y1, co1, z1⟩, x1⟩
    rcases k with _ | k
    · cases hq; exact ⟨fun n z => ⟨fun k h => (by cases h), ka2, y2, co2, z2⟩, x2⟩
    rcases k with _ | k
    · cases hq; exact ⟨fun n z => ⟨fun k h => (by cases h), ka3, y3, co3, z3⟩, ⟨ka3, co3, y3, z3, w3, x3⟩⟩
    rcases k with _ | k
    · cases hq; exact ⟨fun n z => ⟨fun k h => (by cases h), ka4, y4, co4, z4⟩, ⟨ka4, co4, y4, z4, w4, x4⟩⟩
    cases hq
