/-! Contracts over the world by table: start, end, calls. -/
def ux_N (U : State) : Prop := ∀ w ∈ nw, va_Nw w U
theorem ux_N.same {u U : State} (h : u.vm = U.vm) (q : ux_N u) : ux_N U := fun w hw => va_Nw.same (nw_on w hw) h (q w hw)
theorem ux_N.warm {s U : State} (hW : s.WarmedH U.vm) (q : ux_N s) : ux_N U := by
  intro w hw
  have h := q w hw
  rcases nw_kind w hw with ⟨a, i, b, n, d, h', rfl⟩ | ⟨a, i, x, h', rfl⟩
  · exact va_Nw.warmF hW h
  · exact va_Nw.warmM hW h
/-- what a contract takes as given at its start -/
def ux_B (D : va_G) (sh : Nat → ux_S) (K : Nat) (ad : Nat → Nat) (cA : Nat → ClassId) (M : ux_M) (U : State) : Prop :=
  va_P D classes (ux_w sh K ad cA M) U.heap ∧ va_K D classes (ux_t cA) U ∧ ux_inj K ad ∧ ux_N U
/-- the world at a contract's end -/
def ux_E (D : va_G) (sh : Nat → ux_S) (K : Nat) (ad : Nat → Nat) (cA : Nat → ClassId) (M : ux_M) (U : State) : Prop := va_P D classes (ux_w sh K ad cA M) U.heap
section UXC
variable {p : Program} {l : Launch} {e : Env} {R : Room} {s : State} {m : MethodId} {args : Array Value} {below : List Frame} {meth : Method} {c : Code} {H : Heap} {locs : List Loc} {cells slots : Nat} {Q : State → Prop}
variable {cc : ByteArray} {pc : Nat} {ls : Array Slot} {rest st0 : List Value} {D : va_G} {sh : Nat → ux_S} {K : Nat} {ad : Nat → Nat} {cA : Nat → ClassId} {M : ux_M} {H0 : Heap}
theorem ux_blind {av : List Value} : FrameBlind (va_Pc av (ux_B D sh K ad cA M)) := by
  intro a U g mk q
  obtain ⟨q0, qP, qK, qi, qN⟩ := q
  exact ⟨q0, qP, va_K.moved (u := U) (U := U.calling g mk a) (Vm.Alike.refl U.vm) qK, qi, ux_N.same (u := U) (U := U.calling g mk a) rfl qN⟩
theorem ux_pre {As : List Value} (hP : va_P D classes (ux_w sh K ad cA M) H) (hK : va_K D classes (ux_t cA) s) (hi : ux_inj K ad) (hN : ux_N s) : PreS s H (va_Pc As (ux_B D sh K ad cA M)) As :=
  ⟨ux_blind, fun _ hU hW => ⟨rfl, by rw [hU]; exact hP, va_K.moved hW.alike hK, hi, hN.warm hW⟩⟩
theorem ux_preV {As : List Value} {C : String} {T : u_T} {N ci k : Nat} {fs : List (Option Nat)} (hk : k < K) (hs : sh k = .inl (ci, fs)) (hc : classes[ci]? = some (C, T, N)) (hP : va_P D classes (ux_w sh K ad cA M) H) (hK : va_K D classes (ux_t cA) s) (hi : ux_inj K ad) (hN : ux_N s) : PreV s H C (ad k) (va_Pc (.ref (ad k) :: As) (ux_B D sh K ad cA M)) As :=
  ⟨ux_blind, va_recv hK hP hc (by rw [ux_w_at hk, hs]; rfl), fun _ hU hW => ⟨rfl, by rw [hU]; exact hP, va_K.moved hW.alike hK, hi, hN.warm hW⟩⟩
theorem ux_calli {a : Array Value} {post : Int32 → ux_M → Prop} (hr : va_Run p l e R s m args below meth c H locs cells slots 0 0 (F0 m pc ls st0) rest (va_Qi post (ux_E D sh K ad cA) (ux_A K ad) a) (ux_A K ad)) (hS : va_S (ux_A K ad) H0 H locs)
    (kk : ∀ (r : Int32) (M1 : ux_M) (H1 : Heap) (locs1 : List Loc), post r M1 → va_P D classes (ux_w sh K ad cA M1) H1 → va_S (ux_A K ad) H0 H1 locs1 → W p l e R s m args below meth c H1 locs1 cells slots Q (F0 m (pc + 3) ls (.int r :: rest))) : W p l e R s m args below meth c H locs cells slots Q (F0 m pc ls st0) :=
  va_calli hr hS (fun _ _ h => h) (fun _ h => h) (fun r u t H1 locs1 ht _ hp hB _ _ hS1 => kk r u H1 locs1 hp (by subst ht; exact hB) hS1)
theorem ux_callv {a : Array Value} {post : ux_M → Prop} (hr : va_Run p l e R s m args below meth c H locs cells slots 0 0 (F0 m pc ls st0) rest (va_Qv post (ux_E D sh K ad cA) (ux_A K ad) a) (ux_A K ad)) (hS : va_S (ux_A K ad) H0 H locs)
    (kk : ∀ (M1 : ux_M) (H1 : Heap) (locs1 : List Loc), post M1 → va_P D classes (ux_w sh K ad cA M1) H1 → va_S (ux_A K ad) H0 H1 locs1 → W p l e R s m args below meth c H1 locs1 cells slots Q (F0 m (pc + 3) ls rest)) : W p l e R s m args below meth c H locs cells slots Q (F0 m pc ls st0) :=
  va_callv hr hS (fun _ _ h => h) (fun _ h => h) (fun u t H1 locs1 ht _ hp hB _ _ hS1 => kk u H1 locs1 hp (by subst ht; exact hB) hS1)
theorem ux_callr {a : Array Value} {post : ux_M → Prop} {cell : Nat} (hr : va_Run p l e R s m args below meth c H locs cells slots 0 0 (F0 m pc ls st0) rest (va_Qr post (fun M1 q t => q = ad cell ∧ ux_E D sh K ad cA M1 t) (ux_A K ad) a) (ux_A K ad)) (hS : va_S (ux_A K ad) H0 H locs)
    (kk : ∀ (M1 : ux_M) (H1 : Heap) (locs1 : List Loc), post M1 → va_P D classes (ux_w sh K ad cA M1) H1 → va_S (ux_A K ad) H0 H1 locs1 → W p l e R s m args below meth c H1 locs1 cells slots Q (F0 m (pc + 3) ls (.ref (ad cell) :: rest))) : W p l e R s m args below meth c H locs cells slots Q (F0 m pc ls st0) :=
  va_callr hr hS (fun _ _ h => h) (fun _ h => h) (fun u q t H1 locs1 ht _ hp hB _ _ hS1 => by
    obtain ⟨rfl, hB⟩ := hB
    exact kk u H1 locs1 hp (by subst ht; exact hB) hS1)
end UXC
theorem tb_goodV {c d : Cond} {own C : String} {idx : Nat} {y : MethodName} (h1 : Cond.methodLink own idx y ∈ tb) (h2 : Cond.instanceMethod y ∈ tb) (h3 : Cond.selects C y y ∈ tb) (h4 : Cond.initialized C ∈ tb) (hd : d ∈ tb) : GoodIn (c :: tb) (wsV own idx C y (d :: tb)) := by
  intro w hw
  have hw : w ∈ ([.methodLink own idx y, .instanceMethod y, .selects C y y, .initialized C] : List Cond) ++ (d :: tb) := hw
  have hin : w ∈ tb := by
    rcases List.mem_append.mp hw with h | h
    · simp only [List.mem_cons, List.not_mem_nil, or_false] at h
      rcases h with rfl | rfl | rfl | rfl <;> assumption
    · rcases List.mem_cons.mp h with rfl | h
      · exact hd
      · exact h
  exact ⟨List.mem_cons_of_mem _ hin, good_of_word (List.mem_filter.mp hin).2⟩
theorem tb_goodS {c d : Cond} {own : String} {idx : Nat} {y : MethodName} (h1 : Cond.methodLink own idx y ∈ tb) (h2 : Cond.static y ∈ tb) (h3 : Cond.initialized own ∈ tb) (hd : d ∈ tb) : GoodIn (c :: tb) (wsS own idx y (d :: tb)) := by
  intro w hw
  have hw : w ∈ ([.methodLink own idx y, .static y, .initialized own] : List Cond) ++ (d :: tb) := hw
  have hin : w ∈ tb := by
    rcases List.mem_append.mp hw with h | h
    · simp only [List.mem_cons, List.not_mem_nil, or_false] at h
      rcases h with rfl | rfl | rfl <;> assumption
    · rcases List.mem_cons.mp h with rfl | h
      · exact hd
      · exact h
  exact ⟨List.mem_cons_of_mem _ hin, good_of_word (List.mem_filter.mp hin).2⟩
