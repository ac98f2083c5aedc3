/-! THE CLAIM OUT OF ONE WALK OF THE LAW'S BODY. Your part is whole_start (and what it stands on); all else here is the same for every law, but numbers. -/
def R_law : String := "PeerScriptsLaw"
def lw_P (b : Addr) (xs : List Int32) (args : Array Value) (s : State) : Prop := args = #[.ref b] ∧ s.IntsAt b xs ∧ xs.length ≤ 2560 ∧ (Jvm.Cond.and given_1 narrow_1).before args s = true
def lw_Q (_ : Array Value) (s : State) (o : Outcome) (t : State) : Prop := o = .returned (some (.int 1)) ∧ Framed s o t [] 600000 7302250
def lw_Z (below : List Frame) (a : Array Value) (s : State) : State → Prop := fun t => ∃ o, t.status = .running ∧ Ended t below o ∧ lw_Q a s o t
/-- the law's own end, with 1 on the stack, nothing written that was there before, its room as the claim has it -/
theorem lw_ret {p : Program} {l : Launch} {e : Env} {s : State} {m : MethodId} {below : List Frame} {meth : Method} {c : Code} {b : Nat} (hx : p.tables.exec = Jvm.exec) (hb : c.code = code) (hr : meth.sig.returnType = ret) (hlocks : meth.locks = false) {pc : Nat} {H : Heap} {ls : Array Slot} (hdg : decode code pc = .ok (.ireturn, 1)) : W p l e room_1 s m #[Value.ref b] below meth c H [] 600000 7302250 (lw_Z below #[Value.ref b] s) (F0 m pc ls [.int 1]) := by
  intro T hT X
  obtain ⟨fs, hret, hrun, hended, hW, hframe⟩ := X.leave (v := some (.int 1)) (hlocks := hlocks) (fun h => by rw [hr] at h; cases h)
  have hmeth' : T.vm.method? m = some meth := X.method'
  refine ⟨T.setFrames fs, ?_, .returned (some (.int 1)), hrun, hended, rfl, ⟨_, rfl⟩, hW, hframe⟩
  jvm_step X.here [X.here.top, hx, hb, hdg, hmeth', hr, ret, narrow_b1]
  (try refine ⟨rfl, ?_⟩); (try refine ⟨rfl, ?_⟩)
  first | (intro acts; rw [hret _ acts rfl rfl rfl]) | rw [hret _ _ rfl rfl rfl]
  exact Steps.refl _
/-- what holds at the law's entry: the machine, the code, the tables' words (any of lw_tbl by 'hts w (by decide +kernel)'), the script of L ints xs at the cell b, what the Statement gives of the start (any of its parts by flat_of_before) -/
def lw_At (p : Program) (s : State) (m : MethodId) (meth : Method) (c : Code) (b L : Nat) (xs : Nat → Int32) : Prop :=
  p.tables.exec = Jvm.exec ∧ c.code = code ∧ meth.sig.returnType = ret ∧ c.maxLocals = 4 ∧ s.vm.findClass R_law = some m.cls ∧ (∀ w ∈ lw_tbl, w.before #[Value.ref b] s = true) ∧ va_X b L xs s s.heap ∧ b < s.heap.size ∧ meth.locks = false ∧ (Jvm.Cond.and given_1 narrow_1).before #[Value.ref b] s = true
/-! The law's calls: two worlds side by side -/
theorem lx_and (a b : Nat) : nI a &&& nI b = nI (a &&& b) := by
  apply Int32.toBitVec_inj.1
  show BitVec.ofNat 32 a &&& BitVec.ofNat 32 b = BitVec.ofNat 32 (a &&& b)
  apply BitVec.eq_of_getLsbD_eq
  intro i hi
  simp [hi]
theorem lx_mod (k : Nat) : nI k &&& 15 = nI (k % 16) := by
  show nI k &&& nI 15 = _
  rw [lx_and, show (15 : Nat) = 2 ^ 4 - 1 from rfl, Nat.and_two_pow_sub_one_eq_mod]
theorem lx_mask (x : Int32) : ∃ k, k < 16 ∧ x &&& 15 = nI k := by
  have e : x = nI x.toBitVec.toNat := by
    apply Int32.toBitVec_inj.1
    show x.toBitVec = BitVec.ofNat 32 x.toBitVec.toNat
    simp
  refine ⟨x.toBitVec.toNat % 16, Nat.mod_lt _ (by omega), ?_⟩
  rw [← lx_mod, ← e]
theorem tb_goodV0 {d : Cond} {own C : String} {idx : Nat} {y : MethodName} (h1 : Cond.methodLink own idx y ∈ tb) (h2 : Cond.instanceMethod y ∈ tb) (h3 : Cond.selects C y y ∈ tb) (h4 : Cond.initialized C ∈ tb) (hd : d ∈ tb) : GoodIn tb (wsV own idx C y (d :: tb)) := by
  intro w hw
  have hw : w ∈ ([.methodLink own idx y, .instanceMethod y, .selects C y y, .initialized C] : List Cond) ++ (d :: tb) := hw
  have hin : w ∈ tb := by
    rcases List.mem_append.mp hw with h | h
    · simp only [List.mem_cons, List.not_mem_nil, or_false] at h
      rcases h with rfl | rfl | rfl | rfl <;> assumption
    · rcases List.mem_cons.mp h with rfl | h
      · exact hd
      · exact h
  exact ⟨hin, good_of_word (List.mem_filter.mp hin).2⟩
theorem tb_goodI {d : Cond} (hd : d ∈ tb) : GoodIn tb (d :: tb) := by
  intro w hw
  have hin : w ∈ tb := (List.mem_cons.mp hw).elim (fun e => e ▸ hd) id
  exact ⟨hin, good_of_word (List.mem_filter.mp hin).2⟩
theorem ux_w_in {sh : Nat → ux_S} {K : Nat} {ad : Nat → Nat} {cA : Nat → ClassId} {M : ux_M} {i : Nat} {q : Nat × va_E} (h : (ux_w sh K ad cA M)[i]? = some q) : i < K ∧ q.1 = ad i := by
  by_cases hi : i < K
  · rw [ux_w_at hi] at h; cases h; exact ⟨hi, rfl⟩
  · rw [ux_w_no hi] at h; cases h
theorem lx_pl {D : va_G} {cl : List vw_C} {a b : va_W} {H : Heap} (h : va_P D cl (a ++ b) H) : va_P D cl a H := fun k q hk => h k q (by rw [List.getElem?_append_left (List.getElem?_eq_some_iff.mp hk).1]; exact hk)
theorem lx_pr {D : va_G} {cl : List vw_C} {a b : va_W} {H : Heap} (h : va_P D cl (a ++ b) H) : va_P D cl b H := fun k q hk => h (a.length + k) q (by rw [List.getElem?_append_right (by omega), Nat.add_sub_cancel_left]; exact hk)
theorem lx_A1 {g : Nat} {e : va_E} {sz q : Nat} (h : va_A [(g, e)] sz q) : q = g ∨ sz ≤ q := by
  rcases h with ⟨k, e1, h⟩ | h
  · left
    cases k with
    | zero => cases h; rfl
    | succ k => cases h
  · exact Or.inr h
section LX
variable {p : Program} {l : Launch} {e : Env} {R : Room} {s : State} {m : MethodId} {args : Array Value} {below : List Frame} {meth : Method} {c : Code} {H : Heap} {locs : List Loc} {cells slots : Nat} {Q : State → Prop}
variable {cc : ByteArray} {pc : Nat} {ls : Array Slot} {rest st0 : List Value} {D : va_G} {sh : Nat → ux_S} {K : Nat} {ad : Nat → Nat} {cA : Nat → ClassId} {M : ux_M} {H0 : Heap} {A : Nat → Prop} {w : va_W}
theorem lx_calli {a : Array Value} {post : Int32 → ux_M → Prop} (hr : va_Run p l e R s m args below meth c H locs cells slots 0 0 (F0 m pc ls st0) rest (va_Qi post (ux_E D sh K ad cA) (ux_A K ad) a) (ux_A K ad)) (hS : va_S A H0 H locs) (hA : ∀ k, k < K → A (ad k)) (hw : va_P D classes w H) (hap : ∀ k, k < K → ∀ (i : Nat) (q : Nat × va_E), w[i]? = some q → q.1 ≠ ad k)
    (kk : ∀ (r : Int32) (M1 : ux_M) (H1 : Heap) (locs1 : List Loc), post r M1 → va_P D classes (ux_w sh K ad cA M1) H1 → va_P D classes w H1 → va_S A H0 H1 locs1 → W p l e R s m args below meth c H1 locs1 cells slots Q (F0 m (pc + 3) ls (.int r :: rest))) : W p l e R s m args below meth c H locs cells slots Q (F0 m pc ls st0) := by
  have hAA : ∀ q, ux_A K ad q → A q := fun q h => by obtain ⟨k, hk, e⟩ := h; rw [e]; exact hA k hk
  refine va_calli hr hS (fun q _ h => hAA q h) hAA (fun r u t H1 locs1 ht _ hp hB _ hk hS1 => kk r u H1 locs1 hp (by subst ht; exact hB) (hw.kept (fun i q hi => hk q.1 ((hw i q hi).lt) (fun h => ?_))) hS1)
  obtain ⟨k, hk', e⟩ := h
  exact hap k hk' i q hi e
theorem lx_callv {a : Array Value} {post : ux_M → Prop} (hr : va_Run p l e R s m args below meth c H locs cells slots 0 0 (F0 m pc ls st0) rest (va_Qv post (ux_E D sh K ad cA) (ux_A K ad) a) (ux_A K ad)) (hS : va_S A H0 H locs) (hA : ∀ k, k < K → A (ad k)) (hw : va_P D classes w H) (hap : ∀ k, k < K → ∀ (i : Nat) (q : Nat × va_E), w[i]? = some q → q.1 ≠ ad k)
    (kk : ∀ (M1 : ux_M) (H1 : Heap) (locs1 : List Loc), post M1 → va_P D classes (ux_w sh K ad cA M1) H1 → va_P D classes w H1 → va_S A H0 H1 locs1 → W p l e R s m args below meth c H1 locs1 cells slots Q (F0 m (pc + 3) ls rest)) : W p l e R s m args below meth c H locs cells slots Q (F0 m pc ls st0) := by
  have hAA : ∀ q, ux_A K ad q → A q := fun q h => by obtain ⟨k, hk, e⟩ := h; rw [e]; exact hA k hk
  refine va_callv hr hS (fun q _ h => hAA q h) hAA (fun u t H1 locs1 ht _ hp hB _ hk hS1 => kk u H1 locs1 hp (by subst ht; exact hB) (hw.kept (fun i q hi => hk q.1 ((hw i q hi).lt) (fun h => ?_))) hS1)
  obtain ⟨k, hk', e⟩ := h
  exact hap k hk' i q hi e
end LX
abbrev lx_A (s : State) : Nat → Prop := fun q => s.heap.size ≤ q
/-- the two worlds' places, and the kinds -/
def lx_Y (D : va_G) (cA : Nat → ClassId) (s : State) (ax am : Nat → Nat) : Prop := va_K D classes (ux_t cA) s ∧ ux_N s ∧ ux_inj KX ax ∧ ux_inj KM am ∧ (∀ i, i < KX → ∀ j, j < KM → ax i ≠ am j) ∧ (∀ i, i < KX → lx_A s (ax i)) ∧ ∀ j, j < KM → lx_A s (am j)
abbrev lx_W (p : Program) (l : Launch) (e : Env) (s : State) (m : MethodId) (b : Nat) (below : List Frame) (meth : Method) (c : Code) (H : Heap) (locs : List Loc) (g : JFrame) : Prop := W p l e room_1 s m #[Value.ref b] below meth c H locs 600000 7302250 (lw_Z below #[Value.ref b] s) g
theorem lx_in {i k L : Nat} {z : Int32} (hz : z = nI k) (h : i + k < L) (hL : L ≤ 2560) : vp_in (nI i + z) L := by
  rw [hz, nI_add]
  exact vp_in_nI h (by omega)
theorem lx_more {i L : Nat} (hi : i ≤ 2560) (hL : L ≤ 2560) (h : ¬ Int32.ofNat L - 5 < nI i) : i + 5 ≤ L := by
  rw [Int32.lt_iff_toInt_lt] at h
  have e1 : (nI i).toInt = (i : Int) := nI_toInt (by omega)
  have e2 : (Int32.ofNat L).toInt = (L : Int) := nI_toInt (n := L) (by omega)
  have e3 : (5 : Int32).toInt = 5 := rfl
  have e4 : (Int32.ofNat L - 5).toInt = (L : Int) - 5 := by
    rw [ti_sub (by omega) (by omega), e2, e3]
  omega
theorem lx_tN {M1 M : ux_M} (h : ∀ a b, ¬ tN a b → M1 a b = M a b) : M1 = M := by
  funext a b
  exact h a b (fun q => q)
section LXZ
variable {s : State} {H : Heap} {locs : List Loc} {D : va_G} {ad adK adV : Nat → Nat} {fm : Value} {cA : Nat → ClassId} {M : ux_M}
theorem lx_preZ {As : List Value} {C : String} {T : u_T} {N ci k : Nat} {fs : List (Option Nat)} (hk : k < KX) (hs : shX k = .inl (ci, fs)) (hc : classes[ci]? = some (C, T, N)) (hP : va_P D classes (ux_w shX KX ad cA M) H) (hK : va_K D classes (ux_t cA) s) (hi : ux_inj KX ad) (hN : ux_N s) (hZ : ux_Z ad adK adV fm s) (hS : va_S (lx_A s) s.heap H locs) : PreV s H C (ad k) (va_Pc (.ref (ad k) :: As) (ux_BZ D ad cA M adK adV fm)) As := by
  have kp : ∀ q : Nat, q < s.heap.size → ¬ ux_A KX ad q → H[q]? = s.heap[q]? := fun q hq _ => hS.2.1 q hq (Nat.not_le.mpr hq)
  exact ⟨ux_blindZ, va_recv hK hP hc (by rw [ux_w_at hk, hs]; rfl), fun _ hU hW => ⟨rfl, ⟨by rw [hU]; exact hP, va_K.moved hW.alike hK, hi, hN.warm hW⟩, by rw [hU]; exact vk_S.moved hW.alike (hZ.1.kept kp), by rw [hU]; exact va_Z.moved hW.alike (hZ.2.1.kept kp), by rw [hU]; exact va_Z.moved hW.alike (hZ.2.2.1.kept kp), hZ.2.2.2.1, fun i hi => vk_R.warm hW (hZ.2.2.2.2 i hi)⟩⟩
end LXZ
