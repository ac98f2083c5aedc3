/-! The world by table: cells 0 .. K-1 at the addresses ad k; sh k is a cell's shape; the numbers in them are the memory M (cell, slot). -/
abbrev ux_M : Type := Nat → Nat → Int32
/-- a shape: an object (its number among the kinds; for each field a cell that it names, or a number), or a row (its kind's place, its length, and, if of objects, the cells) -/
abbrev ux_S : Type := (Nat × List (Option Nat)) ⊕ (Nat × Nat × Option (Nat → Nat))
def ux_v (ad : Nat → Nat) (M : ux_M) (k j : Nat) (o : Option Nat) : Value := match o with
  | some c => .ref (ad c)
  | none => .int (M k j)
def ux_go (ad : Nat → Nat) (M : ux_M) (k : Nat) : Nat → List (Option Nat) → List Value
  | _, [] => []
  | j, o :: r => ux_v ad M k j o :: ux_go ad M k (j + 1) r
def ux_fs (ad : Nat → Nat) (M : ux_M) (k : Nat) (fs : List (Option Nat)) : List Value := ux_go ad M k 0 fs
theorem ux_go_at (ad : Nat → Nat) (M : ux_M) (k : Nat) : ∀ (fs : List (Option Nat)) (j i : Nat), (ux_go ad M k j fs)[i]? = (fs[i]?).map (ux_v ad M k (j + i)) := by
  intro fs
  induction fs with
  | nil => intro j i; simp [ux_go]
  | cons o r ih =>
    intro j i
    cases i with
    | zero => simp [ux_go]
    | succ i =>
      simp only [ux_go, List.getElem?_cons_succ]
      rw [ih, show j + 1 + i = j + (i + 1) by omega]
theorem ux_go_len (ad : Nat → Nat) (M : ux_M) (k : Nat) : ∀ (fs : List (Option Nat)) (j : Nat), (ux_go ad M k j fs).length = fs.length := by
  intro fs
  induction fs with
  | nil => intro j; rfl
  | cons o r ih => intro j; simp only [ux_go, List.length_cons, ih]
theorem ux_fs_get (ad : Nat → Nat) (M : ux_M) (k : Nat) (fs : List (Option Nat)) (i : Nat) : (ux_fs ad M k fs)[i]? = (fs[i]?).map (ux_v ad M k i) := by
  unfold ux_fs
  rw [ux_go_at, Nat.zero_add]
theorem ux_fs_len (ad : Nat → Nat) (M : ux_M) (k : Nat) (fs : List (Option Nat)) : (ux_fs ad M k fs).length = fs.length := ux_go_len ad M k fs 0
def ux_e (ad : Nat → Nat) (cA : Nat → ClassId) (M : ux_M) (k : Nat) (x : ux_S) : va_E := match x with
  | .inl q => .inr (q.1, ux_fs ad M k q.2)
  | .inr (t, n, none) => .inl (cA t, n, .inl (M k))
  | .inr (t, n, some g) => .inl (cA t, n, .inr (.inr (.inr (.inr (fun i => some (ad (g i)))))))
def ux_w (sh : Nat → ux_S) (K : Nat) (ad : Nat → Nat) (cA : Nat → ClassId) (M : ux_M) : va_W := (List.range K).map (fun k => (ad k, ux_e ad cA M k (sh k)))
theorem ux_w_at {sh : Nat → ux_S} {K : Nat} {ad : Nat → Nat} {cA : Nat → ClassId} {M : ux_M} {k : Nat} (hk : k < K) : (ux_w sh K ad cA M)[k]? = some (ad k, ux_e ad cA M k (sh k)) := by
  simp [ux_w, hk]
theorem ux_w_no {sh : Nat → ux_S} {K : Nat} {ad : Nat → Nat} {cA : Nat → ClassId} {M : ux_M} {k : Nat} (hk : ¬ k < K) : (ux_w sh K ad cA M)[k]? = none := by
  simp [ux_w]; omega
/-- memory with one number changed -/
def ux_wr (M : ux_M) (k j : Nat) (v : Int32) : ux_M := va_up M k (upd (M k) j v)
theorem ux_wr_ne {M : ux_M} {k j a : Nat} {v : Int32} (h : a ≠ k) : ux_wr M k j v a = M a := va_up_ne _ _ h
theorem ux_wr_eq {M : ux_M} {k j : Nat} {v : Int32} : ux_wr M k j v k = upd (M k) j v := va_up_self _ _ _
theorem ux_wr_at {M : ux_M} {k j : Nat} {v : Int32} : ux_wr M k j v k j = v := by rw [ux_wr_eq]; simp [upd]
theorem ux_wr_off {M : ux_M} {k j a b : Nat} {v : Int32} (h : a ≠ k ∨ b ≠ j) : ux_wr M k j v a b = M a b := by
  by_cases ha : a = k
  · subst ha
    have hb : b ≠ j := h.elim (fun h => absurd rfl h) id
    rw [ux_wr_eq]; simp [upd, hb]
  · rw [ux_wr_ne ha]
theorem ux_fs_ne {ad : Nat → Nat} {M : ux_M} {k j a : Nat} {v : Int32} {fs : List (Option Nat)} (h : a ≠ k) : ux_fs ad (ux_wr M k j v) a fs = ux_fs ad M a fs := by
  apply List.ext_getElem?
  intro i
  rw [ux_fs_get, ux_fs_get]
  cases fs[i]? with
  | none => rfl
  | some o =>
    cases o
    · simp only [Option.map_some, ux_v, ux_wr_ne h]
    · rfl
theorem ux_e_ne {ad : Nat → Nat} {cA : Nat → ClassId} {M : ux_M} {k j a : Nat} {v : Int32} {x : ux_S} (h : a ≠ k) : ux_e ad cA (ux_wr M k j v) a x = ux_e ad cA M a x := by
  rcases x with q | ⟨t, n, g⟩
  · simp only [ux_e, ux_fs_ne h]
  · cases g
    · simp only [ux_e, ux_wr_ne h]
    · rfl
theorem ux_set {sh : Nat → ux_S} {K : Nat} {ad : Nat → Nat} {cA : Nat → ClassId} {M : ux_M} {k j : Nat} {v : Int32} {x : va_E} (hk : k < K) (he : x = ux_e ad cA (ux_wr M k j v) k (sh k)) : (ux_w sh K ad cA M).set k (ad k, x) = ux_w sh K ad cA (ux_wr M k j v) := by
  subst he
  apply List.ext_getElem?
  intro i
  by_cases hi : i < K
  · rw [ux_w_at hi]
    by_cases hik : k = i
    · subst hik
      rw [List.getElem?_set_self (by simp [ux_w]; exact hk)]
    · rw [List.getElem?_set_ne hik, ux_w_at hi, ux_e_ne (fun h => hik h.symm)]
  · rw [ux_w_no hi, List.getElem?_set_ne (by omega), ux_w_no hi]
theorem ux_fs_set {ad : Nat → Nat} {M : ux_M} {k j : Nat} {v : Int32} {fs : List (Option Nat)} (hf : fs[j]? = some none) : (ux_fs ad M k fs).set j (.int v) = ux_fs ad (ux_wr M k j v) k fs := by
  apply List.ext_getElem?
  intro i
  by_cases hij : j = i
  · subst hij
    have hl : j < fs.length := (List.getElem?_eq_some_iff.mp hf).1
    rw [List.getElem?_set_self (by rw [ux_fs_len]; exact hl), ux_fs_get, hf]
    simp [ux_v, ux_wr_at]
  · rw [List.getElem?_set_ne hij, ux_fs_get, ux_fs_get]
    cases hfi : fs[i]? with
    | none => rfl
    | some o =>
      cases o
      · simp [ux_v, ux_wr_off (M := M) (k := k) (j := j) (a := k) (b := i) (v := v) (Or.inr (fun h => hij h.symm))]
      · rfl
theorem ux_fs_at {ad : Nat → Nat} {M : ux_M} {k j : Nat} {fs : List (Option Nat)} {o : Option Nat} (hf : fs[j]? = some o) : (ux_fs ad M k fs)[j]? = some (ux_v ad M k j o) := by
  rw [ux_fs_get, hf]
  rfl
/-- the addresses of a world -/
def ux_A (K : Nat) (ad : Nat → Nat) : Nat → Prop := fun q => ∃ k, k < K ∧ q = ad k
def ux_inj (K : Nat) (ad : Nat → Nat) : Prop := ∀ i j, i < K → j < K → ad i = ad j → i = j
theorem ux_D {sh : Nat → ux_S} {K : Nat} {ad : Nat → Nat} {cA : Nat → ClassId} {M : ux_M} (h : ux_inj K ad) : va_D (ux_A K ad) (ux_w sh K ad cA M) := by
  have key : ∀ (i : Nat) (p : Nat × va_E), (ux_w sh K ad cA M)[i]? = some p → i < K ∧ p.1 = ad i := by
    intro i p hp
    by_cases hi : i < K
    · rw [ux_w_at hi] at hp
      exact ⟨hi, by rw [← Option.some.inj hp]⟩
    · rw [ux_w_no hi] at hp; cases hp
  refine ⟨fun i j p q hp hq hpq => ?_, fun k q hq => ?_⟩
  · obtain ⟨hi, ei⟩ := key i p hp
    obtain ⟨hj, ej⟩ := key j q hq
    exact h i j hi hj (by rw [← ei, ← ej]; exact hpq)
  · obtain ⟨hk, ek⟩ := key k q hq
    exact ⟨k, hk, ek⟩
/-- the kinds of rows -/
abbrev ux_t (cA : Nat → ClassId) : List (ClassId × FieldType) := [(cA 0, .int), (cA 1, .char), (cA 2, .boolean), (cA 3, .object "PeerScripts$Values"), (cA 4, .object "PeerScripts$Level")]
section UX
variable {p : Program} {l : Launch} {e : Env} {R : Room} {s : State} {m : MethodId} {args : Array Value} {below : List Frame} {meth : Method} {c : Code} {H : Heap} {locs : List Loc} {cells slots : Nat} {Q : State → Prop}
variable {cc : ByteArray} {pc : Nat} {ls : Array Slot} {rest : List Value} {D : va_G} {sh : Nat → ux_S} {K : Nat} {ad : Nat → Nat} {cA : Nat → ClassId} {M : ux_M} {H0 : Heap}
theorem ux_get {own C : String} {T : u_T} {N ci index k : Nat} {fs : List (Option Nat)} {Ts : List Cond} (hexec : p.tables.exec = Jvm.exec) (hb : c.code = cc) (hts : ∀ w ∈ Ts, w.before args s = true) (hin : ∀ w ∈ u_ws C T N, w ∈ Ts) (hown : s.vm.findClass own = some m.cls) (hK : va_K D classes (ux_t cA) s) (hP : va_P D classes (ux_w sh K ad cA M) H) (hk : k < K) (hs : sh k = .inl (ci, fs)) (hc : classes[ci]? = some (C, T, N)) (j : Nat) (hj : j < N) (hlink : (Cond.fieldLink own index (T j).1 (T j).2.1 (T j).2.2.1).before args s = true) {o : Option Nat} (hf : fs[j]? = some o) (hdg : decode cc pc = .ok (.getfield index, 3))
    (kk : W p l e R s m args below meth c H locs cells slots Q (F0 m (pc + 3) ls (ux_v ad M k j o :: rest))) : W p l e R s m args below meth c H locs cells slots Q (F0 m pc ls (.ref (ad k) :: rest)) :=
  va_get hexec hb hts hin hown hK hP k (by rw [ux_w_at hk, hs]; rfl) hc j hj hlink (fun _ h => h) (ux_fs_at hf) hdg kk
theorem ux_getN {own C host : String} {T : u_T} {N ci index k : Nat} {fs : List (Option Nat)} {Ts : List Cond} (hexec : p.tables.exec = Jvm.exec) (hb : c.code = cc) (hts : ∀ w ∈ Ts, w.before args s = true) (hin : ∀ w ∈ u_ws C T N, w ∈ Ts) (hown : s.vm.findClass own = some m.cls) (hK : va_K D classes (ux_t cA) s) (hP : va_P D classes (ux_w sh K ad cA M) H) (hk : k < K) (hs : sh k = .inl (ci, fs)) (hc : classes[ci]? = some (C, T, N)) (j : Nat) (hj : j < N) (hlink : va_Nw (.fieldLinkNest own index (T j).1 (T j).2.1 (T j).2.2.1 host) s) {o : Option Nat} (hf : fs[j]? = some o) (hdg : decode cc pc = .ok (.getfield index, 3))
    (kk : W p l e R s m args below meth c H locs cells slots Q (F0 m (pc + 3) ls (ux_v ad M k j o :: rest))) : W p l e R s m args below meth c H locs cells slots Q (F0 m pc ls (.ref (ad k) :: rest)) :=
  va_getN hexec hb hts hin hown hK hP k (by rw [ux_w_at hk, hs]; rfl) hc j hj (va_Nw.use rfl hlink) (fun _ h => h) (ux_fs_at hf) hdg kk
theorem ux_put {own C : String} {T : u_T} {N ci index k : Nat} {fs : List (Option Nat)} {Ts : List Cond} (hexec : p.tables.exec = Jvm.exec) (hb : c.code = cc) (hts : ∀ w ∈ Ts, w.before args s = true) (hin : ∀ w ∈ u_ws C T N, w ∈ Ts) (ty0 : Nat → FieldType) (hty : ∀ k, k < N → parseFieldDescriptor (T k).2.2.1 = some (ty0 k)) (hnm : ∀ a, a < N → ∀ b, b < N → a ≠ b → (T a).2.1 ≠ (T b).2.1) (hown : s.vm.findClass own = some m.cls) (hK : va_K D classes (ux_t cA) s) (hi : ux_inj K ad) (hP : va_P D classes (ux_w sh K ad cA M) H) (hS : va_S (ux_A K ad) H0 H locs) (hk : k < K) (hs : sh k = .inl (ci, fs)) (hc : classes[ci]? = some (C, T, N)) (j : Nat) (hj : j < N) (hlink : (Cond.fieldLink own index (T j).1 (T j).2.1 (T j).2.2.1).before args s = true) (hfin : (T j).2.2.2 = false) {v : Int32} (hn : narrow (ty0 j) (.int v) = .int v) (hfit : fits (ty0 j) (.int v) = true) (hf : fs[j]? = some none) (hdg : decode cc pc = .ok (.putfield index, 3))
    (kk : ∀ (H1 : Heap) (locs1 : List Loc), va_P D classes (ux_w sh K ad cA (ux_wr M k j v)) H1 → va_S (ux_A K ad) H0 H1 locs1 → W p l e R s m args below meth c H1 locs1 cells slots Q (F0 m (pc + 3) ls rest)) : W p l e R s m args below meth c H locs cells slots Q (F0 m pc ls (.int v :: .ref (ad k) :: rest)) := by
  have e1 : (ux_w sh K ad cA M).set k (ad k, .inr (ci, (ux_fs ad M k fs).set j (.int v))) = ux_w sh K ad cA (ux_wr M k j v) := ux_set hk (by rw [hs, ux_fs_set hf]; rfl)
  refine va_put hexec hb hts hin ty0 hty hnm hown hK hP (ux_D hi) hS k (by rw [ux_w_at hk, hs]; rfl) hc j hj hlink (fun _ h => h) hfin (hty j hj) hn hfit ?_ hdg (fun H1 locs1 q1 q2 q3 => kk H1 locs1 (by rw [← e1]; exact q1) q3)
  rw [ux_fs_len]; exact (List.getElem?_eq_some_iff.mp hf).1
theorem ux_putN {own C host : String} {T : u_T} {N ci index k : Nat} {fs : List (Option Nat)} {Ts : List Cond} (hexec : p.tables.exec = Jvm.exec) (hb : c.code = cc) (hts : ∀ w ∈ Ts, w.before args s = true) (hin : ∀ w ∈ u_ws C T N, w ∈ Ts) (ty0 : Nat → FieldType) (hty : ∀ k, k < N → parseFieldDescriptor (T k).2.2.1 = some (ty0 k)) (hnm : ∀ a, a < N → ∀ b, b < N → a ≠ b → (T a).2.1 ≠ (T b).2.1) (hown : s.vm.findClass own = some m.cls) (hK : va_K D classes (ux_t cA) s) (hi : ux_inj K ad) (hP : va_P D classes (ux_w sh K ad cA M) H) (hS : va_S (ux_A K ad) H0 H locs) (hk : k < K) (hs : sh k = .inl (ci, fs)) (hc : classes[ci]? = some (C, T, N)) (j : Nat) (hj : j < N) (hlink : va_Nw (.fieldLinkNest own index (T j).1 (T j).2.1 (T j).2.2.1 host) s) (hfin : (T j).2.2.2 = false) {v : Int32} (hn : narrow (ty0 j) (.int v) = .int v) (hfit : fits (ty0 j) (.int v) = true) (hf : fs[j]? = some none) (hdg : decode cc pc = .ok (.putfield index, 3))
    (kk : ∀ (H1 : Heap) (locs1 : List Loc), va_P D classes (ux_w sh K ad cA (ux_wr M k j v)) H1 → va_S (ux_A K ad) H0 H1 locs1 → W p l e R s m args below meth c H1 locs1 cells slots Q (F0 m (pc + 3) ls rest)) : W p l e R s m args below meth c H locs cells slots Q (F0 m pc ls (.int v :: .ref (ad k) :: rest)) := by
  have e1 : (ux_w sh K ad cA M).set k (ad k, .inr (ci, (ux_fs ad M k fs).set j (.int v))) = ux_w sh K ad cA (ux_wr M k j v) := ux_set hk (by rw [hs, ux_fs_set hf]; rfl)
  refine va_putN hexec hb hts hin ty0 hty hnm hown hK hP (ux_D hi) hS k (by rw [ux_w_at hk, hs]; rfl) hc j hj (va_Nw.use rfl hlink) (fun _ h => h) hfin (hty j hj) hn hfit ?_ hdg (fun H1 locs1 q1 q2 q3 => kk H1 locs1 (by rw [← e1]; exact q1) q3)
  rw [ux_fs_len]; exact (List.getElem?_eq_some_iff.mp hf).1
theorem ux_iald {k n : Nat} (hexec : p.tables.exec = Jvm.exec) (hb : c.code = cc) (hK : va_K D classes (ux_t cA) s) (hP : va_P D classes (ux_w sh K ad cA M) H) (hk : k < K) (hs : sh k = .inr (0, n, none)) {i : Int32} (hin : vp_in i n) (hdg : decode cc pc = .ok (.iaload, 1))
    (kk : W p l e R s m args below meth c H locs cells slots Q (F0 m (pc + 1) ls (.int (M k i.toNatClampNeg) :: rest))) : W p l e R s m args below meth c H locs cells slots Q (F0 m pc ls (.int i :: .ref (ad k) :: rest)) :=
  va_iald hexec hb hK hP k 0 (by rw [ux_w_at hk, hs]; rfl) rfl hin hdg kk
theorem ux_cald {k n : Nat} (hexec : p.tables.exec = Jvm.exec) (hb : c.code = cc) (hK : va_K D classes (ux_t cA) s) (hP : va_P D classes (ux_w sh K ad cA M) H) (hk : k < K) (hs : sh k = .inr (1, n, none)) {i : Int32} (hin : vp_in i n) (hdg : decode cc pc = .ok (.caload, 1))
    (kk : W p l e R s m args below meth c H locs cells slots Q (F0 m (pc + 1) ls (.int (M k i.toNatClampNeg) :: rest))) : W p l e R s m args below meth c H locs cells slots Q (F0 m pc ls (.int i :: .ref (ad k) :: rest)) :=
  va_cald hexec hb hK hP k 1 (by rw [ux_w_at hk, hs]; rfl) rfl hin hdg kk
theorem ux_zald {k n : Nat} (hexec : p.tables.exec = Jvm.exec) (hb : c.code = cc) (hK : va_K D classes (ux_t cA) s) (hP : va_P D classes (ux_w sh K ad cA M) H) (hk : k < K) (hs : sh k = .inr (2, n, none)) {i : Int32} (hin : vp_in i n) (hdg : decode cc pc = .ok (.baload, 1))
    (kk : W p l e R s m args below meth c H locs cells slots Q (F0 m (pc + 1) ls (.int (M k i.toNatClampNeg) :: rest))) : W p l e R s m args below meth c H locs cells slots Q (F0 m pc ls (.int i :: .ref (ad k) :: rest)) :=
  va_zald hexec hb hK hP k 2 (by rw [ux_w_at hk, hs]; rfl) rfl hin hdg kk
theorem ux_iast {k n : Nat} (hexec : p.tables.exec = Jvm.exec) (hb : c.code = cc) (hK : va_K D classes (ux_t cA) s) (hi : ux_inj K ad) (hP : va_P D classes (ux_w sh K ad cA M) H) (hS : va_S (ux_A K ad) H0 H locs) (hk : k < K) (hs : sh k = .inr (0, n, none)) {i x : Int32} (hin : vp_in i n) (hdg : decode cc pc = .ok (.iastore, 1))
    (kk : ∀ (H1 : Heap) (locs1 : List Loc), va_P D classes (ux_w sh K ad cA (ux_wr M k i.toNatClampNeg x)) H1 → va_S (ux_A K ad) H0 H1 locs1 → W p l e R s m args below meth c H1 locs1 cells slots Q (F0 m (pc + 1) ls rest)) : W p l e R s m args below meth c H locs cells slots Q (F0 m pc ls (.int x :: .int i :: .ref (ad k) :: rest)) := by
  have e1 : (ux_w sh K ad cA M).set k (ad k, .inl (cA 0, n, .inl (upd (M k) i.toNatClampNeg x))) = ux_w sh K ad cA (ux_wr M k i.toNatClampNeg x) := ux_set hk (by rw [hs]; simp only [ux_e, ux_wr_eq])
  exact va_iast hexec hb hK hP (ux_D hi) hS k 0 (by rw [ux_w_at hk, hs]; rfl) rfl hin hdg (fun H1 locs1 q1 q2 q3 => kk H1 locs1 (by rw [← e1]; exact q1) q3)
theorem ux_cast {k n : Nat} (hexec : p.tables.exec = Jvm.exec) (hb : c.code = cc) (hK : va_K D classes (ux_t cA) s) (hi : ux_inj K ad) (hP : va_P D classes (ux_w sh K ad cA M) H) (hS : va_S (ux_A K ad) H0 H locs) (hk : k < K) (hs : sh k = .inr (1, n, none)) {i x : Int32} (hin : vp_in i n) (hdg : decode cc pc = .ok (.castore, 1))
    (kk : ∀ (H1 : Heap) (locs1 : List Loc), va_P D classes (ux_w sh K ad cA (ux_wr M k i.toNatClampNeg (vp_nar .char x))) H1 → va_S (ux_A K ad) H0 H1 locs1 → W p l e R s m args below meth c H1 locs1 cells slots Q (F0 m (pc + 1) ls rest)) : W p l e R s m args below meth c H locs cells slots Q (F0 m pc ls (.int x :: .int i :: .ref (ad k) :: rest)) := by
  have e1 : (ux_w sh K ad cA M).set k (ad k, .inl (cA 1, n, .inl (upd (M k) i.toNatClampNeg (vp_nar .char x)))) = ux_w sh K ad cA (ux_wr M k i.toNatClampNeg (vp_nar .char x)) := ux_set hk (by rw [hs]; simp only [ux_e, ux_wr_eq])
  exact va_cast hexec hb hK hP (ux_D hi) hS k 1 (by rw [ux_w_at hk, hs]; rfl) rfl hin hdg (fun H1 locs1 q1 q2 q3 => kk H1 locs1 (by rw [← e1]; exact q1) q3)
theorem ux_zast {k n : Nat} (hexec : p.tables.exec = Jvm.exec) (hb : c.code = cc) (hK : va_K D classes (ux_t cA) s) (hi : ux_inj K ad) (hP : va_P D classes (ux_w sh K ad cA M) H) (hS : va_S (ux_A K ad) H0 H locs) (hk : k < K) (hs : sh k = .inr (2, n, none)) {i x : Int32} (hin : vp_in i n) (hdg : decode cc pc = .ok (.bastore, 1))
    (kk : ∀ (H1 : Heap) (locs1 : List Loc), va_P D classes (ux_w sh K ad cA (ux_wr M k i.toNatClampNeg (vp_nar .boolean x))) H1 → va_S (ux_A K ad) H0 H1 locs1 → W p l e R s m args below meth c H1 locs1 cells slots Q (F0 m (pc + 1) ls rest)) : W p l e R s m args below meth c H locs cells slots Q (F0 m pc ls (.int x :: .int i :: .ref (ad k) :: rest)) := by
  have e1 : (ux_w sh K ad cA M).set k (ad k, .inl (cA 2, n, .inl (upd (M k) i.toNatClampNeg (vp_nar .boolean x)))) = ux_w sh K ad cA (ux_wr M k i.toNatClampNeg (vp_nar .boolean x)) := ux_set hk (by rw [hs]; simp only [ux_e, ux_wr_eq])
  exact va_zast hexec hb hK hP (ux_D hi) hS k 2 (by rw [ux_w_at hk, hs]; rfl) rfl hin hdg (fun H1 locs1 q1 q2 q3 => kk H1 locs1 (by rw [← e1]; exact q1) q3)
theorem ux_aald {k n t0 : Nat} {C : String} {g : Nat → Nat} (hexec : p.tables.exec = Jvm.exec) (hb : c.code = cc) (hK : va_K D classes (ux_t cA) s) (hP : va_P D classes (ux_w sh K ad cA M) H) (hk : k < K) (hs : sh k = .inr (t0, n, some g)) (ht : (ux_t cA)[t0]? = some (cA t0, .object C)) {i : Int32} (hin : vp_in i n) (hdg : decode cc pc = .ok (.aaload, 1))
    (kk : W p l e R s m args below meth c H locs cells slots Q (F0 m (pc + 1) ls (.ref (ad (g i.toNatClampNeg)) :: rest))) : W p l e R s m args below meth c H locs cells slots Q (F0 m pc ls (.int i :: .ref (ad k) :: rest)) :=
  va_aldq (f := fun i => some (ad (g i))) hexec hb hK hP k t0 (by rw [ux_w_at hk, hs]; rfl) ht hin hdg kk
theorem ux_alen {k n t0 : Nat} {x : Option (Nat → Nat)} {ty : FieldType} (hexec : p.tables.exec = Jvm.exec) (hb : c.code = cc) (hK : va_K D classes (ux_t cA) s) (hP : va_P D classes (ux_w sh K ad cA M) H) (hk : k < K) (hs : sh k = .inr (t0, n, x)) (ht : (ux_t cA)[t0]? = some (cA t0, ty)) (hdg : decode cc pc = .ok (.arraylength, 1))
    (kk : W p l e R s m args below meth c H locs cells slots Q (F0 m (pc + 1) ls (.int (nI n) :: rest))) : W p l e R s m args below meth c H locs cells slots Q (F0 m pc ls (.ref (ad k) :: rest)) := by
  cases x with
  | none => exact va_alen (x := (n, .inl (M k))) hexec hb hK hP k t0 (by rw [ux_w_at hk, hs]; rfl) ht rfl hdg kk
  | some g => exact va_alen (x := (n, .inr (.inr (.inr (.inr (fun i => some (ad (g i)))))))) hexec hb hK hP k t0 (by rw [ux_w_at hk, hs]; rfl) ht rfl hdg kk
end UX
