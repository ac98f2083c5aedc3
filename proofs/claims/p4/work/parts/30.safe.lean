/-! Safe walks: numbers as integers, frames, bounds of the class's memory -/
theorem ti_lo (x : Int32) : -2147483648 ≤ x.toInt := Int32.le_toInt x
theorem ti_hi (x : Int32) : x.toInt ≤ 2147483647 := by have := Int32.toInt_lt x; omega
theorem vi {i : Int32} {n : Nat} (h0 : 0 ≤ i.toInt) (h1 : i.toInt < (n : Int)) : vp_in i n := by rw [vp_in_iff]; omega
theorem ti_bm {x : Int} (h1 : -2147483648 ≤ x) (h2 : x ≤ 2147483647) : x.bmod (2 ^ 32) = x := Int.bmod_eq_of_le (by omega) (by omega)
theorem ti_add {a b : Int32} (h1 : -2147483648 ≤ a.toInt + b.toInt) (h2 : a.toInt + b.toInt ≤ 2147483647) : (a + b).toInt = a.toInt + b.toInt := by rw [Int32.toInt_add, ti_bm h1 h2]
theorem ti_sub {a b : Int32} (h1 : -2147483648 ≤ a.toInt - b.toInt) (h2 : a.toInt - b.toInt ≤ 2147483647) : (a - b).toInt = a.toInt - b.toInt := by rw [Int32.toInt_sub, ti_bm h1 h2]
theorem ti_mul {a b : Int32} (h1 : -2147483648 ≤ a.toInt * b.toInt) (h2 : a.toInt * b.toInt ≤ 2147483647) : (a * b).toInt = a.toInt * b.toInt := by rw [Int32.toInt_mul, ti_bm h1 h2]
theorem ti_neg {a : Int32} (h1 : -2147483648 < a.toInt) : (-a).toInt = - a.toInt := by have := ti_hi a; rw [Int32.toInt_neg, ti_bm (by omega) (by omega)]
theorem ti_i2c (x : Int32) : 0 ≤ ((x.toUInt32 % 65536).toInt32).toInt ∧ ((x.toUInt32 % 65536).toInt32).toInt ≤ 65535 := by
  have h : ((x.toUInt32 % 65536).toInt32).toInt = ((x.toUInt32 % 65536).toNat : Int) := by
    have h1 : (x.toUInt32 % 65536).toNat < 65536 := by
      rw [UInt32.toNat_mod]
      exact Nat.mod_lt _ (by decide)
    show (x.toUInt32 % 65536).toBitVec.toInt = _
    rw [BitVec.toInt_eq_toNat_of_lt]
    · rfl
    · show 2 * (x.toUInt32 % 65536).toNat < 2 ^ 32
      omega
  have h1 : (x.toUInt32 % 65536).toNat < 65536 := by
    rw [UInt32.toNat_mod]
    exact Nat.mod_lt _ (by decide)
  rw [h]
  omega
theorem nar_c (x : Int32) : 0 ≤ (vp_nar .char x).toInt ∧ (vp_nar .char x).toInt ≤ 65535 := ti_i2c x
theorem ti_clamp {x : Int32} (h : 0 ≤ x.toInt) : (x.toNatClampNeg : Int) = x.toInt := by show ((x.toInt.toNat : Nat) : Int) = _; omega
theorem nb_n {r : Int32} (h : r = 0 ∨ r = 1) : narrow .boolean (.int r) = .int r := by rcases h with rfl | rfl <;> rfl
theorem nb_f {r : Int32} (h : r = 0 ∨ r = 1) : fits .boolean (.int r) = true := by rcases h with rfl | rfl <;> rfl
theorem ch_f {x : Int32} (h0 : 0 ≤ x.toInt) (h1 : x.toInt ≤ 65535) : fits .char (.int x) = true := by
  have e1 : (0 : Int32) ≤ x := Int32.le_iff_toInt_le.mpr h0
  have e2 : x ≤ (65535 : Int32) := Int32.le_iff_toInt_le.mpr h1
  show (decide (0 ≤ x) && decide (x ≤ 65535)) = true
  rw [decide_eq_true e1, decide_eq_true e2]
  rfl
theorem wr_at {M M1 : ux_M} {k j : Nat} {v : Int32} (e : ux_wr M k j v = M1) : M1 k j = v := by rw [← e]; exact ux_wr_at
theorem wr_off {M M1 : ux_M} {k j a b : Nat} {v : Int32} (e : ux_wr M k j v = M1) (h : a ≠ k ∨ b ≠ j) : M1 a b = M a b := by rw [← e]; exact ux_wr_off h
theorem fr_wr {T : Nat → Nat → Prop} {M0 M : ux_M} {k j : Nat} {v : Int32} (hF : ∀ a b, ¬ T a b → M a b = M0 a b) (h : T k j) : ∀ a b, ¬ T a b → ux_wr M k j v a b = M0 a b := fun a b q => by
  rw [ux_wr_off]
  · exact hF a b q
  · by_cases ha : a = k
    · subst ha
      exact Or.inr (fun hb => q (hb ▸ h))
    · exact Or.inl ha
theorem fr_call {T T1 : Nat → Nat → Prop} {M0 M M1 : ux_M} (hF : ∀ a b, ¬ T a b → M a b = M0 a b) (hc : ∀ a b, ¬ T1 a b → M1 a b = M a b) (hi : ∀ a b, T1 a b → T a b) : ∀ a b, ¬ T a b → M1 a b = M0 a b := fun a b q => (hc a b (fun t => q (hi a b t))).trans (hF a b q)
/-- a contract out of a walk, of a class some of whose methods are the machine's own, but not this one -/
theorem met_ofWF {l : Launch} {y : MethodName} {ws ws' : List Cond} {rm : Room} {Pc : Array Value → State → Prop} {Qc : Array Value → State → Outcome → State → Prop} {mc ms : Nat} {free : Addr → Prop} {cc : ByteArray} {maxL : Nat} {ret : Option FieldType}
    (hy : plainFor y = true) (hw : ws = Cond.code y cc maxL ret :: ws')
    (body : ∀ p e s m args below meth c s₁, BodyLoose p l y (headSpec ws rm) cc maxL ret e s m args below meth c s₁ → c.maxLocals = maxL → Pc args s →
      W p l e (headSpec ws rm).room s m args below meth c s.heap [] 0 0 (MQ below Qc args s mc ms free) (entryFrame m args maxL)) : Met l y ws rm Pc Qc mc ms free := by
  refine MetFree.of_bodySF (code := cc) (maxLocals := maxL) (ret := ret) hy ?_ ?_
  · intro args s m h hn
    obtain ⟨meth, c, h1, h2, h3, h4, h5, h6, -, -⟩ := Cond.code_spec hn (atoms_spec (ws := ws) h _ (by rw [hw]; exact List.mem_cons_self))
    exact ⟨meth, c, h1, h2, h3, h4, h5, h6⟩
  · intro p e s m args below meth c s₁ B hml hP _
    have hh0 : s₁.heap = s.heap := by rw [B.state]; rfl
    obtain ⟨t, a1, o, b1, b2, b3⟩ := body p e s m args below meth c s₁ B hml hP s₁ hh0 (Stand.of_body B)
    exact ⟨t, o, a1, b1, b2, ⟨b3.1, b3.2⟩⟩
def tN (_ _ : Nat) : Prop := False
theorem tN_eq {M M1 : ux_M} (h : ∀ a b, ¬ tN a b → M1 a b = M a b) : M1 = M := funext fun a => funext fun b => h a b id
/-- copying in the table -/
def ux_cp (M : ux_M) (k0 k1 sp dp n : Nat) : ux_M := fun a => if a = k1 then va_cpy (M k0) (M k1) sp dp n else M a
theorem ux_cp_off {M : ux_M} {k0 k1 sp dp n a : Nat} (h : a ≠ k1) : ux_cp M k0 k1 sp dp n a = M a := by simp [ux_cp, h]
theorem ux_cp_at {M : ux_M} {k0 k1 sp dp n : Nat} : ux_cp M k0 k1 sp dp n k1 = va_cpy (M k0) (M k1) sp dp n := by simp [ux_cp]
theorem ux_set_cp {sh : Nat → ux_S} {K : Nat} {ad : Nat → Nat} {cA : Nat → ClassId} {M : ux_M} {k0 k1 sp dp n t0 n1 : Nat} (hk : k1 < K) (hs : sh k1 = .inr (t0, n1, none)) : (ux_w sh K ad cA M).set k1 (ad k1, .inl (cA t0, n1, .inl (va_cpy (M k0) (M k1) sp dp n))) = ux_w sh K ad cA (ux_cp M k0 k1 sp dp n) := by
  apply List.ext_getElem?
  intro i
  by_cases hi : i < K
  · rw [ux_w_at hi]
    by_cases hik : k1 = i
    · subst hik
      rw [List.getElem?_set_self (by simp [ux_w]; exact hk), hs]
      simp only [ux_e, ux_cp_at]
    · rw [List.getElem?_set_ne hik, ux_w_at hi]
      have hne : i ≠ k1 := fun h => hik h.symm
      have e1 : ux_e ad cA (ux_cp M k0 k1 sp dp n) i (sh i) = ux_e ad cA M i (sh i) := by
        rcases sh i with q | ⟨t, n, g⟩
        · have e2 : ux_fs ad (ux_cp M k0 k1 sp dp n) i q.2 = ux_fs ad M i q.2 := by
            apply List.ext_getElem?
            intro j
            rw [ux_fs_get, ux_fs_get]
            cases q.2[j]? with
            | none => rfl
            | some o =>
              cases o
              · simp only [Option.map_some, ux_v, ux_cp_off hne]
              · rfl
          simp only [ux_e, e2]
        · cases g
          · simp only [ux_e, ux_cp_off hne]
          · rfl
      rw [e1]
  · rw [ux_w_no hi, List.getElem?_set_ne (by omega), ux_w_no hi]
section UXY
variable {p : Program} {l : Launch} {e : Env} {R : Room} {s : State} {m : MethodId} {args : Array Value} {below : List Frame} {meth : Method} {c : Code} {H : Heap} {locs : List Loc} {cells slots : Nat} {Q : State → Prop}
variable {cc : ByteArray} {pc : Nat} {ls : Array Slot} {rest : List Value} {D : va_G} {sh : Nat → ux_S} {K : Nat} {ad : Nat → Nat} {cA : Nat → ClassId} {M : ux_M} {H0 : Heap}
theorem ux_copy {own : String} {index k0 k1 n0 n1 t0 : Nat} {ty : FieldType} (hexec : p.tables.exec = Jvm.exec) (hb : c.code = cc) (hml : c.maxLocals = ls.size) (hown : s.vm.findClass own = some m.cls) (hlink : (Cond.methodLink own index arraycopyName).before args s = true) (hnat : (Cond.native arraycopyName).before args s = true) (hstat : (Cond.static arraycopyName).before args s = true) (hini : (Cond.initialized "java/lang/System").before args s = true)
    (hK : va_K D classes (ux_t cA) s) (hi : ux_inj K ad) (hP : va_P D classes (ux_w sh K ad cA M) H) (hS : va_S (ux_A K ad) H0 H locs) (hk0 : k0 < K) (hk1 : k1 < K) (hs0 : sh k0 = .inr (t0, n0, none)) (hs1 : sh k1 = .inr (t0, n1, none)) (ht : (ux_t cA)[t0]? = some (cA t0, ty)) (hprim : refKind ty = false)
    {sp dp n : Int32} (h1 : 0 ≤ sp.toInt) (h2 : 0 ≤ dp.toInt) (h3 : 0 ≤ n.toInt) (h4 : sp.toInt + n.toInt ≤ (n0 : Int)) (h5 : dp.toInt + n.toInt ≤ (n1 : Int)) (hfit : ∀ j, fits ty (.int (M k0 j)) = true)
    (hframes : 1 ≤ R.frames) (hlocals : (rest.map fun v => v.category).sum + (nativeFrameWords "java/lang/System" "arraycopy" 5 + 11) ≤ R.locals) (hdg : decode cc pc = .ok (.invokestatic index, 3))
    (kk : ∀ (H1 : Heap) (locs1 : List Loc), va_P D classes (ux_w sh K ad cA (ux_cp M k0 k1 sp.toNatClampNeg dp.toNatClampNeg n.toNatClampNeg)) H1 → va_S (ux_A K ad) H0 H1 locs1 → W p l e R s m args below meth c H1 locs1 cells slots Q (F0 m (pc + 3) ls rest)) : W p l e R s m args below meth c H locs cells slots Q (F0 m pc ls (.int n :: .int dp :: .ref (ad k1) :: .int sp :: .ref (ad k0) :: rest)) := by
  have nl : ∀ {z : Int32}, 0 ≤ z.toInt → ¬ z < 0 := fun h q => by rw [Int32.lt_iff_toInt_lt] at q; have h0 : (0 : Int32).toInt = 0 := rfl; omega
  have e1 := ti_clamp h1
  have e2 := ti_clamp h2
  have e3 := ti_clamp h3
  refine va_copyi hexec hb hml hown hlink hnat hstat hini hK hP (ux_D hi) hS k0 k1 t0 t0 (by rw [ux_w_at hk0, hs0]; rfl) (by rw [ux_w_at hk1, hs1]; rfl) ht ht hprim (nl h1) (nl h2) (nl h3) (by omega) (by omega) (fun i _ => hfit _) hframes hlocals hdg (fun H1 locs1 q1 _ q3 => kk H1 locs1 ?_ q3)
  rw [← ux_set_cp hk1 hs1]
  exact q1
theorem lv_tableDf (hexec : p.tables.exec = Jvm.exec) (hb : c.code = cc) {dflt lo hi : Int} {offs : Array Int} {len : Nat} {x : Int32} {tgt : Nat} (hdg : decode cc pc = .ok (.tableswitch dflt lo hi offs, len)) (h : x.toInt < lo ∨ hi < x.toInt ∨ offs[(x.toInt - lo).toNat]? = some dflt) (ht : (pc : Int) + dflt = (tgt : Int))
    (k : W p l e R s m args below meth c H locs cells slots Q (F0 m tgt ls rest)) : W p l e R s m args below meth c H locs cells slots Q (F0 m pc ls (.int x :: rest)) := by
  by_cases h1 : x.toInt < lo
  · exact lv_tableOut hexec hb hdg (Or.inl h1) ht k
  · by_cases h2 : hi < x.toInt
    · exact lv_tableOut hexec hb hdg (Or.inr h2) ht k
    · exact lv_tableIn hexec hb hdg h1 h2 (h.elim (fun q => absurd q h1) (fun q => q.elim (fun q => absurd q h2) id)) ht k
end UXY
/-! bounds of the class's numbers -/
def ppn (a b : Nat) : Prop := (a = 14 ∧ b = 1) ∨ (a = 2 ∧ (b = 4 ∨ b = 7)) ∨ (a = 50 ∧ (b = 4 ∨ b = 5 ∨ b = 6 ∨ b = 7 ∨ b = 8)) ∨ (53 ≤ a ∧ a < 109 ∧ (a - 53) % 7 = 0 ∧ (b = 4 ∨ b = 5 ∨ b = 6))
def pch (a : Nat) : Prop := a = 1 ∨ a = 9 ∨ a = 48 ∨ a = 52 ∨ (19 ≤ a ∧ a < 42 ∧ (a - 19) % 3 = 0) ∨ (55 ≤ a ∧ a < 109 ∧ (a - 55) % 7 = 0)
def p0 (a b : Nat) : Prop := (a = 14 ∧ b = 1) ∨ (a = 2 ∧ (b = 4 ∨ b = 7)) ∨ (a = 50 ∧ (b = 4 ∨ b = 5 ∨ b = 6 ∨ b = 7)) ∨ (53 ≤ a ∧ a < 109 ∧ (a - 53) % 7 = 0 ∧ (b = 4 ∨ b = 5))
def p8 (a b : Nat) : Prop := 53 ≤ a ∧ a < 109 ∧ (a - 53) % 7 = 0 ∧ b = 4
def p20 (a b : Nat) : Prop := a = 2 ∧ b = 4
def p40 (a b : Nat) : Prop := a = 2 ∧ b = 7
def p200 (a b : Nat) : Prop := (a = 14 ∧ b = 1) ∨ (a = 50 ∧ (b = 4 ∨ b = 5 ∨ b = 8)) ∨ (53 ≤ a ∧ a < 109 ∧ (a - 53) % 7 = 0 ∧ b = 6)
def IvX (M : ux_M) : Prop := ∀ a b, (p0 a b → 0 ≤ (M a b).toInt) ∧ (p8 a b → (M a b).toInt ≤ 8) ∧ (p20 a b → (M a b).toInt ≤ 20) ∧ (p40 a b → (M a b).toInt ≤ 40) ∧ (p200 a b → (M a b).toInt ≤ 200) ∧ (pch a → 0 ≤ (M a b).toInt ∧ (M a b).toInt ≤ 65535)
theorem iv0 {M : ux_M} {a b : Nat} (hI : IvX M) (h : p0 a b) : 0 ≤ (M a b).toInt := (hI a b).1 h
theorem iv8 {M : ux_M} {a b : Nat} (hI : IvX M) (h : p8 a b) : (M a b).toInt ≤ 8 := (hI a b).2.1 h
theorem iv20 {M : ux_M} {a b : Nat} (hI : IvX M) (h : p20 a b) : (M a b).toInt ≤ 20 := (hI a b).2.2.1 h
theorem iv40 {M : ux_M} {a b : Nat} (hI : IvX M) (h : p40 a b) : (M a b).toInt ≤ 40 := (hI a b).2.2.2.1 h
theorem iv200 {M : ux_M} {a b : Nat} (hI : IvX M) (h : p200 a b) : (M a b).toInt ≤ 200 := (hI a b).2.2.2.2.1 h
theorem ivch {M : ux_M} {a : Nat} (hI : IvX M) (h : pch a) (b : Nat) : 0 ≤ (M a b).toInt ∧ (M a b).toInt ≤ 65535 := (hI a b).2.2.2.2.2 h
theorem IvX_wr {M : ux_M} {k j : Nat} {v : Int32} (hI : IvX M) (h0 : p0 k j → 0 ≤ v.toInt) (h8 : p8 k j → v.toInt ≤ 8) (h20 : p20 k j → v.toInt ≤ 20) (h40 : p40 k j → v.toInt ≤ 40) (h200 : p200 k j → v.toInt ≤ 200) (hc : pch k → 0 ≤ v.toInt ∧ v.toInt ≤ 65535) : IvX (ux_wr M k j v) := by
  intro a b
  by_cases h : a = k ∧ b = j
  · obtain ⟨rfl, rfl⟩ := h
    rw [ux_wr_at]
    exact ⟨h0, h8, h20, h40, h200, hc⟩
  · rw [ux_wr_off (by omega)]
    exact hI a b
theorem IvX_free {M : ux_M} {k j : Nat} {v : Int32} (hI : IvX M) (h : ¬ ppn k j) (h' : ¬ pch k) : IvX (ux_wr M k j v) :=
  IvX_wr hI (fun q => absurd (by unfold p0 at q; unfold ppn; omega) h) (fun q => absurd (by unfold p8 at q; unfold ppn; omega) h) (fun q => absurd (by unfold p20 at q; unfold ppn; omega) h) (fun q => absurd (by unfold p40 at q; unfold ppn; omega) h) (fun q => absurd (by unfold p200 at q; unfold ppn; omega) h) (fun q => absurd q h')
theorem IvX_ch {M : ux_M} {k j : Nat} {v : Int32} (hI : IvX M) (h : ¬ ppn k j) (h' : 0 ≤ v.toInt ∧ v.toInt ≤ 65535) : IvX (ux_wr M k j v) :=
  IvX_wr hI (fun q => absurd (by unfold p0 at q; unfold ppn; omega) h) (fun q => absurd (by unfold p8 at q; unfold ppn; omega) h) (fun q => absurd (by unfold p20 at q; unfold ppn; omega) h) (fun q => absurd (by unfold p40 at q; unfold ppn; omega) h) (fun q => absurd (by unfold p200 at q; unfold ppn; omega) h) (fun _ => h')
theorem IvX_cp {M : ux_M} {k0 k1 sp dp n : Nat} (hI : IvX M) (h : ∀ b, ¬ ppn k1 b) (h' : pch k1 → pch k0) : IvX (ux_cp M k0 k1 sp dp n) := by
  intro a b
  by_cases ha : a = k1
  · subst ha
    have hp := h b
    refine ⟨fun q => absurd (by unfold p0 at q; unfold ppn; omega) hp, fun q => absurd (by unfold p8 at q; unfold ppn; omega) hp, fun q => absurd (by unfold p20 at q; unfold ppn; omega) hp, fun q => absurd (by unfold p40 at q; unfold ppn; omega) hp, fun q => absurd (by unfold p200 at q; unfold ppn; omega) hp, fun q => ?_⟩
    rw [ux_cp_at]
    unfold va_cpy
    by_cases hb : dp ≤ b ∧ b < dp + n
    · rw [if_pos hb]; exact ivch hI (h' q) _
    · rw [if_neg hb]; exact ivch hI q _
  · rw [ux_cp_off ha]
    exact hI a b
theorem fr_cp {T : Nat → Nat → Prop} {M0 M : ux_M} {k0 k1 sp dp n : Nat} (hF : ∀ a b, ¬ T a b → M a b = M0 a b) (h : ∀ b, T k1 b) : ∀ a b, ¬ T a b → ux_cp M k0 k1 sp dp n a b = M0 a b := fun a b q => by
  by_cases ha : a = k1
  · subst ha; exact absurd (h b) q
  · rw [ux_cp_off ha]; exact hF a b q
/-- a row of values: no bounded number of its own, letters are characters -/
def vV (k kl ks n : Nat) : Prop := ux_V shX KX k kl ks n ∧ pch kl ∧ (∀ b, ¬ ppn kl b) ∧ (∀ b, ¬ ppn ks b) ∧ ¬ pch ks ∧ kl ≠ ks
