/-! The class's strings: written by wip/gen/cls.py -/
def lenS : List Nat := [16, 1, 2, 2, 1, 2, 2, 3, 3, 0, 1, 2, 3, 5, 7, 1]
def bytS : List (List Int32) := [[115, 105, 101, 108, 109, 63, 42, 112, 103, 114, 98, 99, 120, 107, 62, 60], [118], [118, 120], [118, 110], [99], [120, 120], [99, 119], [99, 119, 119], [78, 118, 119], [], [119], [119, 118], [110, 120, 119], [110, 120, 119, 120, 119], [110, 120, 119, 120, 119, 120, 119], [120]]
def idxS : List Nat := [203, 208, 210, 212, 214, 216, 218, 220, 222, 224, 226, 228, 230, 232, 234, 236]
def txS : List String := ["sielm?*pgrbcxk><", "v", "vx", "vn", "c", "xx", "cw", "cww", "Nvw", "", "w", "wv", "nxw", "nxwxw", "nxwxwxw", "x"]
theorem lenS_t {i : Nat} (hi : i < 16) : (nI (lenS.getD i 0)).toInt = (lenS.getD i 0 : Int) ∧ lenS.getD i 0 ≤ 16 := by
  have h : ∀ i, i < 16 → lenS.getD i 0 ≤ 16 := by decide
  exact ⟨nI_toInt (by have := h i hi; omega), h i hi⟩
def ux_Z (ad adK adV : Nat → Nat) (fm : Value) (U : State) : Prop := vk_S 16 lenS bytS adK adV (ux_A KX ad) U U.heap ∧ va_Z "java/lang/String" "COMPACT_STRINGS" "Z" (.int 1) (ux_A KX ad) U U.heap ∧ va_Z "jdk/internal/util/Preconditions" "SIOOBE_FORMATTER" "Ljava/util/function/BiFunction;" fm (ux_A KX ad) U U.heap ∧ (fm = .null ∨ ∃ z, fm = .ref z) ∧ ∀ i, i < 16 → vk_R "PeerScripts$Runner" (idxS.getD i 0) (txS.getD i "") (adK i) U
theorem ux_Z.use {ad adK adV : Nat → Nat} {fm : Value} {s U : State} {H : Heap} {locs : List Loc} (h : ux_Z ad adK adV fm s) (hS : va_S (ux_A KX ad) s.heap H locs) (hU : U.heap = H) (hW : s.WarmedH U.vm) : ux_Z ad adK adV fm U :=
  ⟨by rw [hU]; exact vk_S.moved hW.alike (h.1.kept hS.2.1), by rw [hU]; exact va_Z.moved hW.alike (h.2.1.kept hS.2.1), by rw [hU]; exact va_Z.moved hW.alike (h.2.2.1.kept hS.2.1), h.2.2.2.1, fun i hi => vk_R.warm hW (h.2.2.2.2 i hi)⟩
def ux_BZ (D : va_G) (ad : Nat → Nat) (cA : Nat → ClassId) (M : ux_M) (adK adV : Nat → Nat) (fm : Value) (U : State) : Prop := ux_B D shX KX ad cA M U ∧ ux_Z ad adK adV fm U
section UXZ
variable {s : State} {H : Heap} {locs : List Loc} {D : va_G} {ad adK adV : Nat → Nat} {fm : Value} {cA : Nat → ClassId} {M : ux_M}
theorem ux_blindZ {av : List Value} : FrameBlind (va_Pc av (ux_BZ D ad cA M adK adV fm)) := by
  intro a U g mk q
  obtain ⟨q0, ⟨qP, qK, qi, qN⟩, qZ⟩ := q
  refine ⟨q0, ⟨qP, va_K.moved (u := U) (U := U.calling g mk a) (Vm.Alike.refl U.vm) qK, qi, ux_N.same (u := U) (U := U.calling g mk a) rfl qN⟩, vk_S.moved (u := U) (U := U.calling g mk a) (Vm.Alike.refl U.vm) qZ.1, va_Z.moved (u := U) (U := U.calling g mk a) (Vm.Alike.refl U.vm) qZ.2.1, va_Z.moved (u := U) (U := U.calling g mk a) (Vm.Alike.refl U.vm) qZ.2.2.1, qZ.2.2.2.1, fun i hi => vk_R.same (u := U) (U := U.calling g mk a) rfl (qZ.2.2.2.2 i hi)⟩
theorem ux_preZ {As : List Value} (hP : va_P D classes (ux_w shX KX ad cA M) H) (hK : va_K D classes (ux_t cA) s) (hi : ux_inj KX ad) (hN : ux_N s) (hZ : ux_Z ad adK adV fm s) (hS : va_S (ux_A KX ad) s.heap H locs) : PreS s H (va_Pc As (ux_BZ D ad cA M adK adV fm)) As :=
  ⟨ux_blindZ, fun _ hU hW => ⟨rfl, ⟨by rw [hU]; exact hP, va_K.moved hW.alike hK, hi, hN.warm hW⟩, hZ.use hS hU hW⟩⟩
theorem ux_preVZ {As : List Value} {C : String} {T : u_T} {N ci k : Nat} {fs : List (Option Nat)} (hk : k < KX) (hs : shX k = .inl (ci, fs)) (hc : classes[ci]? = some (C, T, N)) (hP : va_P D classes (ux_w shX KX ad cA M) H) (hK : va_K D classes (ux_t cA) s) (hi : ux_inj KX ad) (hN : ux_N s) (hZ : ux_Z ad adK adV fm s) (hS : va_S (ux_A KX ad) s.heap H locs) : PreV s H C (ad k) (va_Pc (.ref (ad k) :: As) (ux_BZ D ad cA M adK adV fm)) As :=
  ⟨ux_blindZ, va_recv hK hP hc (by rw [ux_w_at hk, hs]; rfl), fun _ hU hW => ⟨rfl, ⟨by rw [hU]; exact hP, va_K.moved hW.alike hK, hi, hN.warm hW⟩, hZ.use hS hU hW⟩⟩
theorem ux_preVS {As : List Value} {i : Nat} (hi1 : i < 16) (hP : va_P D classes (ux_w shX KX ad cA M) H) (hK : va_K D classes (ux_t cA) s) (hi : ux_inj KX ad) (hN : ux_N s) (hZ : ux_Z ad adK adV fm s) (hS : va_S (ux_A KX ad) s.heap H locs) : PreV s H R_St (adK i) (va_Pc (.ref (adK i) :: As) (ux_BZ D ad cA M adK adV fm)) As :=
  ⟨ux_blindZ, vk_recv hZ.1 hi1 hS, fun _ hU hW => ⟨rfl, ⟨by rw [hU]; exact hP, va_K.moved hW.alike hK, hi, hN.warm hW⟩, hZ.use hS hU hW⟩⟩
end UXZ
theorem nc_n {x : Int32} (h : 0 ≤ x.toInt ∧ x.toInt ≤ 65535) : narrow .char (.int x) = .int x := by
  have e : (x.toUInt32 % 65536).toInt32 = x := by
    apply Int32.toInt_inj.mp
    show (x.toUInt32 % 65536).toBitVec.toInt = x.toInt
    have h1 : (x.toUInt32 % 65536).toNat = x.toInt.toNat := by
      rw [UInt32.toNat_mod]
      have e2 : x.toUInt32.toNat = x.toInt.toNat := by
        have e3 : x.toInt = (x.toUInt32.toNat : Int) := by
          show x.toBitVec.toInt = _
          rw [BitVec.toInt_eq_toNat_of_msb]
          · rfl
          · rw [BitVec.msb_eq_toInt]
            have : x.toBitVec.toInt = x.toInt := rfl
            rw [this]
            simp; omega
        omega
      rw [e2]
      show x.toInt.toNat % 65536 = _
      omega
    rw [BitVec.toInt_eq_toNat_of_lt]
    · show ((x.toUInt32 % 65536).toNat : Int) = _
      omega
    · show 2 * (x.toUInt32 % 65536).toNat < 2 ^ 32
      omega
  show Value.int ((x.toUInt32 % 65536).toInt32) = .int x
  rw [e]
theorem shr0 (x : Int32) : x >>> ((0 : Int32) &&& 31) = x := by
  show x >>> (0 : Int32) = x
  simp

set_option maxHeartbeats 8000000 in
set_option maxRecDepth 100000 in
theorem s_St_isLatin1 (l : Launch) (D : va_G) (ad : Nat → Nat) (cA : Nat → ClassId) (M : ux_M) (hI : IvX M) (adK adV : Nat → Nat) (fm : Value) (i : Nat) (hi1 : i < 16) : Met l y_St_isLatin1 w_St_isLatin1 ({ frames := 0, cells := 0, slots := 0, locals := 0 }) (va_Pc [.ref (adK i)] (ux_BZ D ad cA M adK adV fm)) (va_Qi (fun r M1 => IvX M1 ∧ (∀ a b, ¬ tN a b → M1 a b = M a b) ∧ (r = 1)) (ux_E D shX KX ad cA) (ux_A KX ad)) 0 0 (ux_A KX ad) := by
  refine Met.ofW (cc := b_St_isLatin1) (maxL := 1) (ret := (some .boolean)) (by decide) rfl ?_
  intro p e s m args below meth c s₁ B hml hv
  obtain ⟨rfl, ⟨hP, hK, hi, hN⟩, hZ⟩ := hv
  have hx := B.exec
  have hb := B.bytes
  have hr := B.returns
  have hts := atoms_spec (ws := w_St_isLatin1) B.pre
  have hown : s.vm.findClass R_St = some m.cls := findClass_of_methodNamed B.named
  have hlocks := B.notSynchronized
  have hT : ∀ w ∈ tb, w.before _ s = true := fun w h => hts w (List.mem_cons_of_mem _ h)
  have hS : va_S (ux_A KX ad) s.heap s.heap [] := va_S.rf
  have hl := lv_entry ([.ref (adK i)]) (n := 1) (Nat.le_of_ble_eq_true rfl)
  rw [lg_entry_eq]
  generalize (lg_sl ([.ref (adK i)]) ++ List.replicate (1 - (lg_sl ([.ref (adK i)])).length) Slot.unset).toArray = ls at hl ⊢
  have hl : lv_has ls 1 [(0, .ref (adK i))] := hl
  have hF : ∀ a b, ¬ tN a b → M a b = M a b := fun _ _ _ => rfl
  refine va_gets hx hb hZ.2.1 hS hown (hT _ fl_St_38) (fun _ h => h) d_St_isLatin1_0 ?_
  refine lv_if_eq hx hb d_St_isLatin1_3 rfl (fun hz => absurd hz (by decide)) (fun _ => ?_)
  refine lv_aload_n hx hb d_St_isLatin1_6 rfl (lv_at hl 0 rfl) ?_
  refine vk_getf hx hb (hZ.1.1 i hi1).2.1 hS hown (hT _ fl_St_15) (fun _ h => h) d_St_isLatin1_7 ?_
  refine lv_if_ne hx hb d_St_isLatin1_10 rfl (fun hz => absurd (by decide) hz) (fun _ => ?_)
  refine lv_iconst (v := 1) hx hb d_St_isLatin1_13 (by decide) ?_
  refine lv_goto hx hb d_St_isLatin1_14 rfl ?_
  exact W.zret (v := 1) hx hb hr (rfl) (fun t ht hW => ⟨⟨1, M, rfl, ⟨hI, hF, rfl⟩, by unfold ux_E; rw [ht]; exact hP⟩, hS.F ht⟩) hS.2.2 d_St_isLatin1_18

set_option maxHeartbeats 8000000 in
set_option maxRecDepth 100000 in
theorem s_St_coder (l : Launch) (D : va_G) (ad : Nat → Nat) (cA : Nat → ClassId) (M : ux_M) (hI : IvX M) (adK adV : Nat → Nat) (fm : Value) (i : Nat) (hi1 : i < 16) : Met l y_St_coder w_St_coder ({ frames := 0, cells := 0, slots := 0, locals := 0 }) (va_Pc [.ref (adK i)] (ux_BZ D ad cA M adK adV fm)) (va_Qi (fun r M1 => IvX M1 ∧ (∀ a b, ¬ tN a b → M1 a b = M a b) ∧ (r = 0)) (ux_E D shX KX ad cA) (ux_A KX ad)) 0 0 (ux_A KX ad) := by
  refine Met.ofW (cc := b_St_coder) (maxL := 1) (ret := (some .byte)) (by decide) rfl ?_
  intro p e s m args below meth c s₁ B hml hv
  obtain ⟨rfl, ⟨hP, hK, hi, hN⟩, hZ⟩ := hv
  have hx := B.exec
  have hb := B.bytes
  have hr := B.returns
  have hts := atoms_spec (ws := w_St_coder) B.pre
  have hown : s.vm.findClass R_St = some m.cls := findClass_of_methodNamed B.named
  have hlocks := B.notSynchronized
  have hT : ∀ w ∈ tb, w.before _ s = true := fun w h => hts w (List.mem_cons_of_mem _ h)
  have hS : va_S (ux_A KX ad) s.heap s.heap [] := va_S.rf
  have hl := lv_entry ([.ref (adK i)]) (n := 1) (Nat.le_of_ble_eq_true rfl)
  rw [lg_entry_eq]
  generalize (lg_sl ([.ref (adK i)]) ++ List.replicate (1 - (lg_sl ([.ref (adK i)])).length) Slot.unset).toArray = ls at hl ⊢
  have hl : lv_has ls 1 [(0, .ref (adK i))] := hl
  have hF : ∀ a b, ¬ tN a b → M a b = M a b := fun _ _ _ => rfl
  refine va_gets hx hb hZ.2.1 hS hown (hT _ fl_St_38) (fun _ h => h) d_St_coder_0 ?_
  refine lv_if_eq hx hb d_St_coder_3 rfl (fun hz => absurd hz (by decide)) (fun _ => ?_)
  refine lv_aload_n hx hb d_St_coder_6 rfl (lv_at hl 0 rfl) ?_
  refine vk_getf hx hb (hZ.1.1 i hi1).2.1 hS hown (hT _ fl_St_15) (fun _ h => h) d_St_coder_7 ?_
  refine lv_goto hx hb d_St_coder_10 rfl ?_
  exact W.zret (v := 0) hx hb hr (rfl) (fun t ht hW => ⟨⟨0, M, rfl, ⟨hI, hF, rfl⟩, by unfold ux_E; rw [ht]; exact hP⟩, hS.F ht⟩) hS.2.2 d_St_coder_14

set_option maxHeartbeats 8000000 in
set_option maxRecDepth 100000 in
theorem s_St_length (l : Launch) (D : va_G) (ad : Nat → Nat) (cA : Nat → ClassId) (M : ux_M) (hI : IvX M) (adK adV : Nat → Nat) (fm : Value) (i : Nat) (hi1 : i < 16) : Met l y_St_length w_St_length ({ frames := 1, cells := 0, slots := 0, locals := 20 }) (va_Pc [.ref (adK i)] (ux_BZ D ad cA M adK adV fm)) (va_Qi (fun r M1 => IvX M1 ∧ (∀ a b, ¬ tN a b → M1 a b = M a b) ∧ (r.toInt = (lenS.getD i 0 : Int))) (ux_E D shX KX ad cA) (ux_A KX ad)) 0 0 (ux_A KX ad) := by
  refine Met.ofW (cc := b_St_length) (maxL := 1) (ret := (some .int)) (by decide) rfl ?_
  intro p e s m args below meth c s₁ B hml hv
  obtain ⟨rfl, ⟨hP, hK, hi, hN⟩, hZ⟩ := hv
  have hx := B.exec
  have hb := B.bytes
  have hr := B.returns
  have hts := atoms_spec (ws := w_St_length) B.pre
  have hown : s.vm.findClass R_St = some m.cls := findClass_of_methodNamed B.named
  have hlocks := B.notSynchronized
  have hT : ∀ w ∈ tb, w.before _ s = true := fun w h => hts w (List.mem_cons_of_mem _ h)
  have hS : va_S (ux_A KX ad) s.heap s.heap [] := va_S.rf
  have hl := lv_entry ([.ref (adK i)]) (n := 1) (Nat.le_of_ble_eq_true rfl)
  rw [lg_entry_eq]
  generalize (lg_sl ([.ref (adK i)]) ++ List.replicate (1 - (lg_sl ([.ref (adK i)])).length) Slot.unset).toArray = ls at hl ⊢
  have hl : lv_has ls 1 [(0, .ref (adK i))] := hl
  have hF : ∀ a b, ¬ tN a b → M a b = M a b := fun _ _ _ => rfl
  refine lv_aload_n hx hb d_St_length_0 rfl (lv_at hl 0 rfl) ?_
  refine vk_getf hx hb (hZ.1.1 i hi1).2.2.1 hS hown (hT _ fl_St_9) (fun _ h => h) d_St_length_1 ?_
  refine va_tlen hx hb (hZ.1.1 i hi1).2.2.2 hS (v := nI (lenS.getD i 0)) rfl d_St_length_4 ?_
  have b1 := lenS_t hi1
  refine lv_aload_n hx hb d_St_length_5 rfl (lv_at hl 0 rfl) ?_
  refine ux_calli (va_runV ⟨hx, hb, hml, hown, hts⟩ (s_St_coder l D ad cA M hI adK adV fm i hi1  ) (cwV 0 hts (tb_goodV ml_St_335 im_St_coder se_St_coder ii_St kt_St_coder) rfl rfl rfl (by decide +kernel) ⟨Nat.le_of_ble_eq_true rfl, Nat.le_of_ble_eq_true rfl⟩) (ux_preVS hi1 hP hK hi hN hZ hS) rfl rfl hl.1 rfl (lv_room (Nat.le_of_ble_eq_true rfl)) d_St_length_6 ⟨Nat.zero_le _, Nat.zero_le _⟩) hS (fun r2 M3 H locs q4 hP hS => ?_)
  obtain ⟨hI, fq4, q4p⟩ := q4
  rw [tN_eq fq4] at hP hI
  subst q4p
  refine lv_ishr hx hb d_St_length_9 ?_
  refine lv_topi (fun x5 ex5 => ?_)
  exact W.iret (v := x5) hx hb hr (fun t ht hW => ⟨⟨x5, M, rfl, ⟨hI, hF, (by rw [ex5, shr0]; exact (lenS_t hi1).1)⟩, by unfold ux_E; rw [ht]; exact hP⟩, hS.F ht⟩) hS.2.2 d_St_length_10

set_option maxHeartbeats 8000000 in
set_option maxRecDepth 100000 in
theorem s_Pp_n (l : Launch) (D : va_G) (ad : Nat → Nat) (cA : Nat → ClassId) (M : ux_M) (hI : IvX M) (k1 n1 : Int32) (h1 : 0 ≤ k1.toInt) (h2 : k1.toInt < n1.toInt) : Met l y_Pp_checkIndex w_Pp_checkIndex ({ frames := 0, cells := 0, slots := 0, locals := 0 }) (va_Pc [.int k1, .int n1, .null] (ux_B D shX KX ad cA M)) (va_Qi (fun r M1 => IvX M1 ∧ (∀ a b, ¬ tN a b → M1 a b = M a b) ∧ (True)) (ux_E D shX KX ad cA) (ux_A KX ad)) 0 0 (ux_A KX ad) := by
  refine Met.ofW (cc := b_Pp_checkIndex) (maxL := 3) (ret := (some .int)) (by decide) rfl ?_
  intro p e s m args below meth c s₁ B hml hv
  obtain ⟨rfl, hP, hK, hi, hN⟩ := hv
  have hx := B.exec
  have hb := B.bytes
  have hr := B.returns
  have hts := atoms_spec (ws := w_Pp_checkIndex) B.pre
  have hown : s.vm.findClass R_Pp = some m.cls := findClass_of_methodNamed B.named
  have hlocks := B.notSynchronized
  have hT : ∀ w ∈ tb, w.before _ s = true := fun w h => hts w (List.mem_cons_of_mem _ h)
  have hS : va_S (ux_A KX ad) s.heap s.heap [] := va_S.rf
  have hl := lv_entry ([.int k1, .int n1, .null]) (n := 3) (Nat.le_of_ble_eq_true rfl)
  rw [lg_entry_eq]
  generalize (lg_sl ([.int k1, .int n1, .null]) ++ List.replicate (3 - (lg_sl ([.int k1, .int n1, .null])).length) Slot.unset).toArray = ls at hl ⊢
  have hl : lv_has ls 3 [(0, .int k1), (1, .int n1), (2, .null)] := hl
  have hF : ∀ a b, ¬ tN a b → M a b = M a b := fun _ _ _ => rfl
  refine lv_iload_n hx hb d_Pp_checkIndex_0 rfl (lv_at hl 0 rfl) ?_
  refine lv_if_lt hx hb d_Pp_checkIndex_1 rfl (fun h1 => ?_) (fun h1 => ?_)
  · have g1 : k1.toInt < 0 := Int32.lt_iff_toInt_lt.mp h1
    have w1 := ti_lo k1
    exfalso; omega
  · have g1 : ¬ (k1.toInt < 0) := fun q => h1 (Int32.lt_iff_toInt_lt.mpr q)
    have u1 := ti_hi k1
    refine lv_iload_n hx hb d_Pp_checkIndex_4 rfl (lv_at hl 0 rfl) ?_
    refine lv_iload_n hx hb d_Pp_checkIndex_5 rfl (lv_at hl 1 rfl) ?_
    refine lv_icmp_lt hx hb d_Pp_checkIndex_6 rfl (fun h2 => ?_) (fun h2 => ?_)
    · have g2 : k1.toInt < n1.toInt := Int32.lt_iff_toInt_lt.mp h2
      have u2 := ti_hi n1
      have w2 := ti_lo k1
      refine lv_iload_n hx hb d_Pp_checkIndex_16 rfl (lv_at hl 0 rfl) ?_
      exact W.iret (v := k1) hx hb hr (fun t ht hW => ⟨⟨k1, M, rfl, ⟨hI, hF, trivial⟩, by unfold ux_E; rw [ht]; exact hP⟩, hS.F ht⟩) hS.2.2 d_Pp_checkIndex_17
    · have g2 : ¬ (k1.toInt < n1.toInt) := fun q => h2 (Int32.lt_iff_toInt_lt.mpr q)
      have u2 := ti_hi k1
      have w2 := ti_lo n1
      exfalso; omega

set_option maxHeartbeats 8000000 in
set_option maxRecDepth 100000 in
theorem s_Pp_r (l : Launch) (D : va_G) (ad : Nat → Nat) (cA : Nat → ClassId) (M : ux_M) (hI : IvX M) (z1 : Nat) (k1 n1 : Int32) (h1 : 0 ≤ k1.toInt) (h2 : k1.toInt < n1.toInt) : Met l y_Pp_checkIndex w_Pp_checkIndex ({ frames := 0, cells := 0, slots := 0, locals := 0 }) (va_Pc [.int k1, .int n1, .ref z1] (ux_B D shX KX ad cA M)) (va_Qi (fun r M1 => IvX M1 ∧ (∀ a b, ¬ tN a b → M1 a b = M a b) ∧ (True)) (ux_E D shX KX ad cA) (ux_A KX ad)) 0 0 (ux_A KX ad) := by
  refine Met.ofW (cc := b_Pp_checkIndex) (maxL := 3) (ret := (some .int)) (by decide) rfl ?_
  intro p e s m args below meth c s₁ B hml hv
  obtain ⟨rfl, hP, hK, hi, hN⟩ := hv
  have hx := B.exec
  have hb := B.bytes
  have hr := B.returns
  have hts := atoms_spec (ws := w_Pp_checkIndex) B.pre
  have hown : s.vm.findClass R_Pp = some m.cls := findClass_of_methodNamed B.named
  have hlocks := B.notSynchronized
  have hT : ∀ w ∈ tb, w.before _ s = true := fun w h => hts w (List.mem_cons_of_mem _ h)
  have hS : va_S (ux_A KX ad) s.heap s.heap [] := va_S.rf
  have hl := lv_entry ([.int k1, .int n1, .ref z1]) (n := 3) (Nat.le_of_ble_eq_true rfl)
  rw [lg_entry_eq]
  generalize (lg_sl ([.int k1, .int n1, .ref z1]) ++ List.replicate (3 - (lg_sl ([.int k1, .int n1, .ref z1])).length) Slot.unset).toArray = ls at hl ⊢
  have hl : lv_has ls 3 [(0, .int k1), (1, .int n1), (2, .ref z1)] := hl
  have hF : ∀ a b, ¬ tN a b → M a b = M a b := fun _ _ _ => rfl
  refine lv_iload_n hx hb d_Pp_checkIndex_0 rfl (lv_at hl 0 rfl) ?_
  refine lv_if_lt hx hb d_Pp_checkIndex_1 rfl (fun h1 => ?_) (fun h1 => ?_)
  · have g1 : k1.toInt < 0 := Int32.lt_iff_toInt_lt.mp h1
    have w1 := ti_lo k1
    exfalso; omega
  · have g1 : ¬ (k1.toInt < 0) := fun q => h1 (Int32.lt_iff_toInt_lt.mpr q)
    have u1 := ti_hi k1
    refine lv_iload_n hx hb d_Pp_checkIndex_4 rfl (lv_at hl 0 rfl) ?_
    refine lv_iload_n hx hb d_Pp_checkIndex_5 rfl (lv_at hl 1 rfl) ?_
    refine lv_icmp_lt hx hb d_Pp_checkIndex_6 rfl (fun h2 => ?_) (fun h2 => ?_)
    · have g2 : k1.toInt < n1.toInt := Int32.lt_iff_toInt_lt.mp h2
      have u2 := ti_hi n1
      have w2 := ti_lo k1
      refine lv_iload_n hx hb d_Pp_checkIndex_16 rfl (lv_at hl 0 rfl) ?_
      exact W.iret (v := k1) hx hb hr (fun t ht hW => ⟨⟨k1, M, rfl, ⟨hI, hF, trivial⟩, by unfold ux_E; rw [ht]; exact hP⟩, hS.F ht⟩) hS.2.2 d_Pp_checkIndex_17
    · have g2 : ¬ (k1.toInt < n1.toInt) := fun q => h2 (Int32.lt_iff_toInt_lt.mpr q)
      have u2 := ti_hi k1
      have w2 := ti_lo n1
      exfalso; omega

theorem s_Pp_checkIndex (l : Launch) (D : va_G) (ad : Nat → Nat) (cA : Nat → ClassId) (M : ux_M) (hI : IvX M) (fm : Value) (hfm : fm = .null ∨ ∃ z, fm = .ref z) (k1 n1 : Int32) (h1 : 0 ≤ k1.toInt) (h2 : k1.toInt < n1.toInt) : Met l y_Pp_checkIndex w_Pp_checkIndex ({ frames := 0, cells := 0, slots := 0, locals := 0 }) (va_Pc [.int k1, .int n1, fm] (ux_B D shX KX ad cA M)) (va_Qi (fun r M1 => IvX M1 ∧ (∀ a b, ¬ tN a b → M1 a b = M a b) ∧ (True)) (ux_E D shX KX ad cA) (ux_A KX ad)) 0 0 (ux_A KX ad) := by
  rcases hfm with rfl | ⟨z, rfl⟩
  · exact s_Pp_n l D ad cA M hI k1 n1 h1 h2
  · exact s_Pp_r l D ad cA M hI z k1 n1 h1 h2

set_option maxHeartbeats 8000000 in
set_option maxRecDepth 100000 in
theorem s_St_checkIndex (l : Launch) (D : va_G) (ad : Nat → Nat) (cA : Nat → ClassId) (M : ux_M) (hI : IvX M) (adK adV : Nat → Nat) (fm : Value) (k1 n1 : Int32) (h1 : 0 ≤ k1.toInt) (h2 : k1.toInt < n1.toInt) : Met l y_St_checkIndex w_St_checkIndex ({ frames := 1, cells := 0, slots := 0, locals := 22 }) (va_Pc [.int k1, .int n1] (ux_BZ D ad cA M adK adV fm)) (va_Qv (fun M1 => IvX M1 ∧ (∀ a b, ¬ tN a b → M1 a b = M a b) ∧ (True)) (ux_E D shX KX ad cA) (ux_A KX ad)) 0 0 (ux_A KX ad) := by
  refine Met.ofW (cc := b_St_checkIndex) (maxL := 2) (ret := none) (by decide) rfl ?_
  intro p e s m args below meth c s₁ B hml hv
  obtain ⟨rfl, ⟨hP, hK, hi, hN⟩, hZ⟩ := hv
  have hx := B.exec
  have hb := B.bytes
  have hr := B.returns
  have hts := atoms_spec (ws := w_St_checkIndex) B.pre
  have hown : s.vm.findClass R_St = some m.cls := findClass_of_methodNamed B.named
  have hlocks := B.notSynchronized
  have hT : ∀ w ∈ tb, w.before _ s = true := fun w h => hts w (List.mem_cons_of_mem _ h)
  have hS : va_S (ux_A KX ad) s.heap s.heap [] := va_S.rf
  have hl := lv_entry ([.int k1, .int n1]) (n := 2) (Nat.le_of_ble_eq_true rfl)
  rw [lg_entry_eq]
  generalize (lg_sl ([.int k1, .int n1]) ++ List.replicate (2 - (lg_sl ([.int k1, .int n1])).length) Slot.unset).toArray = ls at hl ⊢
  have hl : lv_has ls 2 [(0, .int k1), (1, .int n1)] := hl
  have hF : ∀ a b, ¬ tN a b → M a b = M a b := fun _ _ _ => rfl
  refine lv_iload_n hx hb d_St_checkIndex_0 rfl (lv_at hl 0 rfl) ?_
  refine lv_iload_n hx hb d_St_checkIndex_1 rfl (lv_at hl 1 rfl) ?_
  refine va_gets hx hb hZ.2.2.1 hS hown (hT _ fl_St_1053) (fun _ h => h) d_St_checkIndex_2 ?_
  refine ux_calli (va_runS ⟨hx, hb, hml, hown, hts⟩ (s_Pp_checkIndex l D ad cA M hI fm hZ.2.2.2.1 k1 n1 (by omega) (by omega)) (va_cwS 3 hts (tb_goodST ml_St_1059 sm_Pp_checkIndex ii_Pp kt_Pp_checkIndex) rfl rfl rfl (by decide +kernel) ⟨Nat.le_of_ble_eq_true rfl, Nat.le_of_ble_eq_true rfl⟩) (ux_pre hP hK hi hN) rfl rfl hl.1 rfl (lv_room (Nat.le_of_ble_eq_true rfl)) d_St_checkIndex_5 ⟨Nat.zero_le _, Nat.zero_le _⟩) hS (fun r1 M2 H locs q3 hP hS => ?_)
  obtain ⟨hI, fq3, q3p⟩ := q3
  rw [tN_eq fq3] at hP hI
  refine lv_pop hx hb d_St_checkIndex_8 rfl ?_
  exact W.vret hx hb hr (fun t ht hW => ⟨⟨M, rfl, ⟨hI, hF, trivial⟩, by unfold ux_E; rw [ht]; exact hP⟩, hS.F ht⟩) hS.2.2 d_St_checkIndex_9

set_option maxHeartbeats 8000000 in
set_option maxRecDepth 100000 in
theorem s_S1_charAt (l : Launch) (D : va_G) (ad : Nat → Nat) (cA : Nat → ClassId) (M : ux_M) (hI : IvX M) (adK adV : Nat → Nat) (fm : Value) (i : Nat) (hi1 : i < 16) (k1 : Int32) (h1 : 0 ≤ k1.toInt) (h2 : k1.toInt < (lenS.getD i 0 : Int)) : Met l y_S1_charAt w_S1_charAt ({ frames := 2, cells := 0, slots := 0, locals := 43 }) (va_Pc [.ref (adV i), .int k1] (ux_BZ D ad cA M adK adV fm)) (va_Qi (fun r M1 => IvX M1 ∧ (∀ a b, ¬ tN a b → M1 a b = M a b) ∧ (0 ≤ r.toInt ∧ r.toInt ≤ 65535)) (ux_E D shX KX ad cA) (ux_A KX ad)) 0 0 (ux_A KX ad) := by
  refine Met.ofW (cc := b_S1_charAt) (maxL := 2) (ret := (some .char)) (by decide) rfl ?_
  intro p e s m args below meth c s₁ B hml hv
  obtain ⟨rfl, ⟨hP, hK, hi, hN⟩, hZ⟩ := hv
  have hx := B.exec
  have hb := B.bytes
  have hr := B.returns
  have hts := atoms_spec (ws := w_S1_charAt) B.pre
  have hown : s.vm.findClass R_S1 = some m.cls := findClass_of_methodNamed B.named
  have hlocks := B.notSynchronized
  have hT : ∀ w ∈ tb, w.before _ s = true := fun w h => hts w (List.mem_cons_of_mem _ h)
  have hS : va_S (ux_A KX ad) s.heap s.heap [] := va_S.rf
  have hl := lv_entry ([.ref (adV i), .int k1]) (n := 2) (Nat.le_of_ble_eq_true rfl)
  rw [lg_entry_eq]
  generalize (lg_sl ([.ref (adV i), .int k1]) ++ List.replicate (2 - (lg_sl ([.ref (adV i), .int k1])).length) Slot.unset).toArray = ls at hl ⊢
  have hl : lv_has ls 2 [(0, .ref (adV i)), (1, .int k1)] := hl
  have hF : ∀ a b, ¬ tN a b → M a b = M a b := fun _ _ _ => rfl
  refine lv_iload_n hx hb d_S1_charAt_0 rfl (lv_at hl 1 rfl) ?_
  refine lv_aload_n hx hb d_S1_charAt_1 rfl (lv_at hl 0 rfl) ?_
  refine va_tlen hx hb (hZ.1.1 i hi1).2.2.2 hS (v := nI (lenS.getD i 0)) rfl d_S1_charAt_2 ?_
  have b1 := lenS_t hi1
  refine ux_callv (va_runS ⟨hx, hb, hml, hown, hts⟩ (s_St_checkIndex l D ad cA M hI adK adV fm k1 (nI (lenS.getD i 0)) (by omega) (by omega)) (va_cwS 2 hts (tb_goodST ml_S1_9 sm_St_checkIndex ii_St kt_St_checkIndex) rfl rfl rfl (by decide +kernel) ⟨Nat.le_of_ble_eq_true rfl, Nat.le_of_ble_eq_true rfl⟩) (ux_preZ hP hK hi hN hZ hS) rfl rfl hl.1 rfl (lv_room (Nat.le_of_ble_eq_true rfl)) d_S1_charAt_3 ⟨Nat.zero_le _, Nat.zero_le _⟩) hS (fun M3 H locs q4 hP hS => ?_)
  obtain ⟨hI, fq4, q4p⟩ := q4
  rw [tN_eq fq4] at hP hI
  refine lv_aload_n hx hb d_S1_charAt_6 rfl (lv_at hl 0 rfl) ?_
  refine lv_iload_n hx hb d_S1_charAt_7 rfl (lv_at hl 1 rfl) ?_
  refine va_tb hx hb (hZ.1.1 i hi1).2.2.2 hS (vi (show 0 ≤ k1.toInt by omega) (show k1.toInt < ((lenS.getD i 0 : Nat) : Int) by omega)) rfl d_S1_charAt_8 ?_
  refine lv_topi (fun x5 ex5 => ?_)
  refine lv_sipush (v := 255) hx hb d_S1_charAt_9 (by decide) ?_
  refine lv_iand hx hb d_S1_charAt_12 ?_
  refine lv_topi (fun x6 ex6 => ?_)
  refine lv_i2c hx hb d_S1_charAt_13 rfl ?_
  refine lv_topi (fun x7 ex7 => ?_)
  have fx7 : 0 ≤ x7.toInt ∧ x7.toInt ≤ 65535 := by rw [ex7]; exact ti_i2c _
  exact W.zret (v := x7) hx hb hr (nc_n (by omega)) (fun t ht hW => ⟨⟨x7, M, rfl, ⟨hI, hF, (by omega)⟩, by unfold ux_E; rw [ht]; exact hP⟩, hS.F ht⟩) hS.2.2 d_S1_charAt_14

set_option maxHeartbeats 8000000 in
set_option maxRecDepth 100000 in
theorem s_St_charAt (l : Launch) (D : va_G) (ad : Nat → Nat) (cA : Nat → ClassId) (M : ux_M) (hI : IvX M) (adK adV : Nat → Nat) (fm : Value) (i : Nat) (hi1 : i < 16) (k1 : Int32) (h1 : 0 ≤ k1.toInt) (h2 : k1.toInt < (lenS.getD i 0 : Int)) : Met l y_St_charAt w_St_charAt ({ frames := 3, cells := 0, slots := 0, locals := 64 }) (va_Pc [.ref (adK i), .int k1] (ux_BZ D ad cA M adK adV fm)) (va_Qi (fun r M1 => IvX M1 ∧ (∀ a b, ¬ tN a b → M1 a b = M a b) ∧ (0 ≤ r.toInt ∧ r.toInt ≤ 65535)) (ux_E D shX KX ad cA) (ux_A KX ad)) 0 0 (ux_A KX ad) := by
  refine Met.ofW (cc := b_St_charAt) (maxL := 2) (ret := (some .char)) (by decide) rfl ?_
  intro p e s m args below meth c s₁ B hml hv
  obtain ⟨rfl, ⟨hP, hK, hi, hN⟩, hZ⟩ := hv
  have hx := B.exec
  have hb := B.bytes
  have hr := B.returns
  have hts := atoms_spec (ws := w_St_charAt) B.pre
  have hown : s.vm.findClass R_St = some m.cls := findClass_of_methodNamed B.named
  have hlocks := B.notSynchronized
  have hT : ∀ w ∈ tb, w.before _ s = true := fun w h => hts w (List.mem_cons_of_mem _ h)
  have hS : va_S (ux_A KX ad) s.heap s.heap [] := va_S.rf
  have hl := lv_entry ([.ref (adK i), .int k1]) (n := 2) (Nat.le_of_ble_eq_true rfl)
  rw [lg_entry_eq]
  generalize (lg_sl ([.ref (adK i), .int k1]) ++ List.replicate (2 - (lg_sl ([.ref (adK i), .int k1])).length) Slot.unset).toArray = ls at hl ⊢
  have hl : lv_has ls 2 [(0, .ref (adK i)), (1, .int k1)] := hl
  have hF : ∀ a b, ¬ tN a b → M a b = M a b := fun _ _ _ => rfl
  refine lv_aload_n hx hb d_St_charAt_0 rfl (lv_at hl 0 rfl) ?_
  refine ux_calli (va_runV ⟨hx, hb, hml, hown, hts⟩ (s_St_isLatin1 l D ad cA M hI adK adV fm i hi1  ) (cwV 0 hts (tb_goodV ml_St_492 im_St_isLatin1 se_St_isLatin1 ii_St kt_St_isLatin1) rfl rfl rfl (by decide +kernel) ⟨Nat.le_of_ble_eq_true rfl, Nat.le_of_ble_eq_true rfl⟩) (ux_preVS hi1 hP hK hi hN hZ hS) rfl rfl hl.1 rfl (lv_room (Nat.le_of_ble_eq_true rfl)) d_St_charAt_1 ⟨Nat.zero_le _, Nat.zero_le _⟩) hS (fun r1 M2 H locs q3 hP hS => ?_)
  obtain ⟨hI, fq3, q3p⟩ := q3
  rw [tN_eq fq3] at hP hI
  subst q3p
  refine lv_if_eq hx hb d_St_charAt_4 rfl (fun hz => absurd hz (by decide)) (fun _ => ?_)
  refine lv_aload_n hx hb d_St_charAt_7 rfl (lv_at hl 0 rfl) ?_
  refine vk_getf hx hb (hZ.1.1 i hi1).2.2.1 hS hown (hT _ fl_St_9) (fun _ h => h) d_St_charAt_8 ?_
  refine lv_iload_n hx hb d_St_charAt_11 rfl (lv_at hl 1 rfl) ?_
  refine ux_calli (va_runS ⟨hx, hb, hml, hown, hts⟩ (s_S1_charAt l D ad cA M hI adK adV fm i hi1 k1  (by omega) (by omega)) (va_cwS 2 hts (tb_goodST ml_St_495 sm_S1_charAt ii_S1 kt_S1_charAt) rfl rfl rfl (by decide +kernel) ⟨Nat.le_of_ble_eq_true rfl, Nat.le_of_ble_eq_true rfl⟩) (ux_preZ hP hK hi hN hZ hS) rfl rfl hl.1 rfl (lv_room (Nat.le_of_ble_eq_true rfl)) d_St_charAt_12 ⟨Nat.zero_le _, Nat.zero_le _⟩) hS (fun r4 M5 H locs q6 hP hS => ?_)
  obtain ⟨hI, fq6, q6p⟩ := q6
  rw [tN_eq fq6] at hP hI
  exact W.zret (v := r4) hx hb hr (nc_n (by omega)) (fun t ht hW => ⟨⟨r4, M, rfl, ⟨hI, hF, (by omega)⟩, by unfold ux_E; rw [ht]; exact hP⟩, hS.F ht⟩) hS.2.2 d_St_charAt_15

set_option maxHeartbeats 8000000 in
set_option maxRecDepth 100000 in
theorem s_S1_canEncode (l : Launch) (D : va_G) (ad : Nat → Nat) (cA : Nat → ClassId) (M : ux_M) (hI : IvX M) (ch : Int32) : Met l y_S1_canEncode w_S1_canEncode ({ frames := 0, cells := 0, slots := 0, locals := 0 }) (va_Pc [.int ch] (ux_B D shX KX ad cA M)) (va_Qi (fun r M1 => IvX M1 ∧ (∀ a b, ¬ tN a b → M1 a b = M a b) ∧ (r = 0 ∨ r = 1)) (ux_E D shX KX ad cA) (ux_A KX ad)) 0 0 (ux_A KX ad) := by
  refine Met.ofW (cc := b_S1_canEncode) (maxL := 1) (ret := (some .boolean)) (by decide) rfl ?_
  intro p e s m args below meth c s₁ B hml hv
  obtain ⟨rfl, hP, hK, hi, hN⟩ := hv
  have hx := B.exec
  have hb := B.bytes
  have hr := B.returns
  have hts := atoms_spec (ws := w_S1_canEncode) B.pre
  have hown : s.vm.findClass R_S1 = some m.cls := findClass_of_methodNamed B.named
  have hlocks := B.notSynchronized
  have hT : ∀ w ∈ tb, w.before _ s = true := fun w h => hts w (List.mem_cons_of_mem _ h)
  have hS : va_S (ux_A KX ad) s.heap s.heap [] := va_S.rf
  have hl := lv_entry ([.int ch]) (n := 1) (Nat.le_of_ble_eq_true rfl)
  rw [lg_entry_eq]
  generalize (lg_sl ([.int ch]) ++ List.replicate (1 - (lg_sl ([.int ch])).length) Slot.unset).toArray = ls at hl ⊢
  have hl : lv_has ls 1 [(0, .int ch)] := hl
  have hF : ∀ a b, ¬ tN a b → M a b = M a b := fun _ _ _ => rfl
  refine lv_iload_n hx hb d_S1_canEncode_0 rfl (lv_at hl 0 rfl) ?_
  refine lv_if_lt hx hb d_S1_canEncode_1 rfl (fun h1 => ?_) (fun h1 => ?_)
  · have g1 : ch.toInt < 0 := Int32.lt_iff_toInt_lt.mp h1
    have w1 := ti_lo ch
    refine lv_iconst (v := 0) hx hb d_S1_canEncode_15 (by decide) ?_
    exact W.zret (v := 0) hx hb hr (rfl) (fun t ht hW => ⟨⟨0, M, rfl, ⟨hI, hF, Or.inl rfl⟩, by unfold ux_E; rw [ht]; exact hP⟩, hS.F ht⟩) hS.2.2 d_S1_canEncode_16
  · have g1 : ¬ (ch.toInt < 0) := fun q => h1 (Int32.lt_iff_toInt_lt.mpr q)
    have u1 := ti_hi ch
    refine lv_iload_n hx hb d_S1_canEncode_4 rfl (lv_at hl 0 rfl) ?_
    refine lv_sipush (v := 255) hx hb d_S1_canEncode_5 (by decide) ?_
    refine lv_icmp_gt hx hb d_S1_canEncode_8 rfl (fun h2 => ?_) (fun h2 => ?_)
    · have g2 : 255 < ch.toInt := Int32.lt_iff_toInt_lt.mp h2
      have u2 := ti_hi ch
      refine lv_iconst (v := 0) hx hb d_S1_canEncode_15 (by decide) ?_
      exact W.zret (v := 0) hx hb hr (rfl) (fun t ht hW => ⟨⟨0, M, rfl, ⟨hI, hF, Or.inl rfl⟩, by unfold ux_E; rw [ht]; exact hP⟩, hS.F ht⟩) hS.2.2 d_S1_canEncode_16
    · have g2 : ¬ (255 < ch.toInt) := fun q => h2 (Int32.lt_iff_toInt_lt.mpr q)
      have w2 := ti_lo ch
      refine lv_iconst (v := 1) hx hb d_S1_canEncode_11 (by decide) ?_
      refine lv_goto hx hb d_S1_canEncode_12 rfl ?_
      exact W.zret (v := 1) hx hb hr (rfl) (fun t ht hW => ⟨⟨1, M, rfl, ⟨hI, hF, Or.inr rfl⟩, by unfold ux_E; rw [ht]; exact hP⟩, hS.F ht⟩) hS.2.2 d_S1_canEncode_16

set_option maxHeartbeats 8000000 in
set_option maxRecDepth 100000 in
theorem s_S1_indexOfChar (l : Launch) (D : va_G) (ad : Nat → Nat) (cA : Nat → ClassId) (M : ux_M) (hI : IvX M) (adK adV : Nat → Nat) (fm : Value) (i : Nat) (hi1 : i < 16) (ch a b : Int32) (h1 : 0 ≤ a.toInt) (h2 : b.toInt ≤ (lenS.getD i 0 : Int)) : Met l y_S1_indexOfChar w_S1_indexOfChar ({ frames := 0, cells := 0, slots := 0, locals := 0 }) (va_Pc [.ref (adV i), .int ch, .int a, .int b] (ux_BZ D ad cA M adK adV fm)) (va_Qi (fun r M1 => IvX M1 ∧ (∀ a b, ¬ tN a b → M1 a b = M a b) ∧ (True)) (ux_E D shX KX ad cA) (ux_A KX ad)) 0 0 (ux_A KX ad) := by
  refine Met.ofW (cc := b_S1_indexOfChar) (maxL := 6) (ret := (some .int)) (by decide) rfl ?_
  intro p e s m args below meth c s₁ B hml hv
  obtain ⟨rfl, ⟨hP, hK, hi, hN⟩, hZ⟩ := hv
  have hx := B.exec
  have hb := B.bytes
  have hr := B.returns
  have hts := atoms_spec (ws := w_S1_indexOfChar) B.pre
  have hown : s.vm.findClass R_S1 = some m.cls := findClass_of_methodNamed B.named
  have hlocks := B.notSynchronized
  have hT : ∀ w ∈ tb, w.before _ s = true := fun w h => hts w (List.mem_cons_of_mem _ h)
  have hS : va_S (ux_A KX ad) s.heap s.heap [] := va_S.rf
  have hl := lv_entry ([.ref (adV i), .int ch, .int a, .int b]) (n := 6) (Nat.le_of_ble_eq_true rfl)
  rw [lg_entry_eq]
  generalize (lg_sl ([.ref (adV i), .int ch, .int a, .int b]) ++ List.replicate (6 - (lg_sl ([.ref (adV i), .int ch, .int a, .int b])).length) Slot.unset).toArray = ls at hl ⊢
  have hl : lv_has ls 6 [(0, .ref (adV i)), (1, .int ch), (2, .int a), (3, .int b)] := hl
  have hF : ∀ a b, ¬ tN a b → M a b = M a b := fun _ _ _ => rfl
  have cut7 : ∀ (nn : Nat) (i_4 i_5 : Int32) (Mc7 : ux_M) (H : Heap) (locs : List Loc) (ls : Array Slot), (b.toInt - i_5.toInt).toNat = nn → (0 ≤ i_5.toInt) → va_P D classes (ux_w shX KX ad cA Mc7) H → IvX Mc7 → (∀ a b, ¬ tN a b → Mc7 a b = M a b) → va_S (ux_A KX ad) s.heap H locs → lv_has ls 6 [(0, .ref (adV i)), (3, .int b), (4, .int i_4), (5, .int i_5)] → W p l e (headSpec w_S1_indexOfChar ({ frames := 0, cells := 0, slots := 0, locals := 0 })).room s m (([.ref (adV i), .int ch, .int a, .int b] : List Value).toArray) below meth c H locs 0 0 (MQ below (va_Qi (fun r M1 => IvX M1 ∧ (∀ a b, ¬ tN a b → M1 a b = M a b) ∧ (True)) (ux_E D shX KX ad cA) (ux_A KX ad)) (([.ref (adV i), .int ch, .int a, .int b] : List Value).toArray) s 0 0 (ux_A KX ad)) (F0 m 7 ls []) := by
    intro nn
    induction nn using Nat.strongRecOn with
    | ind nn ih7 =>
      intro i_4 i_5 Mc7 H locs ls hn c7_0 hP hI hF hS hl
      refine lv_iload hx hb d_S1_indexOfChar_7 (lv_at hl 3 rfl) ?_
      refine lv_iload_n hx hb d_S1_indexOfChar_9 rfl (lv_at hl 1 rfl) ?_
      refine lv_icmp_ge hx hb d_S1_indexOfChar_10 rfl (fun h1 => ?_) (fun h1 => ?_)
      · have g1 : b.toInt ≤ i_5.toInt := Int32.le_iff_toInt_le.mp h1
        have u1 := ti_hi i_5
        have w1 := ti_lo b
        refine lv_iconst (v := (-1)) hx hb d_S1_indexOfChar_31 (by decide) ?_
        exact W.iret (v := -1) hx hb hr (fun t ht hW => ⟨⟨-1, Mc7, rfl, ⟨hI, hF, trivial⟩, by unfold ux_E; rw [ht]; exact hP⟩, hS.F ht⟩) hS.2.2 d_S1_indexOfChar_32
      · have g1 : ¬ (b.toInt ≤ i_5.toInt) := fun q => h1 (Int32.le_iff_toInt_le.mpr q)
        have u1 := ti_hi b
        have w1 := ti_lo i_5
        refine lv_aload_n hx hb d_S1_indexOfChar_13 rfl (lv_at hl 0 rfl) ?_
        refine lv_iload hx hb d_S1_indexOfChar_14 (lv_at hl 3 rfl) ?_
        refine va_tb hx hb (hZ.1.1 i hi1).2.2.2 hS (vi (show 0 ≤ i_5.toInt by omega) (show i_5.toInt < ((lenS.getD i 0 : Nat) : Int) by omega)) rfl d_S1_indexOfChar_16 ?_
        refine lv_topi (fun x2 ex2 => ?_)
        refine lv_iload hx hb d_S1_indexOfChar_17 (lv_at hl 2 rfl) ?_
        refine lv_icmp_ne hx hb d_S1_indexOfChar_19 rfl (fun h3 => ?_) (fun h3 => ?_)
        · have g3 : ¬ (x2.toInt = i_4.toInt) := fun q => h3 (Int32.toInt_inj.mp q)
          obtain ⟨x4, ex4⟩ : ∃ z : Int32, z = i_5 + 1 := ⟨_, rfl⟩
          refine lv_iinc (k := 3) (v := x4) hx hb d_S1_indexOfChar_25 hl rfl ex4.symm (by decide) rfl (fun ls hl => ?_)
          have hl : lv_has ls 6 [(5, .int x4), (0, .ref (adV i)), (3, .int b), (4, .int i_4)] := hl
          try have fx4 : x4.toInt = i_5.toInt + 1 := by rw [ex4]; exact ti_add (by (try rw [show (1 : Int32).toInt = 1 from rfl]); omega) (by (try rw [show (1 : Int32).toInt = 1 from rfl]); omega)
          refine lv_goto hx hb d_S1_indexOfChar_28 rfl ?_
          exact ih7 ((b.toInt - x4.toInt).toNat) (by omega) i_4 x4 Mc7 _ _ ls rfl (show 0 ≤ x4.toInt from by first | omega | assumption | exact Or.inl rfl | exact Or.inr rfl | rfl | decide) hP hI hF hS (lv_sub hl [1, 2, 3, 0] rfl)
        · have g3 : x2.toInt = i_4.toInt := congrArg Int32.toInt h3
          refine lv_iload hx hb d_S1_indexOfChar_22 (lv_at hl 3 rfl) ?_
          exact W.iret (v := i_5) hx hb hr (fun t ht hW => ⟨⟨i_5, Mc7, rfl, ⟨hI, hF, trivial⟩, by unfold ux_E; rw [ht]; exact hP⟩, hS.F ht⟩) hS.2.2 d_S1_indexOfChar_24
  refine lv_iload_n hx hb d_S1_indexOfChar_0 rfl (lv_at hl 1 rfl) ?_
  refine lv_i2b hx hb d_S1_indexOfChar_1 rfl ?_
  refine lv_topi (fun x5 ex5 => ?_)
  refine lv_istore hx hb d_S1_indexOfChar_2 hl (by decide) rfl (fun ls hl => ?_)
  have hl : lv_has ls 6 [(4, .int x5), (0, .ref (adV i)), (1, .int ch), (2, .int a), (3, .int b)] := hl
  refine lv_iload_n hx hb d_S1_indexOfChar_4 rfl (lv_at hl 3 rfl) ?_
  refine lv_istore hx hb d_S1_indexOfChar_5 hl (by decide) rfl (fun ls hl => ?_)
  have hl : lv_has ls 6 [(5, .int a), (4, .int x5), (0, .ref (adV i)), (1, .int ch), (2, .int a), (3, .int b)] := hl
  exact cut7 ((b.toInt - a.toInt).toNat) x5 a M _ _ ls rfl (show 0 ≤ a.toInt from by first | omega | assumption | exact Or.inl rfl | exact Or.inr rfl | rfl | decide) hP hI hF hS (lv_sub hl [2, 5, 1, 0] rfl)

set_option maxHeartbeats 8000000 in
set_option maxRecDepth 100000 in
theorem s_S1_indexOf (l : Launch) (D : va_G) (ad : Nat → Nat) (cA : Nat → ClassId) (M : ux_M) (hI : IvX M) (adK adV : Nat → Nat) (fm : Value) (i : Nat) (hi1 : i < 16) (ch a b : Int32) : Met l y_S1_indexOf w_S1_indexOf ({ frames := 1, cells := 0, slots := 0, locals := 25 }) (va_Pc [.ref (adV i), .int ch, .int a, .int b] (ux_BZ D ad cA M adK adV fm)) (va_Qi (fun r M1 => IvX M1 ∧ (∀ a b, ¬ tN a b → M1 a b = M a b) ∧ (True)) (ux_E D shX KX ad cA) (ux_A KX ad)) 0 0 (ux_A KX ad) := by
  refine Met.ofW (cc := b_S1_indexOf) (maxL := 4) (ret := (some .int)) (by decide) rfl ?_
  intro p e s m args below meth c s₁ B hml hv
  obtain ⟨rfl, ⟨hP, hK, hi, hN⟩, hZ⟩ := hv
  have hx := B.exec
  have hb := B.bytes
  have hr := B.returns
  have hts := atoms_spec (ws := w_S1_indexOf) B.pre
  have hown : s.vm.findClass R_S1 = some m.cls := findClass_of_methodNamed B.named
  have hlocks := B.notSynchronized
  have hT : ∀ w ∈ tb, w.before _ s = true := fun w h => hts w (List.mem_cons_of_mem _ h)
  have hS : va_S (ux_A KX ad) s.heap s.heap [] := va_S.rf
  have hl := lv_entry ([.ref (adV i), .int ch, .int a, .int b]) (n := 4) (Nat.le_of_ble_eq_true rfl)
  rw [lg_entry_eq]
  generalize (lg_sl ([.ref (adV i), .int ch, .int a, .int b]) ++ List.replicate (4 - (lg_sl ([.ref (adV i), .int ch, .int a, .int b])).length) Slot.unset).toArray = ls at hl ⊢
  have hl : lv_has ls 4 [(0, .ref (adV i)), (1, .int ch), (2, .int a), (3, .int b)] := hl
  have hF : ∀ a b, ¬ tN a b → M a b = M a b := fun _ _ _ => rfl
  refine lv_iload_n hx hb d_S1_indexOf_0 rfl (lv_at hl 1 rfl) ?_
  refine ux_calli (va_runS ⟨hx, hb, hml, hown, hts⟩ (s_S1_canEncode l D ad cA M hI ch) (va_cwS 1 hts (tb_goodST ml_S1_88 sm_S1_canEncode ii_S1 kt_S1_canEncode) rfl rfl rfl (by decide +kernel) ⟨Nat.le_of_ble_eq_true rfl, Nat.le_of_ble_eq_true rfl⟩) (ux_pre hP hK hi hN) rfl rfl hl.1 rfl (lv_room (Nat.le_of_ble_eq_true rfl)) d_S1_indexOf_1 ⟨Nat.zero_le _, Nat.zero_le _⟩) hS (fun r1 M2 H locs q3 hP hS => ?_)
  obtain ⟨hI, fq3, q3p⟩ := q3
  rw [tN_eq fq3] at hP hI
  refine lv_if_ne hx hb d_S1_indexOf_4 rfl (fun h4 => ?_) (fun h4 => ?_)
  · have g4 : ¬ (r1.toInt = 0) := fun q => h4 (Int32.toInt_inj.mp q)
    refine lv_iload_n hx hb d_S1_indexOf_9 rfl (lv_at hl 2 rfl) ?_
    refine lv_iconst (v := 0) hx hb d_S1_indexOf_10 (by decide) ?_
    refine va_mmax hx hb (by rw [hml]; exact hl.1.symm) hown (hT _ ml_S1_92) (hT _ sm_Ma_max) (hT _ ii_Ma) (hT _ kt_Ma_max) (Nat.le_of_ble_eq_true rfl) (Nat.le_of_ble_eq_true rfl) (Nat.zero_le _) (Nat.zero_le _) d_S1_indexOf_11 ?_
    have b5 := vmax_f a 0
    rw [show (0 : Int32).toInt = 0 from rfl] at b5
    refine lv_topi (fun x6 ex6 => ?_)
    rw [show vmax a 0 = x6 from ex6.symm] at b5
    refine lv_istore_n hx hb d_S1_indexOf_14 rfl hl (by decide) rfl (fun ls hl => ?_)
    have hl : lv_has ls 4 [(2, .int x6), (0, .ref (adV i)), (1, .int ch), (3, .int b)] := hl
    refine lv_iload_n hx hb d_S1_indexOf_15 rfl (lv_at hl 3 rfl) ?_
    refine lv_aload_n hx hb d_S1_indexOf_16 rfl (lv_at hl 1 rfl) ?_
    refine va_tlen hx hb (hZ.1.1 i hi1).2.2.2 hS (v := nI (lenS.getD i 0)) rfl d_S1_indexOf_17 ?_
    have b7 := lenS_t hi1
    refine va_mmin hx hb (by rw [hml]; exact hl.1.symm) hown (hT _ ml_S1_38) (hT _ sm_Ma_min) (hT _ ii_Ma) (hT _ kt_Ma_min) (Nat.le_of_ble_eq_true rfl) (Nat.le_of_ble_eq_true rfl) (Nat.zero_le _) (Nat.zero_le _) d_S1_indexOf_18 ?_
    have b8 := vmin_f b (nI (lenS.getD i 0))
    refine lv_topi (fun x9 ex9 => ?_)
    rw [show vmin b (nI (lenS.getD i 0)) = x9 from ex9.symm] at b8
    refine lv_istore_n hx hb d_S1_indexOf_21 rfl hl (by decide) rfl (fun ls hl => ?_)
    have hl : lv_has ls 4 [(3, .int x9), (2, .int x6), (0, .ref (adV i)), (1, .int ch)] := hl
    refine lv_iload_n hx hb d_S1_indexOf_22 rfl (lv_at hl 1 rfl) ?_
    refine lv_iload_n hx hb d_S1_indexOf_23 rfl (lv_at hl 0 rfl) ?_
    refine lv_icmp_lt hx hb d_S1_indexOf_24 rfl (fun h10 => ?_) (fun h10 => ?_)
    · have g10 : x6.toInt < x9.toInt := Int32.lt_iff_toInt_lt.mp h10
      have u10 := ti_hi x9
      have w10 := ti_lo x6
      refine lv_aload_n hx hb d_S1_indexOf_29 rfl (lv_at hl 2 rfl) ?_
      refine lv_iload_n hx hb d_S1_indexOf_30 rfl (lv_at hl 3 rfl) ?_
      refine lv_iload_n hx hb d_S1_indexOf_31 rfl (lv_at hl 1 rfl) ?_
      refine lv_iload_n hx hb d_S1_indexOf_32 rfl (lv_at hl 0 rfl) ?_
      refine ux_calli (va_runS ⟨hx, hb, hml, hown, hts⟩ (s_S1_indexOfChar l D ad cA M hI adK adV fm i hi1 ch x6 x9  (by omega) (by omega)) (va_cwS 4 hts (tb_goodST ml_S1_95 sm_S1_indexOfChar ii_S1 kt_S1_indexOfChar) rfl rfl rfl (by decide +kernel) ⟨Nat.le_of_ble_eq_true rfl, Nat.le_of_ble_eq_true rfl⟩) (ux_preZ hP hK hi hN hZ hS) rfl rfl hl.1 rfl (lv_room (Nat.le_of_ble_eq_true rfl)) d_S1_indexOf_33 ⟨Nat.zero_le _, Nat.zero_le _⟩) hS (fun r11 M12 H locs q13 hP hS => ?_)
      obtain ⟨hI, fq13, q13p⟩ := q13
      rw [tN_eq fq13] at hP hI
      exact W.iret (v := r11) hx hb hr (fun t ht hW => ⟨⟨r11, M, rfl, ⟨hI, hF, trivial⟩, by unfold ux_E; rw [ht]; exact hP⟩, hS.F ht⟩) hS.2.2 d_S1_indexOf_36
    · have g10 : ¬ (x6.toInt < x9.toInt) := fun q => h10 (Int32.lt_iff_toInt_lt.mpr q)
      have u10 := ti_hi x6
      have w10 := ti_lo x9
      refine lv_iconst (v := (-1)) hx hb d_S1_indexOf_27 (by decide) ?_
      exact W.iret (v := -1) hx hb hr (fun t ht hW => ⟨⟨-1, M, rfl, ⟨hI, hF, trivial⟩, by unfold ux_E; rw [ht]; exact hP⟩, hS.F ht⟩) hS.2.2 d_S1_indexOf_28
  · have g4 : r1.toInt = 0 := congrArg Int32.toInt h4
    refine lv_iconst (v := (-1)) hx hb d_S1_indexOf_7 (by decide) ?_
    exact W.iret (v := -1) hx hb hr (fun t ht hW => ⟨⟨-1, M, rfl, ⟨hI, hF, trivial⟩, by unfold ux_E; rw [ht]; exact hP⟩, hS.F ht⟩) hS.2.2 d_S1_indexOf_8

set_option maxHeartbeats 8000000 in
set_option maxRecDepth 100000 in
theorem s_St_indexOf_1 (l : Launch) (D : va_G) (ad : Nat → Nat) (cA : Nat → ClassId) (M : ux_M) (hI : IvX M) (adK adV : Nat → Nat) (fm : Value) (i : Nat) (hi1 : i < 16) (ch a : Int32) : Met l y_St_indexOf_1 w_St_indexOf_1 ({ frames := 2, cells := 0, slots := 0, locals := 48 }) (va_Pc [.ref (adK i), .int ch, .int a] (ux_BZ D ad cA M adK adV fm)) (va_Qi (fun r M1 => IvX M1 ∧ (∀ a b, ¬ tN a b → M1 a b = M a b) ∧ (True)) (ux_E D shX KX ad cA) (ux_A KX ad)) 0 0 (ux_A KX ad) := by
  refine Met.ofW (cc := b_St_indexOf_1) (maxL := 3) (ret := (some .int)) (by decide) rfl ?_
  intro p e s m args below meth c s₁ B hml hv
  obtain ⟨rfl, ⟨hP, hK, hi, hN⟩, hZ⟩ := hv
  have hx := B.exec
  have hb := B.bytes
  have hr := B.returns
  have hts := atoms_spec (ws := w_St_indexOf_1) B.pre
  have hown : s.vm.findClass R_St = some m.cls := findClass_of_methodNamed B.named
  have hlocks := B.notSynchronized
  have hT : ∀ w ∈ tb, w.before _ s = true := fun w h => hts w (List.mem_cons_of_mem _ h)
  have hS : va_S (ux_A KX ad) s.heap s.heap [] := va_S.rf
  have hl := lv_entry ([.ref (adK i), .int ch, .int a]) (n := 3) (Nat.le_of_ble_eq_true rfl)
  rw [lg_entry_eq]
  generalize (lg_sl ([.ref (adK i), .int ch, .int a]) ++ List.replicate (3 - (lg_sl ([.ref (adK i), .int ch, .int a])).length) Slot.unset).toArray = ls at hl ⊢
  have hl : lv_has ls 3 [(0, .ref (adK i)), (1, .int ch), (2, .int a)] := hl
  have hF : ∀ a b, ¬ tN a b → M a b = M a b := fun _ _ _ => rfl
  refine lv_aload_n hx hb d_St_indexOf_1_0 rfl (lv_at hl 0 rfl) ?_
  refine ux_calli (va_runV ⟨hx, hb, hml, hown, hts⟩ (s_St_isLatin1 l D ad cA M hI adK adV fm i hi1  ) (cwV 0 hts (tb_goodV ml_St_492 im_St_isLatin1 se_St_isLatin1 ii_St kt_St_isLatin1) rfl rfl rfl (by decide +kernel) ⟨Nat.le_of_ble_eq_true rfl, Nat.le_of_ble_eq_true rfl⟩) (ux_preVS hi1 hP hK hi hN hZ hS) rfl rfl hl.1 rfl (lv_room (Nat.le_of_ble_eq_true rfl)) d_St_indexOf_1_1 ⟨Nat.zero_le _, Nat.zero_le _⟩) hS (fun r1 M2 H locs q3 hP hS => ?_)
  obtain ⟨hI, fq3, q3p⟩ := q3
  rw [tN_eq fq3] at hP hI
  subst q3p
  refine lv_if_eq hx hb d_St_indexOf_1_4 rfl (fun hz => absurd hz (by decide)) (fun _ => ?_)
  refine lv_aload_n hx hb d_St_indexOf_1_7 rfl (lv_at hl 0 rfl) ?_
  refine vk_getf hx hb (hZ.1.1 i hi1).2.2.1 hS hown (hT _ fl_St_9) (fun _ h => h) d_St_indexOf_1_8 ?_
  refine lv_iload_n hx hb d_St_indexOf_1_11 rfl (lv_at hl 1 rfl) ?_
  refine lv_iload_n hx hb d_St_indexOf_1_12 rfl (lv_at hl 2 rfl) ?_
  refine lv_aload_n hx hb d_St_indexOf_1_13 rfl (lv_at hl 0 rfl) ?_
  refine ux_calli (va_runV ⟨hx, hb, hml, hown, hts⟩ (s_St_length l D ad cA M hI adK adV fm i hi1  ) (cwV 0 hts (tb_goodV ml_St_505 im_St_length se_St_length ii_St kt_St_length) rfl rfl rfl (by decide +kernel) ⟨Nat.le_of_ble_eq_true rfl, Nat.le_of_ble_eq_true rfl⟩) (ux_preVS hi1 hP hK hi hN hZ hS) rfl rfl hl.1 rfl (lv_room (Nat.le_of_ble_eq_true rfl)) d_St_indexOf_1_14 ⟨Nat.zero_le _, Nat.zero_le _⟩) hS (fun r4 M5 H locs q6 hP hS => ?_)
  obtain ⟨hI, fq6, q6p⟩ := q6
  rw [tN_eq fq6] at hP hI
  have b7 := lenS_t hi1
  refine ux_calli (va_runS ⟨hx, hb, hml, hown, hts⟩ (s_S1_indexOf l D ad cA M hI adK adV fm i hi1 ch a r4 ) (va_cwS 4 hts (tb_goodST ml_St_637 sm_S1_indexOf ii_S1 kt_S1_indexOf) rfl rfl rfl (by decide +kernel) ⟨Nat.le_of_ble_eq_true rfl, Nat.le_of_ble_eq_true rfl⟩) (ux_preZ hP hK hi hN hZ hS) rfl rfl hl.1 rfl (lv_room (Nat.le_of_ble_eq_true rfl)) d_St_indexOf_1_17 ⟨Nat.zero_le _, Nat.zero_le _⟩) hS (fun r8 M9 H locs q10 hP hS => ?_)
  obtain ⟨hI, fq10, q10p⟩ := q10
  rw [tN_eq fq10] at hP hI
  refine lv_goto hx hb d_St_indexOf_1_20 rfl ?_
  exact W.iret (v := r8) hx hb hr (fun t ht hW => ⟨⟨r8, M, rfl, ⟨hI, hF, trivial⟩, by unfold ux_E; rw [ht]; exact hP⟩, hS.F ht⟩) hS.2.2 d_St_indexOf_1_36

set_option maxHeartbeats 8000000 in
set_option maxRecDepth 100000 in
theorem s_St_indexOf_0 (l : Launch) (D : va_G) (ad : Nat → Nat) (cA : Nat → ClassId) (M : ux_M) (hI : IvX M) (adK adV : Nat → Nat) (fm : Value) (i : Nat) (hi1 : i < 16) (ch : Int32) : Met l y_St_indexOf_0 w_St_indexOf_0 ({ frames := 3, cells := 0, slots := 0, locals := 70 }) (va_Pc [.ref (adK i), .int ch] (ux_BZ D ad cA M adK adV fm)) (va_Qi (fun r M1 => IvX M1 ∧ (∀ a b, ¬ tN a b → M1 a b = M a b) ∧ (True)) (ux_E D shX KX ad cA) (ux_A KX ad)) 0 0 (ux_A KX ad) := by
  refine Met.ofW (cc := b_St_indexOf_0) (maxL := 2) (ret := (some .int)) (by decide) rfl ?_
  intro p e s m args below meth c s₁ B hml hv
  obtain ⟨rfl, ⟨hP, hK, hi, hN⟩, hZ⟩ := hv
  have hx := B.exec
  have hb := B.bytes
  have hr := B.returns
  have hts := atoms_spec (ws := w_St_indexOf_0) B.pre
  have hown : s.vm.findClass R_St = some m.cls := findClass_of_methodNamed B.named
  have hlocks := B.notSynchronized
  have hT : ∀ w ∈ tb, w.before _ s = true := fun w h => hts w (List.mem_cons_of_mem _ h)
  have hS : va_S (ux_A KX ad) s.heap s.heap [] := va_S.rf
  have hl := lv_entry ([.ref (adK i), .int ch]) (n := 2) (Nat.le_of_ble_eq_true rfl)
  rw [lg_entry_eq]
  generalize (lg_sl ([.ref (adK i), .int ch]) ++ List.replicate (2 - (lg_sl ([.ref (adK i), .int ch])).length) Slot.unset).toArray = ls at hl ⊢
  have hl : lv_has ls 2 [(0, .ref (adK i)), (1, .int ch)] := hl
  have hF : ∀ a b, ¬ tN a b → M a b = M a b := fun _ _ _ => rfl
  refine lv_aload_n hx hb d_St_indexOf_0_0 rfl (lv_at hl 0 rfl) ?_
  refine lv_iload_n hx hb d_St_indexOf_0_1 rfl (lv_at hl 1 rfl) ?_
  refine lv_iconst (v := 0) hx hb d_St_indexOf_0_2 (by decide) ?_
  refine ux_calli (va_runV ⟨hx, hb, hml, hown, hts⟩ (s_St_indexOf_1 l D ad cA M hI adK adV fm i hi1 ch 0 ) (cwV 2 hts (tb_goodV ml_St_633 im_St_indexOf_1 se_St_indexOf_1 ii_St kt_St_indexOf_1) rfl rfl rfl (by decide +kernel) ⟨Nat.le_of_ble_eq_true rfl, Nat.le_of_ble_eq_true rfl⟩) (ux_preVS hi1 hP hK hi hN hZ hS) rfl rfl hl.1 rfl (lv_room (Nat.le_of_ble_eq_true rfl)) d_St_indexOf_0_3 ⟨Nat.zero_le _, Nat.zero_le _⟩) hS (fun r1 M2 H locs q3 hP hS => ?_)
  obtain ⟨hI, fq3, q3p⟩ := q3
  rw [tN_eq fq3] at hP hI
  exact W.iret (v := r1) hx hb hr (fun t ht hW => ⟨⟨r1, M, rfl, ⟨hI, hF, trivial⟩, by unfold ux_E; rw [ht]; exact hP⟩, hS.F ht⟩) hS.2.2 d_St_indexOf_0_6
