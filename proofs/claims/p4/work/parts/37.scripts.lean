/-! Runner: scripts, by depth: written by wip/gen/cls.py -/
def tR (d a b : Nat) : Prop := a ≠ 14 ∧ ¬ (a = 2 ∧ b = 4) ∧ ¬ (53 ≤ a ∧ a < 53 + 7 * d)
def tP (d a b : Nat) : Prop := a ≠ 14 ∧ ¬ (a = 2 ∧ b = 4) ∧ ¬ (53 ≤ a ∧ a < 53 + 7 * d) ∧ ¬ (a = 53 + 7 * d ∧ b ≠ 5)
theorem L60 {d : Nat} (hd : d + 1 < 8) : shX (60 + 7 * d) = .inl (9, [some (61 + 7 * d), some (64 + 7 * d), some (65 + 7 * d), some (66 + 7 * d), none, none, none, none, none, none]) := by
  have h := L53 hd
  rw [show 53 + 7 * (d + 1) = 60 + 7 * d by omega, show 54 + 7 * (d + 1) = 61 + 7 * d by omega, show 57 + 7 * (d + 1) = 64 + 7 * d by omega, show 58 + 7 * (d + 1) = 65 + 7 * d by omega, show 59 + 7 * (d + 1) = 66 + 7 * d by omega] at h
  exact h
theorem gL1 {d : Nat} (hd : d + 1 < 8) : gX46 (nI (d + 1)).toNatClampNeg = 60 + 7 * d := by rw [gL hd]; omega
/-- a script run at depth d: what is claimed of it -/
def RS (l : Launch) (D : va_G) (ad : Nat → Nat) (cA : Nat → ClassId) (adK adV : Nat → Nat) (fm : Value) (d e : Nat) : Prop := ∀ (M : ux_M) (hI : IvX M) (a b f bw : Int32) (hbw : bw = 0 ∨ bw = 1),
  Met l y_Rn_runScript w_Rn_runScript ({ frames := 12 + 8 * e, cells := 0, slots := 0, locals := 600 + 300 * e }) (va_Pc [.ref (ad 13), .int a, .int b, .int f, .int (nI d), .int bw] (ux_BZ D ad cA M adK adV fm)) (va_Qi (fun r M1 => IvX M1 ∧ (∀ a b, ¬ (tR d) a b → M1 a b = M a b) ∧ (True)) (ux_E D shX KX ad cA) (ux_A KX ad)) 0 0 (ux_A KX ad)

set_option maxHeartbeats 1600000 in
set_option maxRecDepth 100000 in
theorem s_Rn_readPiece (l : Launch) (D : va_G) (ad : Nat → Nat) (cA : Nat → ClassId) (M : ux_M) (hI : IvX M) (adK adV : Nat → Nat) (fm : Value) (d ee : Nat) (hd : d < 8) (hde : d + ee = 7) (hrec : RS l D ad cA adK adV fm (d + 1) ee) (ch : Int32) : Met l y_Rn_readPiece w_Rn_readPiece ({ frames := (12 + 8 * ee + 1), cells := 0, slots := 0, locals := (600 + 300 * ee + 28) }) (va_Pc [.ref (ad 13), .ref (ad (53 + 7 * d)), .int (nI d), .int ch] (ux_BZ D ad cA M adK adV fm)) (va_Qi (fun r M1 => IvX M1 ∧ (∀ a b, ¬ (tP d) a b → M1 a b = M a b) ∧ (True)) (ux_E D shX KX ad cA) (ux_A KX ad)) 0 0 (ux_A KX ad) := by
  refine Met.ofW (cc := b_Rn_readPiece) (maxL := 7) (ret := (some .int)) (by decide) rfl ?_
  intro p e s m args below meth c s₁ B hml hv
  obtain ⟨rfl, ⟨hP, hK, hi, hN⟩, hZ⟩ := hv
  have hx := B.exec
  have hb := B.bytes
  have hr := B.returns
  have hts := atoms_spec (ws := w_Rn_readPiece) B.pre
  have hown : s.vm.findClass R_Rn = some m.cls := findClass_of_methodNamed B.named
  have hlocks := B.notSynchronized
  have hT : ∀ w ∈ tb, w.before _ s = true := fun w h => hts w (List.mem_cons_of_mem _ h)
  have hS : va_S (ux_A KX ad) s.heap s.heap [] := va_S.rf
  have hl := lv_entry ([.ref (ad 13), .ref (ad (53 + 7 * d)), .int (nI d), .int ch]) (n := 7) (Nat.le_of_ble_eq_true rfl)
  rw [lg_entry_eq]
  generalize (lg_sl ([.ref (ad 13), .ref (ad (53 + 7 * d)), .int (nI d), .int ch]) ++ List.replicate (7 - (lg_sl ([.ref (ad 13), .ref (ad (53 + 7 * d)), .int (nI d), .int ch])).length) Slot.unset).toArray = ls at hl ⊢
  have hl : lv_has ls 7 [(0, .ref (ad 13)), (1, .ref (ad (53 + 7 * d))), (2, .int (nI d)), (3, .int ch)] := hl
  have hF : ∀ a b, ¬ (tP d) a b → M a b = M a b := fun _ _ _ => rfl
  have hdt : (nI d).toInt = (d : Int) := nI_toInt (by omega)
  refine lv_aload_n hx hb d_Rn_readPiece_0 rfl (lv_at hl 1 rfl) ?_
  refine ux_getN (C := R_Lv) (T := F_Lv) (N := 10) hx hb hT in_Lv hown hK hP (lk 53 (by decide) hd) (L53 hd) rfl 5 (by decide) (hN _ nf_Rn_101) rfl d_Rn_readPiece_1 ?_
  have b1 := iv0 (M := M) (a := 53 + 7 * d) (b := 5) hI (by unfold p0; omega)
  refine lv_aload_n hx hb d_Rn_readPiece_4 rfl (lv_at hl 1 rfl) ?_
  refine ux_getN (C := R_Lv) (T := F_Lv) (N := 10) hx hb hT in_Lv hown hK hP (lk 53 (by decide) hd) (L53 hd) rfl 6 (by decide) (hN _ nf_Rn_104) rfl d_Rn_readPiece_5 ?_
  have b2 := iv200 (M := M) (a := 53 + 7 * d) (b := 6) hI (by unfold p200; omega)
  refine lv_icmp_ge hx hb d_Rn_readPiece_8 rfl (fun h3 => ?_) (fun h3 => ?_)
  · have g3 : (M (53 + 7 * d) 6).toInt ≤ (M (53 + 7 * d) 5).toInt := Int32.le_iff_toInt_le.mp h3
    have u3 := ti_hi (M (53 + 7 * d) 5)
    have w3 := ti_lo (M (53 + 7 * d) 6)
    refine lv_iconst (v := 0) hx hb d_Rn_readPiece_26 (by decide) ?_
    refine lv_istore hx hb d_Rn_readPiece_27 hl (by decide) rfl (fun ls hl => ?_)
    have hl : lv_has ls 7 [(4, .int 0), (0, .ref (ad 13)), (1, .ref (ad (53 + 7 * d))), (2, .int (nI d)), (3, .int ch)] := hl
    refine lv_iload_n hx hb d_Rn_readPiece_29 rfl (lv_at hl 4 rfl) ?_
    refine lv_bipush (v := 91) hx hb d_Rn_readPiece_30 (by decide) ?_
    refine lv_icmp_ne hx hb d_Rn_readPiece_32 rfl (fun h4 => ?_) (fun h4 => ?_)
    · have g4 : ¬ (ch.toInt = 91) := fun q => h4 (Int32.toInt_inj.mp q)
      refine lv_iload_n hx hb d_Rn_readPiece_118 rfl (lv_at hl 4 rfl) ?_
      refine lv_bipush (v := 36) hx hb d_Rn_readPiece_119 (by decide) ?_
      refine lv_icmp_ne hx hb d_Rn_readPiece_121 rfl (fun h5 => ?_) (fun h5 => ?_)
      · have g5 : ¬ (ch.toInt = 36) := fun q => h5 (Int32.toInt_inj.mp q)
        refine lv_iload_n hx hb d_Rn_readPiece_210 rfl (lv_at hl 4 rfl) ?_
        refine lv_bipush (v := 92) hx hb d_Rn_readPiece_211 (by decide) ?_
        refine lv_icmp_ne hx hb d_Rn_readPiece_213 rfl (fun h6 => ?_) (fun h6 => ?_)
        · have g6 : ¬ (ch.toInt = 92) := fun q => h6 (Int32.toInt_inj.mp q)
          refine lv_aload_n hx hb d_Rn_readPiece_270 rfl (lv_at hl 2 rfl) ?_
          refine ux_getN (C := R_Lv) (T := F_Lv) (N := 10) hx hb hT in_Lv hown hK hP (lk 53 (by decide) hd) (L53 hd) rfl 0 (by decide) (hN _ nf_Rn_145) rfl d_Rn_readPiece_271 ?_
          refine lv_aload_n hx hb d_Rn_readPiece_274 rfl (lv_at hl 2 rfl) ?_
          refine ux_getN (C := R_Lv) (T := F_Lv) (N := 10) hx hb hT in_Lv hown hK hP (lk 53 (by decide) hd) (L53 hd) rfl 4 (by decide) (hN _ nf_Rn_83) rfl d_Rn_readPiece_275 ?_
          have b7 := iv0 (M := M) (a := 53 + 7 * d) (b := 4) hI (by unfold p0; omega)
          have b8 := iv8 (M := M) (a := 53 + 7 * d) (b := 4) hI (by unfold p8; omega)
          refine lv_iload_n hx hb d_Rn_readPiece_278 rfl (lv_at hl 4 rfl) ?_
          refine ux_calli (va_runV ⟨hx, hb, hml, hown, hts⟩ (s_Vl_append l D ad cA M hI (54 + 7 * d) (55 + 7 * d) (56 + 7 * d) 8 (vV_lv hd) (M (53 + 7 * d) 4) ch) (cwV 2 hts (tb_goodV ml_Rn_94 im_Vl_append se_Vl_append ii_Vl kt_Vl_append) rfl rfl rfl (by decide +kernel) ⟨show 0 + 1 ≤ (12 + 8 * ee + 1) by omega, show 8 + (3 + 11) + (0) ≤ (600 + 300 * ee + 28) by omega⟩) (ux_preV (lk 54 (by decide) hd) (L54 hd) rfl hP hK hi hN) rfl rfl hl.1 rfl (lv_room (Nat.le_of_ble_eq_true rfl)) d_Rn_readPiece_279 ⟨Nat.zero_le _, Nat.zero_le _⟩) hS (fun r9 M10 H locs q11 hP hS => ?_)
          obtain ⟨hI, fq11, q11p⟩ := q11
          have hF := fr_call hF fq11 (fun a b q => by unfold tV at q; unfold tP; omega)
          refine lv_if_eq hx hb d_Rn_readPiece_282 rfl (fun h12 => ?_) (fun h12 => ?_)
          · have g12 : r9.toInt = 0 := congrArg Int32.toInt h12
            refine lv_aload_n hx hb d_Rn_readPiece_289 rfl (lv_at hl 1 rfl) ?_
            refine lv_bipush (v := 7) hx hb d_Rn_readPiece_290 (by decide) ?_
            refine ux_calli (va_runV ⟨hx, hb, hml, hown, hts⟩ (s_Rn_fail l D ad cA M10 hI 7) (cwV 1 hts (tb_goodV ml_Rn_64 im_Rn_fail se_Rn_fail ii_Rn kt_Rn_fail) rfl rfl rfl (by decide +kernel) ⟨show 1 + 1 ≤ (12 + 8 * ee + 1) by omega, show 8 + (2 + 11) + (22) ≤ (600 + 300 * ee + 28) by omega⟩) (ux_preV (by decide) rfl rfl hP hK hi hN) rfl rfl hl.1 rfl (lv_room (Nat.le_of_ble_eq_true rfl)) d_Rn_readPiece_292 ⟨Nat.zero_le _, Nat.zero_le _⟩) hS (fun r13 M14 H locs q15 hP hS => ?_)
            obtain ⟨hI, fq15, q15p⟩ := q15
            have hF := fr_call hF fq15 (fun a b q => by unfold tV at q; unfold tP; omega)
            exact W.iret (v := r13) hx hb hr (fun t ht hW => ⟨⟨r13, M14, rfl, ⟨hI, hF, trivial⟩, by unfold ux_E; rw [ht]; exact hP⟩, hS.F ht⟩) hS.2.2 d_Rn_readPiece_295
          · have g12 : ¬ (r9.toInt = 0) := fun q => h12 (Int32.toInt_inj.mp q)
            refine lv_iconst (v := 0) hx hb d_Rn_readPiece_285 (by decide) ?_
            refine lv_goto hx hb d_Rn_readPiece_286 rfl ?_
            exact W.iret (v := 0) hx hb hr (fun t ht hW => ⟨⟨0, M10, rfl, ⟨hI, hF, trivial⟩, by unfold ux_E; rw [ht]; exact hP⟩, hS.F ht⟩) hS.2.2 d_Rn_readPiece_295
        · have g6 : ch.toInt = 92 := congrArg Int32.toInt h6
          refine lv_aload_n hx hb d_Rn_readPiece_216 rfl (lv_at hl 2 rfl) ?_
          refine ux_getN (C := R_Lv) (T := F_Lv) (N := 10) hx hb hT in_Lv hown hK hP (lk 53 (by decide) hd) (L53 hd) rfl 5 (by decide) (hN _ nf_Rn_101) rfl d_Rn_readPiece_217 ?_
          have b16 := iv0 (M := M) (a := 53 + 7 * d) (b := 5) hI (by unfold p0; omega)
          refine lv_aload_n hx hb d_Rn_readPiece_220 rfl (lv_at hl 2 rfl) ?_
          refine ux_getN (C := R_Lv) (T := F_Lv) (N := 10) hx hb hT in_Lv hown hK hP (lk 53 (by decide) hd) (L53 hd) rfl 6 (by decide) (hN _ nf_Rn_104) rfl d_Rn_readPiece_221 ?_
          have b17 := iv200 (M := M) (a := 53 + 7 * d) (b := 6) hI (by unfold p200; omega)
          refine lv_icmp_lt hx hb d_Rn_readPiece_224 rfl (fun h18 => ?_) (fun h18 => ?_)
          · have g18 : (M (53 + 7 * d) 5).toInt < (M (53 + 7 * d) 6).toInt := Int32.lt_iff_toInt_lt.mp h18
            have u18 := ti_hi (M (53 + 7 * d) 6)
            have w18 := ti_lo (M (53 + 7 * d) 5)
            refine lv_aload_n hx hb d_Rn_readPiece_233 rfl (lv_at hl 2 rfl) ?_
            refine lv_dup hx hb d_Rn_readPiece_234 rfl ?_
            refine ux_getN (C := R_Lv) (T := F_Lv) (N := 10) hx hb hT in_Lv hown hK hP (lk 53 (by decide) hd) (L53 hd) rfl 5 (by decide) (hN _ nf_Rn_101) rfl d_Rn_readPiece_235 ?_
            have b19 := iv0 (M := M) (a := 53 + 7 * d) (b := 5) hI (by unfold p0; omega)
            refine lv_iconst (v := 1) hx hb d_Rn_readPiece_238 (by decide) ?_
            refine lv_iadd hx hb d_Rn_readPiece_239 ?_
            refine lv_topi (fun x20 ex20 => ?_)
            try have fx20 : x20.toInt = (M (53 + 7 * d) 5).toInt + 1 := by rw [ex20]; exact ti_add (by (try rw [show (1 : Int32).toInt = 1 from rfl]); omega) (by (try rw [show (1 : Int32).toInt = 1 from rfl]); omega)
            refine ux_putN (C := R_Lv) (T := F_Lv) (N := 10) hx hb hT in_Lv t_Lv t_Lv_ok n_Lv hown hK hi hP hS (lk 53 (by decide) hd) (L53 hd) rfl 5 (by decide) (hN _ nf_Rn_101) rfl (rfl) (rfl) rfl d_Rn_readPiece_240 (fun H locs hP hS => ?_)
            have hI := IvX_wr (k := 53 + 7 * d) (j := 5) (v := x20) hI (fun q => by unfold p0 at q; omega) (fun q => by unfold p8 at q; omega) (fun q => by unfold p20 at q; omega) (fun q => by unfold p40 at q; omega) (fun q => by unfold p200 at q; omega) (fun q => by unfold pch at q; omega)
            have hF := fr_wr (k := 53 + 7 * d) (j := 5) (v := x20) hF (by unfold tP; omega)
            generalize eM21 : ux_wr M (53 + 7 * d) 5 x20 = M21 at hP hI hF
            refine lv_aload_n hx hb d_Rn_readPiece_243 rfl (lv_at hl 2 rfl) ?_
            refine ux_getN (C := R_Lv) (T := F_Lv) (N := 10) hx hb hT in_Lv hown hK hP (lk 53 (by decide) hd) (L53 hd) rfl 0 (by decide) (hN _ nf_Rn_145) rfl d_Rn_readPiece_244 ?_
            refine lv_aload_n hx hb d_Rn_readPiece_247 rfl (lv_at hl 2 rfl) ?_
            refine ux_getN (C := R_Lv) (T := F_Lv) (N := 10) hx hb hT in_Lv hown hK hP (lk 53 (by decide) hd) (L53 hd) rfl 4 (by decide) (hN _ nf_Rn_83) rfl d_Rn_readPiece_248 ?_
            have b22 := iv0 (M := M21) (a := 53 + 7 * d) (b := 4) hI (by unfold p0; omega)
            have b23 := iv8 (M := M21) (a := 53 + 7 * d) (b := 4) hI (by unfold p8; omega)
            refine lv_iload hx hb d_Rn_readPiece_251 (lv_at hl 0 rfl) ?_
            refine ux_calli (va_runV ⟨hx, hb, hml, hown, hts⟩ (s_Vl_append l D ad cA M21 hI (54 + 7 * d) (55 + 7 * d) (56 + 7 * d) 8 (vV_lv hd) (M21 (53 + 7 * d) 4) 0) (cwV 2 hts (tb_goodV ml_Rn_94 im_Vl_append se_Vl_append ii_Vl kt_Vl_append) rfl rfl rfl (by decide +kernel) ⟨show 0 + 1 ≤ (12 + 8 * ee + 1) by omega, show 8 + (3 + 11) + (0) ≤ (600 + 300 * ee + 28) by omega⟩) (ux_preV (lk 54 (by decide) hd) (L54 hd) rfl hP hK hi hN) rfl rfl hl.1 rfl (lv_room (Nat.le_of_ble_eq_true rfl)) d_Rn_readPiece_253 ⟨Nat.zero_le _, Nat.zero_le _⟩) hS (fun r24 M25 H locs q26 hP hS => ?_)
            obtain ⟨hI, fq26, q26p⟩ := q26
            have hF := fr_call hF fq26 (fun a b q => by unfold tV at q; unfold tP; omega)
            refine lv_if_eq hx hb d_Rn_readPiece_256 rfl (fun h27 => ?_) (fun h27 => ?_)
            · have g27 : r24.toInt = 0 := congrArg Int32.toInt h27
              refine lv_aload_n hx hb d_Rn_readPiece_263 rfl (lv_at hl 1 rfl) ?_
              refine lv_bipush (v := 7) hx hb d_Rn_readPiece_264 (by decide) ?_
              refine ux_calli (va_runV ⟨hx, hb, hml, hown, hts⟩ (s_Rn_fail l D ad cA M25 hI 7) (cwV 1 hts (tb_goodV ml_Rn_64 im_Rn_fail se_Rn_fail ii_Rn kt_Rn_fail) rfl rfl rfl (by decide +kernel) ⟨show 1 + 1 ≤ (12 + 8 * ee + 1) by omega, show 8 + (2 + 11) + (22) ≤ (600 + 300 * ee + 28) by omega⟩) (ux_preV (by decide) rfl rfl hP hK hi hN) rfl rfl hl.1 rfl (lv_room (Nat.le_of_ble_eq_true rfl)) d_Rn_readPiece_266 ⟨Nat.zero_le _, Nat.zero_le _⟩) hS (fun r28 M29 H locs q30 hP hS => ?_)
              obtain ⟨hI, fq30, q30p⟩ := q30
              have hF := fr_call hF fq30 (fun a b q => by unfold tV at q; unfold tP; omega)
              exact W.iret (v := r28) hx hb hr (fun t ht hW => ⟨⟨r28, M29, rfl, ⟨hI, hF, trivial⟩, by unfold ux_E; rw [ht]; exact hP⟩, hS.F ht⟩) hS.2.2 d_Rn_readPiece_269
            · have g27 : ¬ (r24.toInt = 0) := fun q => h27 (Int32.toInt_inj.mp q)
              refine lv_iconst (v := 0) hx hb d_Rn_readPiece_259 (by decide) ?_
              refine lv_goto hx hb d_Rn_readPiece_260 rfl ?_
              exact W.iret (v := 0) hx hb hr (fun t ht hW => ⟨⟨0, M25, rfl, ⟨hI, hF, trivial⟩, by unfold ux_E; rw [ht]; exact hP⟩, hS.F ht⟩) hS.2.2 d_Rn_readPiece_269
          · have g18 : ¬ ((M (53 + 7 * d) 5).toInt < (M (53 + 7 * d) 6).toInt) := fun q => h18 (Int32.lt_iff_toInt_lt.mpr q)
            have u18 := ti_hi (M (53 + 7 * d) 5)
            have w18 := ti_lo (M (53 + 7 * d) 6)
            refine lv_aload_n hx hb d_Rn_readPiece_227 rfl (lv_at hl 1 rfl) ?_
            refine lv_iconst (v := 1) hx hb d_Rn_readPiece_228 (by decide) ?_
            refine ux_calli (va_runV ⟨hx, hb, hml, hown, hts⟩ (s_Rn_fail l D ad cA M hI 1) (cwV 1 hts (tb_goodV ml_Rn_64 im_Rn_fail se_Rn_fail ii_Rn kt_Rn_fail) rfl rfl rfl (by decide +kernel) ⟨show 1 + 1 ≤ (12 + 8 * ee + 1) by omega, show 8 + (2 + 11) + (22) ≤ (600 + 300 * ee + 28) by omega⟩) (ux_preV (by decide) rfl rfl hP hK hi hN) rfl rfl hl.1 rfl (lv_room (Nat.le_of_ble_eq_true rfl)) d_Rn_readPiece_229 ⟨Nat.zero_le _, Nat.zero_le _⟩) hS (fun r31 M32 H locs q33 hP hS => ?_)
            obtain ⟨hI, fq33, q33p⟩ := q33
            have hF := fr_call hF fq33 (fun a b q => by unfold tV at q; unfold tP; omega)
            exact W.iret (v := r31) hx hb hr (fun t ht hW => ⟨⟨r31, M32, rfl, ⟨hI, hF, trivial⟩, by unfold ux_E; rw [ht]; exact hP⟩, hS.F ht⟩) hS.2.2 d_Rn_readPiece_232
      · have g5 : ch.toInt = 36 := congrArg Int32.toInt h5
        refine lv_iload hx hb d_Rn_readPiece_124 (lv_at hl 0 rfl) ?_
        refine ux_calli (va_runSN ⟨hx, hb, hml, hown, hts⟩ (s_PS_isVariable l D ad cA M hI 0) ⟨va_cnB 1 hts (tb_good _ _ kt_PS_isVariable) rfl rfl rfl (hN _ nm_Rn_152) (hT _ ii_PS) (by decide +kernel) ⟨show 0 + 1 ≤ (12 + 8 * ee + 1) by omega, show 8 + (1 + 11) + (0) ≤ (600 + 300 * ee + 28) by omega⟩, hT _ sm_PS_isVariable, trivial⟩ (ux_pre hP hK hi hN) rfl rfl hl.1 rfl (lv_room (Nat.le_of_ble_eq_true rfl)) d_Rn_readPiece_126 ⟨Nat.zero_le _, Nat.zero_le _⟩) hS (fun r34 M35 H locs q36 hP hS => ?_)
        obtain ⟨hI, fq36, q36p⟩ := q36
        rw [tN_eq fq36] at hP hI
        subst q36p
        have b37 := isv_b 0
        refine lv_if_eq hx hb d_Rn_readPiece_129 rfl (fun h38 => ?_) (fun h38 => ?_)
        · have g38 : (isv 0).toInt = 0 := congrArg Int32.toInt h38
          refine lv_iload_n hx hb d_Rn_readPiece_210 rfl (lv_at hl 4 rfl) ?_
          refine lv_bipush (v := 92) hx hb d_Rn_readPiece_211 (by decide) ?_
          refine lv_icmp_ne hx hb d_Rn_readPiece_213 rfl (fun h39 => ?_) (fun h39 => ?_)
          · have g39 : ¬ (ch.toInt = 92) := fun q => h39 (Int32.toInt_inj.mp q)
            refine lv_aload_n hx hb d_Rn_readPiece_270 rfl (lv_at hl 2 rfl) ?_
            refine ux_getN (C := R_Lv) (T := F_Lv) (N := 10) hx hb hT in_Lv hown hK hP (lk 53 (by decide) hd) (L53 hd) rfl 0 (by decide) (hN _ nf_Rn_145) rfl d_Rn_readPiece_271 ?_
            refine lv_aload_n hx hb d_Rn_readPiece_274 rfl (lv_at hl 2 rfl) ?_
            refine ux_getN (C := R_Lv) (T := F_Lv) (N := 10) hx hb hT in_Lv hown hK hP (lk 53 (by decide) hd) (L53 hd) rfl 4 (by decide) (hN _ nf_Rn_83) rfl d_Rn_readPiece_275 ?_
            have b40 := iv0 (M := M) (a := 53 + 7 * d) (b := 4) hI (by unfold p0; omega)
            have b41 := iv8 (M := M) (a := 53 + 7 * d) (b := 4) hI (by unfold p8; omega)
            refine lv_iload_n hx hb d_Rn_readPiece_278 rfl (lv_at hl 4 rfl) ?_
            refine ux_calli (va_runV ⟨hx, hb, hml, hown, hts⟩ (s_Vl_append l D ad cA M hI (54 + 7 * d) (55 + 7 * d) (56 + 7 * d) 8 (vV_lv hd) (M (53 + 7 * d) 4) ch) (cwV 2 hts (tb_goodV ml_Rn_94 im_Vl_append se_Vl_append ii_Vl kt_Vl_append) rfl rfl rfl (by decide +kernel) ⟨show 0 + 1 ≤ (12 + 8 * ee + 1) by omega, show 8 + (3 + 11) + (0) ≤ (600 + 300 * ee + 28) by omega⟩) (ux_preV (lk 54 (by decide) hd) (L54 hd) rfl hP hK hi hN) rfl rfl hl.1 rfl (lv_room (Nat.le_of_ble_eq_true rfl)) d_Rn_readPiece_279 ⟨Nat.zero_le _, Nat.zero_le _⟩) hS (fun r42 M43 H locs q44 hP hS => ?_)
            obtain ⟨hI, fq44, q44p⟩ := q44
            have hF := fr_call hF fq44 (fun a b q => by unfold tV at q; unfold tP; omega)
            refine lv_if_eq hx hb d_Rn_readPiece_282 rfl (fun h45 => ?_) (fun h45 => ?_)
            · have g45 : r42.toInt = 0 := congrArg Int32.toInt h45
              refine lv_aload_n hx hb d_Rn_readPiece_289 rfl (lv_at hl 1 rfl) ?_
              refine lv_bipush (v := 7) hx hb d_Rn_readPiece_290 (by decide) ?_
              refine ux_calli (va_runV ⟨hx, hb, hml, hown, hts⟩ (s_Rn_fail l D ad cA M43 hI 7) (cwV 1 hts (tb_goodV ml_Rn_64 im_Rn_fail se_Rn_fail ii_Rn kt_Rn_fail) rfl rfl rfl (by decide +kernel) ⟨show 1 + 1 ≤ (12 + 8 * ee + 1) by omega, show 8 + (2 + 11) + (22) ≤ (600 + 300 * ee + 28) by omega⟩) (ux_preV (by decide) rfl rfl hP hK hi hN) rfl rfl hl.1 rfl (lv_room (Nat.le_of_ble_eq_true rfl)) d_Rn_readPiece_292 ⟨Nat.zero_le _, Nat.zero_le _⟩) hS (fun r46 M47 H locs q48 hP hS => ?_)
              obtain ⟨hI, fq48, q48p⟩ := q48
              have hF := fr_call hF fq48 (fun a b q => by unfold tV at q; unfold tP; omega)
              exact W.iret (v := r46) hx hb hr (fun t ht hW => ⟨⟨r46, M47, rfl, ⟨hI, hF, trivial⟩, by unfold ux_E; rw [ht]; exact hP⟩, hS.F ht⟩) hS.2.2 d_Rn_readPiece_295
            · have g45 : ¬ (r42.toInt = 0) := fun q => h45 (Int32.toInt_inj.mp q)
              refine lv_iconst (v := 0) hx hb d_Rn_readPiece_285 (by decide) ?_
              refine lv_goto hx hb d_Rn_readPiece_286 rfl ?_
              exact W.iret (v := 0) hx hb hr (fun t ht hW => ⟨⟨0, M43, rfl, ⟨hI, hF, trivial⟩, by unfold ux_E; rw [ht]; exact hP⟩, hS.F ht⟩) hS.2.2 d_Rn_readPiece_295
          · have g39 : ch.toInt = 92 := congrArg Int32.toInt h39
            refine lv_aload_n hx hb d_Rn_readPiece_216 rfl (lv_at hl 2 rfl) ?_
            refine ux_getN (C := R_Lv) (T := F_Lv) (N := 10) hx hb hT in_Lv hown hK hP (lk 53 (by decide) hd) (L53 hd) rfl 5 (by decide) (hN _ nf_Rn_101) rfl d_Rn_readPiece_217 ?_
            have b49 := iv0 (M := M) (a := 53 + 7 * d) (b := 5) hI (by unfold p0; omega)
            refine lv_aload_n hx hb d_Rn_readPiece_220 rfl (lv_at hl 2 rfl) ?_
            refine ux_getN (C := R_Lv) (T := F_Lv) (N := 10) hx hb hT in_Lv hown hK hP (lk 53 (by decide) hd) (L53 hd) rfl 6 (by decide) (hN _ nf_Rn_104) rfl d_Rn_readPiece_221 ?_
            have b50 := iv200 (M := M) (a := 53 + 7 * d) (b := 6) hI (by unfold p200; omega)
            refine lv_icmp_lt hx hb d_Rn_readPiece_224 rfl (fun h51 => ?_) (fun h51 => ?_)
            · have g51 : (M (53 + 7 * d) 5).toInt < (M (53 + 7 * d) 6).toInt := Int32.lt_iff_toInt_lt.mp h51
              have u51 := ti_hi (M (53 + 7 * d) 6)
              have w51 := ti_lo (M (53 + 7 * d) 5)
              refine lv_aload_n hx hb d_Rn_readPiece_233 rfl (lv_at hl 2 rfl) ?_
              refine lv_dup hx hb d_Rn_readPiece_234 rfl ?_
              refine ux_getN (C := R_Lv) (T := F_Lv) (N := 10) hx hb hT in_Lv hown hK hP (lk 53 (by decide) hd) (L53 hd) rfl 5 (by decide) (hN _ nf_Rn_101) rfl d_Rn_readPiece_235 ?_
              have b52 := iv0 (M := M) (a := 53 + 7 * d) (b := 5) hI (by unfold p0; omega)
              refine lv_iconst (v := 1) hx hb d_Rn_readPiece_238 (by decide) ?_
              refine lv_iadd hx hb d_Rn_readPiece_239 ?_
              refine lv_topi (fun x53 ex53 => ?_)
              try have fx53 : x53.toInt = (M (53 + 7 * d) 5).toInt + 1 := by rw [ex53]; exact ti_add (by (try rw [show (1 : Int32).toInt = 1 from rfl]); omega) (by (try rw [show (1 : Int32).toInt = 1 from rfl]); omega)
              refine ux_putN (C := R_Lv) (T := F_Lv) (N := 10) hx hb hT in_Lv t_Lv t_Lv_ok n_Lv hown hK hi hP hS (lk 53 (by decide) hd) (L53 hd) rfl 5 (by decide) (hN _ nf_Rn_101) rfl (rfl) (rfl) rfl d_Rn_readPiece_240 (fun H locs hP hS => ?_)
              have hI := IvX_wr (k := 53 + 7 * d) (j := 5) (v := x53) hI (fun q => by unfold p0 at q; omega) (fun q => by unfold p8 at q; omega) (fun q => by unfold p20 at q; omega) (fun q => by unfold p40 at q; omega) (fun q => by unfold p200 at q; omega) (fun q => by unfold pch at q; omega)
              have hF := fr_wr (k := 53 + 7 * d) (j := 5) (v := x53) hF (by unfold tP; omega)
              generalize eM54 : ux_wr M (53 + 7 * d) 5 x53 = M54 at hP hI hF
              refine lv_aload_n hx hb d_Rn_readPiece_243 rfl (lv_at hl 2 rfl) ?_
              refine ux_getN (C := R_Lv) (T := F_Lv) (N := 10) hx hb hT in_Lv hown hK hP (lk 53 (by decide) hd) (L53 hd) rfl 0 (by decide) (hN _ nf_Rn_145) rfl d_Rn_readPiece_244 ?_
              refine lv_aload_n hx hb d_Rn_readPiece_247 rfl (lv_at hl 2 rfl) ?_
              refine ux_getN (C := R_Lv) (T := F_Lv) (N := 10) hx hb hT in_Lv hown hK hP (lk 53 (by decide) hd) (L53 hd) rfl 4 (by decide) (hN _ nf_Rn_83) rfl d_Rn_readPiece_248 ?_
              have b55 := iv0 (M := M54) (a := 53 + 7 * d) (b := 4) hI (by unfold p0; omega)
              have b56 := iv8 (M := M54) (a := 53 + 7 * d) (b := 4) hI (by unfold p8; omega)
              refine lv_iload hx hb d_Rn_readPiece_251 (lv_at hl 0 rfl) ?_
              refine ux_calli (va_runV ⟨hx, hb, hml, hown, hts⟩ (s_Vl_append l D ad cA M54 hI (54 + 7 * d) (55 + 7 * d) (56 + 7 * d) 8 (vV_lv hd) (M54 (53 + 7 * d) 4) 0) (cwV 2 hts (tb_goodV ml_Rn_94 im_Vl_append se_Vl_append ii_Vl kt_Vl_append) rfl rfl rfl (by decide +kernel) ⟨show 0 + 1 ≤ (12 + 8 * ee + 1) by omega, show 8 + (3 + 11) + (0) ≤ (600 + 300 * ee + 28) by omega⟩) (ux_preV (lk 54 (by decide) hd) (L54 hd) rfl hP hK hi hN) rfl rfl hl.1 rfl (lv_room (Nat.le_of_ble_eq_true rfl)) d_Rn_readPiece_253 ⟨Nat.zero_le _, Nat.zero_le _⟩) hS (fun r57 M58 H locs q59 hP hS => ?_)
              obtain ⟨hI, fq59, q59p⟩ := q59
              have hF := fr_call hF fq59 (fun a b q => by unfold tV at q; unfold tP; omega)
              refine lv_if_eq hx hb d_Rn_readPiece_256 rfl (fun h60 => ?_) (fun h60 => ?_)
              · have g60 : r57.toInt = 0 := congrArg Int32.toInt h60
                refine lv_aload_n hx hb d_Rn_readPiece_263 rfl (lv_at hl 1 rfl) ?_
                refine lv_bipush (v := 7) hx hb d_Rn_readPiece_264 (by decide) ?_
                refine ux_calli (va_runV ⟨hx, hb, hml, hown, hts⟩ (s_Rn_fail l D ad cA M58 hI 7) (cwV 1 hts (tb_goodV ml_Rn_64 im_Rn_fail se_Rn_fail ii_Rn kt_Rn_fail) rfl rfl rfl (by decide +kernel) ⟨show 1 + 1 ≤ (12 + 8 * ee + 1) by omega, show 8 + (2 + 11) + (22) ≤ (600 + 300 * ee + 28) by omega⟩) (ux_preV (by decide) rfl rfl hP hK hi hN) rfl rfl hl.1 rfl (lv_room (Nat.le_of_ble_eq_true rfl)) d_Rn_readPiece_266 ⟨Nat.zero_le _, Nat.zero_le _⟩) hS (fun r61 M62 H locs q63 hP hS => ?_)
                obtain ⟨hI, fq63, q63p⟩ := q63
                have hF := fr_call hF fq63 (fun a b q => by unfold tV at q; unfold tP; omega)
                exact W.iret (v := r61) hx hb hr (fun t ht hW => ⟨⟨r61, M62, rfl, ⟨hI, hF, trivial⟩, by unfold ux_E; rw [ht]; exact hP⟩, hS.F ht⟩) hS.2.2 d_Rn_readPiece_269
              · have g60 : ¬ (r57.toInt = 0) := fun q => h60 (Int32.toInt_inj.mp q)
                refine lv_iconst (v := 0) hx hb d_Rn_readPiece_259 (by decide) ?_
                refine lv_goto hx hb d_Rn_readPiece_260 rfl ?_
                exact W.iret (v := 0) hx hb hr (fun t ht hW => ⟨⟨0, M58, rfl, ⟨hI, hF, trivial⟩, by unfold ux_E; rw [ht]; exact hP⟩, hS.F ht⟩) hS.2.2 d_Rn_readPiece_269
            · have g51 : ¬ ((M (53 + 7 * d) 5).toInt < (M (53 + 7 * d) 6).toInt) := fun q => h51 (Int32.lt_iff_toInt_lt.mpr q)
              have u51 := ti_hi (M (53 + 7 * d) 5)
              have w51 := ti_lo (M (53 + 7 * d) 6)
              refine lv_aload_n hx hb d_Rn_readPiece_227 rfl (lv_at hl 1 rfl) ?_
              refine lv_iconst (v := 1) hx hb d_Rn_readPiece_228 (by decide) ?_
              refine ux_calli (va_runV ⟨hx, hb, hml, hown, hts⟩ (s_Rn_fail l D ad cA M hI 1) (cwV 1 hts (tb_goodV ml_Rn_64 im_Rn_fail se_Rn_fail ii_Rn kt_Rn_fail) rfl rfl rfl (by decide +kernel) ⟨show 1 + 1 ≤ (12 + 8 * ee + 1) by omega, show 8 + (2 + 11) + (22) ≤ (600 + 300 * ee + 28) by omega⟩) (ux_preV (by decide) rfl rfl hP hK hi hN) rfl rfl hl.1 rfl (lv_room (Nat.le_of_ble_eq_true rfl)) d_Rn_readPiece_229 ⟨Nat.zero_le _, Nat.zero_le _⟩) hS (fun r64 M65 H locs q66 hP hS => ?_)
              obtain ⟨hI, fq66, q66p⟩ := q66
              have hF := fr_call hF fq66 (fun a b q => by unfold tV at q; unfold tP; omega)
              exact W.iret (v := r64) hx hb hr (fun t ht hW => ⟨⟨r64, M65, rfl, ⟨hI, hF, trivial⟩, by unfold ux_E; rw [ht]; exact hP⟩, hS.F ht⟩) hS.2.2 d_Rn_readPiece_232
        · have g38 : ¬ ((isv 0).toInt = 0) := fun q => h38 (Int32.toInt_inj.mp q)
          exact absurd (show (isv 0).toInt = 0 from rfl) (by assumption)
    · have g4 : ch.toInt = 91 := congrArg Int32.toInt h4
      refine lv_aload_n hx hb d_Rn_readPiece_35 rfl (lv_at hl 1 rfl) ?_
      refine lv_aload_n hx hb d_Rn_readPiece_36 rfl (lv_at hl 2 rfl) ?_
      refine ux_getN (C := R_Lv) (T := F_Lv) (N := 10) hx hb hT in_Lv hown hK hP (lk 53 (by decide) hd) (L53 hd) rfl 5 (by decide) (hN _ nf_Rn_101) rfl d_Rn_readPiece_37 ?_
      have b67 := iv0 (M := M) (a := 53 + 7 * d) (b := 5) hI (by unfold p0; omega)
      refine lv_aload_n hx hb d_Rn_readPiece_40 rfl (lv_at hl 2 rfl) ?_
      refine ux_getN (C := R_Lv) (T := F_Lv) (N := 10) hx hb hT in_Lv hown hK hP (lk 53 (by decide) hd) (L53 hd) rfl 6 (by decide) (hN _ nf_Rn_104) rfl d_Rn_readPiece_41 ?_
      have b68 := iv200 (M := M) (a := 53 + 7 * d) (b := 6) hI (by unfold p200; omega)
      refine lv_aload_n hx hb d_Rn_readPiece_44 rfl (lv_at hl 2 rfl) ?_
      refine ux_getN (C := R_Lv) (T := F_Lv) (N := 10) hx hb hT in_Lv hown hK hP (lk 53 (by decide) hd) (L53 hd) rfl 7 (by decide) (hN _ nf_Rn_138) rfl d_Rn_readPiece_45 ?_
      refine lv_iload_n hx hb d_Rn_readPiece_48 rfl (lv_at hl 3 rfl) ?_
      refine lv_iconst (v := 1) hx hb d_Rn_readPiece_49 (by decide) ?_
      refine lv_iadd hx hb d_Rn_readPiece_50 ?_
      refine lv_topi (fun z69 hz69 => ?_)
      rw [nI_1 d] at hz69
      rw [hz69]
      have b70 : (nI (d + 1)).toInt = ((d + 1 : Nat) : Int) := nI_toInt (by omega)
      refine lv_iconst (v := 1) hx hb d_Rn_readPiece_51 (by decide) ?_
      refine ux_calli (va_runV ⟨hx, hb, hml, hown, hts⟩ (hrec M hI (M (53 + 7 * d) 5) (M (53 + 7 * d) 6) (M (53 + 7 * d) 7) 1 (by first | assumption | exact Or.inl rfl | exact Or.inr rfl)) (cwV 5 hts (tb_goodV ml_Rn_141 im_Rn_runScript se_Rn_runScript ii_Rn kt_Rn_runScript) rfl rfl rfl (by decide +kernel) ⟨show (12 + 8 * ee) + 1 ≤ (12 + 8 * ee + 1) by omega, show 8 + (9 + 11) + ((600 + 300 * ee)) ≤ (600 + 300 * ee + 28) by omega⟩) (ux_preVZ (by decide) rfl rfl hP hK hi hN hZ hS) rfl rfl hl.1 rfl (lv_room (Nat.le_of_ble_eq_true rfl)) d_Rn_readPiece_52 ⟨Nat.zero_le _, Nat.zero_le _⟩) hS (fun r71 M72 H locs q73 hP hS => ?_)
      obtain ⟨hI, fq73, q73p⟩ := q73
      have hF := fr_call hF fq73 (fun a b q => by unfold tR at q; unfold tP; omega)
      refine lv_istore hx hb d_Rn_readPiece_55 hl (by decide) rfl (fun ls hl => ?_)
      have hl : lv_has ls 7 [(5, .int r71), (4, .int 0), (0, .ref (ad 13)), (1, .ref (ad (53 + 7 * d))), (2, .int (nI d)), (3, .int ch)] := hl
      refine lv_iload hx hb d_Rn_readPiece_57 (lv_at hl 0 rfl) ?_
      refine lv_if_ne hx hb d_Rn_readPiece_59 rfl (fun h74 => ?_) (fun h74 => ?_)
      · have g74 : ¬ (r71.toInt = 0) := fun q => h74 (Int32.toInt_inj.mp q)
        refine lv_iload hx hb d_Rn_readPiece_70 (lv_at hl 0 rfl) ?_
        exact W.iret (v := r71) hx hb hr (fun t ht hW => ⟨⟨r71, M72, rfl, ⟨hI, hF, trivial⟩, by unfold ux_E; rw [ht]; exact hP⟩, hS.F ht⟩) hS.2.2 d_Rn_readPiece_72
      · have g74 : r71.toInt = 0 := congrArg Int32.toInt h74
        refine lv_iload_n hx hb d_Rn_readPiece_62 rfl (lv_at hl 4 rfl) ?_
        refine lv_iconst (v := 1) hx hb d_Rn_readPiece_63 (by decide) ?_
        refine lv_iadd hx hb d_Rn_readPiece_64 ?_
        refine lv_topi (fun z75 hz75 => ?_)
        rw [nI_1 d] at hz75
        rw [hz75]
        have b76 : (nI (d + 1)).toInt = ((d + 1 : Nat) : Int) := nI_toInt (by omega)
        refine lv_bipush (v := 8) hx hb d_Rn_readPiece_65 (by decide) ?_
        refine lv_icmp_lt hx hb d_Rn_readPiece_67 rfl (fun h77 => ?_) (fun h77 => ?_)
        · have g77 : (nI (d + 1)).toInt < 8 := Int32.lt_iff_toInt_lt.mp h77
          have w77 := ti_lo (nI (d + 1))
          have hd1 : d + 1 < 8 := by omega
          refine lv_aload_n hx hb d_Rn_readPiece_73 rfl (lv_at hl 3 rfl) ?_
          refine lv_aload_n hx hb d_Rn_readPiece_74 rfl (lv_at hl 2 rfl) ?_
          refine ux_get (C := R_Rn) (T := F_Rn) (N := 9) hx hb hT in_Rn hown hK hP (by decide) rfl rfl 5 (by decide) (hT _ fl_Rn_27) rfl d_Rn_readPiece_75 ?_
          refine lv_iload_n hx hb d_Rn_readPiece_78 rfl (lv_at hl 4 rfl) ?_
          refine lv_iconst (v := 1) hx hb d_Rn_readPiece_79 (by decide) ?_
          refine lv_iadd hx hb d_Rn_readPiece_80 ?_
          refine lv_topi (fun z78 hz78 => ?_)
          rw [nI_1 d] at hz78
          rw [hz78]
          have b79 : (nI (d + 1)).toInt = ((d + 1 : Nat) : Int) := nI_toInt (by omega)
          refine ux_aald hx hb hK hP (by decide) rfl rfl ((vi (show 0 ≤ (nI (d + 1)).toInt by omega) (show (nI (d + 1)).toInt < ((8 : Nat) : Int) by omega))) d_Rn_readPiece_81 ?_
          rw [show gX46 (nI (d + 1)).toNatClampNeg = 60 + 7 * d from gL1 hd1]
          refine ux_getN (C := R_Lv) (T := F_Lv) (N := 10) hx hb hT in_Lv hown hK hP (by show 60 + 7 * d < 109; omega) (L60 hd1) rfl 5 (by decide) (hN _ nf_Rn_101) rfl d_Rn_readPiece_82 ?_
          have b80 := iv0 (M := M72) (a := 60 + 7 * d) (b := 5) hI (by unfold p0; omega)
          refine ux_putN (C := R_Lv) (T := F_Lv) (N := 10) hx hb hT in_Lv t_Lv t_Lv_ok n_Lv hown hK hi hP hS (lk 53 (by decide) hd) (L53 hd) rfl 5 (by decide) (hN _ nf_Rn_101) rfl (rfl) (rfl) rfl d_Rn_readPiece_85 (fun H locs hP hS => ?_)
          have hI := IvX_wr (k := 53 + 7 * d) (j := 5) (v := M72 (60 + 7 * d) 5) hI (fun q => by unfold p0 at q; omega) (fun q => by unfold p8 at q; omega) (fun q => by unfold p20 at q; omega) (fun q => by unfold p40 at q; omega) (fun q => by unfold p200 at q; omega) (fun q => by unfold pch at q; omega)
          have hF := fr_wr (k := 53 + 7 * d) (j := 5) (v := M72 (60 + 7 * d) 5) hF (by unfold tP; omega)
          generalize eM81 : ux_wr M72 (53 + 7 * d) 5 (M72 (60 + 7 * d) 5) = M81 at hP hI hF
          refine lv_aload_n hx hb d_Rn_readPiece_88 rfl (lv_at hl 3 rfl) ?_
          refine ux_getN (C := R_Lv) (T := F_Lv) (N := 10) hx hb hT in_Lv hown hK hP (lk 53 (by decide) hd) (L53 hd) rfl 0 (by decide) (hN _ nf_Rn_145) rfl d_Rn_readPiece_89 ?_
          refine lv_aload_n hx hb d_Rn_readPiece_92 rfl (lv_at hl 3 rfl) ?_
          refine ux_getN (C := R_Lv) (T := F_Lv) (N := 10) hx hb hT in_Lv hown hK hP (lk 53 (by decide) hd) (L53 hd) rfl 4 (by decide) (hN _ nf_Rn_83) rfl d_Rn_readPiece_93 ?_
          have b82 := iv0 (M := M81) (a := 53 + 7 * d) (b := 4) hI (by unfold p0; omega)
          have b83 := iv8 (M := M81) (a := 53 + 7 * d) (b := 4) hI (by unfold p8; omega)
          refine lv_aload_n hx hb d_Rn_readPiece_96 rfl (lv_at hl 2 rfl) ?_
          refine ux_get (C := R_Rn) (T := F_Rn) (N := 9) hx hb hT in_Rn hown hK hP (by decide) rfl rfl 6 (by decide) (hT _ fl_Rn_36) rfl d_Rn_readPiece_97 ?_
          refine lv_iconst (v := 0) hx hb d_Rn_readPiece_100 (by decide) ?_
          refine ux_calli (va_runV ⟨hx, hb, hml, hown, hts⟩ (s_Vl_appendValue l D ad cA M81 hI (54 + 7 * d) (55 + 7 * d) (56 + 7 * d) 8 (vV_lv hd) 47 48 49 1 vV_res (M81 (53 + 7 * d) 4) 0) (cwV 3 hts (tb_goodV ml_Rn_148 im_Vl_appendValue se_Vl_appendValue ii_Vl kt_Vl_appendValue) rfl rfl rfl (by decide +kernel) ⟨show 1 + 1 ≤ (12 + 8 * ee + 1) by omega, show 8 + (7 + 11) + (22) ≤ (600 + 300 * ee + 28) by omega⟩) (ux_preV (lk 54 (by decide) hd) (L54 hd) rfl hP hK hi hN) rfl rfl hl.1 rfl (lv_room (Nat.le_of_ble_eq_true rfl)) d_Rn_readPiece_101 ⟨Nat.zero_le _, Nat.zero_le _⟩) hS (fun r84 M85 H locs q86 hP hS => ?_)
          obtain ⟨hI, fq86, q86p⟩ := q86
          have hF := fr_call hF fq86 (fun a b q => by unfold tV at q; unfold tP; omega)
          refine lv_if_eq hx hb d_Rn_readPiece_104 rfl (fun h87 => ?_) (fun h87 => ?_)
          · have g87 : r84.toInt = 0 := congrArg Int32.toInt h87
            refine lv_aload_n hx hb d_Rn_readPiece_111 rfl (lv_at hl 2 rfl) ?_
            refine lv_bipush (v := 7) hx hb d_Rn_readPiece_112 (by decide) ?_
            refine ux_calli (va_runV ⟨hx, hb, hml, hown, hts⟩ (s_Rn_fail l D ad cA M85 hI 7) (cwV 1 hts (tb_goodV ml_Rn_64 im_Rn_fail se_Rn_fail ii_Rn kt_Rn_fail) rfl rfl rfl (by decide +kernel) ⟨show 1 + 1 ≤ (12 + 8 * ee + 1) by omega, show 8 + (2 + 11) + (22) ≤ (600 + 300 * ee + 28) by omega⟩) (ux_preV (by decide) rfl rfl hP hK hi hN) rfl rfl hl.1 rfl (lv_room (Nat.le_of_ble_eq_true rfl)) d_Rn_readPiece_114 ⟨Nat.zero_le _, Nat.zero_le _⟩) hS (fun r88 M89 H locs q90 hP hS => ?_)
            obtain ⟨hI, fq90, q90p⟩ := q90
            have hF := fr_call hF fq90 (fun a b q => by unfold tV at q; unfold tP; omega)
            exact W.iret (v := r88) hx hb hr (fun t ht hW => ⟨⟨r88, M89, rfl, ⟨hI, hF, trivial⟩, by unfold ux_E; rw [ht]; exact hP⟩, hS.F ht⟩) hS.2.2 d_Rn_readPiece_117
          · have g87 : ¬ (r84.toInt = 0) := fun q => h87 (Int32.toInt_inj.mp q)
            refine lv_iconst (v := 0) hx hb d_Rn_readPiece_107 (by decide) ?_
            refine lv_goto hx hb d_Rn_readPiece_108 rfl ?_
            exact W.iret (v := 0) hx hb hr (fun t ht hW => ⟨⟨0, M85, rfl, ⟨hI, hF, trivial⟩, by unfold ux_E; rw [ht]; exact hP⟩, hS.F ht⟩) hS.2.2 d_Rn_readPiece_117
        · have g77 : ¬ ((nI (d + 1)).toInt < 8) := fun q => h77 (Int32.lt_iff_toInt_lt.mpr q)
          have u77 := ti_hi (nI (d + 1))
          refine lv_iload hx hb d_Rn_readPiece_70 (lv_at hl 0 rfl) ?_
          exact W.iret (v := r71) hx hb hr (fun t ht hW => ⟨⟨r71, M72, rfl, ⟨hI, hF, trivial⟩, by unfold ux_E; rw [ht]; exact hP⟩, hS.F ht⟩) hS.2.2 d_Rn_readPiece_72
  · have g3 : ¬ ((M (53 + 7 * d) 6).toInt ≤ (M (53 + 7 * d) 5).toInt) := fun q => h3 (Int32.le_iff_toInt_le.mpr q)
    have u3 := ti_hi (M (53 + 7 * d) 6)
    have w3 := ti_lo (M (53 + 7 * d) 5)
    refine lv_aload_n hx hb d_Rn_readPiece_11 rfl (lv_at hl 0 rfl) ?_
    refine ux_get (C := R_Rn) (T := F_Rn) (N := 9) hx hb hT in_Rn hown hK hP (by decide) rfl rfl 0 (by decide) (hT _ fl_Rn_40) rfl d_Rn_readPiece_12 ?_
    refine ux_getN (C := R_Tx) (T := F_Tx) (N := 3) hx hb hT in_Tx hown hK hP (by decide) rfl rfl 0 (by decide) (hN _ nf_Rn_50) rfl d_Rn_readPiece_15 ?_
    refine lv_aload_n hx hb d_Rn_readPiece_18 rfl (lv_at hl 1 rfl) ?_
    refine ux_getN (C := R_Lv) (T := F_Lv) (N := 10) hx hb hT in_Lv hown hK hP (lk 53 (by decide) hd) (L53 hd) rfl 5 (by decide) (hN _ nf_Rn_101) rfl d_Rn_readPiece_19 ?_
    have b91 := iv0 (M := M) (a := 53 + 7 * d) (b := 5) hI (by unfold p0; omega)
    refine ux_cald hx hb hK hP (by decide) rfl ((vi (show 0 ≤ (M (53 + 7 * d) 5).toInt by omega) (show (M (53 + 7 * d) 5).toInt < ((200 : Nat) : Int) by omega))) d_Rn_readPiece_22 ?_
    refine lv_goto hx hb d_Rn_readPiece_23 rfl ?_
    refine lv_istore hx hb d_Rn_readPiece_27 hl (by decide) rfl (fun ls hl => ?_)
    have hl : lv_has ls 7 [(4, .int (M 1 ((M (53 + 7 * d) 5).toNatClampNeg))), (0, .ref (ad 13)), (1, .ref (ad (53 + 7 * d))), (2, .int (nI d)), (3, .int ch)] := hl
    refine lv_iload_n hx hb d_Rn_readPiece_29 rfl (lv_at hl 4 rfl) ?_
    refine lv_bipush (v := 91) hx hb d_Rn_readPiece_30 (by decide) ?_
    refine lv_icmp_ne hx hb d_Rn_readPiece_32 rfl (fun h92 => ?_) (fun h92 => ?_)
    · have g92 : ¬ (ch.toInt = 91) := fun q => h92 (Int32.toInt_inj.mp q)
      refine lv_iload_n hx hb d_Rn_readPiece_118 rfl (lv_at hl 4 rfl) ?_
      refine lv_bipush (v := 36) hx hb d_Rn_readPiece_119 (by decide) ?_
      refine lv_icmp_ne hx hb d_Rn_readPiece_121 rfl (fun h93 => ?_) (fun h93 => ?_)
      · have g93 : ¬ (ch.toInt = 36) := fun q => h93 (Int32.toInt_inj.mp q)
        refine lv_iload_n hx hb d_Rn_readPiece_210 rfl (lv_at hl 4 rfl) ?_
        refine lv_bipush (v := 92) hx hb d_Rn_readPiece_211 (by decide) ?_
        refine lv_icmp_ne hx hb d_Rn_readPiece_213 rfl (fun h94 => ?_) (fun h94 => ?_)
        · have g94 : ¬ (ch.toInt = 92) := fun q => h94 (Int32.toInt_inj.mp q)
          refine lv_aload_n hx hb d_Rn_readPiece_270 rfl (lv_at hl 2 rfl) ?_
          refine ux_getN (C := R_Lv) (T := F_Lv) (N := 10) hx hb hT in_Lv hown hK hP (lk 53 (by decide) hd) (L53 hd) rfl 0 (by decide) (hN _ nf_Rn_145) rfl d_Rn_readPiece_271 ?_
          refine lv_aload_n hx hb d_Rn_readPiece_274 rfl (lv_at hl 2 rfl) ?_
          refine ux_getN (C := R_Lv) (T := F_Lv) (N := 10) hx hb hT in_Lv hown hK hP (lk 53 (by decide) hd) (L53 hd) rfl 4 (by decide) (hN _ nf_Rn_83) rfl d_Rn_readPiece_275 ?_
          have b95 := iv0 (M := M) (a := 53 + 7 * d) (b := 4) hI (by unfold p0; omega)
          have b96 := iv8 (M := M) (a := 53 + 7 * d) (b := 4) hI (by unfold p8; omega)
          refine lv_iload_n hx hb d_Rn_readPiece_278 rfl (lv_at hl 4 rfl) ?_
          refine ux_calli (va_runV ⟨hx, hb, hml, hown, hts⟩ (s_Vl_append l D ad cA M hI (54 + 7 * d) (55 + 7 * d) (56 + 7 * d) 8 (vV_lv hd) (M (53 + 7 * d) 4) ch) (cwV 2 hts (tb_goodV ml_Rn_94 im_Vl_append se_Vl_append ii_Vl kt_Vl_append) rfl rfl rfl (by decide +kernel) ⟨show 0 + 1 ≤ (12 + 8 * ee + 1) by omega, show 8 + (3 + 11) + (0) ≤ (600 + 300 * ee + 28) by omega⟩) (ux_preV (lk 54 (by decide) hd) (L54 hd) rfl hP hK hi hN) rfl rfl hl.1 rfl (lv_room (Nat.le_of_ble_eq_true rfl)) d_Rn_readPiece_279 ⟨Nat.zero_le _, Nat.zero_le _⟩) hS (fun r97 M98 H locs q99 hP hS => ?_)
          obtain ⟨hI, fq99, q99p⟩ := q99
          have hF := fr_call hF fq99 (fun a b q => by unfold tV at q; unfold tP; omega)
          refine lv_if_eq hx hb d_Rn_readPiece_282 rfl (fun h100 => ?_) (fun h100 => ?_)
          · have g100 : r97.toInt = 0 := congrArg Int32.toInt h100
            refine lv_aload_n hx hb d_Rn_readPiece_289 rfl (lv_at hl 1 rfl) ?_
            refine lv_bipush (v := 7) hx hb d_Rn_readPiece_290 (by decide) ?_
            refine ux_calli (va_runV ⟨hx, hb, hml, hown, hts⟩ (s_Rn_fail l D ad cA M98 hI 7) (cwV 1 hts (tb_goodV ml_Rn_64 im_Rn_fail se_Rn_fail ii_Rn kt_Rn_fail) rfl rfl rfl (by decide +kernel) ⟨show 1 + 1 ≤ (12 + 8 * ee + 1) by omega, show 8 + (2 + 11) + (22) ≤ (600 + 300 * ee + 28) by omega⟩) (ux_preV (by decide) rfl rfl hP hK hi hN) rfl rfl hl.1 rfl (lv_room (Nat.le_of_ble_eq_true rfl)) d_Rn_readPiece_292 ⟨Nat.zero_le _, Nat.zero_le _⟩) hS (fun r101 M102 H locs q103 hP hS => ?_)
            obtain ⟨hI, fq103, q103p⟩ := q103
            have hF := fr_call hF fq103 (fun a b q => by unfold tV at q; unfold tP; omega)
            exact W.iret (v := r101) hx hb hr (fun t ht hW => ⟨⟨r101, M102, rfl, ⟨hI, hF, trivial⟩, by unfold ux_E; rw [ht]; exact hP⟩, hS.F ht⟩) hS.2.2 d_Rn_readPiece_295
          · have g100 : ¬ (r97.toInt = 0) := fun q => h100 (Int32.toInt_inj.mp q)
            refine lv_iconst (v := 0) hx hb d_Rn_readPiece_285 (by decide) ?_
            refine lv_goto hx hb d_Rn_readPiece_286 rfl ?_
            exact W.iret (v := 0) hx hb hr (fun t ht hW => ⟨⟨0, M98, rfl, ⟨hI, hF, trivial⟩, by unfold ux_E; rw [ht]; exact hP⟩, hS.F ht⟩) hS.2.2 d_Rn_readPiece_295
        · have g94 : ch.toInt = 92 := congrArg Int32.toInt h94
          refine lv_aload_n hx hb d_Rn_readPiece_216 rfl (lv_at hl 2 rfl) ?_
          refine ux_getN (C := R_Lv) (T := F_Lv) (N := 10) hx hb hT in_Lv hown hK hP (lk 53 (by decide) hd) (L53 hd) rfl 5 (by decide) (hN _ nf_Rn_101) rfl d_Rn_readPiece_217 ?_
          have b104 := iv0 (M := M) (a := 53 + 7 * d) (b := 5) hI (by unfold p0; omega)
          refine lv_aload_n hx hb d_Rn_readPiece_220 rfl (lv_at hl 2 rfl) ?_
          refine ux_getN (C := R_Lv) (T := F_Lv) (N := 10) hx hb hT in_Lv hown hK hP (lk 53 (by decide) hd) (L53 hd) rfl 6 (by decide) (hN _ nf_Rn_104) rfl d_Rn_readPiece_221 ?_
          have b105 := iv200 (M := M) (a := 53 + 7 * d) (b := 6) hI (by unfold p200; omega)
          refine lv_icmp_lt hx hb d_Rn_readPiece_224 rfl (fun h106 => ?_) (fun h106 => ?_)
          · have g106 : (M (53 + 7 * d) 5).toInt < (M (53 + 7 * d) 6).toInt := Int32.lt_iff_toInt_lt.mp h106
            have u106 := ti_hi (M (53 + 7 * d) 6)
            have w106 := ti_lo (M (53 + 7 * d) 5)
            refine lv_aload_n hx hb d_Rn_readPiece_233 rfl (lv_at hl 2 rfl) ?_
            refine lv_dup hx hb d_Rn_readPiece_234 rfl ?_
            refine ux_getN (C := R_Lv) (T := F_Lv) (N := 10) hx hb hT in_Lv hown hK hP (lk 53 (by decide) hd) (L53 hd) rfl 5 (by decide) (hN _ nf_Rn_101) rfl d_Rn_readPiece_235 ?_
            have b107 := iv0 (M := M) (a := 53 + 7 * d) (b := 5) hI (by unfold p0; omega)
            refine lv_iconst (v := 1) hx hb d_Rn_readPiece_238 (by decide) ?_
            refine lv_iadd hx hb d_Rn_readPiece_239 ?_
            refine lv_topi (fun x108 ex108 => ?_)
            try have fx108 : x108.toInt = (M (53 + 7 * d) 5).toInt + 1 := by rw [ex108]; exact ti_add (by (try rw [show (1 : Int32).toInt = 1 from rfl]); omega) (by (try rw [show (1 : Int32).toInt = 1 from rfl]); omega)
            refine ux_putN (C := R_Lv) (T := F_Lv) (N := 10) hx hb hT in_Lv t_Lv t_Lv_ok n_Lv hown hK hi hP hS (lk 53 (by decide) hd) (L53 hd) rfl 5 (by decide) (hN _ nf_Rn_101) rfl (rfl) (rfl) rfl d_Rn_readPiece_240 (fun H locs hP hS => ?_)
            have hI := IvX_wr (k := 53 + 7 * d) (j := 5) (v := x108) hI (fun q => by unfold p0 at q; omega) (fun q => by unfold p8 at q; omega) (fun q => by unfold p20 at q; omega) (fun q => by unfold p40 at q; omega) (fun q => by unfold p200 at q; omega) (fun q => by unfold pch at q; omega)
            have hF := fr_wr (k := 53 + 7 * d) (j := 5) (v := x108) hF (by unfold tP; omega)
            generalize eM109 : ux_wr M (53 + 7 * d) 5 x108 = M109 at hP hI hF
            refine lv_aload_n hx hb d_Rn_readPiece_243 rfl (lv_at hl 2 rfl) ?_
            refine ux_getN (C := R_Lv) (T := F_Lv) (N := 10) hx hb hT in_Lv hown hK hP (lk 53 (by decide) hd) (L53 hd) rfl 0 (by decide) (hN _ nf_Rn_145) rfl d_Rn_readPiece_244 ?_
            refine lv_aload_n hx hb d_Rn_readPiece_247 rfl (lv_at hl 2 rfl) ?_
            refine ux_getN (C := R_Lv) (T := F_Lv) (N := 10) hx hb hT in_Lv hown hK hP (lk 53 (by decide) hd) (L53 hd) rfl 4 (by decide) (hN _ nf_Rn_83) rfl d_Rn_readPiece_248 ?_
            have b110 := iv0 (M := M109) (a := 53 + 7 * d) (b := 4) hI (by unfold p0; omega)
            have b111 := iv8 (M := M109) (a := 53 + 7 * d) (b := 4) hI (by unfold p8; omega)
            refine lv_iload hx hb d_Rn_readPiece_251 (lv_at hl 0 rfl) ?_
            refine ux_calli (va_runV ⟨hx, hb, hml, hown, hts⟩ (s_Vl_append l D ad cA M109 hI (54 + 7 * d) (55 + 7 * d) (56 + 7 * d) 8 (vV_lv hd) (M109 (53 + 7 * d) 4) (M 1 ((M (53 + 7 * d) 5).toNatClampNeg))) (cwV 2 hts (tb_goodV ml_Rn_94 im_Vl_append se_Vl_append ii_Vl kt_Vl_append) rfl rfl rfl (by decide +kernel) ⟨show 0 + 1 ≤ (12 + 8 * ee + 1) by omega, show 8 + (3 + 11) + (0) ≤ (600 + 300 * ee + 28) by omega⟩) (ux_preV (lk 54 (by decide) hd) (L54 hd) rfl hP hK hi hN) rfl rfl hl.1 rfl (lv_room (Nat.le_of_ble_eq_true rfl)) d_Rn_readPiece_253 ⟨Nat.zero_le _, Nat.zero_le _⟩) hS (fun r112 M113 H locs q114 hP hS => ?_)
            obtain ⟨hI, fq114, q114p⟩ := q114
            have hF := fr_call hF fq114 (fun a b q => by unfold tV at q; unfold tP; omega)
            refine lv_if_eq hx hb d_Rn_readPiece_256 rfl (fun h115 => ?_) (fun h115 => ?_)
            · have g115 : r112.toInt = 0 := congrArg Int32.toInt h115
              refine lv_aload_n hx hb d_Rn_readPiece_263 rfl (lv_at hl 1 rfl) ?_
              refine lv_bipush (v := 7) hx hb d_Rn_readPiece_264 (by decide) ?_
              refine ux_calli (va_runV ⟨hx, hb, hml, hown, hts⟩ (s_Rn_fail l D ad cA M113 hI 7) (cwV 1 hts (tb_goodV ml_Rn_64 im_Rn_fail se_Rn_fail ii_Rn kt_Rn_fail) rfl rfl rfl (by decide +kernel) ⟨show 1 + 1 ≤ (12 + 8 * ee + 1) by omega, show 8 + (2 + 11) + (22) ≤ (600 + 300 * ee + 28) by omega⟩) (ux_preV (by decide) rfl rfl hP hK hi hN) rfl rfl hl.1 rfl (lv_room (Nat.le_of_ble_eq_true rfl)) d_Rn_readPiece_266 ⟨Nat.zero_le _, Nat.zero_le _⟩) hS (fun r116 M117 H locs q118 hP hS => ?_)
              obtain ⟨hI, fq118, q118p⟩ := q118
              have hF := fr_call hF fq118 (fun a b q => by unfold tV at q; unfold tP; omega)
              exact W.iret (v := r116) hx hb hr (fun t ht hW => ⟨⟨r116, M117, rfl, ⟨hI, hF, trivial⟩, by unfold ux_E; rw [ht]; exact hP⟩, hS.F ht⟩) hS.2.2 d_Rn_readPiece_269
            · have g115 : ¬ (r112.toInt = 0) := fun q => h115 (Int32.toInt_inj.mp q)
              refine lv_iconst (v := 0) hx hb d_Rn_readPiece_259 (by decide) ?_
              refine lv_goto hx hb d_Rn_readPiece_260 rfl ?_
              exact W.iret (v := 0) hx hb hr (fun t ht hW => ⟨⟨0, M113, rfl, ⟨hI, hF, trivial⟩, by unfold ux_E; rw [ht]; exact hP⟩, hS.F ht⟩) hS.2.2 d_Rn_readPiece_269
          · have g106 : ¬ ((M (53 + 7 * d) 5).toInt < (M (53 + 7 * d) 6).toInt) := fun q => h106 (Int32.lt_iff_toInt_lt.mpr q)
            have u106 := ti_hi (M (53 + 7 * d) 5)
            have w106 := ti_lo (M (53 + 7 * d) 6)
            refine lv_aload_n hx hb d_Rn_readPiece_227 rfl (lv_at hl 1 rfl) ?_
            refine lv_iconst (v := 1) hx hb d_Rn_readPiece_228 (by decide) ?_
            refine ux_calli (va_runV ⟨hx, hb, hml, hown, hts⟩ (s_Rn_fail l D ad cA M hI 1) (cwV 1 hts (tb_goodV ml_Rn_64 im_Rn_fail se_Rn_fail ii_Rn kt_Rn_fail) rfl rfl rfl (by decide +kernel) ⟨show 1 + 1 ≤ (12 + 8 * ee + 1) by omega, show 8 + (2 + 11) + (22) ≤ (600 + 300 * ee + 28) by omega⟩) (ux_preV (by decide) rfl rfl hP hK hi hN) rfl rfl hl.1 rfl (lv_room (Nat.le_of_ble_eq_true rfl)) d_Rn_readPiece_229 ⟨Nat.zero_le _, Nat.zero_le _⟩) hS (fun r119 M120 H locs q121 hP hS => ?_)
            obtain ⟨hI, fq121, q121p⟩ := q121
            have hF := fr_call hF fq121 (fun a b q => by unfold tV at q; unfold tP; omega)
            exact W.iret (v := r119) hx hb hr (fun t ht hW => ⟨⟨r119, M120, rfl, ⟨hI, hF, trivial⟩, by unfold ux_E; rw [ht]; exact hP⟩, hS.F ht⟩) hS.2.2 d_Rn_readPiece_232
      · have g93 : ch.toInt = 36 := congrArg Int32.toInt h93
        refine lv_iload hx hb d_Rn_readPiece_124 (lv_at hl 0 rfl) ?_
        refine ux_calli (va_runSN ⟨hx, hb, hml, hown, hts⟩ (s_PS_isVariable l D ad cA M hI (M 1 ((M (53 + 7 * d) 5).toNatClampNeg))) ⟨va_cnB 1 hts (tb_good _ _ kt_PS_isVariable) rfl rfl rfl (hN _ nm_Rn_152) (hT _ ii_PS) (by decide +kernel) ⟨show 0 + 1 ≤ (12 + 8 * ee + 1) by omega, show 8 + (1 + 11) + (0) ≤ (600 + 300 * ee + 28) by omega⟩, hT _ sm_PS_isVariable, trivial⟩ (ux_pre hP hK hi hN) rfl rfl hl.1 rfl (lv_room (Nat.le_of_ble_eq_true rfl)) d_Rn_readPiece_126 ⟨Nat.zero_le _, Nat.zero_le _⟩) hS (fun r122 M123 H locs q124 hP hS => ?_)
        obtain ⟨hI, fq124, q124p⟩ := q124
        rw [tN_eq fq124] at hP hI
        subst q124p
        have b125 := isv_b (M 1 ((M (53 + 7 * d) 5).toNatClampNeg))
        refine lv_if_eq hx hb d_Rn_readPiece_129 rfl (fun h126 => ?_) (fun h126 => ?_)
        · have g126 : (isv (M 1 ((M (53 + 7 * d) 5).toNatClampNeg))).toInt = 0 := congrArg Int32.toInt h126
          refine lv_iload_n hx hb d_Rn_readPiece_210 rfl (lv_at hl 4 rfl) ?_
          refine lv_bipush (v := 92) hx hb d_Rn_readPiece_211 (by decide) ?_
          refine lv_icmp_ne hx hb d_Rn_readPiece_213 rfl (fun h127 => ?_) (fun h127 => ?_)
          · have g127 : ¬ (ch.toInt = 92) := fun q => h127 (Int32.toInt_inj.mp q)
            refine lv_aload_n hx hb d_Rn_readPiece_270 rfl (lv_at hl 2 rfl) ?_
            refine ux_getN (C := R_Lv) (T := F_Lv) (N := 10) hx hb hT in_Lv hown hK hP (lk 53 (by decide) hd) (L53 hd) rfl 0 (by decide) (hN _ nf_Rn_145) rfl d_Rn_readPiece_271 ?_
            refine lv_aload_n hx hb d_Rn_readPiece_274 rfl (lv_at hl 2 rfl) ?_
            refine ux_getN (C := R_Lv) (T := F_Lv) (N := 10) hx hb hT in_Lv hown hK hP (lk 53 (by decide) hd) (L53 hd) rfl 4 (by decide) (hN _ nf_Rn_83) rfl d_Rn_readPiece_275 ?_
            have b128 := iv0 (M := M) (a := 53 + 7 * d) (b := 4) hI (by unfold p0; omega)
            have b129 := iv8 (M := M) (a := 53 + 7 * d) (b := 4) hI (by unfold p8; omega)
            refine lv_iload_n hx hb d_Rn_readPiece_278 rfl (lv_at hl 4 rfl) ?_
            refine ux_calli (va_runV ⟨hx, hb, hml, hown, hts⟩ (s_Vl_append l D ad cA M hI (54 + 7 * d) (55 + 7 * d) (56 + 7 * d) 8 (vV_lv hd) (M (53 + 7 * d) 4) ch) (cwV 2 hts (tb_goodV ml_Rn_94 im_Vl_append se_Vl_append ii_Vl kt_Vl_append) rfl rfl rfl (by decide +kernel) ⟨show 0 + 1 ≤ (12 + 8 * ee + 1) by omega, show 8 + (3 + 11) + (0) ≤ (600 + 300 * ee + 28) by omega⟩) (ux_preV (lk 54 (by decide) hd) (L54 hd) rfl hP hK hi hN) rfl rfl hl.1 rfl (lv_room (Nat.le_of_ble_eq_true rfl)) d_Rn_readPiece_279 ⟨Nat.zero_le _, Nat.zero_le _⟩) hS (fun r130 M131 H locs q132 hP hS => ?_)
            obtain ⟨hI, fq132, q132p⟩ := q132
            have hF := fr_call hF fq132 (fun a b q => by unfold tV at q; unfold tP; omega)
            refine lv_if_eq hx hb d_Rn_readPiece_282 rfl (fun h133 => ?_) (fun h133 => ?_)
            · have g133 : r130.toInt = 0 := congrArg Int32.toInt h133
              refine lv_aload_n hx hb d_Rn_readPiece_289 rfl (lv_at hl 1 rfl) ?_
              refine lv_bipush (v := 7) hx hb d_Rn_readPiece_290 (by decide) ?_
              refine ux_calli (va_runV ⟨hx, hb, hml, hown, hts⟩ (s_Rn_fail l D ad cA M131 hI 7) (cwV 1 hts (tb_goodV ml_Rn_64 im_Rn_fail se_Rn_fail ii_Rn kt_Rn_fail) rfl rfl rfl (by decide +kernel) ⟨show 1 + 1 ≤ (12 + 8 * ee + 1) by omega, show 8 + (2 + 11) + (22) ≤ (600 + 300 * ee + 28) by omega⟩) (ux_preV (by decide) rfl rfl hP hK hi hN) rfl rfl hl.1 rfl (lv_room (Nat.le_of_ble_eq_true rfl)) d_Rn_readPiece_292 ⟨Nat.zero_le _, Nat.zero_le _⟩) hS (fun r134 M135 H locs q136 hP hS => ?_)
              obtain ⟨hI, fq136, q136p⟩ := q136
              have hF := fr_call hF fq136 (fun a b q => by unfold tV at q; unfold tP; omega)
              exact W.iret (v := r134) hx hb hr (fun t ht hW => ⟨⟨r134, M135, rfl, ⟨hI, hF, trivial⟩, by unfold ux_E; rw [ht]; exact hP⟩, hS.F ht⟩) hS.2.2 d_Rn_readPiece_295
            · have g133 : ¬ (r130.toInt = 0) := fun q => h133 (Int32.toInt_inj.mp q)
              refine lv_iconst (v := 0) hx hb d_Rn_readPiece_285 (by decide) ?_
              refine lv_goto hx hb d_Rn_readPiece_286 rfl ?_
              exact W.iret (v := 0) hx hb hr (fun t ht hW => ⟨⟨0, M131, rfl, ⟨hI, hF, trivial⟩, by unfold ux_E; rw [ht]; exact hP⟩, hS.F ht⟩) hS.2.2 d_Rn_readPiece_295
          · have g127 : ch.toInt = 92 := congrArg Int32.toInt h127
            refine lv_aload_n hx hb d_Rn_readPiece_216 rfl (lv_at hl 2 rfl) ?_
            refine ux_getN (C := R_Lv) (T := F_Lv) (N := 10) hx hb hT in_Lv hown hK hP (lk 53 (by decide) hd) (L53 hd) rfl 5 (by decide) (hN _ nf_Rn_101) rfl d_Rn_readPiece_217 ?_
            have b137 := iv0 (M := M) (a := 53 + 7 * d) (b := 5) hI (by unfold p0; omega)
            refine lv_aload_n hx hb d_Rn_readPiece_220 rfl (lv_at hl 2 rfl) ?_
            refine ux_getN (C := R_Lv) (T := F_Lv) (N := 10) hx hb hT in_Lv hown hK hP (lk 53 (by decide) hd) (L53 hd) rfl 6 (by decide) (hN _ nf_Rn_104) rfl d_Rn_readPiece_221 ?_
            have b138 := iv200 (M := M) (a := 53 + 7 * d) (b := 6) hI (by unfold p200; omega)
            refine lv_icmp_lt hx hb d_Rn_readPiece_224 rfl (fun h139 => ?_) (fun h139 => ?_)
            · have g139 : (M (53 + 7 * d) 5).toInt < (M (53 + 7 * d) 6).toInt := Int32.lt_iff_toInt_lt.mp h139
              have u139 := ti_hi (M (53 + 7 * d) 6)
              have w139 := ti_lo (M (53 + 7 * d) 5)
              refine lv_aload_n hx hb d_Rn_readPiece_233 rfl (lv_at hl 2 rfl) ?_
              refine lv_dup hx hb d_Rn_readPiece_234 rfl ?_
              refine ux_getN (C := R_Lv) (T := F_Lv) (N := 10) hx hb hT in_Lv hown hK hP (lk 53 (by decide) hd) (L53 hd) rfl 5 (by decide) (hN _ nf_Rn_101) rfl d_Rn_readPiece_235 ?_
              have b140 := iv0 (M := M) (a := 53 + 7 * d) (b := 5) hI (by unfold p0; omega)
              refine lv_iconst (v := 1) hx hb d_Rn_readPiece_238 (by decide) ?_
              refine lv_iadd hx hb d_Rn_readPiece_239 ?_
              refine lv_topi (fun x141 ex141 => ?_)
              try have fx141 : x141.toInt = (M (53 + 7 * d) 5).toInt + 1 := by rw [ex141]; exact ti_add (by (try rw [show (1 : Int32).toInt = 1 from rfl]); omega) (by (try rw [show (1 : Int32).toInt = 1 from rfl]); omega)
              refine ux_putN (C := R_Lv) (T := F_Lv) (N := 10) hx hb hT in_Lv t_Lv t_Lv_ok n_Lv hown hK hi hP hS (lk 53 (by decide) hd) (L53 hd) rfl 5 (by decide) (hN _ nf_Rn_101) rfl (rfl) (rfl) rfl d_Rn_readPiece_240 (fun H locs hP hS => ?_)
              have hI := IvX_wr (k := 53 + 7 * d) (j := 5) (v := x141) hI (fun q => by unfold p0 at q; omega) (fun q => by unfold p8 at q; omega) (fun q => by unfold p20 at q; omega) (fun q => by unfold p40 at q; omega) (fun q => by unfold p200 at q; omega) (fun q => by unfold pch at q; omega)
              have hF := fr_wr (k := 53 + 7 * d) (j := 5) (v := x141) hF (by unfold tP; omega)
              generalize eM142 : ux_wr M (53 + 7 * d) 5 x141 = M142 at hP hI hF
              refine lv_aload_n hx hb d_Rn_readPiece_243 rfl (lv_at hl 2 rfl) ?_
              refine ux_getN (C := R_Lv) (T := F_Lv) (N := 10) hx hb hT in_Lv hown hK hP (lk 53 (by decide) hd) (L53 hd) rfl 0 (by decide) (hN _ nf_Rn_145) rfl d_Rn_readPiece_244 ?_
              refine lv_aload_n hx hb d_Rn_readPiece_247 rfl (lv_at hl 2 rfl) ?_
              refine ux_getN (C := R_Lv) (T := F_Lv) (N := 10) hx hb hT in_Lv hown hK hP (lk 53 (by decide) hd) (L53 hd) rfl 4 (by decide) (hN _ nf_Rn_83) rfl d_Rn_readPiece_248 ?_
              have b143 := iv0 (M := M142) (a := 53 + 7 * d) (b := 4) hI (by unfold p0; omega)
              have b144 := iv8 (M := M142) (a := 53 + 7 * d) (b := 4) hI (by unfold p8; omega)
              refine lv_iload hx hb d_Rn_readPiece_251 (lv_at hl 0 rfl) ?_
              refine ux_calli (va_runV ⟨hx, hb, hml, hown, hts⟩ (s_Vl_append l D ad cA M142 hI (54 + 7 * d) (55 + 7 * d) (56 + 7 * d) 8 (vV_lv hd) (M142 (53 + 7 * d) 4) (M 1 ((M (53 + 7 * d) 5).toNatClampNeg))) (cwV 2 hts (tb_goodV ml_Rn_94 im_Vl_append se_Vl_append ii_Vl kt_Vl_append) rfl rfl rfl (by decide +kernel) ⟨show 0 + 1 ≤ (12 + 8 * ee + 1) by omega, show 8 + (3 + 11) + (0) ≤ (600 + 300 * ee + 28) by omega⟩) (ux_preV (lk 54 (by decide) hd) (L54 hd) rfl hP hK hi hN) rfl rfl hl.1 rfl (lv_room (Nat.le_of_ble_eq_true rfl)) d_Rn_readPiece_253 ⟨Nat.zero_le _, Nat.zero_le _⟩) hS (fun r145 M146 H locs q147 hP hS => ?_)
              obtain ⟨hI, fq147, q147p⟩ := q147
              have hF := fr_call hF fq147 (fun a b q => by unfold tV at q; unfold tP; omega)
              refine lv_if_eq hx hb d_Rn_readPiece_256 rfl (fun h148 => ?_) (fun h148 => ?_)
              · have g148 : r145.toInt = 0 := congrArg Int32.toInt h148
                refine lv_aload_n hx hb d_Rn_readPiece_263 rfl (lv_at hl 1 rfl) ?_
                refine lv_bipush (v := 7) hx hb d_Rn_readPiece_264 (by decide) ?_
                refine ux_calli (va_runV ⟨hx, hb, hml, hown, hts⟩ (s_Rn_fail l D ad cA M146 hI 7) (cwV 1 hts (tb_goodV ml_Rn_64 im_Rn_fail se_Rn_fail ii_Rn kt_Rn_fail) rfl rfl rfl (by decide +kernel) ⟨show 1 + 1 ≤ (12 + 8 * ee + 1) by omega, show 8 + (2 + 11) + (22) ≤ (600 + 300 * ee + 28) by omega⟩) (ux_preV (by decide) rfl rfl hP hK hi hN) rfl rfl hl.1 rfl (lv_room (Nat.le_of_ble_eq_true rfl)) d_Rn_readPiece_266 ⟨Nat.zero_le _, Nat.zero_le _⟩) hS (fun r149 M150 H locs q151 hP hS => ?_)
                obtain ⟨hI, fq151, q151p⟩ := q151
                have hF := fr_call hF fq151 (fun a b q => by unfold tV at q; unfold tP; omega)
                exact W.iret (v := r149) hx hb hr (fun t ht hW => ⟨⟨r149, M150, rfl, ⟨hI, hF, trivial⟩, by unfold ux_E; rw [ht]; exact hP⟩, hS.F ht⟩) hS.2.2 d_Rn_readPiece_269
              · have g148 : ¬ (r145.toInt = 0) := fun q => h148 (Int32.toInt_inj.mp q)
                refine lv_iconst (v := 0) hx hb d_Rn_readPiece_259 (by decide) ?_
                refine lv_goto hx hb d_Rn_readPiece_260 rfl ?_
                exact W.iret (v := 0) hx hb hr (fun t ht hW => ⟨⟨0, M146, rfl, ⟨hI, hF, trivial⟩, by unfold ux_E; rw [ht]; exact hP⟩, hS.F ht⟩) hS.2.2 d_Rn_readPiece_269
            · have g139 : ¬ ((M (53 + 7 * d) 5).toInt < (M (53 + 7 * d) 6).toInt) := fun q => h139 (Int32.lt_iff_toInt_lt.mpr q)
              have u139 := ti_hi (M (53 + 7 * d) 5)
              have w139 := ti_lo (M (53 + 7 * d) 6)
              refine lv_aload_n hx hb d_Rn_readPiece_227 rfl (lv_at hl 1 rfl) ?_
              refine lv_iconst (v := 1) hx hb d_Rn_readPiece_228 (by decide) ?_
              refine ux_calli (va_runV ⟨hx, hb, hml, hown, hts⟩ (s_Rn_fail l D ad cA M hI 1) (cwV 1 hts (tb_goodV ml_Rn_64 im_Rn_fail se_Rn_fail ii_Rn kt_Rn_fail) rfl rfl rfl (by decide +kernel) ⟨show 1 + 1 ≤ (12 + 8 * ee + 1) by omega, show 8 + (2 + 11) + (22) ≤ (600 + 300 * ee + 28) by omega⟩) (ux_preV (by decide) rfl rfl hP hK hi hN) rfl rfl hl.1 rfl (lv_room (Nat.le_of_ble_eq_true rfl)) d_Rn_readPiece_229 ⟨Nat.zero_le _, Nat.zero_le _⟩) hS (fun r152 M153 H locs q154 hP hS => ?_)
              obtain ⟨hI, fq154, q154p⟩ := q154
              have hF := fr_call hF fq154 (fun a b q => by unfold tV at q; unfold tP; omega)
              exact W.iret (v := r152) hx hb hr (fun t ht hW => ⟨⟨r152, M153, rfl, ⟨hI, hF, trivial⟩, by unfold ux_E; rw [ht]; exact hP⟩, hS.F ht⟩) hS.2.2 d_Rn_readPiece_232
        · have g126 : ¬ ((isv (M 1 ((M (53 + 7 * d) 5).toNatClampNeg))).toInt = 0) := fun q => h126 (Int32.toInt_inj.mp q)
          have hv97 := isv_1 (by assumption)
          refine lv_aload_n hx hb d_Rn_readPiece_132 rfl (lv_at hl 2 rfl) ?_
          refine lv_dup hx hb d_Rn_readPiece_133 rfl ?_
          refine ux_getN (C := R_Lv) (T := F_Lv) (N := 10) hx hb hT in_Lv hown hK hP (lk 53 (by decide) hd) (L53 hd) rfl 5 (by decide) (hN _ nf_Rn_101) rfl d_Rn_readPiece_134 ?_
          have b155 := iv0 (M := M) (a := 53 + 7 * d) (b := 5) hI (by unfold p0; omega)
          refine lv_iconst (v := 1) hx hb d_Rn_readPiece_137 (by decide) ?_
          refine lv_iadd hx hb d_Rn_readPiece_138 ?_
          refine lv_topi (fun x156 ex156 => ?_)
          try have fx156 : x156.toInt = (M (53 + 7 * d) 5).toInt + 1 := by rw [ex156]; exact ti_add (by (try rw [show (1 : Int32).toInt = 1 from rfl]); omega) (by (try rw [show (1 : Int32).toInt = 1 from rfl]); omega)
          refine ux_putN (C := R_Lv) (T := F_Lv) (N := 10) hx hb hT in_Lv t_Lv t_Lv_ok n_Lv hown hK hi hP hS (lk 53 (by decide) hd) (L53 hd) rfl 5 (by decide) (hN _ nf_Rn_101) rfl (rfl) (rfl) rfl d_Rn_readPiece_139 (fun H locs hP hS => ?_)
          have hI := IvX_wr (k := 53 + 7 * d) (j := 5) (v := x156) hI (fun q => by unfold p0 at q; omega) (fun q => by unfold p8 at q; omega) (fun q => by unfold p20 at q; omega) (fun q => by unfold p40 at q; omega) (fun q => by unfold p200 at q; omega) (fun q => by unfold pch at q; omega)
          have hF := fr_wr (k := 53 + 7 * d) (j := 5) (v := x156) hF (by unfold tP; omega)
          generalize eM157 : ux_wr M (53 + 7 * d) 5 x156 = M157 at hP hI hF
          refine lv_iload hx hb d_Rn_readPiece_142 (lv_at hl 0 rfl) ?_
          refine lv_bipush (v := 97) hx hb d_Rn_readPiece_144 (by decide) ?_
          refine lv_isub hx hb d_Rn_readPiece_146 ?_
          refine lv_topi (fun x158 ex158 => ?_)
          try have fx158 : x158.toInt = (M 1 ((M (53 + 7 * d) 5).toNatClampNeg)).toInt - 97 := by rw [ex158]; exact ti_sub (by (try rw [show (97 : Int32).toInt = 97 from rfl]); omega) (by (try rw [show (97 : Int32).toInt = 97 from rfl]); omega)
          refine lv_istore hx hb d_Rn_readPiece_147 hl (by decide) rfl (fun ls hl => ?_)
          have hl : lv_has ls 7 [(5, .int x158), (4, .int (M 1 ((M (53 + 7 * d) 5).toNatClampNeg))), (0, .ref (ad 13)), (1, .ref (ad (53 + 7 * d))), (2, .int (nI d)), (3, .int ch)] := hl
          refine lv_aload_n hx hb d_Rn_readPiece_149 rfl (lv_at hl 2 rfl) ?_
          refine ux_get (C := R_Rn) (T := F_Rn) (N := 9) hx hb hT in_Rn hown hK hP (by decide) rfl rfl 2 (by decide) (hT _ fl_Rn_12) rfl d_Rn_readPiece_150 ?_
          refine lv_aload_n hx hb d_Rn_readPiece_153 rfl (lv_at hl 3 rfl) ?_
          refine ux_getN (C := R_Lv) (T := F_Lv) (N := 10) hx hb hT in_Lv hown hK hP (lk 53 (by decide) hd) (L53 hd) rfl 7 (by decide) (hN _ nf_Rn_138) rfl d_Rn_readPiece_154 ?_
          refine lv_iload hx hb d_Rn_readPiece_157 (lv_at hl 0 rfl) ?_
          refine ux_callr (va_runV ⟨hx, hb, hml, hown, hts⟩ (c_Vs_meant l D ad cA M157 (M157 (53 + 7 * d) 7) x158) (cwV 2 hts (tb_goodV ml_Rn_156 im_Vs_meant se_Vs_meant ii_Vs kt_Vs_meant) rfl rfl rfl (by decide +kernel) ⟨show 1 + 1 ≤ (12 + 8 * ee + 1) by omega, show 8 + (3 + 11) + (21) ≤ (600 + 300 * ee + 28) by omega⟩) (ux_preV (by decide) rfl rfl hP hK hi hN) rfl rfl hl.1 rfl (lv_room (Nat.le_of_ble_eq_true rfl)) d_Rn_readPiece_159 ⟨Nat.zero_le _, Nat.zero_le _⟩) hS (fun M160 H locs q161 hP hS => ?_)
          rw [q161] at hP
          obtain ⟨v162, hv162, ev162⟩ := vme_in M157 (M157 (53 + 7 * d) 7) x158
          rw [ev162]
          refine lv_astore hx hb d_Rn_readPiece_162 hl (by decide) rfl (fun ls hl => ?_)
          have hl : lv_has ls 7 [(6, .ref (ad (18 + 3 * v162))), (5, .int x158), (4, .int (M 1 ((M (53 + 7 * d) 5).toNatClampNeg))), (0, .ref (ad 13)), (1, .ref (ad (53 + 7 * d))), (2, .int (nI d)), (3, .int ch)] := hl
          refine lv_aload hx hb d_Rn_readPiece_164 (lv_at hl 0 rfl) ?_
          refine lv_iload hx hb d_Rn_readPiece_166 (lv_at hl 1 rfl) ?_
          refine ux_calli (va_runV ⟨hx, hb, hml, hown, hts⟩ (c_Vl_sizeOf l D shX KX ad cA M157 (18 + 3 * v162) (19 + 3 * v162) (20 + 3 * v162) 26 (VF_fr hv162) x158) (cwV 1 hts (tb_goodV ml_Rn_160 im_Vl_sizeOf se_Vl_sizeOf ii_Vl kt_Vl_sizeOf) rfl rfl rfl (by decide +kernel) ⟨show 0 + 1 ≤ (12 + 8 * ee + 1) by omega, show 8 + (2 + 11) + (0) ≤ (600 + 300 * ee + 28) by omega⟩) (ux_preV (fk 18 (by decide) hv162) (F18 hv162) rfl hP hK hi hN) rfl rfl hl.1 rfl (lv_room (Nat.le_of_ble_eq_true rfl)) d_Rn_readPiece_168 ⟨Nat.zero_le _, Nat.zero_le _⟩) hS (fun r163 M164 H locs q165 hP hS => ?_)
          obtain ⟨q165m, q165e⟩ := q165
          rw [q165m] at hP
          subst q165e
          refine lv_iconst (v := (-1)) hx hb d_Rn_readPiece_171 (by decide) ?_
          refine lv_icmp_ne hx hb d_Rn_readPiece_172 rfl (fun h166 => ?_) (fun h166 => ?_)
          · have g166 : ¬ ((vz M157 (20 + 3 * v162) 26 x158).toInt = (-1)) := fun q => h166 (Int32.toInt_inj.mp q)
            refine lv_aload_n hx hb d_Rn_readPiece_181 rfl (lv_at hl 4 rfl) ?_
            refine ux_getN (C := R_Lv) (T := F_Lv) (N := 10) hx hb hT in_Lv hown hK hP (lk 53 (by decide) hd) (L53 hd) rfl 0 (by decide) (hN _ nf_Rn_145) rfl d_Rn_readPiece_182 ?_
            refine lv_aload_n hx hb d_Rn_readPiece_185 rfl (lv_at hl 4 rfl) ?_
            refine ux_getN (C := R_Lv) (T := F_Lv) (N := 10) hx hb hT in_Lv hown hK hP (lk 53 (by decide) hd) (L53 hd) rfl 4 (by decide) (hN _ nf_Rn_83) rfl d_Rn_readPiece_186 ?_
            have b167 := iv0 (M := M157) (a := 53 + 7 * d) (b := 4) hI (by unfold p0; omega)
            have b168 := iv8 (M := M157) (a := 53 + 7 * d) (b := 4) hI (by unfold p8; omega)
            refine lv_aload hx hb d_Rn_readPiece_189 (lv_at hl 0 rfl) ?_
            refine lv_iload hx hb d_Rn_readPiece_191 (lv_at hl 1 rfl) ?_
            refine ux_calli (va_runV ⟨hx, hb, hml, hown, hts⟩ (s_Vl_appendValue l D ad cA M157 hI (54 + 7 * d) (55 + 7 * d) (56 + 7 * d) 8 (vV_lv hd) (18 + 3 * v162) (19 + 3 * v162) (20 + 3 * v162) 26 (vV_fr hv162) (M157 (53 + 7 * d) 4) x158) (cwV 3 hts (tb_goodV ml_Rn_148 im_Vl_appendValue se_Vl_appendValue ii_Vl kt_Vl_appendValue) rfl rfl rfl (by decide +kernel) ⟨show 1 + 1 ≤ (12 + 8 * ee + 1) by omega, show 8 + (7 + 11) + (22) ≤ (600 + 300 * ee + 28) by omega⟩) (ux_preV (lk 54 (by decide) hd) (L54 hd) rfl hP hK hi hN) rfl rfl hl.1 rfl (lv_room (Nat.le_of_ble_eq_true rfl)) d_Rn_readPiece_193 ⟨Nat.zero_le _, Nat.zero_le _⟩) hS (fun r169 M170 H locs q171 hP hS => ?_)
            obtain ⟨hI, fq171, q171p⟩ := q171
            have hF := fr_call hF fq171 (fun a b q => by unfold tV at q; unfold tP; omega)
            refine lv_if_eq hx hb d_Rn_readPiece_196 rfl (fun h172 => ?_) (fun h172 => ?_)
            · have g172 : r169.toInt = 0 := congrArg Int32.toInt h172
              refine lv_aload_n hx hb d_Rn_readPiece_203 rfl (lv_at hl 3 rfl) ?_
              refine lv_bipush (v := 7) hx hb d_Rn_readPiece_204 (by decide) ?_
              refine ux_calli (va_runV ⟨hx, hb, hml, hown, hts⟩ (s_Rn_fail l D ad cA M170 hI 7) (cwV 1 hts (tb_goodV ml_Rn_64 im_Rn_fail se_Rn_fail ii_Rn kt_Rn_fail) rfl rfl rfl (by decide +kernel) ⟨show 1 + 1 ≤ (12 + 8 * ee + 1) by omega, show 8 + (2 + 11) + (22) ≤ (600 + 300 * ee + 28) by omega⟩) (ux_preV (by decide) rfl rfl hP hK hi hN) rfl rfl hl.1 rfl (lv_room (Nat.le_of_ble_eq_true rfl)) d_Rn_readPiece_206 ⟨Nat.zero_le _, Nat.zero_le _⟩) hS (fun r173 M174 H locs q175 hP hS => ?_)
              obtain ⟨hI, fq175, q175p⟩ := q175
              have hF := fr_call hF fq175 (fun a b q => by unfold tV at q; unfold tP; omega)
              exact W.iret (v := r173) hx hb hr (fun t ht hW => ⟨⟨r173, M174, rfl, ⟨hI, hF, trivial⟩, by unfold ux_E; rw [ht]; exact hP⟩, hS.F ht⟩) hS.2.2 d_Rn_readPiece_209
            · have g172 : ¬ (r169.toInt = 0) := fun q => h172 (Int32.toInt_inj.mp q)
              refine lv_iconst (v := 0) hx hb d_Rn_readPiece_199 (by decide) ?_
              refine lv_goto hx hb d_Rn_readPiece_200 rfl ?_
              exact W.iret (v := 0) hx hb hr (fun t ht hW => ⟨⟨0, M170, rfl, ⟨hI, hF, trivial⟩, by unfold ux_E; rw [ht]; exact hP⟩, hS.F ht⟩) hS.2.2 d_Rn_readPiece_209
          · have g166 : (vz M157 (20 + 3 * v162) 26 x158).toInt = (-1) := congrArg Int32.toInt h166
            refine lv_aload_n hx hb d_Rn_readPiece_175 rfl (lv_at hl 3 rfl) ?_
            refine lv_iconst (v := 4) hx hb d_Rn_readPiece_176 (by decide) ?_
            refine ux_calli (va_runV ⟨hx, hb, hml, hown, hts⟩ (s_Rn_fail l D ad cA M157 hI 4) (cwV 1 hts (tb_goodV ml_Rn_64 im_Rn_fail se_Rn_fail ii_Rn kt_Rn_fail) rfl rfl rfl (by decide +kernel) ⟨show 1 + 1 ≤ (12 + 8 * ee + 1) by omega, show 8 + (2 + 11) + (22) ≤ (600 + 300 * ee + 28) by omega⟩) (ux_preV (by decide) rfl rfl hP hK hi hN) rfl rfl hl.1 rfl (lv_room (Nat.le_of_ble_eq_true rfl)) d_Rn_readPiece_177 ⟨Nat.zero_le _, Nat.zero_le _⟩) hS (fun r176 M177 H locs q178 hP hS => ?_)
            obtain ⟨hI, fq178, q178p⟩ := q178
            have hF := fr_call hF fq178 (fun a b q => by unfold tV at q; unfold tP; omega)
            exact W.iret (v := r176) hx hb hr (fun t ht hW => ⟨⟨r176, M177, rfl, ⟨hI, hF, trivial⟩, by unfold ux_E; rw [ht]; exact hP⟩, hS.F ht⟩) hS.2.2 d_Rn_readPiece_180
    · have g92 : ch.toInt = 91 := congrArg Int32.toInt h92
      refine lv_aload_n hx hb d_Rn_readPiece_35 rfl (lv_at hl 1 rfl) ?_
      refine lv_aload_n hx hb d_Rn_readPiece_36 rfl (lv_at hl 2 rfl) ?_
      refine ux_getN (C := R_Lv) (T := F_Lv) (N := 10) hx hb hT in_Lv hown hK hP (lk 53 (by decide) hd) (L53 hd) rfl 5 (by decide) (hN _ nf_Rn_101) rfl d_Rn_readPiece_37 ?_
      have b179 := iv0 (M := M) (a := 53 + 7 * d) (b := 5) hI (by unfold p0; omega)
      refine lv_aload_n hx hb d_Rn_readPiece_40 rfl (lv_at hl 2 rfl) ?_
      refine ux_getN (C := R_Lv) (T := F_Lv) (N := 10) hx hb hT in_Lv hown hK hP (lk 53 (by decide) hd) (L53 hd) rfl 6 (by decide) (hN _ nf_Rn_104) rfl d_Rn_readPiece_41 ?_
      have b180 := iv200 (M := M) (a := 53 + 7 * d) (b := 6) hI (by unfold p200; omega)
      refine lv_aload_n hx hb d_Rn_readPiece_44 rfl (lv_at hl 2 rfl) ?_
      refine ux_getN (C := R_Lv) (T := F_Lv) (N := 10) hx hb hT in_Lv hown hK hP (lk 53 (by decide) hd) (L53 hd) rfl 7 (by decide) (hN _ nf_Rn_138) rfl d_Rn_readPiece_45 ?_
      refine lv_iload_n hx hb d_Rn_readPiece_48 rfl (lv_at hl 3 rfl) ?_
      refine lv_iconst (v := 1) hx hb d_Rn_readPiece_49 (by decide) ?_
      refine lv_iadd hx hb d_Rn_readPiece_50 ?_
      refine lv_topi (fun z181 hz181 => ?_)
      rw [nI_1 d] at hz181
      rw [hz181]
      have b182 : (nI (d + 1)).toInt = ((d + 1 : Nat) : Int) := nI_toInt (by omega)
      refine lv_iconst (v := 1) hx hb d_Rn_readPiece_51 (by decide) ?_
      refine ux_calli (va_runV ⟨hx, hb, hml, hown, hts⟩ (hrec M hI (M (53 + 7 * d) 5) (M (53 + 7 * d) 6) (M (53 + 7 * d) 7) 1 (by first | assumption | exact Or.inl rfl | exact Or.inr rfl)) (cwV 5 hts (tb_goodV ml_Rn_141 im_Rn_runScript se_Rn_runScript ii_Rn kt_Rn_runScript) rfl rfl rfl (by decide +kernel) ⟨show (12 + 8 * ee) + 1 ≤ (12 + 8 * ee + 1) by omega, show 8 + (9 + 11) + ((600 + 300 * ee)) ≤ (600 + 300 * ee + 28) by omega⟩) (ux_preVZ (by decide) rfl rfl hP hK hi hN hZ hS) rfl rfl hl.1 rfl (lv_room (Nat.le_of_ble_eq_true rfl)) d_Rn_readPiece_52 ⟨Nat.zero_le _, Nat.zero_le _⟩) hS (fun r183 M184 H locs q185 hP hS => ?_)
      obtain ⟨hI, fq185, q185p⟩ := q185
      have hF := fr_call hF fq185 (fun a b q => by unfold tR at q; unfold tP; omega)
      refine lv_istore hx hb d_Rn_readPiece_55 hl (by decide) rfl (fun ls hl => ?_)
      have hl : lv_has ls 7 [(5, .int r183), (4, .int (M 1 ((M (53 + 7 * d) 5).toNatClampNeg))), (0, .ref (ad 13)), (1, .ref (ad (53 + 7 * d))), (2, .int (nI d)), (3, .int ch)] := hl
      refine lv_iload hx hb d_Rn_readPiece_57 (lv_at hl 0 rfl) ?_
      refine lv_if_ne hx hb d_Rn_readPiece_59 rfl (fun h186 => ?_) (fun h186 => ?_)
      · have g186 : ¬ (r183.toInt = 0) := fun q => h186 (Int32.toInt_inj.mp q)
        refine lv_iload hx hb d_Rn_readPiece_70 (lv_at hl 0 rfl) ?_
        exact W.iret (v := r183) hx hb hr (fun t ht hW => ⟨⟨r183, M184, rfl, ⟨hI, hF, trivial⟩, by unfold ux_E; rw [ht]; exact hP⟩, hS.F ht⟩) hS.2.2 d_Rn_readPiece_72
      · have g186 : r183.toInt = 0 := congrArg Int32.toInt h186
        refine lv_iload_n hx hb d_Rn_readPiece_62 rfl (lv_at hl 4 rfl) ?_
        refine lv_iconst (v := 1) hx hb d_Rn_readPiece_63 (by decide) ?_
        refine lv_iadd hx hb d_Rn_readPiece_64 ?_
        refine lv_topi (fun z187 hz187 => ?_)
        rw [nI_1 d] at hz187
        rw [hz187]
        have b188 : (nI (d + 1)).toInt = ((d + 1 : Nat) : Int) := nI_toInt (by omega)
        refine lv_bipush (v := 8) hx hb d_Rn_readPiece_65 (by decide) ?_
        refine lv_icmp_lt hx hb d_Rn_readPiece_67 rfl (fun h189 => ?_) (fun h189 => ?_)
        · have g189 : (nI (d + 1)).toInt < 8 := Int32.lt_iff_toInt_lt.mp h189
          have w189 := ti_lo (nI (d + 1))
          have hd1 : d + 1 < 8 := by omega
          refine lv_aload_n hx hb d_Rn_readPiece_73 rfl (lv_at hl 3 rfl) ?_
          refine lv_aload_n hx hb d_Rn_readPiece_74 rfl (lv_at hl 2 rfl) ?_
          refine ux_get (C := R_Rn) (T := F_Rn) (N := 9) hx hb hT in_Rn hown hK hP (by decide) rfl rfl 5 (by decide) (hT _ fl_Rn_27) rfl d_Rn_readPiece_75 ?_
          refine lv_iload_n hx hb d_Rn_readPiece_78 rfl (lv_at hl 4 rfl) ?_
          refine lv_iconst (v := 1) hx hb d_Rn_readPiece_79 (by decide) ?_
          refine lv_iadd hx hb d_Rn_readPiece_80 ?_
          refine lv_topi (fun z190 hz190 => ?_)
          rw [nI_1 d] at hz190
          rw [hz190]
          have b191 : (nI (d + 1)).toInt = ((d + 1 : Nat) : Int) := nI_toInt (by omega)
          refine ux_aald hx hb hK hP (by decide) rfl rfl ((vi (show 0 ≤ (nI (d + 1)).toInt by omega) (show (nI (d + 1)).toInt < ((8 : Nat) : Int) by omega))) d_Rn_readPiece_81 ?_
          rw [show gX46 (nI (d + 1)).toNatClampNeg = 60 + 7 * d from gL1 hd1]
          refine ux_getN (C := R_Lv) (T := F_Lv) (N := 10) hx hb hT in_Lv hown hK hP (by show 60 + 7 * d < 109; omega) (L60 hd1) rfl 5 (by decide) (hN _ nf_Rn_101) rfl d_Rn_readPiece_82 ?_
          have b192 := iv0 (M := M184) (a := 60 + 7 * d) (b := 5) hI (by unfold p0; omega)
          refine ux_putN (C := R_Lv) (T := F_Lv) (N := 10) hx hb hT in_Lv t_Lv t_Lv_ok n_Lv hown hK hi hP hS (lk 53 (by decide) hd) (L53 hd) rfl 5 (by decide) (hN _ nf_Rn_101) rfl (rfl) (rfl) rfl d_Rn_readPiece_85 (fun H locs hP hS => ?_)
          have hI := IvX_wr (k := 53 + 7 * d) (j := 5) (v := M184 (60 + 7 * d) 5) hI (fun q => by unfold p0 at q; omega) (fun q => by unfold p8 at q; omega) (fun q => by unfold p20 at q; omega) (fun q => by unfold p40 at q; omega) (fun q => by unfold p200 at q; omega) (fun q => by unfold pch at q; omega)
          have hF := fr_wr (k := 53 + 7 * d) (j := 5) (v := M184 (60 + 7 * d) 5) hF (by unfold tP; omega)
          generalize eM193 : ux_wr M184 (53 + 7 * d) 5 (M184 (60 + 7 * d) 5) = M193 at hP hI hF
          refine lv_aload_n hx hb d_Rn_readPiece_88 rfl (lv_at hl 3 rfl) ?_
          refine ux_getN (C := R_Lv) (T := F_Lv) (N := 10) hx hb hT in_Lv hown hK hP (lk 53 (by decide) hd) (L53 hd) rfl 0 (by decide) (hN _ nf_Rn_145) rfl d_Rn_readPiece_89 ?_
          refine lv_aload_n hx hb d_Rn_readPiece_92 rfl (lv_at hl 3 rfl) ?_
          refine ux_getN (C := R_Lv) (T := F_Lv) (N := 10) hx hb hT in_Lv hown hK hP (lk 53 (by decide) hd) (L53 hd) rfl 4 (by decide) (hN _ nf_Rn_83) rfl d_Rn_readPiece_93 ?_
          have b194 := iv0 (M := M193) (a := 53 + 7 * d) (b := 4) hI (by unfold p0; omega)
          have b195 := iv8 (M := M193) (a := 53 + 7 * d) (b := 4) hI (by unfold p8; omega)
          refine lv_aload_n hx hb d_Rn_readPiece_96 rfl (lv_at hl 2 rfl) ?_
          refine ux_get (C := R_Rn) (T := F_Rn) (N := 9) hx hb hT in_Rn hown hK hP (by decide) rfl rfl 6 (by decide) (hT _ fl_Rn_36) rfl d_Rn_readPiece_97 ?_
          refine lv_iconst (v := 0) hx hb d_Rn_readPiece_100 (by decide) ?_
          refine ux_calli (va_runV ⟨hx, hb, hml, hown, hts⟩ (s_Vl_appendValue l D ad cA M193 hI (54 + 7 * d) (55 + 7 * d) (56 + 7 * d) 8 (vV_lv hd) 47 48 49 1 vV_res (M193 (53 + 7 * d) 4) 0) (cwV 3 hts (tb_goodV ml_Rn_148 im_Vl_appendValue se_Vl_appendValue ii_Vl kt_Vl_appendValue) rfl rfl rfl (by decide +kernel) ⟨show 1 + 1 ≤ (12 + 8 * ee + 1) by omega, show 8 + (7 + 11) + (22) ≤ (600 + 300 * ee + 28) by omega⟩) (ux_preV (lk 54 (by decide) hd) (L54 hd) rfl hP hK hi hN) rfl rfl hl.1 rfl (lv_room (Nat.le_of_ble_eq_true rfl)) d_Rn_readPiece_101 ⟨Nat.zero_le _, Nat.zero_le _⟩) hS (fun r196 M197 H locs q198 hP hS => ?_)
          obtain ⟨hI, fq198, q198p⟩ := q198
          have hF := fr_call hF fq198 (fun a b q => by unfold tV at q; unfold tP; omega)
          refine lv_if_eq hx hb d_Rn_readPiece_104 rfl (fun h199 => ?_) (fun h199 => ?_)
          · have g199 : r196.toInt = 0 := congrArg Int32.toInt h199
            refine lv_aload_n hx hb d_Rn_readPiece_111 rfl (lv_at hl 2 rfl) ?_
            refine lv_bipush (v := 7) hx hb d_Rn_readPiece_112 (by decide) ?_
            refine ux_calli (va_runV ⟨hx, hb, hml, hown, hts⟩ (s_Rn_fail l D ad cA M197 hI 7) (cwV 1 hts (tb_goodV ml_Rn_64 im_Rn_fail se_Rn_fail ii_Rn kt_Rn_fail) rfl rfl rfl (by decide +kernel) ⟨show 1 + 1 ≤ (12 + 8 * ee + 1) by omega, show 8 + (2 + 11) + (22) ≤ (600 + 300 * ee + 28) by omega⟩) (ux_preV (by decide) rfl rfl hP hK hi hN) rfl rfl hl.1 rfl (lv_room (Nat.le_of_ble_eq_true rfl)) d_Rn_readPiece_114 ⟨Nat.zero_le _, Nat.zero_le _⟩) hS (fun r200 M201 H locs q202 hP hS => ?_)
            obtain ⟨hI, fq202, q202p⟩ := q202
            have hF := fr_call hF fq202 (fun a b q => by unfold tV at q; unfold tP; omega)
            exact W.iret (v := r200) hx hb hr (fun t ht hW => ⟨⟨r200, M201, rfl, ⟨hI, hF, trivial⟩, by unfold ux_E; rw [ht]; exact hP⟩, hS.F ht⟩) hS.2.2 d_Rn_readPiece_117
          · have g199 : ¬ (r196.toInt = 0) := fun q => h199 (Int32.toInt_inj.mp q)
            refine lv_iconst (v := 0) hx hb d_Rn_readPiece_107 (by decide) ?_
            refine lv_goto hx hb d_Rn_readPiece_108 rfl ?_
            exact W.iret (v := 0) hx hb hr (fun t ht hW => ⟨⟨0, M197, rfl, ⟨hI, hF, trivial⟩, by unfold ux_E; rw [ht]; exact hP⟩, hS.F ht⟩) hS.2.2 d_Rn_readPiece_117
        · have g189 : ¬ ((nI (d + 1)).toInt < 8) := fun q => h189 (Int32.lt_iff_toInt_lt.mpr q)
          have u189 := ti_hi (nI (d + 1))
          refine lv_iload hx hb d_Rn_readPiece_70 (lv_at hl 0 rfl) ?_
          exact W.iret (v := r183) hx hb hr (fun t ht hW => ⟨⟨r183, M184, rfl, ⟨hI, hF, trivial⟩, by unfold ux_E; rw [ht]; exact hP⟩, hS.F ht⟩) hS.2.2 d_Rn_readPiece_72

set_option maxHeartbeats 1600000 in
set_option maxRecDepth 100000 in
theorem s_Rn_readPieces (l : Launch) (D : va_G) (ad : Nat → Nat) (cA : Nat → ClassId) (M : ux_M) (hI : IvX M) (adK adV : Nat → Nat) (fm : Value) (d ee : Nat) (hd : d < 8) (hde : d + ee = 7) (hrec : RS l D ad cA adK adV fm (d + 1) ee) (qt : Int32) (hat : (M (53 + 7 * d) 5).toInt ≤ 199) : Met l y_Rn_readPieces w_Rn_readPieces ({ frames := (12 + 8 * ee + 2), cells := 0, slots := 0, locals := (600 + 300 * ee + 54) }) (va_Pc [.ref (ad 13), .ref (ad (53 + 7 * d)), .int (nI d), .int qt] (ux_BZ D ad cA M adK adV fm)) (va_Qi (fun r M1 => IvX M1 ∧ (∀ a b, ¬ (tP d) a b → M1 a b = M a b) ∧ (True)) (ux_E D shX KX ad cA) (ux_A KX ad)) 0 0 (ux_A KX ad) := by
  refine Met.ofW (cc := b_Rn_readPieces) (maxL := 7) (ret := (some .int)) (by decide) rfl ?_
  intro p e s m args below meth c s₁ B hml hv
  obtain ⟨rfl, ⟨hP, hK, hi, hN⟩, hZ⟩ := hv
  have hx := B.exec
  have hb := B.bytes
  have hr := B.returns
  have hts := atoms_spec (ws := w_Rn_readPieces) B.pre
  have hown : s.vm.findClass R_Rn = some m.cls := findClass_of_methodNamed B.named
  have hlocks := B.notSynchronized
  have hT : ∀ w ∈ tb, w.before _ s = true := fun w h => hts w (List.mem_cons_of_mem _ h)
  have hS : va_S (ux_A KX ad) s.heap s.heap [] := va_S.rf
  have hl := lv_entry ([.ref (ad 13), .ref (ad (53 + 7 * d)), .int (nI d), .int qt]) (n := 7) (Nat.le_of_ble_eq_true rfl)
  rw [lg_entry_eq]
  generalize (lg_sl ([.ref (ad 13), .ref (ad (53 + 7 * d)), .int (nI d), .int qt]) ++ List.replicate (7 - (lg_sl ([.ref (ad 13), .ref (ad (53 + 7 * d)), .int (nI d), .int qt])).length) Slot.unset).toArray = ls at hl ⊢
  have hl : lv_has ls 7 [(0, .ref (ad 13)), (1, .ref (ad (53 + 7 * d))), (2, .int (nI d)), (3, .int qt)] := hl
  have hF : ∀ a b, ¬ (tP d) a b → M a b = M a b := fun _ _ _ => rfl
  have hdt : (nI d).toInt = (d : Int) := nI_toInt (by omega)
  have cut17 : ∀ (nn : Nat) (i_4 : Int32) (Mc17 : ux_M) (H : Heap) (locs : List Loc) (ls : Array Slot), ((201 : Int) - i_4.toInt).toNat = nn → (0 ≤ i_4.toInt) → va_P D classes (ux_w shX KX ad cA Mc17) H → IvX Mc17 → (∀ a b, ¬ (tP d) a b → Mc17 a b = M a b) → va_S (ux_A KX ad) s.heap H locs → lv_has ls 7 [(0, .ref (ad 13)), (1, .ref (ad (53 + 7 * d))), (2, .int (nI d)), (3, .int qt), (4, .int i_4)] → W p l e (headSpec w_Rn_readPieces ({ frames := (12 + 8 * ee + 2), cells := 0, slots := 0, locals := (600 + 300 * ee + 54) })).room s m (([.ref (ad 13), .ref (ad (53 + 7 * d)), .int (nI d), .int qt] : List Value).toArray) below meth c H locs 0 0 (MQ below (va_Qi (fun r M1 => IvX M1 ∧ (∀ a b, ¬ (tP d) a b → M1 a b = M a b) ∧ (True)) (ux_E D shX KX ad cA) (ux_A KX ad)) (([.ref (ad 13), .ref (ad (53 + 7 * d)), .int (nI d), .int qt] : List Value).toArray) s 0 0 (ux_A KX ad)) (F0 m 17 ls []) := by
    intro nn
    induction nn using Nat.strongRecOn with
    | ind nn ih17 =>
      intro i_4 Mc17 H locs ls hn c17_0 hP hI hF hS hl
      refine lv_iload hx hb d_Rn_readPieces_17 (lv_at hl 4 rfl) ?_
      refine lv_sipush (v := 200) hx hb d_Rn_readPieces_19 (by decide) ?_
      refine lv_icmp_gt hx hb d_Rn_readPieces_22 rfl (fun h1 => ?_) (fun h1 => ?_)
      · have g1 : 200 < i_4.toInt := Int32.lt_iff_toInt_lt.mp h1
        have u1 := ti_hi i_4
        refine lv_iload_n hx hb d_Rn_readPieces_129 rfl (lv_at hl 3 rfl) ?_
        refine lv_if_eq hx hb d_Rn_readPieces_130 rfl (fun h2 => ?_) (fun h2 => ?_)
        · have g2 : qt.toInt = 0 := congrArg Int32.toInt h2
          refine lv_iconst (v := 0) hx hb d_Rn_readPieces_141 (by decide) ?_
          exact W.iret (v := 0) hx hb hr (fun t ht hW => ⟨⟨0, Mc17, rfl, ⟨hI, hF, trivial⟩, by unfold ux_E; rw [ht]; exact hP⟩, hS.F ht⟩) hS.2.2 d_Rn_readPieces_142
        · have g2 : ¬ (qt.toInt = 0) := fun q => h2 (Int32.toInt_inj.mp q)
          refine lv_aload_n hx hb d_Rn_readPieces_133 rfl (lv_at hl 0 rfl) ?_
          refine lv_iconst (v := 1) hx hb d_Rn_readPieces_134 (by decide) ?_
          refine ux_calli (va_runV ⟨hx, hb, hml, hown, hts⟩ (s_Rn_fail l D ad cA Mc17 hI 1) (cwV 1 hts (tb_goodV ml_Rn_64 im_Rn_fail se_Rn_fail ii_Rn kt_Rn_fail) rfl rfl rfl (by decide +kernel) ⟨show 1 + 1 ≤ (12 + 8 * ee + 2) by omega, show 8 + (2 + 11) + (22) ≤ (600 + 300 * ee + 54) by omega⟩) (ux_preV (by decide) rfl rfl hP hK hi hN) rfl rfl hl.1 rfl (lv_room (Nat.le_of_ble_eq_true rfl)) d_Rn_readPieces_135 ⟨Nat.zero_le _, Nat.zero_le _⟩) hS (fun r3 M4 H locs q5 hP hS => ?_)
          obtain ⟨hI, fq5, q5p⟩ := q5
          have hF := fr_call hF fq5 (fun a b q => by unfold tV at q; unfold tP; omega)
          refine lv_goto hx hb d_Rn_readPieces_138 rfl ?_
          exact W.iret (v := r3) hx hb hr (fun t ht hW => ⟨⟨r3, M4, rfl, ⟨hI, hF, trivial⟩, by unfold ux_E; rw [ht]; exact hP⟩, hS.F ht⟩) hS.2.2 d_Rn_readPieces_142
      · have g1 : ¬ (200 < i_4.toInt) := fun q => h1 (Int32.lt_iff_toInt_lt.mpr q)
        have w1 := ti_lo i_4
        refine lv_aload_n hx hb d_Rn_readPieces_25 rfl (lv_at hl 1 rfl) ?_
        refine ux_getN (C := R_Lv) (T := F_Lv) (N := 10) hx hb hT in_Lv hown hK hP (lk 53 (by decide) hd) (L53 hd) rfl 5 (by decide) (hN _ nf_Rn_101) rfl d_Rn_readPieces_26 ?_
        have b6 := iv0 (M := Mc17) (a := 53 + 7 * d) (b := 5) hI (by unfold p0; omega)
        refine lv_aload_n hx hb d_Rn_readPieces_29 rfl (lv_at hl 1 rfl) ?_
        refine ux_getN (C := R_Lv) (T := F_Lv) (N := 10) hx hb hT in_Lv hown hK hP (lk 53 (by decide) hd) (L53 hd) rfl 6 (by decide) (hN _ nf_Rn_104) rfl d_Rn_readPieces_30 ?_
        have b7 := iv200 (M := Mc17) (a := 53 + 7 * d) (b := 6) hI (by unfold p200; omega)
        refine lv_icmp_ge hx hb d_Rn_readPieces_33 rfl (fun h8 => ?_) (fun h8 => ?_)
        · have g8 : (Mc17 (53 + 7 * d) 6).toInt ≤ (Mc17 (53 + 7 * d) 5).toInt := Int32.le_iff_toInt_le.mp h8
          have u8 := ti_hi (Mc17 (53 + 7 * d) 5)
          have w8 := ti_lo (Mc17 (53 + 7 * d) 6)
          refine lv_iload_n hx hb d_Rn_readPieces_129 rfl (lv_at hl 3 rfl) ?_
          refine lv_if_eq hx hb d_Rn_readPieces_130 rfl (fun h9 => ?_) (fun h9 => ?_)
          · have g9 : qt.toInt = 0 := congrArg Int32.toInt h9
            refine lv_iconst (v := 0) hx hb d_Rn_readPieces_141 (by decide) ?_
            exact W.iret (v := 0) hx hb hr (fun t ht hW => ⟨⟨0, Mc17, rfl, ⟨hI, hF, trivial⟩, by unfold ux_E; rw [ht]; exact hP⟩, hS.F ht⟩) hS.2.2 d_Rn_readPieces_142
          · have g9 : ¬ (qt.toInt = 0) := fun q => h9 (Int32.toInt_inj.mp q)
            refine lv_aload_n hx hb d_Rn_readPieces_133 rfl (lv_at hl 0 rfl) ?_
            refine lv_iconst (v := 1) hx hb d_Rn_readPieces_134 (by decide) ?_
            refine ux_calli (va_runV ⟨hx, hb, hml, hown, hts⟩ (s_Rn_fail l D ad cA Mc17 hI 1) (cwV 1 hts (tb_goodV ml_Rn_64 im_Rn_fail se_Rn_fail ii_Rn kt_Rn_fail) rfl rfl rfl (by decide +kernel) ⟨show 1 + 1 ≤ (12 + 8 * ee + 2) by omega, show 8 + (2 + 11) + (22) ≤ (600 + 300 * ee + 54) by omega⟩) (ux_preV (by decide) rfl rfl hP hK hi hN) rfl rfl hl.1 rfl (lv_room (Nat.le_of_ble_eq_true rfl)) d_Rn_readPieces_135 ⟨Nat.zero_le _, Nat.zero_le _⟩) hS (fun r10 M11 H locs q12 hP hS => ?_)
            obtain ⟨hI, fq12, q12p⟩ := q12
            have hF := fr_call hF fq12 (fun a b q => by unfold tV at q; unfold tP; omega)
            refine lv_goto hx hb d_Rn_readPieces_138 rfl ?_
            exact W.iret (v := r10) hx hb hr (fun t ht hW => ⟨⟨r10, M11, rfl, ⟨hI, hF, trivial⟩, by unfold ux_E; rw [ht]; exact hP⟩, hS.F ht⟩) hS.2.2 d_Rn_readPieces_142
        · have g8 : ¬ ((Mc17 (53 + 7 * d) 6).toInt ≤ (Mc17 (53 + 7 * d) 5).toInt) := fun q => h8 (Int32.le_iff_toInt_le.mpr q)
          have u8 := ti_hi (Mc17 (53 + 7 * d) 6)
          have w8 := ti_lo (Mc17 (53 + 7 * d) 5)
          refine lv_aload_n hx hb d_Rn_readPieces_36 rfl (lv_at hl 0 rfl) ?_
          refine ux_get (C := R_Rn) (T := F_Rn) (N := 9) hx hb hT in_Rn hown hK hP (by decide) rfl rfl 0 (by decide) (hT _ fl_Rn_40) rfl d_Rn_readPieces_37 ?_
          refine ux_getN (C := R_Tx) (T := F_Tx) (N := 3) hx hb hT in_Tx hown hK hP (by decide) rfl rfl 0 (by decide) (hN _ nf_Rn_50) rfl d_Rn_readPieces_40 ?_
          refine lv_aload_n hx hb d_Rn_readPieces_43 rfl (lv_at hl 1 rfl) ?_
          refine ux_getN (C := R_Lv) (T := F_Lv) (N := 10) hx hb hT in_Lv hown hK hP (lk 53 (by decide) hd) (L53 hd) rfl 5 (by decide) (hN _ nf_Rn_101) rfl d_Rn_readPieces_44 ?_
          have b13 := iv0 (M := Mc17) (a := 53 + 7 * d) (b := 5) hI (by unfold p0; omega)
          refine ux_cald hx hb hK hP (by decide) rfl ((vi (show 0 ≤ (Mc17 (53 + 7 * d) 5).toInt by omega) (show (Mc17 (53 + 7 * d) 5).toInt < ((200 : Nat) : Int) by omega))) d_Rn_readPieces_47 ?_
          refine lv_istore hx hb d_Rn_readPieces_48 hl (by decide) rfl (fun ls hl => ?_)
          have hl : lv_has ls 7 [(5, .int (Mc17 1 ((Mc17 (53 + 7 * d) 5).toNatClampNeg))), (0, .ref (ad 13)), (1, .ref (ad (53 + 7 * d))), (2, .int (nI d)), (3, .int qt), (4, .int i_4)] := hl
          refine lv_iload_n hx hb d_Rn_readPieces_50 rfl (lv_at hl 4 rfl) ?_
          refine lv_if_eq hx hb d_Rn_readPieces_51 rfl (fun h14 => ?_) (fun h14 => ?_)
          · have g14 : qt.toInt = 0 := congrArg Int32.toInt h14
            refine lv_iload_n hx hb d_Rn_readPieces_73 rfl (lv_at hl 4 rfl) ?_
            refine lv_if_ne hx hb d_Rn_readPieces_74 rfl (fun h15 => ?_) (fun h15 => ?_)
            · have g15 : ¬ (qt.toInt = 0) := fun q => h15 (Int32.toInt_inj.mp q)
              refine lv_aload_n hx hb d_Rn_readPieces_95 rfl (lv_at hl 2 rfl) ?_
              refine lv_dup hx hb d_Rn_readPieces_96 rfl ?_
              refine ux_getN (C := R_Lv) (T := F_Lv) (N := 10) hx hb hT in_Lv hown hK hP (lk 53 (by decide) hd) (L53 hd) rfl 5 (by decide) (hN _ nf_Rn_101) rfl d_Rn_readPieces_97 ?_
              have b16 := iv0 (M := Mc17) (a := 53 + 7 * d) (b := 5) hI (by unfold p0; omega)
              refine lv_iconst (v := 1) hx hb d_Rn_readPieces_100 (by decide) ?_
              refine lv_iadd hx hb d_Rn_readPieces_101 ?_
              refine lv_topi (fun x17 ex17 => ?_)
              try have fx17 : x17.toInt = (Mc17 (53 + 7 * d) 5).toInt + 1 := by rw [ex17]; exact ti_add (by (try rw [show (1 : Int32).toInt = 1 from rfl]); omega) (by (try rw [show (1 : Int32).toInt = 1 from rfl]); omega)
              refine ux_putN (C := R_Lv) (T := F_Lv) (N := 10) hx hb hT in_Lv t_Lv t_Lv_ok n_Lv hown hK hi hP hS (lk 53 (by decide) hd) (L53 hd) rfl 5 (by decide) (hN _ nf_Rn_101) rfl (rfl) (rfl) rfl d_Rn_readPieces_102 (fun H locs hP hS => ?_)
              have hI := IvX_wr (k := 53 + 7 * d) (j := 5) (v := x17) hI (fun q => by unfold p0 at q; omega) (fun q => by unfold p8 at q; omega) (fun q => by unfold p20 at q; omega) (fun q => by unfold p40 at q; omega) (fun q => by unfold p200 at q; omega) (fun q => by unfold pch at q; omega)
              have hF := fr_wr (k := 53 + 7 * d) (j := 5) (v := x17) hF (by unfold tP; omega)
              generalize eM18 : ux_wr Mc17 (53 + 7 * d) 5 x17 = M18 at hP hI hF
              refine lv_aload_n hx hb d_Rn_readPieces_105 rfl (lv_at hl 1 rfl) ?_
              refine lv_aload_n hx hb d_Rn_readPieces_106 rfl (lv_at hl 2 rfl) ?_
              refine lv_iload_n hx hb d_Rn_readPieces_107 rfl (lv_at hl 3 rfl) ?_
              refine lv_iload hx hb d_Rn_readPieces_108 (lv_at hl 0 rfl) ?_
              refine ux_calli (va_runV ⟨hx, hb, hml, hown, hts⟩ (s_Rn_readPiece l D ad cA M18 hI adK adV fm d ee hd hde hrec (Mc17 1 ((Mc17 (53 + 7 * d) 5).toNatClampNeg))) (cwV 3 hts (tb_goodV ml_Rn_135 im_Rn_readPiece se_Rn_readPiece ii_Rn kt_Rn_readPiece) rfl rfl rfl (by decide +kernel) ⟨show (12 + 8 * ee + 1) + 1 ≤ (12 + 8 * ee + 2) by omega, show 8 + (7 + 11) + ((600 + 300 * ee + 28)) ≤ (600 + 300 * ee + 54) by omega⟩) (ux_preVZ (by decide) rfl rfl hP hK hi hN hZ hS) rfl rfl hl.1 rfl (lv_room (Nat.le_of_ble_eq_true rfl)) d_Rn_readPieces_110 ⟨Nat.zero_le _, Nat.zero_le _⟩) hS (fun r19 M20 H locs q21 hP hS => ?_)
              obtain ⟨hI, fq21, q21p⟩ := q21
              have hF := fr_call hF fq21 (fun a b q => by unfold tP at q; unfold tP; omega)
              refine lv_istore hx hb d_Rn_readPieces_113 hl (by decide) rfl (fun ls hl => ?_)
              have hl : lv_has ls 7 [(6, .int r19), (5, .int (Mc17 1 ((Mc17 (53 + 7 * d) 5).toNatClampNeg))), (0, .ref (ad 13)), (1, .ref (ad (53 + 7 * d))), (2, .int (nI d)), (3, .int qt), (4, .int i_4)] := hl
              refine lv_iload hx hb d_Rn_readPieces_115 (lv_at hl 0 rfl) ?_
              refine lv_if_eq hx hb d_Rn_readPieces_117 rfl (fun h22 => ?_) (fun h22 => ?_)
              · have g22 : r19.toInt = 0 := congrArg Int32.toInt h22
                obtain ⟨x23, ex23⟩ : ∃ z : Int32, z = i_4 + 1 := ⟨_, rfl⟩
                refine lv_iinc (k := 6) (v := x23) hx hb d_Rn_readPieces_123 hl rfl ex23.symm (by decide) rfl (fun ls hl => ?_)
                have hl : lv_has ls 7 [(4, .int x23), (6, .int r19), (5, .int (Mc17 1 ((Mc17 (53 + 7 * d) 5).toNatClampNeg))), (0, .ref (ad 13)), (1, .ref (ad (53 + 7 * d))), (2, .int (nI d)), (3, .int qt)] := hl
                try have fx23 : x23.toInt = i_4.toInt + 1 := by rw [ex23]; exact ti_add (by (try rw [show (1 : Int32).toInt = 1 from rfl]); omega) (by (try rw [show (1 : Int32).toInt = 1 from rfl]); omega)
                refine lv_goto hx hb d_Rn_readPieces_126 rfl ?_
                exact ih17 (((201 : Int) - x23.toInt).toNat) (by omega) x23 M20 _ _ ls rfl (show 0 ≤ x23.toInt from by first | omega | assumption | exact Or.inl rfl | exact Or.inr rfl | rfl | decide) hP hI hF hS (lv_sub hl [3, 4, 5, 6, 0] rfl)
              · have g22 : ¬ (r19.toInt = 0) := fun q => h22 (Int32.toInt_inj.mp q)
                refine lv_iload hx hb d_Rn_readPieces_120 (lv_at hl 0 rfl) ?_
                exact W.iret (v := r19) hx hb hr (fun t ht hW => ⟨⟨r19, M20, rfl, ⟨hI, hF, trivial⟩, by unfold ux_E; rw [ht]; exact hP⟩, hS.F ht⟩) hS.2.2 d_Rn_readPieces_122
            · have g15 : qt.toInt = 0 := congrArg Int32.toInt h15
              refine lv_iload hx hb d_Rn_readPieces_77 (lv_at hl 0 rfl) ?_
              refine lv_bipush (v := 32) hx hb d_Rn_readPieces_79 (by decide) ?_
              refine lv_icmp_eq hx hb d_Rn_readPieces_81 rfl (fun h24 => ?_) (fun h24 => ?_)
              · have g24 : (Mc17 1 ((Mc17 (53 + 7 * d) 5).toNatClampNeg)).toInt = 32 := congrArg Int32.toInt h24
                refine lv_iconst (v := 0) hx hb d_Rn_readPieces_93 (by decide) ?_
                exact W.iret (v := 0) hx hb hr (fun t ht hW => ⟨⟨0, Mc17, rfl, ⟨hI, hF, trivial⟩, by unfold ux_E; rw [ht]; exact hP⟩, hS.F ht⟩) hS.2.2 d_Rn_readPieces_94
              · have g24 : ¬ ((Mc17 1 ((Mc17 (53 + 7 * d) 5).toNatClampNeg)).toInt = 32) := fun q => h24 (Int32.toInt_inj.mp q)
                refine lv_aload_n hx hb d_Rn_readPieces_84 rfl (lv_at hl 2 rfl) ?_
                refine lv_iload hx hb d_Rn_readPieces_85 (lv_at hl 0 rfl) ?_
                refine ux_calli (va_runV ⟨hx, hb, hml, hown, hts⟩ (s_Lv_endsCommand l D ad cA Mc17 hI d hd (Mc17 1 ((Mc17 (53 + 7 * d) 5).toNatClampNeg))) (cwV 1 hts (tb_goodV ml_Rn_107 im_Lv_endsCommand se_Lv_endsCommand ii_Lv kt_Lv_endsCommand) rfl rfl rfl (by decide +kernel) ⟨show 0 + 1 ≤ (12 + 8 * ee + 2) by omega, show 8 + (2 + 11) + (0) ≤ (600 + 300 * ee + 54) by omega⟩) (ux_preV (lk 53 (by decide) hd) (L53 hd) rfl hP hK hi hN) rfl rfl hl.1 rfl (lv_room (Nat.le_of_ble_eq_true rfl)) d_Rn_readPieces_87 ⟨Nat.zero_le _, Nat.zero_le _⟩) hS (fun r25 M26 H locs q27 hP hS => ?_)
                obtain ⟨hI, fq27, q27p⟩ := q27
                rw [tN_eq fq27] at hP hI
                refine lv_if_eq hx hb d_Rn_readPieces_90 rfl (fun h28 => ?_) (fun h28 => ?_)
                · have g28 : r25.toInt = 0 := congrArg Int32.toInt h28
                  refine lv_aload_n hx hb d_Rn_readPieces_95 rfl (lv_at hl 2 rfl) ?_
                  refine lv_dup hx hb d_Rn_readPieces_96 rfl ?_
                  refine ux_getN (C := R_Lv) (T := F_Lv) (N := 10) hx hb hT in_Lv hown hK hP (lk 53 (by decide) hd) (L53 hd) rfl 5 (by decide) (hN _ nf_Rn_101) rfl d_Rn_readPieces_97 ?_
                  have b29 := iv0 (M := Mc17) (a := 53 + 7 * d) (b := 5) hI (by unfold p0; omega)
                  refine lv_iconst (v := 1) hx hb d_Rn_readPieces_100 (by decide) ?_
                  refine lv_iadd hx hb d_Rn_readPieces_101 ?_
                  refine lv_topi (fun x30 ex30 => ?_)
                  try have fx30 : x30.toInt = (Mc17 (53 + 7 * d) 5).toInt + 1 := by rw [ex30]; exact ti_add (by (try rw [show (1 : Int32).toInt = 1 from rfl]); omega) (by (try rw [show (1 : Int32).toInt = 1 from rfl]); omega)
                  refine ux_putN (C := R_Lv) (T := F_Lv) (N := 10) hx hb hT in_Lv t_Lv t_Lv_ok n_Lv hown hK hi hP hS (lk 53 (by decide) hd) (L53 hd) rfl 5 (by decide) (hN _ nf_Rn_101) rfl (rfl) (rfl) rfl d_Rn_readPieces_102 (fun H locs hP hS => ?_)
                  have hI := IvX_wr (k := 53 + 7 * d) (j := 5) (v := x30) hI (fun q => by unfold p0 at q; omega) (fun q => by unfold p8 at q; omega) (fun q => by unfold p20 at q; omega) (fun q => by unfold p40 at q; omega) (fun q => by unfold p200 at q; omega) (fun q => by unfold pch at q; omega)
                  have hF := fr_wr (k := 53 + 7 * d) (j := 5) (v := x30) hF (by unfold tP; omega)
                  generalize eM31 : ux_wr Mc17 (53 + 7 * d) 5 x30 = M31 at hP hI hF
                  refine lv_aload_n hx hb d_Rn_readPieces_105 rfl (lv_at hl 1 rfl) ?_
                  refine lv_aload_n hx hb d_Rn_readPieces_106 rfl (lv_at hl 2 rfl) ?_
                  refine lv_iload_n hx hb d_Rn_readPieces_107 rfl (lv_at hl 3 rfl) ?_
                  refine lv_iload hx hb d_Rn_readPieces_108 (lv_at hl 0 rfl) ?_
                  refine ux_calli (va_runV ⟨hx, hb, hml, hown, hts⟩ (s_Rn_readPiece l D ad cA M31 hI adK adV fm d ee hd hde hrec (Mc17 1 ((Mc17 (53 + 7 * d) 5).toNatClampNeg))) (cwV 3 hts (tb_goodV ml_Rn_135 im_Rn_readPiece se_Rn_readPiece ii_Rn kt_Rn_readPiece) rfl rfl rfl (by decide +kernel) ⟨show (12 + 8 * ee + 1) + 1 ≤ (12 + 8 * ee + 2) by omega, show 8 + (7 + 11) + ((600 + 300 * ee + 28)) ≤ (600 + 300 * ee + 54) by omega⟩) (ux_preVZ (by decide) rfl rfl hP hK hi hN hZ hS) rfl rfl hl.1 rfl (lv_room (Nat.le_of_ble_eq_true rfl)) d_Rn_readPieces_110 ⟨Nat.zero_le _, Nat.zero_le _⟩) hS (fun r32 M33 H locs q34 hP hS => ?_)
                  obtain ⟨hI, fq34, q34p⟩ := q34
                  have hF := fr_call hF fq34 (fun a b q => by unfold tP at q; unfold tP; omega)
                  refine lv_istore hx hb d_Rn_readPieces_113 hl (by decide) rfl (fun ls hl => ?_)
                  have hl : lv_has ls 7 [(6, .int r32), (5, .int (Mc17 1 ((Mc17 (53 + 7 * d) 5).toNatClampNeg))), (0, .ref (ad 13)), (1, .ref (ad (53 + 7 * d))), (2, .int (nI d)), (3, .int qt), (4, .int i_4)] := hl
                  refine lv_iload hx hb d_Rn_readPieces_115 (lv_at hl 0 rfl) ?_
                  refine lv_if_eq hx hb d_Rn_readPieces_117 rfl (fun h35 => ?_) (fun h35 => ?_)
                  · have g35 : r32.toInt = 0 := congrArg Int32.toInt h35
                    obtain ⟨x36, ex36⟩ : ∃ z : Int32, z = i_4 + 1 := ⟨_, rfl⟩
                    refine lv_iinc (k := 6) (v := x36) hx hb d_Rn_readPieces_123 hl rfl ex36.symm (by decide) rfl (fun ls hl => ?_)
                    have hl : lv_has ls 7 [(4, .int x36), (6, .int r32), (5, .int (Mc17 1 ((Mc17 (53 + 7 * d) 5).toNatClampNeg))), (0, .ref (ad 13)), (1, .ref (ad (53 + 7 * d))), (2, .int (nI d)), (3, .int qt)] := hl
                    try have fx36 : x36.toInt = i_4.toInt + 1 := by rw [ex36]; exact ti_add (by (try rw [show (1 : Int32).toInt = 1 from rfl]); omega) (by (try rw [show (1 : Int32).toInt = 1 from rfl]); omega)
                    refine lv_goto hx hb d_Rn_readPieces_126 rfl ?_
                    exact ih17 (((201 : Int) - x36.toInt).toNat) (by omega) x36 M33 _ _ ls rfl (show 0 ≤ x36.toInt from by first | omega | assumption | exact Or.inl rfl | exact Or.inr rfl | rfl | decide) hP hI hF hS (lv_sub hl [3, 4, 5, 6, 0] rfl)
                  · have g35 : ¬ (r32.toInt = 0) := fun q => h35 (Int32.toInt_inj.mp q)
                    refine lv_iload hx hb d_Rn_readPieces_120 (lv_at hl 0 rfl) ?_
                    exact W.iret (v := r32) hx hb hr (fun t ht hW => ⟨⟨r32, M33, rfl, ⟨hI, hF, trivial⟩, by unfold ux_E; rw [ht]; exact hP⟩, hS.F ht⟩) hS.2.2 d_Rn_readPieces_122
                · have g28 : ¬ (r25.toInt = 0) := fun q => h28 (Int32.toInt_inj.mp q)
                  refine lv_iconst (v := 0) hx hb d_Rn_readPieces_93 (by decide) ?_
                  exact W.iret (v := 0) hx hb hr (fun t ht hW => ⟨⟨0, Mc17, rfl, ⟨hI, hF, trivial⟩, by unfold ux_E; rw [ht]; exact hP⟩, hS.F ht⟩) hS.2.2 d_Rn_readPieces_94
          · have g14 : ¬ (qt.toInt = 0) := fun q => h14 (Int32.toInt_inj.mp q)
            refine lv_iload hx hb d_Rn_readPieces_54 (lv_at hl 0 rfl) ?_
            refine lv_bipush (v := 34) hx hb d_Rn_readPieces_56 (by decide) ?_
            refine lv_icmp_ne hx hb d_Rn_readPieces_58 rfl (fun h37 => ?_) (fun h37 => ?_)
            · have g37 : ¬ ((Mc17 1 ((Mc17 (53 + 7 * d) 5).toNatClampNeg)).toInt = 34) := fun q => h37 (Int32.toInt_inj.mp q)
              refine lv_iload_n hx hb d_Rn_readPieces_73 rfl (lv_at hl 4 rfl) ?_
              refine lv_if_ne hx hb d_Rn_readPieces_74 rfl (fun h38 => ?_) (fun h38 => ?_)
              · have g38 : ¬ (qt.toInt = 0) := fun q => h38 (Int32.toInt_inj.mp q)
                refine lv_aload_n hx hb d_Rn_readPieces_95 rfl (lv_at hl 2 rfl) ?_
                refine lv_dup hx hb d_Rn_readPieces_96 rfl ?_
                refine ux_getN (C := R_Lv) (T := F_Lv) (N := 10) hx hb hT in_Lv hown hK hP (lk 53 (by decide) hd) (L53 hd) rfl 5 (by decide) (hN _ nf_Rn_101) rfl d_Rn_readPieces_97 ?_
                have b39 := iv0 (M := Mc17) (a := 53 + 7 * d) (b := 5) hI (by unfold p0; omega)
                refine lv_iconst (v := 1) hx hb d_Rn_readPieces_100 (by decide) ?_
                refine lv_iadd hx hb d_Rn_readPieces_101 ?_
                refine lv_topi (fun x40 ex40 => ?_)
                try have fx40 : x40.toInt = (Mc17 (53 + 7 * d) 5).toInt + 1 := by rw [ex40]; exact ti_add (by (try rw [show (1 : Int32).toInt = 1 from rfl]); omega) (by (try rw [show (1 : Int32).toInt = 1 from rfl]); omega)
                refine ux_putN (C := R_Lv) (T := F_Lv) (N := 10) hx hb hT in_Lv t_Lv t_Lv_ok n_Lv hown hK hi hP hS (lk 53 (by decide) hd) (L53 hd) rfl 5 (by decide) (hN _ nf_Rn_101) rfl (rfl) (rfl) rfl d_Rn_readPieces_102 (fun H locs hP hS => ?_)
                have hI := IvX_wr (k := 53 + 7 * d) (j := 5) (v := x40) hI (fun q => by unfold p0 at q; omega) (fun q => by unfold p8 at q; omega) (fun q => by unfold p20 at q; omega) (fun q => by unfold p40 at q; omega) (fun q => by unfold p200 at q; omega) (fun q => by unfold pch at q; omega)
                have hF := fr_wr (k := 53 + 7 * d) (j := 5) (v := x40) hF (by unfold tP; omega)
                generalize eM41 : ux_wr Mc17 (53 + 7 * d) 5 x40 = M41 at hP hI hF
                refine lv_aload_n hx hb d_Rn_readPieces_105 rfl (lv_at hl 1 rfl) ?_
                refine lv_aload_n hx hb d_Rn_readPieces_106 rfl (lv_at hl 2 rfl) ?_
                refine lv_iload_n hx hb d_Rn_readPieces_107 rfl (lv_at hl 3 rfl) ?_
                refine lv_iload hx hb d_Rn_readPieces_108 (lv_at hl 0 rfl) ?_
                refine ux_calli (va_runV ⟨hx, hb, hml, hown, hts⟩ (s_Rn_readPiece l D ad cA M41 hI adK adV fm d ee hd hde hrec (Mc17 1 ((Mc17 (53 + 7 * d) 5).toNatClampNeg))) (cwV 3 hts (tb_goodV ml_Rn_135 im_Rn_readPiece se_Rn_readPiece ii_Rn kt_Rn_readPiece) rfl rfl rfl (by decide +kernel) ⟨show (12 + 8 * ee + 1) + 1 ≤ (12 + 8 * ee + 2) by omega, show 8 + (7 + 11) + ((600 + 300 * ee + 28)) ≤ (600 + 300 * ee + 54) by omega⟩) (ux_preVZ (by decide) rfl rfl hP hK hi hN hZ hS) rfl rfl hl.1 rfl (lv_room (Nat.le_of_ble_eq_true rfl)) d_Rn_readPieces_110 ⟨Nat.zero_le _, Nat.zero_le _⟩) hS (fun r42 M43 H locs q44 hP hS => ?_)
                obtain ⟨hI, fq44, q44p⟩ := q44
                have hF := fr_call hF fq44 (fun a b q => by unfold tP at q; unfold tP; omega)
                refine lv_istore hx hb d_Rn_readPieces_113 hl (by decide) rfl (fun ls hl => ?_)
                have hl : lv_has ls 7 [(6, .int r42), (5, .int (Mc17 1 ((Mc17 (53 + 7 * d) 5).toNatClampNeg))), (0, .ref (ad 13)), (1, .ref (ad (53 + 7 * d))), (2, .int (nI d)), (3, .int qt), (4, .int i_4)] := hl
                refine lv_iload hx hb d_Rn_readPieces_115 (lv_at hl 0 rfl) ?_
                refine lv_if_eq hx hb d_Rn_readPieces_117 rfl (fun h45 => ?_) (fun h45 => ?_)
                · have g45 : r42.toInt = 0 := congrArg Int32.toInt h45
                  obtain ⟨x46, ex46⟩ : ∃ z : Int32, z = i_4 + 1 := ⟨_, rfl⟩
                  refine lv_iinc (k := 6) (v := x46) hx hb d_Rn_readPieces_123 hl rfl ex46.symm (by decide) rfl (fun ls hl => ?_)
                  have hl : lv_has ls 7 [(4, .int x46), (6, .int r42), (5, .int (Mc17 1 ((Mc17 (53 + 7 * d) 5).toNatClampNeg))), (0, .ref (ad 13)), (1, .ref (ad (53 + 7 * d))), (2, .int (nI d)), (3, .int qt)] := hl
                  try have fx46 : x46.toInt = i_4.toInt + 1 := by rw [ex46]; exact ti_add (by (try rw [show (1 : Int32).toInt = 1 from rfl]); omega) (by (try rw [show (1 : Int32).toInt = 1 from rfl]); omega)
                  refine lv_goto hx hb d_Rn_readPieces_126 rfl ?_
                  exact ih17 (((201 : Int) - x46.toInt).toNat) (by omega) x46 M43 _ _ ls rfl (show 0 ≤ x46.toInt from by first | omega | assumption | exact Or.inl rfl | exact Or.inr rfl | rfl | decide) hP hI hF hS (lv_sub hl [3, 4, 5, 6, 0] rfl)
                · have g45 : ¬ (r42.toInt = 0) := fun q => h45 (Int32.toInt_inj.mp q)
                  refine lv_iload hx hb d_Rn_readPieces_120 (lv_at hl 0 rfl) ?_
                  exact W.iret (v := r42) hx hb hr (fun t ht hW => ⟨⟨r42, M43, rfl, ⟨hI, hF, trivial⟩, by unfold ux_E; rw [ht]; exact hP⟩, hS.F ht⟩) hS.2.2 d_Rn_readPieces_122
              · have g38 : qt.toInt = 0 := congrArg Int32.toInt h38
                refine lv_iload hx hb d_Rn_readPieces_77 (lv_at hl 0 rfl) ?_
                refine lv_bipush (v := 32) hx hb d_Rn_readPieces_79 (by decide) ?_
                refine lv_icmp_eq hx hb d_Rn_readPieces_81 rfl (fun h47 => ?_) (fun h47 => ?_)
                · have g47 : (Mc17 1 ((Mc17 (53 + 7 * d) 5).toNatClampNeg)).toInt = 32 := congrArg Int32.toInt h47
                  refine lv_iconst (v := 0) hx hb d_Rn_readPieces_93 (by decide) ?_
                  exact W.iret (v := 0) hx hb hr (fun t ht hW => ⟨⟨0, Mc17, rfl, ⟨hI, hF, trivial⟩, by unfold ux_E; rw [ht]; exact hP⟩, hS.F ht⟩) hS.2.2 d_Rn_readPieces_94
                · have g47 : ¬ ((Mc17 1 ((Mc17 (53 + 7 * d) 5).toNatClampNeg)).toInt = 32) := fun q => h47 (Int32.toInt_inj.mp q)
                  refine lv_aload_n hx hb d_Rn_readPieces_84 rfl (lv_at hl 2 rfl) ?_
                  refine lv_iload hx hb d_Rn_readPieces_85 (lv_at hl 0 rfl) ?_
                  refine ux_calli (va_runV ⟨hx, hb, hml, hown, hts⟩ (s_Lv_endsCommand l D ad cA Mc17 hI d hd (Mc17 1 ((Mc17 (53 + 7 * d) 5).toNatClampNeg))) (cwV 1 hts (tb_goodV ml_Rn_107 im_Lv_endsCommand se_Lv_endsCommand ii_Lv kt_Lv_endsCommand) rfl rfl rfl (by decide +kernel) ⟨show 0 + 1 ≤ (12 + 8 * ee + 2) by omega, show 8 + (2 + 11) + (0) ≤ (600 + 300 * ee + 54) by omega⟩) (ux_preV (lk 53 (by decide) hd) (L53 hd) rfl hP hK hi hN) rfl rfl hl.1 rfl (lv_room (Nat.le_of_ble_eq_true rfl)) d_Rn_readPieces_87 ⟨Nat.zero_le _, Nat.zero_le _⟩) hS (fun r48 M49 H locs q50 hP hS => ?_)
                  obtain ⟨hI, fq50, q50p⟩ := q50
                  rw [tN_eq fq50] at hP hI
                  refine lv_if_eq hx hb d_Rn_readPieces_90 rfl (fun h51 => ?_) (fun h51 => ?_)
                  · have g51 : r48.toInt = 0 := congrArg Int32.toInt h51
                    refine lv_aload_n hx hb d_Rn_readPieces_95 rfl (lv_at hl 2 rfl) ?_
                    refine lv_dup hx hb d_Rn_readPieces_96 rfl ?_
                    refine ux_getN (C := R_Lv) (T := F_Lv) (N := 10) hx hb hT in_Lv hown hK hP (lk 53 (by decide) hd) (L53 hd) rfl 5 (by decide) (hN _ nf_Rn_101) rfl d_Rn_readPieces_97 ?_
                    have b52 := iv0 (M := Mc17) (a := 53 + 7 * d) (b := 5) hI (by unfold p0; omega)
                    refine lv_iconst (v := 1) hx hb d_Rn_readPieces_100 (by decide) ?_
                    refine lv_iadd hx hb d_Rn_readPieces_101 ?_
                    refine lv_topi (fun x53 ex53 => ?_)
                    try have fx53 : x53.toInt = (Mc17 (53 + 7 * d) 5).toInt + 1 := by rw [ex53]; exact ti_add (by (try rw [show (1 : Int32).toInt = 1 from rfl]); omega) (by (try rw [show (1 : Int32).toInt = 1 from rfl]); omega)
                    refine ux_putN (C := R_Lv) (T := F_Lv) (N := 10) hx hb hT in_Lv t_Lv t_Lv_ok n_Lv hown hK hi hP hS (lk 53 (by decide) hd) (L53 hd) rfl 5 (by decide) (hN _ nf_Rn_101) rfl (rfl) (rfl) rfl d_Rn_readPieces_102 (fun H locs hP hS => ?_)
                    have hI := IvX_wr (k := 53 + 7 * d) (j := 5) (v := x53) hI (fun q => by unfold p0 at q; omega) (fun q => by unfold p8 at q; omega) (fun q => by unfold p20 at q; omega) (fun q => by unfold p40 at q; omega) (fun q => by unfold p200 at q; omega) (fun q => by unfold pch at q; omega)
                    have hF := fr_wr (k := 53 + 7 * d) (j := 5) (v := x53) hF (by unfold tP; omega)
                    generalize eM54 : ux_wr Mc17 (53 + 7 * d) 5 x53 = M54 at hP hI hF
                    refine lv_aload_n hx hb d_Rn_readPieces_105 rfl (lv_at hl 1 rfl) ?_
                    refine lv_aload_n hx hb d_Rn_readPieces_106 rfl (lv_at hl 2 rfl) ?_
                    refine lv_iload_n hx hb d_Rn_readPieces_107 rfl (lv_at hl 3 rfl) ?_
                    refine lv_iload hx hb d_Rn_readPieces_108 (lv_at hl 0 rfl) ?_
                    refine ux_calli (va_runV ⟨hx, hb, hml, hown, hts⟩ (s_Rn_readPiece l D ad cA M54 hI adK adV fm d ee hd hde hrec (Mc17 1 ((Mc17 (53 + 7 * d) 5).toNatClampNeg))) (cwV 3 hts (tb_goodV ml_Rn_135 im_Rn_readPiece se_Rn_readPiece ii_Rn kt_Rn_readPiece) rfl rfl rfl (by decide +kernel) ⟨show (12 + 8 * ee + 1) + 1 ≤ (12 + 8 * ee + 2) by omega, show 8 + (7 + 11) + ((600 + 300 * ee + 28)) ≤ (600 + 300 * ee + 54) by omega⟩) (ux_preVZ (by decide) rfl rfl hP hK hi hN hZ hS) rfl rfl hl.1 rfl (lv_room (Nat.le_of_ble_eq_true rfl)) d_Rn_readPieces_110 ⟨Nat.zero_le _, Nat.zero_le _⟩) hS (fun r55 M56 H locs q57 hP hS => ?_)
                    obtain ⟨hI, fq57, q57p⟩ := q57
                    have hF := fr_call hF fq57 (fun a b q => by unfold tP at q; unfold tP; omega)
                    refine lv_istore hx hb d_Rn_readPieces_113 hl (by decide) rfl (fun ls hl => ?_)
                    have hl : lv_has ls 7 [(6, .int r55), (5, .int (Mc17 1 ((Mc17 (53 + 7 * d) 5).toNatClampNeg))), (0, .ref (ad 13)), (1, .ref (ad (53 + 7 * d))), (2, .int (nI d)), (3, .int qt), (4, .int i_4)] := hl
                    refine lv_iload hx hb d_Rn_readPieces_115 (lv_at hl 0 rfl) ?_
                    refine lv_if_eq hx hb d_Rn_readPieces_117 rfl (fun h58 => ?_) (fun h58 => ?_)
                    · have g58 : r55.toInt = 0 := congrArg Int32.toInt h58
                      obtain ⟨x59, ex59⟩ : ∃ z : Int32, z = i_4 + 1 := ⟨_, rfl⟩
                      refine lv_iinc (k := 6) (v := x59) hx hb d_Rn_readPieces_123 hl rfl ex59.symm (by decide) rfl (fun ls hl => ?_)
                      have hl : lv_has ls 7 [(4, .int x59), (6, .int r55), (5, .int (Mc17 1 ((Mc17 (53 + 7 * d) 5).toNatClampNeg))), (0, .ref (ad 13)), (1, .ref (ad (53 + 7 * d))), (2, .int (nI d)), (3, .int qt)] := hl
                      try have fx59 : x59.toInt = i_4.toInt + 1 := by rw [ex59]; exact ti_add (by (try rw [show (1 : Int32).toInt = 1 from rfl]); omega) (by (try rw [show (1 : Int32).toInt = 1 from rfl]); omega)
                      refine lv_goto hx hb d_Rn_readPieces_126 rfl ?_
                      exact ih17 (((201 : Int) - x59.toInt).toNat) (by omega) x59 M56 _ _ ls rfl (show 0 ≤ x59.toInt from by first | omega | assumption | exact Or.inl rfl | exact Or.inr rfl | rfl | decide) hP hI hF hS (lv_sub hl [3, 4, 5, 6, 0] rfl)
                    · have g58 : ¬ (r55.toInt = 0) := fun q => h58 (Int32.toInt_inj.mp q)
                      refine lv_iload hx hb d_Rn_readPieces_120 (lv_at hl 0 rfl) ?_
                      exact W.iret (v := r55) hx hb hr (fun t ht hW => ⟨⟨r55, M56, rfl, ⟨hI, hF, trivial⟩, by unfold ux_E; rw [ht]; exact hP⟩, hS.F ht⟩) hS.2.2 d_Rn_readPieces_122
                  · have g51 : ¬ (r48.toInt = 0) := fun q => h51 (Int32.toInt_inj.mp q)
                    refine lv_iconst (v := 0) hx hb d_Rn_readPieces_93 (by decide) ?_
                    exact W.iret (v := 0) hx hb hr (fun t ht hW => ⟨⟨0, Mc17, rfl, ⟨hI, hF, trivial⟩, by unfold ux_E; rw [ht]; exact hP⟩, hS.F ht⟩) hS.2.2 d_Rn_readPieces_94
            · have g37 : (Mc17 1 ((Mc17 (53 + 7 * d) 5).toNatClampNeg)).toInt = 34 := congrArg Int32.toInt h37
              refine lv_aload_n hx hb d_Rn_readPieces_61 rfl (lv_at hl 2 rfl) ?_
              refine lv_dup hx hb d_Rn_readPieces_62 rfl ?_
              refine ux_getN (C := R_Lv) (T := F_Lv) (N := 10) hx hb hT in_Lv hown hK hP (lk 53 (by decide) hd) (L53 hd) rfl 5 (by decide) (hN _ nf_Rn_101) rfl d_Rn_readPieces_63 ?_
              have b60 := iv0 (M := Mc17) (a := 53 + 7 * d) (b := 5) hI (by unfold p0; omega)
              refine lv_iconst (v := 1) hx hb d_Rn_readPieces_66 (by decide) ?_
              refine lv_iadd hx hb d_Rn_readPieces_67 ?_
              refine lv_topi (fun x61 ex61 => ?_)
              try have fx61 : x61.toInt = (Mc17 (53 + 7 * d) 5).toInt + 1 := by rw [ex61]; exact ti_add (by (try rw [show (1 : Int32).toInt = 1 from rfl]); omega) (by (try rw [show (1 : Int32).toInt = 1 from rfl]); omega)
              refine ux_putN (C := R_Lv) (T := F_Lv) (N := 10) hx hb hT in_Lv t_Lv t_Lv_ok n_Lv hown hK hi hP hS (lk 53 (by decide) hd) (L53 hd) rfl 5 (by decide) (hN _ nf_Rn_101) rfl (rfl) (rfl) rfl d_Rn_readPieces_68 (fun H locs hP hS => ?_)
              have hI := IvX_wr (k := 53 + 7 * d) (j := 5) (v := x61) hI (fun q => by unfold p0 at q; omega) (fun q => by unfold p8 at q; omega) (fun q => by unfold p20 at q; omega) (fun q => by unfold p40 at q; omega) (fun q => by unfold p200 at q; omega) (fun q => by unfold pch at q; omega)
              have hF := fr_wr (k := 53 + 7 * d) (j := 5) (v := x61) hF (by unfold tP; omega)
              generalize eM62 : ux_wr Mc17 (53 + 7 * d) 5 x61 = M62 at hP hI hF
              refine lv_iconst (v := 0) hx hb d_Rn_readPieces_71 (by decide) ?_
              exact W.iret (v := 0) hx hb hr (fun t ht hW => ⟨⟨0, M62, rfl, ⟨hI, hF, trivial⟩, by unfold ux_E; rw [ht]; exact hP⟩, hS.F ht⟩) hS.2.2 d_Rn_readPieces_72
  refine lv_iload_n hx hb d_Rn_readPieces_0 rfl (lv_at hl 3 rfl) ?_
  refine lv_if_eq hx hb d_Rn_readPieces_1 rfl (fun h63 => ?_) (fun h63 => ?_)
  · have g63 : qt.toInt = 0 := congrArg Int32.toInt h63
    refine lv_iconst (v := 0) hx hb d_Rn_readPieces_14 (by decide) ?_
    refine lv_istore hx hb d_Rn_readPieces_15 hl (by decide) rfl (fun ls hl => ?_)
    have hl : lv_has ls 7 [(4, .int 0), (0, .ref (ad 13)), (1, .ref (ad (53 + 7 * d))), (2, .int (nI d)), (3, .int qt)] := hl
    exact cut17 (((201 : Int) - 0).toNat) 0 M _ _ ls rfl (show 0 ≤ 0 from by first | omega | assumption | exact Or.inl rfl | exact Or.inr rfl | rfl | decide) hP hI hF hS (lv_sub hl [1, 2, 3, 4, 0] rfl)
  · have g63 : ¬ (qt.toInt = 0) := fun q => h63 (Int32.toInt_inj.mp q)
    refine lv_aload_n hx hb d_Rn_readPieces_4 rfl (lv_at hl 1 rfl) ?_
    refine lv_dup hx hb d_Rn_readPieces_5 rfl ?_
    refine ux_getN (C := R_Lv) (T := F_Lv) (N := 10) hx hb hT in_Lv hown hK hP (lk 53 (by decide) hd) (L53 hd) rfl 5 (by decide) (hN _ nf_Rn_101) rfl d_Rn_readPieces_6 ?_
    have b64 := iv0 (M := M) (a := 53 + 7 * d) (b := 5) hI (by unfold p0; omega)
    refine lv_iconst (v := 1) hx hb d_Rn_readPieces_9 (by decide) ?_
    refine lv_iadd hx hb d_Rn_readPieces_10 ?_
    refine lv_topi (fun x65 ex65 => ?_)
    try have fx65 : x65.toInt = (M (53 + 7 * d) 5).toInt + 1 := by rw [ex65]; exact ti_add (by (try rw [show (1 : Int32).toInt = 1 from rfl]); omega) (by (try rw [show (1 : Int32).toInt = 1 from rfl]); omega)
    refine ux_putN (C := R_Lv) (T := F_Lv) (N := 10) hx hb hT in_Lv t_Lv t_Lv_ok n_Lv hown hK hi hP hS (lk 53 (by decide) hd) (L53 hd) rfl 5 (by decide) (hN _ nf_Rn_101) rfl (rfl) (rfl) rfl d_Rn_readPieces_11 (fun H locs hP hS => ?_)
    have hI := IvX_wr (k := 53 + 7 * d) (j := 5) (v := x65) hI (fun q => by unfold p0 at q; omega) (fun q => by unfold p8 at q; omega) (fun q => by unfold p20 at q; omega) (fun q => by unfold p40 at q; omega) (fun q => by unfold p200 at q; omega) (fun q => by unfold pch at q; omega)
    have hF := fr_wr (k := 53 + 7 * d) (j := 5) (v := x65) hF (by unfold tP; omega)
    generalize eM66 : ux_wr M (53 + 7 * d) 5 x65 = M66 at hP hI hF
    refine lv_iconst (v := 0) hx hb d_Rn_readPieces_14 (by decide) ?_
    refine lv_istore hx hb d_Rn_readPieces_15 hl (by decide) rfl (fun ls hl => ?_)
    have hl : lv_has ls 7 [(4, .int 0), (0, .ref (ad 13)), (1, .ref (ad (53 + 7 * d))), (2, .int (nI d)), (3, .int qt)] := hl
    exact cut17 (((201 : Int) - 0).toNat) 0 M66 _ _ ls rfl (show 0 ≤ 0 from by first | omega | assumption | exact Or.inl rfl | exact Or.inr rfl | rfl | decide) hP hI hF hS (lv_sub hl [1, 2, 3, 4, 0] rfl)

set_option maxHeartbeats 1600000 in
set_option maxRecDepth 100000 in
theorem s_Rn_readWord (l : Launch) (D : va_G) (ad : Nat → Nat) (cA : Nat → ClassId) (M : ux_M) (hI : IvX M) (adK adV : Nat → Nat) (fm : Value) (d ee : Nat) (hd : d < 8) (hde : d + ee = 7) (hrec : RS l D ad cA adK adV fm (d + 1) ee) (ch : Int32) (hat : (M (53 + 7 * d) 5).toInt ≤ 199) : Met l y_Rn_readWord w_Rn_readWord ({ frames := (12 + 8 * ee + 3), cells := 0, slots := 0, locals := (600 + 300 * ee + 80) }) (va_Pc [.ref (ad 13), .ref (ad (53 + 7 * d)), .int (nI d), .int ch] (ux_BZ D ad cA M adK adV fm)) (va_Qi (fun r M1 => IvX M1 ∧ (∀ a b, ¬ (tR d) a b → M1 a b = M a b) ∧ (True)) (ux_E D shX KX ad cA) (ux_A KX ad)) 0 0 (ux_A KX ad) := by
  refine Met.ofW (cc := b_Rn_readWord) (maxL := 6) (ret := (some .int)) (by decide) rfl ?_
  intro p e s m args below meth c s₁ B hml hv
  obtain ⟨rfl, ⟨hP, hK, hi, hN⟩, hZ⟩ := hv
  have hx := B.exec
  have hb := B.bytes
  have hr := B.returns
  have hts := atoms_spec (ws := w_Rn_readWord) B.pre
  have hown : s.vm.findClass R_Rn = some m.cls := findClass_of_methodNamed B.named
  have hlocks := B.notSynchronized
  have hT : ∀ w ∈ tb, w.before _ s = true := fun w h => hts w (List.mem_cons_of_mem _ h)
  have hS : va_S (ux_A KX ad) s.heap s.heap [] := va_S.rf
  have hl := lv_entry ([.ref (ad 13), .ref (ad (53 + 7 * d)), .int (nI d), .int ch]) (n := 6) (Nat.le_of_ble_eq_true rfl)
  rw [lg_entry_eq]
  generalize (lg_sl ([.ref (ad 13), .ref (ad (53 + 7 * d)), .int (nI d), .int ch]) ++ List.replicate (6 - (lg_sl ([.ref (ad 13), .ref (ad (53 + 7 * d)), .int (nI d), .int ch])).length) Slot.unset).toArray = ls at hl ⊢
  have hl : lv_has ls 6 [(0, .ref (ad 13)), (1, .ref (ad (53 + 7 * d))), (2, .int (nI d)), (3, .int ch)] := hl
  have hF : ∀ a b, ¬ (tR d) a b → M a b = M a b := fun _ _ _ => rfl
  have hdt : (nI d).toInt = (d : Int) := nI_toInt (by omega)
  refine lv_aload_n hx hb d_Rn_readWord_0 rfl (lv_at hl 1 rfl) ?_
  refine ux_getN (C := R_Lv) (T := F_Lv) (N := 10) hx hb hT in_Lv hown hK hP (lk 53 (by decide) hd) (L53 hd) rfl 4 (by decide) (hN _ nf_Rn_83) rfl d_Rn_readWord_1 ?_
  have b1 := iv0 (M := M) (a := 53 + 7 * d) (b := 4) hI (by unfold p0; omega)
  have b2 := iv8 (M := M) (a := 53 + 7 * d) (b := 4) hI (by unfold p8; omega)
  refine lv_bipush (v := 8) hx hb d_Rn_readWord_4 (by decide) ?_
  refine lv_icmp_lt hx hb d_Rn_readWord_6 rfl (fun h3 => ?_) (fun h3 => ?_)
  · have g3 : (M (53 + 7 * d) 4).toInt < 8 := Int32.lt_iff_toInt_lt.mp h3
    have w3 := ti_lo (M (53 + 7 * d) 4)
    refine lv_aload_n hx hb d_Rn_readWord_15 rfl (lv_at hl 1 rfl) ?_
    refine ux_callv (va_runV ⟨hx, hb, hml, hown, hts⟩ (s_Lv_beginWord l D ad cA M hI d hd ) (cwV 0 hts (tb_goodV ml_Rn_118 im_Lv_beginWord se_Lv_beginWord ii_Lv kt_Lv_beginWord) rfl rfl rfl (by decide +kernel) ⟨show 1 + 1 ≤ (12 + 8 * ee + 3) by omega, show 8 + (1 + 11) + (21) ≤ (600 + 300 * ee + 80) by omega⟩) (ux_preV (lk 53 (by decide) hd) (L53 hd) rfl hP hK hi hN) rfl rfl hl.1 rfl (lv_room (Nat.le_of_ble_eq_true rfl)) d_Rn_readWord_16 ⟨Nat.zero_le _, Nat.zero_le _⟩) hS (fun M5 H locs q6 hP hS => ?_)
    obtain ⟨hI, fq6, q6p⟩ := q6
    have hF := fr_call hF fq6 (fun a b q => by unfold tLw at q; unfold tR; omega)
    have hat5 := congrArg Int32.toInt (show M5 (53 + 7 * d) 5 = M (53 + 7 * d) 5 from fq6 _ _ (by unfold tLw; omega))
    refine lv_iload_n hx hb d_Rn_readWord_19 rfl (lv_at hl 3 rfl) ?_
    refine lv_bipush (v := 123) hx hb d_Rn_readWord_20 (by decide) ?_
    refine lv_icmp_ne hx hb d_Rn_readWord_22 rfl (fun h7 => ?_) (fun h7 => ?_)
    · have g7 : ¬ (ch.toInt = 123) := fun q => h7 (Int32.toInt_inj.mp q)
      refine lv_iload_n hx hb d_Rn_readWord_31 rfl (lv_at hl 3 rfl) ?_
      refine lv_bipush (v := 34) hx hb d_Rn_readWord_32 (by decide) ?_
      refine lv_icmp_ne hx hb d_Rn_readWord_34 rfl (fun h8 => ?_) (fun h8 => ?_)
      · have g8 : ¬ (ch.toInt = 34) := fun q => h8 (Int32.toInt_inj.mp q)
        refine lv_iconst (v := 0) hx hb d_Rn_readWord_41 (by decide) ?_
        refine lv_istore hx hb d_Rn_readWord_42 hl (by decide) rfl (fun ls hl => ?_)
        have hl : lv_has ls 6 [(4, .int 0), (0, .ref (ad 13)), (1, .ref (ad (53 + 7 * d))), (2, .int (nI d)), (3, .int ch)] := hl
        refine lv_aload_n hx hb d_Rn_readWord_44 rfl (lv_at hl 1 rfl) ?_
        refine lv_aload_n hx hb d_Rn_readWord_45 rfl (lv_at hl 2 rfl) ?_
        refine lv_iload_n hx hb d_Rn_readWord_46 rfl (lv_at hl 3 rfl) ?_
        refine lv_iload hx hb d_Rn_readWord_47 (lv_at hl 0 rfl) ?_
        refine ux_calli (va_runV ⟨hx, hb, hml, hown, hts⟩ (s_Rn_readPieces l D ad cA M5 hI adK adV fm d ee hd hde hrec 0 (by omega)) (cwV 3 hts (tb_goodV ml_Rn_124 im_Rn_readPieces se_Rn_readPieces ii_Rn kt_Rn_readPieces) rfl rfl rfl (by decide +kernel) ⟨show (12 + 8 * ee + 2) + 1 ≤ (12 + 8 * ee + 3) by omega, show 8 + (7 + 11) + ((600 + 300 * ee + 54)) ≤ (600 + 300 * ee + 80) by omega⟩) (ux_preVZ (by decide) rfl rfl hP hK hi hN hZ hS) rfl rfl hl.1 rfl (lv_room (Nat.le_of_ble_eq_true rfl)) d_Rn_readWord_49 ⟨Nat.zero_le _, Nat.zero_le _⟩) hS (fun r9 M10 H locs q11 hP hS => ?_)
        obtain ⟨hI, fq11, q11p⟩ := q11
        have hF := fr_call hF fq11 (fun a b q => by unfold tP at q; unfold tR; omega)
        refine lv_istore hx hb d_Rn_readWord_52 hl (by decide) rfl (fun ls hl => ?_)
        have hl : lv_has ls 6 [(5, .int r9), (4, .int 0), (0, .ref (ad 13)), (1, .ref (ad (53 + 7 * d))), (2, .int (nI d)), (3, .int ch)] := hl
        refine lv_iload hx hb d_Rn_readWord_54 (lv_at hl 0 rfl) ?_
        refine lv_if_eq hx hb d_Rn_readWord_56 rfl (fun h12 => ?_) (fun h12 => ?_)
        · have g12 : r9.toInt = 0 := congrArg Int32.toInt h12
          refine lv_aload_n hx hb d_Rn_readWord_62 rfl (lv_at hl 3 rfl) ?_
          refine lv_dup hx hb d_Rn_readWord_63 rfl ?_
          refine ux_getN (C := R_Lv) (T := F_Lv) (N := 10) hx hb hT in_Lv hown hK hP (lk 53 (by decide) hd) (L53 hd) rfl 4 (by decide) (hN _ nf_Rn_83) rfl d_Rn_readWord_64 ?_
          refine lv_topi (fun z13 hz13 => ?_)
          rw [show M10 (53 + 7 * d) 4 = M (53 + 7 * d) 4 from (fq11 _ _ (by unfold tP; omega)).trans (fq6 _ _ (by unfold tLw; omega))] at hz13
          rw [hz13]
          refine lv_iconst (v := 1) hx hb d_Rn_readWord_67 (by decide) ?_
          refine lv_iadd hx hb d_Rn_readWord_68 ?_
          refine lv_topi (fun x14 ex14 => ?_)
          try have fx14 : x14.toInt = (M (53 + 7 * d) 4).toInt + 1 := by rw [ex14]; exact ti_add (by (try rw [show (1 : Int32).toInt = 1 from rfl]); omega) (by (try rw [show (1 : Int32).toInt = 1 from rfl]); omega)
          refine ux_putN (C := R_Lv) (T := F_Lv) (N := 10) hx hb hT in_Lv t_Lv t_Lv_ok n_Lv hown hK hi hP hS (lk 53 (by decide) hd) (L53 hd) rfl 4 (by decide) (hN _ nf_Rn_83) rfl (rfl) (rfl) rfl d_Rn_readWord_69 (fun H locs hP hS => ?_)
          have hI := IvX_wr (k := 53 + 7 * d) (j := 4) (v := x14) hI (fun q => by unfold p0 at q; omega) (fun q => by unfold p8 at q; omega) (fun q => by unfold p20 at q; omega) (fun q => by unfold p40 at q; omega) (fun q => by unfold p200 at q; omega) (fun q => by unfold pch at q; omega)
          have hF := fr_wr (k := 53 + 7 * d) (j := 4) (v := x14) hF (by unfold tR; omega)
          generalize eM15 : ux_wr M10 (53 + 7 * d) 4 x14 = M15 at hP hI hF
          refine lv_iload hx hb d_Rn_readWord_72 (lv_at hl 1 rfl) ?_
          refine lv_if_eq hx hb d_Rn_readWord_74 rfl (fun _ => ?_) (fun hz => absurd (by decide) hz)
          refine lv_iconst (v := 0) hx hb d_Rn_readWord_85 (by decide) ?_
          exact W.iret (v := 0) hx hb hr (fun t ht hW => ⟨⟨0, M15, rfl, ⟨hI, hF, trivial⟩, by unfold ux_E; rw [ht]; exact hP⟩, hS.F ht⟩) hS.2.2 d_Rn_readWord_86
        · have g12 : ¬ (r9.toInt = 0) := fun q => h12 (Int32.toInt_inj.mp q)
          refine lv_iload hx hb d_Rn_readWord_59 (lv_at hl 0 rfl) ?_
          exact W.iret (v := r9) hx hb hr (fun t ht hW => ⟨⟨r9, M10, rfl, ⟨hI, hF, trivial⟩, by unfold ux_E; rw [ht]; exact hP⟩, hS.F ht⟩) hS.2.2 d_Rn_readWord_61
      · have g8 : ch.toInt = 34 := congrArg Int32.toInt h8
        refine lv_iconst (v := 1) hx hb d_Rn_readWord_37 (by decide) ?_
        refine lv_goto hx hb d_Rn_readWord_38 rfl ?_
        refine lv_istore hx hb d_Rn_readWord_42 hl (by decide) rfl (fun ls hl => ?_)
        have hl : lv_has ls 6 [(4, .int 1), (0, .ref (ad 13)), (1, .ref (ad (53 + 7 * d))), (2, .int (nI d)), (3, .int ch)] := hl
        refine lv_aload_n hx hb d_Rn_readWord_44 rfl (lv_at hl 1 rfl) ?_
        refine lv_aload_n hx hb d_Rn_readWord_45 rfl (lv_at hl 2 rfl) ?_
        refine lv_iload_n hx hb d_Rn_readWord_46 rfl (lv_at hl 3 rfl) ?_
        refine lv_iload hx hb d_Rn_readWord_47 (lv_at hl 0 rfl) ?_
        refine ux_calli (va_runV ⟨hx, hb, hml, hown, hts⟩ (s_Rn_readPieces l D ad cA M5 hI adK adV fm d ee hd hde hrec 1 (by omega)) (cwV 3 hts (tb_goodV ml_Rn_124 im_Rn_readPieces se_Rn_readPieces ii_Rn kt_Rn_readPieces) rfl rfl rfl (by decide +kernel) ⟨show (12 + 8 * ee + 2) + 1 ≤ (12 + 8 * ee + 3) by omega, show 8 + (7 + 11) + ((600 + 300 * ee + 54)) ≤ (600 + 300 * ee + 80) by omega⟩) (ux_preVZ (by decide) rfl rfl hP hK hi hN hZ hS) rfl rfl hl.1 rfl (lv_room (Nat.le_of_ble_eq_true rfl)) d_Rn_readWord_49 ⟨Nat.zero_le _, Nat.zero_le _⟩) hS (fun r16 M17 H locs q18 hP hS => ?_)
        obtain ⟨hI, fq18, q18p⟩ := q18
        have hF := fr_call hF fq18 (fun a b q => by unfold tP at q; unfold tR; omega)
        refine lv_istore hx hb d_Rn_readWord_52 hl (by decide) rfl (fun ls hl => ?_)
        have hl : lv_has ls 6 [(5, .int r16), (4, .int 1), (0, .ref (ad 13)), (1, .ref (ad (53 + 7 * d))), (2, .int (nI d)), (3, .int ch)] := hl
        refine lv_iload hx hb d_Rn_readWord_54 (lv_at hl 0 rfl) ?_
        refine lv_if_eq hx hb d_Rn_readWord_56 rfl (fun h19 => ?_) (fun h19 => ?_)
        · have g19 : r16.toInt = 0 := congrArg Int32.toInt h19
          refine lv_aload_n hx hb d_Rn_readWord_62 rfl (lv_at hl 3 rfl) ?_
          refine lv_dup hx hb d_Rn_readWord_63 rfl ?_
          refine ux_getN (C := R_Lv) (T := F_Lv) (N := 10) hx hb hT in_Lv hown hK hP (lk 53 (by decide) hd) (L53 hd) rfl 4 (by decide) (hN _ nf_Rn_83) rfl d_Rn_readWord_64 ?_
          refine lv_topi (fun z20 hz20 => ?_)
          rw [show M17 (53 + 7 * d) 4 = M (53 + 7 * d) 4 from (fq18 _ _ (by unfold tP; omega)).trans (fq6 _ _ (by unfold tLw; omega))] at hz20
          rw [hz20]
          refine lv_iconst (v := 1) hx hb d_Rn_readWord_67 (by decide) ?_
          refine lv_iadd hx hb d_Rn_readWord_68 ?_
          refine lv_topi (fun x21 ex21 => ?_)
          try have fx21 : x21.toInt = (M (53 + 7 * d) 4).toInt + 1 := by rw [ex21]; exact ti_add (by (try rw [show (1 : Int32).toInt = 1 from rfl]); omega) (by (try rw [show (1 : Int32).toInt = 1 from rfl]); omega)
          refine ux_putN (C := R_Lv) (T := F_Lv) (N := 10) hx hb hT in_Lv t_Lv t_Lv_ok n_Lv hown hK hi hP hS (lk 53 (by decide) hd) (L53 hd) rfl 4 (by decide) (hN _ nf_Rn_83) rfl (rfl) (rfl) rfl d_Rn_readWord_69 (fun H locs hP hS => ?_)
          have hI := IvX_wr (k := 53 + 7 * d) (j := 4) (v := x21) hI (fun q => by unfold p0 at q; omega) (fun q => by unfold p8 at q; omega) (fun q => by unfold p20 at q; omega) (fun q => by unfold p40 at q; omega) (fun q => by unfold p200 at q; omega) (fun q => by unfold pch at q; omega)
          have hF := fr_wr (k := 53 + 7 * d) (j := 4) (v := x21) hF (by unfold tR; omega)
          generalize eM22 : ux_wr M17 (53 + 7 * d) 4 x21 = M22 at hP hI hF
          refine lv_iload hx hb d_Rn_readWord_72 (lv_at hl 1 rfl) ?_
          refine lv_if_eq hx hb d_Rn_readWord_74 rfl (fun hz => absurd hz (by decide)) (fun _ => ?_)
          refine lv_aload_n hx hb d_Rn_readWord_77 rfl (lv_at hl 2 rfl) ?_
          refine lv_aload_n hx hb d_Rn_readWord_78 rfl (lv_at hl 3 rfl) ?_
          refine ux_calli (va_runV ⟨hx, hb, hml, hown, hts⟩ (s_Rn_checkBehind l D ad cA M22 hI d hd ) (cwV 1 hts (tb_goodV ml_Rn_128 im_Rn_checkBehind se_Rn_checkBehind ii_Rn kt_Rn_checkBehind) rfl rfl rfl (by decide +kernel) ⟨show 2 + 1 ≤ (12 + 8 * ee + 3) by omega, show 8 + (3 + 11) + (43) ≤ (600 + 300 * ee + 80) by omega⟩) (ux_preV (by decide) rfl rfl hP hK hi hN) rfl rfl hl.1 rfl (lv_room (Nat.le_of_ble_eq_true rfl)) d_Rn_readWord_79 ⟨Nat.zero_le _, Nat.zero_le _⟩) hS (fun r23 M24 H locs q25 hP hS => ?_)
          obtain ⟨hI, fq25, q25p⟩ := q25
          have hF := fr_call hF fq25 (fun a b q => by unfold tV at q; unfold tR; omega)
          refine lv_goto hx hb d_Rn_readWord_82 rfl ?_
          exact W.iret (v := r23) hx hb hr (fun t ht hW => ⟨⟨r23, M24, rfl, ⟨hI, hF, trivial⟩, by unfold ux_E; rw [ht]; exact hP⟩, hS.F ht⟩) hS.2.2 d_Rn_readWord_86
        · have g19 : ¬ (r16.toInt = 0) := fun q => h19 (Int32.toInt_inj.mp q)
          refine lv_iload hx hb d_Rn_readWord_59 (lv_at hl 0 rfl) ?_
          exact W.iret (v := r16) hx hb hr (fun t ht hW => ⟨⟨r16, M17, rfl, ⟨hI, hF, trivial⟩, by unfold ux_E; rw [ht]; exact hP⟩, hS.F ht⟩) hS.2.2 d_Rn_readWord_61
    · have g7 : ch.toInt = 123 := congrArg Int32.toInt h7
      refine lv_aload_n hx hb d_Rn_readWord_25 rfl (lv_at hl 0 rfl) ?_
      refine lv_aload_n hx hb d_Rn_readWord_26 rfl (lv_at hl 1 rfl) ?_
      refine ux_calli (va_runV ⟨hx, hb, hml, hown, hts⟩ (s_Rn_readBraced l D ad cA M5 hI d hd ) (cwV 1 hts (tb_goodV ml_Rn_121 im_Rn_readBraced se_Rn_readBraced ii_Rn kt_Rn_readBraced) rfl rfl rfl (by decide +kernel) ⟨show 3 + 1 ≤ (12 + 8 * ee + 3) by omega, show 8 + (5 + 11) + (69) ≤ (600 + 300 * ee + 80) by omega⟩) (ux_preV (by decide) rfl rfl hP hK hi hN) rfl rfl hl.1 rfl (lv_room (Nat.le_of_ble_eq_true rfl)) d_Rn_readWord_27 ⟨Nat.zero_le _, Nat.zero_le _⟩) hS (fun r26 M27 H locs q28 hP hS => ?_)
      obtain ⟨hI, fq28, q28p⟩ := q28
      have hF := fr_call hF fq28 (fun a b q => by unfold tRb at q; unfold tR; omega)
      exact W.iret (v := r26) hx hb hr (fun t ht hW => ⟨⟨r26, M27, rfl, ⟨hI, hF, trivial⟩, by unfold ux_E; rw [ht]; exact hP⟩, hS.F ht⟩) hS.2.2 d_Rn_readWord_30
  · have g3 : ¬ ((M (53 + 7 * d) 4).toInt < 8) := fun q => h3 (Int32.lt_iff_toInt_lt.mpr q)
    have u3 := ti_hi (M (53 + 7 * d) 4)
    refine lv_aload_n hx hb d_Rn_readWord_9 rfl (lv_at hl 0 rfl) ?_
    refine lv_iconst (v := 1) hx hb d_Rn_readWord_10 (by decide) ?_
    refine ux_calli (va_runV ⟨hx, hb, hml, hown, hts⟩ (s_Rn_fail l D ad cA M hI 1) (cwV 1 hts (tb_goodV ml_Rn_64 im_Rn_fail se_Rn_fail ii_Rn kt_Rn_fail) rfl rfl rfl (by decide +kernel) ⟨show 1 + 1 ≤ (12 + 8 * ee + 3) by omega, show 8 + (2 + 11) + (22) ≤ (600 + 300 * ee + 80) by omega⟩) (ux_preV (by decide) rfl rfl hP hK hi hN) rfl rfl hl.1 rfl (lv_room (Nat.le_of_ble_eq_true rfl)) d_Rn_readWord_11 ⟨Nat.zero_le _, Nat.zero_le _⟩) hS (fun r29 M30 H locs q31 hP hS => ?_)
    obtain ⟨hI, fq31, q31p⟩ := q31
    have hF := fr_call hF fq31 (fun a b q => by unfold tV at q; unfold tR; omega)
    exact W.iret (v := r29) hx hb hr (fun t ht hW => ⟨⟨r29, M30, rfl, ⟨hI, hF, trivial⟩, by unfold ux_E; rw [ht]; exact hP⟩, hS.F ht⟩) hS.2.2 d_Rn_readWord_14

set_option maxHeartbeats 1600000 in
set_option maxRecDepth 100000 in
theorem s_Rn_readCommand (l : Launch) (D : va_G) (ad : Nat → Nat) (cA : Nat → ClassId) (M : ux_M) (hI : IvX M) (adK adV : Nat → Nat) (fm : Value) (d ee : Nat) (hd : d < 8) (hde : d + ee = 7) (hrec : RS l D ad cA adK adV fm (d + 1) ee) : Met l y_Rn_readCommand w_Rn_readCommand ({ frames := (12 + 8 * ee + 4), cells := 0, slots := 0, locals := (600 + 300 * ee + 105) }) (va_Pc [.ref (ad 13), .ref (ad (53 + 7 * d)), .int (nI d)] (ux_BZ D ad cA M adK adV fm)) (va_Qi (fun r M1 => IvX M1 ∧ (∀ a b, ¬ (tR d) a b → M1 a b = M a b) ∧ (True)) (ux_E D shX KX ad cA) (ux_A KX ad)) 0 0 (ux_A KX ad) := by
  refine Met.ofW (cc := b_Rn_readCommand) (maxL := 6) (ret := (some .int)) (by decide) rfl ?_
  intro p e s m args below meth c s₁ B hml hv
  obtain ⟨rfl, ⟨hP, hK, hi, hN⟩, hZ⟩ := hv
  have hx := B.exec
  have hb := B.bytes
  have hr := B.returns
  have hts := atoms_spec (ws := w_Rn_readCommand) B.pre
  have hown : s.vm.findClass R_Rn = some m.cls := findClass_of_methodNamed B.named
  have hlocks := B.notSynchronized
  have hT : ∀ w ∈ tb, w.before _ s = true := fun w h => hts w (List.mem_cons_of_mem _ h)
  have hS : va_S (ux_A KX ad) s.heap s.heap [] := va_S.rf
  have hl := lv_entry ([.ref (ad 13), .ref (ad (53 + 7 * d)), .int (nI d)]) (n := 6) (Nat.le_of_ble_eq_true rfl)
  rw [lg_entry_eq]
  generalize (lg_sl ([.ref (ad 13), .ref (ad (53 + 7 * d)), .int (nI d)]) ++ List.replicate (6 - (lg_sl ([.ref (ad 13), .ref (ad (53 + 7 * d)), .int (nI d)])).length) Slot.unset).toArray = ls at hl ⊢
  have hl : lv_has ls 6 [(0, .ref (ad 13)), (1, .ref (ad (53 + 7 * d))), (2, .int (nI d))] := hl
  have hF : ∀ a b, ¬ (tR d) a b → M a b = M a b := fun _ _ _ => rfl
  have hdt : (nI d).toInt = (d : Int) := nI_toInt (by omega)
  have cut7 : ∀ (nn : Nat) (i_3 : Int32) (Mc7 : ux_M) (H : Heap) (locs : List Loc) (ls : Array Slot), ((201 : Int) - i_3.toInt).toNat = nn → (0 ≤ i_3.toInt) → va_P D classes (ux_w shX KX ad cA Mc7) H → IvX Mc7 → (∀ a b, ¬ (tR d) a b → Mc7 a b = M a b) → va_S (ux_A KX ad) s.heap H locs → lv_has ls 6 [(0, .ref (ad 13)), (1, .ref (ad (53 + 7 * d))), (2, .int (nI d)), (3, .int i_3)] → W p l e (headSpec w_Rn_readCommand ({ frames := (12 + 8 * ee + 4), cells := 0, slots := 0, locals := (600 + 300 * ee + 105) })).room s m (([.ref (ad 13), .ref (ad (53 + 7 * d)), .int (nI d)] : List Value).toArray) below meth c H locs 0 0 (MQ below (va_Qi (fun r M1 => IvX M1 ∧ (∀ a b, ¬ (tR d) a b → M1 a b = M a b) ∧ (True)) (ux_E D shX KX ad cA) (ux_A KX ad)) (([.ref (ad 13), .ref (ad (53 + 7 * d)), .int (nI d)] : List Value).toArray) s 0 0 (ux_A KX ad)) (F0 m 7 ls []) := by
    intro nn
    induction nn using Nat.strongRecOn with
    | ind nn ih7 =>
      intro i_3 Mc7 H locs ls hn c7_0 hP hI hF hS hl
      refine lv_iload_n hx hb d_Rn_readCommand_7 rfl (lv_at hl 3 rfl) ?_
      refine lv_sipush (v := 200) hx hb d_Rn_readCommand_8 (by decide) ?_
      refine lv_icmp_gt hx hb d_Rn_readCommand_11 rfl (fun h1 => ?_) (fun h1 => ?_)
      · have g1 : 200 < i_3.toInt := Int32.lt_iff_toInt_lt.mp h1
        have u1 := ti_hi i_3
        refine lv_aload_n hx hb d_Rn_readCommand_120 rfl (lv_at hl 1 rfl) ?_
        refine lv_iconst (v := 1) hx hb d_Rn_readCommand_121 (by decide) ?_
        refine ux_putN (C := R_Lv) (T := F_Lv) (N := 10) hx hb hT in_Lv t_Lv t_Lv_ok n_Lv hown hK hi hP hS (lk 53 (by decide) hd) (L53 hd) rfl 9 (by decide) (hN _ nf_Rn_75) rfl (rfl) (rfl) rfl d_Rn_readCommand_122 (fun H locs hP hS => ?_)
        have hI := IvX_free (k := 53 + 7 * d) (j := 9) (v := 1) hI (by unfold ppn; omega) (by unfold pch; omega)
        have hF := fr_wr (k := 53 + 7 * d) (j := 9) (v := 1) hF (by unfold tR; omega)
        generalize eM2 : ux_wr Mc7 (53 + 7 * d) 9 1 = M2 at hP hI hF
        refine lv_aload_n hx hb d_Rn_readCommand_125 rfl (lv_at hl 1 rfl) ?_
        refine ux_getN (C := R_Lv) (T := F_Lv) (N := 10) hx hb hT in_Lv hown hK hP (lk 53 (by decide) hd) (L53 hd) rfl 8 (by decide) (hN _ nf_Rn_115) rfl d_Rn_readCommand_126 ?_
        refine lv_if_eq hx hb d_Rn_readCommand_129 rfl (fun h3 => ?_) (fun h3 => ?_)
        · have g3 : (M2 (53 + 7 * d) 8).toInt = 0 := congrArg Int32.toInt h3
          refine lv_iconst (v := 0) hx hb d_Rn_readCommand_140 (by decide) ?_
          exact W.iret (v := 0) hx hb hr (fun t ht hW => ⟨⟨0, M2, rfl, ⟨hI, hF, trivial⟩, by unfold ux_E; rw [ht]; exact hP⟩, hS.F ht⟩) hS.2.2 d_Rn_readCommand_141
        · have g3 : ¬ ((M2 (53 + 7 * d) 8).toInt = 0) := fun q => h3 (Int32.toInt_inj.mp q)
          refine lv_aload_n hx hb d_Rn_readCommand_132 rfl (lv_at hl 0 rfl) ?_
          refine lv_iconst (v := 1) hx hb d_Rn_readCommand_133 (by decide) ?_
          refine ux_calli (va_runV ⟨hx, hb, hml, hown, hts⟩ (s_Rn_fail l D ad cA M2 hI 1) (cwV 1 hts (tb_goodV ml_Rn_64 im_Rn_fail se_Rn_fail ii_Rn kt_Rn_fail) rfl rfl rfl (by decide +kernel) ⟨show 1 + 1 ≤ (12 + 8 * ee + 4) by omega, show 8 + (2 + 11) + (22) ≤ (600 + 300 * ee + 105) by omega⟩) (ux_preV (by decide) rfl rfl hP hK hi hN) rfl rfl hl.1 rfl (lv_room (Nat.le_of_ble_eq_true rfl)) d_Rn_readCommand_134 ⟨Nat.zero_le _, Nat.zero_le _⟩) hS (fun r4 M5 H locs q6 hP hS => ?_)
          obtain ⟨hI, fq6, q6p⟩ := q6
          have hF := fr_call hF fq6 (fun a b q => by unfold tV at q; unfold tR; omega)
          refine lv_goto hx hb d_Rn_readCommand_137 rfl ?_
          exact W.iret (v := r4) hx hb hr (fun t ht hW => ⟨⟨r4, M5, rfl, ⟨hI, hF, trivial⟩, by unfold ux_E; rw [ht]; exact hP⟩, hS.F ht⟩) hS.2.2 d_Rn_readCommand_141
      · have g1 : ¬ (200 < i_3.toInt) := fun q => h1 (Int32.lt_iff_toInt_lt.mpr q)
        have w1 := ti_lo i_3
        refine lv_aload_n hx hb d_Rn_readCommand_14 rfl (lv_at hl 1 rfl) ?_
        refine ux_getN (C := R_Lv) (T := F_Lv) (N := 10) hx hb hT in_Lv hown hK hP (lk 53 (by decide) hd) (L53 hd) rfl 5 (by decide) (hN _ nf_Rn_101) rfl d_Rn_readCommand_15 ?_
        have b7 := iv0 (M := Mc7) (a := 53 + 7 * d) (b := 5) hI (by unfold p0; omega)
        refine lv_aload_n hx hb d_Rn_readCommand_18 rfl (lv_at hl 1 rfl) ?_
        refine ux_getN (C := R_Lv) (T := F_Lv) (N := 10) hx hb hT in_Lv hown hK hP (lk 53 (by decide) hd) (L53 hd) rfl 6 (by decide) (hN _ nf_Rn_104) rfl d_Rn_readCommand_19 ?_
        have b8 := iv200 (M := Mc7) (a := 53 + 7 * d) (b := 6) hI (by unfold p200; omega)
        refine lv_icmp_ge hx hb d_Rn_readCommand_22 rfl (fun h9 => ?_) (fun h9 => ?_)
        · have g9 : (Mc7 (53 + 7 * d) 6).toInt ≤ (Mc7 (53 + 7 * d) 5).toInt := Int32.le_iff_toInt_le.mp h9
          have u9 := ti_hi (Mc7 (53 + 7 * d) 5)
          have w9 := ti_lo (Mc7 (53 + 7 * d) 6)
          refine lv_aload_n hx hb d_Rn_readCommand_120 rfl (lv_at hl 1 rfl) ?_
          refine lv_iconst (v := 1) hx hb d_Rn_readCommand_121 (by decide) ?_
          refine ux_putN (C := R_Lv) (T := F_Lv) (N := 10) hx hb hT in_Lv t_Lv t_Lv_ok n_Lv hown hK hi hP hS (lk 53 (by decide) hd) (L53 hd) rfl 9 (by decide) (hN _ nf_Rn_75) rfl (rfl) (rfl) rfl d_Rn_readCommand_122 (fun H locs hP hS => ?_)
          have hI := IvX_free (k := 53 + 7 * d) (j := 9) (v := 1) hI (by unfold ppn; omega) (by unfold pch; omega)
          have hF := fr_wr (k := 53 + 7 * d) (j := 9) (v := 1) hF (by unfold tR; omega)
          generalize eM10 : ux_wr Mc7 (53 + 7 * d) 9 1 = M10 at hP hI hF
          refine lv_aload_n hx hb d_Rn_readCommand_125 rfl (lv_at hl 1 rfl) ?_
          refine ux_getN (C := R_Lv) (T := F_Lv) (N := 10) hx hb hT in_Lv hown hK hP (lk 53 (by decide) hd) (L53 hd) rfl 8 (by decide) (hN _ nf_Rn_115) rfl d_Rn_readCommand_126 ?_
          refine lv_if_eq hx hb d_Rn_readCommand_129 rfl (fun h11 => ?_) (fun h11 => ?_)
          · have g11 : (M10 (53 + 7 * d) 8).toInt = 0 := congrArg Int32.toInt h11
            refine lv_iconst (v := 0) hx hb d_Rn_readCommand_140 (by decide) ?_
            exact W.iret (v := 0) hx hb hr (fun t ht hW => ⟨⟨0, M10, rfl, ⟨hI, hF, trivial⟩, by unfold ux_E; rw [ht]; exact hP⟩, hS.F ht⟩) hS.2.2 d_Rn_readCommand_141
          · have g11 : ¬ ((M10 (53 + 7 * d) 8).toInt = 0) := fun q => h11 (Int32.toInt_inj.mp q)
            refine lv_aload_n hx hb d_Rn_readCommand_132 rfl (lv_at hl 0 rfl) ?_
            refine lv_iconst (v := 1) hx hb d_Rn_readCommand_133 (by decide) ?_
            refine ux_calli (va_runV ⟨hx, hb, hml, hown, hts⟩ (s_Rn_fail l D ad cA M10 hI 1) (cwV 1 hts (tb_goodV ml_Rn_64 im_Rn_fail se_Rn_fail ii_Rn kt_Rn_fail) rfl rfl rfl (by decide +kernel) ⟨show 1 + 1 ≤ (12 + 8 * ee + 4) by omega, show 8 + (2 + 11) + (22) ≤ (600 + 300 * ee + 105) by omega⟩) (ux_preV (by decide) rfl rfl hP hK hi hN) rfl rfl hl.1 rfl (lv_room (Nat.le_of_ble_eq_true rfl)) d_Rn_readCommand_134 ⟨Nat.zero_le _, Nat.zero_le _⟩) hS (fun r12 M13 H locs q14 hP hS => ?_)
            obtain ⟨hI, fq14, q14p⟩ := q14
            have hF := fr_call hF fq14 (fun a b q => by unfold tV at q; unfold tR; omega)
            refine lv_goto hx hb d_Rn_readCommand_137 rfl ?_
            exact W.iret (v := r12) hx hb hr (fun t ht hW => ⟨⟨r12, M13, rfl, ⟨hI, hF, trivial⟩, by unfold ux_E; rw [ht]; exact hP⟩, hS.F ht⟩) hS.2.2 d_Rn_readCommand_141
        · have g9 : ¬ ((Mc7 (53 + 7 * d) 6).toInt ≤ (Mc7 (53 + 7 * d) 5).toInt) := fun q => h9 (Int32.le_iff_toInt_le.mpr q)
          have u9 := ti_hi (Mc7 (53 + 7 * d) 6)
          have w9 := ti_lo (Mc7 (53 + 7 * d) 5)
          refine lv_aload_n hx hb d_Rn_readCommand_25 rfl (lv_at hl 0 rfl) ?_
          refine ux_get (C := R_Rn) (T := F_Rn) (N := 9) hx hb hT in_Rn hown hK hP (by decide) rfl rfl 0 (by decide) (hT _ fl_Rn_40) rfl d_Rn_readCommand_26 ?_
          refine ux_getN (C := R_Tx) (T := F_Tx) (N := 3) hx hb hT in_Tx hown hK hP (by decide) rfl rfl 0 (by decide) (hN _ nf_Rn_50) rfl d_Rn_readCommand_29 ?_
          refine lv_aload_n hx hb d_Rn_readCommand_32 rfl (lv_at hl 1 rfl) ?_
          refine ux_getN (C := R_Lv) (T := F_Lv) (N := 10) hx hb hT in_Lv hown hK hP (lk 53 (by decide) hd) (L53 hd) rfl 5 (by decide) (hN _ nf_Rn_101) rfl d_Rn_readCommand_33 ?_
          have b15 := iv0 (M := Mc7) (a := 53 + 7 * d) (b := 5) hI (by unfold p0; omega)
          refine ux_cald hx hb hK hP (by decide) rfl ((vi (show 0 ≤ (Mc7 (53 + 7 * d) 5).toInt by omega) (show (Mc7 (53 + 7 * d) 5).toInt < ((200 : Nat) : Int) by omega))) d_Rn_readCommand_36 ?_
          refine lv_istore hx hb d_Rn_readCommand_37 hl (by decide) rfl (fun ls hl => ?_)
          have hl : lv_has ls 6 [(4, .int (Mc7 1 ((Mc7 (53 + 7 * d) 5).toNatClampNeg))), (0, .ref (ad 13)), (1, .ref (ad (53 + 7 * d))), (2, .int (nI d)), (3, .int i_3)] := hl
          refine lv_aload_n hx hb d_Rn_readCommand_39 rfl (lv_at hl 2 rfl) ?_
          refine lv_iload hx hb d_Rn_readCommand_40 (lv_at hl 0 rfl) ?_
          refine ux_calli (va_runV ⟨hx, hb, hml, hown, hts⟩ (s_Lv_endsCommand l D ad cA Mc7 hI d hd (Mc7 1 ((Mc7 (53 + 7 * d) 5).toNatClampNeg))) (cwV 1 hts (tb_goodV ml_Rn_107 im_Lv_endsCommand se_Lv_endsCommand ii_Lv kt_Lv_endsCommand) rfl rfl rfl (by decide +kernel) ⟨show 0 + 1 ≤ (12 + 8 * ee + 4) by omega, show 8 + (2 + 11) + (0) ≤ (600 + 300 * ee + 105) by omega⟩) (ux_preV (lk 53 (by decide) hd) (L53 hd) rfl hP hK hi hN) rfl rfl hl.1 rfl (lv_room (Nat.le_of_ble_eq_true rfl)) d_Rn_readCommand_42 ⟨Nat.zero_le _, Nat.zero_le _⟩) hS (fun r16 M17 H locs q18 hP hS => ?_)
          obtain ⟨hI, fq18, q18p⟩ := q18
          rw [tN_eq fq18] at hP hI
          refine lv_if_eq hx hb d_Rn_readCommand_45 rfl (fun h19 => ?_) (fun h19 => ?_)
          · have g19 : r16.toInt = 0 := congrArg Int32.toInt h19
            refine lv_iload hx hb d_Rn_readCommand_76 (lv_at hl 0 rfl) ?_
            refine lv_bipush (v := 32) hx hb d_Rn_readCommand_78 (by decide) ?_
            refine lv_icmp_ne hx hb d_Rn_readCommand_80 rfl (fun h20 => ?_) (fun h20 => ?_)
            · have g20 : ¬ ((Mc7 1 ((Mc7 (53 + 7 * d) 5).toNatClampNeg)).toInt = 32) := fun q => h20 (Int32.toInt_inj.mp q)
              refine lv_aload_n hx hb d_Rn_readCommand_96 rfl (lv_at hl 1 rfl) ?_
              refine lv_aload_n hx hb d_Rn_readCommand_97 rfl (lv_at hl 2 rfl) ?_
              refine lv_iload_n hx hb d_Rn_readCommand_98 rfl (lv_at hl 3 rfl) ?_
              refine lv_iload hx hb d_Rn_readCommand_99 (lv_at hl 0 rfl) ?_
              refine ux_calli (va_runV ⟨hx, hb, hml, hown, hts⟩ (s_Rn_readWord l D ad cA Mc7 hI adK adV fm d ee hd hde hrec (Mc7 1 ((Mc7 (53 + 7 * d) 5).toNatClampNeg)) (by omega)) (cwV 3 hts (tb_goodV ml_Rn_111 im_Rn_readWord se_Rn_readWord ii_Rn kt_Rn_readWord) rfl rfl rfl (by decide +kernel) ⟨show (12 + 8 * ee + 3) + 1 ≤ (12 + 8 * ee + 4) by omega, show 8 + (6 + 11) + ((600 + 300 * ee + 80)) ≤ (600 + 300 * ee + 105) by omega⟩) (ux_preVZ (by decide) rfl rfl hP hK hi hN hZ hS) rfl rfl hl.1 rfl (lv_room (Nat.le_of_ble_eq_true rfl)) d_Rn_readCommand_101 ⟨Nat.zero_le _, Nat.zero_le _⟩) hS (fun r21 M22 H locs q23 hP hS => ?_)
              obtain ⟨hI, fq23, q23p⟩ := q23
              have hF := fr_call hF fq23 (fun a b q => by unfold tR at q; unfold tR; omega)
              refine lv_istore hx hb d_Rn_readCommand_104 hl (by decide) rfl (fun ls hl => ?_)
              have hl : lv_has ls 6 [(5, .int r21), (4, .int (Mc7 1 ((Mc7 (53 + 7 * d) 5).toNatClampNeg))), (0, .ref (ad 13)), (1, .ref (ad (53 + 7 * d))), (2, .int (nI d)), (3, .int i_3)] := hl
              refine lv_iload hx hb d_Rn_readCommand_106 (lv_at hl 0 rfl) ?_
              refine lv_if_eq hx hb d_Rn_readCommand_108 rfl (fun h24 => ?_) (fun h24 => ?_)
              · have g24 : r21.toInt = 0 := congrArg Int32.toInt h24
                obtain ⟨x25, ex25⟩ : ∃ z : Int32, z = i_3 + 1 := ⟨_, rfl⟩
                refine lv_iinc (k := 5) (v := x25) hx hb d_Rn_readCommand_114 hl rfl ex25.symm (by decide) rfl (fun ls hl => ?_)
                have hl : lv_has ls 6 [(3, .int x25), (5, .int r21), (4, .int (Mc7 1 ((Mc7 (53 + 7 * d) 5).toNatClampNeg))), (0, .ref (ad 13)), (1, .ref (ad (53 + 7 * d))), (2, .int (nI d))] := hl
                try have fx25 : x25.toInt = i_3.toInt + 1 := by rw [ex25]; exact ti_add (by (try rw [show (1 : Int32).toInt = 1 from rfl]); omega) (by (try rw [show (1 : Int32).toInt = 1 from rfl]); omega)
                refine lv_goto hx hb d_Rn_readCommand_117 rfl ?_
                exact ih7 (((201 : Int) - x25.toInt).toNat) (by omega) x25 M22 _ _ ls rfl (show 0 ≤ x25.toInt from by first | omega | assumption | exact Or.inl rfl | exact Or.inr rfl | rfl | decide) hP hI hF hS (lv_sub hl [3, 4, 5, 0] rfl)
              · have g24 : ¬ (r21.toInt = 0) := fun q => h24 (Int32.toInt_inj.mp q)
                refine lv_iload hx hb d_Rn_readCommand_111 (lv_at hl 0 rfl) ?_
                exact W.iret (v := r21) hx hb hr (fun t ht hW => ⟨⟨r21, M22, rfl, ⟨hI, hF, trivial⟩, by unfold ux_E; rw [ht]; exact hP⟩, hS.F ht⟩) hS.2.2 d_Rn_readCommand_113
            · have g20 : (Mc7 1 ((Mc7 (53 + 7 * d) 5).toNatClampNeg)).toInt = 32 := congrArg Int32.toInt h20
              refine lv_aload_n hx hb d_Rn_readCommand_83 rfl (lv_at hl 2 rfl) ?_
              refine lv_dup hx hb d_Rn_readCommand_84 rfl ?_
              refine ux_getN (C := R_Lv) (T := F_Lv) (N := 10) hx hb hT in_Lv hown hK hP (lk 53 (by decide) hd) (L53 hd) rfl 5 (by decide) (hN _ nf_Rn_101) rfl d_Rn_readCommand_85 ?_
              have b26 := iv0 (M := Mc7) (a := 53 + 7 * d) (b := 5) hI (by unfold p0; omega)
              refine lv_iconst (v := 1) hx hb d_Rn_readCommand_88 (by decide) ?_
              refine lv_iadd hx hb d_Rn_readCommand_89 ?_
              refine lv_topi (fun x27 ex27 => ?_)
              try have fx27 : x27.toInt = (Mc7 (53 + 7 * d) 5).toInt + 1 := by rw [ex27]; exact ti_add (by (try rw [show (1 : Int32).toInt = 1 from rfl]); omega) (by (try rw [show (1 : Int32).toInt = 1 from rfl]); omega)
              refine ux_putN (C := R_Lv) (T := F_Lv) (N := 10) hx hb hT in_Lv t_Lv t_Lv_ok n_Lv hown hK hi hP hS (lk 53 (by decide) hd) (L53 hd) rfl 5 (by decide) (hN _ nf_Rn_101) rfl (rfl) (rfl) rfl d_Rn_readCommand_90 (fun H locs hP hS => ?_)
              have hI := IvX_wr (k := 53 + 7 * d) (j := 5) (v := x27) hI (fun q => by unfold p0 at q; omega) (fun q => by unfold p8 at q; omega) (fun q => by unfold p20 at q; omega) (fun q => by unfold p40 at q; omega) (fun q => by unfold p200 at q; omega) (fun q => by unfold pch at q; omega)
              have hF := fr_wr (k := 53 + 7 * d) (j := 5) (v := x27) hF (by unfold tR; omega)
              generalize eM28 : ux_wr Mc7 (53 + 7 * d) 5 x27 = M28 at hP hI hF
              refine lv_goto hx hb d_Rn_readCommand_93 rfl ?_
              obtain ⟨x29, ex29⟩ : ∃ z : Int32, z = i_3 + 1 := ⟨_, rfl⟩
              refine lv_iinc (k := 4) (v := x29) hx hb d_Rn_readCommand_114 hl rfl ex29.symm (by decide) rfl (fun ls hl => ?_)
              have hl : lv_has ls 6 [(3, .int x29), (4, .int (Mc7 1 ((Mc7 (53 + 7 * d) 5).toNatClampNeg))), (0, .ref (ad 13)), (1, .ref (ad (53 + 7 * d))), (2, .int (nI d))] := hl
              try have fx29 : x29.toInt = i_3.toInt + 1 := by rw [ex29]; exact ti_add (by (try rw [show (1 : Int32).toInt = 1 from rfl]); omega) (by (try rw [show (1 : Int32).toInt = 1 from rfl]); omega)
              refine lv_goto hx hb d_Rn_readCommand_117 rfl ?_
              exact ih7 (((201 : Int) - x29.toInt).toNat) (by omega) x29 M28 _ _ ls rfl (show 0 ≤ x29.toInt from by first | omega | assumption | exact Or.inl rfl | exact Or.inr rfl | rfl | decide) hP hI hF hS (lv_sub hl [2, 3, 4, 0] rfl)
          · have g19 : ¬ (r16.toInt = 0) := fun q => h19 (Int32.toInt_inj.mp q)
            refine lv_aload_n hx hb d_Rn_readCommand_48 rfl (lv_at hl 2 rfl) ?_
            refine lv_dup hx hb d_Rn_readCommand_49 rfl ?_
            refine ux_getN (C := R_Lv) (T := F_Lv) (N := 10) hx hb hT in_Lv hown hK hP (lk 53 (by decide) hd) (L53 hd) rfl 5 (by decide) (hN _ nf_Rn_101) rfl d_Rn_readCommand_50 ?_
            have b30 := iv0 (M := Mc7) (a := 53 + 7 * d) (b := 5) hI (by unfold p0; omega)
            refine lv_iconst (v := 1) hx hb d_Rn_readCommand_53 (by decide) ?_
            refine lv_iadd hx hb d_Rn_readCommand_54 ?_
            refine lv_topi (fun x31 ex31 => ?_)
            try have fx31 : x31.toInt = (Mc7 (53 + 7 * d) 5).toInt + 1 := by rw [ex31]; exact ti_add (by (try rw [show (1 : Int32).toInt = 1 from rfl]); omega) (by (try rw [show (1 : Int32).toInt = 1 from rfl]); omega)
            refine ux_putN (C := R_Lv) (T := F_Lv) (N := 10) hx hb hT in_Lv t_Lv t_Lv_ok n_Lv hown hK hi hP hS (lk 53 (by decide) hd) (L53 hd) rfl 5 (by decide) (hN _ nf_Rn_101) rfl (rfl) (rfl) rfl d_Rn_readCommand_55 (fun H locs hP hS => ?_)
            have hI := IvX_wr (k := 53 + 7 * d) (j := 5) (v := x31) hI (fun q => by unfold p0 at q; omega) (fun q => by unfold p8 at q; omega) (fun q => by unfold p20 at q; omega) (fun q => by unfold p40 at q; omega) (fun q => by unfold p200 at q; omega) (fun q => by unfold pch at q; omega)
            have hF := fr_wr (k := 53 + 7 * d) (j := 5) (v := x31) hF (by unfold tR; omega)
            generalize eM32 : ux_wr Mc7 (53 + 7 * d) 5 x31 = M32 at hP hI hF
            refine lv_aload_n hx hb d_Rn_readCommand_58 rfl (lv_at hl 2 rfl) ?_
            refine lv_iload hx hb d_Rn_readCommand_59 (lv_at hl 0 rfl) ?_
            refine lv_bipush (v := 93) hx hb d_Rn_readCommand_61 (by decide) ?_
            refine lv_icmp_ne hx hb d_Rn_readCommand_63 rfl (fun h33 => ?_) (fun h33 => ?_)
            · have g33 : ¬ ((Mc7 1 ((Mc7 (53 + 7 * d) 5).toNatClampNeg)).toInt = 93) := fun q => h33 (Int32.toInt_inj.mp q)
              refine lv_iconst (v := 0) hx hb d_Rn_readCommand_70 (by decide) ?_
              refine ux_putN (C := R_Lv) (T := F_Lv) (N := 10) hx hb hT in_Lv t_Lv t_Lv_ok n_Lv hown hK hi hP hS (lk 53 (by decide) hd) (L53 hd) rfl 9 (by decide) (hN _ nf_Rn_75) rfl (rfl) (rfl) rfl d_Rn_readCommand_71 (fun H locs hP hS => ?_)
              have hI := IvX_free (k := 53 + 7 * d) (j := 9) (v := 0) hI (by unfold ppn; omega) (by unfold pch; omega)
              have hF := fr_wr (k := 53 + 7 * d) (j := 9) (v := 0) hF (by unfold tR; omega)
              generalize eM34 : ux_wr M32 (53 + 7 * d) 9 0 = M34 at hP hI hF
              refine lv_iconst (v := 0) hx hb d_Rn_readCommand_74 (by decide) ?_
              exact W.iret (v := 0) hx hb hr (fun t ht hW => ⟨⟨0, M34, rfl, ⟨hI, hF, trivial⟩, by unfold ux_E; rw [ht]; exact hP⟩, hS.F ht⟩) hS.2.2 d_Rn_readCommand_75
            · have g33 : (Mc7 1 ((Mc7 (53 + 7 * d) 5).toNatClampNeg)).toInt = 93 := congrArg Int32.toInt h33
              refine lv_iconst (v := 1) hx hb d_Rn_readCommand_66 (by decide) ?_
              refine lv_goto hx hb d_Rn_readCommand_67 rfl ?_
              refine ux_putN (C := R_Lv) (T := F_Lv) (N := 10) hx hb hT in_Lv t_Lv t_Lv_ok n_Lv hown hK hi hP hS (lk 53 (by decide) hd) (L53 hd) rfl 9 (by decide) (hN _ nf_Rn_75) rfl (rfl) (rfl) rfl d_Rn_readCommand_71 (fun H locs hP hS => ?_)
              have hI := IvX_free (k := 53 + 7 * d) (j := 9) (v := 1) hI (by unfold ppn; omega) (by unfold pch; omega)
              have hF := fr_wr (k := 53 + 7 * d) (j := 9) (v := 1) hF (by unfold tR; omega)
              generalize eM35 : ux_wr M32 (53 + 7 * d) 9 1 = M35 at hP hI hF
              refine lv_iconst (v := 0) hx hb d_Rn_readCommand_74 (by decide) ?_
              exact W.iret (v := 0) hx hb hr (fun t ht hW => ⟨⟨0, M35, rfl, ⟨hI, hF, trivial⟩, by unfold ux_E; rw [ht]; exact hP⟩, hS.F ht⟩) hS.2.2 d_Rn_readCommand_75
  refine lv_aload_n hx hb d_Rn_readCommand_0 rfl (lv_at hl 1 rfl) ?_
  refine lv_iconst (v := 0) hx hb d_Rn_readCommand_1 (by decide) ?_
  refine ux_putN (C := R_Lv) (T := F_Lv) (N := 10) hx hb hT in_Lv t_Lv t_Lv_ok n_Lv hown hK hi hP hS (lk 53 (by decide) hd) (L53 hd) rfl 4 (by decide) (hN _ nf_Rn_83) rfl (rfl) (rfl) rfl d_Rn_readCommand_2 (fun H locs hP hS => ?_)
  have hI := IvX_wr (k := 53 + 7 * d) (j := 4) (v := 0) hI (fun q => by first | decide | unfold p0 at q; omega) (fun q => by first | decide | unfold p8 at q; omega) (fun q => by first | decide | unfold p20 at q; omega) (fun q => by first | decide | unfold p40 at q; omega) (fun q => by first | decide | unfold p200 at q; omega) (fun q => by unfold pch at q; omega)
  have hF := fr_wr (k := 53 + 7 * d) (j := 4) (v := 0) hF (by unfold tR; omega)
  generalize eM36 : ux_wr M (53 + 7 * d) 4 0 = M36 at hP hI hF
  refine lv_iconst (v := 0) hx hb d_Rn_readCommand_5 (by decide) ?_
  refine lv_istore_n hx hb d_Rn_readCommand_6 rfl hl (by decide) rfl (fun ls hl => ?_)
  have hl : lv_has ls 6 [(3, .int 0), (0, .ref (ad 13)), (1, .ref (ad (53 + 7 * d))), (2, .int (nI d))] := hl
  exact cut7 (((201 : Int) - 0).toNat) 0 M36 _ _ ls rfl (show 0 ≤ 0 from by first | omega | assumption | exact Or.inl rfl | exact Or.inr rfl | rfl | decide) hP hI hF hS (lv_sub hl [1, 2, 3, 0] rfl)

set_option maxHeartbeats 1600000 in
set_option maxRecDepth 100000 in
theorem s_Rn_runWord (l : Launch) (D : va_G) (ad : Nat → Nat) (cA : Nat → ClassId) (M : ux_M) (hI : IvX M) (adK adV : Nat → Nat) (fm : Value) (d ee : Nat) (hd : d < 8) (hde : d + ee = 7) (hrec : RS l D ad cA adK adV fm (d + 1) ee) (i : Int32) : Met l y_Rn_runWord w_Rn_runWord ({ frames := (12 + 8 * ee + 1), cells := 0, slots := 0, locals := (600 + 300 * ee + 28) }) (va_Pc [.ref (ad 13), .ref (ad (53 + 7 * d)), .int i, .int (nI d)] (ux_BZ D ad cA M adK adV fm)) (va_Qi (fun r M1 => IvX M1 ∧ (∀ a b, ¬ (tR (d + 1)) a b → M1 a b = M a b) ∧ (True)) (ux_E D shX KX ad cA) (ux_A KX ad)) 0 0 (ux_A KX ad) := by
  refine Met.ofW (cc := b_Rn_runWord) (maxL := 4) (ret := (some .int)) (by decide) rfl ?_
  intro p e s m args below meth c s₁ B hml hv
  obtain ⟨rfl, ⟨hP, hK, hi, hN⟩, hZ⟩ := hv
  have hx := B.exec
  have hb := B.bytes
  have hr := B.returns
  have hts := atoms_spec (ws := w_Rn_runWord) B.pre
  have hown : s.vm.findClass R_Rn = some m.cls := findClass_of_methodNamed B.named
  have hlocks := B.notSynchronized
  have hT : ∀ w ∈ tb, w.before _ s = true := fun w h => hts w (List.mem_cons_of_mem _ h)
  have hS : va_S (ux_A KX ad) s.heap s.heap [] := va_S.rf
  have hl := lv_entry ([.ref (ad 13), .ref (ad (53 + 7 * d)), .int i, .int (nI d)]) (n := 4) (Nat.le_of_ble_eq_true rfl)
  rw [lg_entry_eq]
  generalize (lg_sl ([.ref (ad 13), .ref (ad (53 + 7 * d)), .int i, .int (nI d)]) ++ List.replicate (4 - (lg_sl ([.ref (ad 13), .ref (ad (53 + 7 * d)), .int i, .int (nI d)])).length) Slot.unset).toArray = ls at hl ⊢
  have hl : lv_has ls 4 [(0, .ref (ad 13)), (1, .ref (ad (53 + 7 * d))), (2, .int i), (3, .int (nI d))] := hl
  have hF : ∀ a b, ¬ (tR (d + 1)) a b → M a b = M a b := fun _ _ _ => rfl
  have hdt : (nI d).toInt = (d : Int) := nI_toInt (by omega)
  refine lv_aload_n hx hb d_Rn_runWord_0 rfl (lv_at hl 0 rfl) ?_
  refine lv_aload_n hx hb d_Rn_runWord_1 rfl (lv_at hl 1 rfl) ?_
  refine lv_iload_n hx hb d_Rn_runWord_2 rfl (lv_at hl 2 rfl) ?_
  refine ux_calli (va_runV ⟨hx, hb, hml, hown, hts⟩ (s_Lv_startOf l D ad cA M hI d hd i) (cwV 1 hts (tb_goodV ml_Rn_264 im_Lv_startOf se_Lv_startOf ii_Lv kt_Lv_startOf) rfl rfl rfl (by decide +kernel) ⟨show 1 + 1 ≤ (12 + 8 * ee + 1) by omega, show 8 + (2 + 11) + (21) ≤ (600 + 300 * ee + 28) by omega⟩) (ux_preV (lk 53 (by decide) hd) (L53 hd) rfl hP hK hi hN) rfl rfl hl.1 rfl (lv_room (Nat.le_of_ble_eq_true rfl)) d_Rn_runWord_3 ⟨Nat.zero_le _, Nat.zero_le _⟩) hS (fun r1 M2 H locs q3 hP hS => ?_)
  obtain ⟨hI, fq3, q3p⟩ := q3
  rw [tN_eq fq3] at hP hI
  refine lv_aload_n hx hb d_Rn_runWord_6 rfl (lv_at hl 1 rfl) ?_
  refine lv_iload_n hx hb d_Rn_runWord_7 rfl (lv_at hl 2 rfl) ?_
  refine ux_calli (va_runV ⟨hx, hb, hml, hown, hts⟩ (s_Lv_endOf l D ad cA M hI d hd i) (cwV 1 hts (tb_goodV ml_Rn_267 im_Lv_endOf se_Lv_endOf ii_Lv kt_Lv_endOf) rfl rfl rfl (by decide +kernel) ⟨show 1 + 1 ≤ (12 + 8 * ee + 1) by omega, show 8 + (2 + 11) + (21) ≤ (600 + 300 * ee + 28) by omega⟩) (ux_preV (lk 53 (by decide) hd) (L53 hd) rfl hP hK hi hN) rfl rfl hl.1 rfl (lv_room (Nat.le_of_ble_eq_true rfl)) d_Rn_runWord_8 ⟨Nat.zero_le _, Nat.zero_le _⟩) hS (fun r4 M5 H locs q6 hP hS => ?_)
  obtain ⟨hI, fq6, q6p⟩ := q6
  rw [tN_eq fq6] at hP hI
  refine lv_aload_n hx hb d_Rn_runWord_11 rfl (lv_at hl 1 rfl) ?_
  refine ux_getN (C := R_Lv) (T := F_Lv) (N := 10) hx hb hT in_Lv hown hK hP (lk 53 (by decide) hd) (L53 hd) rfl 7 (by decide) (hN _ nf_Rn_138) rfl d_Rn_runWord_12 ?_
  refine lv_iload_n hx hb d_Rn_runWord_15 rfl (lv_at hl 3 rfl) ?_
  refine lv_iconst (v := 1) hx hb d_Rn_runWord_16 (by decide) ?_
  refine lv_iadd hx hb d_Rn_runWord_17 ?_
  refine lv_topi (fun z7 hz7 => ?_)
  rw [nI_1 d] at hz7
  rw [hz7]
  have b8 : (nI (d + 1)).toInt = ((d + 1 : Nat) : Int) := nI_toInt (by omega)
  refine lv_iconst (v := 0) hx hb d_Rn_runWord_18 (by decide) ?_
  refine ux_calli (va_runV ⟨hx, hb, hml, hown, hts⟩ (hrec M hI r1 r4 (M (53 + 7 * d) 7) 0 (by first | assumption | exact Or.inl rfl | exact Or.inr rfl)) (cwV 5 hts (tb_goodV ml_Rn_141 im_Rn_runScript se_Rn_runScript ii_Rn kt_Rn_runScript) rfl rfl rfl (by decide +kernel) ⟨show (12 + 8 * ee) + 1 ≤ (12 + 8 * ee + 1) by omega, show 8 + (9 + 11) + ((600 + 300 * ee)) ≤ (600 + 300 * ee + 28) by omega⟩) (ux_preVZ (by decide) rfl rfl hP hK hi hN hZ hS) rfl rfl hl.1 rfl (lv_room (Nat.le_of_ble_eq_true rfl)) d_Rn_runWord_19 ⟨Nat.zero_le _, Nat.zero_le _⟩) hS (fun r9 M10 H locs q11 hP hS => ?_)
  obtain ⟨hI, fq11, q11p⟩ := q11
  have hF := fr_call hF fq11 (fun a b q => by unfold tR at q; unfold tR; omega)
  exact W.iret (v := r9) hx hb hr (fun t ht hW => ⟨⟨r9, M10, rfl, ⟨hI, hF, trivial⟩, by unfold ux_E; rw [ht]; exact hP⟩, hS.F ht⟩) hS.2.2 d_Rn_runWord_22

set_option maxHeartbeats 1600000 in
set_option maxRecDepth 100000 in
theorem s_Rn_choose (l : Launch) (D : va_G) (ad : Nat → Nat) (cA : Nat → ClassId) (M : ux_M) (hI : IvX M) (adK adV : Nat → Nat) (fm : Value) (d ee : Nat) (hd : d < 8) (hde : d + ee = 7) (hrec : RS l D ad cA adK adV fm (d + 1) ee) : Met l y_Rn_choose w_Rn_choose ({ frames := (12 + 8 * ee + 2), cells := 0, slots := 0, locals := (600 + 300 * ee + 51) }) (va_Pc [.ref (ad 13), .ref (ad (53 + 7 * d)), .int (nI d)] (ux_BZ D ad cA M adK adV fm)) (va_Qi (fun r M1 => IvX M1 ∧ (∀ a b, ¬ (tR d) a b → M1 a b = M a b) ∧ (True)) (ux_E D shX KX ad cA) (ux_A KX ad)) 0 0 (ux_A KX ad) := by
  refine Met.ofW (cc := b_Rn_choose) (maxL := 5) (ret := (some .int)) (by decide) rfl ?_
  intro p e s m args below meth c s₁ B hml hv
  obtain ⟨rfl, ⟨hP, hK, hi, hN⟩, hZ⟩ := hv
  have hx := B.exec
  have hb := B.bytes
  have hr := B.returns
  have hts := atoms_spec (ws := w_Rn_choose) B.pre
  have hown : s.vm.findClass R_Rn = some m.cls := findClass_of_methodNamed B.named
  have hlocks := B.notSynchronized
  have hT : ∀ w ∈ tb, w.before _ s = true := fun w h => hts w (List.mem_cons_of_mem _ h)
  have hS : va_S (ux_A KX ad) s.heap s.heap [] := va_S.rf
  have hl := lv_entry ([.ref (ad 13), .ref (ad (53 + 7 * d)), .int (nI d)]) (n := 5) (Nat.le_of_ble_eq_true rfl)
  rw [lg_entry_eq]
  generalize (lg_sl ([.ref (ad 13), .ref (ad (53 + 7 * d)), .int (nI d)]) ++ List.replicate (5 - (lg_sl ([.ref (ad 13), .ref (ad (53 + 7 * d)), .int (nI d)])).length) Slot.unset).toArray = ls at hl ⊢
  have hl : lv_has ls 5 [(0, .ref (ad 13)), (1, .ref (ad (53 + 7 * d))), (2, .int (nI d))] := hl
  have hF : ∀ a b, ¬ (tR d) a b → M a b = M a b := fun _ _ _ => rfl
  have hdt : (nI d).toInt = (d : Int) := nI_toInt (by omega)
  refine lv_aload_n hx hb d_Rn_choose_0 rfl (lv_at hl 0 rfl) ?_
  refine ux_get (C := R_Rn) (T := F_Rn) (N := 9) hx hb hT in_Rn hown hK hP (by decide) rfl rfl 4 (by decide) (hT _ fl_Rn_59) rfl d_Rn_choose_1 ?_
  refine lv_aload_n hx hb d_Rn_choose_4 rfl (lv_at hl 1 rfl) ?_
  refine lv_iconst (v := 1) hx hb d_Rn_choose_5 (by decide) ?_
  refine ux_calli (va_runV ⟨hx, hb, hml, hown, hts⟩ (s_Lv_startOf l D ad cA M hI d hd 1) (cwV 1 hts (tb_goodV ml_Rn_264 im_Lv_startOf se_Lv_startOf ii_Lv kt_Lv_startOf) rfl rfl rfl (by decide +kernel) ⟨show 1 + 1 ≤ (12 + 8 * ee + 2) by omega, show 8 + (2 + 11) + (21) ≤ (600 + 300 * ee + 51) by omega⟩) (ux_preV (lk 53 (by decide) hd) (L53 hd) rfl hP hK hi hN) rfl rfl hl.1 rfl (lv_room (Nat.le_of_ble_eq_true rfl)) d_Rn_choose_6 ⟨Nat.zero_le _, Nat.zero_le _⟩) hS (fun r1 M2 H locs q3 hP hS => ?_)
  obtain ⟨hI, fq3, q3p⟩ := q3
  rw [tN_eq fq3] at hP hI
  refine lv_aload_n hx hb d_Rn_choose_9 rfl (lv_at hl 1 rfl) ?_
  refine lv_iconst (v := 1) hx hb d_Rn_choose_10 (by decide) ?_
  refine ux_calli (va_runV ⟨hx, hb, hml, hown, hts⟩ (s_Lv_endOf l D ad cA M hI d hd 1) (cwV 1 hts (tb_goodV ml_Rn_267 im_Lv_endOf se_Lv_endOf ii_Lv kt_Lv_endOf) rfl rfl rfl (by decide +kernel) ⟨show 1 + 1 ≤ (12 + 8 * ee + 2) by omega, show 8 + (2 + 11) + (21) ≤ (600 + 300 * ee + 51) by omega⟩) (ux_preV (lk 53 (by decide) hd) (L53 hd) rfl hP hK hi hN) rfl rfl hl.1 rfl (lv_room (Nat.le_of_ble_eq_true rfl)) d_Rn_choose_11 ⟨Nat.zero_le _, Nat.zero_le _⟩) hS (fun r4 M5 H locs q6 hP hS => ?_)
  obtain ⟨hI, fq6, q6p⟩ := q6
  rw [tN_eq fq6] at hP hI
  refine lv_aload_n hx hb d_Rn_choose_14 rfl (lv_at hl 1 rfl) ?_
  refine ux_getN (C := R_Lv) (T := F_Lv) (N := 10) hx hb hT in_Lv hown hK hP (lk 53 (by decide) hd) (L53 hd) rfl 7 (by decide) (hN _ nf_Rn_138) rfl d_Rn_choose_15 ?_
  refine ux_calli (va_runV ⟨hx, hb, hml, hown, hts⟩ (s_Sm_workOut l D ad cA M hI r1 r4 (M (53 + 7 * d) 7)) (cwV 3 hts (tb_goodV ml_Rn_300 im_Sm_workOut se_Sm_workOut ii_Sm kt_Sm_workOut) rfl rfl rfl (by decide +kernel) ⟨show 3 + 1 ≤ (12 + 8 * ee + 2) by omega, show 8 + (7 + 11) + (71) ≤ (600 + 300 * ee + 51) by omega⟩) (ux_preV (by decide) rfl rfl hP hK hi hN) rfl rfl hl.1 rfl (lv_room (Nat.le_of_ble_eq_true rfl)) d_Rn_choose_18 ⟨Nat.zero_le _, Nat.zero_le _⟩) hS (fun r7 M8 H locs q9 hP hS => ?_)
  obtain ⟨hI, fq9, q9p⟩ := q9
  have hF := fr_call hF fq9 (fun a b q => by unfold tSm at q; unfold tR; omega)
  refine lv_istore_n hx hb d_Rn_choose_21 rfl hl (by decide) rfl (fun ls hl => ?_)
  have hl : lv_has ls 5 [(3, .int r7), (0, .ref (ad 13)), (1, .ref (ad (53 + 7 * d))), (2, .int (nI d))] := hl
  refine lv_iload_n hx hb d_Rn_choose_22 rfl (lv_at hl 0 rfl) ?_
  refine lv_if_eq hx hb d_Rn_choose_23 rfl (fun h10 => ?_) (fun h10 => ?_)
  · have g10 : r7.toInt = 0 := congrArg Int32.toInt h10
    refine lv_aload_n hx hb d_Rn_choose_32 rfl (lv_at hl 1 rfl) ?_
    refine ux_get (C := R_Rn) (T := F_Rn) (N := 9) hx hb hT in_Rn hown hK hP (by decide) rfl rfl 4 (by decide) (hT _ fl_Rn_59) rfl d_Rn_choose_33 ?_
    refine ux_getN (C := R_Sm) (T := F_Sm) (N := 14) hx hb hT in_Sm hown hK hP (by decide) rfl rfl 13 (by decide) (hN _ nf_Rn_304) rfl d_Rn_choose_36 ?_
    refine lv_if_eq hx hb d_Rn_choose_39 rfl (fun h11 => ?_) (fun h11 => ?_)
    · have g11 : (M8 50 13).toInt = 0 := congrArg Int32.toInt h11
      refine lv_iconst (v := 3) hx hb d_Rn_choose_46 (by decide) ?_
      refine lv_istore hx hb d_Rn_choose_47 hl (by decide) rfl (fun ls hl => ?_)
      have hl : lv_has ls 5 [(4, .int 3), (3, .int r7), (0, .ref (ad 13)), (1, .ref (ad (53 + 7 * d))), (2, .int (nI d))] := hl
      refine lv_iload hx hb d_Rn_choose_49 (lv_at hl 0 rfl) ?_
      refine lv_aload_n hx hb d_Rn_choose_51 rfl (lv_at hl 3 rfl) ?_
      refine ux_getN (C := R_Lv) (T := F_Lv) (N := 10) hx hb hT in_Lv hown hK hP (lk 53 (by decide) hd) (L53 hd) rfl 4 (by decide) (hN _ nf_Rn_83) rfl d_Rn_choose_52 ?_
      have b12 := iv0 (M := M8) (a := 53 + 7 * d) (b := 4) hI (by unfold p0; omega)
      have b13 := iv8 (M := M8) (a := 53 + 7 * d) (b := 4) hI (by unfold p8; omega)
      refine lv_icmp_ge hx hb d_Rn_choose_55 rfl (fun h14 => ?_) (fun h14 => ?_)
      · have g14 : (M8 (53 + 7 * d) 4).toInt ≤ 3 := Int32.le_iff_toInt_le.mp h14
        have w14 := ti_lo (M8 (53 + 7 * d) 4)
        refine lv_iconst (v := 0) hx hb d_Rn_choose_69 (by decide) ?_
        exact W.iret (v := 0) hx hb hr (fun t ht hW => ⟨⟨0, M8, rfl, ⟨hI, hF, trivial⟩, by unfold ux_E; rw [ht]; exact hP⟩, hS.F ht⟩) hS.2.2 d_Rn_choose_70
      · have g14 : ¬ ((M8 (53 + 7 * d) 4).toInt ≤ 3) := fun q => h14 (Int32.le_iff_toInt_le.mpr q)
        have u14 := ti_hi (M8 (53 + 7 * d) 4)
        refine lv_aload_n hx hb d_Rn_choose_58 rfl (lv_at hl 2 rfl) ?_
        refine lv_aload_n hx hb d_Rn_choose_59 rfl (lv_at hl 3 rfl) ?_
        refine lv_iload hx hb d_Rn_choose_60 (lv_at hl 0 rfl) ?_
        refine lv_iload_n hx hb d_Rn_choose_62 rfl (lv_at hl 4 rfl) ?_
        refine ux_calli (va_runV ⟨hx, hb, hml, hown, hts⟩ (s_Rn_runWord l D ad cA M8 hI adK adV fm d ee hd hde hrec 3) (cwV 3 hts (tb_goodV ml_Rn_307 im_Rn_runWord se_Rn_runWord ii_Rn kt_Rn_runWord) rfl rfl rfl (by decide +kernel) ⟨show (12 + 8 * ee + 1) + 1 ≤ (12 + 8 * ee + 2) by omega, show 8 + (4 + 11) + ((600 + 300 * ee + 28)) ≤ (600 + 300 * ee + 51) by omega⟩) (ux_preVZ (by decide) rfl rfl hP hK hi hN hZ hS) rfl rfl hl.1 rfl (lv_room (Nat.le_of_ble_eq_true rfl)) d_Rn_choose_63 ⟨Nat.zero_le _, Nat.zero_le _⟩) hS (fun r15 M16 H locs q17 hP hS => ?_)
        obtain ⟨hI, fq17, q17p⟩ := q17
        have hF := fr_call hF fq17 (fun a b q => by unfold tR at q; unfold tR; omega)
        refine lv_goto hx hb d_Rn_choose_66 rfl ?_
        exact W.iret (v := r15) hx hb hr (fun t ht hW => ⟨⟨r15, M16, rfl, ⟨hI, hF, trivial⟩, by unfold ux_E; rw [ht]; exact hP⟩, hS.F ht⟩) hS.2.2 d_Rn_choose_70
    · have g11 : ¬ ((M8 50 13).toInt = 0) := fun q => h11 (Int32.toInt_inj.mp q)
      refine lv_iconst (v := 2) hx hb d_Rn_choose_42 (by decide) ?_
      refine lv_goto hx hb d_Rn_choose_43 rfl ?_
      refine lv_istore hx hb d_Rn_choose_47 hl (by decide) rfl (fun ls hl => ?_)
      have hl : lv_has ls 5 [(4, .int 2), (3, .int r7), (0, .ref (ad 13)), (1, .ref (ad (53 + 7 * d))), (2, .int (nI d))] := hl
      refine lv_iload hx hb d_Rn_choose_49 (lv_at hl 0 rfl) ?_
      refine lv_aload_n hx hb d_Rn_choose_51 rfl (lv_at hl 3 rfl) ?_
      refine ux_getN (C := R_Lv) (T := F_Lv) (N := 10) hx hb hT in_Lv hown hK hP (lk 53 (by decide) hd) (L53 hd) rfl 4 (by decide) (hN _ nf_Rn_83) rfl d_Rn_choose_52 ?_
      have b18 := iv0 (M := M8) (a := 53 + 7 * d) (b := 4) hI (by unfold p0; omega)
      have b19 := iv8 (M := M8) (a := 53 + 7 * d) (b := 4) hI (by unfold p8; omega)
      refine lv_icmp_ge hx hb d_Rn_choose_55 rfl (fun h20 => ?_) (fun h20 => ?_)
      · have g20 : (M8 (53 + 7 * d) 4).toInt ≤ 2 := Int32.le_iff_toInt_le.mp h20
        have w20 := ti_lo (M8 (53 + 7 * d) 4)
        refine lv_iconst (v := 0) hx hb d_Rn_choose_69 (by decide) ?_
        exact W.iret (v := 0) hx hb hr (fun t ht hW => ⟨⟨0, M8, rfl, ⟨hI, hF, trivial⟩, by unfold ux_E; rw [ht]; exact hP⟩, hS.F ht⟩) hS.2.2 d_Rn_choose_70
      · have g20 : ¬ ((M8 (53 + 7 * d) 4).toInt ≤ 2) := fun q => h20 (Int32.le_iff_toInt_le.mpr q)
        have u20 := ti_hi (M8 (53 + 7 * d) 4)
        refine lv_aload_n hx hb d_Rn_choose_58 rfl (lv_at hl 2 rfl) ?_
        refine lv_aload_n hx hb d_Rn_choose_59 rfl (lv_at hl 3 rfl) ?_
        refine lv_iload hx hb d_Rn_choose_60 (lv_at hl 0 rfl) ?_
        refine lv_iload_n hx hb d_Rn_choose_62 rfl (lv_at hl 4 rfl) ?_
        refine ux_calli (va_runV ⟨hx, hb, hml, hown, hts⟩ (s_Rn_runWord l D ad cA M8 hI adK adV fm d ee hd hde hrec 2) (cwV 3 hts (tb_goodV ml_Rn_307 im_Rn_runWord se_Rn_runWord ii_Rn kt_Rn_runWord) rfl rfl rfl (by decide +kernel) ⟨show (12 + 8 * ee + 1) + 1 ≤ (12 + 8 * ee + 2) by omega, show 8 + (4 + 11) + ((600 + 300 * ee + 28)) ≤ (600 + 300 * ee + 51) by omega⟩) (ux_preVZ (by decide) rfl rfl hP hK hi hN hZ hS) rfl rfl hl.1 rfl (lv_room (Nat.le_of_ble_eq_true rfl)) d_Rn_choose_63 ⟨Nat.zero_le _, Nat.zero_le _⟩) hS (fun r21 M22 H locs q23 hP hS => ?_)
        obtain ⟨hI, fq23, q23p⟩ := q23
        have hF := fr_call hF fq23 (fun a b q => by unfold tR at q; unfold tR; omega)
        refine lv_goto hx hb d_Rn_choose_66 rfl ?_
        exact W.iret (v := r21) hx hb hr (fun t ht hW => ⟨⟨r21, M22, rfl, ⟨hI, hF, trivial⟩, by unfold ux_E; rw [ht]; exact hP⟩, hS.F ht⟩) hS.2.2 d_Rn_choose_70
  · have g10 : ¬ (r7.toInt = 0) := fun q => h10 (Int32.toInt_inj.mp q)
    refine lv_aload_n hx hb d_Rn_choose_26 rfl (lv_at hl 1 rfl) ?_
    refine lv_iload_n hx hb d_Rn_choose_27 rfl (lv_at hl 0 rfl) ?_
    refine ux_calli (va_runV ⟨hx, hb, hml, hown, hts⟩ (s_Rn_fail l D ad cA M8 hI r7) (cwV 1 hts (tb_goodV ml_Rn_64 im_Rn_fail se_Rn_fail ii_Rn kt_Rn_fail) rfl rfl rfl (by decide +kernel) ⟨show 1 + 1 ≤ (12 + 8 * ee + 2) by omega, show 8 + (2 + 11) + (22) ≤ (600 + 300 * ee + 51) by omega⟩) (ux_preV (by decide) rfl rfl hP hK hi hN) rfl rfl hl.1 rfl (lv_room (Nat.le_of_ble_eq_true rfl)) d_Rn_choose_28 ⟨Nat.zero_le _, Nat.zero_le _⟩) hS (fun r24 M25 H locs q26 hP hS => ?_)
    obtain ⟨hI, fq26, q26p⟩ := q26
    have hF := fr_call hF fq26 (fun a b q => by unfold tV at q; unfold tR; omega)
    exact W.iret (v := r24) hx hb hr (fun t ht hW => ⟨⟨r24, M25, rfl, ⟨hI, hF, trivial⟩, by unfold ux_E; rw [ht]; exact hP⟩, hS.F ht⟩) hS.2.2 d_Rn_choose_31

set_option maxHeartbeats 1600000 in
set_option maxRecDepth 100000 in
theorem s_Rn_repeat (l : Launch) (D : va_G) (ad : Nat → Nat) (cA : Nat → ClassId) (M : ux_M) (hI : IvX M) (adK adV : Nat → Nat) (fm : Value) (d ee : Nat) (hd : d < 8) (hde : d + ee = 7) (hrec : RS l D ad cA adK adV fm (d + 1) ee) : Met l y_Rn_repeat w_Rn_repeat ({ frames := (12 + 8 * ee + 2), cells := 0, slots := 0, locals := (600 + 300 * ee + 51) }) (va_Pc [.ref (ad 13), .ref (ad (53 + 7 * d)), .int (nI d)] (ux_BZ D ad cA M adK adV fm)) (va_Qi (fun r M1 => IvX M1 ∧ (∀ a b, ¬ (tR d) a b → M1 a b = M a b) ∧ (True)) (ux_E D shX KX ad cA) (ux_A KX ad)) 0 0 (ux_A KX ad) := by
  refine Met.ofW (cc := b_Rn_repeat) (maxL := 6) (ret := (some .int)) (by decide) rfl ?_
  intro p e s m args below meth c s₁ B hml hv
  obtain ⟨rfl, ⟨hP, hK, hi, hN⟩, hZ⟩ := hv
  have hx := B.exec
  have hb := B.bytes
  have hr := B.returns
  have hts := atoms_spec (ws := w_Rn_repeat) B.pre
  have hown : s.vm.findClass R_Rn = some m.cls := findClass_of_methodNamed B.named
  have hlocks := B.notSynchronized
  have hT : ∀ w ∈ tb, w.before _ s = true := fun w h => hts w (List.mem_cons_of_mem _ h)
  have hS : va_S (ux_A KX ad) s.heap s.heap [] := va_S.rf
  have hl := lv_entry ([.ref (ad 13), .ref (ad (53 + 7 * d)), .int (nI d)]) (n := 6) (Nat.le_of_ble_eq_true rfl)
  rw [lg_entry_eq]
  generalize (lg_sl ([.ref (ad 13), .ref (ad (53 + 7 * d)), .int (nI d)]) ++ List.replicate (6 - (lg_sl ([.ref (ad 13), .ref (ad (53 + 7 * d)), .int (nI d)])).length) Slot.unset).toArray = ls at hl ⊢
  have hl : lv_has ls 6 [(0, .ref (ad 13)), (1, .ref (ad (53 + 7 * d))), (2, .int (nI d))] := hl
  have hF : ∀ a b, ¬ (tR d) a b → M a b = M a b := fun _ _ _ => rfl
  have hdt : (nI d).toInt = (d : Int) := nI_toInt (by omega)
  have cut2 : ∀ (nn : Nat) (i_3 : Int32) (Mc2 : ux_M) (H : Heap) (locs : List Loc) (ls : Array Slot), ((101 : Int) - i_3.toInt).toNat = nn → (0 ≤ i_3.toInt) → va_P D classes (ux_w shX KX ad cA Mc2) H → IvX Mc2 → (∀ a b, ¬ (tR d) a b → Mc2 a b = M a b) → va_S (ux_A KX ad) s.heap H locs → lv_has ls 6 [(0, .ref (ad 13)), (1, .ref (ad (53 + 7 * d))), (2, .int (nI d)), (3, .int i_3)] → W p l e (headSpec w_Rn_repeat ({ frames := (12 + 8 * ee + 2), cells := 0, slots := 0, locals := (600 + 300 * ee + 51) })).room s m (([.ref (ad 13), .ref (ad (53 + 7 * d)), .int (nI d)] : List Value).toArray) below meth c H locs 0 0 (MQ below (va_Qi (fun r M1 => IvX M1 ∧ (∀ a b, ¬ (tR d) a b → M1 a b = M a b) ∧ (True)) (ux_E D shX KX ad cA) (ux_A KX ad)) (([.ref (ad 13), .ref (ad (53 + 7 * d)), .int (nI d)] : List Value).toArray) s 0 0 (ux_A KX ad)) (F0 m 2 ls []) := by
    intro nn
    induction nn using Nat.strongRecOn with
    | ind nn ih2 =>
      intro i_3 Mc2 H locs ls hn c2_0 hP hI hF hS hl
      refine lv_iload_n hx hb d_Rn_repeat_2 rfl (lv_at hl 3 rfl) ?_
      refine lv_bipush (v := 100) hx hb d_Rn_repeat_3 (by decide) ?_
      refine lv_icmp_gt hx hb d_Rn_repeat_5 rfl (fun h1 => ?_) (fun h1 => ?_)
      · have g1 : 100 < i_3.toInt := Int32.lt_iff_toInt_lt.mp h1
        have u1 := ti_hi i_3
        refine lv_aload_n hx hb d_Rn_repeat_120 rfl (lv_at hl 0 rfl) ?_
        refine ux_calli (va_runV ⟨hx, hb, hml, hown, hts⟩ (s_Rn_endOut l D ad cA Mc2 hI ) (cwV 0 hts (tb_goodV ml_Rn_167 im_Rn_endOut se_Rn_endOut ii_Rn kt_Rn_endOut) rfl rfl rfl (by decide +kernel) ⟨show 1 + 1 ≤ (12 + 8 * ee + 2) by omega, show 8 + (1 + 11) + (21) ≤ (600 + 300 * ee + 51) by omega⟩) (ux_preV (by decide) rfl rfl hP hK hi hN) rfl rfl hl.1 rfl (lv_room (Nat.le_of_ble_eq_true rfl)) d_Rn_repeat_121 ⟨Nat.zero_le _, Nat.zero_le _⟩) hS (fun r2 M3 H locs q4 hP hS => ?_)
        obtain ⟨hI, fq4, q4p⟩ := q4
        have hF := fr_call hF fq4 (fun a b q => by unfold tV at q; unfold tR; omega)
        exact W.iret (v := r2) hx hb hr (fun t ht hW => ⟨⟨r2, M3, rfl, ⟨hI, hF, trivial⟩, by unfold ux_E; rw [ht]; exact hP⟩, hS.F ht⟩) hS.2.2 d_Rn_repeat_124
      · have g1 : ¬ (100 < i_3.toInt) := fun q => h1 (Int32.lt_iff_toInt_lt.mpr q)
        have w1 := ti_lo i_3
        refine lv_aload_n hx hb d_Rn_repeat_8 rfl (lv_at hl 0 rfl) ?_
        refine ux_get (C := R_Rn) (T := F_Rn) (N := 9) hx hb hT in_Rn hown hK hP (by decide) rfl rfl 4 (by decide) (hT _ fl_Rn_59) rfl d_Rn_repeat_9 ?_
        refine lv_aload_n hx hb d_Rn_repeat_12 rfl (lv_at hl 1 rfl) ?_
        refine lv_iconst (v := 1) hx hb d_Rn_repeat_13 (by decide) ?_
        refine ux_calli (va_runV ⟨hx, hb, hml, hown, hts⟩ (s_Lv_startOf l D ad cA Mc2 hI d hd 1) (cwV 1 hts (tb_goodV ml_Rn_264 im_Lv_startOf se_Lv_startOf ii_Lv kt_Lv_startOf) rfl rfl rfl (by decide +kernel) ⟨show 1 + 1 ≤ (12 + 8 * ee + 2) by omega, show 8 + (2 + 11) + (21) ≤ (600 + 300 * ee + 51) by omega⟩) (ux_preV (lk 53 (by decide) hd) (L53 hd) rfl hP hK hi hN) rfl rfl hl.1 rfl (lv_room (Nat.le_of_ble_eq_true rfl)) d_Rn_repeat_14 ⟨Nat.zero_le _, Nat.zero_le _⟩) hS (fun r5 M6 H locs q7 hP hS => ?_)
        obtain ⟨hI, fq7, q7p⟩ := q7
        rw [tN_eq fq7] at hP hI
        refine lv_aload_n hx hb d_Rn_repeat_17 rfl (lv_at hl 1 rfl) ?_
        refine lv_iconst (v := 1) hx hb d_Rn_repeat_18 (by decide) ?_
        refine ux_calli (va_runV ⟨hx, hb, hml, hown, hts⟩ (s_Lv_endOf l D ad cA Mc2 hI d hd 1) (cwV 1 hts (tb_goodV ml_Rn_267 im_Lv_endOf se_Lv_endOf ii_Lv kt_Lv_endOf) rfl rfl rfl (by decide +kernel) ⟨show 1 + 1 ≤ (12 + 8 * ee + 2) by omega, show 8 + (2 + 11) + (21) ≤ (600 + 300 * ee + 51) by omega⟩) (ux_preV (lk 53 (by decide) hd) (L53 hd) rfl hP hK hi hN) rfl rfl hl.1 rfl (lv_room (Nat.le_of_ble_eq_true rfl)) d_Rn_repeat_19 ⟨Nat.zero_le _, Nat.zero_le _⟩) hS (fun r8 M9 H locs q10 hP hS => ?_)
        obtain ⟨hI, fq10, q10p⟩ := q10
        rw [tN_eq fq10] at hP hI
        refine lv_aload_n hx hb d_Rn_repeat_22 rfl (lv_at hl 1 rfl) ?_
        refine ux_getN (C := R_Lv) (T := F_Lv) (N := 10) hx hb hT in_Lv hown hK hP (lk 53 (by decide) hd) (L53 hd) rfl 7 (by decide) (hN _ nf_Rn_138) rfl d_Rn_repeat_23 ?_
        refine ux_calli (va_runV ⟨hx, hb, hml, hown, hts⟩ (s_Sm_workOut l D ad cA Mc2 hI r5 r8 (Mc2 (53 + 7 * d) 7)) (cwV 3 hts (tb_goodV ml_Rn_300 im_Sm_workOut se_Sm_workOut ii_Sm kt_Sm_workOut) rfl rfl rfl (by decide +kernel) ⟨show 3 + 1 ≤ (12 + 8 * ee + 2) by omega, show 8 + (7 + 11) + (71) ≤ (600 + 300 * ee + 51) by omega⟩) (ux_preV (by decide) rfl rfl hP hK hi hN) rfl rfl hl.1 rfl (lv_room (Nat.le_of_ble_eq_true rfl)) d_Rn_repeat_26 ⟨Nat.zero_le _, Nat.zero_le _⟩) hS (fun r11 M12 H locs q13 hP hS => ?_)
        obtain ⟨hI, fq13, q13p⟩ := q13
        have hF := fr_call hF fq13 (fun a b q => by unfold tSm at q; unfold tR; omega)
        refine lv_istore hx hb d_Rn_repeat_29 hl (by decide) rfl (fun ls hl => ?_)
        have hl : lv_has ls 6 [(4, .int r11), (0, .ref (ad 13)), (1, .ref (ad (53 + 7 * d))), (2, .int (nI d)), (3, .int i_3)] := hl
        refine lv_iload hx hb d_Rn_repeat_31 (lv_at hl 0 rfl) ?_
        refine lv_if_eq hx hb d_Rn_repeat_33 rfl (fun h14 => ?_) (fun h14 => ?_)
        · have g14 : r11.toInt = 0 := congrArg Int32.toInt h14
          refine lv_aload_n hx hb d_Rn_repeat_43 rfl (lv_at hl 1 rfl) ?_
          refine ux_get (C := R_Rn) (T := F_Rn) (N := 9) hx hb hT in_Rn hown hK hP (by decide) rfl rfl 4 (by decide) (hT _ fl_Rn_59) rfl d_Rn_repeat_44 ?_
          refine ux_getN (C := R_Sm) (T := F_Sm) (N := 14) hx hb hT in_Sm hown hK hP (by decide) rfl rfl 13 (by decide) (hN _ nf_Rn_304) rfl d_Rn_repeat_47 ?_
          refine lv_if_ne hx hb d_Rn_repeat_50 rfl (fun h15 => ?_) (fun h15 => ?_)
          · have g15 : ¬ ((M12 50 13).toInt = 0) := fun q => h15 (Int32.toInt_inj.mp q)
            refine lv_aload_n hx hb d_Rn_repeat_63 rfl (lv_at hl 1 rfl) ?_
            refine ux_calli (va_runV ⟨hx, hb, hml, hown, hts⟩ (s_Rn_takeFuel l D ad cA M12 hI ) (cwV 0 hts (tb_goodV ml_Rn_163 im_Rn_takeFuel se_Rn_takeFuel ii_Rn kt_Rn_takeFuel) rfl rfl rfl (by decide +kernel) ⟨show 0 + 1 ≤ (12 + 8 * ee + 2) by omega, show 8 + (1 + 11) + (0) ≤ (600 + 300 * ee + 51) by omega⟩) (ux_preV (by decide) rfl rfl hP hK hi hN) rfl rfl hl.1 rfl (lv_room (Nat.le_of_ble_eq_true rfl)) d_Rn_repeat_64 ⟨Nat.zero_le _, Nat.zero_le _⟩) hS (fun r16 M17 H locs q18 hP hS => ?_)
            obtain ⟨hI, fq18, q18p⟩ := q18
            have hF := fr_call hF fq18 (fun a b q => by unfold tFu at q; unfold tR; omega)
            refine lv_if_ne hx hb d_Rn_repeat_67 rfl (fun h19 => ?_) (fun h19 => ?_)
            · have g19 : ¬ (r16.toInt = 0) := fun q => h19 (Int32.toInt_inj.mp q)
              refine lv_aload_n hx hb d_Rn_repeat_75 rfl (lv_at hl 1 rfl) ?_
              refine lv_aload_n hx hb d_Rn_repeat_76 rfl (lv_at hl 2 rfl) ?_
              refine lv_iconst (v := 2) hx hb d_Rn_repeat_77 (by decide) ?_
              refine lv_iload_n hx hb d_Rn_repeat_78 rfl (lv_at hl 3 rfl) ?_
              refine ux_calli (va_runV ⟨hx, hb, hml, hown, hts⟩ (s_Rn_runWord l D ad cA M17 hI adK adV fm d ee hd hde hrec 2) (cwV 3 hts (tb_goodV ml_Rn_307 im_Rn_runWord se_Rn_runWord ii_Rn kt_Rn_runWord) rfl rfl rfl (by decide +kernel) ⟨show (12 + 8 * ee + 1) + 1 ≤ (12 + 8 * ee + 2) by omega, show 8 + (4 + 11) + ((600 + 300 * ee + 28)) ≤ (600 + 300 * ee + 51) by omega⟩) (ux_preVZ (by decide) rfl rfl hP hK hi hN hZ hS) rfl rfl hl.1 rfl (lv_room (Nat.le_of_ble_eq_true rfl)) d_Rn_repeat_79 ⟨Nat.zero_le _, Nat.zero_le _⟩) hS (fun r20 M21 H locs q22 hP hS => ?_)
              obtain ⟨hI, fq22, q22p⟩ := q22
              have hF := fr_call hF fq22 (fun a b q => by unfold tR at q; unfold tR; omega)
              refine lv_istore hx hb d_Rn_repeat_82 hl (by decide) rfl (fun ls hl => ?_)
              have hl : lv_has ls 6 [(5, .int r20), (4, .int r11), (0, .ref (ad 13)), (1, .ref (ad (53 + 7 * d))), (2, .int (nI d)), (3, .int i_3)] := hl
              refine lv_iload hx hb d_Rn_repeat_84 (lv_at hl 0 rfl) ?_
              refine lv_iconst (v := 3) hx hb d_Rn_repeat_86 (by decide) ?_
              refine lv_icmp_ne hx hb d_Rn_repeat_87 rfl (fun h23 => ?_) (fun h23 => ?_)
              · have g23 : ¬ (r20.toInt = 3) := fun q => h23 (Int32.toInt_inj.mp q)
                refine lv_iload hx hb d_Rn_repeat_100 (lv_at hl 0 rfl) ?_
                refine lv_if_eq hx hb d_Rn_repeat_102 rfl (fun h24 => ?_) (fun h24 => ?_)
                · have g24 : r20.toInt = 0 := congrArg Int32.toInt h24
                  obtain ⟨x25, ex25⟩ : ∃ z : Int32, z = i_3 + 1 := ⟨_, rfl⟩
                  refine lv_iinc (k := 5) (v := x25) hx hb d_Rn_repeat_114 hl rfl ex25.symm (by decide) rfl (fun ls hl => ?_)
                  have hl : lv_has ls 6 [(3, .int x25), (5, .int r20), (4, .int r11), (0, .ref (ad 13)), (1, .ref (ad (53 + 7 * d))), (2, .int (nI d))] := hl
                  try have fx25 : x25.toInt = i_3.toInt + 1 := by rw [ex25]; exact ti_add (by (try rw [show (1 : Int32).toInt = 1 from rfl]); omega) (by (try rw [show (1 : Int32).toInt = 1 from rfl]); omega)
                  refine lv_goto hx hb d_Rn_repeat_117 rfl ?_
                  exact ih2 (((101 : Int) - x25.toInt).toNat) (by omega) x25 M21 _ _ ls rfl (show 0 ≤ x25.toInt from by first | omega | assumption | exact Or.inl rfl | exact Or.inr rfl | rfl | decide) hP hI hF hS (lv_sub hl [3, 4, 5, 0] rfl)
                · have g24 : ¬ (r20.toInt = 0) := fun q => h24 (Int32.toInt_inj.mp q)
                  refine lv_iload hx hb d_Rn_repeat_105 (lv_at hl 0 rfl) ?_
                  refine lv_iconst (v := 4) hx hb d_Rn_repeat_107 (by decide) ?_
                  refine lv_icmp_eq hx hb d_Rn_repeat_108 rfl (fun h26 => ?_) (fun h26 => ?_)
                  · have g26 : r20.toInt = 4 := congrArg Int32.toInt h26
                    obtain ⟨x27, ex27⟩ : ∃ z : Int32, z = i_3 + 1 := ⟨_, rfl⟩
                    refine lv_iinc (k := 5) (v := x27) hx hb d_Rn_repeat_114 hl rfl ex27.symm (by decide) rfl (fun ls hl => ?_)
                    have hl : lv_has ls 6 [(3, .int x27), (5, .int r20), (4, .int r11), (0, .ref (ad 13)), (1, .ref (ad (53 + 7 * d))), (2, .int (nI d))] := hl
                    try have fx27 : x27.toInt = i_3.toInt + 1 := by rw [ex27]; exact ti_add (by (try rw [show (1 : Int32).toInt = 1 from rfl]); omega) (by (try rw [show (1 : Int32).toInt = 1 from rfl]); omega)
                    refine lv_goto hx hb d_Rn_repeat_117 rfl ?_
                    exact ih2 (((101 : Int) - x27.toInt).toNat) (by omega) x27 M21 _ _ ls rfl (show 0 ≤ x27.toInt from by first | omega | assumption | exact Or.inl rfl | exact Or.inr rfl | rfl | decide) hP hI hF hS (lv_sub hl [3, 4, 5, 0] rfl)
                  · have g26 : ¬ (r20.toInt = 4) := fun q => h26 (Int32.toInt_inj.mp q)
                    refine lv_iload hx hb d_Rn_repeat_111 (lv_at hl 0 rfl) ?_
                    exact W.iret (v := r20) hx hb hr (fun t ht hW => ⟨⟨r20, M21, rfl, ⟨hI, hF, trivial⟩, by unfold ux_E; rw [ht]; exact hP⟩, hS.F ht⟩) hS.2.2 d_Rn_repeat_113
              · have g23 : r20.toInt = 3 := congrArg Int32.toInt h23
                refine lv_aload_n hx hb d_Rn_repeat_90 rfl (lv_at hl 2 rfl) ?_
                refine ux_get (C := R_Rn) (T := F_Rn) (N := 9) hx hb hT in_Rn hown hK hP (by decide) rfl rfl 6 (by decide) (hT _ fl_Rn_36) rfl d_Rn_repeat_91 ?_
                refine lv_iconst (v := 0) hx hb d_Rn_repeat_94 (by decide) ?_
                refine ux_callv (va_runV ⟨hx, hb, hml, hown, hts⟩ (c_Vl_empty l D shX KX ad cA M21 47 48 49 1 V_res 0) (cwV 1 hts (tb_goodV ml_Rn_72 im_Vl_empty se_Vl_empty ii_Vl kt_Vl_empty) rfl rfl rfl (by decide +kernel) ⟨show 0 + 1 ≤ (12 + 8 * ee + 2) by omega, show 8 + (2 + 11) + (0) ≤ (600 + 300 * ee + 51) by omega⟩) (ux_preV (by decide) rfl rfl hP hK hi hN) rfl rfl hl.1 rfl (lv_room (Nat.le_of_ble_eq_true rfl)) d_Rn_repeat_95 ⟨Nat.zero_le _, Nat.zero_le _⟩) hS (fun M28 H locs q29 hP hS => ?_)
                have fq29 := vem_off (M := M21) (ks := 49) (n := 1) (i := 0)
                rw [← q29] at fq29
                have hI : IvX M28 := by rw [q29]; exact vem_I hI (fun b => by unfold ppn; omega) (by unfold pch; omega)
                have hF := fr_call hF fq29 (fun a b q => by unfold tV1 at q; unfold tR; omega)
                refine lv_iconst (v := 0) hx hb d_Rn_repeat_98 (by decide) ?_
                exact W.iret (v := 0) hx hb hr (fun t ht hW => ⟨⟨0, M28, rfl, ⟨hI, hF, trivial⟩, by unfold ux_E; rw [ht]; exact hP⟩, hS.F ht⟩) hS.2.2 d_Rn_repeat_99
            · have g19 : r16.toInt = 0 := congrArg Int32.toInt h19
              refine lv_aload_n hx hb d_Rn_repeat_70 rfl (lv_at hl 1 rfl) ?_
              refine ux_calli (va_runV ⟨hx, hb, hml, hown, hts⟩ (s_Rn_endOut l D ad cA M17 hI ) (cwV 0 hts (tb_goodV ml_Rn_167 im_Rn_endOut se_Rn_endOut ii_Rn kt_Rn_endOut) rfl rfl rfl (by decide +kernel) ⟨show 1 + 1 ≤ (12 + 8 * ee + 2) by omega, show 8 + (1 + 11) + (21) ≤ (600 + 300 * ee + 51) by omega⟩) (ux_preV (by decide) rfl rfl hP hK hi hN) rfl rfl hl.1 rfl (lv_room (Nat.le_of_ble_eq_true rfl)) d_Rn_repeat_71 ⟨Nat.zero_le _, Nat.zero_le _⟩) hS (fun r30 M31 H locs q32 hP hS => ?_)
              obtain ⟨hI, fq32, q32p⟩ := q32
              have hF := fr_call hF fq32 (fun a b q => by unfold tV at q; unfold tR; omega)
              exact W.iret (v := r30) hx hb hr (fun t ht hW => ⟨⟨r30, M31, rfl, ⟨hI, hF, trivial⟩, by unfold ux_E; rw [ht]; exact hP⟩, hS.F ht⟩) hS.2.2 d_Rn_repeat_74
          · have g15 : (M12 50 13).toInt = 0 := congrArg Int32.toInt h15
            refine lv_aload_n hx hb d_Rn_repeat_53 rfl (lv_at hl 1 rfl) ?_
            refine ux_get (C := R_Rn) (T := F_Rn) (N := 9) hx hb hT in_Rn hown hK hP (by decide) rfl rfl 6 (by decide) (hT _ fl_Rn_36) rfl d_Rn_repeat_54 ?_
            refine lv_iconst (v := 0) hx hb d_Rn_repeat_57 (by decide) ?_
            refine ux_callv (va_runV ⟨hx, hb, hml, hown, hts⟩ (c_Vl_empty l D shX KX ad cA M12 47 48 49 1 V_res 0) (cwV 1 hts (tb_goodV ml_Rn_72 im_Vl_empty se_Vl_empty ii_Vl kt_Vl_empty) rfl rfl rfl (by decide +kernel) ⟨show 0 + 1 ≤ (12 + 8 * ee + 2) by omega, show 8 + (2 + 11) + (0) ≤ (600 + 300 * ee + 51) by omega⟩) (ux_preV (by decide) rfl rfl hP hK hi hN) rfl rfl hl.1 rfl (lv_room (Nat.le_of_ble_eq_true rfl)) d_Rn_repeat_58 ⟨Nat.zero_le _, Nat.zero_le _⟩) hS (fun M33 H locs q34 hP hS => ?_)
            have fq34 := vem_off (M := M12) (ks := 49) (n := 1) (i := 0)
            rw [← q34] at fq34
            have hI : IvX M33 := by rw [q34]; exact vem_I hI (fun b => by unfold ppn; omega) (by unfold pch; omega)
            have hF := fr_call hF fq34 (fun a b q => by unfold tV1 at q; unfold tR; omega)
            refine lv_iconst (v := 0) hx hb d_Rn_repeat_61 (by decide) ?_
            exact W.iret (v := 0) hx hb hr (fun t ht hW => ⟨⟨0, M33, rfl, ⟨hI, hF, trivial⟩, by unfold ux_E; rw [ht]; exact hP⟩, hS.F ht⟩) hS.2.2 d_Rn_repeat_62
        · have g14 : ¬ (r11.toInt = 0) := fun q => h14 (Int32.toInt_inj.mp q)
          refine lv_aload_n hx hb d_Rn_repeat_36 rfl (lv_at hl 1 rfl) ?_
          refine lv_iload hx hb d_Rn_repeat_37 (lv_at hl 0 rfl) ?_
          refine ux_calli (va_runV ⟨hx, hb, hml, hown, hts⟩ (s_Rn_fail l D ad cA M12 hI r11) (cwV 1 hts (tb_goodV ml_Rn_64 im_Rn_fail se_Rn_fail ii_Rn kt_Rn_fail) rfl rfl rfl (by decide +kernel) ⟨show 1 + 1 ≤ (12 + 8 * ee + 2) by omega, show 8 + (2 + 11) + (22) ≤ (600 + 300 * ee + 51) by omega⟩) (ux_preV (by decide) rfl rfl hP hK hi hN) rfl rfl hl.1 rfl (lv_room (Nat.le_of_ble_eq_true rfl)) d_Rn_repeat_39 ⟨Nat.zero_le _, Nat.zero_le _⟩) hS (fun r35 M36 H locs q37 hP hS => ?_)
          obtain ⟨hI, fq37, q37p⟩ := q37
          have hF := fr_call hF fq37 (fun a b q => by unfold tV at q; unfold tR; omega)
          exact W.iret (v := r35) hx hb hr (fun t ht hW => ⟨⟨r35, M36, rfl, ⟨hI, hF, trivial⟩, by unfold ux_E; rw [ht]; exact hP⟩, hS.F ht⟩) hS.2.2 d_Rn_repeat_42
  refine lv_iconst (v := 0) hx hb d_Rn_repeat_0 (by decide) ?_
  refine lv_istore_n hx hb d_Rn_repeat_1 rfl hl (by decide) rfl (fun ls hl => ?_)
  have hl : lv_has ls 6 [(3, .int 0), (0, .ref (ad 13)), (1, .ref (ad (53 + 7 * d))), (2, .int (nI d))] := hl
  exact cut2 (((101 : Int) - 0).toNat) 0 M _ _ ls rfl (show 0 ≤ 0 from by first | omega | assumption | exact Or.inl rfl | exact Or.inr rfl | rfl | decide) hP hI hF hS (lv_sub hl [1, 2, 3, 0] rfl)

set_option maxHeartbeats 1600000 in
set_option maxRecDepth 100000 in
theorem s_Rn_catchCode (l : Launch) (D : va_G) (ad : Nat → Nat) (cA : Nat → ClassId) (M : ux_M) (hI : IvX M) (adK adV : Nat → Nat) (fm : Value) (d ee : Nat) (hd : d < 8) (hde : d + ee = 7) (hrec : RS l D ad cA adK adV fm (d + 1) ee) : Met l y_Rn_catchCode w_Rn_catchCode ({ frames := (12 + 8 * ee + 2), cells := 0, slots := 0, locals := (600 + 300 * ee + 51) }) (va_Pc [.ref (ad 13), .ref (ad (53 + 7 * d)), .int (nI d)] (ux_BZ D ad cA M adK adV fm)) (va_Qi (fun r M1 => IvX M1 ∧ (∀ a b, ¬ (tR d) a b → M1 a b = M a b) ∧ (True)) (ux_E D shX KX ad cA) (ux_A KX ad)) 0 0 (ux_A KX ad) := by
  refine Met.ofW (cc := b_Rn_catchCode) (maxL := 5) (ret := (some .int)) (by decide) rfl ?_
  intro p e s m args below meth c s₁ B hml hv
  obtain ⟨rfl, ⟨hP, hK, hi, hN⟩, hZ⟩ := hv
  have hx := B.exec
  have hb := B.bytes
  have hr := B.returns
  have hts := atoms_spec (ws := w_Rn_catchCode) B.pre
  have hown : s.vm.findClass R_Rn = some m.cls := findClass_of_methodNamed B.named
  have hlocks := B.notSynchronized
  have hT : ∀ w ∈ tb, w.before _ s = true := fun w h => hts w (List.mem_cons_of_mem _ h)
  have hS : va_S (ux_A KX ad) s.heap s.heap [] := va_S.rf
  have hl := lv_entry ([.ref (ad 13), .ref (ad (53 + 7 * d)), .int (nI d)]) (n := 5) (Nat.le_of_ble_eq_true rfl)
  rw [lg_entry_eq]
  generalize (lg_sl ([.ref (ad 13), .ref (ad (53 + 7 * d)), .int (nI d)]) ++ List.replicate (5 - (lg_sl ([.ref (ad 13), .ref (ad (53 + 7 * d)), .int (nI d)])).length) Slot.unset).toArray = ls at hl ⊢
  have hl : lv_has ls 5 [(0, .ref (ad 13)), (1, .ref (ad (53 + 7 * d))), (2, .int (nI d))] := hl
  have hF : ∀ a b, ¬ (tR d) a b → M a b = M a b := fun _ _ _ => rfl
  have hdt : (nI d).toInt = (d : Int) := nI_toInt (by omega)
  refine lv_aload_n hx hb d_Rn_catchCode_0 rfl (lv_at hl 0 rfl) ?_
  refine lv_aload_n hx hb d_Rn_catchCode_1 rfl (lv_at hl 1 rfl) ?_
  refine lv_iconst (v := 1) hx hb d_Rn_catchCode_2 (by decide) ?_
  refine lv_iload_n hx hb d_Rn_catchCode_3 rfl (lv_at hl 2 rfl) ?_
  refine ux_calli (va_runV ⟨hx, hb, hml, hown, hts⟩ (s_Rn_runWord l D ad cA M hI adK adV fm d ee hd hde hrec 1) (cwV 3 hts (tb_goodV ml_Rn_307 im_Rn_runWord se_Rn_runWord ii_Rn kt_Rn_runWord) rfl rfl rfl (by decide +kernel) ⟨show (12 + 8 * ee + 1) + 1 ≤ (12 + 8 * ee + 2) by omega, show 8 + (4 + 11) + ((600 + 300 * ee + 28)) ≤ (600 + 300 * ee + 51) by omega⟩) (ux_preVZ (by decide) rfl rfl hP hK hi hN hZ hS) rfl rfl hl.1 rfl (lv_room (Nat.le_of_ble_eq_true rfl)) d_Rn_catchCode_4 ⟨Nat.zero_le _, Nat.zero_le _⟩) hS (fun r1 M2 H locs q3 hP hS => ?_)
  obtain ⟨hI, fq3, q3p⟩ := q3
  have hF := fr_call hF fq3 (fun a b q => by unfold tR at q; unfold tR; omega)
  refine lv_istore_n hx hb d_Rn_catchCode_7 rfl hl (by decide) rfl (fun ls hl => ?_)
  have hl : lv_has ls 5 [(3, .int r1), (0, .ref (ad 13)), (1, .ref (ad (53 + 7 * d))), (2, .int (nI d))] := hl
  refine lv_iload_n hx hb d_Rn_catchCode_8 rfl (lv_at hl 0 rfl) ?_
  refine lv_iconst (v := 5) hx hb d_Rn_catchCode_9 (by decide) ?_
  refine lv_icmp_ne hx hb d_Rn_catchCode_10 rfl (fun h4 => ?_) (fun h4 => ?_)
  · have g4 : ¬ (r1.toInt = 5) := fun q => h4 (Int32.toInt_inj.mp q)
    refine lv_aload_n hx hb d_Rn_catchCode_15 rfl (lv_at hl 2 rfl) ?_
    refine ux_getN (C := R_Lv) (T := F_Lv) (N := 10) hx hb hT in_Lv hown hK hP (lk 53 (by decide) hd) (L53 hd) rfl 4 (by decide) (hN _ nf_Rn_83) rfl d_Rn_catchCode_16 ?_
    have b5 := iv0 (M := M2) (a := 53 + 7 * d) (b := 4) hI (by unfold p0; omega)
    have b6 := iv8 (M := M2) (a := 53 + 7 * d) (b := 4) hI (by unfold p8; omega)
    refine lv_iconst (v := 2) hx hb d_Rn_catchCode_19 (by decide) ?_
    refine lv_icmp_le hx hb d_Rn_catchCode_20 rfl (fun h7 => ?_) (fun h7 => ?_)
    · have g7 : (M2 (53 + 7 * d) 4).toInt ≤ 2 := Int32.le_iff_toInt_le.mp h7
      have w7 := ti_lo (M2 (53 + 7 * d) 4)
      refine lv_aload_n hx hb d_Rn_catchCode_59 rfl (lv_at hl 1 rfl) ?_
      refine ux_get (C := R_Rn) (T := F_Rn) (N := 9) hx hb hT in_Rn hown hK hP (by decide) rfl rfl 6 (by decide) (hT _ fl_Rn_36) rfl d_Rn_catchCode_60 ?_
      refine lv_iconst (v := 0) hx hb d_Rn_catchCode_63 (by decide) ?_
      refine lv_iload_n hx hb d_Rn_catchCode_64 rfl (lv_at hl 0 rfl) ?_
      refine ux_callv (va_runV ⟨hx, hb, hml, hown, hts⟩ (s_Vl_writeNumber l D ad cA M2 hI 47 48 49 1 vV_res 0 r1) (cwV 2 hts (tb_goodV ml_Rn_250 im_Vl_writeNumber se_Vl_writeNumber ii_Vl kt_Vl_writeNumber) rfl rfl rfl (by decide +kernel) ⟨show 1 + 1 ≤ (12 + 8 * ee + 2) by omega, show 8 + (8 + 11) + (22) ≤ (600 + 300 * ee + 51) by omega⟩) (ux_preV (by decide) rfl rfl hP hK hi hN) rfl rfl hl.1 rfl (lv_room (Nat.le_of_ble_eq_true rfl)) d_Rn_catchCode_65 ⟨Nat.zero_le _, Nat.zero_le _⟩) hS (fun M9 H locs q10 hP hS => ?_)
      obtain ⟨hI, fq10, q10p⟩ := q10
      have hF := fr_call hF fq10 (fun a b q => by unfold tV at q; unfold tR; omega)
      refine lv_iconst (v := 0) hx hb d_Rn_catchCode_68 (by decide) ?_
      exact W.iret (v := 0) hx hb hr (fun t ht hW => ⟨⟨0, M9, rfl, ⟨hI, hF, trivial⟩, by unfold ux_E; rw [ht]; exact hP⟩, hS.F ht⟩) hS.2.2 d_Rn_catchCode_69
    · have g7 : ¬ ((M2 (53 + 7 * d) 4).toInt ≤ 2) := fun q => h7 (Int32.le_iff_toInt_le.mpr q)
      have u7 := ti_hi (M2 (53 + 7 * d) 4)
      refine lv_aload_n hx hb d_Rn_catchCode_23 rfl (lv_at hl 2 rfl) ?_
      refine ux_getN (C := R_Lv) (T := F_Lv) (N := 10) hx hb hT in_Lv hown hK hP (lk 53 (by decide) hd) (L53 hd) rfl 0 (by decide) (hN _ nf_Rn_145) rfl d_Rn_catchCode_24 ?_
      refine lv_iconst (v := 2) hx hb d_Rn_catchCode_27 (by decide) ?_
      refine ux_calli (va_runV ⟨hx, hb, hml, hown, hts⟩ (c_Vl_nameOf l D shX KX ad cA M2 (54 + 7 * d) (55 + 7 * d) (56 + 7 * d) 8 (V_lv hd) 2) (cwV 1 hts (tb_goodV ml_Rn_171 im_Vl_nameOf se_Vl_nameOf ii_Vl kt_Vl_nameOf) rfl rfl rfl (by decide +kernel) ⟨show 1 + 1 ≤ (12 + 8 * ee + 2) by omega, show 8 + (2 + 11) + (22) ≤ (600 + 300 * ee + 51) by omega⟩) (ux_preV (lk 54 (by decide) hd) (L54 hd) rfl hP hK hi hN) rfl rfl hl.1 rfl (lv_room (Nat.le_of_ble_eq_true rfl)) d_Rn_catchCode_28 ⟨Nat.zero_le _, Nat.zero_le _⟩) hS (fun r11 M12 H locs q13 hP hS => ?_)
      obtain ⟨q13m, q13e⟩ := q13
      rw [q13m] at hP
      subst q13e
      refine lv_bipush (v := 97) hx hb d_Rn_catchCode_31 (by decide) ?_
      refine lv_isub hx hb d_Rn_catchCode_33 ?_
      refine lv_topi (fun x14 ex14 => ?_)
      try have fx14 : x14.toInt = (vn M2 (55 + 7 * d) (56 + 7 * d) 8 2).toInt - 97 := by rw [ex14]; exact ti_sub (by (try rw [show (97 : Int32).toInt = 97 from rfl]); omega) (by (try rw [show (97 : Int32).toInt = 97 from rfl]); omega)
      refine lv_istore hx hb d_Rn_catchCode_34 hl (by decide) rfl (fun ls hl => ?_)
      have hl : lv_has ls 5 [(4, .int x14), (3, .int r1), (0, .ref (ad 13)), (1, .ref (ad (53 + 7 * d))), (2, .int (nI d))] := hl
      refine lv_aload_n hx hb d_Rn_catchCode_36 rfl (lv_at hl 2 rfl) ?_
      refine ux_get (C := R_Rn) (T := F_Rn) (N := 9) hx hb hT in_Rn hown hK hP (by decide) rfl rfl 2 (by decide) (hT _ fl_Rn_12) rfl d_Rn_catchCode_37 ?_
      refine lv_aload_n hx hb d_Rn_catchCode_40 rfl (lv_at hl 3 rfl) ?_
      refine ux_getN (C := R_Lv) (T := F_Lv) (N := 10) hx hb hT in_Lv hown hK hP (lk 53 (by decide) hd) (L53 hd) rfl 7 (by decide) (hN _ nf_Rn_138) rfl d_Rn_catchCode_41 ?_
      refine lv_iload hx hb d_Rn_catchCode_44 (lv_at hl 0 rfl) ?_
      refine ux_callr (va_runV ⟨hx, hb, hml, hown, hts⟩ (c_Vs_meant l D ad cA M2 (M2 (53 + 7 * d) 7) x14) (cwV 2 hts (tb_goodV ml_Rn_156 im_Vs_meant se_Vs_meant ii_Vs kt_Vs_meant) rfl rfl rfl (by decide +kernel) ⟨show 1 + 1 ≤ (12 + 8 * ee + 2) by omega, show 8 + (3 + 11) + (21) ≤ (600 + 300 * ee + 51) by omega⟩) (ux_preV (by decide) rfl rfl hP hK hi hN) rfl rfl hl.1 rfl (lv_room (Nat.le_of_ble_eq_true rfl)) d_Rn_catchCode_46 ⟨Nat.zero_le _, Nat.zero_le _⟩) hS (fun M16 H locs q17 hP hS => ?_)
      rw [q17] at hP
      obtain ⟨v18, hv18, ev18⟩ := vme_in M2 (M2 (53 + 7 * d) 7) x14
      rw [ev18]
      refine lv_iload hx hb d_Rn_catchCode_49 (lv_at hl 0 rfl) ?_
      refine lv_aload_n hx hb d_Rn_catchCode_51 rfl (lv_at hl 2 rfl) ?_
      refine ux_get (C := R_Rn) (T := F_Rn) (N := 9) hx hb hT in_Rn hown hK hP (by decide) rfl rfl 6 (by decide) (hT _ fl_Rn_36) rfl d_Rn_catchCode_52 ?_
      refine lv_iconst (v := 0) hx hb d_Rn_catchCode_55 (by decide) ?_
      refine ux_callv (va_runV ⟨hx, hb, hml, hown, hts⟩ (s_Vl_copy l D ad cA M2 hI (18 + 3 * v18) (19 + 3 * v18) (20 + 3 * v18) 26 (vV_fr hv18) 47 48 49 1 vV_res x14 0) (cwV 3 hts (tb_goodV ml_Rn_277 im_Vl_copy se_Vl_copy ii_Vl kt_Vl_copy) rfl rfl rfl (by decide +kernel) ⟨show 1 + 1 ≤ (12 + 8 * ee + 2) by omega, show 8 + (4 + 11) + (21) ≤ (600 + 300 * ee + 51) by omega⟩) (ux_preV (fk 18 (by decide) hv18) (F18 hv18) rfl hP hK hi hN) rfl rfl hl.1 rfl (lv_room (Nat.le_of_ble_eq_true rfl)) d_Rn_catchCode_56 ⟨Nat.zero_le _, Nat.zero_le _⟩) hS (fun M20 H locs q21 hP hS => ?_)
      obtain ⟨hI, fq21, q21p⟩ := q21
      have hF := fr_call hF fq21 (fun a b q => by unfold tV at q; unfold tR; omega)
      refine lv_aload_n hx hb d_Rn_catchCode_59 rfl (lv_at hl 2 rfl) ?_
      refine ux_get (C := R_Rn) (T := F_Rn) (N := 9) hx hb hT in_Rn hown hK hP (by decide) rfl rfl 6 (by decide) (hT _ fl_Rn_36) rfl d_Rn_catchCode_60 ?_
      refine lv_iconst (v := 0) hx hb d_Rn_catchCode_63 (by decide) ?_
      refine lv_iload_n hx hb d_Rn_catchCode_64 rfl (lv_at hl 1 rfl) ?_
      refine ux_callv (va_runV ⟨hx, hb, hml, hown, hts⟩ (s_Vl_writeNumber l D ad cA M20 hI 47 48 49 1 vV_res 0 r1) (cwV 2 hts (tb_goodV ml_Rn_250 im_Vl_writeNumber se_Vl_writeNumber ii_Vl kt_Vl_writeNumber) rfl rfl rfl (by decide +kernel) ⟨show 1 + 1 ≤ (12 + 8 * ee + 2) by omega, show 8 + (8 + 11) + (22) ≤ (600 + 300 * ee + 51) by omega⟩) (ux_preV (by decide) rfl rfl hP hK hi hN) rfl rfl hl.1 rfl (lv_room (Nat.le_of_ble_eq_true rfl)) d_Rn_catchCode_65 ⟨Nat.zero_le _, Nat.zero_le _⟩) hS (fun M23 H locs q24 hP hS => ?_)
      obtain ⟨hI, fq24, q24p⟩ := q24
      have hF := fr_call hF fq24 (fun a b q => by unfold tV at q; unfold tR; omega)
      refine lv_iconst (v := 0) hx hb d_Rn_catchCode_68 (by decide) ?_
      exact W.iret (v := 0) hx hb hr (fun t ht hW => ⟨⟨0, M23, rfl, ⟨hI, hF, trivial⟩, by unfold ux_E; rw [ht]; exact hP⟩, hS.F ht⟩) hS.2.2 d_Rn_catchCode_69
  · have g4 : r1.toInt = 5 := congrArg Int32.toInt h4
    refine lv_iconst (v := 5) hx hb d_Rn_catchCode_13 (by decide) ?_
    exact W.iret (v := 5) hx hb hr (fun t ht hW => ⟨⟨5, M2, rfl, ⟨hI, hF, trivial⟩, by unfold ux_E; rw [ht]; exact hP⟩, hS.F ht⟩) hS.2.2 d_Rn_catchCode_14

set_option maxHeartbeats 1600000 in
set_option maxRecDepth 100000 in
theorem s_Rn_callProcedure (l : Launch) (D : va_G) (ad : Nat → Nat) (cA : Nat → ClassId) (M : ux_M) (hI : IvX M) (adK adV : Nat → Nat) (fm : Value) (d ee : Nat) (hd : d < 8) (hde : d + ee = 7) (hrec : RS l D ad cA adK adV fm (d + 1) ee) (pn : Int32) : Met l y_Rn_callProcedure w_Rn_callProcedure ({ frames := (12 + 8 * ee + 1), cells := 0, slots := 0, locals := (600 + 300 * ee + 28) }) (va_Pc [.ref (ad 13), .ref (ad (53 + 7 * d)), .int (nI d), .int pn] (ux_BZ D ad cA M adK adV fm)) (va_Qi (fun r M1 => IvX M1 ∧ (∀ a b, ¬ (tR d) a b → M1 a b = M a b) ∧ (True)) (ux_E D shX KX ad cA) (ux_A KX ad)) 0 0 (ux_A KX ad) := by
  refine Met.ofW (cc := b_Rn_callProcedure) (maxL := 6) (ret := (some .int)) (by decide) rfl ?_
  intro p e s m args below meth c s₁ B hml hv
  obtain ⟨rfl, ⟨hP, hK, hi, hN⟩, hZ⟩ := hv
  have hx := B.exec
  have hb := B.bytes
  have hr := B.returns
  have hts := atoms_spec (ws := w_Rn_callProcedure) B.pre
  have hown : s.vm.findClass R_Rn = some m.cls := findClass_of_methodNamed B.named
  have hlocks := B.notSynchronized
  have hT : ∀ w ∈ tb, w.before _ s = true := fun w h => hts w (List.mem_cons_of_mem _ h)
  have hS : va_S (ux_A KX ad) s.heap s.heap [] := va_S.rf
  have hl := lv_entry ([.ref (ad 13), .ref (ad (53 + 7 * d)), .int (nI d), .int pn]) (n := 6) (Nat.le_of_ble_eq_true rfl)
  rw [lg_entry_eq]
  generalize (lg_sl ([.ref (ad 13), .ref (ad (53 + 7 * d)), .int (nI d), .int pn]) ++ List.replicate (6 - (lg_sl ([.ref (ad 13), .ref (ad (53 + 7 * d)), .int (nI d), .int pn])).length) Slot.unset).toArray = ls at hl ⊢
  have hl : lv_has ls 6 [(0, .ref (ad 13)), (1, .ref (ad (53 + 7 * d))), (2, .int (nI d)), (3, .int pn)] := hl
  have hF : ∀ a b, ¬ (tR d) a b → M a b = M a b := fun _ _ _ => rfl
  have hdt : (nI d).toInt = (d : Int) := nI_toInt (by omega)
  refine lv_aload_n hx hb d_Rn_callProcedure_0 rfl (lv_at hl 0 rfl) ?_
  refine ux_get (C := R_Rn) (T := F_Rn) (N := 9) hx hb hT in_Rn hown hK hP (by decide) rfl rfl 3 (by decide) (hT _ fl_Rn_21) rfl d_Rn_callProcedure_1 ?_
  refine lv_iload_n hx hb d_Rn_callProcedure_4 rfl (lv_at hl 3 rfl) ?_
  refine ux_calli (va_runV ⟨hx, hb, hml, hown, hts⟩ (c_Pd_has l D ad cA M pn) (cwV 1 hts (tb_goodV ml_Rn_200 im_Pd_has se_Pd_has ii_Pd kt_Pd_has) rfl rfl rfl (by decide +kernel) ⟨show 0 + 1 ≤ (12 + 8 * ee + 1) by omega, show 8 + (2 + 11) + (0) ≤ (600 + 300 * ee + 28) by omega⟩) (ux_preV (by decide) rfl rfl hP hK hi hN) rfl rfl hl.1 rfl (lv_room (Nat.le_of_ble_eq_true rfl)) d_Rn_callProcedure_5 ⟨Nat.zero_le _, Nat.zero_le _⟩) hS (fun r1 M2 H locs q3 hP hS => ?_)
  obtain ⟨q3m, q3e⟩ := q3
  rw [q3m] at hP
  subst q3e
  refine lv_if_ne hx hb d_Rn_callProcedure_8 rfl (fun h4 => ?_) (fun h4 => ?_)
  · have g4 : ¬ ((vha M pn).toInt = 0) := fun q => h4 (Int32.toInt_inj.mp q)
    have hpn := vha_1 (by assumption)
    refine lv_iload_n hx hb d_Rn_callProcedure_17 rfl (lv_at hl 2 rfl) ?_
    refine lv_iconst (v := 1) hx hb d_Rn_callProcedure_18 (by decide) ?_
    refine lv_iadd hx hb d_Rn_callProcedure_19 ?_
    refine lv_topi (fun z5 hz5 => ?_)
    rw [nI_1 d] at hz5
    rw [hz5]
    have b6 : (nI (d + 1)).toInt = ((d + 1 : Nat) : Int) := nI_toInt (by omega)
    refine lv_istore hx hb d_Rn_callProcedure_20 hl (by decide) rfl (fun ls hl => ?_)
    have hl : lv_has ls 6 [(4, .int (nI (d + 1))), (0, .ref (ad 13)), (1, .ref (ad (53 + 7 * d))), (2, .int (nI d)), (3, .int pn)] := hl
    refine lv_aload_n hx hb d_Rn_callProcedure_22 rfl (lv_at hl 1 rfl) ?_
    refine ux_get (C := R_Rn) (T := F_Rn) (N := 9) hx hb hT in_Rn hown hK hP (by decide) rfl rfl 3 (by decide) (hT _ fl_Rn_21) rfl d_Rn_callProcedure_23 ?_
    refine ux_getN (C := R_Pd) (T := F_Pd) (N := 3) hx hb hT in_Pd hown hK hP (by decide) rfl rfl 2 (by decide) (hN _ nf_Rn_310) rfl d_Rn_callProcedure_26 ?_
    refine lv_iload_n hx hb d_Rn_callProcedure_29 rfl (lv_at hl 4 rfl) ?_
    refine ux_iald hx hb hK hP (by decide) rfl ((vi (show 0 ≤ pn.toInt by omega) (show pn.toInt < ((26 : Nat) : Int) by omega))) d_Rn_callProcedure_30 ?_
    refine lv_istore hx hb d_Rn_callProcedure_31 hl (by decide) rfl (fun ls hl => ?_)
    have hl : lv_has ls 6 [(5, .int (M 44 pn.toNatClampNeg)), (4, .int (nI (d + 1))), (0, .ref (ad 13)), (1, .ref (ad (53 + 7 * d))), (2, .int (nI d)), (3, .int pn)] := hl
    refine lv_aload_n hx hb d_Rn_callProcedure_33 rfl (lv_at hl 2 rfl) ?_
    refine ux_get (C := R_Rn) (T := F_Rn) (N := 9) hx hb hT in_Rn hown hK hP (by decide) rfl rfl 2 (by decide) (hT _ fl_Rn_12) rfl d_Rn_callProcedure_34 ?_
    refine lv_iload hx hb d_Rn_callProcedure_37 (lv_at hl 1 rfl) ?_
    refine ux_callv (va_runV ⟨hx, hb, hml, hown, hts⟩ (s_Vs_open l D ad cA M hI (nI (d + 1))) (cwV 1 hts (tb_goodV ml_Rn_314 im_Vs_open se_Vs_open ii_Vs kt_Vs_open) rfl rfl rfl (by decide +kernel) ⟨show 2 + 1 ≤ (12 + 8 * ee + 1) by omega, show 8 + (3 + 11) + (43) ≤ (600 + 300 * ee + 28) by omega⟩) (ux_preV (by decide) rfl rfl hP hK hi hN) rfl rfl hl.1 rfl (lv_room (Nat.le_of_ble_eq_true rfl)) d_Rn_callProcedure_39 ⟨Nat.zero_le _, Nat.zero_le _⟩) hS (fun M8 H locs q9 hP hS => ?_)
    obtain ⟨hI, fq9, q9p⟩ := q9
    have hF := fr_call hF fq9 (fun a b q => by unfold tVs at q; unfold tR; omega)
    refine lv_iload hx hb d_Rn_callProcedure_42 (lv_at hl 1 rfl) ?_
    refine lv_bipush (v := 8) hx hb d_Rn_callProcedure_44 (by decide) ?_
    refine lv_icmp_ge hx hb d_Rn_callProcedure_46 rfl (fun h10 => ?_) (fun h10 => ?_)
    · have g10 : 8 ≤ (nI (d + 1)).toInt := Int32.le_iff_toInt_le.mp h10
      have u10 := ti_hi (nI (d + 1))
      refine lv_aload_n hx hb d_Rn_callProcedure_70 rfl (lv_at hl 2 rfl) ?_
      refine lv_aload_n hx hb d_Rn_callProcedure_71 rfl (lv_at hl 2 rfl) ?_
      refine lv_aload_n hx hb d_Rn_callProcedure_72 rfl (lv_at hl 2 rfl) ?_
      refine ux_get (C := R_Rn) (T := F_Rn) (N := 9) hx hb hT in_Rn hown hK hP (by decide) rfl rfl 3 (by decide) (hT _ fl_Rn_21) rfl d_Rn_callProcedure_73 ?_
      refine ux_getN (C := R_Pd) (T := F_Pd) (N := 3) hx hb hT in_Pd hown hK hP (by decide) rfl rfl 0 (by decide) (hN _ nf_Rn_317) rfl d_Rn_callProcedure_76 ?_
      refine lv_iload_n hx hb d_Rn_callProcedure_79 rfl (lv_at hl 5 rfl) ?_
      refine ux_iald hx hb hK hP (by decide) rfl ((vi (show 0 ≤ pn.toInt by omega) (show pn.toInt < ((26 : Nat) : Int) by omega))) d_Rn_callProcedure_80 ?_
      refine lv_aload_n hx hb d_Rn_callProcedure_81 rfl (lv_at hl 2 rfl) ?_
      refine ux_get (C := R_Rn) (T := F_Rn) (N := 9) hx hb hT in_Rn hown hK hP (by decide) rfl rfl 3 (by decide) (hT _ fl_Rn_21) rfl d_Rn_callProcedure_82 ?_
      refine ux_getN (C := R_Pd) (T := F_Pd) (N := 3) hx hb hT in_Pd hown hK hP (by decide) rfl rfl 1 (by decide) (hN _ nf_Rn_320) rfl d_Rn_callProcedure_85 ?_
      refine lv_iload_n hx hb d_Rn_callProcedure_88 rfl (lv_at hl 5 rfl) ?_
      refine ux_iald hx hb hK hP (by decide) rfl ((vi (show 0 ≤ pn.toInt by omega) (show pn.toInt < ((26 : Nat) : Int) by omega))) d_Rn_callProcedure_89 ?_
      refine lv_iload hx hb d_Rn_callProcedure_90 (lv_at hl 1 rfl) ?_
      refine lv_iload hx hb d_Rn_callProcedure_92 (lv_at hl 1 rfl) ?_
      refine lv_iconst (v := 0) hx hb d_Rn_callProcedure_94 (by decide) ?_
      refine ux_calli (va_runV ⟨hx, hb, hml, hown, hts⟩ (hrec M8 hI (M8 45 pn.toNatClampNeg) (M8 43 pn.toNatClampNeg) (nI (d + 1)) 0 (by first | assumption | exact Or.inl rfl | exact Or.inr rfl)) (cwV 5 hts (tb_goodV ml_Rn_141 im_Rn_runScript se_Rn_runScript ii_Rn kt_Rn_runScript) rfl rfl rfl (by decide +kernel) ⟨show (12 + 8 * ee) + 1 ≤ (12 + 8 * ee + 1) by omega, show 8 + (9 + 11) + ((600 + 300 * ee)) ≤ (600 + 300 * ee + 28) by omega⟩) (ux_preVZ (by decide) rfl rfl hP hK hi hN hZ hS) rfl rfl hl.1 rfl (lv_room (Nat.le_of_ble_eq_true rfl)) d_Rn_callProcedure_95 ⟨Nat.zero_le _, Nat.zero_le _⟩) hS (fun r11 M12 H locs q13 hP hS => ?_)
      obtain ⟨hI, fq13, q13p⟩ := q13
      have hF := fr_call hF fq13 (fun a b q => by unfold tR at q; unfold tR; omega)
      refine ux_calli (va_runV ⟨hx, hb, hml, hown, hts⟩ (s_Rn_leave l D ad cA M12 hI r11) (cwV 1 hts (tb_goodV ml_Rn_323 im_Rn_leave se_Rn_leave ii_Rn kt_Rn_leave) rfl rfl rfl (by decide +kernel) ⟨show 2 + 1 ≤ (12 + 8 * ee + 1) by omega, show 8 + (2 + 11) + (43) ≤ (600 + 300 * ee + 28) by omega⟩) (ux_preV (by decide) rfl rfl hP hK hi hN) rfl rfl hl.1 rfl (lv_room (Nat.le_of_ble_eq_true rfl)) d_Rn_callProcedure_98 ⟨Nat.zero_le _, Nat.zero_le _⟩) hS (fun r14 M15 H locs q16 hP hS => ?_)
      obtain ⟨hI, fq16, q16p⟩ := q16
      have hF := fr_call hF fq16 (fun a b q => by unfold tV at q; unfold tR; omega)
      exact W.iret (v := r14) hx hb hr (fun t ht hW => ⟨⟨r14, M15, rfl, ⟨hI, hF, trivial⟩, by unfold ux_E; rw [ht]; exact hP⟩, hS.F ht⟩) hS.2.2 d_Rn_callProcedure_101
    · have g10 : ¬ (8 ≤ (nI (d + 1)).toInt) := fun q => h10 (Int32.le_iff_toInt_le.mpr q)
      have w10 := ti_lo (nI (d + 1))
      refine lv_aload_n hx hb d_Rn_callProcedure_49 rfl (lv_at hl 2 rfl) ?_
      refine ux_get (C := R_Rn) (T := F_Rn) (N := 9) hx hb hT in_Rn hown hK hP (by decide) rfl rfl 2 (by decide) (hT _ fl_Rn_12) rfl d_Rn_callProcedure_50 ?_
      refine lv_iload hx hb d_Rn_callProcedure_53 (lv_at hl 1 rfl) ?_
      refine lv_iload hx hb d_Rn_callProcedure_55 (lv_at hl 0 rfl) ?_
      refine ux_callr (va_runV ⟨hx, hb, hml, hown, hts⟩ (c_Vs_meant l D ad cA M8 (nI (d + 1)) (M 44 pn.toNatClampNeg)) (cwV 2 hts (tb_goodV ml_Rn_156 im_Vs_meant se_Vs_meant ii_Vs kt_Vs_meant) rfl rfl rfl (by decide +kernel) ⟨show 1 + 1 ≤ (12 + 8 * ee + 1) by omega, show 8 + (3 + 11) + (21) ≤ (600 + 300 * ee + 28) by omega⟩) (ux_preV (by decide) rfl rfl hP hK hi hN) rfl rfl hl.1 rfl (lv_room (Nat.le_of_ble_eq_true rfl)) d_Rn_callProcedure_57 ⟨Nat.zero_le _, Nat.zero_le _⟩) hS (fun M18 H locs q19 hP hS => ?_)
      rw [q19] at hP
      obtain ⟨v20, hv20, ev20⟩ := vme_in M8 (nI (d + 1)) (M 44 pn.toNatClampNeg)
      rw [ev20]
      refine lv_iload hx hb d_Rn_callProcedure_60 (lv_at hl 0 rfl) ?_
      refine lv_aload_n hx hb d_Rn_callProcedure_62 rfl (lv_at hl 3 rfl) ?_
      refine ux_getN (C := R_Lv) (T := F_Lv) (N := 10) hx hb hT in_Lv hown hK hP (lk 53 (by decide) hd) (L53 hd) rfl 0 (by decide) (hN _ nf_Rn_145) rfl d_Rn_callProcedure_63 ?_
      refine lv_iconst (v := 1) hx hb d_Rn_callProcedure_66 (by decide) ?_
      refine ux_callv (va_runV ⟨hx, hb, hml, hown, hts⟩ (s_Vl_copy l D ad cA M8 hI (18 + 3 * v20) (19 + 3 * v20) (20 + 3 * v20) 26 (vV_fr hv20) (54 + 7 * d) (55 + 7 * d) (56 + 7 * d) 8 (vV_lv hd) (M 44 pn.toNatClampNeg) 1) (cwV 3 hts (tb_goodV ml_Rn_277 im_Vl_copy se_Vl_copy ii_Vl kt_Vl_copy) rfl rfl rfl (by decide +kernel) ⟨show 1 + 1 ≤ (12 + 8 * ee + 1) by omega, show 8 + (4 + 11) + (21) ≤ (600 + 300 * ee + 28) by omega⟩) (ux_preV (fk 18 (by decide) hv20) (F18 hv20) rfl hP hK hi hN) rfl rfl hl.1 rfl (lv_room (Nat.le_of_ble_eq_true rfl)) d_Rn_callProcedure_67 ⟨Nat.zero_le _, Nat.zero_le _⟩) hS (fun M22 H locs q23 hP hS => ?_)
      obtain ⟨hI, fq23, q23p⟩ := q23
      have hF := fr_call hF fq23 (fun a b q => by unfold tV at q; unfold tR; omega)
      refine lv_aload_n hx hb d_Rn_callProcedure_70 rfl (lv_at hl 2 rfl) ?_
      refine lv_aload_n hx hb d_Rn_callProcedure_71 rfl (lv_at hl 2 rfl) ?_
      refine lv_aload_n hx hb d_Rn_callProcedure_72 rfl (lv_at hl 2 rfl) ?_
      refine ux_get (C := R_Rn) (T := F_Rn) (N := 9) hx hb hT in_Rn hown hK hP (by decide) rfl rfl 3 (by decide) (hT _ fl_Rn_21) rfl d_Rn_callProcedure_73 ?_
      refine ux_getN (C := R_Pd) (T := F_Pd) (N := 3) hx hb hT in_Pd hown hK hP (by decide) rfl rfl 0 (by decide) (hN _ nf_Rn_317) rfl d_Rn_callProcedure_76 ?_
      refine lv_iload_n hx hb d_Rn_callProcedure_79 rfl (lv_at hl 5 rfl) ?_
      refine ux_iald hx hb hK hP (by decide) rfl ((vi (show 0 ≤ pn.toInt by omega) (show pn.toInt < ((26 : Nat) : Int) by omega))) d_Rn_callProcedure_80 ?_
      refine lv_aload_n hx hb d_Rn_callProcedure_81 rfl (lv_at hl 2 rfl) ?_
      refine ux_get (C := R_Rn) (T := F_Rn) (N := 9) hx hb hT in_Rn hown hK hP (by decide) rfl rfl 3 (by decide) (hT _ fl_Rn_21) rfl d_Rn_callProcedure_82 ?_
      refine ux_getN (C := R_Pd) (T := F_Pd) (N := 3) hx hb hT in_Pd hown hK hP (by decide) rfl rfl 1 (by decide) (hN _ nf_Rn_320) rfl d_Rn_callProcedure_85 ?_
      refine lv_iload_n hx hb d_Rn_callProcedure_88 rfl (lv_at hl 5 rfl) ?_
      refine ux_iald hx hb hK hP (by decide) rfl ((vi (show 0 ≤ pn.toInt by omega) (show pn.toInt < ((26 : Nat) : Int) by omega))) d_Rn_callProcedure_89 ?_
      refine lv_iload hx hb d_Rn_callProcedure_90 (lv_at hl 1 rfl) ?_
      refine lv_iload hx hb d_Rn_callProcedure_92 (lv_at hl 1 rfl) ?_
      refine lv_iconst (v := 0) hx hb d_Rn_callProcedure_94 (by decide) ?_
      refine ux_calli (va_runV ⟨hx, hb, hml, hown, hts⟩ (hrec M22 hI (M22 45 pn.toNatClampNeg) (M22 43 pn.toNatClampNeg) (nI (d + 1)) 0 (by first | assumption | exact Or.inl rfl | exact Or.inr rfl)) (cwV 5 hts (tb_goodV ml_Rn_141 im_Rn_runScript se_Rn_runScript ii_Rn kt_Rn_runScript) rfl rfl rfl (by decide +kernel) ⟨show (12 + 8 * ee) + 1 ≤ (12 + 8 * ee + 1) by omega, show 8 + (9 + 11) + ((600 + 300 * ee)) ≤ (600 + 300 * ee + 28) by omega⟩) (ux_preVZ (by decide) rfl rfl hP hK hi hN hZ hS) rfl rfl hl.1 rfl (lv_room (Nat.le_of_ble_eq_true rfl)) d_Rn_callProcedure_95 ⟨Nat.zero_le _, Nat.zero_le _⟩) hS (fun r24 M25 H locs q26 hP hS => ?_)
      obtain ⟨hI, fq26, q26p⟩ := q26
      have hF := fr_call hF fq26 (fun a b q => by unfold tR at q; unfold tR; omega)
      refine ux_calli (va_runV ⟨hx, hb, hml, hown, hts⟩ (s_Rn_leave l D ad cA M25 hI r24) (cwV 1 hts (tb_goodV ml_Rn_323 im_Rn_leave se_Rn_leave ii_Rn kt_Rn_leave) rfl rfl rfl (by decide +kernel) ⟨show 2 + 1 ≤ (12 + 8 * ee + 1) by omega, show 8 + (2 + 11) + (43) ≤ (600 + 300 * ee + 28) by omega⟩) (ux_preV (by decide) rfl rfl hP hK hi hN) rfl rfl hl.1 rfl (lv_room (Nat.le_of_ble_eq_true rfl)) d_Rn_callProcedure_98 ⟨Nat.zero_le _, Nat.zero_le _⟩) hS (fun r27 M28 H locs q29 hP hS => ?_)
      obtain ⟨hI, fq29, q29p⟩ := q29
      have hF := fr_call hF fq29 (fun a b q => by unfold tV at q; unfold tR; omega)
      exact W.iret (v := r27) hx hb hr (fun t ht hW => ⟨⟨r27, M28, rfl, ⟨hI, hF, trivial⟩, by unfold ux_E; rw [ht]; exact hP⟩, hS.F ht⟩) hS.2.2 d_Rn_callProcedure_101
  · have g4 : (vha M pn).toInt = 0 := congrArg Int32.toInt h4
    refine lv_aload_n hx hb d_Rn_callProcedure_11 rfl (lv_at hl 0 rfl) ?_
    refine lv_iconst (v := 2) hx hb d_Rn_callProcedure_12 (by decide) ?_
    refine ux_calli (va_runV ⟨hx, hb, hml, hown, hts⟩ (s_Rn_fail l D ad cA M hI 2) (cwV 1 hts (tb_goodV ml_Rn_64 im_Rn_fail se_Rn_fail ii_Rn kt_Rn_fail) rfl rfl rfl (by decide +kernel) ⟨show 1 + 1 ≤ (12 + 8 * ee + 1) by omega, show 8 + (2 + 11) + (22) ≤ (600 + 300 * ee + 28) by omega⟩) (ux_preV (by decide) rfl rfl hP hK hi hN) rfl rfl hl.1 rfl (lv_room (Nat.le_of_ble_eq_true rfl)) d_Rn_callProcedure_13 ⟨Nat.zero_le _, Nat.zero_le _⟩) hS (fun r30 M31 H locs q32 hP hS => ?_)
    obtain ⟨hI, fq32, q32p⟩ := q32
    have hF := fr_call hF fq32 (fun a b q => by unfold tV at q; unfold tR; omega)
    exact W.iret (v := r30) hx hb hr (fun t ht hW => ⟨⟨r30, M31, rfl, ⟨hI, hF, trivial⟩, by unfold ux_E; rw [ht]; exact hP⟩, hS.F ht⟩) hS.2.2 d_Rn_callProcedure_16

set_option maxHeartbeats 1600000 in
set_option maxRecDepth 100000 in
theorem s_Rn_waitForPeer (l : Launch) (D : va_G) (ad : Nat → Nat) (cA : Nat → ClassId) (M : ux_M) (hI : IvX M) (adK adV : Nat → Nat) (fm : Value) (d ee : Nat) (hd : d < 8) (hde : d + ee = 7) (hrec : RS l D ad cA adK adV fm (d + 1) ee) : Met l y_Rn_waitForPeer w_Rn_waitForPeer ({ frames := (12 + 8 * ee + 2), cells := 0, slots := 0, locals := (600 + 300 * ee + 51) }) (va_Pc [.ref (ad 13), .ref (ad (53 + 7 * d)), .int (nI d)] (ux_BZ D ad cA M adK adV fm)) (va_Qi (fun r M1 => IvX M1 ∧ (∀ a b, ¬ (tR d) a b → M1 a b = M a b) ∧ (True)) (ux_E D shX KX ad cA) (ux_A KX ad)) 0 0 (ux_A KX ad) := by
  refine Met.ofW (cc := b_Rn_waitForPeer) (maxL := 6) (ret := (some .int)) (by decide) rfl ?_
  intro p e s m args below meth c s₁ B hml hv
  obtain ⟨rfl, ⟨hP, hK, hi, hN⟩, hZ⟩ := hv
  have hx := B.exec
  have hb := B.bytes
  have hr := B.returns
  have hts := atoms_spec (ws := w_Rn_waitForPeer) B.pre
  have hown : s.vm.findClass R_Rn = some m.cls := findClass_of_methodNamed B.named
  have hlocks := B.notSynchronized
  have hT : ∀ w ∈ tb, w.before _ s = true := fun w h => hts w (List.mem_cons_of_mem _ h)
  have hS : va_S (ux_A KX ad) s.heap s.heap [] := va_S.rf
  have hl := lv_entry ([.ref (ad 13), .ref (ad (53 + 7 * d)), .int (nI d)]) (n := 6) (Nat.le_of_ble_eq_true rfl)
  rw [lg_entry_eq]
  generalize (lg_sl ([.ref (ad 13), .ref (ad (53 + 7 * d)), .int (nI d)]) ++ List.replicate (6 - (lg_sl ([.ref (ad 13), .ref (ad (53 + 7 * d)), .int (nI d)])).length) Slot.unset).toArray = ls at hl ⊢
  have hl : lv_has ls 6 [(0, .ref (ad 13)), (1, .ref (ad (53 + 7 * d))), (2, .int (nI d))] := hl
  have hF : ∀ a b, ¬ (tR d) a b → M a b = M a b := fun _ _ _ => rfl
  have hdt : (nI d).toInt = (d : Int) := nI_toInt (by omega)
  have cut12 : ∀ (nn : Nat) (i_3 i_4 : Int32) (Mc12 : ux_M) (H : Heap) (locs : List Loc) (ls : Array Slot), ((101 : Int) - i_4.toInt).toNat = nn → (0 ≤ i_4.toInt) → va_P D classes (ux_w shX KX ad cA Mc12) H → IvX Mc12 → (∀ a b, ¬ (tR d) a b → Mc12 a b = M a b) → va_S (ux_A KX ad) s.heap H locs → lv_has ls 6 [(0, .ref (ad 13)), (1, .ref (ad (53 + 7 * d))), (2, .int (nI d)), (3, .int i_3), (4, .int i_4)] → W p l e (headSpec w_Rn_waitForPeer ({ frames := (12 + 8 * ee + 2), cells := 0, slots := 0, locals := (600 + 300 * ee + 51) })).room s m (([.ref (ad 13), .ref (ad (53 + 7 * d)), .int (nI d)] : List Value).toArray) below meth c H locs 0 0 (MQ below (va_Qi (fun r M1 => IvX M1 ∧ (∀ a b, ¬ (tR d) a b → M1 a b = M a b) ∧ (True)) (ux_E D shX KX ad cA) (ux_A KX ad)) (([.ref (ad 13), .ref (ad (53 + 7 * d)), .int (nI d)] : List Value).toArray) s 0 0 (ux_A KX ad)) (F0 m 12 ls []) := by
    intro nn
    induction nn using Nat.strongRecOn with
    | ind nn ih12 =>
      intro i_3 i_4 Mc12 H locs ls hn c12_0 hP hI hF hS hl
      refine lv_iload hx hb d_Rn_waitForPeer_12 (lv_at hl 4 rfl) ?_
      refine lv_bipush (v := 100) hx hb d_Rn_waitForPeer_14 (by decide) ?_
      refine lv_icmp_gt hx hb d_Rn_waitForPeer_16 rfl (fun h1 => ?_) (fun h1 => ?_)
      · have g1 : 100 < i_4.toInt := Int32.lt_iff_toInt_lt.mp h1
        have u1 := ti_hi i_4
        refine lv_aload_n hx hb d_Rn_waitForPeer_87 rfl (lv_at hl 0 rfl) ?_
        refine ux_calli (va_runV ⟨hx, hb, hml, hown, hts⟩ (s_Rn_endOut l D ad cA Mc12 hI ) (cwV 0 hts (tb_goodV ml_Rn_167 im_Rn_endOut se_Rn_endOut ii_Rn kt_Rn_endOut) rfl rfl rfl (by decide +kernel) ⟨show 1 + 1 ≤ (12 + 8 * ee + 2) by omega, show 8 + (1 + 11) + (21) ≤ (600 + 300 * ee + 51) by omega⟩) (ux_preV (by decide) rfl rfl hP hK hi hN) rfl rfl hl.1 rfl (lv_room (Nat.le_of_ble_eq_true rfl)) d_Rn_waitForPeer_88 ⟨Nat.zero_le _, Nat.zero_le _⟩) hS (fun r2 M3 H locs q4 hP hS => ?_)
        obtain ⟨hI, fq4, q4p⟩ := q4
        have hF := fr_call hF fq4 (fun a b q => by unfold tV at q; unfold tR; omega)
        exact W.iret (v := r2) hx hb hr (fun t ht hW => ⟨⟨r2, M3, rfl, ⟨hI, hF, trivial⟩, by unfold ux_E; rw [ht]; exact hP⟩, hS.F ht⟩) hS.2.2 d_Rn_waitForPeer_91
      · have g1 : ¬ (100 < i_4.toInt) := fun q => h1 (Int32.lt_iff_toInt_lt.mpr q)
        have w1 := ti_lo i_4
        refine lv_aload_n hx hb d_Rn_waitForPeer_19 rfl (lv_at hl 0 rfl) ?_
        refine lv_aload_n hx hb d_Rn_waitForPeer_20 rfl (lv_at hl 1 rfl) ?_
        refine ux_calli (va_runV ⟨hx, hb, hml, hown, hts⟩ (s_Rn_takeFitting l D ad cA Mc12 hI d hd ) (cwV 1 hts (tb_goodV ml_Rn_326 im_Rn_takeFitting se_Rn_takeFitting ii_Rn kt_Rn_takeFitting) rfl rfl rfl (by decide +kernel) ⟨show 3 + 1 ≤ (12 + 8 * ee + 2) by omega, show 8 + (7 + 11) + (76) ≤ (600 + 300 * ee + 51) by omega⟩) (ux_preV (by decide) rfl rfl hP hK hi hN) rfl rfl hl.1 rfl (lv_room (Nat.le_of_ble_eq_true rfl)) d_Rn_waitForPeer_21 ⟨Nat.zero_le _, Nat.zero_le _⟩) hS (fun r5 M6 H locs q7 hP hS => ?_)
        obtain ⟨hI, fq7, q7p⟩ := q7
        have hF := fr_call hF fq7 (fun a b q => by unfold tV at q; unfold tR; omega)
        refine lv_istore hx hb d_Rn_waitForPeer_24 hl (by decide) rfl (fun ls hl => ?_)
        have hl : lv_has ls 6 [(5, .int r5), (0, .ref (ad 13)), (1, .ref (ad (53 + 7 * d))), (2, .int (nI d)), (3, .int i_3), (4, .int i_4)] := hl
        refine lv_iload hx hb d_Rn_waitForPeer_26 (lv_at hl 0 rfl) ?_
        refine lv_iconst (v := (-1)) hx hb d_Rn_waitForPeer_28 (by decide) ?_
        refine lv_icmp_eq hx hb d_Rn_waitForPeer_29 rfl (fun h8 => ?_) (fun h8 => ?_)
        · have g8 : r5.toInt = (-1) := congrArg Int32.toInt h8
          refine lv_iload hx hb d_Rn_waitForPeer_43 (lv_at hl 5 rfl) ?_
          refine lv_iload_n hx hb d_Rn_waitForPeer_45 rfl (lv_at hl 4 rfl) ?_
          refine lv_icmp_lt hx hb d_Rn_waitForPeer_46 rfl (fun h9 => ?_) (fun h9 => ?_)
          · have g9 : i_4.toInt < i_3.toInt := Int32.lt_iff_toInt_lt.mp h9
            have u9 := ti_hi i_3
            have w9 := ti_lo i_4
            refine lv_aload_n hx hb d_Rn_waitForPeer_62 rfl (lv_at hl 1 rfl) ?_
            refine ux_calli (va_runV ⟨hx, hb, hml, hown, hts⟩ (s_Rn_takeFuel l D ad cA M6 hI ) (cwV 0 hts (tb_goodV ml_Rn_163 im_Rn_takeFuel se_Rn_takeFuel ii_Rn kt_Rn_takeFuel) rfl rfl rfl (by decide +kernel) ⟨show 0 + 1 ≤ (12 + 8 * ee + 2) by omega, show 8 + (1 + 11) + (0) ≤ (600 + 300 * ee + 51) by omega⟩) (ux_preV (by decide) rfl rfl hP hK hi hN) rfl rfl hl.1 rfl (lv_room (Nat.le_of_ble_eq_true rfl)) d_Rn_waitForPeer_63 ⟨Nat.zero_le _, Nat.zero_le _⟩) hS (fun r10 M11 H locs q12 hP hS => ?_)
            obtain ⟨hI, fq12, q12p⟩ := q12
            have hF := fr_call hF fq12 (fun a b q => by unfold tFu at q; unfold tR; omega)
            refine lv_if_ne hx hb d_Rn_waitForPeer_66 rfl (fun h13 => ?_) (fun h13 => ?_)
            · have g13 : ¬ (r10.toInt = 0) := fun q => h13 (Int32.toInt_inj.mp q)
              refine lv_aload_n hx hb d_Rn_waitForPeer_74 rfl (lv_at hl 1 rfl) ?_
              refine ux_get (C := R_Rn) (T := F_Rn) (N := 9) hx hb hT in_Rn hown hK hP (by decide) rfl rfl 1 (by decide) (hT _ fl_Rn_44) rfl d_Rn_waitForPeer_75 ?_
              refine ux_callv (va_runV ⟨hx, hb, hml, hown, hts⟩ (s_Pe_tick l D ad cA M11 hI ) (cwV 0 hts (tb_goodV ml_Rn_329 im_Pe_tick se_Pe_tick ii_Pe kt_Pe_tick) rfl rfl rfl (by decide +kernel) ⟨show 3 + 1 ≤ (12 + 8 * ee + 2) by omega, show 8 + (2 + 11) + (63) ≤ (600 + 300 * ee + 51) by omega⟩) (ux_preV (by decide) rfl rfl hP hK hi hN) rfl rfl hl.1 rfl (lv_room (Nat.le_of_ble_eq_true rfl)) d_Rn_waitForPeer_78 ⟨Nat.zero_le _, Nat.zero_le _⟩) hS (fun M15 H locs q16 hP hS => ?_)
              obtain ⟨hI, fq16, q16p⟩ := q16
              have hF := fr_call hF fq16 (fun a b q => by unfold tPe at q; unfold tR; omega)
              obtain ⟨x17, ex17⟩ : ∃ z : Int32, z = i_4 + 1 := ⟨_, rfl⟩
              refine lv_iinc (k := 5) (v := x17) hx hb d_Rn_waitForPeer_81 hl rfl ex17.symm (by decide) rfl (fun ls hl => ?_)
              have hl : lv_has ls 6 [(4, .int x17), (5, .int r5), (0, .ref (ad 13)), (1, .ref (ad (53 + 7 * d))), (2, .int (nI d)), (3, .int i_3)] := hl
              try have fx17 : x17.toInt = i_4.toInt + 1 := by rw [ex17]; exact ti_add (by (try rw [show (1 : Int32).toInt = 1 from rfl]); omega) (by (try rw [show (1 : Int32).toInt = 1 from rfl]); omega)
              refine lv_goto hx hb d_Rn_waitForPeer_84 rfl ?_
              exact ih12 (((101 : Int) - x17.toInt).toNat) (by omega) i_3 x17 M15 _ _ ls rfl (show 0 ≤ x17.toInt from by first | omega | assumption | exact Or.inl rfl | exact Or.inr rfl | rfl | decide) hP hI hF hS (lv_sub hl [2, 3, 4, 5, 0] rfl)
            · have g13 : r10.toInt = 0 := congrArg Int32.toInt h13
              refine lv_aload_n hx hb d_Rn_waitForPeer_69 rfl (lv_at hl 1 rfl) ?_
              refine ux_calli (va_runV ⟨hx, hb, hml, hown, hts⟩ (s_Rn_endOut l D ad cA M11 hI ) (cwV 0 hts (tb_goodV ml_Rn_167 im_Rn_endOut se_Rn_endOut ii_Rn kt_Rn_endOut) rfl rfl rfl (by decide +kernel) ⟨show 1 + 1 ≤ (12 + 8 * ee + 2) by omega, show 8 + (1 + 11) + (21) ≤ (600 + 300 * ee + 51) by omega⟩) (ux_preV (by decide) rfl rfl hP hK hi hN) rfl rfl hl.1 rfl (lv_room (Nat.le_of_ble_eq_true rfl)) d_Rn_waitForPeer_70 ⟨Nat.zero_le _, Nat.zero_le _⟩) hS (fun r18 M19 H locs q20 hP hS => ?_)
              obtain ⟨hI, fq20, q20p⟩ := q20
              have hF := fr_call hF fq20 (fun a b q => by unfold tV at q; unfold tR; omega)
              exact W.iret (v := r18) hx hb hr (fun t ht hW => ⟨⟨r18, M19, rfl, ⟨hI, hF, trivial⟩, by unfold ux_E; rw [ht]; exact hP⟩, hS.F ht⟩) hS.2.2 d_Rn_waitForPeer_73
          · have g9 : ¬ (i_4.toInt < i_3.toInt) := fun q => h9 (Int32.lt_iff_toInt_lt.mpr q)
            have u9 := ti_hi i_4
            have w9 := ti_lo i_3
            refine lv_aload_n hx hb d_Rn_waitForPeer_49 rfl (lv_at hl 1 rfl) ?_
            refine ux_get (C := R_Rn) (T := F_Rn) (N := 9) hx hb hT in_Rn hown hK hP (by decide) rfl rfl 6 (by decide) (hT _ fl_Rn_36) rfl d_Rn_waitForPeer_50 ?_
            refine lv_iconst (v := 0) hx hb d_Rn_waitForPeer_53 (by decide) ?_
            refine lv_bipush (v := 84) hx hb d_Rn_waitForPeer_54 (by decide) ?_
            refine ux_calli (va_runV ⟨hx, hb, hml, hown, hts⟩ (s_Vl_append l D ad cA M6 hI 47 48 49 1 vV_res 0 84) (cwV 2 hts (tb_goodV ml_Rn_94 im_Vl_append se_Vl_append ii_Vl kt_Vl_append) rfl rfl rfl (by decide +kernel) ⟨show 0 + 1 ≤ (12 + 8 * ee + 2) by omega, show 8 + (3 + 11) + (0) ≤ (600 + 300 * ee + 51) by omega⟩) (ux_preV (by decide) rfl rfl hP hK hi hN) rfl rfl hl.1 rfl (lv_room (Nat.le_of_ble_eq_true rfl)) d_Rn_waitForPeer_56 ⟨Nat.zero_le _, Nat.zero_le _⟩) hS (fun r21 M22 H locs q23 hP hS => ?_)
            obtain ⟨hI, fq23, q23p⟩ := q23
            have hF := fr_call hF fq23 (fun a b q => by unfold tV at q; unfold tR; omega)
            refine lv_pop hx hb d_Rn_waitForPeer_59 rfl ?_
            refine lv_iconst (v := 0) hx hb d_Rn_waitForPeer_60 (by decide) ?_
            exact W.iret (v := 0) hx hb hr (fun t ht hW => ⟨⟨0, M22, rfl, ⟨hI, hF, trivial⟩, by unfold ux_E; rw [ht]; exact hP⟩, hS.F ht⟩) hS.2.2 d_Rn_waitForPeer_61
        · have g8 : ¬ (r5.toInt = (-1)) := fun q => h8 (Int32.toInt_inj.mp q)
          refine lv_aload_n hx hb d_Rn_waitForPeer_32 rfl (lv_at hl 1 rfl) ?_
          refine lv_aload_n hx hb d_Rn_waitForPeer_33 rfl (lv_at hl 2 rfl) ?_
          refine lv_iload hx hb d_Rn_waitForPeer_34 (lv_at hl 0 rfl) ?_
          refine lv_iconst (v := 1) hx hb d_Rn_waitForPeer_36 (by decide) ?_
          refine lv_iadd hx hb d_Rn_waitForPeer_37 ?_
          refine lv_topi (fun x24 ex24 => ?_)
          try have fx24 : x24.toInt = r5.toInt + 1 := by rw [ex24]; exact ti_add (by (try rw [show (1 : Int32).toInt = 1 from rfl]); omega) (by (try rw [show (1 : Int32).toInt = 1 from rfl]); omega)
          refine lv_iload_n hx hb d_Rn_waitForPeer_38 rfl (lv_at hl 3 rfl) ?_
          refine ux_calli (va_runV ⟨hx, hb, hml, hown, hts⟩ (s_Rn_runWord l D ad cA M6 hI adK adV fm d ee hd hde hrec x24) (cwV 3 hts (tb_goodV ml_Rn_307 im_Rn_runWord se_Rn_runWord ii_Rn kt_Rn_runWord) rfl rfl rfl (by decide +kernel) ⟨show (12 + 8 * ee + 1) + 1 ≤ (12 + 8 * ee + 2) by omega, show 8 + (4 + 11) + ((600 + 300 * ee + 28)) ≤ (600 + 300 * ee + 51) by omega⟩) (ux_preVZ (by decide) rfl rfl hP hK hi hN hZ hS) rfl rfl hl.1 rfl (lv_room (Nat.le_of_ble_eq_true rfl)) d_Rn_waitForPeer_39 ⟨Nat.zero_le _, Nat.zero_le _⟩) hS (fun r25 M26 H locs q27 hP hS => ?_)
          obtain ⟨hI, fq27, q27p⟩ := q27
          have hF := fr_call hF fq27 (fun a b q => by unfold tR at q; unfold tR; omega)
          exact W.iret (v := r25) hx hb hr (fun t ht hW => ⟨⟨r25, M26, rfl, ⟨hI, hF, trivial⟩, by unfold ux_E; rw [ht]; exact hP⟩, hS.F ht⟩) hS.2.2 d_Rn_waitForPeer_42
  refine lv_aload_n hx hb d_Rn_waitForPeer_0 rfl (lv_at hl 1 rfl) ?_
  refine ux_getN (C := R_Lv) (T := F_Lv) (N := 10) hx hb hT in_Lv hown hK hP (lk 53 (by decide) hd) (L53 hd) rfl 0 (by decide) (hN _ nf_Rn_145) rfl d_Rn_waitForPeer_1 ?_
  refine lv_iconst (v := 1) hx hb d_Rn_waitForPeer_4 (by decide) ?_
  refine ux_calli (va_runV ⟨hx, hb, hml, hown, hts⟩ (s_Vl_numberOf l D ad cA M hI (54 + 7 * d) (55 + 7 * d) (56 + 7 * d) 8 (vV_lv hd) 1) (cwV 1 hts (tb_goodV ml_Rn_297 im_Vl_numberOf se_Vl_numberOf ii_Vl kt_Vl_numberOf) rfl rfl rfl (by decide +kernel) ⟨show 1 + 1 ≤ (12 + 8 * ee + 2) by omega, show 8 + (6 + 11) + (22) ≤ (600 + 300 * ee + 51) by omega⟩) (ux_preV (lk 54 (by decide) hd) (L54 hd) rfl hP hK hi hN) rfl rfl hl.1 rfl (lv_room (Nat.le_of_ble_eq_true rfl)) d_Rn_waitForPeer_5 ⟨Nat.zero_le _, Nat.zero_le _⟩) hS (fun r28 M29 H locs q30 hP hS => ?_)
  obtain ⟨hI, fq30, q30p⟩ := q30
  rw [tN_eq fq30] at hP hI
  refine lv_istore_n hx hb d_Rn_waitForPeer_8 rfl hl (by decide) rfl (fun ls hl => ?_)
  have hl : lv_has ls 6 [(3, .int r28), (0, .ref (ad 13)), (1, .ref (ad (53 + 7 * d))), (2, .int (nI d))] := hl
  refine lv_iconst (v := 0) hx hb d_Rn_waitForPeer_9 (by decide) ?_
  refine lv_istore hx hb d_Rn_waitForPeer_10 hl (by decide) rfl (fun ls hl => ?_)
  have hl : lv_has ls 6 [(4, .int 0), (3, .int r28), (0, .ref (ad 13)), (1, .ref (ad (53 + 7 * d))), (2, .int (nI d))] := hl
  exact cut12 (((101 : Int) - 0).toNat) r28 0 M _ _ ls rfl (show 0 ≤ 0 from by first | omega | assumption | exact Or.inl rfl | exact Or.inr rfl | rfl | decide) hP hI hF hS (lv_sub hl [2, 3, 4, 1, 0] rfl)
