/-! Runner: a command, a script: written by wip/gen/cls.py -/
set_option maxHeartbeats 1600000 in
set_option maxRecDepth 100000 in
theorem s_Rn_doCommand (l : Launch) (D : va_G) (ad : Nat → Nat) (cA : Nat → ClassId) (M : ux_M) (hI : IvX M) (adK adV : Nat → Nat) (fm : Value) (d ee : Nat) (hd : d < 8) (hde : d + ee = 7) (hrec : RS l D ad cA adK adV fm (d + 1) ee) : Met l y_Rn_doCommand w_Rn_doCommand ({ frames := (12 + 8 * ee + 3), cells := 0, slots := 0, locals := (600 + 300 * ee + 76) }) (va_Pc [.ref (ad 13), .ref (ad (53 + 7 * d)), .int (nI d)] (ux_BZ D ad cA M adK adV fm)) (va_Qi (fun r M1 => IvX M1 ∧ (∀ a b, ¬ (tR d) a b → M1 a b = M a b) ∧ (True)) (ux_E D shX KX ad cA) (ux_A KX ad)) 0 0 (ux_A KX ad) := by
  refine Met.ofW (cc := b_Rn_doCommand) (maxL := 5) (ret := (some .int)) (by decide) rfl ?_
  intro p e s m args below meth c s₁ B hml hv
  obtain ⟨rfl, ⟨hP, hK, hi, hN⟩, hZ⟩ := hv
  have hx := B.exec
  have hb := B.bytes
  have hr := B.returns
  have hts := atoms_spec (ws := w_Rn_doCommand) B.pre
  have hown : s.vm.findClass R_Rn = some m.cls := findClass_of_methodNamed B.named
  have hlocks := B.notSynchronized
  have hT : ∀ w ∈ tb, w.before _ s = true := fun w h => hts w (List.mem_cons_of_mem _ h)
  have hS : va_S (ux_A KX ad) s.heap s.heap [] := va_S.rf
  have hl := lv_entry ([.ref (ad 13), .ref (ad (53 + 7 * d)), .int (nI d)]) (n := 5) (Nat.le_of_ble_eq_true rfl)
  rw [lg_entry_eq]
  generalize (lg_sl ([.ref (ad 13), .ref (ad (53 + 7 * d)), .int (nI d)]) ++ List.replicate (5 - (lg_sl ([.ref (ad 13), .ref (ad (53 + 7 * d)), .int (nI d)])).length) Slot.unset).toArray = ls at hl ⊢
  have hl : lv_has ls 5 [(0, .ref (ad 13)), (1, .ref (ad (53 + 7 * d))), (2, .int (nI d))] := hl
  have hF : ∀ a b, ¬ (tR d) a b → M a b = M a b := fun _ _ _ => rfl
  have hdt : (nI d).toInt = (d : Int) := nI_toInt (by omega)
  refine lv_aload_n hx hb d_Rn_doCommand_0 rfl (lv_at hl 1 rfl) ?_
  refine ux_getN (C := R_Lv) (T := F_Lv) (N := 10) hx hb hT in_Lv hown hK hP (lk 53 (by decide) hd) (L53 hd) rfl 0 (by decide) (hN _ nf_Rn_145) rfl d_Rn_doCommand_1 ?_
  refine lv_astore_n hx hb d_Rn_doCommand_4 rfl hl (by decide) rfl (fun ls hl => ?_)
  have hl : lv_has ls 5 [(3, .ref (ad (54 + 7 * d))), (0, .ref (ad 13)), (1, .ref (ad (53 + 7 * d))), (2, .int (nI d))] := hl
  refine lv_aload_n hx hb d_Rn_doCommand_5 rfl (lv_at hl 0 rfl) ?_
  refine lv_iconst (v := 0) hx hb d_Rn_doCommand_6 (by decide) ?_
  refine ux_calli (va_runV ⟨hx, hb, hml, hown, hts⟩ (c_Vl_nameOf l D shX KX ad cA M (54 + 7 * d) (55 + 7 * d) (56 + 7 * d) 8 (V_lv hd) 0) (cwV 1 hts (tb_goodV ml_Rn_171 im_Vl_nameOf se_Vl_nameOf ii_Vl kt_Vl_nameOf) rfl rfl rfl (by decide +kernel) ⟨show 1 + 1 ≤ (12 + 8 * ee + 3) by omega, show 8 + (2 + 11) + (22) ≤ (600 + 300 * ee + 76) by omega⟩) (ux_preV (lk 54 (by decide) hd) (L54 hd) rfl hP hK hi hN) rfl rfl hl.1 rfl (lv_room (Nat.le_of_ble_eq_true rfl)) d_Rn_doCommand_7 ⟨Nat.zero_le _, Nat.zero_le _⟩) hS (fun r1 M2 H locs q3 hP hS => ?_)
  obtain ⟨q3m, q3e⟩ := q3
  rw [q3m] at hP
  subst q3e
  refine lv_istore hx hb d_Rn_doCommand_10 hl (by decide) rfl (fun ls hl => ?_)
  have hl : lv_has ls 5 [(4, .int (vn M (55 + 7 * d) (56 + 7 * d) 8 0)), (3, .ref (ad (54 + 7 * d))), (0, .ref (ad 13)), (1, .ref (ad (53 + 7 * d))), (2, .int (nI d))] := hl
  refine lv_aload_n hx hb d_Rn_doCommand_12 rfl (lv_at hl 2 rfl) ?_
  refine ux_get (C := R_Rn) (T := F_Rn) (N := 9) hx hb hT in_Rn hown hK hP (by decide) rfl rfl 6 (by decide) (hT _ fl_Rn_36) rfl d_Rn_doCommand_13 ?_
  refine lv_iconst (v := 0) hx hb d_Rn_doCommand_16 (by decide) ?_
  refine ux_callv (va_runV ⟨hx, hb, hml, hown, hts⟩ (c_Vl_empty l D shX KX ad cA M 47 48 49 1 V_res 0) (cwV 1 hts (tb_goodV ml_Rn_72 im_Vl_empty se_Vl_empty ii_Vl kt_Vl_empty) rfl rfl rfl (by decide +kernel) ⟨show 0 + 1 ≤ (12 + 8 * ee + 3) by omega, show 8 + (2 + 11) + (0) ≤ (600 + 300 * ee + 76) by omega⟩) (ux_preV (by decide) rfl rfl hP hK hi hN) rfl rfl hl.1 rfl (lv_room (Nat.le_of_ble_eq_true rfl)) d_Rn_doCommand_17 ⟨Nat.zero_le _, Nat.zero_le _⟩) hS (fun M4 H locs q5 hP hS => ?_)
  have fq5 := vem_off (M := M) (ks := 49) (n := 1) (i := 0)
  rw [← q5] at fq5
  have hI : IvX M4 := by rw [q5]; exact vem_I hI (fun b => by unfold ppn; omega) (by unfold pch; omega)
  have hF := fr_call hF fq5 (fun a b q => by unfold tV1 at q; unfold tR; omega)
  refine lv_iload hx hb d_Rn_doCommand_20 (lv_at hl 0 rfl) ?_
  by_cases h6 : vn M (55 + 7 * d) (56 + 7 * d) 8 0 = 42
  · have g6 : (vn M (55 + 7 * d) (56 + 7 * d) 8 0).toInt = 42 := congrArg Int32.toInt h6
    refine lv_lookup (off := 203) (tgt := 225) hx hb d_Rn_doCommand_22 (by decide) (by rw [g6]; rfl) (by decide) ?_
    refine lv_aload_n hx hb d_Rn_doCommand_225 rfl (lv_at hl 2 rfl) ?_
    refine lv_aload_n hx hb d_Rn_doCommand_226 rfl (lv_at hl 3 rfl) ?_
    refine lv_iload_n hx hb d_Rn_doCommand_227 rfl (lv_at hl 4 rfl) ?_
    refine ux_calli (va_runV ⟨hx, hb, hml, hown, hts⟩ (s_Rn_repeat l D ad cA M4 hI adK adV fm d ee hd hde hrec ) (cwV 2 hts (tb_goodV ml_Rn_261 im_Rn_repeat se_Rn_repeat ii_Rn kt_Rn_repeat) rfl rfl rfl (by decide +kernel) ⟨show (12 + 8 * ee + 2) + 1 ≤ (12 + 8 * ee + 3) by omega, show 8 + (6 + 11) + ((600 + 300 * ee + 51)) ≤ (600 + 300 * ee + 76) by omega⟩) (ux_preVZ (by decide) rfl rfl hP hK hi hN hZ hS) rfl rfl hl.1 rfl (lv_room (Nat.le_of_ble_eq_true rfl)) d_Rn_doCommand_228 ⟨Nat.zero_le _, Nat.zero_le _⟩) hS (fun r7 M8 H locs q9 hP hS => ?_)
    obtain ⟨hI, fq9, q9p⟩ := q9
    have hF := fr_call hF fq9 (fun a b q => by unfold tR at q; unfold tR; omega)
    exact W.iret (v := r7) hx hb hr (fun t ht hW => ⟨⟨r7, M8, rfl, ⟨hI, hF, trivial⟩, by unfold ux_E; rw [ht]; exact hP⟩, hS.F ht⟩) hS.2.2 d_Rn_doCommand_231
  have g6 : ¬ (vn M (55 + 7 * d) (56 + 7 * d) 8 0).toInt = 42 := fun q => h6 (Int32.toInt_inj.mp q)
  by_cases h10 : vn M (55 + 7 * d) (56 + 7 * d) 8 0 = 60
  · have g10 : (vn M (55 + 7 * d) (56 + 7 * d) 8 0).toInt = 60 := congrArg Int32.toInt h10
    refine lv_lookup (off := 324) (tgt := 346) hx hb d_Rn_doCommand_22 (by decide) (by rw [g10]; rfl) (by decide) ?_
    refine lv_aload_n hx hb d_Rn_doCommand_346 rfl (lv_at hl 2 rfl) ?_
    refine lv_aload_n hx hb d_Rn_doCommand_347 rfl (lv_at hl 3 rfl) ?_
    refine lv_iload_n hx hb d_Rn_doCommand_348 rfl (lv_at hl 4 rfl) ?_
    refine ux_calli (va_runV ⟨hx, hb, hml, hown, hts⟩ (s_Rn_waitForPeer l D ad cA M4 hI adK adV fm d ee hd hde hrec ) (cwV 2 hts (tb_goodV ml_Rn_290 im_Rn_waitForPeer se_Rn_waitForPeer ii_Rn kt_Rn_waitForPeer) rfl rfl rfl (by decide +kernel) ⟨show (12 + 8 * ee + 2) + 1 ≤ (12 + 8 * ee + 3) by omega, show 8 + (6 + 11) + ((600 + 300 * ee + 51)) ≤ (600 + 300 * ee + 76) by omega⟩) (ux_preVZ (by decide) rfl rfl hP hK hi hN hZ hS) rfl rfl hl.1 rfl (lv_room (Nat.le_of_ble_eq_true rfl)) d_Rn_doCommand_349 ⟨Nat.zero_le _, Nat.zero_le _⟩) hS (fun r11 M12 H locs q13 hP hS => ?_)
    obtain ⟨hI, fq13, q13p⟩ := q13
    have hF := fr_call hF fq13 (fun a b q => by unfold tR at q; unfold tR; omega)
    exact W.iret (v := r11) hx hb hr (fun t ht hW => ⟨⟨r11, M12, rfl, ⟨hI, hF, trivial⟩, by unfold ux_E; rw [ht]; exact hP⟩, hS.F ht⟩) hS.2.2 d_Rn_doCommand_352
  have g10 : ¬ (vn M (55 + 7 * d) (56 + 7 * d) 8 0).toInt = 60 := fun q => h10 (Int32.toInt_inj.mp q)
  by_cases h14 : vn M (55 + 7 * d) (56 + 7 * d) 8 0 = 62
  · have g14 : (vn M (55 + 7 * d) (56 + 7 * d) 8 0).toInt = 62 := congrArg Int32.toInt h14
    refine lv_lookup (off := 301) (tgt := 323) hx hb d_Rn_doCommand_22 (by decide) (by rw [g14]; rfl) (by decide) ?_
    refine lv_aload_n hx hb d_Rn_doCommand_323 rfl (lv_at hl 2 rfl) ?_
    refine ux_get (C := R_Rn) (T := F_Rn) (N := 9) hx hb hT in_Rn hown hK hP (by decide) rfl rfl 1 (by decide) (hT _ fl_Rn_44) rfl d_Rn_doCommand_324 ?_
    refine lv_aload_n hx hb d_Rn_doCommand_327 rfl (lv_at hl 1 rfl) ?_
    refine lv_iconst (v := 1) hx hb d_Rn_doCommand_328 (by decide) ?_
    refine ux_calli (va_runV ⟨hx, hb, hml, hown, hts⟩ (s_Pe_send l D ad cA M4 hI d hd 1) (cwV 2 hts (tb_goodV ml_Rn_284 im_Pe_send se_Pe_send ii_Pe kt_Pe_send) rfl rfl rfl (by decide +kernel) ⟨show 3 + 1 ≤ (12 + 8 * ee + 3) by omega, show 8 + (6 + 11) + (63) ≤ (600 + 300 * ee + 76) by omega⟩) (ux_preV (by decide) rfl rfl hP hK hi hN) rfl rfl hl.1 rfl (lv_room (Nat.le_of_ble_eq_true rfl)) d_Rn_doCommand_329 ⟨Nat.zero_le _, Nat.zero_le _⟩) hS (fun r15 M16 H locs q17 hP hS => ?_)
    obtain ⟨hI, fq17, q17p⟩ := q17
    have hF := fr_call hF fq17 (fun a b q => by unfold tPe at q; unfold tR; omega)
    refine lv_if_eq hx hb d_Rn_doCommand_332 rfl (fun h18 => ?_) (fun h18 => ?_)
    · have g18 : r15.toInt = 0 := congrArg Int32.toInt h18
      refine lv_aload_n hx hb d_Rn_doCommand_339 rfl (lv_at hl 2 rfl) ?_
      refine lv_bipush (v := 7) hx hb d_Rn_doCommand_340 (by decide) ?_
      refine ux_calli (va_runV ⟨hx, hb, hml, hown, hts⟩ (s_Rn_fail l D ad cA M16 hI 7) (cwV 1 hts (tb_goodV ml_Rn_64 im_Rn_fail se_Rn_fail ii_Rn kt_Rn_fail) rfl rfl rfl (by decide +kernel) ⟨show 1 + 1 ≤ (12 + 8 * ee + 3) by omega, show 8 + (2 + 11) + (22) ≤ (600 + 300 * ee + 76) by omega⟩) (ux_preV (by decide) rfl rfl hP hK hi hN) rfl rfl hl.1 rfl (lv_room (Nat.le_of_ble_eq_true rfl)) d_Rn_doCommand_342 ⟨Nat.zero_le _, Nat.zero_le _⟩) hS (fun r19 M20 H locs q21 hP hS => ?_)
      obtain ⟨hI, fq21, q21p⟩ := q21
      have hF := fr_call hF fq21 (fun a b q => by unfold tV at q; unfold tR; omega)
      exact W.iret (v := r19) hx hb hr (fun t ht hW => ⟨⟨r19, M20, rfl, ⟨hI, hF, trivial⟩, by unfold ux_E; rw [ht]; exact hP⟩, hS.F ht⟩) hS.2.2 d_Rn_doCommand_345
    · have g18 : ¬ (r15.toInt = 0) := fun q => h18 (Int32.toInt_inj.mp q)
      refine lv_iconst (v := 0) hx hb d_Rn_doCommand_335 (by decide) ?_
      refine lv_goto hx hb d_Rn_doCommand_336 rfl ?_
      exact W.iret (v := 0) hx hb hr (fun t ht hW => ⟨⟨0, M16, rfl, ⟨hI, hF, trivial⟩, by unfold ux_E; rw [ht]; exact hP⟩, hS.F ht⟩) hS.2.2 d_Rn_doCommand_345
  have g14 : ¬ (vn M (55 + 7 * d) (56 + 7 * d) 8 0).toInt = 62 := fun q => h14 (Int32.toInt_inj.mp q)
  by_cases h22 : vn M (55 + 7 * d) (56 + 7 * d) 8 0 = 63
  · have g22 : (vn M (55 + 7 * d) (56 + 7 * d) 8 0).toInt = 63 := congrArg Int32.toInt h22
    refine lv_lookup (off := 196) (tgt := 218) hx hb d_Rn_doCommand_22 (by decide) (by rw [g22]; rfl) (by decide) ?_
    refine lv_aload_n hx hb d_Rn_doCommand_218 rfl (lv_at hl 2 rfl) ?_
    refine lv_aload_n hx hb d_Rn_doCommand_219 rfl (lv_at hl 3 rfl) ?_
    refine lv_iload_n hx hb d_Rn_doCommand_220 rfl (lv_at hl 4 rfl) ?_
    refine ux_calli (va_runV ⟨hx, hb, hml, hown, hts⟩ (s_Rn_choose l D ad cA M4 hI adK adV fm d ee hd hde hrec ) (cwV 2 hts (tb_goodV ml_Rn_258 im_Rn_choose se_Rn_choose ii_Rn kt_Rn_choose) rfl rfl rfl (by decide +kernel) ⟨show (12 + 8 * ee + 2) + 1 ≤ (12 + 8 * ee + 3) by omega, show 8 + (5 + 11) + ((600 + 300 * ee + 51)) ≤ (600 + 300 * ee + 76) by omega⟩) (ux_preVZ (by decide) rfl rfl hP hK hi hN hZ hS) rfl rfl hl.1 rfl (lv_room (Nat.le_of_ble_eq_true rfl)) d_Rn_doCommand_221 ⟨Nat.zero_le _, Nat.zero_le _⟩) hS (fun r23 M24 H locs q25 hP hS => ?_)
    obtain ⟨hI, fq25, q25p⟩ := q25
    have hF := fr_call hF fq25 (fun a b q => by unfold tR at q; unfold tR; omega)
    exact W.iret (v := r23) hx hb hr (fun t ht hW => ⟨⟨r23, M24, rfl, ⟨hI, hF, trivial⟩, by unfold ux_E; rw [ht]; exact hP⟩, hS.F ht⟩) hS.2.2 d_Rn_doCommand_224
  have g22 : ¬ (vn M (55 + 7 * d) (56 + 7 * d) 8 0).toInt = 63 := fun q => h22 (Int32.toInt_inj.mp q)
  by_cases h26 : vn M (55 + 7 * d) (56 + 7 * d) 8 0 = 98
  · have g26 : (vn M (55 + 7 * d) (56 + 7 * d) 8 0).toInt = 98 := congrArg Int32.toInt h26
    refine lv_lookup (off := 278) (tgt := 300) hx hb d_Rn_doCommand_22 (by decide) (by rw [g26]; rfl) (by decide) ?_
    refine lv_iconst (v := 3) hx hb d_Rn_doCommand_300 (by decide) ?_
    exact W.iret (v := 3) hx hb hr (fun t ht hW => ⟨⟨3, M4, rfl, ⟨hI, hF, trivial⟩, by unfold ux_E; rw [ht]; exact hP⟩, hS.F ht⟩) hS.2.2 d_Rn_doCommand_301
  have g26 : ¬ (vn M (55 + 7 * d) (56 + 7 * d) 8 0).toInt = 98 := fun q => h26 (Int32.toInt_inj.mp q)
  by_cases h27 : vn M (55 + 7 * d) (56 + 7 * d) 8 0 = 99
  · have g27 : (vn M (55 + 7 * d) (56 + 7 * d) 8 0).toInt = 99 := congrArg Int32.toInt h27
    refine lv_lookup (off := 280) (tgt := 302) hx hb d_Rn_doCommand_22 (by decide) (by rw [g27]; rfl) (by decide) ?_
    refine lv_iconst (v := 4) hx hb d_Rn_doCommand_302 (by decide) ?_
    exact W.iret (v := 4) hx hb hr (fun t ht hW => ⟨⟨4, M4, rfl, ⟨hI, hF, trivial⟩, by unfold ux_E; rw [ht]; exact hP⟩, hS.F ht⟩) hS.2.2 d_Rn_doCommand_303
  have g27 : ¬ (vn M (55 + 7 * d) (56 + 7 * d) 8 0).toInt = 99 := fun q => h27 (Int32.toInt_inj.mp q)
  by_cases h28 : vn M (55 + 7 * d) (56 + 7 * d) 8 0 = 101
  · have g28 : (vn M (55 + 7 * d) (56 + 7 * d) 8 0).toInt = 101 := congrArg Int32.toInt h28
    refine lv_lookup (off := 150) (tgt := 172) hx hb d_Rn_doCommand_22 (by decide) (by rw [g28]; rfl) (by decide) ?_
    refine lv_aload_n hx hb d_Rn_doCommand_172 rfl (lv_at hl 2 rfl) ?_
    refine lv_aload_n hx hb d_Rn_doCommand_173 rfl (lv_at hl 3 rfl) ?_
    refine ux_calli (va_runV ⟨hx, hb, hml, hown, hts⟩ (s_Rn_showSum l D ad cA M4 hI d hd ) (cwV 1 hts (tb_goodV ml_Rn_247 im_Rn_showSum se_Rn_showSum ii_Rn kt_Rn_showSum) rfl rfl rfl (by decide +kernel) ⟨show 4 + 1 ≤ (12 + 8 * ee + 3) by omega, show 8 + (3 + 11) + (97) ≤ (600 + 300 * ee + 76) by omega⟩) (ux_preV (by decide) rfl rfl hP hK hi hN) rfl rfl hl.1 rfl (lv_room (Nat.le_of_ble_eq_true rfl)) d_Rn_doCommand_174 ⟨Nat.zero_le _, Nat.zero_le _⟩) hS (fun r29 M30 H locs q31 hP hS => ?_)
    obtain ⟨hI, fq31, q31p⟩ := q31
    have hF := fr_call hF fq31 (fun a b q => by unfold tSw at q; unfold tR; omega)
    exact W.iret (v := r29) hx hb hr (fun t ht hW => ⟨⟨r29, M30, rfl, ⟨hI, hF, trivial⟩, by unfold ux_E; rw [ht]; exact hP⟩, hS.F ht⟩) hS.2.2 d_Rn_doCommand_177
  have g28 : ¬ (vn M (55 + 7 * d) (56 + 7 * d) 8 0).toInt = 101 := fun q => h28 (Int32.toInt_inj.mp q)
  by_cases h32 : vn M (55 + 7 * d) (56 + 7 * d) 8 0 = 103
  · have g32 : (vn M (55 + 7 * d) (56 + 7 * d) 8 0).toInt = 103 := congrArg Int32.toInt h32
    refine lv_lookup (off := 245) (tgt := 267) hx hb d_Rn_doCommand_22 (by decide) (by rw [g32]; rfl) (by decide) ?_
    refine lv_aload_n hx hb d_Rn_doCommand_267 rfl (lv_at hl 2 rfl) ?_
    refine ux_get (C := R_Rn) (T := F_Rn) (N := 9) hx hb hT in_Rn hown hK hP (by decide) rfl rfl 2 (by decide) (hT _ fl_Rn_12) rfl d_Rn_doCommand_268 ?_
    refine lv_aload_n hx hb d_Rn_doCommand_271 rfl (lv_at hl 3 rfl) ?_
    refine ux_getN (C := R_Lv) (T := F_Lv) (N := 10) hx hb hT in_Lv hown hK hP (lk 53 (by decide) hd) (L53 hd) rfl 7 (by decide) (hN _ nf_Rn_138) rfl d_Rn_doCommand_272 ?_
    refine lv_aload_n hx hb d_Rn_doCommand_275 rfl (lv_at hl 1 rfl) ?_
    refine lv_iconst (v := 1) hx hb d_Rn_doCommand_276 (by decide) ?_
    refine ux_calli (va_runV ⟨hx, hb, hml, hown, hts⟩ (c_Vl_nameOf l D shX KX ad cA M4 (54 + 7 * d) (55 + 7 * d) (56 + 7 * d) 8 (V_lv hd) 1) (cwV 1 hts (tb_goodV ml_Rn_171 im_Vl_nameOf se_Vl_nameOf ii_Vl kt_Vl_nameOf) rfl rfl rfl (by decide +kernel) ⟨show 1 + 1 ≤ (12 + 8 * ee + 3) by omega, show 8 + (2 + 11) + (22) ≤ (600 + 300 * ee + 76) by omega⟩) (ux_preV (lk 54 (by decide) hd) (L54 hd) rfl hP hK hi hN) rfl rfl hl.1 rfl (lv_room (Nat.le_of_ble_eq_true rfl)) d_Rn_doCommand_277 ⟨Nat.zero_le _, Nat.zero_le _⟩) hS (fun r33 M34 H locs q35 hP hS => ?_)
    obtain ⟨q35m, q35e⟩ := q35
    rw [q35m] at hP
    subst q35e
    refine lv_bipush (v := 97) hx hb d_Rn_doCommand_280 (by decide) ?_
    refine lv_isub hx hb d_Rn_doCommand_282 ?_
    refine lv_topi (fun x36 ex36 => ?_)
    try have fx36 : x36.toInt = (vn M4 (55 + 7 * d) (56 + 7 * d) 8 1).toInt - 97 := by rw [ex36]; exact ti_sub (by (try rw [show (97 : Int32).toInt = 97 from rfl]); omega) (by (try rw [show (97 : Int32).toInt = 97 from rfl]); omega)
    refine ux_callv (va_runV ⟨hx, hb, hml, hown, hts⟩ (s_Vs_link l D ad cA M4 hI (M4 (53 + 7 * d) 7) x36) (cwV 2 hts (tb_goodV ml_Rn_274 im_Vs_link se_Vs_link ii_Vs kt_Vs_link) rfl rfl rfl (by decide +kernel) ⟨show 1 + 1 ≤ (12 + 8 * ee + 3) by omega, show 8 + (3 + 11) + (21) ≤ (600 + 300 * ee + 76) by omega⟩) (ux_preV (by decide) rfl rfl hP hK hi hN) rfl rfl hl.1 rfl (lv_room (Nat.le_of_ble_eq_true rfl)) d_Rn_doCommand_283 ⟨Nat.zero_le _, Nat.zero_le _⟩) hS (fun M38 H locs q39 hP hS => ?_)
    obtain ⟨hI, fq39, q39p⟩ := q39
    have hF := fr_call hF fq39 (fun a b q => by unfold tVs at q; unfold tR; omega)
    refine lv_iconst (v := 0) hx hb d_Rn_doCommand_286 (by decide) ?_
    exact W.iret (v := 0) hx hb hr (fun t ht hW => ⟨⟨0, M38, rfl, ⟨hI, hF, trivial⟩, by unfold ux_E; rw [ht]; exact hP⟩, hS.F ht⟩) hS.2.2 d_Rn_doCommand_287
  have g32 : ¬ (vn M (55 + 7 * d) (56 + 7 * d) 8 0).toInt = 103 := fun q => h32 (Int32.toInt_inj.mp q)
  by_cases h40 : vn M (55 + 7 * d) (56 + 7 * d) 8 0 = 105
  · have g40 : (vn M (55 + 7 * d) (56 + 7 * d) 8 0).toInt = 105 := congrArg Int32.toInt h40
    refine lv_lookup (off := 144) (tgt := 166) hx hb d_Rn_doCommand_22 (by decide) (by rw [g40]; rfl) (by decide) ?_
    refine lv_aload_n hx hb d_Rn_doCommand_166 rfl (lv_at hl 2 rfl) ?_
    refine lv_aload_n hx hb d_Rn_doCommand_167 rfl (lv_at hl 3 rfl) ?_
    refine ux_calli (va_runV ⟨hx, hb, hml, hown, hts⟩ (s_Rn_grow l D ad cA M4 hI d hd ) (cwV 1 hts (tb_goodV ml_Rn_244 im_Rn_grow se_Rn_grow ii_Rn kt_Rn_grow) rfl rfl rfl (by decide +kernel) ⟨show 2 + 1 ≤ (12 + 8 * ee + 3) by omega, show 8 + (5 + 11) + (49) ≤ (600 + 300 * ee + 76) by omega⟩) (ux_preV (by decide) rfl rfl hP hK hi hN) rfl rfl hl.1 rfl (lv_room (Nat.le_of_ble_eq_true rfl)) d_Rn_doCommand_168 ⟨Nat.zero_le _, Nat.zero_le _⟩) hS (fun r41 M42 H locs q43 hP hS => ?_)
    obtain ⟨hI, fq43, q43p⟩ := q43
    have hF := fr_call hF fq43 (fun a b q => by unfold tSS at q; unfold tR; omega)
    exact W.iret (v := r41) hx hb hr (fun t ht hW => ⟨⟨r41, M42, rfl, ⟨hI, hF, trivial⟩, by unfold ux_E; rw [ht]; exact hP⟩, hS.F ht⟩) hS.2.2 d_Rn_doCommand_171
  have g40 : ¬ (vn M (55 + 7 * d) (56 + 7 * d) 8 0).toInt = 105 := fun q => h40 (Int32.toInt_inj.mp q)
  by_cases h44 : vn M (55 + 7 * d) (56 + 7 * d) 8 0 = 107
  · have g44 : (vn M (55 + 7 * d) (56 + 7 * d) 8 0).toInt = 107 := congrArg Int32.toInt h44
    refine lv_lookup (off := 294) (tgt := 316) hx hb d_Rn_doCommand_22 (by decide) (by rw [g44]; rfl) (by decide) ?_
    refine lv_aload_n hx hb d_Rn_doCommand_316 rfl (lv_at hl 2 rfl) ?_
    refine lv_aload_n hx hb d_Rn_doCommand_317 rfl (lv_at hl 3 rfl) ?_
    refine lv_iload_n hx hb d_Rn_doCommand_318 rfl (lv_at hl 4 rfl) ?_
    refine ux_calli (va_runV ⟨hx, hb, hml, hown, hts⟩ (s_Rn_catchCode l D ad cA M4 hI adK adV fm d ee hd hde hrec ) (cwV 2 hts (tb_goodV ml_Rn_281 im_Rn_catchCode se_Rn_catchCode ii_Rn kt_Rn_catchCode) rfl rfl rfl (by decide +kernel) ⟨show (12 + 8 * ee + 2) + 1 ≤ (12 + 8 * ee + 3) by omega, show 8 + (5 + 11) + ((600 + 300 * ee + 51)) ≤ (600 + 300 * ee + 76) by omega⟩) (ux_preVZ (by decide) rfl rfl hP hK hi hN hZ hS) rfl rfl hl.1 rfl (lv_room (Nat.le_of_ble_eq_true rfl)) d_Rn_doCommand_319 ⟨Nat.zero_le _, Nat.zero_le _⟩) hS (fun r45 M46 H locs q47 hP hS => ?_)
    obtain ⟨hI, fq47, q47p⟩ := q47
    have hF := fr_call hF fq47 (fun a b q => by unfold tR at q; unfold tR; omega)
    exact W.iret (v := r45) hx hb hr (fun t ht hW => ⟨⟨r45, M46, rfl, ⟨hI, hF, trivial⟩, by unfold ux_E; rw [ht]; exact hP⟩, hS.F ht⟩) hS.2.2 d_Rn_doCommand_322
  have g44 : ¬ (vn M (55 + 7 * d) (56 + 7 * d) 8 0).toInt = 107 := fun q => h44 (Int32.toInt_inj.mp q)
  by_cases h48 : vn M (55 + 7 * d) (56 + 7 * d) 8 0 = 108
  · have g48 : (vn M (55 + 7 * d) (56 + 7 * d) 8 0).toInt = 108 := congrArg Int32.toInt h48
    refine lv_lookup (off := 156) (tgt := 178) hx hb d_Rn_doCommand_22 (by decide) (by rw [g48]; rfl) (by decide) ?_
    refine lv_aload_n hx hb d_Rn_doCommand_178 rfl (lv_at hl 2 rfl) ?_
    refine ux_get (C := R_Rn) (T := F_Rn) (N := 9) hx hb hT in_Rn hown hK hP (by decide) rfl rfl 6 (by decide) (hT _ fl_Rn_36) rfl d_Rn_doCommand_179 ?_
    refine lv_iconst (v := 0) hx hb d_Rn_doCommand_182 (by decide) ?_
    refine lv_aload_n hx hb d_Rn_doCommand_183 rfl (lv_at hl 1 rfl) ?_
    refine lv_iconst (v := 1) hx hb d_Rn_doCommand_184 (by decide) ?_
    refine ux_calli (va_runV ⟨hx, hb, hml, hown, hts⟩ (c_Vl_sizeOf l D shX KX ad cA M4 (54 + 7 * d) (55 + 7 * d) (56 + 7 * d) 8 (V_lv hd) 1) (cwV 1 hts (tb_goodV ml_Rn_160 im_Vl_sizeOf se_Vl_sizeOf ii_Vl kt_Vl_sizeOf) rfl rfl rfl (by decide +kernel) ⟨show 0 + 1 ≤ (12 + 8 * ee + 3) by omega, show 8 + (2 + 11) + (0) ≤ (600 + 300 * ee + 76) by omega⟩) (ux_preV (lk 54 (by decide) hd) (L54 hd) rfl hP hK hi hN) rfl rfl hl.1 rfl (lv_room (Nat.le_of_ble_eq_true rfl)) d_Rn_doCommand_185 ⟨Nat.zero_le _, Nat.zero_le _⟩) hS (fun r49 M50 H locs q51 hP hS => ?_)
    obtain ⟨q51m, q51e⟩ := q51
    rw [q51m] at hP
    subst q51e
    refine ux_callv (va_runV ⟨hx, hb, hml, hown, hts⟩ (s_Vl_writeNumber l D ad cA M4 hI 47 48 49 1 vV_res 0 (vz M4 (56 + 7 * d) 8 1)) (cwV 2 hts (tb_goodV ml_Rn_250 im_Vl_writeNumber se_Vl_writeNumber ii_Vl kt_Vl_writeNumber) rfl rfl rfl (by decide +kernel) ⟨show 1 + 1 ≤ (12 + 8 * ee + 3) by omega, show 8 + (8 + 11) + (22) ≤ (600 + 300 * ee + 76) by omega⟩) (ux_preV (by decide) rfl rfl hP hK hi hN) rfl rfl hl.1 rfl (lv_room (Nat.le_of_ble_eq_true rfl)) d_Rn_doCommand_188 ⟨Nat.zero_le _, Nat.zero_le _⟩) hS (fun M53 H locs q54 hP hS => ?_)
    obtain ⟨hI, fq54, q54p⟩ := q54
    have hF := fr_call hF fq54 (fun a b q => by unfold tV at q; unfold tR; omega)
    refine lv_iconst (v := 0) hx hb d_Rn_doCommand_191 (by decide) ?_
    exact W.iret (v := 0) hx hb hr (fun t ht hW => ⟨⟨0, M53, rfl, ⟨hI, hF, trivial⟩, by unfold ux_E; rw [ht]; exact hP⟩, hS.F ht⟩) hS.2.2 d_Rn_doCommand_192
  have g48 : ¬ (vn M (55 + 7 * d) (56 + 7 * d) 8 0).toInt = 108 := fun q => h48 (Int32.toInt_inj.mp q)
  by_cases h55 : vn M (55 + 7 * d) (56 + 7 * d) 8 0 = 109
  · have g55 : (vn M (55 + 7 * d) (56 + 7 * d) 8 0).toInt = 109 := congrArg Int32.toInt h55
    refine lv_lookup (off := 171) (tgt := 193) hx hb d_Rn_doCommand_22 (by decide) (by rw [g55]; rfl) (by decide) ?_
    refine lv_aload_n hx hb d_Rn_doCommand_193 rfl (lv_at hl 2 rfl) ?_
    refine ux_get (C := R_Rn) (T := F_Rn) (N := 9) hx hb hT in_Rn hown hK hP (by decide) rfl rfl 6 (by decide) (hT _ fl_Rn_36) rfl d_Rn_doCommand_194 ?_
    refine lv_iconst (v := 0) hx hb d_Rn_doCommand_197 (by decide) ?_
    refine lv_aload_n hx hb d_Rn_doCommand_198 rfl (lv_at hl 1 rfl) ?_
    refine lv_iconst (v := 2) hx hb d_Rn_doCommand_199 (by decide) ?_
    refine lv_aload_n hx hb d_Rn_doCommand_200 rfl (lv_at hl 1 rfl) ?_
    refine lv_iconst (v := 1) hx hb d_Rn_doCommand_201 (by decide) ?_
    refine ux_calli (va_runV ⟨hx, hb, hml, hown, hts⟩ (s_Vl_fittingBeginnings l D ad cA M4 hI (54 + 7 * d) (55 + 7 * d) (56 + 7 * d) 8 (vV_lv hd) (54 + 7 * d) (55 + 7 * d) (56 + 7 * d) 8 (vV_lv hd) 2 1) (cwV 3 hts (tb_goodV ml_Rn_254 im_Vl_fittingBeginnings se_Vl_fittingBeginnings ii_Vl kt_Vl_fittingBeginnings) rfl rfl rfl (by decide +kernel) ⟨show 2 + 1 ≤ (12 + 8 * ee + 3) by omega, show 8 + (10 + 11) + (47) ≤ (600 + 300 * ee + 76) by omega⟩) (ux_preV (lk 54 (by decide) hd) (L54 hd) rfl hP hK hi hN) rfl rfl hl.1 rfl (lv_room (Nat.le_of_ble_eq_true rfl)) d_Rn_doCommand_202 ⟨Nat.zero_le _, Nat.zero_le _⟩) hS (fun r56 M57 H locs q58 hP hS => ?_)
    obtain ⟨hI, fq58, q58p⟩ := q58
    rw [tN_eq fq58] at hP hI
    refine lv_aload_n hx hb d_Rn_doCommand_205 rfl (lv_at hl 1 rfl) ?_
    refine lv_iconst (v := 2) hx hb d_Rn_doCommand_206 (by decide) ?_
    refine ux_calli (va_runV ⟨hx, hb, hml, hown, hts⟩ (c_Vl_sizeOf l D shX KX ad cA M4 (54 + 7 * d) (55 + 7 * d) (56 + 7 * d) 8 (V_lv hd) 2) (cwV 1 hts (tb_goodV ml_Rn_160 im_Vl_sizeOf se_Vl_sizeOf ii_Vl kt_Vl_sizeOf) rfl rfl rfl (by decide +kernel) ⟨show 0 + 1 ≤ (12 + 8 * ee + 3) by omega, show 8 + (2 + 11) + (0) ≤ (600 + 300 * ee + 76) by omega⟩) (ux_preV (lk 54 (by decide) hd) (L54 hd) rfl hP hK hi hN) rfl rfl hl.1 rfl (lv_room (Nat.le_of_ble_eq_true rfl)) d_Rn_doCommand_207 ⟨Nat.zero_le _, Nat.zero_le _⟩) hS (fun r59 M60 H locs q61 hP hS => ?_)
    obtain ⟨q61m, q61e⟩ := q61
    rw [q61m] at hP
    subst q61e
    refine lv_ishr hx hb d_Rn_doCommand_210 ?_
    refine lv_topi (fun x62 ex62 => ?_)
    refine lv_iconst (v := 1) hx hb d_Rn_doCommand_211 (by decide) ?_
    refine lv_iand hx hb d_Rn_doCommand_212 ?_
    refine lv_topi (fun x63 ex63 => ?_)
    refine ux_callv (va_runV ⟨hx, hb, hml, hown, hts⟩ (s_Vl_writeNumber l D ad cA M4 hI 47 48 49 1 vV_res 0 x63) (cwV 2 hts (tb_goodV ml_Rn_250 im_Vl_writeNumber se_Vl_writeNumber ii_Vl kt_Vl_writeNumber) rfl rfl rfl (by decide +kernel) ⟨show 1 + 1 ≤ (12 + 8 * ee + 3) by omega, show 8 + (8 + 11) + (22) ≤ (600 + 300 * ee + 76) by omega⟩) (ux_preV (by decide) rfl rfl hP hK hi hN) rfl rfl hl.1 rfl (lv_room (Nat.le_of_ble_eq_true rfl)) d_Rn_doCommand_213 ⟨Nat.zero_le _, Nat.zero_le _⟩) hS (fun M65 H locs q66 hP hS => ?_)
    obtain ⟨hI, fq66, q66p⟩ := q66
    have hF := fr_call hF fq66 (fun a b q => by unfold tV at q; unfold tR; omega)
    refine lv_iconst (v := 0) hx hb d_Rn_doCommand_216 (by decide) ?_
    exact W.iret (v := 0) hx hb hr (fun t ht hW => ⟨⟨0, M65, rfl, ⟨hI, hF, trivial⟩, by unfold ux_E; rw [ht]; exact hP⟩, hS.F ht⟩) hS.2.2 d_Rn_doCommand_217
  have g55 : ¬ (vn M (55 + 7 * d) (56 + 7 * d) 8 0).toInt = 109 := fun q => h55 (Int32.toInt_inj.mp q)
  by_cases h67 : vn M (55 + 7 * d) (56 + 7 * d) 8 0 = 112
  · have g67 : (vn M (55 + 7 * d) (56 + 7 * d) 8 0).toInt = 112 := congrArg Int32.toInt h67
    refine lv_lookup (off := 210) (tgt := 232) hx hb d_Rn_doCommand_22 (by decide) (by rw [g67]; rfl) (by decide) ?_
    refine lv_aload_n hx hb d_Rn_doCommand_232 rfl (lv_at hl 2 rfl) ?_
    refine ux_get (C := R_Rn) (T := F_Rn) (N := 9) hx hb hT in_Rn hown hK hP (by decide) rfl rfl 3 (by decide) (hT _ fl_Rn_21) rfl d_Rn_doCommand_233 ?_
    refine lv_aload_n hx hb d_Rn_doCommand_236 rfl (lv_at hl 1 rfl) ?_
    refine lv_iconst (v := 1) hx hb d_Rn_doCommand_237 (by decide) ?_
    refine ux_calli (va_runV ⟨hx, hb, hml, hown, hts⟩ (c_Vl_nameOf l D shX KX ad cA M4 (54 + 7 * d) (55 + 7 * d) (56 + 7 * d) 8 (V_lv hd) 1) (cwV 1 hts (tb_goodV ml_Rn_171 im_Vl_nameOf se_Vl_nameOf ii_Vl kt_Vl_nameOf) rfl rfl rfl (by decide +kernel) ⟨show 1 + 1 ≤ (12 + 8 * ee + 3) by omega, show 8 + (2 + 11) + (22) ≤ (600 + 300 * ee + 76) by omega⟩) (ux_preV (lk 54 (by decide) hd) (L54 hd) rfl hP hK hi hN) rfl rfl hl.1 rfl (lv_room (Nat.le_of_ble_eq_true rfl)) d_Rn_doCommand_238 ⟨Nat.zero_le _, Nat.zero_le _⟩) hS (fun r68 M69 H locs q70 hP hS => ?_)
    obtain ⟨q70m, q70e⟩ := q70
    rw [q70m] at hP
    subst q70e
    refine lv_bipush (v := 65) hx hb d_Rn_doCommand_241 (by decide) ?_
    refine lv_isub hx hb d_Rn_doCommand_243 ?_
    refine lv_topi (fun x71 ex71 => ?_)
    try have fx71 : x71.toInt = (vn M4 (55 + 7 * d) (56 + 7 * d) 8 1).toInt - 65 := by rw [ex71]; exact ti_sub (by (try rw [show (65 : Int32).toInt = 65 from rfl]); omega) (by (try rw [show (65 : Int32).toInt = 65 from rfl]); omega)
    refine lv_aload_n hx hb d_Rn_doCommand_244 rfl (lv_at hl 1 rfl) ?_
    refine lv_iconst (v := 2) hx hb d_Rn_doCommand_245 (by decide) ?_
    refine ux_calli (va_runV ⟨hx, hb, hml, hown, hts⟩ (c_Vl_nameOf l D shX KX ad cA M4 (54 + 7 * d) (55 + 7 * d) (56 + 7 * d) 8 (V_lv hd) 2) (cwV 1 hts (tb_goodV ml_Rn_171 im_Vl_nameOf se_Vl_nameOf ii_Vl kt_Vl_nameOf) rfl rfl rfl (by decide +kernel) ⟨show 1 + 1 ≤ (12 + 8 * ee + 3) by omega, show 8 + (2 + 11) + (22) ≤ (600 + 300 * ee + 76) by omega⟩) (ux_preV (lk 54 (by decide) hd) (L54 hd) rfl hP hK hi hN) rfl rfl hl.1 rfl (lv_room (Nat.le_of_ble_eq_true rfl)) d_Rn_doCommand_246 ⟨Nat.zero_le _, Nat.zero_le _⟩) hS (fun r72 M73 H locs q74 hP hS => ?_)
    obtain ⟨q74m, q74e⟩ := q74
    rw [q74m] at hP
    subst q74e
    refine lv_bipush (v := 97) hx hb d_Rn_doCommand_249 (by decide) ?_
    refine lv_isub hx hb d_Rn_doCommand_251 ?_
    refine lv_topi (fun x75 ex75 => ?_)
    try have fx75 : x75.toInt = (vn M4 (55 + 7 * d) (56 + 7 * d) 8 2).toInt - 97 := by rw [ex75]; exact ti_sub (by (try rw [show (97 : Int32).toInt = 97 from rfl]); omega) (by (try rw [show (97 : Int32).toInt = 97 from rfl]); omega)
    refine lv_aload_n hx hb d_Rn_doCommand_252 rfl (lv_at hl 3 rfl) ?_
    refine lv_iconst (v := 3) hx hb d_Rn_doCommand_253 (by decide) ?_
    refine ux_calli (va_runV ⟨hx, hb, hml, hown, hts⟩ (s_Lv_startOf l D ad cA M4 hI d hd 3) (cwV 1 hts (tb_goodV ml_Rn_264 im_Lv_startOf se_Lv_startOf ii_Lv kt_Lv_startOf) rfl rfl rfl (by decide +kernel) ⟨show 1 + 1 ≤ (12 + 8 * ee + 3) by omega, show 8 + (2 + 11) + (21) ≤ (600 + 300 * ee + 76) by omega⟩) (ux_preV (lk 53 (by decide) hd) (L53 hd) rfl hP hK hi hN) rfl rfl hl.1 rfl (lv_room (Nat.le_of_ble_eq_true rfl)) d_Rn_doCommand_254 ⟨Nat.zero_le _, Nat.zero_le _⟩) hS (fun r76 M77 H locs q78 hP hS => ?_)
    obtain ⟨hI, fq78, q78p⟩ := q78
    rw [tN_eq fq78] at hP hI
    refine lv_aload_n hx hb d_Rn_doCommand_257 rfl (lv_at hl 3 rfl) ?_
    refine lv_iconst (v := 3) hx hb d_Rn_doCommand_258 (by decide) ?_
    refine ux_calli (va_runV ⟨hx, hb, hml, hown, hts⟩ (s_Lv_endOf l D ad cA M4 hI d hd 3) (cwV 1 hts (tb_goodV ml_Rn_267 im_Lv_endOf se_Lv_endOf ii_Lv kt_Lv_endOf) rfl rfl rfl (by decide +kernel) ⟨show 1 + 1 ≤ (12 + 8 * ee + 3) by omega, show 8 + (2 + 11) + (21) ≤ (600 + 300 * ee + 76) by omega⟩) (ux_preV (lk 53 (by decide) hd) (L53 hd) rfl hP hK hi hN) rfl rfl hl.1 rfl (lv_room (Nat.le_of_ble_eq_true rfl)) d_Rn_doCommand_259 ⟨Nat.zero_le _, Nat.zero_le _⟩) hS (fun r79 M80 H locs q81 hP hS => ?_)
    obtain ⟨hI, fq81, q81p⟩ := q81
    rw [tN_eq fq81] at hP hI
    refine ux_callv (va_runV ⟨hx, hb, hml, hown, hts⟩ (s_Pd_define l D ad cA M4 hI x71 x75 r76 r79) (cwV 4 hts (tb_goodV ml_Rn_270 im_Pd_define se_Pd_define ii_Pd kt_Pd_define) rfl rfl rfl (by decide +kernel) ⟨show 0 + 1 ≤ (12 + 8 * ee + 3) by omega, show 8 + (5 + 11) + (0) ≤ (600 + 300 * ee + 76) by omega⟩) (ux_preV (by decide) rfl rfl hP hK hi hN) rfl rfl hl.1 rfl (lv_room (Nat.le_of_ble_eq_true rfl)) d_Rn_doCommand_262 ⟨Nat.zero_le _, Nat.zero_le _⟩) hS (fun M83 H locs q84 hP hS => ?_)
    obtain ⟨hI, fq84, q84p⟩ := q84
    have hF := fr_call hF fq84 (fun a b q => by unfold tPd at q; unfold tR; omega)
    refine lv_iconst (v := 0) hx hb d_Rn_doCommand_265 (by decide) ?_
    exact W.iret (v := 0) hx hb hr (fun t ht hW => ⟨⟨0, M83, rfl, ⟨hI, hF, trivial⟩, by unfold ux_E; rw [ht]; exact hP⟩, hS.F ht⟩) hS.2.2 d_Rn_doCommand_266
  have g67 : ¬ (vn M (55 + 7 * d) (56 + 7 * d) 8 0).toInt = 112 := fun q => h67 (Int32.toInt_inj.mp q)
  by_cases h85 : vn M (55 + 7 * d) (56 + 7 * d) 8 0 = 114
  · have g85 : (vn M (55 + 7 * d) (56 + 7 * d) 8 0).toInt = 114 := congrArg Int32.toInt h85
    refine lv_lookup (off := 266) (tgt := 288) hx hb d_Rn_doCommand_22 (by decide) (by rw [g85]; rfl) (by decide) ?_
    refine lv_aload_n hx hb d_Rn_doCommand_288 rfl (lv_at hl 2 rfl) ?_
    refine ux_get (C := R_Rn) (T := F_Rn) (N := 9) hx hb hT in_Rn hown hK hP (by decide) rfl rfl 6 (by decide) (hT _ fl_Rn_36) rfl d_Rn_doCommand_289 ?_
    refine lv_iconst (v := 0) hx hb d_Rn_doCommand_292 (by decide) ?_
    refine lv_aload_n hx hb d_Rn_doCommand_293 rfl (lv_at hl 1 rfl) ?_
    refine lv_iconst (v := 1) hx hb d_Rn_doCommand_294 (by decide) ?_
    refine ux_callv (va_runV ⟨hx, hb, hml, hown, hts⟩ (s_Vl_copy l D ad cA M4 hI 47 48 49 1 vV_res (54 + 7 * d) (55 + 7 * d) (56 + 7 * d) 8 (vV_lv hd) 0 1) (cwV 3 hts (tb_goodV ml_Rn_277 im_Vl_copy se_Vl_copy ii_Vl kt_Vl_copy) rfl rfl rfl (by decide +kernel) ⟨show 1 + 1 ≤ (12 + 8 * ee + 3) by omega, show 8 + (4 + 11) + (21) ≤ (600 + 300 * ee + 76) by omega⟩) (ux_preV (by decide) rfl rfl hP hK hi hN) rfl rfl hl.1 rfl (lv_room (Nat.le_of_ble_eq_true rfl)) d_Rn_doCommand_295 ⟨Nat.zero_le _, Nat.zero_le _⟩) hS (fun M87 H locs q88 hP hS => ?_)
    obtain ⟨hI, fq88, q88p⟩ := q88
    have hF := fr_call hF fq88 (fun a b q => by unfold tV at q; unfold tR; omega)
    refine lv_iconst (v := 2) hx hb d_Rn_doCommand_298 (by decide) ?_
    exact W.iret (v := 2) hx hb hr (fun t ht hW => ⟨⟨2, M87, rfl, ⟨hI, hF, trivial⟩, by unfold ux_E; rw [ht]; exact hP⟩, hS.F ht⟩) hS.2.2 d_Rn_doCommand_299
  have g85 : ¬ (vn M (55 + 7 * d) (56 + 7 * d) 8 0).toInt = 114 := fun q => h85 (Int32.toInt_inj.mp q)
  by_cases h89 : vn M (55 + 7 * d) (56 + 7 * d) 8 0 = 115
  · have g89 : (vn M (55 + 7 * d) (56 + 7 * d) 8 0).toInt = 115 := congrArg Int32.toInt h89
    refine lv_lookup (off := 138) (tgt := 160) hx hb d_Rn_doCommand_22 (by decide) (by rw [g89]; rfl) (by decide) ?_
    refine lv_aload_n hx hb d_Rn_doCommand_160 rfl (lv_at hl 2 rfl) ?_
    refine lv_aload_n hx hb d_Rn_doCommand_161 rfl (lv_at hl 3 rfl) ?_
    refine ux_calli (va_runV ⟨hx, hb, hml, hown, hts⟩ (s_Rn_setOrShow l D ad cA M4 hI d hd ) (cwV 1 hts (tb_goodV ml_Rn_241 im_Rn_setOrShow se_Rn_setOrShow ii_Rn kt_Rn_setOrShow) rfl rfl rfl (by decide +kernel) ⟨show 2 + 1 ≤ (12 + 8 * ee + 3) by omega, show 8 + (4 + 11) + (44) ≤ (600 + 300 * ee + 76) by omega⟩) (ux_preV (by decide) rfl rfl hP hK hi hN) rfl rfl hl.1 rfl (lv_room (Nat.le_of_ble_eq_true rfl)) d_Rn_doCommand_162 ⟨Nat.zero_le _, Nat.zero_le _⟩) hS (fun r90 M91 H locs q92 hP hS => ?_)
    obtain ⟨hI, fq92, q92p⟩ := q92
    have hF := fr_call hF fq92 (fun a b q => by unfold tSS at q; unfold tR; omega)
    exact W.iret (v := r90) hx hb hr (fun t ht hW => ⟨⟨r90, M91, rfl, ⟨hI, hF, trivial⟩, by unfold ux_E; rw [ht]; exact hP⟩, hS.F ht⟩) hS.2.2 d_Rn_doCommand_165
  have g89 : ¬ (vn M (55 + 7 * d) (56 + 7 * d) 8 0).toInt = 115 := fun q => h89 (Int32.toInt_inj.mp q)
  by_cases h93 : vn M (55 + 7 * d) (56 + 7 * d) 8 0 = 120
  · have g93 : (vn M (55 + 7 * d) (56 + 7 * d) 8 0).toInt = 120 := congrArg Int32.toInt h93
    refine lv_lookup (off := 282) (tgt := 304) hx hb d_Rn_doCommand_22 (by decide) (by rw [g93]; rfl) (by decide) ?_
    refine lv_aload_n hx hb d_Rn_doCommand_304 rfl (lv_at hl 2 rfl) ?_
    refine ux_get (C := R_Rn) (T := F_Rn) (N := 9) hx hb hT in_Rn hown hK hP (by decide) rfl rfl 6 (by decide) (hT _ fl_Rn_36) rfl d_Rn_doCommand_305 ?_
    refine lv_iconst (v := 0) hx hb d_Rn_doCommand_308 (by decide) ?_
    refine lv_aload_n hx hb d_Rn_doCommand_309 rfl (lv_at hl 1 rfl) ?_
    refine lv_iconst (v := 1) hx hb d_Rn_doCommand_310 (by decide) ?_
    refine ux_callv (va_runV ⟨hx, hb, hml, hown, hts⟩ (s_Vl_copy l D ad cA M4 hI 47 48 49 1 vV_res (54 + 7 * d) (55 + 7 * d) (56 + 7 * d) 8 (vV_lv hd) 0 1) (cwV 3 hts (tb_goodV ml_Rn_277 im_Vl_copy se_Vl_copy ii_Vl kt_Vl_copy) rfl rfl rfl (by decide +kernel) ⟨show 1 + 1 ≤ (12 + 8 * ee + 3) by omega, show 8 + (4 + 11) + (21) ≤ (600 + 300 * ee + 76) by omega⟩) (ux_preV (by decide) rfl rfl hP hK hi hN) rfl rfl hl.1 rfl (lv_room (Nat.le_of_ble_eq_true rfl)) d_Rn_doCommand_311 ⟨Nat.zero_le _, Nat.zero_le _⟩) hS (fun M95 H locs q96 hP hS => ?_)
    obtain ⟨hI, fq96, q96p⟩ := q96
    have hF := fr_call hF fq96 (fun a b q => by unfold tV at q; unfold tR; omega)
    refine lv_iconst (v := 1) hx hb d_Rn_doCommand_314 (by decide) ?_
    exact W.iret (v := 1) hx hb hr (fun t ht hW => ⟨⟨1, M95, rfl, ⟨hI, hF, trivial⟩, by unfold ux_E; rw [ht]; exact hP⟩, hS.F ht⟩) hS.2.2 d_Rn_doCommand_315
  have g93 : ¬ (vn M (55 + 7 * d) (56 + 7 * d) 8 0).toInt = 120 := fun q => h93 (Int32.toInt_inj.mp q)
  refine lv_lookup (off := 331) (tgt := 353) hx hb d_Rn_doCommand_22 (by decide) (by show Op.lookupswitch.offset [(42, 203), (60, 324), (62, 301), (63, 196), (98, 278), (99, 280), (101, 150), (103, 245), (105, 144), (107, 294), (108, 156), (109, 171), (112, 210), (114, 266), (115, 138), (120, 282)] 331 (vn M (55 + 7 * d) (56 + 7 * d) 8 0).toInt = 331; rw [Op.lookupswitch.offset_cons, if_neg (show ¬ (42 : Int) = (vn M (55 + 7 * d) (56 + 7 * d) 8 0).toInt by omega), Op.lookupswitch.offset_cons, if_neg (show ¬ (60 : Int) = (vn M (55 + 7 * d) (56 + 7 * d) 8 0).toInt by omega), Op.lookupswitch.offset_cons, if_neg (show ¬ (62 : Int) = (vn M (55 + 7 * d) (56 + 7 * d) 8 0).toInt by omega), Op.lookupswitch.offset_cons, if_neg (show ¬ (63 : Int) = (vn M (55 + 7 * d) (56 + 7 * d) 8 0).toInt by omega), Op.lookupswitch.offset_cons, if_neg (show ¬ (98 : Int) = (vn M (55 + 7 * d) (56 + 7 * d) 8 0).toInt by omega), Op.lookupswitch.offset_cons, if_neg (show ¬ (99 : Int) = (vn M (55 + 7 * d) (56 + 7 * d) 8 0).toInt by omega), Op.lookupswitch.offset_cons, if_neg (show ¬ (101 : Int) = (vn M (55 + 7 * d) (56 + 7 * d) 8 0).toInt by omega), Op.lookupswitch.offset_cons, if_neg (show ¬ (103 : Int) = (vn M (55 + 7 * d) (56 + 7 * d) 8 0).toInt by omega), Op.lookupswitch.offset_cons, if_neg (show ¬ (105 : Int) = (vn M (55 + 7 * d) (56 + 7 * d) 8 0).toInt by omega), Op.lookupswitch.offset_cons, if_neg (show ¬ (107 : Int) = (vn M (55 + 7 * d) (56 + 7 * d) 8 0).toInt by omega), Op.lookupswitch.offset_cons, if_neg (show ¬ (108 : Int) = (vn M (55 + 7 * d) (56 + 7 * d) 8 0).toInt by omega), Op.lookupswitch.offset_cons, if_neg (show ¬ (109 : Int) = (vn M (55 + 7 * d) (56 + 7 * d) 8 0).toInt by omega), Op.lookupswitch.offset_cons, if_neg (show ¬ (112 : Int) = (vn M (55 + 7 * d) (56 + 7 * d) 8 0).toInt by omega), Op.lookupswitch.offset_cons, if_neg (show ¬ (114 : Int) = (vn M (55 + 7 * d) (56 + 7 * d) 8 0).toInt by omega), Op.lookupswitch.offset_cons, if_neg (show ¬ (115 : Int) = (vn M (55 + 7 * d) (56 + 7 * d) 8 0).toInt by omega), Op.lookupswitch.offset_cons, if_neg (show ¬ (120 : Int) = (vn M (55 + 7 * d) (56 + 7 * d) 8 0).toInt by omega)]; rfl) (by decide) ?_
  refine lv_aload_n hx hb d_Rn_doCommand_353 rfl (lv_at hl 2 rfl) ?_
  refine lv_aload_n hx hb d_Rn_doCommand_354 rfl (lv_at hl 3 rfl) ?_
  refine lv_iload_n hx hb d_Rn_doCommand_355 rfl (lv_at hl 4 rfl) ?_
  refine lv_iload hx hb d_Rn_doCommand_356 (lv_at hl 0 rfl) ?_
  refine lv_bipush (v := 65) hx hb d_Rn_doCommand_358 (by decide) ?_
  refine lv_isub hx hb d_Rn_doCommand_360 ?_
  refine lv_topi (fun x97 ex97 => ?_)
  try have fx97 : x97.toInt = (vn M (55 + 7 * d) (56 + 7 * d) 8 0).toInt - 65 := by rw [ex97]; exact ti_sub (by (try rw [show (65 : Int32).toInt = 65 from rfl]); omega) (by (try rw [show (65 : Int32).toInt = 65 from rfl]); omega)
  refine ux_calli (va_runV ⟨hx, hb, hml, hown, hts⟩ (s_Rn_callProcedure l D ad cA M4 hI adK adV fm d ee hd hde hrec x97) (cwV 3 hts (tb_goodV ml_Rn_293 im_Rn_callProcedure se_Rn_callProcedure ii_Rn kt_Rn_callProcedure) rfl rfl rfl (by decide +kernel) ⟨show (12 + 8 * ee + 1) + 1 ≤ (12 + 8 * ee + 3) by omega, show 8 + (6 + 11) + ((600 + 300 * ee + 28)) ≤ (600 + 300 * ee + 76) by omega⟩) (ux_preVZ (by decide) rfl rfl hP hK hi hN hZ hS) rfl rfl hl.1 rfl (lv_room (Nat.le_of_ble_eq_true rfl)) d_Rn_doCommand_361 ⟨Nat.zero_le _, Nat.zero_le _⟩) hS (fun r98 M99 H locs q100 hP hS => ?_)
  obtain ⟨hI, fq100, q100p⟩ := q100
  have hF := fr_call hF fq100 (fun a b q => by unfold tR at q; unfold tR; omega)
  exact W.iret (v := r98) hx hb hr (fun t ht hW => ⟨⟨r98, M99, rfl, ⟨hI, hF, trivial⟩, by unfold ux_E; rw [ht]; exact hP⟩, hS.F ht⟩) hS.2.2 d_Rn_doCommand_364

set_option maxHeartbeats 1600000 in
set_option maxRecDepth 100000 in
theorem s_Rn_runScript (l : Launch) (D : va_G) (ad : Nat → Nat) (cA : Nat → ClassId) (M : ux_M) (hI : IvX M) (adK adV : Nat → Nat) (fm : Value) (d ee : Nat) (hd : d < 8) (hde : d + ee = 7) (hrec : RS l D ad cA adK adV fm (d + 1) ee) (a b f bw : Int32) (hbw : bw = 0 ∨ bw = 1) : Met l y_Rn_runScript w_Rn_runScript ({ frames := (12 + 8 * ee + 8), cells := 0, slots := 0, locals := (600 + 300 * ee + 300) }) (va_Pc [.ref (ad 13), .int a, .int b, .int f, .int (nI d), .int bw] (ux_BZ D ad cA M adK adV fm)) (va_Qi (fun r M1 => IvX M1 ∧ (∀ a b, ¬ (tR d) a b → M1 a b = M a b) ∧ (True)) (ux_E D shX KX ad cA) (ux_A KX ad)) 0 0 (ux_A KX ad) := by
  refine Met.ofW (cc := b_Rn_runScript) (maxL := 9) (ret := (some .int)) (by decide) rfl ?_
  intro p e s m args below meth c s₁ B hml hv
  obtain ⟨rfl, ⟨hP, hK, hi, hN⟩, hZ⟩ := hv
  have hx := B.exec
  have hb := B.bytes
  have hr := B.returns
  have hts := atoms_spec (ws := w_Rn_runScript) B.pre
  have hown : s.vm.findClass R_Rn = some m.cls := findClass_of_methodNamed B.named
  have hlocks := B.notSynchronized
  have hT : ∀ w ∈ tb, w.before _ s = true := fun w h => hts w (List.mem_cons_of_mem _ h)
  have hS : va_S (ux_A KX ad) s.heap s.heap [] := va_S.rf
  have hl := lv_entry ([.ref (ad 13), .int a, .int b, .int f, .int (nI d), .int bw]) (n := 9) (Nat.le_of_ble_eq_true rfl)
  rw [lg_entry_eq]
  generalize (lg_sl ([.ref (ad 13), .int a, .int b, .int f, .int (nI d), .int bw]) ++ List.replicate (9 - (lg_sl ([.ref (ad 13), .int a, .int b, .int f, .int (nI d), .int bw])).length) Slot.unset).toArray = ls at hl ⊢
  have hl : lv_has ls 9 [(0, .ref (ad 13)), (1, .int a), (2, .int b), (3, .int f), (4, .int (nI d)), (5, .int bw)] := hl
  have hF : ∀ a b, ¬ (tR d) a b → M a b = M a b := fun _ _ _ => rfl
  have hdt : (nI d).toInt = (d : Int) := nI_toInt (by omega)
  have cut52 : ∀ (nn : Nat) (i_7 i_8 : Int32) (Mc52 : ux_M) (H : Heap) (locs : List Loc) (ls : Array Slot), ((201 : Int) - i_8.toInt).toNat = nn → (0 ≤ i_8.toInt) → va_P D classes (ux_w shX KX ad cA Mc52) H → IvX Mc52 → (∀ a b, ¬ (tR d) a b → Mc52 a b = M a b) → va_S (ux_A KX ad) s.heap H locs → lv_has ls 9 [(0, .ref (ad 13)), (4, .int (nI d)), (6, .ref (ad (53 + 7 * d))), (7, .int i_7), (8, .int i_8)] → W p l e (headSpec w_Rn_runScript ({ frames := (12 + 8 * ee + 8), cells := 0, slots := 0, locals := (600 + 300 * ee + 300) })).room s m (([.ref (ad 13), .int a, .int b, .int f, .int (nI d), .int bw] : List Value).toArray) below meth c H locs 0 0 (MQ below (va_Qi (fun r M1 => IvX M1 ∧ (∀ a b, ¬ (tR d) a b → M1 a b = M a b) ∧ (True)) (ux_E D shX KX ad cA) (ux_A KX ad)) (([.ref (ad 13), .int a, .int b, .int f, .int (nI d), .int bw] : List Value).toArray) s 0 0 (ux_A KX ad)) (F0 m 52 ls []) := by
    intro nn
    induction nn using Nat.strongRecOn with
    | ind nn ih52 =>
      intro i_7 i_8 Mc52 H locs ls hn c52_0 hP hI hF hS hl
      refine lv_iload hx hb d_Rn_runScript_52 (lv_at hl 4 rfl) ?_
      refine lv_sipush (v := 200) hx hb d_Rn_runScript_54 (by decide) ?_
      refine lv_icmp_gt hx hb d_Rn_runScript_57 rfl (fun h1 => ?_) (fun h1 => ?_)
      · have g1 : 200 < i_8.toInt := Int32.lt_iff_toInt_lt.mp h1
        have u1 := ti_hi i_8
        refine lv_iload hx hb d_Rn_runScript_125 (lv_at hl 3 rfl) ?_
        exact W.iret (v := i_7) hx hb hr (fun t ht hW => ⟨⟨i_7, Mc52, rfl, ⟨hI, hF, trivial⟩, by unfold ux_E; rw [ht]; exact hP⟩, hS.F ht⟩) hS.2.2 d_Rn_runScript_127
      · have g1 : ¬ (200 < i_8.toInt) := fun q => h1 (Int32.lt_iff_toInt_lt.mpr q)
        have w1 := ti_lo i_8
        refine lv_iload hx hb d_Rn_runScript_60 (lv_at hl 3 rfl) ?_
        refine lv_if_ne hx hb d_Rn_runScript_62 rfl (fun h2 => ?_) (fun h2 => ?_)
        · have g2 : ¬ (i_7.toInt = 0) := fun q => h2 (Int32.toInt_inj.mp q)
          refine lv_iload hx hb d_Rn_runScript_125 (lv_at hl 3 rfl) ?_
          exact W.iret (v := i_7) hx hb hr (fun t ht hW => ⟨⟨i_7, Mc52, rfl, ⟨hI, hF, trivial⟩, by unfold ux_E; rw [ht]; exact hP⟩, hS.F ht⟩) hS.2.2 d_Rn_runScript_127
        · have g2 : i_7.toInt = 0 := congrArg Int32.toInt h2
          refine lv_aload hx hb d_Rn_runScript_65 (lv_at hl 2 rfl) ?_
          refine ux_getN (C := R_Lv) (T := F_Lv) (N := 10) hx hb hT in_Lv hown hK hP (lk 53 (by decide) hd) (L53 hd) rfl 9 (by decide) (hN _ nf_Rn_75) rfl d_Rn_runScript_67 ?_
          refine lv_if_ne hx hb d_Rn_runScript_70 rfl (fun h3 => ?_) (fun h3 => ?_)
          · have g3 : ¬ ((Mc52 (53 + 7 * d) 9).toInt = 0) := fun q => h3 (Int32.toInt_inj.mp q)
            refine lv_iload hx hb d_Rn_runScript_125 (lv_at hl 3 rfl) ?_
            exact W.iret (v := i_7) hx hb hr (fun t ht hW => ⟨⟨i_7, Mc52, rfl, ⟨hI, hF, trivial⟩, by unfold ux_E; rw [ht]; exact hP⟩, hS.F ht⟩) hS.2.2 d_Rn_runScript_127
          · have g3 : (Mc52 (53 + 7 * d) 9).toInt = 0 := congrArg Int32.toInt h3
            refine lv_aload_n hx hb d_Rn_runScript_73 rfl (lv_at hl 0 rfl) ?_
            refine lv_aload hx hb d_Rn_runScript_74 (lv_at hl 2 rfl) ?_
            refine lv_iload hx hb d_Rn_runScript_76 (lv_at hl 1 rfl) ?_
            refine ux_calli (va_runV ⟨hx, hb, hml, hown, hts⟩ (s_Rn_readCommand l D ad cA Mc52 hI adK adV fm d ee hd hde hrec ) (cwV 2 hts (tb_goodV ml_Rn_79 im_Rn_readCommand se_Rn_readCommand ii_Rn kt_Rn_readCommand) rfl rfl rfl (by decide +kernel) ⟨show (12 + 8 * ee + 4) + 1 ≤ (12 + 8 * ee + 8) by omega, show 8 + (6 + 11) + ((600 + 300 * ee + 105)) ≤ (600 + 300 * ee + 300) by omega⟩) (ux_preVZ (by decide) rfl rfl hP hK hi hN hZ hS) rfl rfl hl.1 rfl (lv_room (Nat.le_of_ble_eq_true rfl)) d_Rn_runScript_78 ⟨Nat.zero_le _, Nat.zero_le _⟩) hS (fun r4 M5 H locs q6 hP hS => ?_)
            obtain ⟨hI, fq6, q6p⟩ := q6
            have hF := fr_call hF fq6 (fun a b q => by unfold tR at q; unfold tR; omega)
            refine lv_istore hx hb d_Rn_runScript_81 hl (by decide) rfl (fun ls hl => ?_)
            have hl : lv_has ls 9 [(7, .int r4), (0, .ref (ad 13)), (4, .int (nI d)), (6, .ref (ad (53 + 7 * d))), (8, .int i_8)] := hl
            refine lv_iload hx hb d_Rn_runScript_83 (lv_at hl 0 rfl) ?_
            refine lv_if_ne hx hb d_Rn_runScript_85 rfl (fun h7 => ?_) (fun h7 => ?_)
            · have g7 : ¬ (r4.toInt = 0) := fun q => h7 (Int32.toInt_inj.mp q)
              obtain ⟨x8, ex8⟩ : ∃ z : Int32, z = i_8 + 1 := ⟨_, rfl⟩
              refine lv_iinc (k := 4) (v := x8) hx hb d_Rn_runScript_119 hl rfl ex8.symm (by decide) rfl (fun ls hl => ?_)
              have hl : lv_has ls 9 [(8, .int x8), (7, .int r4), (0, .ref (ad 13)), (4, .int (nI d)), (6, .ref (ad (53 + 7 * d)))] := hl
              try have fx8 : x8.toInt = i_8.toInt + 1 := by rw [ex8]; exact ti_add (by (try rw [show (1 : Int32).toInt = 1 from rfl]); omega) (by (try rw [show (1 : Int32).toInt = 1 from rfl]); omega)
              refine lv_goto hx hb d_Rn_runScript_122 rfl ?_
              exact ih52 (((201 : Int) - x8.toInt).toNat) (by omega) r4 x8 M5 _ _ ls rfl (show 0 ≤ x8.toInt from by first | omega | assumption | exact Or.inl rfl | exact Or.inr rfl | rfl | decide) hP hI hF hS (lv_sub hl [2, 3, 4, 1, 0] rfl)
            · have g7 : r4.toInt = 0 := congrArg Int32.toInt h7
              refine lv_aload hx hb d_Rn_runScript_88 (lv_at hl 3 rfl) ?_
              refine ux_getN (C := R_Lv) (T := F_Lv) (N := 10) hx hb hT in_Lv hown hK hP (lk 53 (by decide) hd) (L53 hd) rfl 4 (by decide) (hN _ nf_Rn_83) rfl d_Rn_runScript_90 ?_
              have b9 := iv0 (M := M5) (a := 53 + 7 * d) (b := 4) hI (by unfold p0; omega)
              have b10 := iv8 (M := M5) (a := 53 + 7 * d) (b := 4) hI (by unfold p8; omega)
              refine lv_if_le hx hb d_Rn_runScript_93 rfl (fun h11 => ?_) (fun h11 => ?_)
              · have g11 : (M5 (53 + 7 * d) 4).toInt ≤ 0 := Int32.le_iff_toInt_le.mp h11
                have w11 := ti_lo (M5 (53 + 7 * d) 4)
                obtain ⟨x12, ex12⟩ : ∃ z : Int32, z = i_8 + 1 := ⟨_, rfl⟩
                refine lv_iinc (k := 4) (v := x12) hx hb d_Rn_runScript_119 hl rfl ex12.symm (by decide) rfl (fun ls hl => ?_)
                have hl : lv_has ls 9 [(8, .int x12), (7, .int r4), (0, .ref (ad 13)), (4, .int (nI d)), (6, .ref (ad (53 + 7 * d)))] := hl
                try have fx12 : x12.toInt = i_8.toInt + 1 := by rw [ex12]; exact ti_add (by (try rw [show (1 : Int32).toInt = 1 from rfl]); omega) (by (try rw [show (1 : Int32).toInt = 1 from rfl]); omega)
                refine lv_goto hx hb d_Rn_runScript_122 rfl ?_
                exact ih52 (((201 : Int) - x12.toInt).toNat) (by omega) r4 x12 M5 _ _ ls rfl (show 0 ≤ x12.toInt from by first | omega | assumption | exact Or.inl rfl | exact Or.inr rfl | rfl | decide) hP hI hF hS (lv_sub hl [2, 3, 4, 1, 0] rfl)
              · have g11 : ¬ ((M5 (53 + 7 * d) 4).toInt ≤ 0) := fun q => h11 (Int32.le_iff_toInt_le.mpr q)
                have u11 := ti_hi (M5 (53 + 7 * d) 4)
                refine lv_aload_n hx hb d_Rn_runScript_96 rfl (lv_at hl 1 rfl) ?_
                refine lv_aload hx hb d_Rn_runScript_97 (lv_at hl 3 rfl) ?_
                refine ux_calli (va_runV ⟨hx, hb, hml, hown, hts⟩ (s_Rn_checkCommand l D ad cA M5 hI adK adV fm d hd ) (cwV 1 hts (tb_goodV ml_Rn_87 im_Rn_checkCommand se_Rn_checkCommand ii_Rn kt_Rn_checkCommand) rfl rfl rfl (by decide +kernel) ⟨show 5 + 1 ≤ (12 + 8 * ee + 8) by omega, show 8 + (6 + 11) + (112) ≤ (600 + 300 * ee + 300) by omega⟩) (ux_preVZ (by decide) rfl rfl hP hK hi hN hZ hS) rfl rfl hl.1 rfl (lv_room (Nat.le_of_ble_eq_true rfl)) d_Rn_runScript_99 ⟨Nat.zero_le _, Nat.zero_le _⟩) hS (fun r13 M14 H locs q15 hP hS => ?_)
                obtain ⟨hI, fq15, q15p⟩ := q15
                have hF := fr_call hF fq15 (fun a b q => by unfold tCC at q; unfold tR; omega)
                refine lv_istore hx hb d_Rn_runScript_102 hl (by decide) rfl (fun ls hl => ?_)
                have hl : lv_has ls 9 [(7, .int r13), (0, .ref (ad 13)), (4, .int (nI d)), (6, .ref (ad (53 + 7 * d))), (8, .int i_8)] := hl
                refine lv_iload hx hb d_Rn_runScript_104 (lv_at hl 0 rfl) ?_
                refine lv_if_ne hx hb d_Rn_runScript_106 rfl (fun h16 => ?_) (fun h16 => ?_)
                · have g16 : ¬ (r13.toInt = 0) := fun q => h16 (Int32.toInt_inj.mp q)
                  obtain ⟨x17, ex17⟩ : ∃ z : Int32, z = i_8 + 1 := ⟨_, rfl⟩
                  refine lv_iinc (k := 4) (v := x17) hx hb d_Rn_runScript_119 hl rfl ex17.symm (by decide) rfl (fun ls hl => ?_)
                  have hl : lv_has ls 9 [(8, .int x17), (7, .int r13), (0, .ref (ad 13)), (4, .int (nI d)), (6, .ref (ad (53 + 7 * d)))] := hl
                  try have fx17 : x17.toInt = i_8.toInt + 1 := by rw [ex17]; exact ti_add (by (try rw [show (1 : Int32).toInt = 1 from rfl]); omega) (by (try rw [show (1 : Int32).toInt = 1 from rfl]); omega)
                  refine lv_goto hx hb d_Rn_runScript_122 rfl ?_
                  exact ih52 (((201 : Int) - x17.toInt).toNat) (by omega) r13 x17 M14 _ _ ls rfl (show 0 ≤ x17.toInt from by first | omega | assumption | exact Or.inl rfl | exact Or.inr rfl | rfl | decide) hP hI hF hS (lv_sub hl [2, 3, 4, 1, 0] rfl)
                · have g16 : r13.toInt = 0 := congrArg Int32.toInt h16
                  refine lv_aload_n hx hb d_Rn_runScript_109 rfl (lv_at hl 1 rfl) ?_
                  refine lv_aload hx hb d_Rn_runScript_110 (lv_at hl 3 rfl) ?_
                  refine lv_iload hx hb d_Rn_runScript_112 (lv_at hl 2 rfl) ?_
                  refine ux_calli (va_runV ⟨hx, hb, hml, hown, hts⟩ (s_Rn_doCommand l D ad cA M14 hI adK adV fm d ee hd hde hrec ) (cwV 2 hts (tb_goodV ml_Rn_91 im_Rn_doCommand se_Rn_doCommand ii_Rn kt_Rn_doCommand) rfl rfl rfl (by decide +kernel) ⟨show (12 + 8 * ee + 3) + 1 ≤ (12 + 8 * ee + 8) by omega, show 8 + (5 + 11) + ((600 + 300 * ee + 76)) ≤ (600 + 300 * ee + 300) by omega⟩) (ux_preVZ (by decide) rfl rfl hP hK hi hN hZ hS) rfl rfl hl.1 rfl (lv_room (Nat.le_of_ble_eq_true rfl)) d_Rn_runScript_114 ⟨Nat.zero_le _, Nat.zero_le _⟩) hS (fun r18 M19 H locs q20 hP hS => ?_)
                  obtain ⟨hI, fq20, q20p⟩ := q20
                  have hF := fr_call hF fq20 (fun a b q => by unfold tR at q; unfold tR; omega)
                  refine lv_istore hx hb d_Rn_runScript_117 hl (by decide) rfl (fun ls hl => ?_)
                  have hl : lv_has ls 9 [(7, .int r18), (0, .ref (ad 13)), (4, .int (nI d)), (6, .ref (ad (53 + 7 * d))), (8, .int i_8)] := hl
                  obtain ⟨x21, ex21⟩ : ∃ z : Int32, z = i_8 + 1 := ⟨_, rfl⟩
                  refine lv_iinc (k := 4) (v := x21) hx hb d_Rn_runScript_119 hl rfl ex21.symm (by decide) rfl (fun ls hl => ?_)
                  have hl : lv_has ls 9 [(8, .int x21), (7, .int r18), (0, .ref (ad 13)), (4, .int (nI d)), (6, .ref (ad (53 + 7 * d)))] := hl
                  try have fx21 : x21.toInt = i_8.toInt + 1 := by rw [ex21]; exact ti_add (by (try rw [show (1 : Int32).toInt = 1 from rfl]); omega) (by (try rw [show (1 : Int32).toInt = 1 from rfl]); omega)
                  refine lv_goto hx hb d_Rn_runScript_122 rfl ?_
                  exact ih52 (((201 : Int) - x21.toInt).toNat) (by omega) r18 x21 M19 _ _ ls rfl (show 0 ≤ x21.toInt from by first | omega | assumption | exact Or.inl rfl | exact Or.inr rfl | rfl | decide) hP hI hF hS (lv_sub hl [2, 3, 4, 1, 0] rfl)
  refine lv_iload hx hb d_Rn_runScript_0 (lv_at hl 4 rfl) ?_
  refine lv_if_lt hx hb d_Rn_runScript_2 rfl (fun h22 => ?_) (fun h22 => ?_)
  · have g22 : (nI d).toInt < 0 := Int32.lt_iff_toInt_lt.mp h22
    have w22 := ti_lo (nI d)
    refine lv_aload_n hx hb d_Rn_runScript_12 rfl (lv_at hl 0 rfl) ?_
    refine lv_bipush (v := 8) hx hb d_Rn_runScript_13 (by decide) ?_
    refine ux_calli (va_runV ⟨hx, hb, hml, hown, hts⟩ (s_Rn_fail l D ad cA M hI 8) (cwV 1 hts (tb_goodV ml_Rn_64 im_Rn_fail se_Rn_fail ii_Rn kt_Rn_fail) rfl rfl rfl (by decide +kernel) ⟨show 1 + 1 ≤ (12 + 8 * ee + 8) by omega, show 8 + (2 + 11) + (22) ≤ (600 + 300 * ee + 300) by omega⟩) (ux_preV (by decide) rfl rfl hP hK hi hN) rfl rfl hl.1 rfl (lv_room (Nat.le_of_ble_eq_true rfl)) d_Rn_runScript_15 ⟨Nat.zero_le _, Nat.zero_le _⟩) hS (fun r23 M24 H locs q25 hP hS => ?_)
    obtain ⟨hI, fq25, q25p⟩ := q25
    have hF := fr_call hF fq25 (fun a b q => by unfold tV at q; unfold tR; omega)
    exact W.iret (v := r23) hx hb hr (fun t ht hW => ⟨⟨r23, M24, rfl, ⟨hI, hF, trivial⟩, by unfold ux_E; rw [ht]; exact hP⟩, hS.F ht⟩) hS.2.2 d_Rn_runScript_18
  · have g22 : ¬ ((nI d).toInt < 0) := fun q => h22 (Int32.lt_iff_toInt_lt.mpr q)
    have u22 := ti_hi (nI d)
    refine lv_iload hx hb d_Rn_runScript_5 (lv_at hl 4 rfl) ?_
    refine lv_bipush (v := 8) hx hb d_Rn_runScript_7 (by decide) ?_
    refine lv_icmp_lt hx hb d_Rn_runScript_9 rfl (fun h26 => ?_) (fun h26 => ?_)
    · have g26 : (nI d).toInt < 8 := Int32.lt_iff_toInt_lt.mp h26
      have w26 := ti_lo (nI d)
      refine lv_aload_n hx hb d_Rn_runScript_19 rfl (lv_at hl 0 rfl) ?_
      refine ux_get (C := R_Rn) (T := F_Rn) (N := 9) hx hb hT in_Rn hown hK hP (by decide) rfl rfl 5 (by decide) (hT _ fl_Rn_27) rfl d_Rn_runScript_20 ?_
      refine lv_iload hx hb d_Rn_runScript_23 (lv_at hl 4 rfl) ?_
      refine ux_aald hx hb hK hP (by decide) rfl rfl ((vi (show 0 ≤ (nI d).toInt by omega) (show (nI d).toInt < ((8 : Nat) : Int) by omega))) d_Rn_runScript_25 ?_
      rw [show gX46 (nI d).toNatClampNeg = 53 + 7 * d from gL hd]
      refine lv_astore hx hb d_Rn_runScript_26 hl (by decide) rfl (fun ls hl => ?_)
      have hl : lv_has ls 9 [(6, .ref (ad (53 + 7 * d))), (0, .ref (ad 13)), (1, .int a), (2, .int b), (3, .int f), (4, .int (nI d)), (5, .int bw)] := hl
      refine lv_aload hx hb d_Rn_runScript_28 (lv_at hl 0 rfl) ?_
      refine lv_iload_n hx hb d_Rn_runScript_30 rfl (lv_at hl 2 rfl) ?_
      refine lv_iload_n hx hb d_Rn_runScript_31 rfl (lv_at hl 3 rfl) ?_
      refine lv_iload_n hx hb d_Rn_runScript_32 rfl (lv_at hl 4 rfl) ?_
      refine lv_iload hx hb d_Rn_runScript_33 (lv_at hl 6 rfl) ?_
      refine ux_callv (va_runV ⟨hx, hb, hml, hown, hts⟩ (s_Lv_begin l D ad cA M hI d hd a b f bw (by first | assumption | exact Or.inl rfl | exact Or.inr rfl)) (cwV 4 hts (tb_goodV ml_Rn_68 im_Lv_begin se_Lv_begin ii_Lv kt_Lv_begin) rfl rfl rfl (by decide +kernel) ⟨show 1 + 1 ≤ (12 + 8 * ee + 8) by omega, show 8 + (5 + 11) + (21) ≤ (600 + 300 * ee + 300) by omega⟩) (ux_preV (lk 53 (by decide) hd) (L53 hd) rfl hP hK hi hN) rfl rfl hl.1 rfl (lv_room (Nat.le_of_ble_eq_true rfl)) d_Rn_runScript_35 ⟨Nat.zero_le _, Nat.zero_le _⟩) hS (fun M28 H locs q29 hP hS => ?_)
      obtain ⟨hI, fq29, q29p⟩ := q29
      have hF := fr_call hF fq29 (fun a b q => by unfold tLb at q; unfold tR; omega)
      refine lv_aload_n hx hb d_Rn_runScript_38 rfl (lv_at hl 1 rfl) ?_
      refine ux_get (C := R_Rn) (T := F_Rn) (N := 9) hx hb hT in_Rn hown hK hP (by decide) rfl rfl 6 (by decide) (hT _ fl_Rn_36) rfl d_Rn_runScript_39 ?_
      refine lv_iconst (v := 0) hx hb d_Rn_runScript_42 (by decide) ?_
      refine ux_callv (va_runV ⟨hx, hb, hml, hown, hts⟩ (c_Vl_empty l D shX KX ad cA M28 47 48 49 1 V_res 0) (cwV 1 hts (tb_goodV ml_Rn_72 im_Vl_empty se_Vl_empty ii_Vl kt_Vl_empty) rfl rfl rfl (by decide +kernel) ⟨show 0 + 1 ≤ (12 + 8 * ee + 8) by omega, show 8 + (2 + 11) + (0) ≤ (600 + 300 * ee + 300) by omega⟩) (ux_preV (by decide) rfl rfl hP hK hi hN) rfl rfl hl.1 rfl (lv_room (Nat.le_of_ble_eq_true rfl)) d_Rn_runScript_43 ⟨Nat.zero_le _, Nat.zero_le _⟩) hS (fun M30 H locs q31 hP hS => ?_)
      have fq31 := vem_off (M := M28) (ks := 49) (n := 1) (i := 0)
      rw [← q31] at fq31
      have hI : IvX M30 := by rw [q31]; exact vem_I hI (fun b => by unfold ppn; omega) (by unfold pch; omega)
      have hF := fr_call hF fq31 (fun a b q => by unfold tV1 at q; unfold tR; omega)
      refine lv_iconst (v := 0) hx hb d_Rn_runScript_46 (by decide) ?_
      refine lv_istore hx hb d_Rn_runScript_47 hl (by decide) rfl (fun ls hl => ?_)
      have hl : lv_has ls 9 [(7, .int 0), (6, .ref (ad (53 + 7 * d))), (0, .ref (ad 13)), (1, .int a), (2, .int b), (3, .int f), (4, .int (nI d)), (5, .int bw)] := hl
      refine lv_iconst (v := 0) hx hb d_Rn_runScript_49 (by decide) ?_
      refine lv_istore hx hb d_Rn_runScript_50 hl (by decide) rfl (fun ls hl => ?_)
      have hl : lv_has ls 9 [(8, .int 0), (7, .int 0), (6, .ref (ad (53 + 7 * d))), (0, .ref (ad 13)), (1, .int a), (2, .int b), (3, .int f), (4, .int (nI d)), (5, .int bw)] := hl
      exact cut52 (((201 : Int) - 0).toNat) 0 0 M30 _ _ ls rfl (show 0 ≤ 0 from by first | omega | assumption | exact Or.inl rfl | exact Or.inr rfl | rfl | decide) hP hI hF hS (lv_sub hl [3, 7, 2, 1, 0] rfl)
    · have g26 : ¬ ((nI d).toInt < 8) := fun q => h26 (Int32.lt_iff_toInt_lt.mpr q)
      have u26 := ti_hi (nI d)
      refine lv_aload_n hx hb d_Rn_runScript_12 rfl (lv_at hl 0 rfl) ?_
      refine lv_bipush (v := 8) hx hb d_Rn_runScript_13 (by decide) ?_
      refine ux_calli (va_runV ⟨hx, hb, hml, hown, hts⟩ (s_Rn_fail l D ad cA M hI 8) (cwV 1 hts (tb_goodV ml_Rn_64 im_Rn_fail se_Rn_fail ii_Rn kt_Rn_fail) rfl rfl rfl (by decide +kernel) ⟨show 1 + 1 ≤ (12 + 8 * ee + 8) by omega, show 8 + (2 + 11) + (22) ≤ (600 + 300 * ee + 300) by omega⟩) (ux_preV (by decide) rfl rfl hP hK hi hN) rfl rfl hl.1 rfl (lv_room (Nat.le_of_ble_eq_true rfl)) d_Rn_runScript_15 ⟨Nat.zero_le _, Nat.zero_le _⟩) hS (fun r32 M33 H locs q34 hP hS => ?_)
      obtain ⟨hI, fq34, q34p⟩ := q34
      have hF := fr_call hF fq34 (fun a b q => by unfold tV at q; unfold tR; omega)
      exact W.iret (v := r32) hx hb hr (fun t ht hW => ⟨⟨r32, M33, rfl, ⟨hI, hF, trivial⟩, by unfold ux_E; rw [ht]; exact hP⟩, hS.F ht⟩) hS.2.2 d_Rn_runScript_18

set_option maxHeartbeats 1600000 in
set_option maxRecDepth 100000 in
theorem s_Rn_runScript_8 (l : Launch) (D : va_G) (ad : Nat → Nat) (cA : Nat → ClassId) (M : ux_M) (hI : IvX M) (adK adV : Nat → Nat) (fm : Value) (a b f bw : Int32) : Met l y_Rn_runScript w_Rn_runScript ({ frames := 12, cells := 0, slots := 0, locals := 600 }) (va_Pc [.ref (ad 13), .int a, .int b, .int f, .int 8, .int bw] (ux_BZ D ad cA M adK adV fm)) (va_Qi (fun r M1 => IvX M1 ∧ (∀ a b, ¬ (tR 8) a b → M1 a b = M a b) ∧ (True)) (ux_E D shX KX ad cA) (ux_A KX ad)) 0 0 (ux_A KX ad) := by
  refine Met.ofW (cc := b_Rn_runScript) (maxL := 9) (ret := (some .int)) (by decide) rfl ?_
  intro p e s m args below meth c s₁ B hml hv
  obtain ⟨rfl, ⟨hP, hK, hi, hN⟩, hZ⟩ := hv
  have hx := B.exec
  have hb := B.bytes
  have hr := B.returns
  have hts := atoms_spec (ws := w_Rn_runScript) B.pre
  have hown : s.vm.findClass R_Rn = some m.cls := findClass_of_methodNamed B.named
  have hlocks := B.notSynchronized
  have hT : ∀ w ∈ tb, w.before _ s = true := fun w h => hts w (List.mem_cons_of_mem _ h)
  have hS : va_S (ux_A KX ad) s.heap s.heap [] := va_S.rf
  have hl := lv_entry ([.ref (ad 13), .int a, .int b, .int f, .int 8, .int bw]) (n := 9) (Nat.le_of_ble_eq_true rfl)
  rw [lg_entry_eq]
  generalize (lg_sl ([.ref (ad 13), .int a, .int b, .int f, .int 8, .int bw]) ++ List.replicate (9 - (lg_sl ([.ref (ad 13), .int a, .int b, .int f, .int 8, .int bw])).length) Slot.unset).toArray = ls at hl ⊢
  have hl : lv_has ls 9 [(0, .ref (ad 13)), (1, .int a), (2, .int b), (3, .int f), (4, .int 8), (5, .int bw)] := hl
  have hF : ∀ a b, ¬ (tR 8) a b → M a b = M a b := fun _ _ _ => rfl
  refine lv_iload hx hb d_Rn_runScript_0 (lv_at hl 4 rfl) ?_
  refine lv_if_lt hx hb d_Rn_runScript_2 rfl (fun hz => absurd hz (by decide)) (fun _ => ?_)
  refine lv_iload hx hb d_Rn_runScript_5 (lv_at hl 4 rfl) ?_
  refine lv_bipush (v := 8) hx hb d_Rn_runScript_7 (by decide) ?_
  refine lv_icmp_lt hx hb d_Rn_runScript_9 rfl (fun hz => absurd hz (by decide)) (fun _ => ?_)
  refine lv_aload_n hx hb d_Rn_runScript_12 rfl (lv_at hl 0 rfl) ?_
  refine lv_bipush (v := 8) hx hb d_Rn_runScript_13 (by decide) ?_
  refine ux_calli (va_runV ⟨hx, hb, hml, hown, hts⟩ (s_Rn_fail l D ad cA M hI 8) (cwV 1 hts (tb_goodV ml_Rn_64 im_Rn_fail se_Rn_fail ii_Rn kt_Rn_fail) rfl rfl rfl (by decide +kernel) ⟨show 1 + 1 ≤ 12 by omega, show 8 + (2 + 11) + (22) ≤ 600 by omega⟩) (ux_preV (by decide) rfl rfl hP hK hi hN) rfl rfl hl.1 rfl (lv_room (Nat.le_of_ble_eq_true rfl)) d_Rn_runScript_15 ⟨Nat.zero_le _, Nat.zero_le _⟩) hS (fun r1 M2 H locs q3 hP hS => ?_)
  obtain ⟨hI, fq3, q3p⟩ := q3
  have hF := fr_call hF fq3 (fun a b q => by unfold tV at q; unfold tR; omega)
  exact W.iret (v := r1) hx hb hr (fun t ht hW => ⟨⟨r1, M2, rfl, ⟨hI, hF, trivial⟩, by unfold ux_E; rw [ht]; exact hP⟩, hS.F ht⟩) hS.2.2 d_Rn_runScript_18

theorem RS_8 (l : Launch) (D : va_G) (ad : Nat → Nat) (cA : Nat → ClassId) (adK adV : Nat → Nat) (fm : Value) : RS l D ad cA adK adV fm 8 0 := fun M hI a b f bw _ => s_Rn_runScript_8 l D ad cA M hI adK adV fm a b f bw
theorem RS_d (l : Launch) (D : va_G) (ad : Nat → Nat) (cA : Nat → ClassId) (adK adV : Nat → Nat) (fm : Value) : ∀ e d, d + e = 8 → RS l D ad cA adK adV fm d e := by
  intro e
  induction e with
  | zero =>
    intro d h
    have hd : d = 8 := by omega
    subst hd
    exact RS_8 l D ad cA adK adV fm
  | succ e ih =>
    intro d h M hI a b f bw hbw
    have h1 := s_Rn_runScript l D ad cA M hI adK adV fm d e (by omega) (by omega) (ih (d + 1) (by omega)) a b f bw hbw
    rw [show 12 + 8 * (e + 1) = 12 + 8 * e + 8 by omega, show 600 + 300 * (e + 1) = 600 + 300 * e + 300 by omega]
    exact h1
