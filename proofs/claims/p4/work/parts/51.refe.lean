/-! The reference, safe: send, fires; written by wip/gen/ref.py -/
set_option maxHeartbeats 1600000 in
set_option maxRecDepth 100000 in
theorem s_Md_send (l : Launch) (D : va_G) (ad : Nat → Nat) (cA : Nat → ClassId) (A TB : Nat) (hA : A ≤ 100000000) (hB : TB ≤ 2000000000) (M : ux_M) (hI : IvM A TB M) (L : Nat) (hL : L ≤ 7) (hlv : M 0 10 = nI L) (hsl : (M 0 48).toInt + 40 * ((M 0 27).toInt - (M 0 28).toInt) + 40 ≤ (TB : Int)) : Met l y_Md_send w_Md_send ({ frames := 2, cells := 0, slots := 0, locals := 44 }) (va_Pc [.ref (ad 0)] (ux_B D shM KM ad cA M)) (va_Qv (fun M1 => IvM A TB M1 ∧ (∀ a b, ¬ mSe a b → M1 a b = M a b) ∧ ((M1 0 23 = 1) ∧ (M1 0 24 = 0 ∨ M1 0 24 = 1))) (ux_E D shM KM ad cA) (ux_A KM ad)) 0 0 (ux_A KM ad) := by
  refine Met.ofW (cc := b_Md_send) (maxL := 3) (ret := none) (by decide) rfl ?_
  intro p e s m args below meth c s₁ B hml hv
  obtain ⟨rfl, hP, hK, hi, hN⟩ := hv
  have hx := B.exec
  have hb := B.bytes
  have hr := B.returns
  have hts := atoms_spec (ws := w_Md_send) B.pre
  have hown : s.vm.findClass R_Md = some m.cls := findClass_of_methodNamed B.named
  have hlocks := B.notSynchronized
  have hT : ∀ w ∈ tb, w.before _ s = true := fun w h => hts w (List.mem_cons_of_mem _ h)
  have hS : va_S (ux_A KM ad) s.heap s.heap [] := va_S.rf
  have hl := lv_entry ([.ref (ad 0)]) (n := 3) (Nat.le_of_ble_eq_true rfl)
  rw [lg_entry_eq]
  generalize (lg_sl ([.ref (ad 0)]) ++ List.replicate (3 - (lg_sl ([.ref (ad 0)])).length) Slot.unset).toArray = ls at hl ⊢
  have hl : lv_has ls 3 [(0, .ref (ad 0))] := hl
  have hF : ∀ a b, ¬ mSe a b → M a b = M a b := fun _ _ _ => rfl
  have cut26 : ∀ (nn : Nat) (k1 k2 : Nat) (Mc26 : ux_M) (H : Heap) (locs : List Loc) (ls : Array Slot), 40 - k2 = nn → (k1 ≤ 40) → ((k1 : Int) ≤ (M 19 (8 * L + 1)).toInt) → (k2 ≤ 40) → ((Mc26 0 44).toInt + ((k1 : Int) - (k2 : Int)) ≤ 40) → ((Mc26 0 48).toInt ≤ (M 0 48).toInt + (k2 : Int)) → va_P D classes (ux_w shM KM ad cA Mc26) H → IvM A TB Mc26 → (∀ a b, ¬ mSe a b → Mc26 a b = M a b) → va_S (ux_A KM ad) s.heap H locs → lv_has ls 3 [(0, .ref (ad 0)), (1, .int (nI k1)), (2, .int (nI k2))] → W p l e (headSpec w_Md_send ({ frames := 2, cells := 0, slots := 0, locals := 44 })).room s m (([.ref (ad 0)] : List Value).toArray) below meth c H locs 0 0 (MQ below (va_Qv (fun M1 => IvM A TB M1 ∧ (∀ a b, ¬ mSe a b → M1 a b = M a b) ∧ ((M1 0 23 = 1) ∧ (M1 0 24 = 0 ∨ M1 0 24 = 1))) (ux_E D shM KM ad cA) (ux_A KM ad)) (([.ref (ad 0)] : List Value).toArray) s 0 0 (ux_A KM ad)) (F0 m 26 ls []) := by
    intro nn
    induction nn using Nat.strongRecOn with
    | ind nn ih26 =>
      intro k1 k2 Mc26 H locs ls hn c26_0 c26_1 c26_2 c26_3 c26_4 hP hI hF hS hl
      refine lv_iload_n hx hb d_Md_send_26 rfl (lv_at hl 2 rfl) ?_
      refine lv_iload_n hx hb d_Md_send_27 rfl (lv_at hl 1 rfl) ?_
      refine lv_icmp_ge hx hb d_Md_send_28 rfl (fun h1 => ?_) (fun h1 => ?_)
      · have g1 : ((k1 : Nat) : Int) ≤ ((k2 : Nat) : Int) := by have q := Int32.le_iff_toInt_le.mp h1; rw [nI_toInt (n := k1) (by omega), nI_toInt (n := k2) (by omega)] at q; exact q
        refine lv_aload_n hx hb d_Md_send_72 rfl (lv_at hl 0 rfl) ?_
        refine lv_iconst (v := 0) hx hb d_Md_send_73 (by decide) ?_
        refine ux_callv (va_runV ⟨hx, hb, hml, hown, hts⟩ (s_Md_done l D ad cA A TB hA hB  Mc26 hI 0) (cwV 1 hts (tb_goodV ml_Md_235 im_Md_done se_Md_done ii_Md kt_Md_done) rfl rfl rfl (by decide +kernel) ⟨Nat.le_of_ble_eq_true rfl, Nat.le_of_ble_eq_true rfl⟩) (ux_preV (by decide) rfl rfl hP hK hi hN) rfl rfl hl.1 rfl (lv_room (Nat.le_of_ble_eq_true rfl)) d_Md_send_74 ⟨Nat.zero_le _, Nat.zero_le _⟩) hS (fun M3 H locs q4 hP hS => ?_)
        obtain ⟨hI, fq4, q4p⟩ := q4
        have hF := fr_call hF fq4 (fun a b q => by unfold mDn at q; unfold mSe; omega)
        exact W.vret hx hb hr (fun t ht hW => ⟨⟨M3, rfl, ⟨hI, hF, (by refine ⟨by first | assumption | exact (And.left (by assumption)), ?_⟩; first | exact Or.inl (And.right (by assumption)) | exact Or.inr (And.right (by assumption)))⟩, by unfold ux_E; rw [ht]; exact hP⟩, hS.F ht⟩) hS.2.2 d_Md_send_77
      · have g1 : ¬ (((k1 : Nat) : Int) ≤ ((k2 : Nat) : Int)) := fun q => h1 (Int32.le_iff_toInt_le.mpr (by rw [nI_toInt (n := k1) (by omega), nI_toInt (n := k2) (by omega)]; exact q))
        have k5 := congrArg Int32.toInt (show Mc26 19 (8 * L + 1) = M 19 (8 * L + 1) from hF _ _ (by unfold mSe; omega))
        refine lv_aload_n hx hb d_Md_send_31 rfl (lv_at hl 0 rfl) ?_
        refine ux_get (C := R_Md) (T := F_Md) (N := 50) hx hb hT in_Md hown hK hP (by decide) rfl rfl 45 (by decide) (hT _ fl_Md_103) rfl d_Md_send_32 ?_
        refine lv_aload_n hx hb d_Md_send_35 rfl (lv_at hl 0 rfl) ?_
        refine ux_get (C := R_Md) (T := F_Md) (N := 50) hx hb hT in_Md hown hK hP (by decide) rfl rfl 44 (by decide) (hT _ fl_Md_129) rfl d_Md_send_36 ?_
        refine lv_topi (fun z7 hz7 => ?_)
        obtain ⟨c6, hc6, ec6⟩ := nat_of (x := Mc26 0 44) (n := 40) (hI.1 0 44).1 (hI.1 0 44).2
        rw [ec6] at hz7
        rw [hz7]
        have tc6 : (Mc26 0 44).toInt = (c6 : Int) := by rw [ec6]; exact nI_toInt (by omega)
        refine lv_aload_n hx hb d_Md_send_39 rfl (lv_at hl 0 rfl) ?_
        refine lv_iconst (v := 1) hx hb d_Md_send_40 (by decide) ?_
        refine lv_iload_n hx hb d_Md_send_41 rfl (lv_at hl 2 rfl) ?_
        refine ux_calli (va_runV ⟨hx, hb, hml, hown, hts⟩ (s_Md_charOf l D ad cA A TB hA hB  Mc26 hI L hL ((hF _ _ (by unfold mSe; omega)).trans hlv) 1 k2 (by omega) (by omega)) (cwV 2 hts (tb_goodV ml_Md_162 im_Md_charOf se_Md_charOf ii_Md kt_Md_charOf) rfl rfl rfl (by decide +kernel) ⟨Nat.le_of_ble_eq_true rfl, Nat.le_of_ble_eq_true rfl⟩) (ux_preV (by decide) rfl rfl hP hK hi hN) rfl rfl hl.1 rfl (lv_room (Nat.le_of_ble_eq_true rfl)) d_Md_send_42 ⟨Nat.zero_le _, Nat.zero_le _⟩) hS (fun r8 M9 H locs q10 hP hS => ?_)
        obtain ⟨hI, fq10, q10p⟩ := q10
        rw [tN_eq fq10] at hP hI
        obtain ⟨c11, hc11, ec11⟩ := nat_of (x := r8) (n := 65535) q10p.1.1 q10p.1.2
        have vc11 := q10p.2
        subst ec11
        have tc11 : (nI c11).toInt = (c11 : Int) := nI_toInt (by omega)
        refine ux_cast hx hb hK hi hP hS (by decide) rfl (vp_in_nI (show c6 < 40 by omega) (by decide)) d_Md_send_45 (fun H locs hP hS => ?_)
        have b12 := nar_c (nI c11)
        rw [nI_clamp (n := c6) (by omega)] at hP
        have hI := IvM_wr (k := 30) (j := c6) (v := vp_nar .char (nI c11)) hI (show (0 : Int) ≤ (vp_nar .char (nI c11) : Int32).toInt from (by omega)) (show (vp_nar .char (nI c11) : Int32).toInt ≤ (65535 : Int) from (by omega)) (by unfold okW; omega)
        have hF := fr_wr (k := 30) (j := c6) (v := vp_nar .char (nI c11)) hF (by unfold mSe; omega)
        generalize eM13 : ux_wr Mc26 30 c6 (vp_nar .char (nI c11)) = M13 at hP hI hF
        have tM13 : (M13 30 c6).toInt = (vp_nar .char (nI c11)).toInt := by rw [wr_at eM13]
        refine lv_aload_n hx hb d_Md_send_46 rfl (lv_at hl 0 rfl) ?_
        refine lv_dup hx hb d_Md_send_47 rfl ?_
        refine ux_get (C := R_Md) (T := F_Md) (N := 50) hx hb hT in_Md hown hK hP (by decide) rfl rfl 44 (by decide) (hT _ fl_Md_129) rfl d_Md_send_48 ?_
        refine lv_topi (fun z14 hz14 => ?_)
        rw [show M13 0 44 = nI c6 from (wr_off eM13 (by omega)).trans (ec6)] at hz14
        rw [hz14]
        refine lv_iconst (v := 1) hx hb d_Md_send_51 (by decide) ?_
        refine lv_iadd hx hb d_Md_send_52 ?_
        refine lv_topi (fun z15 hz15 => ?_)
        rw [show (nI c6) + (1 : Int32) = nI (c6 + 1) from nI_add c6 1] at hz15
        rw [hz15]
        refine ux_put (C := R_Md) (T := F_Md) (N := 50) hx hb hT in_Md t_Md t_Md_ok n_Md hown hK hi hP hS (by decide) rfl rfl 44 (by decide) (hT _ fl_Md_129) rfl (rfl) (rfl) rfl d_Md_send_53 (fun H locs hP hS => ?_)
        have hI := IvM_wr (k := 0) (j := 44) (v := nI (c6 + 1)) hI (show (0 : Int) ≤ (nI (c6 + 1) : Int32).toInt from (by rw [nI_toInt (n := c6 + 1) (by omega)]; omega)) (show (nI (c6 + 1) : Int32).toInt ≤ (40 : Int) from (by rw [nI_toInt (n := c6 + 1) (by omega)]; omega)) (by unfold okW; omega)
        have hF := fr_wr (k := 0) (j := 44) (v := nI (c6 + 1)) hF (by unfold mSe; omega)
        generalize eM16 : ux_wr M13 0 44 (nI (c6 + 1)) = M16 at hP hI hF
        have tM16 : (M16 0 44).toInt = ((c6 + 1 : Nat) : Int) := by rw [wr_at eM16]; exact nI_toInt (by omega)
        have k17 := congrArg Int32.toInt (show M16 19 (8 * L + 1) = M 19 (8 * L + 1) from hF _ _ (by unfold mSe; omega))
        refine lv_aload_n hx hb d_Md_send_56 rfl (lv_at hl 0 rfl) ?_
        refine lv_aload_n hx hb d_Md_send_57 rfl (lv_at hl 0 rfl) ?_
        refine lv_iconst (v := 1) hx hb d_Md_send_58 (by decide) ?_
        refine lv_iload_n hx hb d_Md_send_59 rfl (lv_at hl 2 rfl) ?_
        refine ux_calli (va_runV ⟨hx, hb, hml, hown, hts⟩ (s_Md_charOf l D ad cA A TB hA hB  M16 hI L hL ((hF _ _ (by unfold mSe; omega)).trans hlv) 1 k2 (by omega) (by omega)) (cwV 2 hts (tb_goodV ml_Md_162 im_Md_charOf se_Md_charOf ii_Md kt_Md_charOf) rfl rfl rfl (by decide +kernel) ⟨Nat.le_of_ble_eq_true rfl, Nat.le_of_ble_eq_true rfl⟩) (ux_preV (by decide) rfl rfl hP hK hi hN) rfl rfl hl.1 rfl (lv_room (Nat.le_of_ble_eq_true rfl)) d_Md_send_60 ⟨Nat.zero_le _, Nat.zero_le _⟩) hS (fun r18 M19 H locs q20 hP hS => ?_)
        obtain ⟨hI, fq20, q20p⟩ := q20
        rw [tN_eq fq20] at hP hI
        obtain ⟨c21, hc21, ec21⟩ := nat_of (x := r18) (n := 65535) q20p.1.1 q20p.1.2
        have vc21 := q20p.2
        subst ec21
        have tc21 : (nI c21).toInt = (c21 : Int) := nI_toInt (by omega)
        have k22 := congrArg Int32.toInt (show M16 0 (27) = M 0 (27) from hF _ _ (by unfold mSe; omega))
        have k23 := congrArg Int32.toInt (show M16 0 (28) = M 0 (28) from hF _ _ (by unfold mSe; omega))
        have hk63 := congrArg Int32.toInt (show M16 0 48 = Mc26 0 48 from (wr_off eM16 (by omega)).trans (wr_off eM13 (by omega)))
        refine ux_callv (va_runV ⟨hx, hb, hml, hown, hts⟩ (s_Md_note l D ad cA A TB hA hB  M16 hI (nI c21) (by omega)) (cwV 1 hts (tb_goodV ml_Md_373 im_Md_note se_Md_note ii_Md kt_Md_note) rfl rfl rfl (by decide +kernel) ⟨Nat.le_of_ble_eq_true rfl, Nat.le_of_ble_eq_true rfl⟩) (ux_preV (by decide) rfl rfl hP hK hi hN) rfl rfl hl.1 rfl (lv_room (Nat.le_of_ble_eq_true rfl)) d_Md_send_63 ⟨Nat.zero_le _, Nat.zero_le _⟩) hS (fun M25 H locs q26 hP hS => ?_)
        obtain ⟨hI, fq26, q26p⟩ := q26
        have hF := fr_call hF fq26 (fun a b q => by unfold mNo at q; unfold mSe; omega)
        refine lv_iinc (k := 2) (v := nI (k2 + 1)) hx hb d_Md_send_66 hl rfl (nI_add k2 1) (by decide) rfl (fun ls hl => ?_)
        have hl : lv_has ls 3 [(2, .int (nI (k2 + 1))), (0, .ref (ad 0)), (1, .int (nI k1))] := hl
        refine lv_goto hx hb d_Md_send_69 rfl ?_
        exact ih26 (40 - (k2 + 1)) (by omega) k1 (k2 + 1) M25 _ _ ls rfl (show k1 ≤ 40 from by first | omega | assumption | exact Or.inl rfl | exact Or.inr rfl | rfl | decide) (show (k1 : Int) ≤ (M 19 (8 * L + 1)).toInt from by first | omega | assumption | exact Or.inl rfl | exact Or.inr rfl | rfl | decide) (show (k2 + 1) ≤ 40 from by first | omega | assumption | exact Or.inl rfl | exact Or.inr rfl | rfl | decide) (show (M25 0 44).toInt + ((k1 : Int) - ((k2 + 1) : Int)) ≤ 40 from by first | (have := congrArg Int32.toInt (show M25 0 44 = M16 0 44 from fq26 _ _ (by unfold mNo; omega)); omega)) (show (M25 0 48).toInt ≤ (M 0 48).toInt + ((k2 + 1) : Int) from by first | (omega)) hP hI hF hS (lv_sub hl [1, 2, 0] rfl)
  refine lv_aload_n hx hb d_Md_send_0 rfl (lv_at hl 0 rfl) ?_
  refine lv_iconst (v := 1) hx hb d_Md_send_1 (by decide) ?_
  refine ux_calli (va_runV ⟨hx, hb, hml, hown, hts⟩ (s_Md_sizeOf l D ad cA A TB hA hB  M hI L hL (hlv) 1 (by omega)) (cwV 1 hts (tb_goodV ml_Md_159 im_Md_sizeOf se_Md_sizeOf ii_Md kt_Md_sizeOf) rfl rfl rfl (by decide +kernel) ⟨Nat.le_of_ble_eq_true rfl, Nat.le_of_ble_eq_true rfl⟩) (ux_preV (by decide) rfl rfl hP hK hi hN) rfl rfl hl.1 rfl (lv_room (Nat.le_of_ble_eq_true rfl)) d_Md_send_2 ⟨Nat.zero_le _, Nat.zero_le _⟩) hS (fun r27 M28 H locs q29 hP hS => ?_)
  obtain ⟨hI, fq29, q29p⟩ := q29
  rw [tN_eq fq29] at hP hI
  obtain ⟨c30, hc30, ec30⟩ := nat_of (x := M 19 (8 * L + 1)) (n := 200) (hI.1 _ _).1 (hI.1 _ _).2
  rw [ec30] at q29p
  subst q29p
  have tc30 : (M 19 (8 * L + 1)).toInt = (c30 : Int) := by rw [ec30]; exact nI_toInt (by omega)
  refine lv_istore_n hx hb d_Md_send_5 rfl hl (by decide) rfl (fun ls hl => ?_)
  have hl : lv_has ls 3 [(1, .int (nI c30)), (0, .ref (ad 0))] := hl
  refine lv_aload_n hx hb d_Md_send_6 rfl (lv_at hl 1 rfl) ?_
  refine ux_get (C := R_Md) (T := F_Md) (N := 50) hx hb hT in_Md hown hK hP (by decide) rfl rfl 44 (by decide) (hT _ fl_Md_129) rfl d_Md_send_7 ?_
  refine lv_topi (fun z32 hz32 => ?_)
  obtain ⟨c31, hc31, ec31⟩ := nat_of (x := M 0 44) (n := 40) (hI.1 0 44).1 (hI.1 0 44).2
  rw [ec31] at hz32
  rw [hz32]
  have tc31 : (M 0 44).toInt = (c31 : Int) := by rw [ec31]; exact nI_toInt (by omega)
  refine lv_iload_n hx hb d_Md_send_10 rfl (lv_at hl 0 rfl) ?_
  refine lv_iadd hx hb d_Md_send_11 ?_
  refine lv_topi (fun z33 hz33 => ?_)
  rw [show (nI c31) + (nI c30) = nI (c31 + c30) from nI_add c31 c30] at hz33
  rw [hz33]
  refine lv_bipush (v := 40) hx hb d_Md_send_12 (by decide) ?_
  refine lv_icmp_le hx hb d_Md_send_14 rfl (fun h34 => ?_) (fun h34 => ?_)
  · have g34 : ((c31 + c30 : Nat) : Int) ≤ 40 := by have q := Int32.le_iff_toInt_le.mp h34; rw [nI_toInt (n := c31 + c30) (by omega)] at q; exact q
    refine lv_iconst (v := 0) hx hb d_Md_send_24 (by decide) ?_
    refine lv_istore_n hx hb d_Md_send_25 rfl hl (by decide) rfl (fun ls hl => ?_)
    have hl : lv_has ls 3 [(2, .int 0), (1, .int (nI c30)), (0, .ref (ad 0))] := hl
    exact cut26 (40 - 0) c30 0 M _ _ ls rfl (show c30 ≤ 40 from by first | omega | assumption | exact Or.inl rfl | exact Or.inr rfl | rfl | decide) (show (c30 : Int) ≤ (M 19 (8 * L + 1)).toInt from by first | omega | assumption | exact Or.inl rfl | exact Or.inr rfl | rfl | decide) (show 0 ≤ 40 from by first | omega | assumption | exact Or.inl rfl | exact Or.inr rfl | rfl | decide) (show (M 0 44).toInt + ((c30 : Int) - (0 : Int)) ≤ 40 from by first | (omega)) (show (M 0 48).toInt ≤ (M 0 48).toInt + (0 : Int) from by first | (omega)) hP hI hF hS (lv_sub hl [2, 1, 0] rfl)
  · have g34 : ¬ (((c31 + c30 : Nat) : Int) ≤ 40) := fun q => h34 (Int32.le_iff_toInt_le.mpr (by rw [nI_toInt (n := c31 + c30) (by omega)]; exact q))
    refine lv_aload_n hx hb d_Md_send_17 rfl (lv_at hl 1 rfl) ?_
    refine lv_bipush (v := 7) hx hb d_Md_send_18 (by decide) ?_
    refine ux_callv (va_runV ⟨hx, hb, hml, hown, hts⟩ (s_Md_error l D ad cA A TB hA hB  M hI 7) (cwV 1 hts (tb_goodV ml_Md_166 im_Md_error se_Md_error ii_Md kt_Md_error) rfl rfl rfl (by decide +kernel) ⟨Nat.le_of_ble_eq_true rfl, Nat.le_of_ble_eq_true rfl⟩) (ux_preV (by decide) rfl rfl hP hK hi hN) rfl rfl hl.1 rfl (lv_room (Nat.le_of_ble_eq_true rfl)) d_Md_send_20 ⟨Nat.zero_le _, Nat.zero_le _⟩) hS (fun M36 H locs q37 hP hS => ?_)
    obtain ⟨hI, fq37, q37p⟩ := q37
    have hF := fr_call hF fq37 (fun a b q => by unfold mEr at q; unfold mSe; omega)
    exact W.vret hx hb hr (fun t ht hW => ⟨⟨M36, rfl, ⟨hI, hF, (by refine ⟨by first | assumption | exact (And.left (by assumption)), ?_⟩; first | exact Or.inl (And.right (by assumption)) | exact Or.inr (And.right (by assumption)))⟩, by unfold ux_E; rw [ht]; exact hP⟩, hS.F ht⟩) hS.2.2 d_Md_send_23
