/-! The reference, safe: names, letters read, results; written by wip/gen/ref.py -/
def nmK (M : ux_M) (i : Nat) (fs : Int32) : Prop := (M 19 i).toInt = 1 ∧ fs.toInt ≤ (chv M i 0).toInt ∧ (chv M i 0).toInt < fs.toInt + 26

set_option maxHeartbeats 1600000 in
set_option maxRecDepth 100000 in
theorem s_Md_name (l : Launch) (D : va_G) (ad : Nat → Nat) (cA : Nat → ClassId) (A TB : Nat) (hA : A ≤ 100000000) (hB : TB ≤ 2000000000) (M : ux_M) (hI : IvM A TB M) (L : Nat) (hL : L ≤ 7) (hlv : M 0 10 = nI L) (w : Nat) (hw : w ≤ 8) (fs : Int32) (hf0 : 1 ≤ fs.toInt) (hf1 : fs.toInt ≤ 1000) : Met l y_Md_name w_Md_name ({ frames := 2, cells := 0, slots := 0, locals := 44 }) (va_Pc [.ref (ad 0), .int (nI w), .int fs] (ux_B D shM KM ad cA M)) (va_Qi (fun r M1 => IvM A TB M1 ∧ (∀ a b, ¬ tN a b → M1 a b = M a b) ∧ (-1 ≤ r.toInt ∧ r.toInt ≤ 25 ∧ (nmK M (8 * L + w) fs ↔ 0 ≤ r.toInt))) (ux_E D shM KM ad cA) (ux_A KM ad)) 0 0 (ux_A KM ad) := by
  refine Met.ofW (cc := b_Md_name) (maxL := 4) (ret := (some .int)) (by decide) rfl ?_
  intro p e s m args below meth c s₁ B hml hv
  obtain ⟨rfl, hP, hK, hi, hN⟩ := hv
  have hx := B.exec
  have hb := B.bytes
  have hr := B.returns
  have hts := atoms_spec (ws := w_Md_name) B.pre
  have hown : s.vm.findClass R_Md = some m.cls := findClass_of_methodNamed B.named
  have hlocks := B.notSynchronized
  have hT : ∀ w ∈ tb, w.before _ s = true := fun w h => hts w (List.mem_cons_of_mem _ h)
  have hS : va_S (ux_A KM ad) s.heap s.heap [] := va_S.rf
  have hl := lv_entry ([.ref (ad 0), .int (nI w), .int fs]) (n := 4) (Nat.le_of_ble_eq_true rfl)
  rw [lg_entry_eq]
  generalize (lg_sl ([.ref (ad 0), .int (nI w), .int fs]) ++ List.replicate (4 - (lg_sl ([.ref (ad 0), .int (nI w), .int fs])).length) Slot.unset).toArray = ls at hl ⊢
  have hl : lv_has ls 4 [(0, .ref (ad 0)), (1, .int (nI w)), (2, .int fs)] := hl
  have hF : ∀ a b, ¬ tN a b → M a b = M a b := fun _ _ _ => rfl
  refine lv_aload_n hx hb d_Md_name_0 rfl (lv_at hl 0 rfl) ?_
  refine lv_iload_n hx hb d_Md_name_1 rfl (lv_at hl 1 rfl) ?_
  refine ux_calli (va_runV ⟨hx, hb, hml, hown, hts⟩ (s_Md_sizeOf l D ad cA A TB hA hB  M hI L hL (hlv) w (by omega)) (cwV 1 hts (tb_goodV ml_Md_159 im_Md_sizeOf se_Md_sizeOf ii_Md kt_Md_sizeOf) rfl rfl rfl (by decide +kernel) ⟨Nat.le_of_ble_eq_true rfl, Nat.le_of_ble_eq_true rfl⟩) (ux_preV (by decide) rfl rfl hP hK hi hN) rfl rfl hl.1 rfl (lv_room (Nat.le_of_ble_eq_true rfl)) d_Md_name_2 ⟨Nat.zero_le _, Nat.zero_le _⟩) hS (fun r1 M2 H locs q3 hP hS => ?_)
  obtain ⟨hI, fq3, q3p⟩ := q3
  rw [tN_eq fq3] at hP hI
  obtain ⟨c4, hc4, ec4⟩ := nat_of (x := M 19 (8 * L + w)) (n := 200) (hI.1 _ _).1 (hI.1 _ _).2
  rw [ec4] at q3p
  subst q3p
  have tc4 : (M 19 (8 * L + w)).toInt = (c4 : Int) := by rw [ec4]; exact nI_toInt (by omega)
  refine lv_iconst (v := 1) hx hb d_Md_name_5 (by decide) ?_
  refine lv_icmp_ne hx hb d_Md_name_6 rfl (fun h5 => ?_) (fun h5 => ?_)
  · have g5 : ¬ (((c4 : Nat) : Int) = 1) := fun q => h5 (Int32.toInt_inj.mp (by rw [nI_toInt (n := c4) (by omega)]; exact q))
    refine lv_iconst (v := 0) hx hb d_Md_name_18 (by decide) ?_
    refine lv_istore_n hx hb d_Md_name_19 rfl hl (by decide) rfl (fun ls hl => ?_)
    have hl : lv_has ls 4 [(3, .int 0), (0, .ref (ad 0)), (1, .int (nI w)), (2, .int fs)] := hl
    refine lv_iload_n hx hb d_Md_name_20 rfl (lv_at hl 0 rfl) ?_
    refine lv_iload_n hx hb d_Md_name_21 rfl (lv_at hl 3 rfl) ?_
    refine lv_icmp_lt hx hb d_Md_name_22 rfl (fun h6 => ?_) (fun h6 => ?_)
    · have g6 : 0 < fs.toInt := Int32.lt_iff_toInt_lt.mp h6
      have u6 := ti_hi fs
      refine lv_iconst (v := (-1)) hx hb d_Md_name_39 (by decide) ?_
      exact W.iret (v := -1) hx hb hr (fun t ht hW => ⟨⟨-1, M, rfl, ⟨hI, hF, (by have hm1 : (-1 : Int32).toInt = -1 := rfl; exact ⟨by omega, by omega, ⟨fun q => by { unfold nmK at q; omega }, fun q => by { unfold nmK; omega }⟩⟩)⟩, by unfold ux_E; rw [ht]; exact hP⟩, hS.F ht⟩) hS.2.2 d_Md_name_40
    · have g6 : ¬ (0 < fs.toInt) := fun q => h6 (Int32.lt_iff_toInt_lt.mpr q)
      have w6 := ti_lo fs
      refine lv_iload_n hx hb d_Md_name_25 rfl (lv_at hl 0 rfl) ?_
      refine lv_iload_n hx hb d_Md_name_26 rfl (lv_at hl 3 rfl) ?_
      refine lv_bipush (v := 26) hx hb d_Md_name_27 (by decide) ?_
      refine lv_iadd hx hb d_Md_name_29 ?_
      refine lv_topi (fun x7 ex7 => ?_)
      try have fx7 : x7.toInt = fs.toInt + 26 := by rw [ex7, ti_add (by (try rw [show (26 : Int32).toInt = 26 from rfl]); omega) (by (try rw [show (26 : Int32).toInt = 26 from rfl]); omega)]; (try rw [show (26 : Int32).toInt = 26 from rfl]); first | done | rfl | omega
      refine lv_icmp_ge hx hb d_Md_name_30 rfl (fun h8 => ?_) (fun h8 => ?_)
      · have g8 : x7.toInt ≤ 0 := Int32.le_iff_toInt_le.mp h8
        have w8 := ti_lo x7
        refine lv_iconst (v := (-1)) hx hb d_Md_name_39 (by decide) ?_
        exact W.iret (v := -1) hx hb hr (fun t ht hW => ⟨⟨-1, M, rfl, ⟨hI, hF, (by have hm1 : (-1 : Int32).toInt = -1 := rfl; exact ⟨by omega, by omega, ⟨fun q => by { unfold nmK at q; omega }, fun q => by { unfold nmK; omega }⟩⟩)⟩, by unfold ux_E; rw [ht]; exact hP⟩, hS.F ht⟩) hS.2.2 d_Md_name_40
      · have g8 : ¬ (x7.toInt ≤ 0) := fun q => h8 (Int32.le_iff_toInt_le.mpr q)
        have u8 := ti_hi x7
        refine lv_iload_n hx hb d_Md_name_33 rfl (lv_at hl 0 rfl) ?_
        refine lv_iload_n hx hb d_Md_name_34 rfl (lv_at hl 3 rfl) ?_
        refine lv_isub hx hb d_Md_name_35 ?_
        refine lv_topi (fun x9 ex9 => ?_)
        try have fx9 : x9.toInt = 0 - fs.toInt := by rw [ex9, ti_sub (by (try rw [show (0 : Int32).toInt = 0 from rfl]); omega) (by (try rw [show (0 : Int32).toInt = 0 from rfl]); omega)]; (try rw [show (0 : Int32).toInt = 0 from rfl]); first | done | rfl | omega
        refine lv_goto hx hb d_Md_name_36 rfl ?_
        exact W.iret (v := x9) hx hb hr (fun t ht hW => ⟨⟨x9, M, rfl, ⟨hI, hF, (by exact ⟨by omega, by omega, ⟨fun q => by { unfold nmK at q; omega }, fun q => by { unfold nmK; omega }⟩⟩)⟩, by unfold ux_E; rw [ht]; exact hP⟩, hS.F ht⟩) hS.2.2 d_Md_name_40
  · have g5 : ((c4 : Nat) : Int) = 1 := by have q := congrArg Int32.toInt h5; rw [nI_toInt (n := c4) (by omega)] at q; exact q
    refine lv_aload_n hx hb d_Md_name_9 rfl (lv_at hl 0 rfl) ?_
    refine lv_iload_n hx hb d_Md_name_10 rfl (lv_at hl 1 rfl) ?_
    refine lv_iconst (v := 0) hx hb d_Md_name_11 (by decide) ?_
    refine ux_calli (va_runV ⟨hx, hb, hml, hown, hts⟩ (s_Md_charOf l D ad cA A TB hA hB  M hI L hL (hlv) w 0 (by omega) (by omega)) (cwV 2 hts (tb_goodV ml_Md_162 im_Md_charOf se_Md_charOf ii_Md kt_Md_charOf) rfl rfl rfl (by decide +kernel) ⟨Nat.le_of_ble_eq_true rfl, Nat.le_of_ble_eq_true rfl⟩) (ux_preV (by decide) rfl rfl hP hK hi hN) rfl rfl hl.1 rfl (lv_room (Nat.le_of_ble_eq_true rfl)) d_Md_name_12 ⟨Nat.zero_le _, Nat.zero_le _⟩) hS (fun r10 M11 H locs q12 hP hS => ?_)
    obtain ⟨hI, fq12, q12p⟩ := q12
    rw [tN_eq fq12] at hP hI
    obtain ⟨c13, hc13, ec13⟩ := nat_of (x := r10) (n := 65535) q12p.1.1 q12p.1.2
    have vc13 := q12p.2
    subst ec13
    have tc13 : (nI c13).toInt = (c13 : Int) := nI_toInt (by omega)
    refine lv_goto hx hb d_Md_name_15 rfl ?_
    refine lv_istore_n hx hb d_Md_name_19 rfl hl (by decide) rfl (fun ls hl => ?_)
    have hl : lv_has ls 4 [(3, .int (nI c13)), (0, .ref (ad 0)), (1, .int (nI w)), (2, .int fs)] := hl
    refine lv_iload_n hx hb d_Md_name_20 rfl (lv_at hl 0 rfl) ?_
    refine lv_iload_n hx hb d_Md_name_21 rfl (lv_at hl 3 rfl) ?_
    refine lv_icmp_lt hx hb d_Md_name_22 rfl (fun h14 => ?_) (fun h14 => ?_)
    · have g14 : ((c13 : Nat) : Int) < fs.toInt := by have q := Int32.lt_iff_toInt_lt.mp h14; rw [nI_toInt (n := c13) (by omega)] at q; exact q
      have u14 := ti_hi fs
      refine lv_iconst (v := (-1)) hx hb d_Md_name_39 (by decide) ?_
      exact W.iret (v := -1) hx hb hr (fun t ht hW => ⟨⟨-1, M, rfl, ⟨hI, hF, (by have hm1 : (-1 : Int32).toInt = -1 := rfl; have hch : (chv M (8 * L + w) 0).toInt = (c13 : Int) := by { rw [← vc13]; exact nI_toInt (by omega) }; exact ⟨by omega, by omega, ⟨fun q => by { unfold nmK at q; omega }, fun q => by { unfold nmK; omega }⟩⟩)⟩, by unfold ux_E; rw [ht]; exact hP⟩, hS.F ht⟩) hS.2.2 d_Md_name_40
    · have g14 : ¬ (((c13 : Nat) : Int) < fs.toInt) := fun q => h14 (Int32.lt_iff_toInt_lt.mpr (by rw [nI_toInt (n := c13) (by omega)]; exact q))
      have w14 := ti_lo fs
      refine lv_iload_n hx hb d_Md_name_25 rfl (lv_at hl 0 rfl) ?_
      refine lv_iload_n hx hb d_Md_name_26 rfl (lv_at hl 3 rfl) ?_
      refine lv_bipush (v := 26) hx hb d_Md_name_27 (by decide) ?_
      refine lv_iadd hx hb d_Md_name_29 ?_
      refine lv_topi (fun x15 ex15 => ?_)
      try have fx15 : x15.toInt = fs.toInt + 26 := by rw [ex15, ti_add (by (try rw [show (26 : Int32).toInt = 26 from rfl]); omega) (by (try rw [show (26 : Int32).toInt = 26 from rfl]); omega)]; (try rw [show (26 : Int32).toInt = 26 from rfl]); first | done | rfl | omega
      refine lv_icmp_ge hx hb d_Md_name_30 rfl (fun h16 => ?_) (fun h16 => ?_)
      · have g16 : x15.toInt ≤ ((c13 : Nat) : Int) := by have q := Int32.le_iff_toInt_le.mp h16; rw [nI_toInt (n := c13) (by omega)] at q; exact q
        have w16 := ti_lo x15
        refine lv_iconst (v := (-1)) hx hb d_Md_name_39 (by decide) ?_
        exact W.iret (v := -1) hx hb hr (fun t ht hW => ⟨⟨-1, M, rfl, ⟨hI, hF, (by have hm1 : (-1 : Int32).toInt = -1 := rfl; have hch : (chv M (8 * L + w) 0).toInt = (c13 : Int) := by { rw [← vc13]; exact nI_toInt (by omega) }; exact ⟨by omega, by omega, ⟨fun q => by { unfold nmK at q; omega }, fun q => by { unfold nmK; omega }⟩⟩)⟩, by unfold ux_E; rw [ht]; exact hP⟩, hS.F ht⟩) hS.2.2 d_Md_name_40
      · have g16 : ¬ (x15.toInt ≤ ((c13 : Nat) : Int)) := fun q => h16 (Int32.le_iff_toInt_le.mpr (by rw [nI_toInt (n := c13) (by omega)]; exact q))
        have u16 := ti_hi x15
        refine lv_iload_n hx hb d_Md_name_33 rfl (lv_at hl 0 rfl) ?_
        refine lv_iload_n hx hb d_Md_name_34 rfl (lv_at hl 3 rfl) ?_
        refine lv_isub hx hb d_Md_name_35 ?_
        refine lv_topi (fun x17 ex17 => ?_)
        try have fx17 : x17.toInt = ((c13 : Nat) : Int) - fs.toInt := by rw [ex17, ti_sub (by (rw [nI_toInt (n := c13) (by omega)]); omega) (by (rw [nI_toInt (n := c13) (by omega)]); omega)]; (rw [nI_toInt (n := c13) (by omega)]); first | done | rfl | omega
        refine lv_goto hx hb d_Md_name_36 rfl ?_
        exact W.iret (v := x17) hx hb hr (fun t ht hW => ⟨⟨x17, M, rfl, ⟨hI, hF, (by have hch : (chv M (8 * L + w) 0).toInt = (c13 : Int) := by { rw [← vc13]; exact nI_toInt (by omega) }; exact ⟨by omega, by omega, ⟨fun q => by { unfold nmK at q; omega }, fun q => by { unfold nmK; omega }⟩⟩)⟩, by unfold ux_E; rw [ht]; exact hP⟩, hS.F ht⟩) hS.2.2 d_Md_name_40

set_option maxHeartbeats 1600000 in
set_option maxRecDepth 100000 in
theorem s_Md_variable (l : Launch) (D : va_G) (ad : Nat → Nat) (cA : Nat → ClassId) (A TB : Nat) (hA : A ≤ 100000000) (hB : TB ≤ 2000000000) (M : ux_M) (hI : IvM A TB M) (L : Nat) (hL : L ≤ 7) (hlv : M 0 10 = nI L) (nm : Nat) (hnm : nm ≤ 25) : Met l y_Md_variable w_Md_variable ({ frames := 0, cells := 0, slots := 0, locals := 0 }) (va_Pc [.ref (ad 0), .int (nI nm)] (ux_B D shM KM ad cA M)) (va_Qi (fun r M1 => IvM A TB M1 ∧ (∀ a b, ¬ tN a b → M1 a b = M a b) ∧ (0 ≤ r.toInt ∧ r.toInt ≤ 207)) (ux_E D shM KM ad cA) (ux_A KM ad)) 0 0 (ux_A KM ad) := by
  refine Met.ofW (cc := b_Md_variable) (maxL := 3) (ret := (some .int)) (by decide) rfl ?_
  intro p e s m args below meth c s₁ B hml hv
  obtain ⟨rfl, hP, hK, hi, hN⟩ := hv
  have hx := B.exec
  have hb := B.bytes
  have hr := B.returns
  have hts := atoms_spec (ws := w_Md_variable) B.pre
  have hown : s.vm.findClass R_Md = some m.cls := findClass_of_methodNamed B.named
  have hlocks := B.notSynchronized
  have hT : ∀ w ∈ tb, w.before _ s = true := fun w h => hts w (List.mem_cons_of_mem _ h)
  have hS : va_S (ux_A KM ad) s.heap s.heap [] := va_S.rf
  have hl := lv_entry ([.ref (ad 0), .int (nI nm)]) (n := 3) (Nat.le_of_ble_eq_true rfl)
  rw [lg_entry_eq]
  generalize (lg_sl ([.ref (ad 0), .int (nI nm)]) ++ List.replicate (3 - (lg_sl ([.ref (ad 0), .int (nI nm)])).length) Slot.unset).toArray = ls at hl ⊢
  have hl : lv_has ls 3 [(0, .ref (ad 0)), (1, .int (nI nm))] := hl
  have hF : ∀ a b, ¬ tN a b → M a b = M a b := fun _ _ _ => rfl
  refine lv_aload_n hx hb d_Md_variable_0 rfl (lv_at hl 0 rfl) ?_
  refine ux_get (C := R_Md) (T := F_Md) (N := 50) hx hb hT in_Md hown hK hP (by decide) rfl rfl 14 (by decide) (hT _ fl_Md_49) rfl d_Md_variable_1 ?_
  refine lv_aload_n hx hb d_Md_variable_4 rfl (lv_at hl 0 rfl) ?_
  refine ux_get (C := R_Md) (T := F_Md) (N := 50) hx hb hT in_Md hown hK hP (by decide) rfl rfl 10 (by decide) (hT _ fl_Md_36) rfl d_Md_variable_5 ?_
  refine lv_topi (fun z1 hz1 => ?_)
  rw [show M 0 10 = nI L from hlv] at hz1
  rw [hz1]
  refine ux_iald hx hb hK hP (by decide) rfl (vp_in_nI (show L < 8 by omega) (by decide)) d_Md_variable_8 ?_
  rw [nI_clamp (n := L) (by omega)]
  refine lv_topi (fun z3 hz3 => ?_)
  obtain ⟨c2, hc2, ec2⟩ := nat_of (x := M 12 L) (n := 7) (hI.1 12 L).1 (hI.1 12 L).2
  rw [ec2] at hz3
  rw [hz3]
  have tc2 : (M 12 L).toInt = (c2 : Int) := by rw [ec2]; exact nI_toInt (by omega)
  refine lv_istore_n hx hb d_Md_variable_9 rfl hl (by decide) rfl (fun ls hl => ?_)
  have hl : lv_has ls 3 [(2, .int (nI c2)), (0, .ref (ad 0)), (1, .int (nI nm))] := hl
  refine lv_iload_n hx hb d_Md_variable_10 rfl (lv_at hl 0 rfl) ?_
  refine lv_if_le hx hb d_Md_variable_11 rfl (fun h4 => ?_) (fun h4 => ?_)
  · have g4 : ((c2 : Nat) : Int) ≤ 0 := by have q := Int32.le_iff_toInt_le.mp h4; rw [nI_toInt (n := c2) (by omega)] at q; exact q
    refine lv_iload_n hx hb d_Md_variable_37 rfl (lv_at hl 2 rfl) ?_
    exact W.iret (v := nI nm) hx hb hr (fun t ht hW => ⟨⟨nI nm, M, rfl, ⟨hI, hF, (by rw [nI_toInt (n := nm) (by omega)]; omega)⟩, by unfold ux_E; rw [ht]; exact hP⟩, hS.F ht⟩) hS.2.2 d_Md_variable_38
  · have g4 : ¬ (((c2 : Nat) : Int) ≤ 0) := fun q => h4 (Int32.le_iff_toInt_le.mpr (by rw [nI_toInt (n := c2) (by omega)]; exact q))
    refine lv_aload_n hx hb d_Md_variable_14 rfl (lv_at hl 1 rfl) ?_
    refine ux_get (C := R_Md) (T := F_Md) (N := 50) hx hb hT in_Md hown hK hP (by decide) rfl rfl 5 (by decide) (hT _ fl_Md_20) rfl d_Md_variable_15 ?_
    refine lv_bipush (v := 26) hx hb d_Md_variable_18 (by decide) ?_
    refine lv_iload_n hx hb d_Md_variable_20 rfl (lv_at hl 0 rfl) ?_
    refine lv_imul hx hb d_Md_variable_21 ?_
    refine lv_topi (fun z5 hz5 => ?_)
    rw [show (26 : Int32) * (nI c2) = nI (26 * c2) from pk_mul 26 c2] at hz5
    rw [hz5]
    refine lv_iload_n hx hb d_Md_variable_22 rfl (lv_at hl 2 rfl) ?_
    refine lv_iadd hx hb d_Md_variable_23 ?_
    refine lv_topi (fun z6 hz6 => ?_)
    rw [show (nI (26 * c2)) + (nI nm) = nI ((26 * c2) + nm) from nI_add (26 * c2) nm] at hz6
    rw [hz6]
    refine ux_zald hx hb hK hP (by decide) rfl (vp_in_nI (show (26 * c2) + nm < 208 by omega) (by decide)) d_Md_variable_24 ?_
    rw [nI_clamp (n := (26 * c2) + nm) (by omega)]
    refine lv_if_ne hx hb d_Md_variable_25 rfl (fun h7 => ?_) (fun h7 => ?_)
    · have g7 : ¬ ((M 4 ((26 * c2) + nm)).toInt = 0) := fun q => h7 (Int32.toInt_inj.mp q)
      refine lv_iload_n hx hb d_Md_variable_37 rfl (lv_at hl 2 rfl) ?_
      exact W.iret (v := nI nm) hx hb hr (fun t ht hW => ⟨⟨nI nm, M, rfl, ⟨hI, hF, (by rw [nI_toInt (n := nm) (by omega)]; omega)⟩, by unfold ux_E; rw [ht]; exact hP⟩, hS.F ht⟩) hS.2.2 d_Md_variable_38
    · have g7 : (M 4 ((26 * c2) + nm)).toInt = 0 := congrArg Int32.toInt h7
      refine lv_bipush (v := 26) hx hb d_Md_variable_28 (by decide) ?_
      refine lv_iload_n hx hb d_Md_variable_30 rfl (lv_at hl 0 rfl) ?_
      refine lv_imul hx hb d_Md_variable_31 ?_
      refine lv_topi (fun z8 hz8 => ?_)
      rw [show (26 : Int32) * (nI c2) = nI (26 * c2) from pk_mul 26 c2] at hz8
      rw [hz8]
      refine lv_iload_n hx hb d_Md_variable_32 rfl (lv_at hl 2 rfl) ?_
      refine lv_iadd hx hb d_Md_variable_33 ?_
      refine lv_topi (fun z9 hz9 => ?_)
      rw [show (nI (26 * c2)) + (nI nm) = nI ((26 * c2) + nm) from nI_add (26 * c2) nm] at hz9
      rw [hz9]
      refine lv_goto hx hb d_Md_variable_34 rfl ?_
      exact W.iret (v := nI ((26 * c2) + nm)) hx hb hr (fun t ht hW => ⟨⟨nI ((26 * c2) + nm), M, rfl, ⟨hI, hF, (by rw [nI_toInt (n := (26 * c2) + nm) (by omega)]; omega)⟩, by unfold ux_E; rw [ht]; exact hP⟩, hS.F ht⟩) hS.2.2 d_Md_variable_38

set_option maxHeartbeats 1600000 in
set_option maxRecDepth 100000 in
theorem s_Md_over (l : Launch) (D : va_G) (ad : Nat → Nat) (cA : Nat → ClassId) (A TB : Nat) (hA : A ≤ 100000000) (hB : TB ≤ 2000000000) (M : ux_M) (hI : IvM A TB M) (L : Nat) (hL : L ≤ 7) (hlv : M 0 10 = nI L) : Met l y_Md_over w_Md_over ({ frames := 0, cells := 0, slots := 0, locals := 0 }) (va_Pc [.ref (ad 0)] (ux_B D shM KM ad cA M)) (va_Qi (fun r M1 => IvM A TB M1 ∧ (∀ a b, ¬ tN a b → M1 a b = M a b) ∧ ((r = 0 ∧ (M 9 L).toInt < (M 10 L).toInt) ∨ (r = 1 ∧ (M 9 L).toInt ≥ (M 10 L).toInt))) (ux_E D shM KM ad cA) (ux_A KM ad)) 0 0 (ux_A KM ad) := by
  refine Met.ofW (cc := b_Md_over) (maxL := 1) (ret := (some .boolean)) (by decide) rfl ?_
  intro p e s m args below meth c s₁ B hml hv
  obtain ⟨rfl, hP, hK, hi, hN⟩ := hv
  have hx := B.exec
  have hb := B.bytes
  have hr := B.returns
  have hts := atoms_spec (ws := w_Md_over) B.pre
  have hown : s.vm.findClass R_Md = some m.cls := findClass_of_methodNamed B.named
  have hlocks := B.notSynchronized
  have hT : ∀ w ∈ tb, w.before _ s = true := fun w h => hts w (List.mem_cons_of_mem _ h)
  have hS : va_S (ux_A KM ad) s.heap s.heap [] := va_S.rf
  have hl := lv_entry ([.ref (ad 0)]) (n := 1) (Nat.le_of_ble_eq_true rfl)
  rw [lg_entry_eq]
  generalize (lg_sl ([.ref (ad 0)]) ++ List.replicate (1 - (lg_sl ([.ref (ad 0)])).length) Slot.unset).toArray = ls at hl ⊢
  have hl : lv_has ls 1 [(0, .ref (ad 0))] := hl
  have hF : ∀ a b, ¬ tN a b → M a b = M a b := fun _ _ _ => rfl
  refine lv_aload_n hx hb d_Md_over_0 rfl (lv_at hl 0 rfl) ?_
  refine ux_get (C := R_Md) (T := F_Md) (N := 50) hx hb hT in_Md hown hK hP (by decide) rfl rfl 11 (by decide) (hT _ fl_Md_40) rfl d_Md_over_1 ?_
  refine lv_aload_n hx hb d_Md_over_4 rfl (lv_at hl 0 rfl) ?_
  refine ux_get (C := R_Md) (T := F_Md) (N := 50) hx hb hT in_Md hown hK hP (by decide) rfl rfl 10 (by decide) (hT _ fl_Md_36) rfl d_Md_over_5 ?_
  refine lv_topi (fun z1 hz1 => ?_)
  rw [show M 0 10 = nI L from hlv] at hz1
  rw [hz1]
  refine ux_iald hx hb hK hP (by decide) rfl (vp_in_nI (show L < 8 by omega) (by decide)) d_Md_over_8 ?_
  rw [nI_clamp (n := L) (by omega)]
  refine lv_topi (fun z3 hz3 => ?_)
  obtain ⟨c2, hc2, ec2⟩ := nat_of (x := M 9 L) (n := A) (hI.1 9 L).1 (hI.1 9 L).2
  rw [ec2] at hz3
  rw [hz3]
  have tc2 : (M 9 L).toInt = (c2 : Int) := by rw [ec2]; exact nI_toInt (by omega)
  refine lv_aload_n hx hb d_Md_over_9 rfl (lv_at hl 0 rfl) ?_
  refine ux_get (C := R_Md) (T := F_Md) (N := 50) hx hb hT in_Md hown hK hP (by decide) rfl rfl 12 (by decide) (hT _ fl_Md_43) rfl d_Md_over_10 ?_
  refine lv_aload_n hx hb d_Md_over_13 rfl (lv_at hl 0 rfl) ?_
  refine ux_get (C := R_Md) (T := F_Md) (N := 50) hx hb hT in_Md hown hK hP (by decide) rfl rfl 10 (by decide) (hT _ fl_Md_36) rfl d_Md_over_14 ?_
  refine lv_topi (fun z4 hz4 => ?_)
  rw [show M 0 10 = nI L from hlv] at hz4
  rw [hz4]
  refine ux_iald hx hb hK hP (by decide) rfl (vp_in_nI (show L < 8 by omega) (by decide)) d_Md_over_17 ?_
  rw [nI_clamp (n := L) (by omega)]
  refine lv_topi (fun z6 hz6 => ?_)
  obtain ⟨c5, hc5, ec5⟩ := nat_of (x := M 10 L) (n := 200) (hI.1 10 L).1 (hI.1 10 L).2
  rw [ec5] at hz6
  rw [hz6]
  have tc5 : (M 10 L).toInt = (c5 : Int) := by rw [ec5]; exact nI_toInt (by omega)
  refine lv_icmp_lt hx hb d_Md_over_18 rfl (fun h7 => ?_) (fun h7 => ?_)
  · have g7 : ((c2 : Nat) : Int) < ((c5 : Nat) : Int) := by have q := Int32.lt_iff_toInt_lt.mp h7; rw [nI_toInt (n := c2) (by omega), nI_toInt (n := c5) (by omega)] at q; exact q
    refine lv_iconst (v := 0) hx hb d_Md_over_25 (by decide) ?_
    exact W.zret (v := 0) hx hb hr (rfl) (fun t ht hW => ⟨⟨0, M, rfl, ⟨hI, hF, Or.inl ⟨rfl, by omega⟩⟩, by unfold ux_E; rw [ht]; exact hP⟩, hS.F ht⟩) hS.2.2 d_Md_over_26
  · have g7 : ¬ (((c2 : Nat) : Int) < ((c5 : Nat) : Int)) := fun q => h7 (Int32.lt_iff_toInt_lt.mpr (by rw [nI_toInt (n := c2) (by omega), nI_toInt (n := c5) (by omega)]; exact q))
    refine lv_iconst (v := 1) hx hb d_Md_over_21 (by decide) ?_
    refine lv_goto hx hb d_Md_over_22 rfl ?_
    exact W.zret (v := 1) hx hb hr (rfl) (fun t ht hW => ⟨⟨1, M, rfl, ⟨hI, hF, Or.inr ⟨rfl, by omega⟩⟩, by unfold ux_E; rw [ht]; exact hP⟩, hS.F ht⟩) hS.2.2 d_Md_over_26

set_option maxHeartbeats 1600000 in
set_option maxRecDepth 100000 in
theorem s_Md_here (l : Launch) (D : va_G) (ad : Nat → Nat) (cA : Nat → ClassId) (A TB : Nat) (hA : A ≤ 100000000) (hB : TB ≤ 2000000000) (M : ux_M) (hI : IvM A TB M) (L : Nat) (hL : L ≤ 7) (hlv : M 0 10 = nI L) : Met l y_Md_here w_Md_here ({ frames := 1, cells := 0, slots := 0, locals := 20 }) (va_Pc [.ref (ad 0)] (ux_B D shM KM ad cA M)) (va_Qi (fun r M1 => IvM A TB M1 ∧ (∀ a b, ¬ tN a b → M1 a b = M a b) ∧ (0 ≤ r.toInt ∧ r.toInt ≤ 65535)) (ux_E D shM KM ad cA) (ux_A KM ad)) 0 0 (ux_A KM ad) := by
  refine Met.ofW (cc := b_Md_here) (maxL := 1) (ret := (some .char)) (by decide) rfl ?_
  intro p e s m args below meth c s₁ B hml hv
  obtain ⟨rfl, hP, hK, hi, hN⟩ := hv
  have hx := B.exec
  have hb := B.bytes
  have hr := B.returns
  have hts := atoms_spec (ws := w_Md_here) B.pre
  have hown : s.vm.findClass R_Md = some m.cls := findClass_of_methodNamed B.named
  have hlocks := B.notSynchronized
  have hT : ∀ w ∈ tb, w.before _ s = true := fun w h => hts w (List.mem_cons_of_mem _ h)
  have hS : va_S (ux_A KM ad) s.heap s.heap [] := va_S.rf
  have hl := lv_entry ([.ref (ad 0)]) (n := 1) (Nat.le_of_ble_eq_true rfl)
  rw [lg_entry_eq]
  generalize (lg_sl ([.ref (ad 0)]) ++ List.replicate (1 - (lg_sl ([.ref (ad 0)])).length) Slot.unset).toArray = ls at hl ⊢
  have hl : lv_has ls 1 [(0, .ref (ad 0))] := hl
  have hF : ∀ a b, ¬ tN a b → M a b = M a b := fun _ _ _ => rfl
  refine lv_aload_n hx hb d_Md_here_0 rfl (lv_at hl 0 rfl) ?_
  refine ux_calli (va_runV ⟨hx, hb, hml, hown, hts⟩ (s_Md_over l D ad cA A TB hA hB  M hI L hL (hlv)) (cwV 0 hts (tb_goodV ml_Md_176 im_Md_over se_Md_over ii_Md kt_Md_over) rfl rfl rfl (by decide +kernel) ⟨Nat.le_of_ble_eq_true rfl, Nat.le_of_ble_eq_true rfl⟩) (ux_preV (by decide) rfl rfl hP hK hi hN) rfl rfl hl.1 rfl (lv_room (Nat.le_of_ble_eq_true rfl)) d_Md_here_1 ⟨Nat.zero_le _, Nat.zero_le _⟩) hS (fun r1 M2 H locs q3 hP hS => ?_)
  obtain ⟨hI, fq3, q3p⟩ := q3
  rw [tN_eq fq3] at hP hI
  have q3i : (r1.toInt = 0 ∧ (M 9 L).toInt < (M 10 L).toInt) ∨ (r1.toInt = 1 ∧ (M 9 L).toInt ≥ (M 10 L).toInt) := by rcases q3p with ⟨q, z⟩ | ⟨q, z⟩ <;> rw [q] <;> first | exact Or.inl ⟨rfl, z⟩ | exact Or.inr ⟨rfl, z⟩
  have q3j : (M 10 L).toInt ≤ 200 := (hI.1 10 L).2
  refine lv_if_eq hx hb d_Md_here_4 rfl (fun h4 => ?_) (fun h4 => ?_)
  · have g4 : r1.toInt = 0 := congrArg Int32.toInt h4
    refine lv_aload_n hx hb d_Md_here_11 rfl (lv_at hl 0 rfl) ?_
    refine ux_get (C := R_Md) (T := F_Md) (N := 50) hx hb hT in_Md hown hK hP (by decide) rfl rfl 0 (by decide) (hT _ fl_Md_7) rfl d_Md_here_12 ?_
    refine lv_aload_n hx hb d_Md_here_15 rfl (lv_at hl 0 rfl) ?_
    refine ux_get (C := R_Md) (T := F_Md) (N := 50) hx hb hT in_Md hown hK hP (by decide) rfl rfl 11 (by decide) (hT _ fl_Md_40) rfl d_Md_here_16 ?_
    refine lv_aload_n hx hb d_Md_here_19 rfl (lv_at hl 0 rfl) ?_
    refine ux_get (C := R_Md) (T := F_Md) (N := 50) hx hb hT in_Md hown hK hP (by decide) rfl rfl 10 (by decide) (hT _ fl_Md_36) rfl d_Md_here_20 ?_
    refine lv_topi (fun z5 hz5 => ?_)
    rw [show M 0 10 = nI L from hlv] at hz5
    rw [hz5]
    refine ux_iald hx hb hK hP (by decide) rfl (vp_in_nI (show L < 8 by omega) (by decide)) d_Md_here_23 ?_
    rw [nI_clamp (n := L) (by omega)]
    refine lv_topi (fun z7 hz7 => ?_)
    obtain ⟨c6, hc6, ec6⟩ := nat_of (x := M 9 L) (n := A) (hI.1 9 L).1 (hI.1 9 L).2
    rw [ec6] at hz7
    rw [hz7]
    have tc6 : (M 9 L).toInt = (c6 : Int) := by rw [ec6]; exact nI_toInt (by omega)
    refine ux_cald hx hb hK hP (by decide) rfl (vp_in_nI (show c6 < 200 by omega) (by decide)) d_Md_here_24 ?_
    rw [nI_clamp (n := c6) (by omega)]
    refine lv_topi (fun z9 hz9 => ?_)
    obtain ⟨c8, hc8, ec8⟩ := nat_of (x := M 1 c6) (n := 65535) (hI.1 1 c6).1 (hI.1 1 c6).2
    rw [ec8] at hz9
    rw [hz9]
    have tc8 : (M 1 c6).toInt = (c8 : Int) := by rw [ec8]; exact nI_toInt (by omega)
    exact W.zret (v := nI c8) hx hb hr (nc_I (by omega)) (fun t ht hW => ⟨⟨nI c8, M, rfl, ⟨hI, hF, (by rw [nI_toInt (n := c8) (by omega)]; omega)⟩, by unfold ux_E; rw [ht]; exact hP⟩, hS.F ht⟩) hS.2.2 d_Md_here_25
  · have g4 : ¬ (r1.toInt = 0) := fun q => h4 (Int32.toInt_inj.mp q)
    refine lv_iconst (v := 0) hx hb d_Md_here_7 (by decide) ?_
    refine lv_goto hx hb d_Md_here_8 rfl ?_
    exact W.zret (v := 0) hx hb hr (rfl) (fun t ht hW => ⟨⟨0, M, rfl, ⟨hI, hF, (by decide)⟩, by unfold ux_E; rw [ht]; exact hP⟩, hS.F ht⟩) hS.2.2 d_Md_here_25

set_option maxHeartbeats 1600000 in
set_option maxRecDepth 100000 in
theorem s_Md_closes (l : Launch) (D : va_G) (ad : Nat → Nat) (cA : Nat → ClassId) (A TB : Nat) (hA : A ≤ 100000000) (hB : TB ≤ 2000000000) (M : ux_M) (hI : IvM A TB M) (L : Nat) (hL : L ≤ 7) (hlv : M 0 10 = nI L) : Met l y_Md_closes w_Md_closes ({ frames := 2, cells := 0, slots := 0, locals := 40 }) (va_Pc [.ref (ad 0)] (ux_B D shM KM ad cA M)) (va_Qi (fun r M1 => IvM A TB M1 ∧ (∀ a b, ¬ tN a b → M1 a b = M a b) ∧ ((r = 0 ∨ r = 1) ∧ (r = 0 → (M 9 L).toInt < (M 10 L).toInt))) (ux_E D shM KM ad cA) (ux_A KM ad)) 0 0 (ux_A KM ad) := by
  refine Met.ofW (cc := b_Md_closes) (maxL := 1) (ret := (some .boolean)) (by decide) rfl ?_
  intro p e s m args below meth c s₁ B hml hv
  obtain ⟨rfl, hP, hK, hi, hN⟩ := hv
  have hx := B.exec
  have hb := B.bytes
  have hr := B.returns
  have hts := atoms_spec (ws := w_Md_closes) B.pre
  have hown : s.vm.findClass R_Md = some m.cls := findClass_of_methodNamed B.named
  have hlocks := B.notSynchronized
  have hT : ∀ w ∈ tb, w.before _ s = true := fun w h => hts w (List.mem_cons_of_mem _ h)
  have hS : va_S (ux_A KM ad) s.heap s.heap [] := va_S.rf
  have hl := lv_entry ([.ref (ad 0)]) (n := 1) (Nat.le_of_ble_eq_true rfl)
  rw [lg_entry_eq]
  generalize (lg_sl ([.ref (ad 0)]) ++ List.replicate (1 - (lg_sl ([.ref (ad 0)])).length) Slot.unset).toArray = ls at hl ⊢
  have hl : lv_has ls 1 [(0, .ref (ad 0))] := hl
  have hF : ∀ a b, ¬ tN a b → M a b = M a b := fun _ _ _ => rfl
  refine lv_aload_n hx hb d_Md_closes_0 rfl (lv_at hl 0 rfl) ?_
  refine ux_calli (va_runV ⟨hx, hb, hml, hown, hts⟩ (s_Md_over l D ad cA A TB hA hB  M hI L hL (hlv)) (cwV 0 hts (tb_goodV ml_Md_176 im_Md_over se_Md_over ii_Md kt_Md_over) rfl rfl rfl (by decide +kernel) ⟨Nat.le_of_ble_eq_true rfl, Nat.le_of_ble_eq_true rfl⟩) (ux_preV (by decide) rfl rfl hP hK hi hN) rfl rfl hl.1 rfl (lv_room (Nat.le_of_ble_eq_true rfl)) d_Md_closes_1 ⟨Nat.zero_le _, Nat.zero_le _⟩) hS (fun r1 M2 H locs q3 hP hS => ?_)
  obtain ⟨hI, fq3, q3p⟩ := q3
  rw [tN_eq fq3] at hP hI
  have q3i : (r1.toInt = 0 ∧ (M 9 L).toInt < (M 10 L).toInt) ∨ (r1.toInt = 1 ∧ (M 9 L).toInt ≥ (M 10 L).toInt) := by rcases q3p with ⟨q, z⟩ | ⟨q, z⟩ <;> rw [q] <;> first | exact Or.inl ⟨rfl, z⟩ | exact Or.inr ⟨rfl, z⟩
  have q3j : (M 10 L).toInt ≤ 200 := (hI.1 10 L).2
  refine lv_if_ne hx hb d_Md_closes_4 rfl (fun h4 => ?_) (fun h4 => ?_)
  · have g4 : ¬ (r1.toInt = 0) := fun q => h4 (Int32.toInt_inj.mp q)
    refine lv_iconst (v := 1) hx hb d_Md_closes_47 (by decide) ?_
    refine lv_goto hx hb d_Md_closes_48 rfl ?_
    exact W.zret (v := 1) hx hb hr (rfl) (fun t ht hW => ⟨⟨1, M, rfl, ⟨hI, hF, ⟨Or.inr rfl, fun q => absurd q (by decide)⟩⟩, by unfold ux_E; rw [ht]; exact hP⟩, hS.F ht⟩) hS.2.2 d_Md_closes_52
  · have g4 : r1.toInt = 0 := congrArg Int32.toInt h4
    refine lv_aload_n hx hb d_Md_closes_7 rfl (lv_at hl 0 rfl) ?_
    refine ux_calli (va_runV ⟨hx, hb, hml, hown, hts⟩ (s_Md_here l D ad cA A TB hA hB  M hI L hL (hlv)) (cwV 0 hts (tb_goodV ml_Md_180 im_Md_here se_Md_here ii_Md kt_Md_here) rfl rfl rfl (by decide +kernel) ⟨Nat.le_of_ble_eq_true rfl, Nat.le_of_ble_eq_true rfl⟩) (ux_preV (by decide) rfl rfl hP hK hi hN) rfl rfl hl.1 rfl (lv_room (Nat.le_of_ble_eq_true rfl)) d_Md_closes_8 ⟨Nat.zero_le _, Nat.zero_le _⟩) hS (fun r5 M6 H locs q7 hP hS => ?_)
    obtain ⟨hI, fq7, q7p⟩ := q7
    rw [tN_eq fq7] at hP hI
    obtain ⟨c8, hc8, ec8⟩ := nat_of (x := r5) (n := 65535) (q7p).1 (q7p).2
    subst ec8
    refine lv_bipush (v := 10) hx hb d_Md_closes_11 (by decide) ?_
    refine lv_icmp_eq hx hb d_Md_closes_13 rfl (fun h9 => ?_) (fun h9 => ?_)
    · have g9 : ((c8 : Nat) : Int) = 10 := by have q := congrArg Int32.toInt h9; rw [nI_toInt (n := c8) (by omega)] at q; exact q
      refine lv_iconst (v := 1) hx hb d_Md_closes_47 (by decide) ?_
      refine lv_goto hx hb d_Md_closes_48 rfl ?_
      exact W.zret (v := 1) hx hb hr (rfl) (fun t ht hW => ⟨⟨1, M, rfl, ⟨hI, hF, ⟨Or.inr rfl, fun q => absurd q (by decide)⟩⟩, by unfold ux_E; rw [ht]; exact hP⟩, hS.F ht⟩) hS.2.2 d_Md_closes_52
    · have g9 : ¬ (((c8 : Nat) : Int) = 10) := fun q => h9 (Int32.toInt_inj.mp (by rw [nI_toInt (n := c8) (by omega)]; exact q))
      refine lv_aload_n hx hb d_Md_closes_16 rfl (lv_at hl 0 rfl) ?_
      refine ux_calli (va_runV ⟨hx, hb, hml, hown, hts⟩ (s_Md_here l D ad cA A TB hA hB  M hI L hL (hlv)) (cwV 0 hts (tb_goodV ml_Md_180 im_Md_here se_Md_here ii_Md kt_Md_here) rfl rfl rfl (by decide +kernel) ⟨Nat.le_of_ble_eq_true rfl, Nat.le_of_ble_eq_true rfl⟩) (ux_preV (by decide) rfl rfl hP hK hi hN) rfl rfl hl.1 rfl (lv_room (Nat.le_of_ble_eq_true rfl)) d_Md_closes_17 ⟨Nat.zero_le _, Nat.zero_le _⟩) hS (fun r10 M11 H locs q12 hP hS => ?_)
      obtain ⟨hI, fq12, q12p⟩ := q12
      rw [tN_eq fq12] at hP hI
      obtain ⟨c13, hc13, ec13⟩ := nat_of (x := r10) (n := 65535) (q12p).1 (q12p).2
      subst ec13
      refine lv_bipush (v := 59) hx hb d_Md_closes_20 (by decide) ?_
      refine lv_icmp_eq hx hb d_Md_closes_22 rfl (fun h14 => ?_) (fun h14 => ?_)
      · have g14 : ((c13 : Nat) : Int) = 59 := by have q := congrArg Int32.toInt h14; rw [nI_toInt (n := c13) (by omega)] at q; exact q
        refine lv_iconst (v := 1) hx hb d_Md_closes_47 (by decide) ?_
        refine lv_goto hx hb d_Md_closes_48 rfl ?_
        exact W.zret (v := 1) hx hb hr (rfl) (fun t ht hW => ⟨⟨1, M, rfl, ⟨hI, hF, ⟨Or.inr rfl, fun q => absurd q (by decide)⟩⟩, by unfold ux_E; rw [ht]; exact hP⟩, hS.F ht⟩) hS.2.2 d_Md_closes_52
      · have g14 : ¬ (((c13 : Nat) : Int) = 59) := fun q => h14 (Int32.toInt_inj.mp (by rw [nI_toInt (n := c13) (by omega)]; exact q))
        refine lv_aload_n hx hb d_Md_closes_25 rfl (lv_at hl 0 rfl) ?_
        refine ux_get (C := R_Md) (T := F_Md) (N := 50) hx hb hT in_Md hown hK hP (by decide) rfl rfl 13 (by decide) (hT _ fl_Md_46) rfl d_Md_closes_26 ?_
        refine lv_aload_n hx hb d_Md_closes_29 rfl (lv_at hl 0 rfl) ?_
        refine ux_get (C := R_Md) (T := F_Md) (N := 50) hx hb hT in_Md hown hK hP (by decide) rfl rfl 10 (by decide) (hT _ fl_Md_36) rfl d_Md_closes_30 ?_
        refine lv_topi (fun z15 hz15 => ?_)
        rw [show M 0 10 = nI L from hlv] at hz15
        rw [hz15]
        refine ux_iald hx hb hK hP (by decide) rfl (vp_in_nI (show L < 8 by omega) (by decide)) d_Md_closes_33 ?_
        rw [nI_clamp (n := L) (by omega)]
        refine lv_iconst (v := 1) hx hb d_Md_closes_34 (by decide) ?_
        refine lv_icmp_ne hx hb d_Md_closes_35 rfl (fun h16 => ?_) (fun h16 => ?_)
        · have g16 : ¬ ((M 11 L).toInt = 1) := fun q => h16 (Int32.toInt_inj.mp q)
          refine lv_iconst (v := 0) hx hb d_Md_closes_51 (by decide) ?_
          exact W.zret (v := 0) hx hb hr (rfl) (fun t ht hW => ⟨⟨0, M, rfl, ⟨hI, hF, ⟨Or.inl rfl, fun _ => by omega⟩⟩, by unfold ux_E; rw [ht]; exact hP⟩, hS.F ht⟩) hS.2.2 d_Md_closes_52
        · have g16 : (M 11 L).toInt = 1 := congrArg Int32.toInt h16
          refine lv_aload_n hx hb d_Md_closes_38 rfl (lv_at hl 0 rfl) ?_
          refine ux_calli (va_runV ⟨hx, hb, hml, hown, hts⟩ (s_Md_here l D ad cA A TB hA hB  M hI L hL (hlv)) (cwV 0 hts (tb_goodV ml_Md_180 im_Md_here se_Md_here ii_Md kt_Md_here) rfl rfl rfl (by decide +kernel) ⟨Nat.le_of_ble_eq_true rfl, Nat.le_of_ble_eq_true rfl⟩) (ux_preV (by decide) rfl rfl hP hK hi hN) rfl rfl hl.1 rfl (lv_room (Nat.le_of_ble_eq_true rfl)) d_Md_closes_39 ⟨Nat.zero_le _, Nat.zero_le _⟩) hS (fun r17 M18 H locs q19 hP hS => ?_)
          obtain ⟨hI, fq19, q19p⟩ := q19
          rw [tN_eq fq19] at hP hI
          obtain ⟨c20, hc20, ec20⟩ := nat_of (x := r17) (n := 65535) (q19p).1 (q19p).2
          subst ec20
          refine lv_bipush (v := 93) hx hb d_Md_closes_42 (by decide) ?_
          refine lv_icmp_ne hx hb d_Md_closes_44 rfl (fun h21 => ?_) (fun h21 => ?_)
          · have g21 : ¬ (((c20 : Nat) : Int) = 93) := fun q => h21 (Int32.toInt_inj.mp (by rw [nI_toInt (n := c20) (by omega)]; exact q))
            refine lv_iconst (v := 0) hx hb d_Md_closes_51 (by decide) ?_
            exact W.zret (v := 0) hx hb hr (rfl) (fun t ht hW => ⟨⟨0, M, rfl, ⟨hI, hF, ⟨Or.inl rfl, fun _ => by omega⟩⟩, by unfold ux_E; rw [ht]; exact hP⟩, hS.F ht⟩) hS.2.2 d_Md_closes_52
          · have g21 : ((c20 : Nat) : Int) = 93 := by have q := congrArg Int32.toInt h21; rw [nI_toInt (n := c20) (by omega)] at q; exact q
            refine lv_iconst (v := 1) hx hb d_Md_closes_47 (by decide) ?_
            refine lv_goto hx hb d_Md_closes_48 rfl ?_
            exact W.zret (v := 1) hx hb hr (rfl) (fun t ht hW => ⟨⟨1, M, rfl, ⟨hI, hF, ⟨Or.inr rfl, fun q => absurd q (by decide)⟩⟩, by unfold ux_E; rw [ht]; exact hP⟩, hS.F ht⟩) hS.2.2 d_Md_closes_52

set_option maxHeartbeats 1600000 in
set_option maxRecDepth 100000 in
theorem s_Md_behind (l : Launch) (D : va_G) (ad : Nat → Nat) (cA : Nat → ClassId) (A TB : Nat) (hA : A ≤ 100000000) (hB : TB ≤ 2000000000) (M : ux_M) (hI : IvM A TB M) (L : Nat) (hL : L ≤ 7) (hlv : M 0 10 = nI L) : Met l y_Md_behind w_Md_behind ({ frames := 0, cells := 0, slots := 0, locals := 0 }) (va_Pc [.ref (ad 0)] (ux_B D shM KM ad cA M)) (va_Qi (fun r M1 => IvM A TB M1 ∧ (∀ a b, ¬ tN a b → M1 a b = M a b) ∧ (0 ≤ r.toInt ∧ r.toInt ≤ 65535)) (ux_E D shM KM ad cA) (ux_A KM ad)) 0 0 (ux_A KM ad) := by
  refine Met.ofW (cc := b_Md_behind) (maxL := 1) (ret := (some .char)) (by decide) rfl ?_
  intro p e s m args below meth c s₁ B hml hv
  obtain ⟨rfl, hP, hK, hi, hN⟩ := hv
  have hx := B.exec
  have hb := B.bytes
  have hr := B.returns
  have hts := atoms_spec (ws := w_Md_behind) B.pre
  have hown : s.vm.findClass R_Md = some m.cls := findClass_of_methodNamed B.named
  have hlocks := B.notSynchronized
  have hT : ∀ w ∈ tb, w.before _ s = true := fun w h => hts w (List.mem_cons_of_mem _ h)
  have hS : va_S (ux_A KM ad) s.heap s.heap [] := va_S.rf
  have hl := lv_entry ([.ref (ad 0)]) (n := 1) (Nat.le_of_ble_eq_true rfl)
  rw [lg_entry_eq]
  generalize (lg_sl ([.ref (ad 0)]) ++ List.replicate (1 - (lg_sl ([.ref (ad 0)])).length) Slot.unset).toArray = ls at hl ⊢
  have hl : lv_has ls 1 [(0, .ref (ad 0))] := hl
  have hF : ∀ a b, ¬ tN a b → M a b = M a b := fun _ _ _ => rfl
  refine lv_aload_n hx hb d_Md_behind_0 rfl (lv_at hl 0 rfl) ?_
  refine ux_get (C := R_Md) (T := F_Md) (N := 50) hx hb hT in_Md hown hK hP (by decide) rfl rfl 11 (by decide) (hT _ fl_Md_40) rfl d_Md_behind_1 ?_
  refine lv_aload_n hx hb d_Md_behind_4 rfl (lv_at hl 0 rfl) ?_
  refine ux_get (C := R_Md) (T := F_Md) (N := 50) hx hb hT in_Md hown hK hP (by decide) rfl rfl 10 (by decide) (hT _ fl_Md_36) rfl d_Md_behind_5 ?_
  refine lv_topi (fun z1 hz1 => ?_)
  rw [show M 0 10 = nI L from hlv] at hz1
  rw [hz1]
  refine ux_iald hx hb hK hP (by decide) rfl (vp_in_nI (show L < 8 by omega) (by decide)) d_Md_behind_8 ?_
  rw [nI_clamp (n := L) (by omega)]
  refine lv_topi (fun z3 hz3 => ?_)
  obtain ⟨c2, hc2, ec2⟩ := nat_of (x := M 9 L) (n := A) (hI.1 9 L).1 (hI.1 9 L).2
  rw [ec2] at hz3
  rw [hz3]
  have tc2 : (M 9 L).toInt = (c2 : Int) := by rw [ec2]; exact nI_toInt (by omega)
  refine lv_iconst (v := 1) hx hb d_Md_behind_9 (by decide) ?_
  refine lv_iadd hx hb d_Md_behind_10 ?_
  refine lv_topi (fun z4 hz4 => ?_)
  rw [show (nI c2) + (1 : Int32) = nI (c2 + 1) from nI_add c2 1] at hz4
  rw [hz4]
  refine lv_aload_n hx hb d_Md_behind_11 rfl (lv_at hl 0 rfl) ?_
  refine ux_get (C := R_Md) (T := F_Md) (N := 50) hx hb hT in_Md hown hK hP (by decide) rfl rfl 12 (by decide) (hT _ fl_Md_43) rfl d_Md_behind_12 ?_
  refine lv_aload_n hx hb d_Md_behind_15 rfl (lv_at hl 0 rfl) ?_
  refine ux_get (C := R_Md) (T := F_Md) (N := 50) hx hb hT in_Md hown hK hP (by decide) rfl rfl 10 (by decide) (hT _ fl_Md_36) rfl d_Md_behind_16 ?_
  refine lv_topi (fun z5 hz5 => ?_)
  rw [show M 0 10 = nI L from hlv] at hz5
  rw [hz5]
  refine ux_iald hx hb hK hP (by decide) rfl (vp_in_nI (show L < 8 by omega) (by decide)) d_Md_behind_19 ?_
  rw [nI_clamp (n := L) (by omega)]
  refine lv_topi (fun z7 hz7 => ?_)
  obtain ⟨c6, hc6, ec6⟩ := nat_of (x := M 10 L) (n := 200) (hI.1 10 L).1 (hI.1 10 L).2
  rw [ec6] at hz7
  rw [hz7]
  have tc6 : (M 10 L).toInt = (c6 : Int) := by rw [ec6]; exact nI_toInt (by omega)
  refine lv_icmp_ge hx hb d_Md_behind_20 rfl (fun h8 => ?_) (fun h8 => ?_)
  · have g8 : ((c6 : Nat) : Int) ≤ ((c2 + 1 : Nat) : Int) := by have q := Int32.le_iff_toInt_le.mp h8; rw [nI_toInt (n := c6) (by omega), nI_toInt (n := c2 + 1) (by omega)] at q; exact q
    refine lv_iconst (v := 0) hx hb d_Md_behind_42 (by decide) ?_
    exact W.zret (v := 0) hx hb hr (rfl) (fun t ht hW => ⟨⟨0, M, rfl, ⟨hI, hF, (by decide)⟩, by unfold ux_E; rw [ht]; exact hP⟩, hS.F ht⟩) hS.2.2 d_Md_behind_43
  · have g8 : ¬ (((c6 : Nat) : Int) ≤ ((c2 + 1 : Nat) : Int)) := fun q => h8 (Int32.le_iff_toInt_le.mpr (by rw [nI_toInt (n := c6) (by omega), nI_toInt (n := c2 + 1) (by omega)]; exact q))
    refine lv_aload_n hx hb d_Md_behind_23 rfl (lv_at hl 0 rfl) ?_
    refine ux_get (C := R_Md) (T := F_Md) (N := 50) hx hb hT in_Md hown hK hP (by decide) rfl rfl 0 (by decide) (hT _ fl_Md_7) rfl d_Md_behind_24 ?_
    refine lv_aload_n hx hb d_Md_behind_27 rfl (lv_at hl 0 rfl) ?_
    refine ux_get (C := R_Md) (T := F_Md) (N := 50) hx hb hT in_Md hown hK hP (by decide) rfl rfl 11 (by decide) (hT _ fl_Md_40) rfl d_Md_behind_28 ?_
    refine lv_aload_n hx hb d_Md_behind_31 rfl (lv_at hl 0 rfl) ?_
    refine ux_get (C := R_Md) (T := F_Md) (N := 50) hx hb hT in_Md hown hK hP (by decide) rfl rfl 10 (by decide) (hT _ fl_Md_36) rfl d_Md_behind_32 ?_
    refine lv_topi (fun z9 hz9 => ?_)
    rw [show M 0 10 = nI L from hlv] at hz9
    rw [hz9]
    refine ux_iald hx hb hK hP (by decide) rfl (vp_in_nI (show L < 8 by omega) (by decide)) d_Md_behind_35 ?_
    rw [nI_clamp (n := L) (by omega)]
    refine lv_topi (fun z10 hz10 => ?_)
    rw [show M 9 L = nI c2 from ec2] at hz10
    rw [hz10]
    refine lv_iconst (v := 1) hx hb d_Md_behind_36 (by decide) ?_
    refine lv_iadd hx hb d_Md_behind_37 ?_
    refine lv_topi (fun z11 hz11 => ?_)
    rw [show (nI c2) + (1 : Int32) = nI (c2 + 1) from nI_add c2 1] at hz11
    rw [hz11]
    refine ux_cald hx hb hK hP (by decide) rfl (vp_in_nI (show c2 + 1 < 200 by omega) (by decide)) d_Md_behind_38 ?_
    rw [nI_clamp (n := c2 + 1) (by omega)]
    refine lv_topi (fun z13 hz13 => ?_)
    obtain ⟨c12, hc12, ec12⟩ := nat_of (x := M 1 (c2 + 1)) (n := 65535) (hI.1 1 (c2 + 1)).1 (hI.1 1 (c2 + 1)).2
    rw [ec12] at hz13
    rw [hz13]
    have tc12 : (M 1 (c2 + 1)).toInt = (c12 : Int) := by rw [ec12]; exact nI_toInt (by omega)
    refine lv_goto hx hb d_Md_behind_39 rfl ?_
    exact W.zret (v := nI c12) hx hb hr (nc_I (by omega)) (fun t ht hW => ⟨⟨nI c12, M, rfl, ⟨hI, hF, (by rw [nI_toInt (n := c12) (by omega)]; omega)⟩, by unfold ux_E; rw [ht]; exact hP⟩, hS.F ht⟩) hS.2.2 d_Md_behind_43
