/-! The reference, safe: errors caught, scripts entered; written by wip/gen/ref.py -/
def mCa (a b : Nat) : Prop := (a = 0 ∧ (b = 25 ∨ b = 24)) ∨ a = 21 ∨ a = 2 ∨ a = 3
def mEn (L a b : Nat) : Prop := (a = 0 ∧ (b = 10 ∨ b = 23 ∨ b = 24 ∨ b = 25)) ∨ ((a = 9 ∨ a = 10 ∨ a = 11 ∨ a = 12 ∨ a = 13 ∨ a = 14 ∨ a = 15) ∧ b = L + 1) ∨ a = 21 ∨ a = 2 ∨ a = 3
def mE1 (L a b : Nat) : Prop := (a = 0 ∧ (b = 10 ∨ b = 23)) ∨ ((a = 9 ∨ a = 10 ∨ a = 11 ∨ a = 12 ∨ a = 13 ∨ a = 14 ∨ a = 15) ∧ b = L + 1)
def mE0 (a b : Nat) : Prop := (a = 0 ∧ (b = 23 ∨ b = 24 ∨ b = 25)) ∨ a = 21 ∨ a = 2 ∨ a = 3

set_option maxHeartbeats 1600000 in
set_option maxRecDepth 100000 in
theorem s_Md_caught (l : Launch) (D : va_G) (ad : Nat → Nat) (cA : Nat → ClassId) (A TB : Nat) (hA : A ≤ 100000000) (hB : TB ≤ 2000000000) (M : ux_M) (hI : IvM A TB M) (L : Nat) (hL : L ≤ 7) (hlv : M 0 10 = nI L) (hcg : (M 14 L).toInt = 3 → nmK M (8 * L + 2) 97) : Met l y_Md_caught w_Md_caught ({ frames := 3, cells := 0, slots := 0, locals := 67 }) (va_Pc [.ref (ad 0)] (ux_B D shM KM ad cA M)) (va_Qv (fun M1 => IvM A TB M1 ∧ (∀ a b, ¬ mCa a b → M1 a b = M a b) ∧ (M1 0 24 = 0)) (ux_E D shM KM ad cA) (ux_A KM ad)) 0 0 (ux_A KM ad) := by
  refine Met.ofW (cc := b_Md_caught) (maxL := 1) (ret := none) (by decide) rfl ?_
  intro p e s m args below meth c s₁ B hml hv
  obtain ⟨rfl, hP, hK, hi, hN⟩ := hv
  have hx := B.exec
  have hb := B.bytes
  have hr := B.returns
  have hts := atoms_spec (ws := w_Md_caught) B.pre
  have hown : s.vm.findClass R_Md = some m.cls := findClass_of_methodNamed B.named
  have hlocks := B.notSynchronized
  have hT : ∀ w ∈ tb, w.before _ s = true := fun w h => hts w (List.mem_cons_of_mem _ h)
  have hS : va_S (ux_A KM ad) s.heap s.heap [] := va_S.rf
  have hl := lv_entry ([.ref (ad 0)]) (n := 1) (Nat.le_of_ble_eq_true rfl)
  rw [lg_entry_eq]
  generalize (lg_sl ([.ref (ad 0)]) ++ List.replicate (1 - (lg_sl ([.ref (ad 0)])).length) Slot.unset).toArray = ls at hl ⊢
  have hl : lv_has ls 1 [(0, .ref (ad 0))] := hl
  have hF : ∀ a b, ¬ mCa a b → M a b = M a b := fun _ _ _ => rfl
  refine lv_aload_n hx hb d_Md_caught_0 rfl (lv_at hl 0 rfl) ?_
  refine ux_get (C := R_Md) (T := F_Md) (N := 50) hx hb hT in_Md hown hK hP (by decide) rfl rfl 16 (by decide) (hT _ fl_Md_55) rfl d_Md_caught_1 ?_
  refine lv_aload_n hx hb d_Md_caught_4 rfl (lv_at hl 0 rfl) ?_
  refine ux_get (C := R_Md) (T := F_Md) (N := 50) hx hb hT in_Md hown hK hP (by decide) rfl rfl 10 (by decide) (hT _ fl_Md_36) rfl d_Md_caught_5 ?_
  refine lv_topi (fun z1 hz1 => ?_)
  rw [show M 0 10 = nI L from hlv] at hz1
  rw [hz1]
  refine ux_iald hx hb hK hP (by decide) rfl (vp_in_nI (show L < 8 by omega) (by decide)) d_Md_caught_8 ?_
  rw [nI_clamp (n := L) (by omega)]
  refine lv_topi (fun z3 hz3 => ?_)
  obtain ⟨c2, hc2, ec2⟩ := nat_of (x := M 14 L) (n := 8) (hI.1 14 L).1 (hI.1 14 L).2
  rw [ec2] at hz3
  rw [hz3]
  have tc2 : (M 14 L).toInt = (c2 : Int) := by rw [ec2]; exact nI_toInt (by omega)
  refine lv_iconst (v := 3) hx hb d_Md_caught_9 (by decide) ?_
  refine lv_icmp_ne hx hb d_Md_caught_10 rfl (fun h4 => ?_) (fun h4 => ?_)
  · have g4 : ¬ (((c2 : Nat) : Int) = 3) := fun q => h4 (Int32.toInt_inj.mp (by rw [nI_toInt (n := c2) (by omega)]; exact q))
    refine lv_aload_n hx hb d_Md_caught_28 rfl (lv_at hl 0 rfl) ?_
    refine lv_aload_n hx hb d_Md_caught_29 rfl (lv_at hl 0 rfl) ?_
    refine ux_get (C := R_Md) (T := F_Md) (N := 50) hx hb hT in_Md hown hK hP (by decide) rfl rfl 24 (by decide) (hT _ fl_Md_149) rfl d_Md_caught_30 ?_
    refine ux_callv (va_runV ⟨hx, hb, hml, hown, hts⟩ (s_Md_number l D ad cA A TB hA hB  M hI (M 0 24)) (cwV 1 hts (tb_goodV ml_Md_226 im_Md_number se_Md_number ii_Md kt_Md_number) rfl rfl rfl (by decide +kernel) ⟨Nat.le_of_ble_eq_true rfl, Nat.le_of_ble_eq_true rfl⟩) (ux_preV (by decide) rfl rfl hP hK hi hN) rfl rfl hl.1 rfl (lv_room (Nat.le_of_ble_eq_true rfl)) d_Md_caught_33 ⟨Nat.zero_le _, Nat.zero_le _⟩) hS (fun M6 H locs q7 hP hS => ?_)
    obtain ⟨hI, fq7, q7p⟩ := q7
    have hF := fr_call hF fq7 (fun a b q => by unfold mRe at q; unfold mCa; omega)
    refine lv_aload_n hx hb d_Md_caught_36 rfl (lv_at hl 0 rfl) ?_
    refine lv_iconst (v := 0) hx hb d_Md_caught_37 (by decide) ?_
    refine ux_put (C := R_Md) (T := F_Md) (N := 50) hx hb hT in_Md t_Md t_Md_ok n_Md hown hK hi hP hS (by decide) rfl rfl 24 (by decide) (hT _ fl_Md_149) rfl (rfl) (rfl) rfl d_Md_caught_38 (fun H locs hP hS => ?_)
    have hI := IvM_free (k := 0) (j := 24) (v := 0) hI rfl rfl (by unfold okW; omega)
    have hF := fr_wr (k := 0) (j := 24) (v := 0) hF (by unfold mCa; omega)
    generalize eM8 : ux_wr M6 0 24 0 = M8 at hP hI hF
    exact W.vret hx hb hr (fun t ht hW => ⟨⟨M8, rfl, ⟨hI, hF, wr_at eM8⟩, by unfold ux_E; rw [ht]; exact hP⟩, hS.F ht⟩) hS.2.2 d_Md_caught_41
  · have g4 : ((c2 : Nat) : Int) = 3 := by have q := congrArg Int32.toInt h4; rw [nI_toInt (n := c2) (by omega)] at q; exact q
    refine lv_aload_n hx hb d_Md_caught_13 rfl (lv_at hl 0 rfl) ?_
    refine lv_aload_n hx hb d_Md_caught_14 rfl (lv_at hl 0 rfl) ?_
    refine lv_aload_n hx hb d_Md_caught_15 rfl (lv_at hl 0 rfl) ?_
    refine lv_iconst (v := 2) hx hb d_Md_caught_16 (by decide) ?_
    refine lv_bipush (v := 97) hx hb d_Md_caught_17 (by decide) ?_
    refine ux_calli (va_runV ⟨hx, hb, hml, hown, hts⟩ (s_Md_name l D ad cA A TB hA hB  M hI L hL (hlv) 2 (by omega) 97 (by decide) (by decide)) (cwV 2 hts (tb_goodV ml_Md_219 im_Md_name se_Md_name ii_Md kt_Md_name) rfl rfl rfl (by decide +kernel) ⟨Nat.le_of_ble_eq_true rfl, Nat.le_of_ble_eq_true rfl⟩) (ux_preV (by decide) rfl rfl hP hK hi hN) rfl rfl hl.1 rfl (lv_room (Nat.le_of_ble_eq_true rfl)) d_Md_caught_19 ⟨Nat.zero_le _, Nat.zero_le _⟩) hS (fun r9 M10 H locs q11 hP hS => ?_)
    obtain ⟨hI, fq11, q11p⟩ := q11
    rw [tN_eq fq11] at hP hI
    obtain ⟨q11a, q11b, hc97⟩ := q11p
    have nk97 := hc97.mpr
    have hnk : 0 ≤ r9.toInt := hc97.mp (hcg (by omega))
    obtain ⟨q22, hq22, eq22⟩ := nat_of (x := r9) (n := 25) hnk (by omega)
    subst eq22
    refine ux_calli (va_runV ⟨hx, hb, hml, hown, hts⟩ (s_Md_variable l D ad cA A TB hA hB  M hI L hL (hlv) q22 (by omega)) (cwV 1 hts (tb_goodV ml_Md_213 im_Md_variable se_Md_variable ii_Md kt_Md_variable) rfl rfl rfl (by decide +kernel) ⟨Nat.le_of_ble_eq_true rfl, Nat.le_of_ble_eq_true rfl⟩) (ux_preV (by decide) rfl rfl hP hK hi hN) rfl rfl hl.1 rfl (lv_room (Nat.le_of_ble_eq_true rfl)) d_Md_caught_22 ⟨Nat.zero_le _, Nat.zero_le _⟩) hS (fun r12 M13 H locs q14 hP hS => ?_)
    obtain ⟨hI, fq14, q14p⟩ := q14
    rw [tN_eq fq14] at hP hI
    obtain ⟨c15, hc15, ec15⟩ := nat_of (x := r12) (n := 207) (q14p).1 (q14p).2
    subst ec15
    refine ux_callv (va_runV ⟨hx, hb, hml, hown, hts⟩ (s_Md_store l D ad cA A TB hA hB  M hI c15 (by omega)) (cwV 1 hts (tb_goodV ml_Md_223 im_Md_store se_Md_store ii_Md kt_Md_store) rfl rfl rfl (by decide +kernel) ⟨Nat.le_of_ble_eq_true rfl, Nat.le_of_ble_eq_true rfl⟩) (ux_preV (by decide) rfl rfl hP hK hi hN) rfl rfl hl.1 rfl (lv_room (Nat.le_of_ble_eq_true rfl)) d_Md_caught_25 ⟨Nat.zero_le _, Nat.zero_le _⟩) hS (fun M17 H locs q18 hP hS => ?_)
    obtain ⟨hI, fq18, q18p⟩ := q18
    have hF := fr_call hF fq18 (fun a b q => by unfold mSt at q; unfold mCa; omega)
    refine lv_aload_n hx hb d_Md_caught_28 rfl (lv_at hl 0 rfl) ?_
    refine lv_aload_n hx hb d_Md_caught_29 rfl (lv_at hl 0 rfl) ?_
    refine ux_get (C := R_Md) (T := F_Md) (N := 50) hx hb hT in_Md hown hK hP (by decide) rfl rfl 24 (by decide) (hT _ fl_Md_149) rfl d_Md_caught_30 ?_
    refine ux_callv (va_runV ⟨hx, hb, hml, hown, hts⟩ (s_Md_number l D ad cA A TB hA hB  M17 hI (M17 0 24)) (cwV 1 hts (tb_goodV ml_Md_226 im_Md_number se_Md_number ii_Md kt_Md_number) rfl rfl rfl (by decide +kernel) ⟨Nat.le_of_ble_eq_true rfl, Nat.le_of_ble_eq_true rfl⟩) (ux_preV (by decide) rfl rfl hP hK hi hN) rfl rfl hl.1 rfl (lv_room (Nat.le_of_ble_eq_true rfl)) d_Md_caught_33 ⟨Nat.zero_le _, Nat.zero_le _⟩) hS (fun M20 H locs q21 hP hS => ?_)
    obtain ⟨hI, fq21, q21p⟩ := q21
    have hF := fr_call hF fq21 (fun a b q => by unfold mRe at q; unfold mCa; omega)
    refine lv_aload_n hx hb d_Md_caught_36 rfl (lv_at hl 0 rfl) ?_
    refine lv_iconst (v := 0) hx hb d_Md_caught_37 (by decide) ?_
    refine ux_put (C := R_Md) (T := F_Md) (N := 50) hx hb hT in_Md t_Md t_Md_ok n_Md hown hK hi hP hS (by decide) rfl rfl 24 (by decide) (hT _ fl_Md_149) rfl (rfl) (rfl) rfl d_Md_caught_38 (fun H locs hP hS => ?_)
    have hI := IvM_free (k := 0) (j := 24) (v := 0) hI rfl rfl (by unfold okW; omega)
    have hF := fr_wr (k := 0) (j := 24) (v := 0) hF (by unfold mCa; omega)
    generalize eM22 : ux_wr M20 0 24 0 = M22 at hP hI hF
    exact W.vret hx hb hr (fun t ht hW => ⟨⟨M22, rfl, ⟨hI, hF, wr_at eM22⟩, by unfold ux_E; rw [ht]; exact hP⟩, hS.F ht⟩) hS.2.2 d_Md_caught_41
