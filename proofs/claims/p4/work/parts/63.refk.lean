/-! The reference, safe: reading; written by wip/gen/ref.py -/
theorem nI_inj {a b : Nat} (ha : a < 1000) (hb : b < 1000) (h : nI a = nI b) : a = b := by
  have h := congrArg Int32.toInt h
  rw [nI_toInt (by omega), nI_toInt (by omega)] at h
  omega
theorem OpW_cong {M M1 : ux_M} {i : Nat} (h1 : M1 14 i = M 14 i) (h2 : ∀ b, M1 17 b = M 17 b) (q : OpW M i) : OpW M1 i := by
  obtain ⟨cw, a, b, c⟩ := q
  exact ⟨cw, h1.trans a, b, (h2 _).trans c⟩
theorem Nx_en {Z L an lo1 : Nat} {M M1 : ux_M} {r rs : Int32} (hlv : M 0 10 = nI L) (hw : OpW M L) (hm : ¬ M 13 L = 0) (hrs : rs = 1) (hlo : lo1 = an + 1) (han : an ≤ Z) (hZ : Z ≤ 1000000000) (ha : M 9 L = nI (an + 1)) (h : (r = 1 ∧ L ≤ 6 ∧ M1 0 10 = nI (L + 1) ∧ M1 0 23 = 0 ∧ M1 11 (L + 1) = rs ∧ M1 13 (L + 1) = 0 ∧ M1 14 (L + 1) = 0 ∧ M1 9 (L + 1) = nI lo1 ∧ (∀ a b, ¬ mE1 L a b → M1 a b = M a b)) ∨ (r = 0 ∧ M1 0 23 = 1 ∧ (M1 0 24 = 1 ∨ (M1 0 24 = 0 ∧ rs.toInt = 5)) ∧ (∀ a b, ¬ mE0 a b → M1 a b = M a b))) : Nx Z M1 L := by
  have e1 : (rs : Int32).toInt = 1 := by rw [hrs]; rfl
  rcases h with ⟨e, h6, a1, a2, a3, a4, a5, a6, hf⟩ | ⟨e, b1, b2, hf⟩
  · have hc : M1 14 L = M 14 L := hf _ _ (by unfold mE1; omega)
    have hb : ∀ b, M1 17 b = M 17 b := fun b => hf _ _ (by unfold mE1; omega)
    have hmm : M1 13 L = M 13 L := hf _ _ (by unfold mE1; omega)
    refine ⟨fun _ => OpW_cong hc hb hw, by rw [hf 9 L (by unfold mE1; omega), ha, nI_toInt (by omega)]; omega, Or.inr ⟨h6, a1, a2, ⟨⟨fun _ => by rw [hmm]; exact hm, fun _ => a3.trans hrs⟩, fun z => ?_, fun z => ?_⟩, fun q => absurd a4 q, by rw [a6, nI_toInt (by omega)]; omega⟩⟩
    · exact absurd (congrArg Int32.toInt (a3.symm.trans z)) (by rw [e1]; decide)
    · exact absurd (congrArg Int32.toInt (a3.symm.trans z)) (by rw [e1]; decide)
  · refine Nx_1 ((hf _ _ (by unfold mE0; omega)).trans hlv) (OpW_cong (hf _ _ (by unfold mE0; omega)) (fun b => hf _ _ (by unfold mE0; omega)) hw) (fun _ => ?_) (by rw [hf 9 L (by unfold mE0; omega), ha, nI_toInt (by omega)]; omega)
    rcases b2 with z | z
    · exact z
    · exact absurd z.2 (by rw [e1]; decide)

set_option maxHeartbeats 1600000 in
set_option maxRecDepth 100000 in
theorem s_Md_inWord (l : Launch) (D : va_G) (ad : Nat → Nat) (cA : Nat → ClassId) (A TB : Nat) (hA : A ≤ 100000000) (hB : TB ≤ 2000000000) (M : ux_M) (hI : IvM A TB M) (L : Nat) (hL : L ≤ 7) (hlv : M 0 10 = nI L) (Z an en cw : Nat) (han : M 9 L = nI an) (hen : M 10 L = nI en) (hcw : M 14 L = nI cw) (hz : an ≤ Z) (hz2 : 200 ≤ Z) (hzA : Z + 2 ≤ A) (hen2 : en ≤ 200) (hc8 : cw ≤ 8) (hsg : M 0 23 = 0) (hm : ¬ M 13 L = 0) (hc7 : cw ≤ 7) (hob : M 17 (8 * L + cw) = 0) : Met l y_Md_inWord w_Md_inWord ({ frames := 5, cells := 0, slots := 0, locals := 111 }) (va_Pc [.ref (ad 0)] (ux_B D shM KM ad cA M)) (va_Qv (fun M1 => IvM A TB M1 ∧ (∀ a b, ¬ (mRd L) a b → M1 a b = M a b) ∧ (Nx Z M1 L)) (ux_E D shM KM ad cA) (ux_A KM ad)) 0 0 (ux_A KM ad) := by
  refine Met.ofW (cc := b_Md_inWord) (maxL := 3) (ret := none) (by decide) rfl ?_
  intro p e s m args below meth c s₁ B hml hv
  obtain ⟨rfl, hP, hK, hi, hN⟩ := hv
  have hx := B.exec
  have hb := B.bytes
  have hr := B.returns
  have hts := atoms_spec (ws := w_Md_inWord) B.pre
  have hown : s.vm.findClass R_Md = some m.cls := findClass_of_methodNamed B.named
  have hlocks := B.notSynchronized
  have hT : ∀ w ∈ tb, w.before _ s = true := fun w h => hts w (List.mem_cons_of_mem _ h)
  have hS : va_S (ux_A KM ad) s.heap s.heap [] := va_S.rf
  have hl := lv_entry ([.ref (ad 0)]) (n := 3) (Nat.le_of_ble_eq_true rfl)
  rw [lg_entry_eq]
  generalize (lg_sl ([.ref (ad 0)]) ++ List.replicate (3 - (lg_sl ([.ref (ad 0)])).length) Slot.unset).toArray = ls at hl ⊢
  have hl : lv_has ls 3 [(0, .ref (ad 0))] := hl
  have hF : ∀ a b, ¬ (mRd L) a b → M a b = M a b := fun _ _ _ => rfl
  have hanI : (M 9 L).toInt = (an : Int) := by rw [han]; exact nI_toInt (by omega)
  have henI : (M 10 L).toInt = (en : Int) := by rw [hen]; exact nI_toInt (by omega)
  have hA2 : 200 ≤ A := by omega
  have hcwI : (M 14 L).toInt = (cw : Int) := by rw [hcw]; exact nI_toInt (by omega)
  refine lv_aload_n hx hb d_Md_inWord_0 rfl (lv_at hl 0 rfl) ?_
  refine ux_calli (va_runV ⟨hx, hb, hml, hown, hts⟩ (s_Md_here l D ad cA A TB hA hB  M hI L hL (hlv)) (cwV 0 hts (tb_goodV ml_Md_180 im_Md_here se_Md_here ii_Md kt_Md_here) rfl rfl rfl (by decide +kernel) ⟨Nat.le_of_ble_eq_true rfl, Nat.le_of_ble_eq_true rfl⟩) (ux_preV (by decide) rfl rfl hP hK hi hN) rfl rfl hl.1 rfl (lv_room (Nat.le_of_ble_eq_true rfl)) d_Md_inWord_1 ⟨Nat.zero_le _, Nat.zero_le _⟩) hS (fun r1 M2 H locs q3 hP hS => ?_)
  obtain ⟨hI, fq3, q3p⟩ := q3
  rw [tN_eq fq3] at hP hI
  obtain ⟨c4, hc4, ec4⟩ := nat_of (x := r1) (n := 65535) (q3p).1 (q3p).2
  subst ec4
  refine lv_istore_n hx hb d_Md_inWord_4 rfl hl (by decide) rfl (fun ls hl => ?_)
  have hl : lv_has ls 3 [(1, .int (nI c4)), (0, .ref (ad 0))] := hl
  refine lv_aload_n hx hb d_Md_inWord_5 rfl (lv_at hl 1 rfl) ?_
  refine ux_get (C := R_Md) (T := F_Md) (N := 50) hx hb hT in_Md hown hK hP (by decide) rfl rfl 15 (by decide) (hT _ fl_Md_52) rfl d_Md_inWord_6 ?_
  refine lv_aload_n hx hb d_Md_inWord_9 rfl (lv_at hl 1 rfl) ?_
  refine ux_get (C := R_Md) (T := F_Md) (N := 50) hx hb hT in_Md hown hK hP (by decide) rfl rfl 10 (by decide) (hT _ fl_Md_36) rfl d_Md_inWord_10 ?_
  refine lv_topi (fun z5 hz5 => ?_)
  rw [show M 0 10 = nI L from hlv] at hz5
  rw [hz5]
  refine ux_iald hx hb hK hP (by decide) rfl (vp_in_nI (show L < 8 by omega) (by decide)) d_Md_inWord_13 ?_
  rw [nI_clamp (n := L) (by omega)]
  refine lv_iconst (v := 1) hx hb d_Md_inWord_14 (by decide) ?_
  refine lv_icmp_ne hx hb d_Md_inWord_15 rfl (fun h6 => ?_) (fun h6 => ?_)
  · have g6 : ¬ ((M 13 L).toInt = 1) := fun q => h6 (Int32.toInt_inj.mp q)
    refine lv_iconst (v := 0) hx hb d_Md_inWord_22 (by decide) ?_
    refine lv_istore_n hx hb d_Md_inWord_23 rfl hl (by decide) rfl (fun ls hl => ?_)
    have hl : lv_has ls 3 [(2, .int 0), (1, .int (nI c4)), (0, .ref (ad 0))] := hl
    refine lv_iload_n hx hb d_Md_inWord_24 rfl (lv_at hl 0 rfl) ?_
    refine lv_if_eq hx hb d_Md_inWord_25 rfl (fun _ => ?_) (fun hz => absurd (by decide) hz)
    refine lv_aload_n hx hb d_Md_inWord_49 rfl (lv_at hl 2 rfl) ?_
    refine ux_calli (va_runV ⟨hx, hb, hml, hown, hts⟩ (s_Md_over l D ad cA A TB hA hB  M hI L hL (hlv)) (cwV 0 hts (tb_goodV ml_Md_176 im_Md_over se_Md_over ii_Md kt_Md_over) rfl rfl rfl (by decide +kernel) ⟨Nat.le_of_ble_eq_true rfl, Nat.le_of_ble_eq_true rfl⟩) (ux_preV (by decide) rfl rfl hP hK hi hN) rfl rfl hl.1 rfl (lv_room (Nat.le_of_ble_eq_true rfl)) d_Md_inWord_50 ⟨Nat.zero_le _, Nat.zero_le _⟩) hS (fun r7 M8 H locs q9 hP hS => ?_)
    obtain ⟨hI, fq9, q9p⟩ := q9
    rw [tN_eq fq9] at hP hI
    have q9i : (r7.toInt = 0 ∧ (M 9 L).toInt < (M 10 L).toInt) ∨ (r7.toInt = 1 ∧ (M 9 L).toInt ≥ (M 10 L).toInt) := by rcases q9p with ⟨q, z⟩ | ⟨q, z⟩ <;> rw [q] <;> first | exact Or.inl ⟨rfl, z⟩ | exact Or.inr ⟨rfl, z⟩
    have q9j : (M 10 L).toInt ≤ 200 := (hI.1 10 L).2
    refine lv_if_eq hx hb d_Md_inWord_53 rfl (fun h10 => ?_) (fun h10 => ?_)
    · have g10 : r7.toInt = 0 := congrArg Int32.toInt h10
      refine lv_iload_n hx hb d_Md_inWord_64 rfl (lv_at hl 0 rfl) ?_
      refine lv_if_ne hx hb d_Md_inWord_65 rfl (fun hz => absurd (by decide) hz) (fun _ => ?_)
      refine lv_iload_n hx hb d_Md_inWord_68 rfl (lv_at hl 1 rfl) ?_
      refine lv_bipush (v := 34) hx hb d_Md_inWord_69 (by decide) ?_
      refine lv_icmp_ne hx hb d_Md_inWord_71 rfl (fun h11 => ?_) (fun h11 => ?_)
      · have g11 : ¬ (((c4 : Nat) : Int) = 34) := fun q => h11 (Int32.toInt_inj.mp (by rw [nI_toInt (n := c4) (by omega)]; exact q))
        refine lv_iload_n hx hb d_Md_inWord_95 rfl (lv_at hl 1 rfl) ?_
        refine lv_bipush (v := 91) hx hb d_Md_inWord_96 (by decide) ?_
        refine lv_icmp_ne hx hb d_Md_inWord_98 rfl (fun h12 => ?_) (fun h12 => ?_)
        · have g12 : ¬ (((c4 : Nat) : Int) = 91) := fun q => h12 (Int32.toInt_inj.mp (by rw [nI_toInt (n := c4) (by omega)]; exact q))
          refine lv_aload_n hx hb d_Md_inWord_141 rfl (lv_at hl 2 rfl) ?_
          refine lv_iload_n hx hb d_Md_inWord_142 rfl (lv_at hl 1 rfl) ?_
          refine ux_callv (va_runV ⟨hx, hb, hml, hown, hts⟩ (s_Md_piece l D ad cA A TB hA hB  M hI L hL (hlv) cw (hcw) (by omega) (hob) an (han) (by omega) (hsg) (nI c4)) (cwV 1 hts (tb_goodV ml_Md_203 im_Md_piece se_Md_piece ii_Md kt_Md_piece) rfl rfl rfl (by decide +kernel) ⟨Nat.le_of_ble_eq_true rfl, Nat.le_of_ble_eq_true rfl⟩) (ux_preV (by decide) rfl rfl hP hK hi hN) rfl rfl hl.1 rfl (lv_room (Nat.le_of_ble_eq_true rfl)) d_Md_inWord_143 ⟨Nat.zero_le _, Nat.zero_le _⟩) hS (fun M14 H locs q15 hP hS => ?_)
          obtain ⟨hI, fq15, q15p⟩ := q15
          have hF := fr_call hF fq15 (fun a b q => by unfold mPi at q; unfold mRd; omega)
          exact W.vret hx hb hr (fun t ht hW => ⟨⟨M14, rfl, ⟨hI, hF, (Nx_1 ((fq15 _ _ (by unfold mPi; omega)).trans (hlv)) ⟨cw, (fq15 _ _ (by unfold mPi; omega)).trans (hcw), by omega, (fq15 _ _ (by unfold mPi; omega)).trans (hob)⟩ (fun z => by rcases q15p.1 with y | y; exact absurd (y.symm.trans z) (by decide); exact y.2) (Int.le_trans q15p.2 (by omega)))⟩, by unfold ux_E; rw [ht]; exact hP⟩, hS.F ht⟩) hS.2.2 d_Md_inWord_146
        · have g12 : ((c4 : Nat) : Int) = 91 := by have q := congrArg Int32.toInt h12; rw [nI_toInt (n := c4) (by omega)] at q; exact q
          refine lv_aload_n hx hb d_Md_inWord_101 rfl (lv_at hl 2 rfl) ?_
          refine ux_get (C := R_Md) (T := F_Md) (N := 50) hx hb hT in_Md hown hK hP (by decide) rfl rfl 11 (by decide) (hT _ fl_Md_40) rfl d_Md_inWord_102 ?_
          refine lv_aload_n hx hb d_Md_inWord_105 rfl (lv_at hl 2 rfl) ?_
          refine ux_get (C := R_Md) (T := F_Md) (N := 50) hx hb hT in_Md hown hK hP (by decide) rfl rfl 10 (by decide) (hT _ fl_Md_36) rfl d_Md_inWord_106 ?_
          refine lv_topi (fun z16 hz16 => ?_)
          rw [show M 0 10 = nI L from hlv] at hz16
          rw [hz16]
          refine lv_dup2_11 hx hb d_Md_inWord_109 rfl rfl ?_
          refine ux_iald hx hb hK hP (by decide) rfl (vp_in_nI (show L < 8 by omega) (by decide)) d_Md_inWord_110 ?_
          rw [nI_clamp (n := L) (by omega)]
          refine lv_topi (fun z17 hz17 => ?_)
          rw [show M 9 L = nI an from han] at hz17
          rw [hz17]
          refine lv_iconst (v := 1) hx hb d_Md_inWord_111 (by decide) ?_
          refine lv_iadd hx hb d_Md_inWord_112 ?_
          refine lv_topi (fun z18 hz18 => ?_)
          rw [show (nI an) + (1 : Int32) = nI (an + 1) from nI_add an 1] at hz18
          rw [hz18]
          refine ux_iast hx hb hK hi hP hS (by decide) rfl (vp_in_nI (show L < 8 by omega) (by decide)) d_Md_inWord_113 (fun H locs hP hS => ?_)
          rw [nI_clamp (n := L) (by omega)] at hP
          have hI := IvM_wr (k := 9) (j := L) (v := nI (an + 1)) hI (show (0 : Int) ≤ (nI (an + 1) : Int32).toInt from (by rw [nI_toInt (n := an + 1) (by omega)]; omega)) (show (nI (an + 1) : Int32).toInt ≤ (A : Int) from (by rw [nI_toInt (n := an + 1) (by omega)]; omega)) (by unfold okW; omega)
          have hF := fr_wr (k := 9) (j := L) (v := nI (an + 1)) hF (by unfold mRd; omega)
          generalize eM19 : ux_wr M 9 L (nI (an + 1)) = M19 at hP hI hF
          have tM19 : (M19 9 L).toInt = ((an + 1 : Nat) : Int) := by rw [wr_at eM19]; exact nI_toInt (by omega)
          refine lv_aload_n hx hb d_Md_inWord_114 rfl (lv_at hl 2 rfl) ?_
          refine lv_aload_n hx hb d_Md_inWord_115 rfl (lv_at hl 2 rfl) ?_
          refine ux_get (C := R_Md) (T := F_Md) (N := 50) hx hb hT in_Md hown hK hP (by decide) rfl rfl 11 (by decide) (hT _ fl_Md_40) rfl d_Md_inWord_116 ?_
          refine lv_aload_n hx hb d_Md_inWord_119 rfl (lv_at hl 2 rfl) ?_
          refine ux_get (C := R_Md) (T := F_Md) (N := 50) hx hb hT in_Md hown hK hP (by decide) rfl rfl 10 (by decide) (hT _ fl_Md_36) rfl d_Md_inWord_120 ?_
          refine lv_topi (fun z20 hz20 => ?_)
          rw [show M19 0 10 = nI L from (wr_off eM19 (by omega)).trans (hlv)] at hz20
          rw [hz20]
          refine ux_iald hx hb hK hP (by decide) rfl (vp_in_nI (show L < 8 by omega) (by decide)) d_Md_inWord_123 ?_
          rw [nI_clamp (n := L) (by omega)]
          refine lv_topi (fun z21 hz21 => ?_)
          rw [show M19 9 L = nI (an + 1) from wr_at eM19] at hz21
          rw [hz21]
          refine lv_aload_n hx hb d_Md_inWord_124 rfl (lv_at hl 2 rfl) ?_
          refine ux_get (C := R_Md) (T := F_Md) (N := 50) hx hb hT in_Md hown hK hP (by decide) rfl rfl 12 (by decide) (hT _ fl_Md_43) rfl d_Md_inWord_125 ?_
          refine lv_aload_n hx hb d_Md_inWord_128 rfl (lv_at hl 2 rfl) ?_
          refine ux_get (C := R_Md) (T := F_Md) (N := 50) hx hb hT in_Md hown hK hP (by decide) rfl rfl 10 (by decide) (hT _ fl_Md_36) rfl d_Md_inWord_129 ?_
          refine lv_topi (fun z22 hz22 => ?_)
          rw [show M19 0 10 = nI L from (wr_off eM19 (by omega)).trans (hlv)] at hz22
          rw [hz22]
          refine ux_iald hx hb hK hP (by decide) rfl (vp_in_nI (show L < 8 by omega) (by decide)) d_Md_inWord_132 ?_
          rw [nI_clamp (n := L) (by omega)]
          refine lv_topi (fun z23 hz23 => ?_)
          rw [show M19 10 L = nI en from (wr_off eM19 (by omega)).trans (hen)] at hz23
          rw [hz23]
          refine lv_iconst (v := 1) hx hb d_Md_inWord_133 (by decide) ?_
          refine ux_calli (va_runV ⟨hx, hb, hml, hown, hts⟩ (s_Md_enter l D ad cA A TB hA hB  M19 hI L hL ((wr_off eM19 (by omega)).trans (hlv)) (an + 1) en (by omega) (by omega) 1 (fun q => absurd q (by decide))) (cwV 3 hts (tb_goodV ml_Md_173 im_Md_enter se_Md_enter ii_Md kt_Md_enter) rfl rfl rfl (by decide +kernel) ⟨Nat.le_of_ble_eq_true rfl, Nat.le_of_ble_eq_true rfl⟩) (ux_preV (by decide) rfl rfl hP hK hi hN) rfl rfl hl.1 rfl (lv_room (Nat.le_of_ble_eq_true rfl)) d_Md_inWord_134 ⟨Nat.zero_le _, Nat.zero_le _⟩) hS (fun r24 M25 H locs q26 hP hS => ?_)
          obtain ⟨hI, fq26, q26p⟩ := q26
          have hF := fr_call hF fq26 (fun a b q => by unfold mEn at q; unfold mRd; omega)
          have q26b : r24 = 0 ∨ r24 = 1 := by rcases q26p with ⟨q, _⟩ | ⟨q, _⟩; exact Or.inr q; exact Or.inl q
          refine lv_pop hx hb d_Md_inWord_137 rfl ?_
          refine lv_goto hx hb d_Md_inWord_138 rfl ?_
          exact W.vret hx hb hr (fun t ht hW => ⟨⟨M25, rfl, ⟨hI, hF, (Nx_en ((wr_off eM19 (by omega)).trans (hlv)) ⟨cw, (wr_off eM19 (by omega)).trans (hcw), by omega, (wr_off eM19 (by omega)).trans (hob)⟩ (fun z => hm ((wr_off eM19 (by omega)).symm.trans z)) rfl rfl hz (by omega) (wr_at eM19) q26p)⟩, by unfold ux_E; rw [ht]; exact hP⟩, hS.F ht⟩) hS.2.2 d_Md_inWord_146
      · have g11 : ((c4 : Nat) : Int) = 34 := by have q := congrArg Int32.toInt h11; rw [nI_toInt (n := c4) (by omega)] at q; exact q
        refine lv_aload_n hx hb d_Md_inWord_74 rfl (lv_at hl 2 rfl) ?_
        refine ux_get (C := R_Md) (T := F_Md) (N := 50) hx hb hT in_Md hown hK hP (by decide) rfl rfl 11 (by decide) (hT _ fl_Md_40) rfl d_Md_inWord_75 ?_
        refine lv_aload_n hx hb d_Md_inWord_78 rfl (lv_at hl 2 rfl) ?_
        refine ux_get (C := R_Md) (T := F_Md) (N := 50) hx hb hT in_Md hown hK hP (by decide) rfl rfl 10 (by decide) (hT _ fl_Md_36) rfl d_Md_inWord_79 ?_
        refine lv_topi (fun z27 hz27 => ?_)
        rw [show M 0 10 = nI L from hlv] at hz27
        rw [hz27]
        refine lv_dup2_11 hx hb d_Md_inWord_82 rfl rfl ?_
        refine ux_iald hx hb hK hP (by decide) rfl (vp_in_nI (show L < 8 by omega) (by decide)) d_Md_inWord_83 ?_
        rw [nI_clamp (n := L) (by omega)]
        refine lv_topi (fun z28 hz28 => ?_)
        rw [show M 9 L = nI an from han] at hz28
        rw [hz28]
        refine lv_iconst (v := 1) hx hb d_Md_inWord_84 (by decide) ?_
        refine lv_iadd hx hb d_Md_inWord_85 ?_
        refine lv_topi (fun z29 hz29 => ?_)
        rw [show (nI an) + (1 : Int32) = nI (an + 1) from nI_add an 1] at hz29
        rw [hz29]
        refine ux_iast hx hb hK hi hP hS (by decide) rfl (vp_in_nI (show L < 8 by omega) (by decide)) d_Md_inWord_86 (fun H locs hP hS => ?_)
        rw [nI_clamp (n := L) (by omega)] at hP
        have hI := IvM_wr (k := 9) (j := L) (v := nI (an + 1)) hI (show (0 : Int) ≤ (nI (an + 1) : Int32).toInt from (by rw [nI_toInt (n := an + 1) (by omega)]; omega)) (show (nI (an + 1) : Int32).toInt ≤ (A : Int) from (by rw [nI_toInt (n := an + 1) (by omega)]; omega)) (by unfold okW; omega)
        have hF := fr_wr (k := 9) (j := L) (v := nI (an + 1)) hF (by unfold mRd; omega)
        generalize eM30 : ux_wr M 9 L (nI (an + 1)) = M30 at hP hI hF
        have tM30 : (M30 9 L).toInt = ((an + 1 : Nat) : Int) := by rw [wr_at eM30]; exact nI_toInt (by omega)
        refine lv_aload_n hx hb d_Md_inWord_87 rfl (lv_at hl 2 rfl) ?_
        refine lv_iconst (v := 1) hx hb d_Md_inWord_88 (by decide) ?_
        refine ux_callv (va_runV ⟨hx, hb, hml, hown, hts⟩ (s_Md_wordEnds l D ad cA A TB hA hB  M30 hI L hL ((wr_off eM30 (by omega)).trans (hlv)) cw ((wr_off eM30 (by omega)).trans (hcw)) (by omega) 1) (cwV 1 hts (tb_goodV ml_Md_199 im_Md_wordEnds se_Md_wordEnds ii_Md kt_Md_wordEnds) rfl rfl rfl (by decide +kernel) ⟨Nat.le_of_ble_eq_true rfl, Nat.le_of_ble_eq_true rfl⟩) (ux_preV (by decide) rfl rfl hP hK hi hN) rfl rfl hl.1 rfl (lv_room (Nat.le_of_ble_eq_true rfl)) d_Md_inWord_89 ⟨Nat.zero_le _, Nat.zero_le _⟩) hS (fun M32 H locs q33 hP hS => ?_)
        obtain ⟨hI, fq33, q33p⟩ := q33
        have hF := fr_call hF fq33 (fun a b q => by unfold mWe at q; unfold mRd; omega)
        refine lv_goto hx hb d_Md_inWord_92 rfl ?_
        exact W.vret hx hb hr (fun t ht hW => ⟨⟨M32, rfl, ⟨hI, hF, (by rcases q33p with ⟨a1, a2, a3, a4⟩ | ⟨a1, _⟩; exact Nx_1 ((fq33 _ _ (by unfold mWe; omega)).trans ((wr_off eM30 (by omega)).trans (hlv))) ⟨cw, a4.trans ((wr_off eM30 (by omega)).trans (hcw)), by omega, (fq33 _ _ (by unfold mWe; omega)).trans ((wr_off eM30 (by omega)).trans (hob))⟩ (fun _ => a2) (by rw [(fq33 _ _ (by unfold mWe; omega)).trans (wr_at eM30), nI_toInt (n := an + 1) (by omega)]; omega); exact Nx_0 ((fq33 _ _ (by unfold mWe; omega)).trans ((wr_off eM30 (by omega)).trans (hlv))) a1 (by rw [(fq33 _ _ (by unfold mWe; omega)).trans (wr_at eM30), nI_toInt (n := an + 1) (by omega)]; omega))⟩, by unfold ux_E; rw [ht]; exact hP⟩, hS.F ht⟩) hS.2.2 d_Md_inWord_146
    · have g10 : ¬ (r7.toInt = 0) := fun q => h10 (Int32.toInt_inj.mp q)
      refine lv_aload_n hx hb d_Md_inWord_56 rfl (lv_at hl 2 rfl) ?_
      refine lv_iconst (v := 1) hx hb d_Md_inWord_57 (by decide) ?_
      refine ux_callv (va_runV ⟨hx, hb, hml, hown, hts⟩ (s_Md_error l D ad cA A TB hA hB  M hI 1) (cwV 1 hts (tb_goodV ml_Md_166 im_Md_error se_Md_error ii_Md kt_Md_error) rfl rfl rfl (by decide +kernel) ⟨Nat.le_of_ble_eq_true rfl, Nat.le_of_ble_eq_true rfl⟩) (ux_preV (by decide) rfl rfl hP hK hi hN) rfl rfl hl.1 rfl (lv_room (Nat.le_of_ble_eq_true rfl)) d_Md_inWord_58 ⟨Nat.zero_le _, Nat.zero_le _⟩) hS (fun M35 H locs q36 hP hS => ?_)
      obtain ⟨hI, fq36, q36p⟩ := q36
      have hF := fr_call hF fq36 (fun a b q => by unfold mEr at q; unfold mRd; omega)
      refine lv_goto hx hb d_Md_inWord_61 rfl ?_
      exact W.vret hx hb hr (fun t ht hW => ⟨⟨M35, rfl, ⟨hI, hF, (Nx_1 ((fq36 _ _ (by unfold mEr; omega)).trans (hlv)) ⟨cw, (fq36 _ _ (by unfold mEr; omega)).trans (hcw), by omega, (fq36 _ _ (by unfold mEr; omega)).trans (hob)⟩ (fun _ => q36p.2) (by rw [(fq36 _ _ (by unfold mEr; omega)).trans (han), nI_toInt (n := an) (by omega)]; omega))⟩, by unfold ux_E; rw [ht]; exact hP⟩, hS.F ht⟩) hS.2.2 d_Md_inWord_146
  · have g6 : (M 13 L).toInt = 1 := congrArg Int32.toInt h6
    refine lv_iconst (v := 1) hx hb d_Md_inWord_18 (by decide) ?_
    refine lv_goto hx hb d_Md_inWord_19 rfl ?_
    refine lv_istore_n hx hb d_Md_inWord_23 rfl hl (by decide) rfl (fun ls hl => ?_)
    have hl : lv_has ls 3 [(2, .int 1), (1, .int (nI c4)), (0, .ref (ad 0))] := hl
    refine lv_iload_n hx hb d_Md_inWord_24 rfl (lv_at hl 0 rfl) ?_
    refine lv_if_eq hx hb d_Md_inWord_25 rfl (fun hz => absurd hz (by decide)) (fun _ => ?_)
    refine lv_aload_n hx hb d_Md_inWord_28 rfl (lv_at hl 2 rfl) ?_
    refine ux_calli (va_runV ⟨hx, hb, hml, hown, hts⟩ (s_Md_closes l D ad cA A TB hA hB  M hI L hL (hlv)) (cwV 0 hts (tb_goodV ml_Md_190 im_Md_closes se_Md_closes ii_Md kt_Md_closes) rfl rfl rfl (by decide +kernel) ⟨Nat.le_of_ble_eq_true rfl, Nat.le_of_ble_eq_true rfl⟩) (ux_preV (by decide) rfl rfl hP hK hi hN) rfl rfl hl.1 rfl (lv_room (Nat.le_of_ble_eq_true rfl)) d_Md_inWord_29 ⟨Nat.zero_le _, Nat.zero_le _⟩) hS (fun r37 M38 H locs q39 hP hS => ?_)
    obtain ⟨hI, fq39, q39p⟩ := q39
    rw [tN_eq fq39] at hP hI
    have q39i : (r37.toInt = 0 ∧ (M 9 L).toInt < (M 10 L).toInt) ∨ r37.toInt = 1 := by rcases q39p.1 with q | q <;> rw [q] <;> first | exact Or.inl ⟨rfl, q39p.2 q⟩ | exact Or.inr rfl
    have q39j : (M 10 L).toInt ≤ 200 := (hI.1 10 L).2
    refine lv_if_ne hx hb d_Md_inWord_32 rfl (fun h40 => ?_) (fun h40 => ?_)
    · have g40 : ¬ (r37.toInt = 0) := fun q => h40 (Int32.toInt_inj.mp q)
      refine lv_aload_n hx hb d_Md_inWord_41 rfl (lv_at hl 2 rfl) ?_
      refine lv_iconst (v := 0) hx hb d_Md_inWord_42 (by decide) ?_
      refine ux_callv (va_runV ⟨hx, hb, hml, hown, hts⟩ (s_Md_wordEnds l D ad cA A TB hA hB  M hI L hL (hlv) cw (hcw) (by omega) 0) (cwV 1 hts (tb_goodV ml_Md_199 im_Md_wordEnds se_Md_wordEnds ii_Md kt_Md_wordEnds) rfl rfl rfl (by decide +kernel) ⟨Nat.le_of_ble_eq_true rfl, Nat.le_of_ble_eq_true rfl⟩) (ux_preV (by decide) rfl rfl hP hK hi hN) rfl rfl hl.1 rfl (lv_room (Nat.le_of_ble_eq_true rfl)) d_Md_inWord_43 ⟨Nat.zero_le _, Nat.zero_le _⟩) hS (fun M42 H locs q43 hP hS => ?_)
      obtain ⟨hI, fq43, q43p⟩ := q43
      have hF := fr_call hF fq43 (fun a b q => by unfold mWe at q; unfold mRd; omega)
      refine lv_goto hx hb d_Md_inWord_46 rfl ?_
      exact W.vret hx hb hr (fun t ht hW => ⟨⟨M42, rfl, ⟨hI, hF, (by rcases q43p with ⟨a1, a2, a3, a4⟩ | ⟨a1, _⟩; exact Nx_1 ((fq43 _ _ (by unfold mWe; omega)).trans (hlv)) ⟨cw, a4.trans (hcw), by omega, (fq43 _ _ (by unfold mWe; omega)).trans (hob)⟩ (fun _ => a2) (by rw [(fq43 _ _ (by unfold mWe; omega)).trans (han), nI_toInt (n := an) (by omega)]; omega); exact Nx_0 ((fq43 _ _ (by unfold mWe; omega)).trans (hlv)) a1 (by rw [(fq43 _ _ (by unfold mWe; omega)).trans (han), nI_toInt (n := an) (by omega)]; omega))⟩, by unfold ux_E; rw [ht]; exact hP⟩, hS.F ht⟩) hS.2.2 d_Md_inWord_146
    · have g40 : r37.toInt = 0 := congrArg Int32.toInt h40
      refine lv_iload_n hx hb d_Md_inWord_35 rfl (lv_at hl 1 rfl) ?_
      refine lv_bipush (v := 32) hx hb d_Md_inWord_36 (by decide) ?_
      refine lv_icmp_ne hx hb d_Md_inWord_38 rfl (fun h44 => ?_) (fun h44 => ?_)
      · have g44 : ¬ (((c4 : Nat) : Int) = 32) := fun q => h44 (Int32.toInt_inj.mp (by rw [nI_toInt (n := c4) (by omega)]; exact q))
        refine lv_aload_n hx hb d_Md_inWord_49 rfl (lv_at hl 2 rfl) ?_
        refine ux_calli (va_runV ⟨hx, hb, hml, hown, hts⟩ (s_Md_over l D ad cA A TB hA hB  M hI L hL (hlv)) (cwV 0 hts (tb_goodV ml_Md_176 im_Md_over se_Md_over ii_Md kt_Md_over) rfl rfl rfl (by decide +kernel) ⟨Nat.le_of_ble_eq_true rfl, Nat.le_of_ble_eq_true rfl⟩) (ux_preV (by decide) rfl rfl hP hK hi hN) rfl rfl hl.1 rfl (lv_room (Nat.le_of_ble_eq_true rfl)) d_Md_inWord_50 ⟨Nat.zero_le _, Nat.zero_le _⟩) hS (fun r45 M46 H locs q47 hP hS => ?_)
        obtain ⟨hI, fq47, q47p⟩ := q47
        rw [tN_eq fq47] at hP hI
        have q47i : (r45.toInt = 0 ∧ (M 9 L).toInt < (M 10 L).toInt) ∨ (r45.toInt = 1 ∧ (M 9 L).toInt ≥ (M 10 L).toInt) := by rcases q47p with ⟨q, z⟩ | ⟨q, z⟩ <;> rw [q] <;> first | exact Or.inl ⟨rfl, z⟩ | exact Or.inr ⟨rfl, z⟩
        have q47j : (M 10 L).toInt ≤ 200 := (hI.1 10 L).2
        refine lv_if_eq hx hb d_Md_inWord_53 rfl (fun h48 => ?_) (fun h48 => ?_)
        · have g48 : r45.toInt = 0 := congrArg Int32.toInt h48
          refine lv_iload_n hx hb d_Md_inWord_64 rfl (lv_at hl 0 rfl) ?_
          refine lv_if_ne hx hb d_Md_inWord_65 rfl (fun _ => ?_) (fun hz => absurd hz (by decide))
          refine lv_iload_n hx hb d_Md_inWord_95 rfl (lv_at hl 1 rfl) ?_
          refine lv_bipush (v := 91) hx hb d_Md_inWord_96 (by decide) ?_
          refine lv_icmp_ne hx hb d_Md_inWord_98 rfl (fun h49 => ?_) (fun h49 => ?_)
          · have g49 : ¬ (((c4 : Nat) : Int) = 91) := fun q => h49 (Int32.toInt_inj.mp (by rw [nI_toInt (n := c4) (by omega)]; exact q))
            refine lv_aload_n hx hb d_Md_inWord_141 rfl (lv_at hl 2 rfl) ?_
            refine lv_iload_n hx hb d_Md_inWord_142 rfl (lv_at hl 1 rfl) ?_
            refine ux_callv (va_runV ⟨hx, hb, hml, hown, hts⟩ (s_Md_piece l D ad cA A TB hA hB  M hI L hL (hlv) cw (hcw) (by omega) (hob) an (han) (by omega) (hsg) (nI c4)) (cwV 1 hts (tb_goodV ml_Md_203 im_Md_piece se_Md_piece ii_Md kt_Md_piece) rfl rfl rfl (by decide +kernel) ⟨Nat.le_of_ble_eq_true rfl, Nat.le_of_ble_eq_true rfl⟩) (ux_preV (by decide) rfl rfl hP hK hi hN) rfl rfl hl.1 rfl (lv_room (Nat.le_of_ble_eq_true rfl)) d_Md_inWord_143 ⟨Nat.zero_le _, Nat.zero_le _⟩) hS (fun M51 H locs q52 hP hS => ?_)
            obtain ⟨hI, fq52, q52p⟩ := q52
            have hF := fr_call hF fq52 (fun a b q => by unfold mPi at q; unfold mRd; omega)
            exact W.vret hx hb hr (fun t ht hW => ⟨⟨M51, rfl, ⟨hI, hF, (Nx_1 ((fq52 _ _ (by unfold mPi; omega)).trans (hlv)) ⟨cw, (fq52 _ _ (by unfold mPi; omega)).trans (hcw), by omega, (fq52 _ _ (by unfold mPi; omega)).trans (hob)⟩ (fun z => by rcases q52p.1 with y | y; exact absurd (y.symm.trans z) (by decide); exact y.2) (Int.le_trans q52p.2 (by omega)))⟩, by unfold ux_E; rw [ht]; exact hP⟩, hS.F ht⟩) hS.2.2 d_Md_inWord_146
          · have g49 : ((c4 : Nat) : Int) = 91 := by have q := congrArg Int32.toInt h49; rw [nI_toInt (n := c4) (by omega)] at q; exact q
            refine lv_aload_n hx hb d_Md_inWord_101 rfl (lv_at hl 2 rfl) ?_
            refine ux_get (C := R_Md) (T := F_Md) (N := 50) hx hb hT in_Md hown hK hP (by decide) rfl rfl 11 (by decide) (hT _ fl_Md_40) rfl d_Md_inWord_102 ?_
            refine lv_aload_n hx hb d_Md_inWord_105 rfl (lv_at hl 2 rfl) ?_
            refine ux_get (C := R_Md) (T := F_Md) (N := 50) hx hb hT in_Md hown hK hP (by decide) rfl rfl 10 (by decide) (hT _ fl_Md_36) rfl d_Md_inWord_106 ?_
            refine lv_topi (fun z53 hz53 => ?_)
            rw [show M 0 10 = nI L from hlv] at hz53
            rw [hz53]
            refine lv_dup2_11 hx hb d_Md_inWord_109 rfl rfl ?_
            refine ux_iald hx hb hK hP (by decide) rfl (vp_in_nI (show L < 8 by omega) (by decide)) d_Md_inWord_110 ?_
            rw [nI_clamp (n := L) (by omega)]
            refine lv_topi (fun z54 hz54 => ?_)
            rw [show M 9 L = nI an from han] at hz54
            rw [hz54]
            refine lv_iconst (v := 1) hx hb d_Md_inWord_111 (by decide) ?_
            refine lv_iadd hx hb d_Md_inWord_112 ?_
            refine lv_topi (fun z55 hz55 => ?_)
            rw [show (nI an) + (1 : Int32) = nI (an + 1) from nI_add an 1] at hz55
            rw [hz55]
            refine ux_iast hx hb hK hi hP hS (by decide) rfl (vp_in_nI (show L < 8 by omega) (by decide)) d_Md_inWord_113 (fun H locs hP hS => ?_)
            rw [nI_clamp (n := L) (by omega)] at hP
            have hI := IvM_wr (k := 9) (j := L) (v := nI (an + 1)) hI (show (0 : Int) ≤ (nI (an + 1) : Int32).toInt from (by rw [nI_toInt (n := an + 1) (by omega)]; omega)) (show (nI (an + 1) : Int32).toInt ≤ (A : Int) from (by rw [nI_toInt (n := an + 1) (by omega)]; omega)) (by unfold okW; omega)
            have hF := fr_wr (k := 9) (j := L) (v := nI (an + 1)) hF (by unfold mRd; omega)
            generalize eM56 : ux_wr M 9 L (nI (an + 1)) = M56 at hP hI hF
            have tM56 : (M56 9 L).toInt = ((an + 1 : Nat) : Int) := by rw [wr_at eM56]; exact nI_toInt (by omega)
            refine lv_aload_n hx hb d_Md_inWord_114 rfl (lv_at hl 2 rfl) ?_
            refine lv_aload_n hx hb d_Md_inWord_115 rfl (lv_at hl 2 rfl) ?_
            refine ux_get (C := R_Md) (T := F_Md) (N := 50) hx hb hT in_Md hown hK hP (by decide) rfl rfl 11 (by decide) (hT _ fl_Md_40) rfl d_Md_inWord_116 ?_
            refine lv_aload_n hx hb d_Md_inWord_119 rfl (lv_at hl 2 rfl) ?_
            refine ux_get (C := R_Md) (T := F_Md) (N := 50) hx hb hT in_Md hown hK hP (by decide) rfl rfl 10 (by decide) (hT _ fl_Md_36) rfl d_Md_inWord_120 ?_
            refine lv_topi (fun z57 hz57 => ?_)
            rw [show M56 0 10 = nI L from (wr_off eM56 (by omega)).trans (hlv)] at hz57
            rw [hz57]
            refine ux_iald hx hb hK hP (by decide) rfl (vp_in_nI (show L < 8 by omega) (by decide)) d_Md_inWord_123 ?_
            rw [nI_clamp (n := L) (by omega)]
            refine lv_topi (fun z58 hz58 => ?_)
            rw [show M56 9 L = nI (an + 1) from wr_at eM56] at hz58
            rw [hz58]
            refine lv_aload_n hx hb d_Md_inWord_124 rfl (lv_at hl 2 rfl) ?_
            refine ux_get (C := R_Md) (T := F_Md) (N := 50) hx hb hT in_Md hown hK hP (by decide) rfl rfl 12 (by decide) (hT _ fl_Md_43) rfl d_Md_inWord_125 ?_
            refine lv_aload_n hx hb d_Md_inWord_128 rfl (lv_at hl 2 rfl) ?_
            refine ux_get (C := R_Md) (T := F_Md) (N := 50) hx hb hT in_Md hown hK hP (by decide) rfl rfl 10 (by decide) (hT _ fl_Md_36) rfl d_Md_inWord_129 ?_
            refine lv_topi (fun z59 hz59 => ?_)
            rw [show M56 0 10 = nI L from (wr_off eM56 (by omega)).trans (hlv)] at hz59
            rw [hz59]
            refine ux_iald hx hb hK hP (by decide) rfl (vp_in_nI (show L < 8 by omega) (by decide)) d_Md_inWord_132 ?_
            rw [nI_clamp (n := L) (by omega)]
            refine lv_topi (fun z60 hz60 => ?_)
            rw [show M56 10 L = nI en from (wr_off eM56 (by omega)).trans (hen)] at hz60
            rw [hz60]
            refine lv_iconst (v := 1) hx hb d_Md_inWord_133 (by decide) ?_
            refine ux_calli (va_runV ⟨hx, hb, hml, hown, hts⟩ (s_Md_enter l D ad cA A TB hA hB  M56 hI L hL ((wr_off eM56 (by omega)).trans (hlv)) (an + 1) en (by omega) (by omega) 1 (fun q => absurd q (by decide))) (cwV 3 hts (tb_goodV ml_Md_173 im_Md_enter se_Md_enter ii_Md kt_Md_enter) rfl rfl rfl (by decide +kernel) ⟨Nat.le_of_ble_eq_true rfl, Nat.le_of_ble_eq_true rfl⟩) (ux_preV (by decide) rfl rfl hP hK hi hN) rfl rfl hl.1 rfl (lv_room (Nat.le_of_ble_eq_true rfl)) d_Md_inWord_134 ⟨Nat.zero_le _, Nat.zero_le _⟩) hS (fun r61 M62 H locs q63 hP hS => ?_)
            obtain ⟨hI, fq63, q63p⟩ := q63
            have hF := fr_call hF fq63 (fun a b q => by unfold mEn at q; unfold mRd; omega)
            have q63b : r61 = 0 ∨ r61 = 1 := by rcases q63p with ⟨q, _⟩ | ⟨q, _⟩; exact Or.inr q; exact Or.inl q
            refine lv_pop hx hb d_Md_inWord_137 rfl ?_
            refine lv_goto hx hb d_Md_inWord_138 rfl ?_
            exact W.vret hx hb hr (fun t ht hW => ⟨⟨M62, rfl, ⟨hI, hF, (Nx_en ((wr_off eM56 (by omega)).trans (hlv)) ⟨cw, (wr_off eM56 (by omega)).trans (hcw), by omega, (wr_off eM56 (by omega)).trans (hob)⟩ (fun z => hm ((wr_off eM56 (by omega)).symm.trans z)) rfl rfl hz (by omega) (wr_at eM56) q63p)⟩, by unfold ux_E; rw [ht]; exact hP⟩, hS.F ht⟩) hS.2.2 d_Md_inWord_146
        · have g48 : ¬ (r45.toInt = 0) := fun q => h48 (Int32.toInt_inj.mp q)
          refine lv_aload_n hx hb d_Md_inWord_56 rfl (lv_at hl 2 rfl) ?_
          refine lv_iconst (v := 1) hx hb d_Md_inWord_57 (by decide) ?_
          refine ux_callv (va_runV ⟨hx, hb, hml, hown, hts⟩ (s_Md_error l D ad cA A TB hA hB  M hI 1) (cwV 1 hts (tb_goodV ml_Md_166 im_Md_error se_Md_error ii_Md kt_Md_error) rfl rfl rfl (by decide +kernel) ⟨Nat.le_of_ble_eq_true rfl, Nat.le_of_ble_eq_true rfl⟩) (ux_preV (by decide) rfl rfl hP hK hi hN) rfl rfl hl.1 rfl (lv_room (Nat.le_of_ble_eq_true rfl)) d_Md_inWord_58 ⟨Nat.zero_le _, Nat.zero_le _⟩) hS (fun M65 H locs q66 hP hS => ?_)
          obtain ⟨hI, fq66, q66p⟩ := q66
          have hF := fr_call hF fq66 (fun a b q => by unfold mEr at q; unfold mRd; omega)
          refine lv_goto hx hb d_Md_inWord_61 rfl ?_
          exact W.vret hx hb hr (fun t ht hW => ⟨⟨M65, rfl, ⟨hI, hF, (Nx_1 ((fq66 _ _ (by unfold mEr; omega)).trans (hlv)) ⟨cw, (fq66 _ _ (by unfold mEr; omega)).trans (hcw), by omega, (fq66 _ _ (by unfold mEr; omega)).trans (hob)⟩ (fun _ => q66p.2) (by rw [(fq66 _ _ (by unfold mEr; omega)).trans (han), nI_toInt (n := an) (by omega)]; omega))⟩, by unfold ux_E; rw [ht]; exact hP⟩, hS.F ht⟩) hS.2.2 d_Md_inWord_146
      · have g44 : ((c4 : Nat) : Int) = 32 := by have q := congrArg Int32.toInt h44; rw [nI_toInt (n := c4) (by omega)] at q; exact q
        refine lv_aload_n hx hb d_Md_inWord_41 rfl (lv_at hl 2 rfl) ?_
        refine lv_iconst (v := 0) hx hb d_Md_inWord_42 (by decide) ?_
        refine ux_callv (va_runV ⟨hx, hb, hml, hown, hts⟩ (s_Md_wordEnds l D ad cA A TB hA hB  M hI L hL (hlv) cw (hcw) (by omega) 0) (cwV 1 hts (tb_goodV ml_Md_199 im_Md_wordEnds se_Md_wordEnds ii_Md kt_Md_wordEnds) rfl rfl rfl (by decide +kernel) ⟨Nat.le_of_ble_eq_true rfl, Nat.le_of_ble_eq_true rfl⟩) (ux_preV (by decide) rfl rfl hP hK hi hN) rfl rfl hl.1 rfl (lv_room (Nat.le_of_ble_eq_true rfl)) d_Md_inWord_43 ⟨Nat.zero_le _, Nat.zero_le _⟩) hS (fun M68 H locs q69 hP hS => ?_)
        obtain ⟨hI, fq69, q69p⟩ := q69
        have hF := fr_call hF fq69 (fun a b q => by unfold mWe at q; unfold mRd; omega)
        refine lv_goto hx hb d_Md_inWord_46 rfl ?_
        exact W.vret hx hb hr (fun t ht hW => ⟨⟨M68, rfl, ⟨hI, hF, (by rcases q69p with ⟨a1, a2, a3, a4⟩ | ⟨a1, _⟩; exact Nx_1 ((fq69 _ _ (by unfold mWe; omega)).trans (hlv)) ⟨cw, a4.trans (hcw), by omega, (fq69 _ _ (by unfold mWe; omega)).trans (hob)⟩ (fun _ => a2) (by rw [(fq69 _ _ (by unfold mWe; omega)).trans (han), nI_toInt (n := an) (by omega)]; omega); exact Nx_0 ((fq69 _ _ (by unfold mWe; omega)).trans (hlv)) a1 (by rw [(fq69 _ _ (by unfold mWe; omega)).trans (han), nI_toInt (n := an) (by omega)]; omega))⟩, by unfold ux_E; rw [ht]; exact hP⟩, hS.F ht⟩) hS.2.2 d_Md_inWord_146

set_option maxHeartbeats 1600000 in
set_option maxRecDepth 100000 in
theorem s_Md_between (l : Launch) (D : va_G) (ad : Nat → Nat) (cA : Nat → ClassId) (A TB : Nat) (hA : A ≤ 100000000) (hB : TB ≤ 2000000000) (M : ux_M) (hI : IvM A TB M) (L : Nat) (hL : L ≤ 7) (hlv : M 0 10 = nI L) (Z an en cw : Nat) (han : M 9 L = nI an) (hen : M 10 L = nI en) (hcw : M 14 L = nI cw) (hz : an ≤ Z) (hz2 : 200 ≤ Z) (hzA : Z + 2 ≤ A) (hen2 : en ≤ 200) (hc8 : cw ≤ 8) (hsg : M 0 23 = 0) (hm : M 13 L = 0) : Met l y_Md_between w_Md_between ({ frames := 9, cells := 0, slots := 0, locals := 208 }) (va_Pc [.ref (ad 0)] (ux_B D shM KM ad cA M)) (va_Qv (fun M1 => IvM A TB M1 ∧ (∀ a b, ¬ (mRd L) a b → M1 a b = M a b) ∧ (Nx Z M1 L)) (ux_E D shM KM ad cA) (ux_A KM ad)) 0 0 (ux_A KM ad) := by
  refine Met.ofW (cc := b_Md_between) (maxL := 3) (ret := none) (by decide) rfl ?_
  intro p e s m args below meth c s₁ B hml hv
  obtain ⟨rfl, hP, hK, hi, hN⟩ := hv
  have hx := B.exec
  have hb := B.bytes
  have hr := B.returns
  have hts := atoms_spec (ws := w_Md_between) B.pre
  have hown : s.vm.findClass R_Md = some m.cls := findClass_of_methodNamed B.named
  have hlocks := B.notSynchronized
  have hT : ∀ w ∈ tb, w.before _ s = true := fun w h => hts w (List.mem_cons_of_mem _ h)
  have hS : va_S (ux_A KM ad) s.heap s.heap [] := va_S.rf
  have hl := lv_entry ([.ref (ad 0)]) (n := 3) (Nat.le_of_ble_eq_true rfl)
  rw [lg_entry_eq]
  generalize (lg_sl ([.ref (ad 0)]) ++ List.replicate (3 - (lg_sl ([.ref (ad 0)])).length) Slot.unset).toArray = ls at hl ⊢
  have hl : lv_has ls 3 [(0, .ref (ad 0))] := hl
  have hF : ∀ a b, ¬ (mRd L) a b → M a b = M a b := fun _ _ _ => rfl
  have hanI : (M 9 L).toInt = (an : Int) := by rw [han]; exact nI_toInt (by omega)
  have henI : (M 10 L).toInt = (en : Int) := by rw [hen]; exact nI_toInt (by omega)
  have hA2 : 200 ≤ A := by omega
  have hcwI : (M 14 L).toInt = (cw : Int) := by rw [hcw]; exact nI_toInt (by omega)
  have cut133 : ∀ (nn : Nat) (k2 : Nat) (Mc133 : ux_M) (H : Heap) (locs : List Loc) (ls : Array Slot), 20 - k2 = nn → (k2 ≤ 20) → (Mc133 0 10 = nI L) → (Mc133 13 L = 0) → (Mc133 9 L = nI (an + 1)) → va_P D classes (ux_w shM KM ad cA Mc133) H → IvM A TB Mc133 → (∀ a b, ¬ (mRd L) a b → Mc133 a b = M a b) → va_S (ux_A KM ad) s.heap H locs → lv_has ls 3 [(0, .ref (ad 0)), (2, .int (nI k2))] → W p l e (headSpec w_Md_between ({ frames := 9, cells := 0, slots := 0, locals := 208 })).room s m (([.ref (ad 0)] : List Value).toArray) below meth c H locs 0 0 (MQ below (va_Qv (fun M1 => IvM A TB M1 ∧ (∀ a b, ¬ (mRd L) a b → M1 a b = M a b) ∧ (Nx Z M1 L)) (ux_E D shM KM ad cA) (ux_A KM ad)) (([.ref (ad 0)] : List Value).toArray) s 0 0 (ux_A KM ad)) (F0 m 133 ls []) := by
    intro nn
    induction nn using Nat.strongRecOn with
    | ind nn ih133 =>
      intro k2 Mc133 H locs ls hn c133_0 c133_1 c133_2 c133_3 hP hI hF hS hl
      refine lv_iload_n hx hb d_Md_between_133 rfl (lv_at hl 1 rfl) ?_
      refine lv_aload_n hx hb d_Md_between_134 rfl (lv_at hl 0 rfl) ?_
      refine ux_get (C := R_Md) (T := F_Md) (N := 50) hx hb hT in_Md hown hK hP (by decide) rfl rfl 25 (by decide) (hT _ fl_Md_135) rfl d_Md_between_135 ?_
      refine lv_topi (fun z2 hz2 => ?_)
      obtain ⟨c1, hc1, ec1⟩ := nat_of (x := Mc133 0 25) (n := 20) (hI.1 0 25).1 (hI.1 0 25).2
      rw [ec1] at hz2
      rw [hz2]
      have tc1 : (Mc133 0 25).toInt = (c1 : Int) := by rw [ec1]; exact nI_toInt (by omega)
      refine lv_icmp_ge hx hb d_Md_between_138 rfl (fun h3 => ?_) (fun h3 => ?_)
      · have g3 : ((c1 : Nat) : Int) ≤ ((k2 : Nat) : Int) := by have q := Int32.le_iff_toInt_le.mp h3; rw [nI_toInt (n := c1) (by omega), nI_toInt (n := k2) (by omega)] at q; exact q
        refine lv_aload_n hx hb d_Md_between_167 rfl (lv_at hl 0 rfl) ?_
        refine lv_iconst (v := 2) hx hb d_Md_between_168 (by decide) ?_
        refine ux_put (C := R_Md) (T := F_Md) (N := 50) hx hb hT in_Md t_Md t_Md_ok n_Md hown hK hi hP hS (by decide) rfl rfl 23 (by decide) (hT _ fl_Md_152) rfl (rfl) (rfl) rfl d_Md_between_169 (fun H locs hP hS => ?_)
        have hI := IvM_free (k := 0) (j := 23) (v := 2) hI rfl rfl (by unfold okW; omega)
        have hF := fr_wr (k := 0) (j := 23) (v := 2) hF (by unfold mRd; omega)
        generalize eM4 : ux_wr Mc133 0 23 2 = M4 at hP hI hF
        refine lv_goto hx hb d_Md_between_172 rfl ?_
        exact W.vret hx hb hr (fun t ht hW => ⟨⟨M4, rfl, ⟨hI, hF, (Nx_0 ((wr_off eM4 (by omega)).trans (c133_1)) ((wr_off eM4 (by omega)).trans (c133_2)) (by rw [(wr_off eM4 (by omega)).trans (c133_3), nI_toInt (n := an + 1) (by omega)]; omega))⟩, by unfold ux_E; rw [ht]; exact hP⟩, hS.F ht⟩) hS.2.2 d_Md_between_188
      · have g3 : ¬ (((c1 : Nat) : Int) ≤ ((k2 : Nat) : Int)) := fun q => h3 (Int32.le_iff_toInt_le.mpr (by rw [nI_toInt (n := c1) (by omega), nI_toInt (n := k2) (by omega)]; exact q))
        refine lv_aload_n hx hb d_Md_between_141 rfl (lv_at hl 0 rfl) ?_
        refine ux_get (C := R_Md) (T := F_Md) (N := 50) hx hb hT in_Md hown hK hP (by decide) rfl rfl 26 (by decide) (hT _ fl_Md_76) rfl d_Md_between_142 ?_
        refine lv_iload_n hx hb d_Md_between_145 rfl (lv_at hl 1 rfl) ?_
        refine lv_aload_n hx hb d_Md_between_146 rfl (lv_at hl 0 rfl) ?_
        refine ux_get (C := R_Md) (T := F_Md) (N := 50) hx hb hT in_Md hown hK hP (by decide) rfl rfl 18 (by decide) (hT _ fl_Md_61) rfl d_Md_between_147 ?_
        refine lv_bipush (v := 20) hx hb d_Md_between_150 (by decide) ?_
        refine lv_aload_n hx hb d_Md_between_152 rfl (lv_at hl 0 rfl) ?_
        refine ux_get (C := R_Md) (T := F_Md) (N := 50) hx hb hT in_Md hown hK hP (by decide) rfl rfl 10 (by decide) (hT _ fl_Md_36) rfl d_Md_between_153 ?_
        refine lv_topi (fun z5 hz5 => ?_)
        rw [show Mc133 0 10 = nI L from c133_1] at hz5
        rw [hz5]
        refine lv_imul hx hb d_Md_between_156 ?_
        refine lv_topi (fun z6 hz6 => ?_)
        rw [show (20 : Int32) * (nI L) = nI (20 * L) from pk_mul 20 L] at hz6
        rw [hz6]
        refine lv_iload_n hx hb d_Md_between_157 rfl (lv_at hl 1 rfl) ?_
        refine lv_iadd hx hb d_Md_between_158 ?_
        refine lv_topi (fun z7 hz7 => ?_)
        rw [show (nI (20 * L)) + (nI k2) = nI ((20 * L) + k2) from nI_add (20 * L) k2] at hz7
        rw [hz7]
        refine ux_cald hx hb hK hP (by decide) rfl (vp_in_nI (show (20 * L) + k2 < 160 by omega) (by decide)) d_Md_between_159 ?_
        rw [nI_clamp (n := (20 * L) + k2) (by omega)]
        refine lv_topi (fun z9 hz9 => ?_)
        obtain ⟨c8, hc8, ec8⟩ := nat_of (x := Mc133 16 ((20 * L) + k2)) (n := 65535) (hI.1 16 ((20 * L) + k2)).1 (hI.1 16 ((20 * L) + k2)).2
        rw [ec8] at hz9
        rw [hz9]
        have tc8 : (Mc133 16 ((20 * L) + k2)).toInt = (c8 : Int) := by rw [ec8]; exact nI_toInt (by omega)
        refine ux_cast hx hb hK hi hP hS (by decide) rfl (vp_in_nI (show k2 < 20 by omega) (by decide)) d_Md_between_160 (fun H locs hP hS => ?_)
        have b10 := nar_c (nI c8)
        rw [nI_clamp (n := k2) (by omega)] at hP
        have hI := IvM_wr (k := 21) (j := k2) (v := vp_nar .char (nI c8)) hI (show (0 : Int) ≤ (vp_nar .char (nI c8) : Int32).toInt from (by omega)) (show (vp_nar .char (nI c8) : Int32).toInt ≤ (65535 : Int) from (by omega)) (by unfold okW; omega)
        have hF := fr_wr (k := 21) (j := k2) (v := vp_nar .char (nI c8)) hF (by unfold mRd; omega)
        generalize eM11 : ux_wr Mc133 21 k2 (vp_nar .char (nI c8)) = M11 at hP hI hF
        have tM11 : (M11 21 k2).toInt = (vp_nar .char (nI c8)).toInt := by rw [wr_at eM11]
        refine lv_iinc (k := 1) (v := nI (k2 + 1)) hx hb d_Md_between_161 hl rfl (nI_add k2 1) (by decide) rfl (fun ls hl => ?_)
        have hl : lv_has ls 3 [(2, .int (nI (k2 + 1))), (0, .ref (ad 0))] := hl
        refine lv_goto hx hb d_Md_between_164 rfl ?_
        exact ih133 (20 - (k2 + 1)) (by omega) (k2 + 1) M11 _ _ ls rfl (show (k2 + 1) ≤ 20 from by first | omega | assumption | exact Or.inl rfl | exact Or.inr rfl | rfl | decide) (show M11 0 10 = nI L from by first | exact ((wr_off eM11 (by omega)).trans (c133_1))) (show M11 13 L = 0 from by first | exact (wr_off eM11 (by omega)).trans (c133_2)) (show M11 9 L = nI (an + 1) from by first | exact (wr_off eM11 (by omega)).trans (c133_3)) hP hI hF hS (lv_sub hl [1, 0] rfl)
  refine lv_aload_n hx hb d_Md_between_0 rfl (lv_at hl 0 rfl) ?_
  refine ux_calli (va_runV ⟨hx, hb, hml, hown, hts⟩ (s_Md_here l D ad cA A TB hA hB  M hI L hL (hlv)) (cwV 0 hts (tb_goodV ml_Md_180 im_Md_here se_Md_here ii_Md kt_Md_here) rfl rfl rfl (by decide +kernel) ⟨Nat.le_of_ble_eq_true rfl, Nat.le_of_ble_eq_true rfl⟩) (ux_preV (by decide) rfl rfl hP hK hi hN) rfl rfl hl.1 rfl (lv_room (Nat.le_of_ble_eq_true rfl)) d_Md_between_1 ⟨Nat.zero_le _, Nat.zero_le _⟩) hS (fun r12 M13 H locs q14 hP hS => ?_)
  obtain ⟨hI, fq14, q14p⟩ := q14
  rw [tN_eq fq14] at hP hI
  obtain ⟨c15, hc15, ec15⟩ := nat_of (x := r12) (n := 65535) (q14p).1 (q14p).2
  subst ec15
  refine lv_istore_n hx hb d_Md_between_4 rfl hl (by decide) rfl (fun ls hl => ?_)
  have hl : lv_has ls 3 [(1, .int (nI c15)), (0, .ref (ad 0))] := hl
  refine lv_aload_n hx hb d_Md_between_5 rfl (lv_at hl 1 rfl) ?_
  refine ux_calli (va_runV ⟨hx, hb, hml, hown, hts⟩ (s_Md_closes l D ad cA A TB hA hB  M hI L hL (hlv)) (cwV 0 hts (tb_goodV ml_Md_190 im_Md_closes se_Md_closes ii_Md kt_Md_closes) rfl rfl rfl (by decide +kernel) ⟨Nat.le_of_ble_eq_true rfl, Nat.le_of_ble_eq_true rfl⟩) (ux_preV (by decide) rfl rfl hP hK hi hN) rfl rfl hl.1 rfl (lv_room (Nat.le_of_ble_eq_true rfl)) d_Md_between_6 ⟨Nat.zero_le _, Nat.zero_le _⟩) hS (fun r16 M17 H locs q18 hP hS => ?_)
  obtain ⟨hI, fq18, q18p⟩ := q18
  rw [tN_eq fq18] at hP hI
  have q18i : (r16.toInt = 0 ∧ (M 9 L).toInt < (M 10 L).toInt) ∨ r16.toInt = 1 := by rcases q18p.1 with q | q <;> rw [q] <;> first | exact Or.inl ⟨rfl, q18p.2 q⟩ | exact Or.inr rfl
  have q18j : (M 10 L).toInt ≤ 200 := (hI.1 10 L).2
  refine lv_if_ne hx hb d_Md_between_9 rfl (fun h19 => ?_) (fun h19 => ?_)
  · have g19 : ¬ (r16.toInt = 0) := fun q => h19 (Int32.toInt_inj.mp q)
    refine lv_aload_n hx hb d_Md_between_40 rfl (lv_at hl 1 rfl) ?_
    refine ux_calli (va_runV ⟨hx, hb, hml, hown, hts⟩ (s_Md_over l D ad cA A TB hA hB  M hI L hL (hlv)) (cwV 0 hts (tb_goodV ml_Md_176 im_Md_over se_Md_over ii_Md kt_Md_over) rfl rfl rfl (by decide +kernel) ⟨Nat.le_of_ble_eq_true rfl, Nat.le_of_ble_eq_true rfl⟩) (ux_preV (by decide) rfl rfl hP hK hi hN) rfl rfl hl.1 rfl (lv_room (Nat.le_of_ble_eq_true rfl)) d_Md_between_41 ⟨Nat.zero_le _, Nat.zero_le _⟩) hS (fun r20 M21 H locs q22 hP hS => ?_)
    obtain ⟨hI, fq22, q22p⟩ := q22
    rw [tN_eq fq22] at hP hI
    have q22i : (r20.toInt = 0 ∧ (M 9 L).toInt < (M 10 L).toInt) ∨ (r20.toInt = 1 ∧ (M 9 L).toInt ≥ (M 10 L).toInt) := by rcases q22p with ⟨q, z⟩ | ⟨q, z⟩ <;> rw [q] <;> first | exact Or.inl ⟨rfl, z⟩ | exact Or.inr ⟨rfl, z⟩
    have q22j : (M 10 L).toInt ≤ 200 := (hI.1 10 L).2
    refine lv_if_eq hx hb d_Md_between_44 rfl (fun h23 => ?_) (fun h23 => ?_)
    · have g23 : r20.toInt = 0 := congrArg Int32.toInt h23
      refine lv_aload_n hx hb d_Md_between_68 rfl (lv_at hl 1 rfl) ?_
      refine ux_get (C := R_Md) (T := F_Md) (N := 50) hx hb hT in_Md hown hK hP (by decide) rfl rfl 16 (by decide) (hT _ fl_Md_55) rfl d_Md_between_69 ?_
      refine lv_aload_n hx hb d_Md_between_72 rfl (lv_at hl 1 rfl) ?_
      refine ux_get (C := R_Md) (T := F_Md) (N := 50) hx hb hT in_Md hown hK hP (by decide) rfl rfl 10 (by decide) (hT _ fl_Md_36) rfl d_Md_between_73 ?_
      refine lv_topi (fun z24 hz24 => ?_)
      rw [show M 0 10 = nI L from hlv] at hz24
      rw [hz24]
      refine ux_iald hx hb hK hP (by decide) rfl (vp_in_nI (show L < 8 by omega) (by decide)) d_Md_between_76 ?_
      rw [nI_clamp (n := L) (by omega)]
      refine lv_topi (fun z25 hz25 => ?_)
      rw [show M 14 L = nI cw from hcw] at hz25
      rw [hz25]
      refine lv_if_le hx hb d_Md_between_77 rfl (fun h26 => ?_) (fun h26 => ?_)
      · have g26 : ((cw : Nat) : Int) ≤ 0 := by have q := Int32.le_iff_toInt_le.mp h26; rw [nI_toInt (n := cw) (by omega)] at q; exact q
        refine lv_aload_n hx hb d_Md_between_87 rfl (lv_at hl 1 rfl) ?_
        refine ux_calli (va_runV ⟨hx, hb, hml, hown, hts⟩ (s_Md_over l D ad cA A TB hA hB  M hI L hL (hlv)) (cwV 0 hts (tb_goodV ml_Md_176 im_Md_over se_Md_over ii_Md kt_Md_over) rfl rfl rfl (by decide +kernel) ⟨Nat.le_of_ble_eq_true rfl, Nat.le_of_ble_eq_true rfl⟩) (ux_preV (by decide) rfl rfl hP hK hi hN) rfl rfl hl.1 rfl (lv_room (Nat.le_of_ble_eq_true rfl)) d_Md_between_88 ⟨Nat.zero_le _, Nat.zero_le _⟩) hS (fun r27 M28 H locs q29 hP hS => ?_)
        obtain ⟨hI, fq29, q29p⟩ := q29
        rw [tN_eq fq29] at hP hI
        have q29i : (r27.toInt = 0 ∧ (M 9 L).toInt < (M 10 L).toInt) ∨ (r27.toInt = 1 ∧ (M 9 L).toInt ≥ (M 10 L).toInt) := by rcases q29p with ⟨q, z⟩ | ⟨q, z⟩ <;> rw [q] <;> first | exact Or.inl ⟨rfl, z⟩ | exact Or.inr ⟨rfl, z⟩
        have q29j : (M 10 L).toInt ≤ 200 := (hI.1 10 L).2
        refine lv_if_ne hx hb d_Md_between_91 rfl (fun h30 => ?_) (fun h30 => ?_)
        · have g30 : ¬ (r27.toInt = 0) := fun q => h30 (Int32.toInt_inj.mp q)
          refine lv_aload_n hx hb d_Md_between_100 rfl (lv_at hl 1 rfl) ?_
          refine ux_get (C := R_Md) (T := F_Md) (N := 50) hx hb hT in_Md hown hK hP (by decide) rfl rfl 11 (by decide) (hT _ fl_Md_40) rfl d_Md_between_101 ?_
          refine lv_aload_n hx hb d_Md_between_104 rfl (lv_at hl 1 rfl) ?_
          refine ux_get (C := R_Md) (T := F_Md) (N := 50) hx hb hT in_Md hown hK hP (by decide) rfl rfl 10 (by decide) (hT _ fl_Md_36) rfl d_Md_between_105 ?_
          refine lv_topi (fun z31 hz31 => ?_)
          rw [show M 0 10 = nI L from hlv] at hz31
          rw [hz31]
          refine lv_dup2_11 hx hb d_Md_between_108 rfl rfl ?_
          refine ux_iald hx hb hK hP (by decide) rfl (vp_in_nI (show L < 8 by omega) (by decide)) d_Md_between_109 ?_
          rw [nI_clamp (n := L) (by omega)]
          refine lv_topi (fun z32 hz32 => ?_)
          rw [show M 9 L = nI an from han] at hz32
          rw [hz32]
          refine lv_iconst (v := 1) hx hb d_Md_between_110 (by decide) ?_
          refine lv_iadd hx hb d_Md_between_111 ?_
          refine lv_topi (fun z33 hz33 => ?_)
          rw [show (nI an) + (1 : Int32) = nI (an + 1) from nI_add an 1] at hz33
          rw [hz33]
          refine ux_iast hx hb hK hi hP hS (by decide) rfl (vp_in_nI (show L < 8 by omega) (by decide)) d_Md_between_112 (fun H locs hP hS => ?_)
          rw [nI_clamp (n := L) (by omega)] at hP
          have hI := IvM_wr (k := 9) (j := L) (v := nI (an + 1)) hI (show (0 : Int) ≤ (nI (an + 1) : Int32).toInt from (by rw [nI_toInt (n := an + 1) (by omega)]; omega)) (show (nI (an + 1) : Int32).toInt ≤ (A : Int) from (by rw [nI_toInt (n := an + 1) (by omega)]; omega)) (by unfold okW; omega)
          have hF := fr_wr (k := 9) (j := L) (v := nI (an + 1)) hF (by unfold mRd; omega)
          generalize eM34 : ux_wr M 9 L (nI (an + 1)) = M34 at hP hI hF
          have tM34 : (M34 9 L).toInt = ((an + 1 : Nat) : Int) := by rw [wr_at eM34]; exact nI_toInt (by omega)
          refine lv_aload_n hx hb d_Md_between_113 rfl (lv_at hl 1 rfl) ?_
          refine lv_iconst (v := 0) hx hb d_Md_between_114 (by decide) ?_
          refine ux_put (C := R_Md) (T := F_Md) (N := 50) hx hb hT in_Md t_Md t_Md_ok n_Md hown hK hi hP hS (by decide) rfl rfl 24 (by decide) (hT _ fl_Md_149) rfl (rfl) (rfl) rfl d_Md_between_115 (fun H locs hP hS => ?_)
          have hI := IvM_free (k := 0) (j := 24) (v := 0) hI rfl rfl (by unfold okW; omega)
          have hF := fr_wr (k := 0) (j := 24) (v := 0) hF (by unfold mRd; omega)
          generalize eM35 : ux_wr M34 0 24 0 = M35 at hP hI hF
          refine lv_aload_n hx hb d_Md_between_118 rfl (lv_at hl 1 rfl) ?_
          refine lv_aload_n hx hb d_Md_between_119 rfl (lv_at hl 1 rfl) ?_
          refine ux_get (C := R_Md) (T := F_Md) (N := 50) hx hb hT in_Md hown hK hP (by decide) rfl rfl 17 (by decide) (hT _ fl_Md_58) rfl d_Md_between_120 ?_
          refine lv_aload_n hx hb d_Md_between_123 rfl (lv_at hl 1 rfl) ?_
          refine ux_get (C := R_Md) (T := F_Md) (N := 50) hx hb hT in_Md hown hK hP (by decide) rfl rfl 10 (by decide) (hT _ fl_Md_36) rfl d_Md_between_124 ?_
          refine lv_topi (fun z36 hz36 => ?_)
          rw [show M35 0 10 = nI L from (wr_off eM35 (by omega)).trans ((wr_off eM34 (by omega)).trans (hlv))] at hz36
          rw [hz36]
          refine ux_iald hx hb hK hP (by decide) rfl (vp_in_nI (show L < 8 by omega) (by decide)) d_Md_between_127 ?_
          rw [nI_clamp (n := L) (by omega)]
          refine lv_topi (fun z38 hz38 => ?_)
          obtain ⟨c37, hc37, ec37⟩ := nat_of (x := M35 15 L) (n := 20) (hI.1 15 L).1 (hI.1 15 L).2
          rw [ec37] at hz38
          rw [hz38]
          have tc37 : (M35 15 L).toInt = (c37 : Int) := by rw [ec37]; exact nI_toInt (by omega)
          refine ux_put (C := R_Md) (T := F_Md) (N := 50) hx hb hT in_Md t_Md t_Md_ok n_Md hown hK hi hP hS (by decide) rfl rfl 25 (by decide) (hT _ fl_Md_135) rfl (rfl) (rfl) rfl d_Md_between_128 (fun H locs hP hS => ?_)
          have hI := IvM_wr (k := 0) (j := 25) (v := nI c37) hI (show (0 : Int) ≤ (nI c37 : Int32).toInt from (by rw [nI_toInt (n := c37) (by omega)]; omega)) (show (nI c37 : Int32).toInt ≤ (20 : Int) from (by rw [nI_toInt (n := c37) (by omega)]; omega)) (by unfold okW; omega)
          have hF := fr_wr (k := 0) (j := 25) (v := nI c37) hF (by unfold mRd; omega)
          generalize eM39 : ux_wr M35 0 25 (nI c37) = M39 at hP hI hF
          have tM39 : (M39 0 25).toInt = ((c37 : Nat) : Int) := by rw [wr_at eM39]; exact nI_toInt (by omega)
          refine lv_iconst (v := 0) hx hb d_Md_between_131 (by decide) ?_
          refine lv_istore_n hx hb d_Md_between_132 rfl hl (by decide) rfl (fun ls hl => ?_)
          have hl : lv_has ls 3 [(2, .int 0), (1, .int (nI c15)), (0, .ref (ad 0))] := hl
          exact cut133 (20 - 0) 0 M39 _ _ ls rfl (show 0 ≤ 20 from by first | omega | assumption | exact Or.inl rfl | exact Or.inr rfl | rfl | decide) (show M39 0 10 = nI L from by first | exact ((wr_off eM39 (by omega)).trans ((wr_off eM35 (by omega)).trans ((wr_off eM34 (by omega)).trans (hlv))))) (show M39 13 L = 0 from by first | exact (wr_off eM39 (by omega)).trans ((wr_off eM35 (by omega)).trans ((wr_off eM34 (by omega)).trans (hm)))) (show M39 9 L = nI (an + 1) from by first | exact (wr_off eM39 (by omega)).trans ((wr_off eM35 (by omega)).trans (wr_at eM34))) hP hI hF hS (lv_sub hl [2, 0] rfl)
        · have g30 : r27.toInt = 0 := congrArg Int32.toInt h30
          refine lv_iload_n hx hb d_Md_between_94 rfl (lv_at hl 0 rfl) ?_
          refine lv_bipush (v := 93) hx hb d_Md_between_95 (by decide) ?_
          refine lv_icmp_ne hx hb d_Md_between_97 rfl (fun h40 => ?_) (fun h40 => ?_)
          · have g40 : ¬ (((c15 : Nat) : Int) = 93) := fun q => h40 (Int32.toInt_inj.mp (by rw [nI_toInt (n := c15) (by omega)]; exact q))
            refine lv_aload_n hx hb d_Md_between_175 rfl (lv_at hl 1 rfl) ?_
            refine ux_get (C := R_Md) (T := F_Md) (N := 50) hx hb hT in_Md hown hK hP (by decide) rfl rfl 11 (by decide) (hT _ fl_Md_40) rfl d_Md_between_176 ?_
            refine lv_aload_n hx hb d_Md_between_179 rfl (lv_at hl 1 rfl) ?_
            refine ux_get (C := R_Md) (T := F_Md) (N := 50) hx hb hT in_Md hown hK hP (by decide) rfl rfl 10 (by decide) (hT _ fl_Md_36) rfl d_Md_between_180 ?_
            refine lv_topi (fun z41 hz41 => ?_)
            rw [show M 0 10 = nI L from hlv] at hz41
            rw [hz41]
            refine lv_dup2_11 hx hb d_Md_between_183 rfl rfl ?_
            refine ux_iald hx hb hK hP (by decide) rfl (vp_in_nI (show L < 8 by omega) (by decide)) d_Md_between_184 ?_
            rw [nI_clamp (n := L) (by omega)]
            refine lv_topi (fun z42 hz42 => ?_)
            rw [show M 9 L = nI an from han] at hz42
            rw [hz42]
            refine lv_iconst (v := 1) hx hb d_Md_between_185 (by decide) ?_
            refine lv_iadd hx hb d_Md_between_186 ?_
            refine lv_topi (fun z43 hz43 => ?_)
            rw [show (nI an) + (1 : Int32) = nI (an + 1) from nI_add an 1] at hz43
            rw [hz43]
            refine ux_iast hx hb hK hi hP hS (by decide) rfl (vp_in_nI (show L < 8 by omega) (by decide)) d_Md_between_187 (fun H locs hP hS => ?_)
            rw [nI_clamp (n := L) (by omega)] at hP
            have hI := IvM_wr (k := 9) (j := L) (v := nI (an + 1)) hI (show (0 : Int) ≤ (nI (an + 1) : Int32).toInt from (by rw [nI_toInt (n := an + 1) (by omega)]; omega)) (show (nI (an + 1) : Int32).toInt ≤ (A : Int) from (by rw [nI_toInt (n := an + 1) (by omega)]; omega)) (by unfold okW; omega)
            have hF := fr_wr (k := 9) (j := L) (v := nI (an + 1)) hF (by unfold mRd; omega)
            generalize eM44 : ux_wr M 9 L (nI (an + 1)) = M44 at hP hI hF
            have tM44 : (M44 9 L).toInt = ((an + 1 : Nat) : Int) := by rw [wr_at eM44]; exact nI_toInt (by omega)
            exact W.vret hx hb hr (fun t ht hW => ⟨⟨M44, rfl, ⟨hI, hF, (Nx_0 ((wr_off eM44 (by omega)).trans (hlv)) ((wr_off eM44 (by omega)).trans (hm)) (by rw [wr_at eM44, nI_toInt (n := an + 1) (by omega)]; omega))⟩, by unfold ux_E; rw [ht]; exact hP⟩, hS.F ht⟩) hS.2.2 d_Md_between_188
          · have g40 : ((c15 : Nat) : Int) = 93 := by have q := congrArg Int32.toInt h40; rw [nI_toInt (n := c15) (by omega)] at q; exact q
            refine lv_aload_n hx hb d_Md_between_100 rfl (lv_at hl 1 rfl) ?_
            refine ux_get (C := R_Md) (T := F_Md) (N := 50) hx hb hT in_Md hown hK hP (by decide) rfl rfl 11 (by decide) (hT _ fl_Md_40) rfl d_Md_between_101 ?_
            refine lv_aload_n hx hb d_Md_between_104 rfl (lv_at hl 1 rfl) ?_
            refine ux_get (C := R_Md) (T := F_Md) (N := 50) hx hb hT in_Md hown hK hP (by decide) rfl rfl 10 (by decide) (hT _ fl_Md_36) rfl d_Md_between_105 ?_
            refine lv_topi (fun z45 hz45 => ?_)
            rw [show M 0 10 = nI L from hlv] at hz45
            rw [hz45]
            refine lv_dup2_11 hx hb d_Md_between_108 rfl rfl ?_
            refine ux_iald hx hb hK hP (by decide) rfl (vp_in_nI (show L < 8 by omega) (by decide)) d_Md_between_109 ?_
            rw [nI_clamp (n := L) (by omega)]
            refine lv_topi (fun z46 hz46 => ?_)
            rw [show M 9 L = nI an from han] at hz46
            rw [hz46]
            refine lv_iconst (v := 1) hx hb d_Md_between_110 (by decide) ?_
            refine lv_iadd hx hb d_Md_between_111 ?_
            refine lv_topi (fun z47 hz47 => ?_)
            rw [show (nI an) + (1 : Int32) = nI (an + 1) from nI_add an 1] at hz47
            rw [hz47]
            refine ux_iast hx hb hK hi hP hS (by decide) rfl (vp_in_nI (show L < 8 by omega) (by decide)) d_Md_between_112 (fun H locs hP hS => ?_)
            rw [nI_clamp (n := L) (by omega)] at hP
            have hI := IvM_wr (k := 9) (j := L) (v := nI (an + 1)) hI (show (0 : Int) ≤ (nI (an + 1) : Int32).toInt from (by rw [nI_toInt (n := an + 1) (by omega)]; omega)) (show (nI (an + 1) : Int32).toInt ≤ (A : Int) from (by rw [nI_toInt (n := an + 1) (by omega)]; omega)) (by unfold okW; omega)
            have hF := fr_wr (k := 9) (j := L) (v := nI (an + 1)) hF (by unfold mRd; omega)
            generalize eM48 : ux_wr M 9 L (nI (an + 1)) = M48 at hP hI hF
            have tM48 : (M48 9 L).toInt = ((an + 1 : Nat) : Int) := by rw [wr_at eM48]; exact nI_toInt (by omega)
            refine lv_aload_n hx hb d_Md_between_113 rfl (lv_at hl 1 rfl) ?_
            refine lv_iconst (v := 0) hx hb d_Md_between_114 (by decide) ?_
            refine ux_put (C := R_Md) (T := F_Md) (N := 50) hx hb hT in_Md t_Md t_Md_ok n_Md hown hK hi hP hS (by decide) rfl rfl 24 (by decide) (hT _ fl_Md_149) rfl (rfl) (rfl) rfl d_Md_between_115 (fun H locs hP hS => ?_)
            have hI := IvM_free (k := 0) (j := 24) (v := 0) hI rfl rfl (by unfold okW; omega)
            have hF := fr_wr (k := 0) (j := 24) (v := 0) hF (by unfold mRd; omega)
            generalize eM49 : ux_wr M48 0 24 0 = M49 at hP hI hF
            refine lv_aload_n hx hb d_Md_between_118 rfl (lv_at hl 1 rfl) ?_
            refine lv_aload_n hx hb d_Md_between_119 rfl (lv_at hl 1 rfl) ?_
            refine ux_get (C := R_Md) (T := F_Md) (N := 50) hx hb hT in_Md hown hK hP (by decide) rfl rfl 17 (by decide) (hT _ fl_Md_58) rfl d_Md_between_120 ?_
            refine lv_aload_n hx hb d_Md_between_123 rfl (lv_at hl 1 rfl) ?_
            refine ux_get (C := R_Md) (T := F_Md) (N := 50) hx hb hT in_Md hown hK hP (by decide) rfl rfl 10 (by decide) (hT _ fl_Md_36) rfl d_Md_between_124 ?_
            refine lv_topi (fun z50 hz50 => ?_)
            rw [show M49 0 10 = nI L from (wr_off eM49 (by omega)).trans ((wr_off eM48 (by omega)).trans (hlv))] at hz50
            rw [hz50]
            refine ux_iald hx hb hK hP (by decide) rfl (vp_in_nI (show L < 8 by omega) (by decide)) d_Md_between_127 ?_
            rw [nI_clamp (n := L) (by omega)]
            refine lv_topi (fun z52 hz52 => ?_)
            obtain ⟨c51, hc51, ec51⟩ := nat_of (x := M49 15 L) (n := 20) (hI.1 15 L).1 (hI.1 15 L).2
            rw [ec51] at hz52
            rw [hz52]
            have tc51 : (M49 15 L).toInt = (c51 : Int) := by rw [ec51]; exact nI_toInt (by omega)
            refine ux_put (C := R_Md) (T := F_Md) (N := 50) hx hb hT in_Md t_Md t_Md_ok n_Md hown hK hi hP hS (by decide) rfl rfl 25 (by decide) (hT _ fl_Md_135) rfl (rfl) (rfl) rfl d_Md_between_128 (fun H locs hP hS => ?_)
            have hI := IvM_wr (k := 0) (j := 25) (v := nI c51) hI (show (0 : Int) ≤ (nI c51 : Int32).toInt from (by rw [nI_toInt (n := c51) (by omega)]; omega)) (show (nI c51 : Int32).toInt ≤ (20 : Int) from (by rw [nI_toInt (n := c51) (by omega)]; omega)) (by unfold okW; omega)
            have hF := fr_wr (k := 0) (j := 25) (v := nI c51) hF (by unfold mRd; omega)
            generalize eM53 : ux_wr M49 0 25 (nI c51) = M53 at hP hI hF
            have tM53 : (M53 0 25).toInt = ((c51 : Nat) : Int) := by rw [wr_at eM53]; exact nI_toInt (by omega)
            refine lv_iconst (v := 0) hx hb d_Md_between_131 (by decide) ?_
            refine lv_istore_n hx hb d_Md_between_132 rfl hl (by decide) rfl (fun ls hl => ?_)
            have hl : lv_has ls 3 [(2, .int 0), (1, .int (nI c15)), (0, .ref (ad 0))] := hl
            exact cut133 (20 - 0) 0 M53 _ _ ls rfl (show 0 ≤ 20 from by first | omega | assumption | exact Or.inl rfl | exact Or.inr rfl | rfl | decide) (show M53 0 10 = nI L from by first | exact ((wr_off eM53 (by omega)).trans ((wr_off eM49 (by omega)).trans ((wr_off eM48 (by omega)).trans (hlv))))) (show M53 13 L = 0 from by first | exact (wr_off eM53 (by omega)).trans ((wr_off eM49 (by omega)).trans ((wr_off eM48 (by omega)).trans (hm)))) (show M53 9 L = nI (an + 1) from by first | exact (wr_off eM53 (by omega)).trans ((wr_off eM49 (by omega)).trans (wr_at eM48))) hP hI hF hS (lv_sub hl [2, 0] rfl)
      · have g26 : ¬ (((cw : Nat) : Int) ≤ 0) := fun q => h26 (Int32.le_iff_toInt_le.mpr (by rw [nI_toInt (n := cw) (by omega)]; exact q))
        refine lv_aload_n hx hb d_Md_between_80 rfl (lv_at hl 1 rfl) ?_
        refine ux_callv (va_runV ⟨hx, hb, hml, hown, hts⟩ (s_Md_command l D ad cA A TB hA hB  M hI L hL (hlv) hA2) (cwV 0 hts (tb_goodV ml_Md_196 im_Md_command se_Md_command ii_Md kt_Md_command) rfl rfl rfl (by decide +kernel) ⟨Nat.le_of_ble_eq_true rfl, Nat.le_of_ble_eq_true rfl⟩) (ux_preV (by decide) rfl rfl hP hK hi hN) rfl rfl hl.1 rfl (lv_room (Nat.le_of_ble_eq_true rfl)) d_Md_between_81 ⟨Nat.zero_le _, Nat.zero_le _⟩) hS (fun M55 H locs q56 hP hS => ?_)
        obtain ⟨hI, fq56, q56p⟩ := q56
        have hF := fr_call hF fq56 (fun a b q => by unfold mCm at q; unfold mRd; omega)
        refine lv_goto hx hb d_Md_between_84 rfl ?_
        exact W.vret hx hb hr (fun t ht hW => ⟨⟨M55, rfl, ⟨hI, hF, (OutS_Nx fq56 hm (by omega) hz2 q56p)⟩, by unfold ux_E; rw [ht]; exact hP⟩, hS.F ht⟩) hS.2.2 d_Md_between_188
    · have g23 : ¬ (r20.toInt = 0) := fun q => h23 (Int32.toInt_inj.mp q)
      refine lv_aload_n hx hb d_Md_between_47 rfl (lv_at hl 1 rfl) ?_
      refine ux_get (C := R_Md) (T := F_Md) (N := 50) hx hb hT in_Md hown hK hP (by decide) rfl rfl 13 (by decide) (hT _ fl_Md_46) rfl d_Md_between_48 ?_
      refine lv_aload_n hx hb d_Md_between_51 rfl (lv_at hl 1 rfl) ?_
      refine ux_get (C := R_Md) (T := F_Md) (N := 50) hx hb hT in_Md hown hK hP (by decide) rfl rfl 10 (by decide) (hT _ fl_Md_36) rfl d_Md_between_52 ?_
      refine lv_topi (fun z57 hz57 => ?_)
      rw [show M 0 10 = nI L from hlv] at hz57
      rw [hz57]
      refine ux_iald hx hb hK hP (by decide) rfl (vp_in_nI (show L < 8 by omega) (by decide)) d_Md_between_55 ?_
      rw [nI_clamp (n := L) (by omega)]
      refine lv_iconst (v := 1) hx hb d_Md_between_56 (by decide) ?_
      refine lv_icmp_ne hx hb d_Md_between_57 rfl (fun h58 => ?_) (fun h58 => ?_)
      · have g58 : ¬ ((M 11 L).toInt = 1) := fun q => h58 (Int32.toInt_inj.mp q)
        refine lv_aload_n hx hb d_Md_between_68 rfl (lv_at hl 1 rfl) ?_
        refine ux_get (C := R_Md) (T := F_Md) (N := 50) hx hb hT in_Md hown hK hP (by decide) rfl rfl 16 (by decide) (hT _ fl_Md_55) rfl d_Md_between_69 ?_
        refine lv_aload_n hx hb d_Md_between_72 rfl (lv_at hl 1 rfl) ?_
        refine ux_get (C := R_Md) (T := F_Md) (N := 50) hx hb hT in_Md hown hK hP (by decide) rfl rfl 10 (by decide) (hT _ fl_Md_36) rfl d_Md_between_73 ?_
        refine lv_topi (fun z59 hz59 => ?_)
        rw [show M 0 10 = nI L from hlv] at hz59
        rw [hz59]
        refine ux_iald hx hb hK hP (by decide) rfl (vp_in_nI (show L < 8 by omega) (by decide)) d_Md_between_76 ?_
        rw [nI_clamp (n := L) (by omega)]
        refine lv_topi (fun z60 hz60 => ?_)
        rw [show M 14 L = nI cw from hcw] at hz60
        rw [hz60]
        refine lv_if_le hx hb d_Md_between_77 rfl (fun h61 => ?_) (fun h61 => ?_)
        · have g61 : ((cw : Nat) : Int) ≤ 0 := by have q := Int32.le_iff_toInt_le.mp h61; rw [nI_toInt (n := cw) (by omega)] at q; exact q
          refine lv_aload_n hx hb d_Md_between_87 rfl (lv_at hl 1 rfl) ?_
          refine ux_calli (va_runV ⟨hx, hb, hml, hown, hts⟩ (s_Md_over l D ad cA A TB hA hB  M hI L hL (hlv)) (cwV 0 hts (tb_goodV ml_Md_176 im_Md_over se_Md_over ii_Md kt_Md_over) rfl rfl rfl (by decide +kernel) ⟨Nat.le_of_ble_eq_true rfl, Nat.le_of_ble_eq_true rfl⟩) (ux_preV (by decide) rfl rfl hP hK hi hN) rfl rfl hl.1 rfl (lv_room (Nat.le_of_ble_eq_true rfl)) d_Md_between_88 ⟨Nat.zero_le _, Nat.zero_le _⟩) hS (fun r62 M63 H locs q64 hP hS => ?_)
          obtain ⟨hI, fq64, q64p⟩ := q64
          rw [tN_eq fq64] at hP hI
          have q64i : (r62.toInt = 0 ∧ (M 9 L).toInt < (M 10 L).toInt) ∨ (r62.toInt = 1 ∧ (M 9 L).toInt ≥ (M 10 L).toInt) := by rcases q64p with ⟨q, z⟩ | ⟨q, z⟩ <;> rw [q] <;> first | exact Or.inl ⟨rfl, z⟩ | exact Or.inr ⟨rfl, z⟩
          have q64j : (M 10 L).toInt ≤ 200 := (hI.1 10 L).2
          refine lv_if_ne hx hb d_Md_between_91 rfl (fun h65 => ?_) (fun h65 => ?_)
          · have g65 : ¬ (r62.toInt = 0) := fun q => h65 (Int32.toInt_inj.mp q)
            refine lv_aload_n hx hb d_Md_between_100 rfl (lv_at hl 1 rfl) ?_
            refine ux_get (C := R_Md) (T := F_Md) (N := 50) hx hb hT in_Md hown hK hP (by decide) rfl rfl 11 (by decide) (hT _ fl_Md_40) rfl d_Md_between_101 ?_
            refine lv_aload_n hx hb d_Md_between_104 rfl (lv_at hl 1 rfl) ?_
            refine ux_get (C := R_Md) (T := F_Md) (N := 50) hx hb hT in_Md hown hK hP (by decide) rfl rfl 10 (by decide) (hT _ fl_Md_36) rfl d_Md_between_105 ?_
            refine lv_topi (fun z66 hz66 => ?_)
            rw [show M 0 10 = nI L from hlv] at hz66
            rw [hz66]
            refine lv_dup2_11 hx hb d_Md_between_108 rfl rfl ?_
            refine ux_iald hx hb hK hP (by decide) rfl (vp_in_nI (show L < 8 by omega) (by decide)) d_Md_between_109 ?_
            rw [nI_clamp (n := L) (by omega)]
            refine lv_topi (fun z67 hz67 => ?_)
            rw [show M 9 L = nI an from han] at hz67
            rw [hz67]
            refine lv_iconst (v := 1) hx hb d_Md_between_110 (by decide) ?_
            refine lv_iadd hx hb d_Md_between_111 ?_
            refine lv_topi (fun z68 hz68 => ?_)
            rw [show (nI an) + (1 : Int32) = nI (an + 1) from nI_add an 1] at hz68
            rw [hz68]
            refine ux_iast hx hb hK hi hP hS (by decide) rfl (vp_in_nI (show L < 8 by omega) (by decide)) d_Md_between_112 (fun H locs hP hS => ?_)
            rw [nI_clamp (n := L) (by omega)] at hP
            have hI := IvM_wr (k := 9) (j := L) (v := nI (an + 1)) hI (show (0 : Int) ≤ (nI (an + 1) : Int32).toInt from (by rw [nI_toInt (n := an + 1) (by omega)]; omega)) (show (nI (an + 1) : Int32).toInt ≤ (A : Int) from (by rw [nI_toInt (n := an + 1) (by omega)]; omega)) (by unfold okW; omega)
            have hF := fr_wr (k := 9) (j := L) (v := nI (an + 1)) hF (by unfold mRd; omega)
            generalize eM69 : ux_wr M 9 L (nI (an + 1)) = M69 at hP hI hF
            have tM69 : (M69 9 L).toInt = ((an + 1 : Nat) : Int) := by rw [wr_at eM69]; exact nI_toInt (by omega)
            refine lv_aload_n hx hb d_Md_between_113 rfl (lv_at hl 1 rfl) ?_
            refine lv_iconst (v := 0) hx hb d_Md_between_114 (by decide) ?_
            refine ux_put (C := R_Md) (T := F_Md) (N := 50) hx hb hT in_Md t_Md t_Md_ok n_Md hown hK hi hP hS (by decide) rfl rfl 24 (by decide) (hT _ fl_Md_149) rfl (rfl) (rfl) rfl d_Md_between_115 (fun H locs hP hS => ?_)
            have hI := IvM_free (k := 0) (j := 24) (v := 0) hI rfl rfl (by unfold okW; omega)
            have hF := fr_wr (k := 0) (j := 24) (v := 0) hF (by unfold mRd; omega)
            generalize eM70 : ux_wr M69 0 24 0 = M70 at hP hI hF
            refine lv_aload_n hx hb d_Md_between_118 rfl (lv_at hl 1 rfl) ?_
            refine lv_aload_n hx hb d_Md_between_119 rfl (lv_at hl 1 rfl) ?_
            refine ux_get (C := R_Md) (T := F_Md) (N := 50) hx hb hT in_Md hown hK hP (by decide) rfl rfl 17 (by decide) (hT _ fl_Md_58) rfl d_Md_between_120 ?_
            refine lv_aload_n hx hb d_Md_between_123 rfl (lv_at hl 1 rfl) ?_
            refine ux_get (C := R_Md) (T := F_Md) (N := 50) hx hb hT in_Md hown hK hP (by decide) rfl rfl 10 (by decide) (hT _ fl_Md_36) rfl d_Md_between_124 ?_
            refine lv_topi (fun z71 hz71 => ?_)
            rw [show M70 0 10 = nI L from (wr_off eM70 (by omega)).trans ((wr_off eM69 (by omega)).trans (hlv))] at hz71
            rw [hz71]
            refine ux_iald hx hb hK hP (by decide) rfl (vp_in_nI (show L < 8 by omega) (by decide)) d_Md_between_127 ?_
            rw [nI_clamp (n := L) (by omega)]
            refine lv_topi (fun z73 hz73 => ?_)
            obtain ⟨c72, hc72, ec72⟩ := nat_of (x := M70 15 L) (n := 20) (hI.1 15 L).1 (hI.1 15 L).2
            rw [ec72] at hz73
            rw [hz73]
            have tc72 : (M70 15 L).toInt = (c72 : Int) := by rw [ec72]; exact nI_toInt (by omega)
            refine ux_put (C := R_Md) (T := F_Md) (N := 50) hx hb hT in_Md t_Md t_Md_ok n_Md hown hK hi hP hS (by decide) rfl rfl 25 (by decide) (hT _ fl_Md_135) rfl (rfl) (rfl) rfl d_Md_between_128 (fun H locs hP hS => ?_)
            have hI := IvM_wr (k := 0) (j := 25) (v := nI c72) hI (show (0 : Int) ≤ (nI c72 : Int32).toInt from (by rw [nI_toInt (n := c72) (by omega)]; omega)) (show (nI c72 : Int32).toInt ≤ (20 : Int) from (by rw [nI_toInt (n := c72) (by omega)]; omega)) (by unfold okW; omega)
            have hF := fr_wr (k := 0) (j := 25) (v := nI c72) hF (by unfold mRd; omega)
            generalize eM74 : ux_wr M70 0 25 (nI c72) = M74 at hP hI hF
            have tM74 : (M74 0 25).toInt = ((c72 : Nat) : Int) := by rw [wr_at eM74]; exact nI_toInt (by omega)
            refine lv_iconst (v := 0) hx hb d_Md_between_131 (by decide) ?_
            refine lv_istore_n hx hb d_Md_between_132 rfl hl (by decide) rfl (fun ls hl => ?_)
            have hl : lv_has ls 3 [(2, .int 0), (1, .int (nI c15)), (0, .ref (ad 0))] := hl
            exact cut133 (20 - 0) 0 M74 _ _ ls rfl (show 0 ≤ 20 from by first | omega | assumption | exact Or.inl rfl | exact Or.inr rfl | rfl | decide) (show M74 0 10 = nI L from by first | exact ((wr_off eM74 (by omega)).trans ((wr_off eM70 (by omega)).trans ((wr_off eM69 (by omega)).trans (hlv))))) (show M74 13 L = 0 from by first | exact (wr_off eM74 (by omega)).trans ((wr_off eM70 (by omega)).trans ((wr_off eM69 (by omega)).trans (hm)))) (show M74 9 L = nI (an + 1) from by first | exact (wr_off eM74 (by omega)).trans ((wr_off eM70 (by omega)).trans (wr_at eM69))) hP hI hF hS (lv_sub hl [2, 0] rfl)
          · have g65 : r62.toInt = 0 := congrArg Int32.toInt h65
            refine lv_iload_n hx hb d_Md_between_94 rfl (lv_at hl 0 rfl) ?_
            refine lv_bipush (v := 93) hx hb d_Md_between_95 (by decide) ?_
            refine lv_icmp_ne hx hb d_Md_between_97 rfl (fun h75 => ?_) (fun h75 => ?_)
            · have g75 : ¬ (((c15 : Nat) : Int) = 93) := fun q => h75 (Int32.toInt_inj.mp (by rw [nI_toInt (n := c15) (by omega)]; exact q))
              refine lv_aload_n hx hb d_Md_between_175 rfl (lv_at hl 1 rfl) ?_
              refine ux_get (C := R_Md) (T := F_Md) (N := 50) hx hb hT in_Md hown hK hP (by decide) rfl rfl 11 (by decide) (hT _ fl_Md_40) rfl d_Md_between_176 ?_
              refine lv_aload_n hx hb d_Md_between_179 rfl (lv_at hl 1 rfl) ?_
              refine ux_get (C := R_Md) (T := F_Md) (N := 50) hx hb hT in_Md hown hK hP (by decide) rfl rfl 10 (by decide) (hT _ fl_Md_36) rfl d_Md_between_180 ?_
              refine lv_topi (fun z76 hz76 => ?_)
              rw [show M 0 10 = nI L from hlv] at hz76
              rw [hz76]
              refine lv_dup2_11 hx hb d_Md_between_183 rfl rfl ?_
              refine ux_iald hx hb hK hP (by decide) rfl (vp_in_nI (show L < 8 by omega) (by decide)) d_Md_between_184 ?_
              rw [nI_clamp (n := L) (by omega)]
              refine lv_topi (fun z77 hz77 => ?_)
              rw [show M 9 L = nI an from han] at hz77
              rw [hz77]
              refine lv_iconst (v := 1) hx hb d_Md_between_185 (by decide) ?_
              refine lv_iadd hx hb d_Md_between_186 ?_
              refine lv_topi (fun z78 hz78 => ?_)
              rw [show (nI an) + (1 : Int32) = nI (an + 1) from nI_add an 1] at hz78
              rw [hz78]
              refine ux_iast hx hb hK hi hP hS (by decide) rfl (vp_in_nI (show L < 8 by omega) (by decide)) d_Md_between_187 (fun H locs hP hS => ?_)
              rw [nI_clamp (n := L) (by omega)] at hP
              have hI := IvM_wr (k := 9) (j := L) (v := nI (an + 1)) hI (show (0 : Int) ≤ (nI (an + 1) : Int32).toInt from (by rw [nI_toInt (n := an + 1) (by omega)]; omega)) (show (nI (an + 1) : Int32).toInt ≤ (A : Int) from (by rw [nI_toInt (n := an + 1) (by omega)]; omega)) (by unfold okW; omega)
              have hF := fr_wr (k := 9) (j := L) (v := nI (an + 1)) hF (by unfold mRd; omega)
              generalize eM79 : ux_wr M 9 L (nI (an + 1)) = M79 at hP hI hF
              have tM79 : (M79 9 L).toInt = ((an + 1 : Nat) : Int) := by rw [wr_at eM79]; exact nI_toInt (by omega)
              exact W.vret hx hb hr (fun t ht hW => ⟨⟨M79, rfl, ⟨hI, hF, (Nx_0 ((wr_off eM79 (by omega)).trans (hlv)) ((wr_off eM79 (by omega)).trans (hm)) (by rw [wr_at eM79, nI_toInt (n := an + 1) (by omega)]; omega))⟩, by unfold ux_E; rw [ht]; exact hP⟩, hS.F ht⟩) hS.2.2 d_Md_between_188
            · have g75 : ((c15 : Nat) : Int) = 93 := by have q := congrArg Int32.toInt h75; rw [nI_toInt (n := c15) (by omega)] at q; exact q
              refine lv_aload_n hx hb d_Md_between_100 rfl (lv_at hl 1 rfl) ?_
              refine ux_get (C := R_Md) (T := F_Md) (N := 50) hx hb hT in_Md hown hK hP (by decide) rfl rfl 11 (by decide) (hT _ fl_Md_40) rfl d_Md_between_101 ?_
              refine lv_aload_n hx hb d_Md_between_104 rfl (lv_at hl 1 rfl) ?_
              refine ux_get (C := R_Md) (T := F_Md) (N := 50) hx hb hT in_Md hown hK hP (by decide) rfl rfl 10 (by decide) (hT _ fl_Md_36) rfl d_Md_between_105 ?_
              refine lv_topi (fun z80 hz80 => ?_)
              rw [show M 0 10 = nI L from hlv] at hz80
              rw [hz80]
              refine lv_dup2_11 hx hb d_Md_between_108 rfl rfl ?_
              refine ux_iald hx hb hK hP (by decide) rfl (vp_in_nI (show L < 8 by omega) (by decide)) d_Md_between_109 ?_
              rw [nI_clamp (n := L) (by omega)]
              refine lv_topi (fun z81 hz81 => ?_)
              rw [show M 9 L = nI an from han] at hz81
              rw [hz81]
              refine lv_iconst (v := 1) hx hb d_Md_between_110 (by decide) ?_
              refine lv_iadd hx hb d_Md_between_111 ?_
              refine lv_topi (fun z82 hz82 => ?_)
              rw [show (nI an) + (1 : Int32) = nI (an + 1) from nI_add an 1] at hz82
              rw [hz82]
              refine ux_iast hx hb hK hi hP hS (by decide) rfl (vp_in_nI (show L < 8 by omega) (by decide)) d_Md_between_112 (fun H locs hP hS => ?_)
              rw [nI_clamp (n := L) (by omega)] at hP
              have hI := IvM_wr (k := 9) (j := L) (v := nI (an + 1)) hI (show (0 : Int) ≤ (nI (an + 1) : Int32).toInt from (by rw [nI_toInt (n := an + 1) (by omega)]; omega)) (show (nI (an + 1) : Int32).toInt ≤ (A : Int) from (by rw [nI_toInt (n := an + 1) (by omega)]; omega)) (by unfold okW; omega)
              have hF := fr_wr (k := 9) (j := L) (v := nI (an + 1)) hF (by unfold mRd; omega)
              generalize eM83 : ux_wr M 9 L (nI (an + 1)) = M83 at hP hI hF
              have tM83 : (M83 9 L).toInt = ((an + 1 : Nat) : Int) := by rw [wr_at eM83]; exact nI_toInt (by omega)
              refine lv_aload_n hx hb d_Md_between_113 rfl (lv_at hl 1 rfl) ?_
              refine lv_iconst (v := 0) hx hb d_Md_between_114 (by decide) ?_
              refine ux_put (C := R_Md) (T := F_Md) (N := 50) hx hb hT in_Md t_Md t_Md_ok n_Md hown hK hi hP hS (by decide) rfl rfl 24 (by decide) (hT _ fl_Md_149) rfl (rfl) (rfl) rfl d_Md_between_115 (fun H locs hP hS => ?_)
              have hI := IvM_free (k := 0) (j := 24) (v := 0) hI rfl rfl (by unfold okW; omega)
              have hF := fr_wr (k := 0) (j := 24) (v := 0) hF (by unfold mRd; omega)
              generalize eM84 : ux_wr M83 0 24 0 = M84 at hP hI hF
              refine lv_aload_n hx hb d_Md_between_118 rfl (lv_at hl 1 rfl) ?_
              refine lv_aload_n hx hb d_Md_between_119 rfl (lv_at hl 1 rfl) ?_
              refine ux_get (C := R_Md) (T := F_Md) (N := 50) hx hb hT in_Md hown hK hP (by decide) rfl rfl 17 (by decide) (hT _ fl_Md_58) rfl d_Md_between_120 ?_
              refine lv_aload_n hx hb d_Md_between_123 rfl (lv_at hl 1 rfl) ?_
              refine ux_get (C := R_Md) (T := F_Md) (N := 50) hx hb hT in_Md hown hK hP (by decide) rfl rfl 10 (by decide) (hT _ fl_Md_36) rfl d_Md_between_124 ?_
              refine lv_topi (fun z85 hz85 => ?_)
              rw [show M84 0 10 = nI L from (wr_off eM84 (by omega)).trans ((wr_off eM83 (by omega)).trans (hlv))] at hz85
              rw [hz85]
              refine ux_iald hx hb hK hP (by decide) rfl (vp_in_nI (show L < 8 by omega) (by decide)) d_Md_between_127 ?_
              rw [nI_clamp (n := L) (by omega)]
              refine lv_topi (fun z87 hz87 => ?_)
              obtain ⟨c86, hc86, ec86⟩ := nat_of (x := M84 15 L) (n := 20) (hI.1 15 L).1 (hI.1 15 L).2
              rw [ec86] at hz87
              rw [hz87]
              have tc86 : (M84 15 L).toInt = (c86 : Int) := by rw [ec86]; exact nI_toInt (by omega)
              refine ux_put (C := R_Md) (T := F_Md) (N := 50) hx hb hT in_Md t_Md t_Md_ok n_Md hown hK hi hP hS (by decide) rfl rfl 25 (by decide) (hT _ fl_Md_135) rfl (rfl) (rfl) rfl d_Md_between_128 (fun H locs hP hS => ?_)
              have hI := IvM_wr (k := 0) (j := 25) (v := nI c86) hI (show (0 : Int) ≤ (nI c86 : Int32).toInt from (by rw [nI_toInt (n := c86) (by omega)]; omega)) (show (nI c86 : Int32).toInt ≤ (20 : Int) from (by rw [nI_toInt (n := c86) (by omega)]; omega)) (by unfold okW; omega)
              have hF := fr_wr (k := 0) (j := 25) (v := nI c86) hF (by unfold mRd; omega)
              generalize eM88 : ux_wr M84 0 25 (nI c86) = M88 at hP hI hF
              have tM88 : (M88 0 25).toInt = ((c86 : Nat) : Int) := by rw [wr_at eM88]; exact nI_toInt (by omega)
              refine lv_iconst (v := 0) hx hb d_Md_between_131 (by decide) ?_
              refine lv_istore_n hx hb d_Md_between_132 rfl hl (by decide) rfl (fun ls hl => ?_)
              have hl : lv_has ls 3 [(2, .int 0), (1, .int (nI c15)), (0, .ref (ad 0))] := hl
              exact cut133 (20 - 0) 0 M88 _ _ ls rfl (show 0 ≤ 20 from by first | omega | assumption | exact Or.inl rfl | exact Or.inr rfl | rfl | decide) (show M88 0 10 = nI L from by first | exact ((wr_off eM88 (by omega)).trans ((wr_off eM84 (by omega)).trans ((wr_off eM83 (by omega)).trans (hlv))))) (show M88 13 L = 0 from by first | exact (wr_off eM88 (by omega)).trans ((wr_off eM84 (by omega)).trans ((wr_off eM83 (by omega)).trans (hm)))) (show M88 9 L = nI (an + 1) from by first | exact (wr_off eM88 (by omega)).trans ((wr_off eM84 (by omega)).trans (wr_at eM83))) hP hI hF hS (lv_sub hl [2, 0] rfl)
        · have g61 : ¬ (((cw : Nat) : Int) ≤ 0) := fun q => h61 (Int32.le_iff_toInt_le.mpr (by rw [nI_toInt (n := cw) (by omega)]; exact q))
          refine lv_aload_n hx hb d_Md_between_80 rfl (lv_at hl 1 rfl) ?_
          refine ux_callv (va_runV ⟨hx, hb, hml, hown, hts⟩ (s_Md_command l D ad cA A TB hA hB  M hI L hL (hlv) hA2) (cwV 0 hts (tb_goodV ml_Md_196 im_Md_command se_Md_command ii_Md kt_Md_command) rfl rfl rfl (by decide +kernel) ⟨Nat.le_of_ble_eq_true rfl, Nat.le_of_ble_eq_true rfl⟩) (ux_preV (by decide) rfl rfl hP hK hi hN) rfl rfl hl.1 rfl (lv_room (Nat.le_of_ble_eq_true rfl)) d_Md_between_81 ⟨Nat.zero_le _, Nat.zero_le _⟩) hS (fun M90 H locs q91 hP hS => ?_)
          obtain ⟨hI, fq91, q91p⟩ := q91
          have hF := fr_call hF fq91 (fun a b q => by unfold mCm at q; unfold mRd; omega)
          refine lv_goto hx hb d_Md_between_84 rfl ?_
          exact W.vret hx hb hr (fun t ht hW => ⟨⟨M90, rfl, ⟨hI, hF, (OutS_Nx fq91 hm (by omega) hz2 q91p)⟩, by unfold ux_E; rw [ht]; exact hP⟩, hS.F ht⟩) hS.2.2 d_Md_between_188
      · have g58 : (M 11 L).toInt = 1 := congrArg Int32.toInt h58
        refine lv_aload_n hx hb d_Md_between_60 rfl (lv_at hl 1 rfl) ?_
        refine lv_iconst (v := 1) hx hb d_Md_between_61 (by decide) ?_
        refine ux_callv (va_runV ⟨hx, hb, hml, hown, hts⟩ (s_Md_error l D ad cA A TB hA hB  M hI 1) (cwV 1 hts (tb_goodV ml_Md_166 im_Md_error se_Md_error ii_Md kt_Md_error) rfl rfl rfl (by decide +kernel) ⟨Nat.le_of_ble_eq_true rfl, Nat.le_of_ble_eq_true rfl⟩) (ux_preV (by decide) rfl rfl hP hK hi hN) rfl rfl hl.1 rfl (lv_room (Nat.le_of_ble_eq_true rfl)) d_Md_between_62 ⟨Nat.zero_le _, Nat.zero_le _⟩) hS (fun M93 H locs q94 hP hS => ?_)
        obtain ⟨hI, fq94, q94p⟩ := q94
        have hF := fr_call hF fq94 (fun a b q => by unfold mEr at q; unfold mRd; omega)
        refine lv_goto hx hb d_Md_between_65 rfl ?_
        exact W.vret hx hb hr (fun t ht hW => ⟨⟨M93, rfl, ⟨hI, hF, (Nx_0 ((fq94 _ _ (by unfold mEr; omega)).trans (hlv)) ((fq94 _ _ (by unfold mEr; omega)).trans (hm)) (by rw [(fq94 _ _ (by unfold mEr; omega)).trans (han), nI_toInt (n := an) (by omega)]; omega))⟩, by unfold ux_E; rw [ht]; exact hP⟩, hS.F ht⟩) hS.2.2 d_Md_between_188
  · have g19 : r16.toInt = 0 := congrArg Int32.toInt h19
    refine lv_iload_n hx hb d_Md_between_12 rfl (lv_at hl 0 rfl) ?_
    refine lv_bipush (v := 32) hx hb d_Md_between_13 (by decide) ?_
    refine lv_icmp_ne hx hb d_Md_between_15 rfl (fun h95 => ?_) (fun h95 => ?_)
    · have g95 : ¬ (((c15 : Nat) : Int) = 32) := fun q => h95 (Int32.toInt_inj.mp (by rw [nI_toInt (n := c15) (by omega)]; exact q))
      refine lv_aload_n hx hb d_Md_between_34 rfl (lv_at hl 1 rfl) ?_
      refine lv_iload_n hx hb d_Md_between_35 rfl (lv_at hl 0 rfl) ?_
      refine ux_callv (va_runV ⟨hx, hb, hml, hown, hts⟩ (s_Md_begin l D ad cA A TB hA hB  M hI L hL (hlv) Z an en cw han hen hcw hz hz2 hzA hen2 hc8 hsg hm (by omega) (nI c15)) (cwV 1 hts (tb_goodV ml_Md_193 im_Md_begin se_Md_begin ii_Md kt_Md_begin) rfl rfl rfl (by decide +kernel) ⟨Nat.le_of_ble_eq_true rfl, Nat.le_of_ble_eq_true rfl⟩) (ux_preV (by decide) rfl rfl hP hK hi hN) rfl rfl hl.1 rfl (lv_room (Nat.le_of_ble_eq_true rfl)) d_Md_between_36 ⟨Nat.zero_le _, Nat.zero_le _⟩) hS (fun M97 H locs q98 hP hS => ?_)
      obtain ⟨hI, fq98, q98p⟩ := q98
      have hF := fr_call hF fq98 (fun a b q => q)
      exact W.vret hx hb hr (fun t ht hW => ⟨⟨M97, rfl, ⟨hI, hF, q98p⟩, by unfold ux_E; rw [ht]; exact hP⟩, hS.F ht⟩) hS.2.2 d_Md_between_39
    · have g95 : ((c15 : Nat) : Int) = 32 := by have q := congrArg Int32.toInt h95; rw [nI_toInt (n := c15) (by omega)] at q; exact q
      refine lv_aload_n hx hb d_Md_between_18 rfl (lv_at hl 1 rfl) ?_
      refine ux_get (C := R_Md) (T := F_Md) (N := 50) hx hb hT in_Md hown hK hP (by decide) rfl rfl 11 (by decide) (hT _ fl_Md_40) rfl d_Md_between_19 ?_
      refine lv_aload_n hx hb d_Md_between_22 rfl (lv_at hl 1 rfl) ?_
      refine ux_get (C := R_Md) (T := F_Md) (N := 50) hx hb hT in_Md hown hK hP (by decide) rfl rfl 10 (by decide) (hT _ fl_Md_36) rfl d_Md_between_23 ?_
      refine lv_topi (fun z99 hz99 => ?_)
      rw [show M 0 10 = nI L from hlv] at hz99
      rw [hz99]
      refine lv_dup2_11 hx hb d_Md_between_26 rfl rfl ?_
      refine ux_iald hx hb hK hP (by decide) rfl (vp_in_nI (show L < 8 by omega) (by decide)) d_Md_between_27 ?_
      rw [nI_clamp (n := L) (by omega)]
      refine lv_topi (fun z100 hz100 => ?_)
      rw [show M 9 L = nI an from han] at hz100
      rw [hz100]
      refine lv_iconst (v := 1) hx hb d_Md_between_28 (by decide) ?_
      refine lv_iadd hx hb d_Md_between_29 ?_
      refine lv_topi (fun z101 hz101 => ?_)
      rw [show (nI an) + (1 : Int32) = nI (an + 1) from nI_add an 1] at hz101
      rw [hz101]
      refine ux_iast hx hb hK hi hP hS (by decide) rfl (vp_in_nI (show L < 8 by omega) (by decide)) d_Md_between_30 (fun H locs hP hS => ?_)
      rw [nI_clamp (n := L) (by omega)] at hP
      have hI := IvM_wr (k := 9) (j := L) (v := nI (an + 1)) hI (show (0 : Int) ≤ (nI (an + 1) : Int32).toInt from (by rw [nI_toInt (n := an + 1) (by omega)]; omega)) (show (nI (an + 1) : Int32).toInt ≤ (A : Int) from (by rw [nI_toInt (n := an + 1) (by omega)]; omega)) (by unfold okW; omega)
      have hF := fr_wr (k := 9) (j := L) (v := nI (an + 1)) hF (by unfold mRd; omega)
      generalize eM102 : ux_wr M 9 L (nI (an + 1)) = M102 at hP hI hF
      have tM102 : (M102 9 L).toInt = ((an + 1 : Nat) : Int) := by rw [wr_at eM102]; exact nI_toInt (by omega)
      refine lv_goto hx hb d_Md_between_31 rfl ?_
      exact W.vret hx hb hr (fun t ht hW => ⟨⟨M102, rfl, ⟨hI, hF, (Nx_0 ((wr_off eM102 (by omega)).trans (hlv)) ((wr_off eM102 (by omega)).trans (hm)) (by rw [wr_at eM102, nI_toInt (n := an + 1) (by omega)]; omega))⟩, by unfold ux_E; rw [ht]; exact hP⟩, hS.F ht⟩) hS.2.2 d_Md_between_39

set_option maxHeartbeats 1600000 in
set_option maxRecDepth 100000 in
theorem s_Md_read (l : Launch) (D : va_G) (ad : Nat → Nat) (cA : Nat → ClassId) (A TB : Nat) (hA : A ≤ 100000000) (hB : TB ≤ 2000000000) (M : ux_M) (hI : IvM A TB M) (L : Nat) (hL : L ≤ 7) (hlv : M 0 10 = nI L) (Z an en cw : Nat) (han : M 9 L = nI an) (hen : M 10 L = nI en) (hcw : M 14 L = nI cw) (hz : an ≤ Z) (hz2 : 200 ≤ Z) (hzA : Z + 2 ≤ A) (hen2 : en ≤ 200) (hc8 : cw ≤ 8) (hsg : M 0 23 = 0) (hop : ¬ M 13 L = 0 → cw ≤ 7 ∧ M 17 (8 * L + cw) = 0) : Met l y_Md_read w_Md_read ({ frames := 10, cells := 0, slots := 0, locals := 230 }) (va_Pc [.ref (ad 0)] (ux_B D shM KM ad cA M)) (va_Qv (fun M1 => IvM A TB M1 ∧ (∀ a b, ¬ (mRd L) a b → M1 a b = M a b) ∧ (Nx Z M1 L)) (ux_E D shM KM ad cA) (ux_A KM ad)) 0 0 (ux_A KM ad) := by
  refine Met.ofW (cc := b_Md_read) (maxL := 1) (ret := none) (by decide) rfl ?_
  intro p e s m args below meth c s₁ B hml hv
  obtain ⟨rfl, hP, hK, hi, hN⟩ := hv
  have hx := B.exec
  have hb := B.bytes
  have hr := B.returns
  have hts := atoms_spec (ws := w_Md_read) B.pre
  have hown : s.vm.findClass R_Md = some m.cls := findClass_of_methodNamed B.named
  have hlocks := B.notSynchronized
  have hT : ∀ w ∈ tb, w.before _ s = true := fun w h => hts w (List.mem_cons_of_mem _ h)
  have hS : va_S (ux_A KM ad) s.heap s.heap [] := va_S.rf
  have hl := lv_entry ([.ref (ad 0)]) (n := 1) (Nat.le_of_ble_eq_true rfl)
  rw [lg_entry_eq]
  generalize (lg_sl ([.ref (ad 0)]) ++ List.replicate (1 - (lg_sl ([.ref (ad 0)])).length) Slot.unset).toArray = ls at hl ⊢
  have hl : lv_has ls 1 [(0, .ref (ad 0))] := hl
  have hF : ∀ a b, ¬ (mRd L) a b → M a b = M a b := fun _ _ _ => rfl
  refine lv_aload_n hx hb d_Md_read_0 rfl (lv_at hl 0 rfl) ?_
  refine ux_get (C := R_Md) (T := F_Md) (N := 50) hx hb hT in_Md hown hK hP (by decide) rfl rfl 15 (by decide) (hT _ fl_Md_52) rfl d_Md_read_1 ?_
  refine lv_aload_n hx hb d_Md_read_4 rfl (lv_at hl 0 rfl) ?_
  refine ux_get (C := R_Md) (T := F_Md) (N := 50) hx hb hT in_Md hown hK hP (by decide) rfl rfl 10 (by decide) (hT _ fl_Md_36) rfl d_Md_read_5 ?_
  refine lv_topi (fun z1 hz1 => ?_)
  rw [show M 0 10 = nI L from hlv] at hz1
  rw [hz1]
  refine ux_iald hx hb hK hP (by decide) rfl (vp_in_nI (show L < 8 by omega) (by decide)) d_Md_read_8 ?_
  rw [nI_clamp (n := L) (by omega)]
  refine lv_if_ne hx hb d_Md_read_9 rfl (fun h2 => ?_) (fun h2 => ?_)
  · have g2 : ¬ ((M 13 L).toInt = 0) := fun q => h2 (Int32.toInt_inj.mp q)
    refine lv_aload_n hx hb d_Md_read_19 rfl (lv_at hl 0 rfl) ?_
    refine ux_callv (va_runV ⟨hx, hb, hml, hown, hts⟩ (s_Md_inWord l D ad cA A TB hA hB  M hI L hL (hlv) Z an en cw han hen hcw hz hz2 hzA hen2 hc8 hsg (by assumption) (hop (by assumption)).1 (hop (by assumption)).2) (cwV 0 hts (tb_goodV ml_Md_187 im_Md_inWord se_Md_inWord ii_Md kt_Md_inWord) rfl rfl rfl (by decide +kernel) ⟨Nat.le_of_ble_eq_true rfl, Nat.le_of_ble_eq_true rfl⟩) (ux_preV (by decide) rfl rfl hP hK hi hN) rfl rfl hl.1 rfl (lv_room (Nat.le_of_ble_eq_true rfl)) d_Md_read_20 ⟨Nat.zero_le _, Nat.zero_le _⟩) hS (fun M4 H locs q5 hP hS => ?_)
    obtain ⟨hI, fq5, q5p⟩ := q5
    have hF := fr_call hF fq5 (fun a b q => q)
    exact W.vret hx hb hr (fun t ht hW => ⟨⟨M4, rfl, ⟨hI, hF, q5p⟩, by unfold ux_E; rw [ht]; exact hP⟩, hS.F ht⟩) hS.2.2 d_Md_read_23
  · have g2 : (M 13 L).toInt = 0 := congrArg Int32.toInt h2
    refine lv_aload_n hx hb d_Md_read_12 rfl (lv_at hl 0 rfl) ?_
    refine ux_callv (va_runV ⟨hx, hb, hml, hown, hts⟩ (s_Md_between l D ad cA A TB hA hB  M hI L hL (hlv) Z an en cw han hen hcw hz hz2 hzA hen2 hc8 hsg (by assumption)) (cwV 0 hts (tb_goodV ml_Md_184 im_Md_between se_Md_between ii_Md kt_Md_between) rfl rfl rfl (by decide +kernel) ⟨Nat.le_of_ble_eq_true rfl, Nat.le_of_ble_eq_true rfl⟩) (ux_preV (by decide) rfl rfl hP hK hi hN) rfl rfl hl.1 rfl (lv_room (Nat.le_of_ble_eq_true rfl)) d_Md_read_13 ⟨Nat.zero_le _, Nat.zero_le _⟩) hS (fun M7 H locs q8 hP hS => ?_)
    obtain ⟨hI, fq8, q8p⟩ := q8
    have hF := fr_call hF fq8 (fun a b q => q)
    refine lv_goto hx hb d_Md_read_16 rfl ?_
    exact W.vret hx hb hr (fun t ht hW => ⟨⟨M7, rfl, ⟨hI, hF, q8p⟩, by unfold ux_E; rw [ht]; exact hP⟩, hS.F ht⟩) hS.2.2 d_Md_read_23
