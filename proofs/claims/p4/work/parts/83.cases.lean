/-! the cases of the law; written by wip/gen/law2.py -/
set_option maxHeartbeats 4000000 in
set_option maxRecDepth 100000 in
theorem lc_put {p : Program} {e : Env} {s : State} {m : MethodId} {below : List Frame} {meth : Method} {c : Code} (l : Launch) {b L : Nat} {xs : Nat → Int32} {D : va_G} {cA : Nat → ClassId} {ax am : Nat → Nat} {adK adV : Nat → Nat} {fm : Value} {H : Heap} {locs : List Loc} {ls : Array Slot} {i TT : Nat} {mx mm : ux_M} (hL : L ≤ 2560) (C0 : lw_At p s m meth c b L xs) (Y : lx_Y D cA s ax am) (hZ : ux_Z ax adK adV fm s) (hi : i + 5 ≤ L) (hTT : TT + 4000 ≤ 2000000000) (hI : Li TT mx mm) (hl : lv_has ls 4 [(3, .int (nI i)), (2, .ref (am 0)), (1, .ref (ax 0)), (0, .ref b)]) (hX : va_P D classes (ux_w shX KX ax cA mx) H) (hM : va_P D classes (ux_w shM KM am cA mm) H) (hS : va_S (lx_A s) s.heap H locs) (back : ∀ (mx1 mm1 : ux_M) (H1 : Heap) (locs1 : List Loc), Li (TT + 4000) mx1 mm1 → va_P D classes (ux_w shX KX ax cA mx1) H1 → va_P D classes (ux_w shM KM am cA mm1) H1 → va_S (lx_A s) s.heap H1 locs1 → lx_W p l e s m b below meth c H1 locs1 (F0 m 438 ls [])) : lx_W p l e s m b below meth c H locs (F0 m 112 ls []) := by
  obtain ⟨hx, hb, hr, hml, hown0, hts, hXs, hbl, hlocks, -⟩ := C0
  obtain ⟨hK, hN, hix, him, hap, hAx, hAm⟩ := Y
  have hown : s.vm.findClass R_Lw = some m.cls := hown0
  have hT : ∀ w ∈ tb, w.before #[Value.ref b] s = true := fun w h => hts w (List.mem_filter.mp h).1
  have hbA : ¬ lx_A s b := Nat.not_le.mpr hbl
  refine lv_aload_n hx hb d_Lw_law_112 rfl (lv_at hl 2 rfl) ?_
  refine lv_aload_n hx hb d_Lw_law_113 rfl (lv_at hl 3 rfl) ?_
  refine lv_iload_n hx hb d_Lw_law_114 rfl (lv_at hl 0 rfl) ?_
  refine lv_iconst (v := 1) hx hb d_Lw_law_115 (by decide) ?_
  refine lv_iadd hx hb d_Lw_law_116 ?_
  refine va_sld hx hb hXs hbl hbA hS (lx_in (k := 1) rfl (by omega) hL) d_Lw_law_117 ?_
  refine lv_i2c hx hb d_Lw_law_118 rfl ?_
  refine lx_calli (va_runV ⟨hx, hb, hml, hown, hT⟩ (c_PS_put l D ax cA mx (((xs (nI i + 1 : Int32).toNatClampNeg).toUInt32 % 65536).toInt32) (iv0 hI.1 (by unfold p0; omega))) (cwV 1 hT (tb_goodV0 ml_Lw_13 im_PS_put se_PS_put ii_PS kt_PS_put) rfl rfl rfl (by decide +kernel) ⟨Nat.le_of_ble_eq_true rfl, Nat.le_of_ble_eq_true rfl⟩) (ux_preV (k := 0) (by decide) rfl rfl hX hK hix hN) rfl rfl hl.1 rfl (lv_room (Nat.le_of_ble_eq_true rfl)) d_Lw_law_119 ⟨Nat.le_of_ble_eq_true rfl, Nat.le_of_ble_eq_true rfl⟩) hS hAx hM (fun k hk i q hi => (ux_w_in hi).2 ▸ fun e => hap k hk i (ux_w_in hi).1 e.symm) (fun rx mx1 H locs qx hX hM hS => ?_)
  refine lv_pop hx hb d_Lw_law_122 rfl ?_
  refine lv_aload_n hx hb d_Lw_law_123 rfl (lv_at hl 1 rfl) ?_
  refine lv_aload_n hx hb d_Lw_law_124 rfl (lv_at hl 3 rfl) ?_
  refine lv_iload_n hx hb d_Lw_law_125 rfl (lv_at hl 0 rfl) ?_
  refine lv_iconst (v := 1) hx hb d_Lw_law_126 (by decide) ?_
  refine lv_iadd hx hb d_Lw_law_127 ?_
  refine va_sld hx hb hXs hbl hbA hS (lx_in (k := 1) rfl (by omega) hL) d_Lw_law_128 ?_
  refine lv_i2c hx hb d_Lw_law_129 rfl ?_
  refine lx_calli (va_runV ⟨hx, hb, hml, hown, hT⟩ (c_Md_put l D am cA mm (((xs (nI i + 1 : Int32).toNatClampNeg).toUInt32 % 65536).toInt32) (hI.2.1.1 0 1).1) (cwV 1 hT (tb_goodV0 ml_Lw_17 im_Md_put se_Md_put ii_Md kt_Md_put) rfl rfl rfl (by decide +kernel) ⟨Nat.le_of_ble_eq_true rfl, Nat.le_of_ble_eq_true rfl⟩) (ux_preV (k := 0) (by decide) rfl rfl hM hK him hN) rfl rfl hl.1 rfl (lv_room (Nat.le_of_ble_eq_true rfl)) d_Lw_law_130 ⟨Nat.le_of_ble_eq_true rfl, Nat.le_of_ble_eq_true rfl⟩) hS hAm hX (fun k hk i q hi => (ux_w_in hi).2 ▸ hap i (ux_w_in hi).1 k hk) (fun rm mm1 H locs qm hM hX hS => ?_)
  refine lv_pop hx hb d_Lw_law_133 rfl ?_
  refine lv_goto hx hb d_Lw_law_134 rfl (back _ _ H locs (Li_mono (by rw [qx.1, qm.1]; exact Li_put hI _) (by omega)) hX hM hS)
set_option maxHeartbeats 4000000 in
set_option maxRecDepth 100000 in
theorem lc_wipe {p : Program} {e : Env} {s : State} {m : MethodId} {below : List Frame} {meth : Method} {c : Code} (l : Launch) {b L : Nat} {xs : Nat → Int32} {D : va_G} {cA : Nat → ClassId} {ax am : Nat → Nat} {adK adV : Nat → Nat} {fm : Value} {H : Heap} {locs : List Loc} {ls : Array Slot} {i TT : Nat} {mx mm : ux_M} (hL : L ≤ 2560) (C0 : lw_At p s m meth c b L xs) (Y : lx_Y D cA s ax am) (hZ : ux_Z ax adK adV fm s) (hi : i + 5 ≤ L) (hTT : TT + 4000 ≤ 2000000000) (hI : Li TT mx mm) (hl : lv_has ls 4 [(3, .int (nI i)), (2, .ref (am 0)), (1, .ref (ax 0)), (0, .ref b)]) (hX : va_P D classes (ux_w shX KX ax cA mx) H) (hM : va_P D classes (ux_w shM KM am cA mm) H) (hS : va_S (lx_A s) s.heap H locs) (back : ∀ (mx1 mm1 : ux_M) (H1 : Heap) (locs1 : List Loc), Li (TT + 4000) mx1 mm1 → va_P D classes (ux_w shX KX ax cA mx1) H1 → va_P D classes (ux_w shM KM am cA mm1) H1 → va_S (lx_A s) s.heap H1 locs1 → lx_W p l e s m b below meth c H1 locs1 (F0 m 438 ls [])) : lx_W p l e s m b below meth c H locs (F0 m 137 ls []) := by
  obtain ⟨hx, hb, hr, hml, hown0, hts, hXs, hbl, hlocks, -⟩ := C0
  obtain ⟨hK, hN, hix, him, hap, hAx, hAm⟩ := Y
  have hown : s.vm.findClass R_Lw = some m.cls := hown0
  have hT : ∀ w ∈ tb, w.before #[Value.ref b] s = true := fun w h => hts w (List.mem_filter.mp h).1
  have hbA : ¬ lx_A s b := Nat.not_le.mpr hbl
  refine lv_aload_n hx hb d_Lw_law_137 rfl (lv_at hl 2 rfl) ?_
  refine lx_callv (va_runV ⟨hx, hb, hml, hown, hT⟩ (c_PS_wipe l D ax cA mx  ) (cwV 0 hT (tb_goodV0 ml_Lw_18 im_PS_wipe se_PS_wipe ii_PS kt_PS_wipe) rfl rfl rfl (by decide +kernel) ⟨Nat.le_of_ble_eq_true rfl, Nat.le_of_ble_eq_true rfl⟩) (ux_preV (k := 0) (by decide) rfl rfl hX hK hix hN) rfl rfl hl.1 rfl (lv_room (Nat.le_of_ble_eq_true rfl)) d_Lw_law_138 ⟨Nat.le_of_ble_eq_true rfl, Nat.le_of_ble_eq_true rfl⟩) hS hAx hM (fun k hk i q hi => (ux_w_in hi).2 ▸ fun e => hap k hk i (ux_w_in hi).1 e.symm) (fun mx1 H locs qx hX hM hS => ?_)
  refine lv_aload_n hx hb d_Lw_law_141 rfl (lv_at hl 1 rfl) ?_
  refine lx_callv (va_runV ⟨hx, hb, hml, hown, hT⟩ (c_Md_wipe l D am cA mm  ) (cwV 0 hT (tb_goodV0 ml_Lw_21 im_Md_wipe se_Md_wipe ii_Md kt_Md_wipe) rfl rfl rfl (by decide +kernel) ⟨Nat.le_of_ble_eq_true rfl, Nat.le_of_ble_eq_true rfl⟩) (ux_preV (k := 0) (by decide) rfl rfl hM hK him hN) rfl rfl hl.1 rfl (lv_room (Nat.le_of_ble_eq_true rfl)) d_Lw_law_142 ⟨Nat.le_of_ble_eq_true rfl, Nat.le_of_ble_eq_true rfl⟩) hS hAm hX (fun k hk i q hi => (ux_w_in hi).2 ▸ hap i (ux_w_in hi).1 k hk) (fun mm1 H locs qm hM hX hS => ?_)
  refine lv_goto hx hb d_Lw_law_145 rfl (back _ _ H locs (Li_mono (by rw [qx, qm]; exact Li_wipe hI) (by omega)) hX hM hS)
set_option maxHeartbeats 4000000 in
set_option maxRecDepth 100000 in
theorem lc_rule {p : Program} {e : Env} {s : State} {m : MethodId} {below : List Frame} {meth : Method} {c : Code} (l : Launch) {b L : Nat} {xs : Nat → Int32} {D : va_G} {cA : Nat → ClassId} {ax am : Nat → Nat} {adK adV : Nat → Nat} {fm : Value} {H : Heap} {locs : List Loc} {ls : Array Slot} {i TT : Nat} {mx mm : ux_M} (hL : L ≤ 2560) (C0 : lw_At p s m meth c b L xs) (Y : lx_Y D cA s ax am) (hZ : ux_Z ax adK adV fm s) (hi : i + 5 ≤ L) (hTT : TT + 4000 ≤ 2000000000) (hI : Li TT mx mm) (hl : lv_has ls 4 [(3, .int (nI i)), (2, .ref (am 0)), (1, .ref (ax 0)), (0, .ref b)]) (hX : va_P D classes (ux_w shX KX ax cA mx) H) (hM : va_P D classes (ux_w shM KM am cA mm) H) (hS : va_S (lx_A s) s.heap H locs) (back : ∀ (mx1 mm1 : ux_M) (H1 : Heap) (locs1 : List Loc), Li (TT + 4000) mx1 mm1 → va_P D classes (ux_w shX KX ax cA mx1) H1 → va_P D classes (ux_w shM KM am cA mm1) H1 → va_S (lx_A s) s.heap H1 locs1 → lx_W p l e s m b below meth c H1 locs1 (F0 m 438 ls [])) : lx_W p l e s m b below meth c H locs (F0 m 148 ls []) := by
  obtain ⟨hx, hb, hr, hml, hown0, hts, hXs, hbl, hlocks, -⟩ := C0
  obtain ⟨hK, hN, hix, him, hap, hAx, hAm⟩ := Y
  have hown : s.vm.findClass R_Lw = some m.cls := hown0
  have hT : ∀ w ∈ tb, w.before #[Value.ref b] s = true := fun w h => hts w (List.mem_filter.mp h).1
  have hbA : ¬ lx_A s b := Nat.not_le.mpr hbl
  refine lv_aload_n hx hb d_Lw_law_148 rfl (lv_at hl 2 rfl) ?_
  refine lv_aload_n hx hb d_Lw_law_149 rfl (lv_at hl 3 rfl) ?_
  refine lv_iload_n hx hb d_Lw_law_150 rfl (lv_at hl 0 rfl) ?_
  refine lv_iconst (v := 1) hx hb d_Lw_law_151 (by decide) ?_
  refine lv_iadd hx hb d_Lw_law_152 ?_
  refine va_sld hx hb hXs hbl hbA hS (lx_in (k := 1) rfl (by omega) hL) d_Lw_law_153 ?_
  refine lv_aload_n hx hb d_Lw_law_154 rfl (lv_at hl 3 rfl) ?_
  refine lv_iload_n hx hb d_Lw_law_155 rfl (lv_at hl 0 rfl) ?_
  refine lv_iconst (v := 2) hx hb d_Lw_law_156 (by decide) ?_
  refine lv_iadd hx hb d_Lw_law_157 ?_
  refine va_sld hx hb hXs hbl hbA hS (lx_in (k := 2) rfl (by omega) hL) d_Lw_law_158 ?_
  refine lv_aload_n hx hb d_Lw_law_159 rfl (lv_at hl 3 rfl) ?_
  refine lv_iload_n hx hb d_Lw_law_160 rfl (lv_at hl 0 rfl) ?_
  refine lv_iconst (v := 3) hx hb d_Lw_law_161 (by decide) ?_
  refine lv_iadd hx hb d_Lw_law_162 ?_
  refine va_sld hx hb hXs hbl hbA hS (lx_in (k := 3) rfl (by omega) hL) d_Lw_law_163 ?_
  refine lv_aload_n hx hb d_Lw_law_164 rfl (lv_at hl 3 rfl) ?_
  refine lv_iload_n hx hb d_Lw_law_165 rfl (lv_at hl 0 rfl) ?_
  refine lv_iconst (v := 4) hx hb d_Lw_law_166 (by decide) ?_
  refine lv_iadd hx hb d_Lw_law_167 ?_
  refine va_sld hx hb hXs hbl hbA hS (lx_in (k := 4) rfl (by omega) hL) d_Lw_law_168 ?_
  refine lx_calli (va_runV ⟨hx, hb, hml, hown, hT⟩ (c_PS_rule l D ax cA mx (xs (nI i + 1 : Int32).toNatClampNeg) (xs (nI i + 2 : Int32).toNatClampNeg) (xs (nI i + 3 : Int32).toNatClampNeg) (xs (nI i + 4 : Int32).toNatClampNeg) (iv0 hI.1 (by unfold p0; omega))) (cwV 4 hT (tb_goodV0 ml_Lw_22 im_PS_rule se_PS_rule ii_PS kt_PS_rule) rfl rfl rfl (by decide +kernel) ⟨Nat.le_of_ble_eq_true rfl, Nat.le_of_ble_eq_true rfl⟩) (ux_preV (k := 0) (by decide) rfl rfl hX hK hix hN) rfl rfl hl.1 rfl (lv_room (Nat.le_of_ble_eq_true rfl)) d_Lw_law_169 ⟨Nat.le_of_ble_eq_true rfl, Nat.le_of_ble_eq_true rfl⟩) hS hAx hM (fun k hk i q hi => (ux_w_in hi).2 ▸ fun e => hap k hk i (ux_w_in hi).1 e.symm) (fun rx mx1 H locs qx hX hM hS => ?_)
  refine lv_aload_n hx hb d_Lw_law_172 rfl (lv_at hl 1 rfl) ?_
  refine lv_aload_n hx hb d_Lw_law_173 rfl (lv_at hl 3 rfl) ?_
  refine lv_iload_n hx hb d_Lw_law_174 rfl (lv_at hl 0 rfl) ?_
  refine lv_iconst (v := 1) hx hb d_Lw_law_175 (by decide) ?_
  refine lv_iadd hx hb d_Lw_law_176 ?_
  refine va_sld hx hb hXs hbl hbA hS (lx_in (k := 1) rfl (by omega) hL) d_Lw_law_177 ?_
  refine lv_aload_n hx hb d_Lw_law_178 rfl (lv_at hl 3 rfl) ?_
  refine lv_iload_n hx hb d_Lw_law_179 rfl (lv_at hl 0 rfl) ?_
  refine lv_iconst (v := 2) hx hb d_Lw_law_180 (by decide) ?_
  refine lv_iadd hx hb d_Lw_law_181 ?_
  refine va_sld hx hb hXs hbl hbA hS (lx_in (k := 2) rfl (by omega) hL) d_Lw_law_182 ?_
  refine lv_aload_n hx hb d_Lw_law_183 rfl (lv_at hl 3 rfl) ?_
  refine lv_iload_n hx hb d_Lw_law_184 rfl (lv_at hl 0 rfl) ?_
  refine lv_iconst (v := 3) hx hb d_Lw_law_185 (by decide) ?_
  refine lv_iadd hx hb d_Lw_law_186 ?_
  refine va_sld hx hb hXs hbl hbA hS (lx_in (k := 3) rfl (by omega) hL) d_Lw_law_187 ?_
  refine lv_aload_n hx hb d_Lw_law_188 rfl (lv_at hl 3 rfl) ?_
  refine lv_iload_n hx hb d_Lw_law_189 rfl (lv_at hl 0 rfl) ?_
  refine lv_iconst (v := 4) hx hb d_Lw_law_190 (by decide) ?_
  refine lv_iadd hx hb d_Lw_law_191 ?_
  refine va_sld hx hb hXs hbl hbA hS (lx_in (k := 4) rfl (by omega) hL) d_Lw_law_192 ?_
  refine lx_calli (va_runV ⟨hx, hb, hml, hown, hT⟩ (c_Md_rule l D am cA mm (xs (nI i + 1 : Int32).toNatClampNeg) (xs (nI i + 2 : Int32).toNatClampNeg) (xs (nI i + 3 : Int32).toNatClampNeg) (xs (nI i + 4 : Int32).toNatClampNeg) (hI.2.1.1 0 39).1) (cwV 4 hT (tb_goodV0 ml_Lw_26 im_Md_rule se_Md_rule ii_Md kt_Md_rule) rfl rfl rfl (by decide +kernel) ⟨Nat.le_of_ble_eq_true rfl, Nat.le_of_ble_eq_true rfl⟩) (ux_preV (k := 0) (by decide) rfl rfl hM hK him hN) rfl rfl hl.1 rfl (lv_room (Nat.le_of_ble_eq_true rfl)) d_Lw_law_193 ⟨Nat.le_of_ble_eq_true rfl, Nat.le_of_ble_eq_true rfl⟩) hS hAm hX (fun k hk i q hi => (ux_w_in hi).2 ▸ hap i (ux_w_in hi).1 k hk) (fun rm mm1 H locs qm hM hX hS => ?_)
  refine lv_icmp_eq hx hb d_Lw_law_196 rfl (fun _ => back _ _ H locs (Li_mono (by rw [qm.1]; exact Li_rule hI qx) (by omega)) hX hM hS) (fun h => absurd (by rw [qm.2]; exact q_rule hI qx) h)
set_option maxHeartbeats 4000000 in
set_option maxRecDepth 100000 in
theorem lc_reset {p : Program} {e : Env} {s : State} {m : MethodId} {below : List Frame} {meth : Method} {c : Code} (l : Launch) {b L : Nat} {xs : Nat → Int32} {D : va_G} {cA : Nat → ClassId} {ax am : Nat → Nat} {adK adV : Nat → Nat} {fm : Value} {H : Heap} {locs : List Loc} {ls : Array Slot} {i TT : Nat} {mx mm : ux_M} (hL : L ≤ 2560) (C0 : lw_At p s m meth c b L xs) (Y : lx_Y D cA s ax am) (hZ : ux_Z ax adK adV fm s) (hi : i + 5 ≤ L) (hTT : TT + 4000 ≤ 2000000000) (hI : Li TT mx mm) (hl : lv_has ls 4 [(3, .int (nI i)), (2, .ref (am 0)), (1, .ref (ax 0)), (0, .ref b)]) (hX : va_P D classes (ux_w shX KX ax cA mx) H) (hM : va_P D classes (ux_w shM KM am cA mm) H) (hS : va_S (lx_A s) s.heap H locs) (back : ∀ (mx1 mm1 : ux_M) (H1 : Heap) (locs1 : List Loc), Li (TT + 4000) mx1 mm1 → va_P D classes (ux_w shX KX ax cA mx1) H1 → va_P D classes (ux_w shM KM am cA mm1) H1 → va_S (lx_A s) s.heap H1 locs1 → lx_W p l e s m b below meth c H1 locs1 (F0 m 438 ls [])) : lx_W p l e s m b below meth c H locs (F0 m 201 ls []) := by
  obtain ⟨hx, hb, hr, hml, hown0, hts, hXs, hbl, hlocks, -⟩ := C0
  obtain ⟨hK, hN, hix, him, hap, hAx, hAm⟩ := Y
  have hown : s.vm.findClass R_Lw = some m.cls := hown0
  have hT : ∀ w ∈ tb, w.before #[Value.ref b] s = true := fun w h => hts w (List.mem_filter.mp h).1
  have hbA : ¬ lx_A s b := Nat.not_le.mpr hbl
  refine lv_aload_n hx hb d_Lw_law_201 rfl (lv_at hl 2 rfl) ?_
  refine lx_callv (va_runV ⟨hx, hb, hml, hown, hT⟩ (c_PS_reset l D ax cA mx  ) (cwV 0 hT (tb_goodV0 ml_Lw_27 im_PS_reset se_PS_reset ii_PS kt_PS_reset) rfl rfl rfl (by decide +kernel) ⟨Nat.le_of_ble_eq_true rfl, Nat.le_of_ble_eq_true rfl⟩) (ux_preV (k := 0) (by decide) rfl rfl hX hK hix hN) rfl rfl hl.1 rfl (lv_room (Nat.le_of_ble_eq_true rfl)) d_Lw_law_202 ⟨Nat.le_of_ble_eq_true rfl, Nat.le_of_ble_eq_true rfl⟩) hS hAx hM (fun k hk i q hi => (ux_w_in hi).2 ▸ fun e => hap k hk i (ux_w_in hi).1 e.symm) (fun mx1 H locs qx hX hM hS => ?_)
  refine lv_aload_n hx hb d_Lw_law_205 rfl (lv_at hl 1 rfl) ?_
  refine lx_callv (va_runV ⟨hx, hb, hml, hown, hT⟩ (c_Md_reset l D am cA mm  ) (cwV 0 hT (tb_goodV0 ml_Lw_30 im_Md_reset se_Md_reset ii_Md kt_Md_reset) rfl rfl rfl (by decide +kernel) ⟨Nat.le_of_ble_eq_true rfl, Nat.le_of_ble_eq_true rfl⟩) (ux_preV (k := 0) (by decide) rfl rfl hM hK him hN) rfl rfl hl.1 rfl (lv_room (Nat.le_of_ble_eq_true rfl)) d_Lw_law_206 ⟨Nat.le_of_ble_eq_true rfl, Nat.le_of_ble_eq_true rfl⟩) hS hAm hX (fun k hk i q hi => (ux_w_in hi).2 ▸ hap i (ux_w_in hi).1 k hk) (fun mm1 H locs qm hM hX hS => ?_)
  refine lv_goto hx hb d_Lw_law_209 rfl (back _ _ H locs (Li_mono (by rw [qx, qm]; exact Li_reset hI) (by omega)) hX hM hS)
set_option maxHeartbeats 4000000 in
set_option maxRecDepth 100000 in
theorem lc_run {p : Program} {e : Env} {s : State} {m : MethodId} {below : List Frame} {meth : Method} {c : Code} (l : Launch) {b L : Nat} {xs : Nat → Int32} {D : va_G} {cA : Nat → ClassId} {ax am : Nat → Nat} {adK adV : Nat → Nat} {fm : Value} {H : Heap} {locs : List Loc} {ls : Array Slot} {i TT : Nat} {mx mm : ux_M} (hL : L ≤ 2560) (C0 : lw_At p s m meth c b L xs) (Y : lx_Y D cA s ax am) (hZ : ux_Z ax adK adV fm s) (hi : i + 5 ≤ L) (hTT : TT + 4000 ≤ 2000000000) (hI : Li TT mx mm) (hl : lv_has ls 4 [(3, .int (nI i)), (2, .ref (am 0)), (1, .ref (ax 0)), (0, .ref b)]) (hX : va_P D classes (ux_w shX KX ax cA mx) H) (hM : va_P D classes (ux_w shM KM am cA mm) H) (hS : va_S (lx_A s) s.heap H locs) (back : ∀ (mx1 mm1 : ux_M) (H1 : Heap) (locs1 : List Loc), Li (TT + 4000) mx1 mm1 → va_P D classes (ux_w shX KX ax cA mx1) H1 → va_P D classes (ux_w shM KM am cA mm1) H1 → va_S (lx_A s) s.heap H1 locs1 → lx_W p l e s m b below meth c H1 locs1 (F0 m 438 ls [])) : lx_W p l e s m b below meth c H locs (F0 m 212 ls []) := by
  obtain ⟨hx, hb, hr, hml, hown0, hts, hXs, hbl, hlocks, -⟩ := C0
  obtain ⟨hK, hN, hix, him, hap, hAx, hAm⟩ := Y
  have hown : s.vm.findClass R_Lw = some m.cls := hown0
  have hT : ∀ w ∈ tb, w.before #[Value.ref b] s = true := fun w h => hts w (List.mem_filter.mp h).1
  have hbA : ¬ lx_A s b := Nat.not_le.mpr hbl
  refine lv_aload_n hx hb d_Lw_law_212 rfl (lv_at hl 2 rfl) ?_
  refine lv_aload_n hx hb d_Lw_law_213 rfl (lv_at hl 3 rfl) ?_
  refine lv_iload_n hx hb d_Lw_law_214 rfl (lv_at hl 0 rfl) ?_
  refine lv_iconst (v := 1) hx hb d_Lw_law_215 (by decide) ?_
  refine lv_iadd hx hb d_Lw_law_216 ?_
  refine va_sld hx hb hXs hbl hbA hS (lx_in (k := 1) rfl (by omega) hL) d_Lw_law_217 ?_
  refine lx_calli (va_runV ⟨hx, hb, hml, hown, hT⟩ (s_PS_run l D ax cA mx hI.1 adK adV fm (xs (nI i + 1 : Int32).toNatClampNeg) ) (cwV 1 hT (tb_goodV0 ml_Lw_31 im_PS_run se_PS_run ii_PS kt_PS_run) rfl rfl rfl (by decide +kernel) ⟨Nat.le_of_ble_eq_true rfl, Nat.le_of_ble_eq_true rfl⟩) (lx_preZ (k := 0) (by decide) rfl rfl hX hK hix hN hZ hS) rfl rfl hl.1 rfl (lv_room (Nat.le_of_ble_eq_true rfl)) d_Lw_law_218 ⟨Nat.le_of_ble_eq_true rfl, Nat.le_of_ble_eq_true rfl⟩) hS hAx hM (fun k hk i q hi => (ux_w_in hi).2 ▸ fun e => hap k hk i (ux_w_in hi).1 e.symm) (fun rx mx1 H locs qx hX hM hS => ?_)
  refine lv_pop hx hb d_Lw_law_221 rfl ?_
  refine lv_aload_n hx hb d_Lw_law_222 rfl (lv_at hl 1 rfl) ?_
  refine lv_aload_n hx hb d_Lw_law_223 rfl (lv_at hl 3 rfl) ?_
  refine lv_iload_n hx hb d_Lw_law_224 rfl (lv_at hl 0 rfl) ?_
  refine lv_iconst (v := 1) hx hb d_Lw_law_225 (by decide) ?_
  refine lv_iadd hx hb d_Lw_law_226 ?_
  refine va_sld hx hb hXs hbl hbA hS (lx_in (k := 1) rfl (by omega) hL) d_Lw_law_227 ?_
  refine lx_calli (va_runV ⟨hx, hb, hml, hown, hT⟩ (s_Md_run l D am cA 100000000 TT (TT + 4000) (by decide) hTT (Nat.le_refl _) (by decide) mm hI.2.1 (xs (nI i + 1 : Int32).toNatClampNeg) ) (cwV 1 hT (tb_goodV0 ml_Lw_35 im_Md_run se_Md_run ii_Md kt_Md_run) rfl rfl rfl (by decide +kernel) ⟨Nat.le_of_ble_eq_true rfl, Nat.le_of_ble_eq_true rfl⟩) (ux_preV (k := 0) (by decide) rfl rfl hM hK him hN) rfl rfl hl.1 rfl (lv_room (Nat.le_of_ble_eq_true rfl)) d_Lw_law_228 ⟨Nat.le_of_ble_eq_true rfl, Nat.le_of_ble_eq_true rfl⟩) hS hAm hX (fun k hk i q hi => (ux_w_in hi).2 ▸ hap i (ux_w_in hi).1 k hk) (fun rm mm1 H locs qm hM hX hS => ?_)
  refine lv_pop hx hb d_Lw_law_231 rfl ?_
  refine lv_goto hx hb d_Lw_law_232 rfl (back _ _ H locs (Li_run hI qx.1 qx.2.1 qx.2.2 qm.1 qm.2.1 qm.2.2) hX hM hS)
set_option maxHeartbeats 4000000 in
set_option maxRecDepth 100000 in
theorem lc_length {p : Program} {e : Env} {s : State} {m : MethodId} {below : List Frame} {meth : Method} {c : Code} (l : Launch) {b L : Nat} {xs : Nat → Int32} {D : va_G} {cA : Nat → ClassId} {ax am : Nat → Nat} {adK adV : Nat → Nat} {fm : Value} {H : Heap} {locs : List Loc} {ls : Array Slot} {i TT : Nat} {mx mm : ux_M} (hL : L ≤ 2560) (C0 : lw_At p s m meth c b L xs) (Y : lx_Y D cA s ax am) (hZ : ux_Z ax adK adV fm s) (hi : i + 5 ≤ L) (hTT : TT + 4000 ≤ 2000000000) (hI : Li TT mx mm) (hl : lv_has ls 4 [(3, .int (nI i)), (2, .ref (am 0)), (1, .ref (ax 0)), (0, .ref b)]) (hX : va_P D classes (ux_w shX KX ax cA mx) H) (hM : va_P D classes (ux_w shM KM am cA mm) H) (hS : va_S (lx_A s) s.heap H locs) (back : ∀ (mx1 mm1 : ux_M) (H1 : Heap) (locs1 : List Loc), Li (TT + 4000) mx1 mm1 → va_P D classes (ux_w shX KX ax cA mx1) H1 → va_P D classes (ux_w shM KM am cA mm1) H1 → va_S (lx_A s) s.heap H1 locs1 → lx_W p l e s m b below meth c H1 locs1 (F0 m 438 ls [])) : lx_W p l e s m b below meth c H locs (F0 m 235 ls []) := by
  obtain ⟨hx, hb, hr, hml, hown0, hts, hXs, hbl, hlocks, -⟩ := C0
  obtain ⟨hK, hN, hix, him, hap, hAx, hAm⟩ := Y
  have hown : s.vm.findClass R_Lw = some m.cls := hown0
  have hT : ∀ w ∈ tb, w.before #[Value.ref b] s = true := fun w h => hts w (List.mem_filter.mp h).1
  have hbA : ¬ lx_A s b := Nat.not_le.mpr hbl
  refine lv_aload_n hx hb d_Lw_law_235 rfl (lv_at hl 2 rfl) ?_
  refine lx_calli (va_runV ⟨hx, hb, hml, hown, hT⟩ (c_PS_length l D ax cA mx  ) (cwV 0 hT (tb_goodV0 ml_Lw_36 im_PS_length se_PS_length ii_PS kt_PS_length) rfl rfl rfl (by decide +kernel) ⟨Nat.le_of_ble_eq_true rfl, Nat.le_of_ble_eq_true rfl⟩) (ux_preV (k := 0) (by decide) rfl rfl hX hK hix hN) rfl rfl hl.1 rfl (lv_room (Nat.le_of_ble_eq_true rfl)) d_Lw_law_236 ⟨Nat.le_of_ble_eq_true rfl, Nat.le_of_ble_eq_true rfl⟩) hS hAx hM (fun k hk i q hi => (ux_w_in hi).2 ▸ fun e => hap k hk i (ux_w_in hi).1 e.symm) (fun rx mx1 H locs qx hX hM hS => ?_)
  refine lv_pop hx hb d_Lw_law_239 rfl ?_
  refine lv_aload_n hx hb d_Lw_law_240 rfl (lv_at hl 1 rfl) ?_
  refine lx_calli (va_runV ⟨hx, hb, hml, hown, hT⟩ (c_Md_length l D am cA mm  ) (cwV 0 hT (tb_goodV0 ml_Lw_40 im_Md_length se_Md_length ii_Md kt_Md_length) rfl rfl rfl (by decide +kernel) ⟨Nat.le_of_ble_eq_true rfl, Nat.le_of_ble_eq_true rfl⟩) (ux_preV (k := 0) (by decide) rfl rfl hM hK him hN) rfl rfl hl.1 rfl (lv_room (Nat.le_of_ble_eq_true rfl)) d_Lw_law_241 ⟨Nat.le_of_ble_eq_true rfl, Nat.le_of_ble_eq_true rfl⟩) hS hAm hX (fun k hk i q hi => (ux_w_in hi).2 ▸ hap i (ux_w_in hi).1 k hk) (fun rm mm1 H locs qm hM hX hS => ?_)
  refine lv_pop hx hb d_Lw_law_244 rfl ?_
  refine lv_goto hx hb d_Lw_law_245 rfl (back _ _ H locs (Li_mono (Li_same hI qx.1 qm.1) (by omega)) hX hM hS)
set_option maxHeartbeats 4000000 in
set_option maxRecDepth 100000 in
theorem lc_at {p : Program} {e : Env} {s : State} {m : MethodId} {below : List Frame} {meth : Method} {c : Code} (l : Launch) {b L : Nat} {xs : Nat → Int32} {D : va_G} {cA : Nat → ClassId} {ax am : Nat → Nat} {adK adV : Nat → Nat} {fm : Value} {H : Heap} {locs : List Loc} {ls : Array Slot} {i TT : Nat} {mx mm : ux_M} (hL : L ≤ 2560) (C0 : lw_At p s m meth c b L xs) (Y : lx_Y D cA s ax am) (hZ : ux_Z ax adK adV fm s) (hi : i + 5 ≤ L) (hTT : TT + 4000 ≤ 2000000000) (hI : Li TT mx mm) (hl : lv_has ls 4 [(3, .int (nI i)), (2, .ref (am 0)), (1, .ref (ax 0)), (0, .ref b)]) (hX : va_P D classes (ux_w shX KX ax cA mx) H) (hM : va_P D classes (ux_w shM KM am cA mm) H) (hS : va_S (lx_A s) s.heap H locs) (back : ∀ (mx1 mm1 : ux_M) (H1 : Heap) (locs1 : List Loc), Li (TT + 4000) mx1 mm1 → va_P D classes (ux_w shX KX ax cA mx1) H1 → va_P D classes (ux_w shM KM am cA mm1) H1 → va_S (lx_A s) s.heap H1 locs1 → lx_W p l e s m b below meth c H1 locs1 (F0 m 438 ls [])) : lx_W p l e s m b below meth c H locs (F0 m 248 ls []) := by
  obtain ⟨hx, hb, hr, hml, hown0, hts, hXs, hbl, hlocks, -⟩ := C0
  obtain ⟨hK, hN, hix, him, hap, hAx, hAm⟩ := Y
  have hown : s.vm.findClass R_Lw = some m.cls := hown0
  have hT : ∀ w ∈ tb, w.before #[Value.ref b] s = true := fun w h => hts w (List.mem_filter.mp h).1
  have hbA : ¬ lx_A s b := Nat.not_le.mpr hbl
  refine lv_aload_n hx hb d_Lw_law_248 rfl (lv_at hl 2 rfl) ?_
  refine lv_aload_n hx hb d_Lw_law_249 rfl (lv_at hl 3 rfl) ?_
  refine lv_iload_n hx hb d_Lw_law_250 rfl (lv_at hl 0 rfl) ?_
  refine lv_iconst (v := 1) hx hb d_Lw_law_251 (by decide) ?_
  refine lv_iadd hx hb d_Lw_law_252 ?_
  refine va_sld hx hb hXs hbl hbA hS (lx_in (k := 1) rfl (by omega) hL) d_Lw_law_253 ?_
  refine lx_calli (va_runV ⟨hx, hb, hml, hown, hT⟩ (c_PS_at l D ax cA mx (xs (nI i + 1 : Int32).toNatClampNeg) ) (cwV 1 hT (tb_goodV0 ml_Lw_41 im_PS_at se_PS_at ii_PS kt_PS_at) rfl rfl rfl (by decide +kernel) ⟨Nat.le_of_ble_eq_true rfl, Nat.le_of_ble_eq_true rfl⟩) (ux_preV (k := 0) (by decide) rfl rfl hX hK hix hN) rfl rfl hl.1 rfl (lv_room (Nat.le_of_ble_eq_true rfl)) d_Lw_law_254 ⟨Nat.le_of_ble_eq_true rfl, Nat.le_of_ble_eq_true rfl⟩) hS hAx hM (fun k hk i q hi => (ux_w_in hi).2 ▸ fun e => hap k hk i (ux_w_in hi).1 e.symm) (fun rx mx1 H locs qx hX hM hS => ?_)
  refine lv_pop hx hb d_Lw_law_257 rfl ?_
  refine lv_aload_n hx hb d_Lw_law_258 rfl (lv_at hl 1 rfl) ?_
  refine lv_aload_n hx hb d_Lw_law_259 rfl (lv_at hl 3 rfl) ?_
  refine lv_iload_n hx hb d_Lw_law_260 rfl (lv_at hl 0 rfl) ?_
  refine lv_iconst (v := 1) hx hb d_Lw_law_261 (by decide) ?_
  refine lv_iadd hx hb d_Lw_law_262 ?_
  refine va_sld hx hb hXs hbl hbA hS (lx_in (k := 1) rfl (by omega) hL) d_Lw_law_263 ?_
  refine lx_calli (va_runV ⟨hx, hb, hml, hown, hT⟩ (c_Md_at l D am cA mm (xs (nI i + 1 : Int32).toNatClampNeg) (hI.2.1.1 0 25).2) (cwV 1 hT (tb_goodV0 ml_Lw_44 im_Md_at se_Md_at ii_Md kt_Md_at) rfl rfl rfl (by decide +kernel) ⟨Nat.le_of_ble_eq_true rfl, Nat.le_of_ble_eq_true rfl⟩) (ux_preV (k := 0) (by decide) rfl rfl hM hK him hN) rfl rfl hl.1 rfl (lv_room (Nat.le_of_ble_eq_true rfl)) d_Lw_law_264 ⟨Nat.le_of_ble_eq_true rfl, Nat.le_of_ble_eq_true rfl⟩) hS hAm hX (fun k hk i q hi => (ux_w_in hi).2 ▸ hap i (ux_w_in hi).1 k hk) (fun rm mm1 H locs qm hM hX hS => ?_)
  refine lv_pop hx hb d_Lw_law_267 rfl ?_
  refine lv_goto hx hb d_Lw_law_268 rfl (back _ _ H locs (Li_mono (Li_same hI qx.1 (qm.1.trans (fk_at _ _))) (by omega)) hX hM hS)
set_option maxHeartbeats 4000000 in
set_option maxRecDepth 100000 in
theorem lc_used {p : Program} {e : Env} {s : State} {m : MethodId} {below : List Frame} {meth : Method} {c : Code} (l : Launch) {b L : Nat} {xs : Nat → Int32} {D : va_G} {cA : Nat → ClassId} {ax am : Nat → Nat} {adK adV : Nat → Nat} {fm : Value} {H : Heap} {locs : List Loc} {ls : Array Slot} {i TT : Nat} {mx mm : ux_M} (hL : L ≤ 2560) (C0 : lw_At p s m meth c b L xs) (Y : lx_Y D cA s ax am) (hZ : ux_Z ax adK adV fm s) (hi : i + 5 ≤ L) (hTT : TT + 4000 ≤ 2000000000) (hI : Li TT mx mm) (hl : lv_has ls 4 [(3, .int (nI i)), (2, .ref (am 0)), (1, .ref (ax 0)), (0, .ref b)]) (hX : va_P D classes (ux_w shX KX ax cA mx) H) (hM : va_P D classes (ux_w shM KM am cA mm) H) (hS : va_S (lx_A s) s.heap H locs) (back : ∀ (mx1 mm1 : ux_M) (H1 : Heap) (locs1 : List Loc), Li (TT + 4000) mx1 mm1 → va_P D classes (ux_w shX KX ax cA mx1) H1 → va_P D classes (ux_w shM KM am cA mm1) H1 → va_S (lx_A s) s.heap H1 locs1 → lx_W p l e s m b below meth c H1 locs1 (F0 m 438 ls [])) : lx_W p l e s m b below meth c H locs (F0 m 271 ls []) := by
  obtain ⟨hx, hb, hr, hml, hown0, hts, hXs, hbl, hlocks, -⟩ := C0
  obtain ⟨hK, hN, hix, him, hap, hAx, hAm⟩ := Y
  have hown : s.vm.findClass R_Lw = some m.cls := hown0
  have hT : ∀ w ∈ tb, w.before #[Value.ref b] s = true := fun w h => hts w (List.mem_filter.mp h).1
  have hbA : ¬ lx_A s b := Nat.not_le.mpr hbl
  refine lv_aload_n hx hb d_Lw_law_271 rfl (lv_at hl 2 rfl) ?_
  refine lx_calli (va_runV ⟨hx, hb, hml, hown, hT⟩ (c_PS_used l D ax cA mx  ) (cwV 0 hT (tb_goodV0 ml_Lw_45 im_PS_used se_PS_used ii_PS kt_PS_used) rfl rfl rfl (by decide +kernel) ⟨Nat.le_of_ble_eq_true rfl, Nat.le_of_ble_eq_true rfl⟩) (ux_preV (k := 0) (by decide) rfl rfl hX hK hix hN) rfl rfl hl.1 rfl (lv_room (Nat.le_of_ble_eq_true rfl)) d_Lw_law_272 ⟨Nat.le_of_ble_eq_true rfl, Nat.le_of_ble_eq_true rfl⟩) hS hAx hM (fun k hk i q hi => (ux_w_in hi).2 ▸ fun e => hap k hk i (ux_w_in hi).1 e.symm) (fun rx mx1 H locs qx hX hM hS => ?_)
  refine lv_pop hx hb d_Lw_law_275 rfl ?_
  refine lv_aload_n hx hb d_Lw_law_276 rfl (lv_at hl 1 rfl) ?_
  refine lx_calli (va_runV ⟨hx, hb, hml, hown, hT⟩ (c_Md_used l D am cA mm  ) (cwV 0 hT (tb_goodV0 ml_Lw_48 im_Md_used se_Md_used ii_Md kt_Md_used) rfl rfl rfl (by decide +kernel) ⟨Nat.le_of_ble_eq_true rfl, Nat.le_of_ble_eq_true rfl⟩) (ux_preV (k := 0) (by decide) rfl rfl hM hK him hN) rfl rfl hl.1 rfl (lv_room (Nat.le_of_ble_eq_true rfl)) d_Lw_law_277 ⟨Nat.le_of_ble_eq_true rfl, Nat.le_of_ble_eq_true rfl⟩) hS hAm hX (fun k hk i q hi => (ux_w_in hi).2 ▸ hap i (ux_w_in hi).1 k hk) (fun rm mm1 H locs qm hM hX hS => ?_)
  refine lv_pop hx hb d_Lw_law_280 rfl ?_
  refine lv_goto hx hb d_Lw_law_281 rfl (back _ _ H locs (Li_mono (Li_same hI qx.1 qm.1) (by omega)) hX hM hS)
set_option maxHeartbeats 4000000 in
set_option maxRecDepth 100000 in
theorem lc_size {p : Program} {e : Env} {s : State} {m : MethodId} {below : List Frame} {meth : Method} {c : Code} (l : Launch) {b L : Nat} {xs : Nat → Int32} {D : va_G} {cA : Nat → ClassId} {ax am : Nat → Nat} {adK adV : Nat → Nat} {fm : Value} {H : Heap} {locs : List Loc} {ls : Array Slot} {i TT : Nat} {mx mm : ux_M} (hL : L ≤ 2560) (C0 : lw_At p s m meth c b L xs) (Y : lx_Y D cA s ax am) (hZ : ux_Z ax adK adV fm s) (hi : i + 5 ≤ L) (hTT : TT + 4000 ≤ 2000000000) (hI : Li TT mx mm) (hl : lv_has ls 4 [(3, .int (nI i)), (2, .ref (am 0)), (1, .ref (ax 0)), (0, .ref b)]) (hX : va_P D classes (ux_w shX KX ax cA mx) H) (hM : va_P D classes (ux_w shM KM am cA mm) H) (hS : va_S (lx_A s) s.heap H locs) (back : ∀ (mx1 mm1 : ux_M) (H1 : Heap) (locs1 : List Loc), Li (TT + 4000) mx1 mm1 → va_P D classes (ux_w shX KX ax cA mx1) H1 → va_P D classes (ux_w shM KM am cA mm1) H1 → va_S (lx_A s) s.heap H1 locs1 → lx_W p l e s m b below meth c H1 locs1 (F0 m 438 ls [])) : lx_W p l e s m b below meth c H locs (F0 m 284 ls []) := by
  obtain ⟨hx, hb, hr, hml, hown0, hts, hXs, hbl, hlocks, -⟩ := C0
  obtain ⟨hK, hN, hix, him, hap, hAx, hAm⟩ := Y
  have hown : s.vm.findClass R_Lw = some m.cls := hown0
  have hT : ∀ w ∈ tb, w.before #[Value.ref b] s = true := fun w h => hts w (List.mem_filter.mp h).1
  have hbA : ¬ lx_A s b := Nat.not_le.mpr hbl
  refine lv_aload_n hx hb d_Lw_law_284 rfl (lv_at hl 2 rfl) ?_
  refine lv_aload_n hx hb d_Lw_law_285 rfl (lv_at hl 3 rfl) ?_
  refine lv_iload_n hx hb d_Lw_law_286 rfl (lv_at hl 0 rfl) ?_
  refine lv_iconst (v := 1) hx hb d_Lw_law_287 (by decide) ?_
  refine lv_iadd hx hb d_Lw_law_288 ?_
  refine va_sld hx hb hXs hbl hbA hS (lx_in (k := 1) rfl (by omega) hL) d_Lw_law_289 ?_
  refine lx_calli (va_runV ⟨hx, hb, hml, hown, hT⟩ (c_PS_size l D ax cA mx (xs (nI i + 1 : Int32).toNatClampNeg) ) (cwV 1 hT (tb_goodV0 ml_Lw_49 im_PS_size se_PS_size ii_PS kt_PS_size) rfl rfl rfl (by decide +kernel) ⟨Nat.le_of_ble_eq_true rfl, Nat.le_of_ble_eq_true rfl⟩) (ux_preV (k := 0) (by decide) rfl rfl hX hK hix hN) rfl rfl hl.1 rfl (lv_room (Nat.le_of_ble_eq_true rfl)) d_Lw_law_290 ⟨Nat.le_of_ble_eq_true rfl, Nat.le_of_ble_eq_true rfl⟩) hS hAx hM (fun k hk i q hi => (ux_w_in hi).2 ▸ fun e => hap k hk i (ux_w_in hi).1 e.symm) (fun rx mx1 H locs qx hX hM hS => ?_)
  refine lv_pop hx hb d_Lw_law_293 rfl ?_
  refine lv_aload_n hx hb d_Lw_law_294 rfl (lv_at hl 1 rfl) ?_
  refine lv_aload_n hx hb d_Lw_law_295 rfl (lv_at hl 3 rfl) ?_
  refine lv_iload_n hx hb d_Lw_law_296 rfl (lv_at hl 0 rfl) ?_
  refine lv_iconst (v := 1) hx hb d_Lw_law_297 (by decide) ?_
  refine lv_iadd hx hb d_Lw_law_298 ?_
  refine va_sld hx hb hXs hbl hbA hS (lx_in (k := 1) rfl (by omega) hL) d_Lw_law_299 ?_
  refine lx_calli (va_runV ⟨hx, hb, hml, hown, hT⟩ (c_Md_size l D am cA mm (xs (nI i + 1 : Int32).toNatClampNeg) ) (cwV 1 hT (tb_goodV0 ml_Lw_52 im_Md_size se_Md_size ii_Md kt_Md_size) rfl rfl rfl (by decide +kernel) ⟨Nat.le_of_ble_eq_true rfl, Nat.le_of_ble_eq_true rfl⟩) (ux_preV (k := 0) (by decide) rfl rfl hM hK him hN) rfl rfl hl.1 rfl (lv_room (Nat.le_of_ble_eq_true rfl)) d_Lw_law_300 ⟨Nat.le_of_ble_eq_true rfl, Nat.le_of_ble_eq_true rfl⟩) hS hAm hX (fun k hk i q hi => (ux_w_in hi).2 ▸ hap i (ux_w_in hi).1 k hk) (fun rm mm1 H locs qm hM hX hS => ?_)
  refine lv_pop hx hb d_Lw_law_303 rfl ?_
  refine lv_goto hx hb d_Lw_law_304 rfl (back _ _ H locs (Li_mono (Li_same hI qx.1 (qm.1.trans (fk_Md_size _ _))) (by omega)) hX hM hS)
set_option maxHeartbeats 4000000 in
set_option maxRecDepth 100000 in
theorem lc_letter {p : Program} {e : Env} {s : State} {m : MethodId} {below : List Frame} {meth : Method} {c : Code} (l : Launch) {b L : Nat} {xs : Nat → Int32} {D : va_G} {cA : Nat → ClassId} {ax am : Nat → Nat} {adK adV : Nat → Nat} {fm : Value} {H : Heap} {locs : List Loc} {ls : Array Slot} {i TT : Nat} {mx mm : ux_M} (hL : L ≤ 2560) (C0 : lw_At p s m meth c b L xs) (Y : lx_Y D cA s ax am) (hZ : ux_Z ax adK adV fm s) (hi : i + 5 ≤ L) (hTT : TT + 4000 ≤ 2000000000) (hI : Li TT mx mm) (hl : lv_has ls 4 [(3, .int (nI i)), (2, .ref (am 0)), (1, .ref (ax 0)), (0, .ref b)]) (hX : va_P D classes (ux_w shX KX ax cA mx) H) (hM : va_P D classes (ux_w shM KM am cA mm) H) (hS : va_S (lx_A s) s.heap H locs) (back : ∀ (mx1 mm1 : ux_M) (H1 : Heap) (locs1 : List Loc), Li (TT + 4000) mx1 mm1 → va_P D classes (ux_w shX KX ax cA mx1) H1 → va_P D classes (ux_w shM KM am cA mm1) H1 → va_S (lx_A s) s.heap H1 locs1 → lx_W p l e s m b below meth c H1 locs1 (F0 m 438 ls [])) : lx_W p l e s m b below meth c H locs (F0 m 307 ls []) := by
  obtain ⟨hx, hb, hr, hml, hown0, hts, hXs, hbl, hlocks, -⟩ := C0
  obtain ⟨hK, hN, hix, him, hap, hAx, hAm⟩ := Y
  have hown : s.vm.findClass R_Lw = some m.cls := hown0
  have hT : ∀ w ∈ tb, w.before #[Value.ref b] s = true := fun w h => hts w (List.mem_filter.mp h).1
  have hbA : ¬ lx_A s b := Nat.not_le.mpr hbl
  refine lv_aload_n hx hb d_Lw_law_307 rfl (lv_at hl 2 rfl) ?_
  refine lv_aload_n hx hb d_Lw_law_308 rfl (lv_at hl 3 rfl) ?_
  refine lv_iload_n hx hb d_Lw_law_309 rfl (lv_at hl 0 rfl) ?_
  refine lv_iconst (v := 1) hx hb d_Lw_law_310 (by decide) ?_
  refine lv_iadd hx hb d_Lw_law_311 ?_
  refine va_sld hx hb hXs hbl hbA hS (lx_in (k := 1) rfl (by omega) hL) d_Lw_law_312 ?_
  refine lv_aload_n hx hb d_Lw_law_313 rfl (lv_at hl 3 rfl) ?_
  refine lv_iload_n hx hb d_Lw_law_314 rfl (lv_at hl 0 rfl) ?_
  refine lv_iconst (v := 2) hx hb d_Lw_law_315 (by decide) ?_
  refine lv_iadd hx hb d_Lw_law_316 ?_
  refine va_sld hx hb hXs hbl hbA hS (lx_in (k := 2) rfl (by omega) hL) d_Lw_law_317 ?_
  refine lx_calli (va_runV ⟨hx, hb, hml, hown, hT⟩ (c_PS_letter l D ax cA mx (xs (nI i + 1 : Int32).toNatClampNeg) (xs (nI i + 2 : Int32).toNatClampNeg) ) (cwV 2 hT (tb_goodV0 ml_Lw_53 im_PS_letter se_PS_letter ii_PS kt_PS_letter) rfl rfl rfl (by decide +kernel) ⟨Nat.le_of_ble_eq_true rfl, Nat.le_of_ble_eq_true rfl⟩) (ux_preV (k := 0) (by decide) rfl rfl hX hK hix hN) rfl rfl hl.1 rfl (lv_room (Nat.le_of_ble_eq_true rfl)) d_Lw_law_318 ⟨Nat.le_of_ble_eq_true rfl, Nat.le_of_ble_eq_true rfl⟩) hS hAx hM (fun k hk i q hi => (ux_w_in hi).2 ▸ fun e => hap k hk i (ux_w_in hi).1 e.symm) (fun rx mx1 H locs qx hX hM hS => ?_)
  refine lv_pop hx hb d_Lw_law_321 rfl ?_
  refine lv_aload_n hx hb d_Lw_law_322 rfl (lv_at hl 1 rfl) ?_
  refine lv_aload_n hx hb d_Lw_law_323 rfl (lv_at hl 3 rfl) ?_
  refine lv_iload_n hx hb d_Lw_law_324 rfl (lv_at hl 0 rfl) ?_
  refine lv_iconst (v := 1) hx hb d_Lw_law_325 (by decide) ?_
  refine lv_iadd hx hb d_Lw_law_326 ?_
  refine va_sld hx hb hXs hbl hbA hS (lx_in (k := 1) rfl (by omega) hL) d_Lw_law_327 ?_
  refine lv_aload_n hx hb d_Lw_law_328 rfl (lv_at hl 3 rfl) ?_
  refine lv_iload_n hx hb d_Lw_law_329 rfl (lv_at hl 0 rfl) ?_
  refine lv_iconst (v := 2) hx hb d_Lw_law_330 (by decide) ?_
  refine lv_iadd hx hb d_Lw_law_331 ?_
  refine va_sld hx hb hXs hbl hbA hS (lx_in (k := 2) rfl (by omega) hL) d_Lw_law_332 ?_
  refine lx_calli (va_runV ⟨hx, hb, hml, hown, hT⟩ (c_Md_letter l D am cA mm (xs (nI i + 1 : Int32).toNatClampNeg) (xs (nI i + 2 : Int32).toNatClampNeg) (fun j => (hI.2.1.1 2 j).2)) (cwV 2 hT (tb_goodV0 ml_Lw_57 im_Md_letter se_Md_letter ii_Md kt_Md_letter) rfl rfl rfl (by decide +kernel) ⟨Nat.le_of_ble_eq_true rfl, Nat.le_of_ble_eq_true rfl⟩) (ux_preV (k := 0) (by decide) rfl rfl hM hK him hN) rfl rfl hl.1 rfl (lv_room (Nat.le_of_ble_eq_true rfl)) d_Lw_law_333 ⟨Nat.le_of_ble_eq_true rfl, Nat.le_of_ble_eq_true rfl⟩) hS hAm hX (fun k hk i q hi => (ux_w_in hi).2 ▸ hap i (ux_w_in hi).1 k hk) (fun rm mm1 H locs qm hM hX hS => ?_)
  refine lv_pop hx hb d_Lw_law_336 rfl ?_
  refine lv_goto hx hb d_Lw_law_337 rfl (back _ _ H locs (Li_mono (Li_same hI qx.1 (qm.1.trans (fk_letter _ _ _))) (by omega)) hX hM hS)
set_option maxHeartbeats 4000000 in
set_option maxRecDepth 100000 in
theorem lc_defined {p : Program} {e : Env} {s : State} {m : MethodId} {below : List Frame} {meth : Method} {c : Code} (l : Launch) {b L : Nat} {xs : Nat → Int32} {D : va_G} {cA : Nat → ClassId} {ax am : Nat → Nat} {adK adV : Nat → Nat} {fm : Value} {H : Heap} {locs : List Loc} {ls : Array Slot} {i TT : Nat} {mx mm : ux_M} (hL : L ≤ 2560) (C0 : lw_At p s m meth c b L xs) (Y : lx_Y D cA s ax am) (hZ : ux_Z ax adK adV fm s) (hi : i + 5 ≤ L) (hTT : TT + 4000 ≤ 2000000000) (hI : Li TT mx mm) (hl : lv_has ls 4 [(3, .int (nI i)), (2, .ref (am 0)), (1, .ref (ax 0)), (0, .ref b)]) (hX : va_P D classes (ux_w shX KX ax cA mx) H) (hM : va_P D classes (ux_w shM KM am cA mm) H) (hS : va_S (lx_A s) s.heap H locs) (back : ∀ (mx1 mm1 : ux_M) (H1 : Heap) (locs1 : List Loc), Li (TT + 4000) mx1 mm1 → va_P D classes (ux_w shX KX ax cA mx1) H1 → va_P D classes (ux_w shM KM am cA mm1) H1 → va_S (lx_A s) s.heap H1 locs1 → lx_W p l e s m b below meth c H1 locs1 (F0 m 438 ls [])) : lx_W p l e s m b below meth c H locs (F0 m 340 ls []) := by
  obtain ⟨hx, hb, hr, hml, hown0, hts, hXs, hbl, hlocks, -⟩ := C0
  obtain ⟨hK, hN, hix, him, hap, hAx, hAm⟩ := Y
  have hown : s.vm.findClass R_Lw = some m.cls := hown0
  have hT : ∀ w ∈ tb, w.before #[Value.ref b] s = true := fun w h => hts w (List.mem_filter.mp h).1
  have hbA : ¬ lx_A s b := Nat.not_le.mpr hbl
  refine lv_aload_n hx hb d_Lw_law_340 rfl (lv_at hl 2 rfl) ?_
  refine lv_aload_n hx hb d_Lw_law_341 rfl (lv_at hl 3 rfl) ?_
  refine lv_iload_n hx hb d_Lw_law_342 rfl (lv_at hl 0 rfl) ?_
  refine lv_iconst (v := 1) hx hb d_Lw_law_343 (by decide) ?_
  refine lv_iadd hx hb d_Lw_law_344 ?_
  refine va_sld hx hb hXs hbl hbA hS (lx_in (k := 1) rfl (by omega) hL) d_Lw_law_345 ?_
  refine lx_calli (va_runV ⟨hx, hb, hml, hown, hT⟩ (c_PS_defined l D ax cA mx (xs (nI i + 1 : Int32).toNatClampNeg) ) (cwV 1 hT (tb_goodV0 ml_Lw_58 im_PS_defined se_PS_defined ii_PS kt_PS_defined) rfl rfl rfl (by decide +kernel) ⟨Nat.le_of_ble_eq_true rfl, Nat.le_of_ble_eq_true rfl⟩) (ux_preV (k := 0) (by decide) rfl rfl hX hK hix hN) rfl rfl hl.1 rfl (lv_room (Nat.le_of_ble_eq_true rfl)) d_Lw_law_346 ⟨Nat.le_of_ble_eq_true rfl, Nat.le_of_ble_eq_true rfl⟩) hS hAx hM (fun k hk i q hi => (ux_w_in hi).2 ▸ fun e => hap k hk i (ux_w_in hi).1 e.symm) (fun rx mx1 H locs qx hX hM hS => ?_)
  refine lv_pop hx hb d_Lw_law_349 rfl ?_
  refine lv_aload_n hx hb d_Lw_law_350 rfl (lv_at hl 1 rfl) ?_
  refine lv_aload_n hx hb d_Lw_law_351 rfl (lv_at hl 3 rfl) ?_
  refine lv_iload_n hx hb d_Lw_law_352 rfl (lv_at hl 0 rfl) ?_
  refine lv_iconst (v := 1) hx hb d_Lw_law_353 (by decide) ?_
  refine lv_iadd hx hb d_Lw_law_354 ?_
  refine va_sld hx hb hXs hbl hbA hS (lx_in (k := 1) rfl (by omega) hL) d_Lw_law_355 ?_
  refine lx_calli (va_runV ⟨hx, hb, hml, hown, hT⟩ (c_Md_defined l D am cA mm (xs (nI i + 1 : Int32).toNatClampNeg) ) (cwV 1 hT (tb_goodV0 ml_Lw_62 im_Md_defined se_Md_defined ii_Md kt_Md_defined) rfl rfl rfl (by decide +kernel) ⟨Nat.le_of_ble_eq_true rfl, Nat.le_of_ble_eq_true rfl⟩) (ux_preV (k := 0) (by decide) rfl rfl hM hK him hN) rfl rfl hl.1 rfl (lv_room (Nat.le_of_ble_eq_true rfl)) d_Lw_law_356 ⟨Nat.le_of_ble_eq_true rfl, Nat.le_of_ble_eq_true rfl⟩) hS hAm hX (fun k hk i q hi => (ux_w_in hi).2 ▸ hap i (ux_w_in hi).1 k hk) (fun rm mm1 H locs qm hM hX hS => ?_)
  refine lv_pop hx hb d_Lw_law_359 rfl ?_
  refine lv_goto hx hb d_Lw_law_360 rfl (back _ _ H locs (Li_mono (Li_same hI qx.1 (qm.1.trans (fk_defined _ _))) (by omega)) hX hM hS)
set_option maxHeartbeats 4000000 in
set_option maxRecDepth 100000 in
theorem lc_peer {p : Program} {e : Env} {s : State} {m : MethodId} {below : List Frame} {meth : Method} {c : Code} (l : Launch) {b L : Nat} {xs : Nat → Int32} {D : va_G} {cA : Nat → ClassId} {ax am : Nat → Nat} {adK adV : Nat → Nat} {fm : Value} {H : Heap} {locs : List Loc} {ls : Array Slot} {i TT : Nat} {mx mm : ux_M} (hL : L ≤ 2560) (C0 : lw_At p s m meth c b L xs) (Y : lx_Y D cA s ax am) (hZ : ux_Z ax adK adV fm s) (hi : i + 5 ≤ L) (hTT : TT + 4000 ≤ 2000000000) (hI : Li TT mx mm) (hl : lv_has ls 4 [(3, .int (nI i)), (2, .ref (am 0)), (1, .ref (ax 0)), (0, .ref b)]) (hX : va_P D classes (ux_w shX KX ax cA mx) H) (hM : va_P D classes (ux_w shM KM am cA mm) H) (hS : va_S (lx_A s) s.heap H locs) (back : ∀ (mx1 mm1 : ux_M) (H1 : Heap) (locs1 : List Loc), Li (TT + 4000) mx1 mm1 → va_P D classes (ux_w shX KX ax cA mx1) H1 → va_P D classes (ux_w shM KM am cA mm1) H1 → va_S (lx_A s) s.heap H1 locs1 → lx_W p l e s m b below meth c H1 locs1 (F0 m 438 ls [])) : lx_W p l e s m b below meth c H locs (F0 m 363 ls []) := by
  obtain ⟨hx, hb, hr, hml, hown0, hts, hXs, hbl, hlocks, -⟩ := C0
  obtain ⟨hK, hN, hix, him, hap, hAx, hAm⟩ := Y
  have hown : s.vm.findClass R_Lw = some m.cls := hown0
  have hT : ∀ w ∈ tb, w.before #[Value.ref b] s = true := fun w h => hts w (List.mem_filter.mp h).1
  have hbA : ¬ lx_A s b := Nat.not_le.mpr hbl
  refine lv_aload_n hx hb d_Lw_law_363 rfl (lv_at hl 2 rfl) ?_
  refine lx_calli (va_runV ⟨hx, hb, hml, hown, hT⟩ (c_PS_peer l D ax cA mx  ) (cwV 0 hT (tb_goodV0 ml_Lw_63 im_PS_peer se_PS_peer ii_PS kt_PS_peer) rfl rfl rfl (by decide +kernel) ⟨Nat.le_of_ble_eq_true rfl, Nat.le_of_ble_eq_true rfl⟩) (ux_preV (k := 0) (by decide) rfl rfl hX hK hix hN) rfl rfl hl.1 rfl (lv_room (Nat.le_of_ble_eq_true rfl)) d_Lw_law_364 ⟨Nat.le_of_ble_eq_true rfl, Nat.le_of_ble_eq_true rfl⟩) hS hAx hM (fun k hk i q hi => (ux_w_in hi).2 ▸ fun e => hap k hk i (ux_w_in hi).1 e.symm) (fun rx mx1 H locs qx hX hM hS => ?_)
  refine lv_pop hx hb d_Lw_law_367 rfl ?_
  refine lv_aload_n hx hb d_Lw_law_368 rfl (lv_at hl 1 rfl) ?_
  refine lx_calli (va_runV ⟨hx, hb, hml, hown, hT⟩ (c_Md_peer l D am cA mm  ) (cwV 0 hT (tb_goodV0 ml_Lw_66 im_Md_peer se_Md_peer ii_Md kt_Md_peer) rfl rfl rfl (by decide +kernel) ⟨Nat.le_of_ble_eq_true rfl, Nat.le_of_ble_eq_true rfl⟩) (ux_preV (k := 0) (by decide) rfl rfl hM hK him hN) rfl rfl hl.1 rfl (lv_room (Nat.le_of_ble_eq_true rfl)) d_Lw_law_369 ⟨Nat.le_of_ble_eq_true rfl, Nat.le_of_ble_eq_true rfl⟩) hS hAm hX (fun k hk i q hi => (ux_w_in hi).2 ▸ hap i (ux_w_in hi).1 k hk) (fun rm mm1 H locs qm hM hX hS => ?_)
  refine lv_pop hx hb d_Lw_law_372 rfl ?_
  refine lv_goto hx hb d_Lw_law_373 rfl (back _ _ H locs (Li_mono (Li_same hI qx.1 qm.1) (by omega)) hX hM hS)
set_option maxHeartbeats 4000000 in
set_option maxRecDepth 100000 in
theorem lc_pending {p : Program} {e : Env} {s : State} {m : MethodId} {below : List Frame} {meth : Method} {c : Code} (l : Launch) {b L : Nat} {xs : Nat → Int32} {D : va_G} {cA : Nat → ClassId} {ax am : Nat → Nat} {adK adV : Nat → Nat} {fm : Value} {H : Heap} {locs : List Loc} {ls : Array Slot} {i TT : Nat} {mx mm : ux_M} (hL : L ≤ 2560) (C0 : lw_At p s m meth c b L xs) (Y : lx_Y D cA s ax am) (hZ : ux_Z ax adK adV fm s) (hi : i + 5 ≤ L) (hTT : TT + 4000 ≤ 2000000000) (hI : Li TT mx mm) (hl : lv_has ls 4 [(3, .int (nI i)), (2, .ref (am 0)), (1, .ref (ax 0)), (0, .ref b)]) (hX : va_P D classes (ux_w shX KX ax cA mx) H) (hM : va_P D classes (ux_w shM KM am cA mm) H) (hS : va_S (lx_A s) s.heap H locs) (back : ∀ (mx1 mm1 : ux_M) (H1 : Heap) (locs1 : List Loc), Li (TT + 4000) mx1 mm1 → va_P D classes (ux_w shX KX ax cA mx1) H1 → va_P D classes (ux_w shM KM am cA mm1) H1 → va_S (lx_A s) s.heap H1 locs1 → lx_W p l e s m b below meth c H1 locs1 (F0 m 438 ls [])) : lx_W p l e s m b below meth c H locs (F0 m 376 ls []) := by
  obtain ⟨hx, hb, hr, hml, hown0, hts, hXs, hbl, hlocks, -⟩ := C0
  obtain ⟨hK, hN, hix, him, hap, hAx, hAm⟩ := Y
  have hown : s.vm.findClass R_Lw = some m.cls := hown0
  have hT : ∀ w ∈ tb, w.before #[Value.ref b] s = true := fun w h => hts w (List.mem_filter.mp h).1
  have hbA : ¬ lx_A s b := Nat.not_le.mpr hbl
  refine lv_aload_n hx hb d_Lw_law_376 rfl (lv_at hl 2 rfl) ?_
  refine lx_calli (va_runV ⟨hx, hb, hml, hown, hT⟩ (c_PS_pending l D ax cA mx  ) (cwV 0 hT (tb_goodV0 ml_Lw_67 im_PS_pending se_PS_pending ii_PS kt_PS_pending) rfl rfl rfl (by decide +kernel) ⟨Nat.le_of_ble_eq_true rfl, Nat.le_of_ble_eq_true rfl⟩) (ux_preV (k := 0) (by decide) rfl rfl hX hK hix hN) rfl rfl hl.1 rfl (lv_room (Nat.le_of_ble_eq_true rfl)) d_Lw_law_377 ⟨Nat.le_of_ble_eq_true rfl, Nat.le_of_ble_eq_true rfl⟩) hS hAx hM (fun k hk i q hi => (ux_w_in hi).2 ▸ fun e => hap k hk i (ux_w_in hi).1 e.symm) (fun rx mx1 H locs qx hX hM hS => ?_)
  refine lv_pop hx hb d_Lw_law_380 rfl ?_
  refine lv_aload_n hx hb d_Lw_law_381 rfl (lv_at hl 1 rfl) ?_
  refine lx_calli (va_runV ⟨hx, hb, hml, hown, hT⟩ (c_Md_pending l D am cA mm  ) (cwV 0 hT (tb_goodV0 ml_Lw_70 im_Md_pending se_Md_pending ii_Md kt_Md_pending) rfl rfl rfl (by decide +kernel) ⟨Nat.le_of_ble_eq_true rfl, Nat.le_of_ble_eq_true rfl⟩) (ux_preV (k := 0) (by decide) rfl rfl hM hK him hN) rfl rfl hl.1 rfl (lv_room (Nat.le_of_ble_eq_true rfl)) d_Lw_law_382 ⟨Nat.le_of_ble_eq_true rfl, Nat.le_of_ble_eq_true rfl⟩) hS hAm hX (fun k hk i q hi => (ux_w_in hi).2 ▸ hap i (ux_w_in hi).1 k hk) (fun rm mm1 H locs qm hM hX hS => ?_)
  refine lv_pop hx hb d_Lw_law_385 rfl ?_
  refine lv_goto hx hb d_Lw_law_386 rfl (back _ _ H locs (Li_mono (Li_same hI qx.1 qm.1) (by omega)) hX hM hS)
set_option maxHeartbeats 4000000 in
set_option maxRecDepth 100000 in
theorem lc_buffered {p : Program} {e : Env} {s : State} {m : MethodId} {below : List Frame} {meth : Method} {c : Code} (l : Launch) {b L : Nat} {xs : Nat → Int32} {D : va_G} {cA : Nat → ClassId} {ax am : Nat → Nat} {adK adV : Nat → Nat} {fm : Value} {H : Heap} {locs : List Loc} {ls : Array Slot} {i TT : Nat} {mx mm : ux_M} (hL : L ≤ 2560) (C0 : lw_At p s m meth c b L xs) (Y : lx_Y D cA s ax am) (hZ : ux_Z ax adK adV fm s) (hi : i + 5 ≤ L) (hTT : TT + 4000 ≤ 2000000000) (hI : Li TT mx mm) (hl : lv_has ls 4 [(3, .int (nI i)), (2, .ref (am 0)), (1, .ref (ax 0)), (0, .ref b)]) (hX : va_P D classes (ux_w shX KX ax cA mx) H) (hM : va_P D classes (ux_w shM KM am cA mm) H) (hS : va_S (lx_A s) s.heap H locs) (back : ∀ (mx1 mm1 : ux_M) (H1 : Heap) (locs1 : List Loc), Li (TT + 4000) mx1 mm1 → va_P D classes (ux_w shX KX ax cA mx1) H1 → va_P D classes (ux_w shM KM am cA mm1) H1 → va_S (lx_A s) s.heap H1 locs1 → lx_W p l e s m b below meth c H1 locs1 (F0 m 438 ls [])) : lx_W p l e s m b below meth c H locs (F0 m 389 ls []) := by
  obtain ⟨hx, hb, hr, hml, hown0, hts, hXs, hbl, hlocks, -⟩ := C0
  obtain ⟨hK, hN, hix, him, hap, hAx, hAm⟩ := Y
  have hown : s.vm.findClass R_Lw = some m.cls := hown0
  have hT : ∀ w ∈ tb, w.before #[Value.ref b] s = true := fun w h => hts w (List.mem_filter.mp h).1
  have hbA : ¬ lx_A s b := Nat.not_le.mpr hbl
  refine lv_aload_n hx hb d_Lw_law_389 rfl (lv_at hl 2 rfl) ?_
  refine lx_calli (va_runV ⟨hx, hb, hml, hown, hT⟩ (c_PS_buffered l D ax cA mx  ) (cwV 0 hT (tb_goodV0 ml_Lw_71 im_PS_buffered se_PS_buffered ii_PS kt_PS_buffered) rfl rfl rfl (by decide +kernel) ⟨Nat.le_of_ble_eq_true rfl, Nat.le_of_ble_eq_true rfl⟩) (ux_preV (k := 0) (by decide) rfl rfl hX hK hix hN) rfl rfl hl.1 rfl (lv_room (Nat.le_of_ble_eq_true rfl)) d_Lw_law_390 ⟨Nat.le_of_ble_eq_true rfl, Nat.le_of_ble_eq_true rfl⟩) hS hAx hM (fun k hk i q hi => (ux_w_in hi).2 ▸ fun e => hap k hk i (ux_w_in hi).1 e.symm) (fun rx mx1 H locs qx hX hM hS => ?_)
  refine lv_pop hx hb d_Lw_law_393 rfl ?_
  refine lv_aload_n hx hb d_Lw_law_394 rfl (lv_at hl 1 rfl) ?_
  refine lx_calli (va_runV ⟨hx, hb, hml, hown, hT⟩ (c_Md_buffered l D am cA mm  ) (cwV 0 hT (tb_goodV0 ml_Lw_74 im_Md_buffered se_Md_buffered ii_Md kt_Md_buffered) rfl rfl rfl (by decide +kernel) ⟨Nat.le_of_ble_eq_true rfl, Nat.le_of_ble_eq_true rfl⟩) (ux_preV (k := 0) (by decide) rfl rfl hM hK him hN) rfl rfl hl.1 rfl (lv_room (Nat.le_of_ble_eq_true rfl)) d_Lw_law_395 ⟨Nat.le_of_ble_eq_true rfl, Nat.le_of_ble_eq_true rfl⟩) hS hAm hX (fun k hk i q hi => (ux_w_in hi).2 ▸ hap i (ux_w_in hi).1 k hk) (fun rm mm1 H locs qm hM hX hS => ?_)
  refine lv_pop hx hb d_Lw_law_398 rfl ?_
  refine lv_goto hx hb d_Lw_law_399 rfl (back _ _ H locs (Li_mono (Li_same hI qx.1 qm.1) (by omega)) hX hM hS)
set_option maxHeartbeats 4000000 in
set_option maxRecDepth 100000 in
theorem lc_talk {p : Program} {e : Env} {s : State} {m : MethodId} {below : List Frame} {meth : Method} {c : Code} (l : Launch) {b L : Nat} {xs : Nat → Int32} {D : va_G} {cA : Nat → ClassId} {ax am : Nat → Nat} {adK adV : Nat → Nat} {fm : Value} {H : Heap} {locs : List Loc} {ls : Array Slot} {i TT : Nat} {mx mm : ux_M} (hL : L ≤ 2560) (C0 : lw_At p s m meth c b L xs) (Y : lx_Y D cA s ax am) (hZ : ux_Z ax adK adV fm s) (hi : i + 5 ≤ L) (hTT : TT + 4000 ≤ 2000000000) (hI : Li TT mx mm) (hl : lv_has ls 4 [(3, .int (nI i)), (2, .ref (am 0)), (1, .ref (ax 0)), (0, .ref b)]) (hX : va_P D classes (ux_w shX KX ax cA mx) H) (hM : va_P D classes (ux_w shM KM am cA mm) H) (hS : va_S (lx_A s) s.heap H locs) (back : ∀ (mx1 mm1 : ux_M) (H1 : Heap) (locs1 : List Loc), Li (TT + 4000) mx1 mm1 → va_P D classes (ux_w shX KX ax cA mx1) H1 → va_P D classes (ux_w shM KM am cA mm1) H1 → va_S (lx_A s) s.heap H1 locs1 → lx_W p l e s m b below meth c H1 locs1 (F0 m 438 ls [])) : lx_W p l e s m b below meth c H locs (F0 m 402 ls []) := by
  obtain ⟨hx, hb, hr, hml, hown0, hts, hXs, hbl, hlocks, -⟩ := C0
  obtain ⟨hK, hN, hix, him, hap, hAx, hAm⟩ := Y
  have hown : s.vm.findClass R_Lw = some m.cls := hown0
  have hT : ∀ w ∈ tb, w.before #[Value.ref b] s = true := fun w h => hts w (List.mem_filter.mp h).1
  have hbA : ¬ lx_A s b := Nat.not_le.mpr hbl
  refine lv_aload_n hx hb d_Lw_law_402 rfl (lv_at hl 2 rfl) ?_
  refine lx_calli (va_runV ⟨hx, hb, hml, hown, hT⟩ (c_PS_talk l D ax cA mx  ) (cwV 0 hT (tb_goodV0 ml_Lw_75 im_PS_talk se_PS_talk ii_PS kt_PS_talk) rfl rfl rfl (by decide +kernel) ⟨Nat.le_of_ble_eq_true rfl, Nat.le_of_ble_eq_true rfl⟩) (ux_preV (k := 0) (by decide) rfl rfl hX hK hix hN) rfl rfl hl.1 rfl (lv_room (Nat.le_of_ble_eq_true rfl)) d_Lw_law_403 ⟨Nat.le_of_ble_eq_true rfl, Nat.le_of_ble_eq_true rfl⟩) hS hAx hM (fun k hk i q hi => (ux_w_in hi).2 ▸ fun e => hap k hk i (ux_w_in hi).1 e.symm) (fun rx mx1 H locs qx hX hM hS => ?_)
  refine lv_pop hx hb d_Lw_law_406 rfl ?_
  refine lv_aload_n hx hb d_Lw_law_407 rfl (lv_at hl 1 rfl) ?_
  refine lx_calli (va_runV ⟨hx, hb, hml, hown, hT⟩ (c_Md_talk l D am cA mm  ) (cwV 0 hT (tb_goodV0 ml_Lw_78 im_Md_talk se_Md_talk ii_Md kt_Md_talk) rfl rfl rfl (by decide +kernel) ⟨Nat.le_of_ble_eq_true rfl, Nat.le_of_ble_eq_true rfl⟩) (ux_preV (k := 0) (by decide) rfl rfl hM hK him hN) rfl rfl hl.1 rfl (lv_room (Nat.le_of_ble_eq_true rfl)) d_Lw_law_408 ⟨Nat.le_of_ble_eq_true rfl, Nat.le_of_ble_eq_true rfl⟩) hS hAm hX (fun k hk i q hi => (ux_w_in hi).2 ▸ hap i (ux_w_in hi).1 k hk) (fun rm mm1 H locs qm hM hX hS => ?_)
  refine lv_pop hx hb d_Lw_law_411 rfl ?_
  refine lv_goto hx hb d_Lw_law_412 rfl (back _ _ H locs (Li_mono (Li_same hI qx.1 qm.1) (by omega)) hX hM hS)
set_option maxHeartbeats 4000000 in
set_option maxRecDepth 100000 in
theorem lc_talked {p : Program} {e : Env} {s : State} {m : MethodId} {below : List Frame} {meth : Method} {c : Code} (l : Launch) {b L : Nat} {xs : Nat → Int32} {D : va_G} {cA : Nat → ClassId} {ax am : Nat → Nat} {adK adV : Nat → Nat} {fm : Value} {H : Heap} {locs : List Loc} {ls : Array Slot} {i TT : Nat} {mx mm : ux_M} (hL : L ≤ 2560) (C0 : lw_At p s m meth c b L xs) (Y : lx_Y D cA s ax am) (hZ : ux_Z ax adK adV fm s) (hi : i + 5 ≤ L) (hTT : TT + 4000 ≤ 2000000000) (hI : Li TT mx mm) (hl : lv_has ls 4 [(3, .int (nI i)), (2, .ref (am 0)), (1, .ref (ax 0)), (0, .ref b)]) (hX : va_P D classes (ux_w shX KX ax cA mx) H) (hM : va_P D classes (ux_w shM KM am cA mm) H) (hS : va_S (lx_A s) s.heap H locs) (back : ∀ (mx1 mm1 : ux_M) (H1 : Heap) (locs1 : List Loc), Li (TT + 4000) mx1 mm1 → va_P D classes (ux_w shX KX ax cA mx1) H1 → va_P D classes (ux_w shM KM am cA mm1) H1 → va_S (lx_A s) s.heap H1 locs1 → lx_W p l e s m b below meth c H1 locs1 (F0 m 438 ls [])) : lx_W p l e s m b below meth c H locs (F0 m 415 ls []) := by
  obtain ⟨hx, hb, hr, hml, hown0, hts, hXs, hbl, hlocks, -⟩ := C0
  obtain ⟨hK, hN, hix, him, hap, hAx, hAm⟩ := Y
  have hown : s.vm.findClass R_Lw = some m.cls := hown0
  have hT : ∀ w ∈ tb, w.before #[Value.ref b] s = true := fun w h => hts w (List.mem_filter.mp h).1
  have hbA : ¬ lx_A s b := Nat.not_le.mpr hbl
  refine lv_aload_n hx hb d_Lw_law_415 rfl (lv_at hl 2 rfl) ?_
  refine lv_aload_n hx hb d_Lw_law_416 rfl (lv_at hl 3 rfl) ?_
  refine lv_iload_n hx hb d_Lw_law_417 rfl (lv_at hl 0 rfl) ?_
  refine lv_iconst (v := 1) hx hb d_Lw_law_418 (by decide) ?_
  refine lv_iadd hx hb d_Lw_law_419 ?_
  refine va_sld hx hb hXs hbl hbA hS (lx_in (k := 1) rfl (by omega) hL) d_Lw_law_420 ?_
  refine lx_calli (va_runV ⟨hx, hb, hml, hown, hT⟩ (s_PS_talked l D ax cA mx hI.1 (xs (nI i + 1 : Int32).toNatClampNeg) ) (cwV 1 hT (tb_goodV0 ml_Lw_79 im_PS_talked se_PS_talked ii_PS kt_PS_talked) rfl rfl rfl (by decide +kernel) ⟨Nat.le_of_ble_eq_true rfl, Nat.le_of_ble_eq_true rfl⟩) (ux_preV (k := 0) (by decide) rfl rfl hX hK hix hN) rfl rfl hl.1 rfl (lv_room (Nat.le_of_ble_eq_true rfl)) d_Lw_law_421 ⟨Nat.le_of_ble_eq_true rfl, Nat.le_of_ble_eq_true rfl⟩) hS hAx hM (fun k hk i q hi => (ux_w_in hi).2 ▸ fun e => hap k hk i (ux_w_in hi).1 e.symm) (fun rx mx1 H locs qx hX hM hS => ?_)
  refine lv_pop hx hb d_Lw_law_424 rfl ?_
  refine lv_aload_n hx hb d_Lw_law_425 rfl (lv_at hl 1 rfl) ?_
  refine lv_aload_n hx hb d_Lw_law_426 rfl (lv_at hl 3 rfl) ?_
  refine lv_iload_n hx hb d_Lw_law_427 rfl (lv_at hl 0 rfl) ?_
  refine lv_iconst (v := 1) hx hb d_Lw_law_428 (by decide) ?_
  refine lv_iadd hx hb d_Lw_law_429 ?_
  refine va_sld hx hb hXs hbl hbA hS (lx_in (k := 1) rfl (by omega) hL) d_Lw_law_430 ?_
  refine lx_calli (va_runV ⟨hx, hb, hml, hown, hT⟩ (c_Md_talked l D am cA mm (xs (nI i + 1 : Int32).toNatClampNeg) (hI.2.1.1 0 48).1) (cwV 1 hT (tb_goodV0 ml_Lw_82 im_Md_talked se_Md_talked ii_Md kt_Md_talked) rfl rfl rfl (by decide +kernel) ⟨Nat.le_of_ble_eq_true rfl, Nat.le_of_ble_eq_true rfl⟩) (ux_preV (k := 0) (by decide) rfl rfl hM hK him hN) rfl rfl hl.1 rfl (lv_room (Nat.le_of_ble_eq_true rfl)) d_Lw_law_431 ⟨Nat.le_of_ble_eq_true rfl, Nat.le_of_ble_eq_true rfl⟩) hS hAm hX (fun k hk i q hi => (ux_w_in hi).2 ▸ hap i (ux_w_in hi).1 k hk) (fun rm mm1 H locs qm hM hX hS => ?_)
  refine lv_pop hx hb d_Lw_law_434 rfl ?_
  refine lv_goto hx hb d_Lw_law_435 rfl (back _ _ H locs (Li_mono (Li_same hI (lx_tN qx.2.1) (qm.1.trans (fk_talked _ _))) (by omega)) hX hM hS)
