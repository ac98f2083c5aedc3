/-! the loop of the law; written by wip/gen/law2.py -/
set_option maxHeartbeats 4000000 in
set_option maxRecDepth 100000 in
theorem lx_loop {p : Program} {e : Env} {s : State} {m : MethodId} {below : List Frame} {meth : Method} {c : Code} (l : Launch) {b L : Nat} {xs : Nat → Int32} {D : va_G} {cA : Nat → ClassId} {ax am : Nat → Nat} {adK adV : Nat → Nat} {fm : Value} (hL : L ≤ 2560) (C0 : lw_At p s m meth c b L xs) (Y : lx_Y D cA s ax am) (hZ : ux_Z ax adK adV fm s) : ∀ (k i : Nat) (mx mm : ux_M) (H : Heap) (locs : List Loc) (ls : Array Slot), L < i + 5 * k + 5 → i ≤ 2560 → Li (4000 * i) mx mm → lv_has ls 4 [(3, .int (nI i)), (2, .ref (am 0)), (1, .ref (ax 0)), (0, .ref b)] → va_P D classes (ux_w shX KX ax cA mx) H → va_P D classes (ux_w shM KM am cA mm) H → va_S (lx_A s) s.heap H locs → lx_W p l e s m b below meth c H locs (F0 m 18 ls []) := by
  have C1 := C0
  obtain ⟨hx, hb, hr, hml, hown0, hts, hXs, hbl, hlocks, -⟩ := C0
  have hbA : ¬ lx_A s b := Nat.not_le.mpr hbl
  have fin : ∀ (H1 : Heap) (locs1 : List Loc) (ls1 : Array Slot), va_S (lx_A s) s.heap H1 locs1 → lx_W p l e s m b below meth c H1 locs1 (F0 m 444 ls1 []) := by
    intro H1 locs1 ls1 hS
    refine lv_iconst (v := 1) hx hb d_Lw_law_444 (by decide) ?_
    exact va_forget hS.2.2 (lw_ret hx hb hr hlocks d_Lw_law_445)
  intro k
  induction k with
  | zero =>
    intro i mx mm H locs ls hk hi5 hI hl hX hM hS
    refine lv_iload_n hx hb d_Lw_law_18 rfl (lv_at hl 0 rfl) ?_
    refine lv_aload_n hx hb d_Lw_law_19 rfl (lv_at hl 3 rfl) ?_
    refine va_slen hx hb hXs hbl hbA hS d_Lw_law_20 ?_
    refine lv_iconst (v := 5) hx hb d_Lw_law_21 (by decide) ?_
    refine lv_isub hx hb d_Lw_law_22 ?_
    exact lv_icmp_gt hx hb d_Lw_law_23 rfl (fun _ => fin _ _ _ hS) (fun h => absurd (lx_more (by omega) hL h) (by omega))
  | succ k ih =>
    intro i mx mm H locs ls hk hi5 hI hl hX hM hS
    refine lv_iload_n hx hb d_Lw_law_18 rfl (lv_at hl 0 rfl) ?_
    refine lv_aload_n hx hb d_Lw_law_19 rfl (lv_at hl 3 rfl) ?_
    refine va_slen hx hb hXs hbl hbA hS d_Lw_law_20 ?_
    refine lv_iconst (v := 5) hx hb d_Lw_law_21 (by decide) ?_
    refine lv_isub hx hb d_Lw_law_22 ?_
    refine lv_icmp_gt hx hb d_Lw_law_23 rfl (fun _ => fin _ _ _ hS) (fun h => ?_)
    have hi : i + 5 ≤ L := lx_more (by omega) hL h
    have back : ∀ (mx1 mm1 : ux_M) (H1 : Heap) (locs1 : List Loc), Li (4000 * i + 4000) mx1 mm1 → va_P D classes (ux_w shX KX ax cA mx1) H1 → va_P D classes (ux_w shM KM am cA mm1) H1 → va_S (lx_A s) s.heap H1 locs1 → lx_W p l e s m b below meth c H1 locs1 (F0 m 438 ls []) := by
      intro mx1 mm1 H1 locs1 hI1 hX1 hM1 hS1
      refine lv_iinc (k := 0) (v := nI (i + 5)) hx hb d_Lw_law_438 hl rfl (nI_add i 5) (by decide) rfl (fun ls hl => ?_)
      have hl : lv_has ls 4 [(3, .int (nI (i + 5))), (2, .ref (am 0)), (1, .ref (ax 0)), (0, .ref b)] := hl
      refine lv_goto hx hb d_Lw_law_441 rfl ?_
      exact ih (i + 5) mx1 mm1 H1 locs1 ls (by omega) (by omega) (Li_mono hI1 (by omega)) hl hX1 hM1 hS1
    refine lv_aload_n hx hb d_Lw_law_26 rfl (lv_at hl 3 rfl) ?_
    refine lv_iload_n hx hb d_Lw_law_27 rfl (lv_at hl 0 rfl) ?_
    refine va_sld hx hb hXs hbl hbA hS (vp_in_nI (by omega) (by omega)) d_Lw_law_28 ?_
    refine lv_bipush (v := 15) hx hb d_Lw_law_29 (by decide) ?_
    refine lv_iand hx hb d_Lw_law_31 ?_
    refine lv_topi (fun y hy => ?_)
    obtain ⟨n, hn, en⟩ := lx_mask (xs (nI i).toNatClampNeg)
    rw [en] at hy
    subst hy
    clear en
    obtain rfl | rfl | rfl | rfl | rfl | rfl | rfl | rfl | rfl | rfl | rfl | rfl | rfl | rfl | rfl | rfl : n = 0 ∨ n = 1 ∨ n = 2 ∨ n = 3 ∨ n = 4 ∨ n = 5 ∨ n = 6 ∨ n = 7 ∨ n = 8 ∨ n = 9 ∨ n = 10 ∨ n = 11 ∨ n = 12 ∨ n = 13 ∨ n = 14 ∨ n = 15 := by omega
    · exact lv_tableIn (off := 80) (tgt := 112) hx hb d_Lw_law_32 (by decide) (by decide) (by decide) (by decide) (lc_put l hL C1 Y hZ hi (by omega) hI hl hX hM hS back)
    · exact lv_tableIn (off := 105) (tgt := 137) hx hb d_Lw_law_32 (by decide) (by decide) (by decide) (by decide) (lc_wipe l hL C1 Y hZ hi (by omega) hI hl hX hM hS back)
    · exact lv_tableIn (off := 116) (tgt := 148) hx hb d_Lw_law_32 (by decide) (by decide) (by decide) (by decide) (lc_rule l hL C1 Y hZ hi (by omega) hI hl hX hM hS back)
    · exact lv_tableIn (off := 169) (tgt := 201) hx hb d_Lw_law_32 (by decide) (by decide) (by decide) (by decide) (lc_reset l hL C1 Y hZ hi (by omega) hI hl hX hM hS back)
    · exact lv_tableIn (off := 180) (tgt := 212) hx hb d_Lw_law_32 (by decide) (by decide) (by decide) (by decide) (lc_run l hL C1 Y hZ hi (by omega) hI hl hX hM hS back)
    · exact lv_tableIn (off := 203) (tgt := 235) hx hb d_Lw_law_32 (by decide) (by decide) (by decide) (by decide) (lc_length l hL C1 Y hZ hi (by omega) hI hl hX hM hS back)
    · exact lv_tableIn (off := 216) (tgt := 248) hx hb d_Lw_law_32 (by decide) (by decide) (by decide) (by decide) (lc_at l hL C1 Y hZ hi (by omega) hI hl hX hM hS back)
    · exact lv_tableIn (off := 239) (tgt := 271) hx hb d_Lw_law_32 (by decide) (by decide) (by decide) (by decide) (lc_used l hL C1 Y hZ hi (by omega) hI hl hX hM hS back)
    · exact lv_tableIn (off := 252) (tgt := 284) hx hb d_Lw_law_32 (by decide) (by decide) (by decide) (by decide) (lc_size l hL C1 Y hZ hi (by omega) hI hl hX hM hS back)
    · exact lv_tableIn (off := 275) (tgt := 307) hx hb d_Lw_law_32 (by decide) (by decide) (by decide) (by decide) (lc_letter l hL C1 Y hZ hi (by omega) hI hl hX hM hS back)
    · exact lv_tableIn (off := 308) (tgt := 340) hx hb d_Lw_law_32 (by decide) (by decide) (by decide) (by decide) (lc_defined l hL C1 Y hZ hi (by omega) hI hl hX hM hS back)
    · exact lv_tableIn (off := 331) (tgt := 363) hx hb d_Lw_law_32 (by decide) (by decide) (by decide) (by decide) (lc_peer l hL C1 Y hZ hi (by omega) hI hl hX hM hS back)
    · exact lv_tableIn (off := 344) (tgt := 376) hx hb d_Lw_law_32 (by decide) (by decide) (by decide) (by decide) (lc_pending l hL C1 Y hZ hi (by omega) hI hl hX hM hS back)
    · exact lv_tableIn (off := 357) (tgt := 389) hx hb d_Lw_law_32 (by decide) (by decide) (by decide) (by decide) (lc_buffered l hL C1 Y hZ hi (by omega) hI hl hX hM hS back)
    · exact lv_tableIn (off := 370) (tgt := 402) hx hb d_Lw_law_32 (by decide) (by decide) (by decide) (by decide) (lc_talk l hL C1 Y hZ hi (by omega) hI hl hX hM hS back)
    · exact lv_tableIn (off := 383) (tgt := 415) hx hb d_Lw_law_32 (by decide) (by decide) (by decide) (by decide) (lc_talked l hL C1 Y hZ hi (by omega) hI hl hX hM hS back)
