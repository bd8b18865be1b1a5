set_option maxHeartbeats 4000000 in
set_option maxRecDepth 100000 in
theorem law_loop {p : Program} {l : Launch} {e : Env} {s : State} {m : MethodId} {below : List Frame} {meth : Method} {c : Code} {b L : Nat} {xs : Nat → Int32} (hL : L ≤ 2048) (C0 : lw_At p s m meth c b L xs) {V : Ev} (hE : g_en V s s.heap) (hV : V.2.2.1 = s.heap.size) (hbA : ¬ g_A V b) : ∀ (n i : Nat), i ≤ L → L + 1 ≤ i + n → ∀ (X : Mm) (H : Heap) (locs : List Loc) (ls : Array Slot), LI X → g_st V X s.heap H locs → lv_has ls 4 [(0, .ref b), (1, .ref (g_ad V 0)), (2, .ref (g_ad V 11)), (3, .int (nI i))] → W p l e room_1 s m #[Value.ref b] below meth c H locs 80 2486 (lw_Z below #[Value.ref b] s) (F0 m 18 ls []) := by
  obtain ⟨hx, hb, hr, hml, hown, hts0, hX, hbl, hlocks, hgv⟩ := id C0
  intro n
  induction n with
  | zero =>
    intro i h1 h2
    exact absurd h2 (by omega)
  | succ n ih =>
    intro i hi0 hin X H locs ls hI hG hl
    refine lv_iload_n hx hb d_law_18 rfl (lv_at hl 3 rfl) ?_
    refine lv_aload_n hx hb d_law_19 rfl (lv_at hl 0 rfl) ?_
    refine va_slen hx hb hX hbl hbA hG.2.2 d_law_20 ?_
    refine g_topi (y := nI L) rfl ?_
    refine lv_iconst (v := nI (4)) hx hb d_law_21 (by decide) ?_
    refine lv_isub hx hb d_law_22 ?_
    refine lv_icmp_gt (tgt := 582) hx hb d_law_23 (by decide) (fun _ => ?_) (fun c9 => ?_)
    · refine lv_iconst (v := 1) hx hb d_law_582 (by decide) ?_
      refine va_forget (fun q hq => hV ▸ hG.2.2.2.2 q hq) ?_
      exact lw_ret hx hb hr hlocks d_law_583
    · have hi : i + 4 ≤ L := lw_stay hL hi0 c9
      have kk : ∀ (X1 : Mm) (H1 : Heap) (locs1 : List Loc), LI X1 → g_st V X1 s.heap H1 locs1 → W p l e room_1 s m #[Value.ref b] below meth c H1 locs1 80 2486 (lw_Z below #[Value.ref b] s) (F0 m 576 ls []) := by
        intro X1 H1 locs1 hI1 hG1
        refine lv_iinc (v := nI (i + 4)) (lv' := [(3, .int (nI (i + 4))), (0, .ref b), (1, .ref (g_ad V 0)), (2, .ref (g_ad V 11))]) hx hb d_law_576 hl (k := 3) rfl (by rw [show Int32.ofInt 4 = nI 4 by decide]; exact nI_add _ _) (by decide) rfl (fun ls hl => ?_)
        refine lv_goto (tgt := 18) hx hb d_law_579 (by decide) ?_
        exact ih (i + 4) hi (by omega) X1 H1 locs1 ls hI1 hG1 (lv_sub hl [1, 2, 3, 0] rfl)
      refine lv_aload_n hx hb d_law_26 rfl (lv_at hl 0 rfl) ?_
      refine lv_iload_n hx hb d_law_27 rfl (lv_at hl 3 rfl) ?_
      refine va_sld hx hb hX hbl hbA hG.2.2 (vp_in_nI (show i < L by omega) (by omega)) d_law_28 ?_
      refine lv_bipush (v := nI (15)) hx hb d_law_29 (by decide) ?_
      refine lv_iand hx hb d_law_31 ?_
      obtain ⟨t, ht, et⟩ := lw_and (xs (nI i).toNatClampNeg)
      refine g_topi (y := nI t) et ?_
      rcases (show t = 0 ∨ t = 1 ∨ t = 2 ∨ t = 3 ∨ t = 4 ∨ t = 5 ∨ t = 6 ∨ t = 7 ∨ t = 8 ∨ t = 9 ∨ t = 10 ∨ t = 11 ∨ t = 12 ∨ t = 13 ∨ t = 14 ∨ t = 15 by omega) with rfl | rfl | rfl | rfl | rfl | rfl | rfl | rfl | rfl | rfl | rfl | rfl | rfl | rfl | rfl | rfl
      · exact lv_tableIn (off := 80) (tgt := 112) hx hb d_law_32 (by decide) (by decide) (by decide) (by decide) (lw_case0 hL C0 hE hbA hi hI hG hl kk)
      · exact lv_tableIn (off := 131) (tgt := 163) hx hb d_law_32 (by decide) (by decide) (by decide) (by decide) (lw_case1 hL C0 hE hbA hi hI hG hl kk)
      · exact lv_tableIn (off := 154) (tgt := 186) hx hb d_law_32 (by decide) (by decide) (by decide) (by decide) (lw_case2 hL C0 hE hbA hi hI hG hl kk)
      · exact lv_tableIn (off := 165) (tgt := 197) hx hb d_law_32 (by decide) (by decide) (by decide) (by decide) (lw_case3 hL C0 hE hbA hi hI hG hl kk)
      · exact lv_tableIn (off := 228) (tgt := 260) hx hb d_law_32 (by decide) (by decide) (by decide) (by decide) (lw_case4 hL C0 hE hbA hi hI hG hl kk)
      · exact lv_tableIn (off := 241) (tgt := 273) hx hb d_law_32 (by decide) (by decide) (by decide) (by decide) (lw_case5 hL C0 hE hbA hi hI hG hl kk)
      · exact lv_tableIn (off := 264) (tgt := 296) hx hb d_law_32 (by decide) (by decide) (by decide) (by decide) (lw_case6 hL C0 hE hbA hi hI hG hl kk)
      · exact lv_tableIn (off := 287) (tgt := 319) hx hb d_law_32 (by decide) (by decide) (by decide) (by decide) (lw_case7 hL C0 hE hbA hi hI hG hl kk)
      · exact lv_tableIn (off := 320) (tgt := 352) hx hb d_law_32 (by decide) (by decide) (by decide) (by decide) (lw_case8 hL C0 hE hbA hi hI hG hl kk)
      · exact lv_tableIn (off := 353) (tgt := 385) hx hb d_law_32 (by decide) (by decide) (by decide) (by decide) (lw_case9 hL C0 hE hbA hi hI hG hl kk)
      · exact lv_tableIn (off := 386) (tgt := 418) hx hb d_law_32 (by decide) (by decide) (by decide) (by decide) (lw_case10 hL C0 hE hbA hi hI hG hl kk)
      · exact lv_tableIn (off := 409) (tgt := 441) hx hb d_law_32 (by decide) (by decide) (by decide) (by decide) (lw_case11 hL C0 hE hbA hi hI hG hl kk)
      · exact lv_tableIn (off := 432) (tgt := 464) hx hb d_law_32 (by decide) (by decide) (by decide) (by decide) (lw_case12 hL C0 hE hbA hi hI hG hl kk)
      · exact lv_tableIn (off := 455) (tgt := 487) hx hb d_law_32 (by decide) (by decide) (by decide) (by decide) (lw_case13 hL C0 hE hbA hi hI hG hl kk)
      · exact lv_tableIn (off := 478) (tgt := 510) hx hb d_law_32 (by decide) (by decide) (by decide) (by decide) (lw_case14 hL C0 hE hbA hi hI hG hl kk)
      · exact lv_tableIn (off := 511) (tgt := 543) hx hb d_law_32 (by decide) (by decide) (by decide) (by decide) (lw_case15 hL C0 hE hbA hi hI hG hl kk)
