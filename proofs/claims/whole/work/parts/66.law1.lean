set_option maxHeartbeats 4000000 in
set_option maxRecDepth 100000 in
theorem lw_case5 {p : Program} {l : Launch} {e : Env} {s : State} {m : MethodId} {below : List Frame} {meth : Method} {c : Code} {b L : Nat} {xs : Nat → Int32} (hL : L ≤ 2048) (C0 : lw_At p s m meth c b L xs) {V : Ev} (hE : g_en V s s.heap) (hbA : ¬ g_A V b) {X : Mm} {H : Heap} {locs : List Loc} {ls : Array Slot} {i : Nat} (hi : i + 4 ≤ L) (hI : LI X) (hG : g_st V X s.heap H locs) (hl : lv_has ls 4 [(0, .ref b), (1, .ref (g_ad V 0)), (2, .ref (g_ad V 11)), (3, .int (nI i))])
    (kk : ∀ (X1 : Mm) (H1 : Heap) (locs1 : List Loc), LI X1 → g_st V X1 s.heap H1 locs1 → W p l e room_1 s m #[Value.ref b] below meth c H1 locs1 80 2486 (lw_Z below #[Value.ref b] s) (F0 m 576 ls [])) : W p l e room_1 s m #[Value.ref b] below meth c H locs 80 2486 (lw_Z below #[Value.ref b] s) (F0 m 273 ls []) := by
  obtain ⟨hx, hb, hr, hml, hown, hts0, hX, hbl, hlocks, hgv⟩ := C0
  have hts := lw_words hts0
  obtain ⟨⟨i19, i20, i18, i53, i12⟩, ⟨n, hn, n2, n5⟩, ⟨i0, i3⟩, ⟨b67, b22, b32, b43, b79, b68⟩, hk⟩ := id hI
  refine lv_aload_n hx hb d_law_273 rfl (lv_at hl 1 rfl) ?_
  refine lv_aload_n hx hb d_law_274 rfl (lv_at hl 0 rfl) ?_
  refine lv_iload_n hx hb d_law_275 rfl (lv_at hl 3 rfl) ?_
  refine lv_iconst (v := nI (1)) hx hb d_law_276 (by decide) ?_
  refine lv_iadd hx hb d_law_277 ?_
  refine g_topi (y := nI (i + 1)) (nI_add _ _) ?_
  refine va_sld hx hb hX hbl hbA hG.2.2 (vp_in_nI (show i + 1 < L by omega) (by omega)) d_law_278 ?_
  rw [nI_clamp (show i + 1 < 2 ^ 31 by omega)]
  refine g_calli (va_runV (As := [.int (xs (i + 1))]) (rest := []) ⟨hx, hb, hml, hown, hts⟩ (c_S_publicByte l V X (xs (i + 1))) (cwV 1 hts (g_goodV kw_525 kw_522 kw_523 kw_524 kw_1) rfl rfl rfl (by decide +kernel) ⟨Nat.le_of_ble_eq_true rfl, Nat.le_of_ble_eq_true rfl⟩) (g_preV (k0 := 0) (ci := 0) hE hG (by decide) rfl rfl) rfl rfl hl.1 rfl (lv_room (Nat.le_of_ble_eq_true rfl)) d_law_279 ⟨Nat.le_refl 80, Nat.le_refl 2486⟩) hG (fun r1 X1 H locs q1 hG => ?_)
  refine lv_aload_n hx hb d_law_282 rfl (lv_at hl 2 rfl) ?_
  refine lv_aload_n hx hb d_law_283 rfl (lv_at hl 0 rfl) ?_
  refine lv_iload_n hx hb d_law_284 rfl (lv_at hl 3 rfl) ?_
  refine lv_iconst (v := nI (1)) hx hb d_law_285 (by decide) ?_
  refine lv_iadd hx hb d_law_286 ?_
  refine g_topi (y := nI (i + 1)) (nI_add _ _) ?_
  refine va_sld hx hb hX hbl hbA hG.2.2 (vp_in_nI (show i + 1 < L by omega) (by omega)) d_law_287 ?_
  rw [nI_clamp (show i + 1 < 2 ^ 31 by omega)]
  refine g_calli (va_runV (As := [.int (xs (i + 1))]) (rest := [.int r1]) ⟨hx, hb, hml, hown, hts⟩ (c_M_publicByte l V X1 (xs (i + 1))) (cwV 1 hts (g_goodV kw_848 kw_845 kw_846 kw_847 kw_8) rfl rfl rfl (by decide +kernel) ⟨Nat.le_of_ble_eq_true rfl, Nat.le_of_ble_eq_true rfl⟩) (g_preV (k0 := 11) (ci := 7) hE hG (by decide) rfl rfl) rfl rfl hl.1 rfl (lv_room (Nat.le_of_ble_eq_true rfl)) d_law_288 ⟨Nat.le_refl 80, Nat.le_refl 2486⟩) hG (fun r2 X2 H locs q2 hG => ?_)
  have hLI : LI X2 := by rw [← q2.2, ← q1.2]; exact hI
  have er : r1 = r2 := by rw [q1.1, q2.1, ← q1.2, i19]
  exact lv_icmp_eq (tgt := 576) hx hb d_law_291 (by decide) (fun _ => kk X2 H locs hLI hG) (fun c9 => absurd er c9)

set_option maxHeartbeats 4000000 in
set_option maxRecDepth 100000 in
theorem lw_case6 {p : Program} {l : Launch} {e : Env} {s : State} {m : MethodId} {below : List Frame} {meth : Method} {c : Code} {b L : Nat} {xs : Nat → Int32} (hL : L ≤ 2048) (C0 : lw_At p s m meth c b L xs) {V : Ev} (hE : g_en V s s.heap) (hbA : ¬ g_A V b) {X : Mm} {H : Heap} {locs : List Loc} {ls : Array Slot} {i : Nat} (hi : i + 4 ≤ L) (hI : LI X) (hG : g_st V X s.heap H locs) (hl : lv_has ls 4 [(0, .ref b), (1, .ref (g_ad V 0)), (2, .ref (g_ad V 11)), (3, .int (nI i))])
    (kk : ∀ (X1 : Mm) (H1 : Heap) (locs1 : List Loc), LI X1 → g_st V X1 s.heap H1 locs1 → W p l e room_1 s m #[Value.ref b] below meth c H1 locs1 80 2486 (lw_Z below #[Value.ref b] s) (F0 m 576 ls [])) : W p l e room_1 s m #[Value.ref b] below meth c H locs 80 2486 (lw_Z below #[Value.ref b] s) (F0 m 296 ls []) := by
  obtain ⟨hx, hb, hr, hml, hown, hts0, hX, hbl, hlocks, hgv⟩ := C0
  have hts := lw_words hts0
  obtain ⟨⟨i19, i20, i18, i53, i12⟩, ⟨n, hn, n2, n5⟩, ⟨i0, i3⟩, ⟨b67, b22, b32, b43, b79, b68⟩, hk⟩ := id hI
  refine lv_aload_n hx hb d_law_296 rfl (lv_at hl 1 rfl) ?_
  refine lv_aload_n hx hb d_law_297 rfl (lv_at hl 0 rfl) ?_
  refine lv_iload_n hx hb d_law_298 rfl (lv_at hl 3 rfl) ?_
  refine lv_iconst (v := nI (1)) hx hb d_law_299 (by decide) ?_
  refine lv_iadd hx hb d_law_300 ?_
  refine g_topi (y := nI (i + 1)) (nI_add _ _) ?_
  refine va_sld hx hb hX hbl hbA hG.2.2 (vp_in_nI (show i + 1 < L by omega) (by omega)) d_law_301 ?_
  rw [nI_clamp (show i + 1 < 2 ^ 31 by omega)]
  refine g_calli (va_runV (As := [.int (xs (i + 1))]) (rest := []) ⟨hx, hb, hml, hown, hts⟩ (c_S_signatureByte l V X (xs (i + 1))) (cwV 1 hts (g_goodV kw_532 kw_529 kw_530 kw_531 kw_1) rfl rfl rfl (by decide +kernel) ⟨Nat.le_of_ble_eq_true rfl, Nat.le_of_ble_eq_true rfl⟩) (g_preV (k0 := 0) (ci := 0) hE hG (by decide) rfl rfl) rfl rfl hl.1 rfl (lv_room (Nat.le_of_ble_eq_true rfl)) d_law_302 ⟨Nat.le_refl 80, Nat.le_refl 2486⟩) hG (fun r1 X1 H locs q1 hG => ?_)
  refine lv_aload_n hx hb d_law_305 rfl (lv_at hl 2 rfl) ?_
  refine lv_aload_n hx hb d_law_306 rfl (lv_at hl 0 rfl) ?_
  refine lv_iload_n hx hb d_law_307 rfl (lv_at hl 3 rfl) ?_
  refine lv_iconst (v := nI (1)) hx hb d_law_308 (by decide) ?_
  refine lv_iadd hx hb d_law_309 ?_
  refine g_topi (y := nI (i + 1)) (nI_add _ _) ?_
  refine va_sld hx hb hX hbl hbA hG.2.2 (vp_in_nI (show i + 1 < L by omega) (by omega)) d_law_310 ?_
  rw [nI_clamp (show i + 1 < 2 ^ 31 by omega)]
  refine g_calli (va_runV (As := [.int (xs (i + 1))]) (rest := [.int r1]) ⟨hx, hb, hml, hown, hts⟩ (c_M_signatureByte l V X1 (xs (i + 1))) (cwV 1 hts (g_goodV kw_852 kw_849 kw_850 kw_851 kw_8) rfl rfl rfl (by decide +kernel) ⟨Nat.le_of_ble_eq_true rfl, Nat.le_of_ble_eq_true rfl⟩) (g_preV (k0 := 11) (ci := 7) hE hG (by decide) rfl rfl) rfl rfl hl.1 rfl (lv_room (Nat.le_of_ble_eq_true rfl)) d_law_311 ⟨Nat.le_refl 80, Nat.le_refl 2486⟩) hG (fun r2 X2 H locs q2 hG => ?_)
  have hLI : LI X2 := by rw [← q2.2, ← q1.2]; exact hI
  have er : r1 = r2 := by rw [q1.1, q2.1, ← q1.2, i20]
  exact lv_icmp_eq (tgt := 576) hx hb d_law_314 (by decide) (fun _ => kk X2 H locs hLI hG) (fun c9 => absurd er c9)

set_option maxHeartbeats 4000000 in
set_option maxRecDepth 100000 in
theorem lw_case12 {p : Program} {l : Launch} {e : Env} {s : State} {m : MethodId} {below : List Frame} {meth : Method} {c : Code} {b L : Nat} {xs : Nat → Int32} (hL : L ≤ 2048) (C0 : lw_At p s m meth c b L xs) {V : Ev} (hE : g_en V s s.heap) (hbA : ¬ g_A V b) {X : Mm} {H : Heap} {locs : List Loc} {ls : Array Slot} {i : Nat} (hi : i + 4 ≤ L) (hI : LI X) (hG : g_st V X s.heap H locs) (hl : lv_has ls 4 [(0, .ref b), (1, .ref (g_ad V 0)), (2, .ref (g_ad V 11)), (3, .int (nI i))])
    (kk : ∀ (X1 : Mm) (H1 : Heap) (locs1 : List Loc), LI X1 → g_st V X1 s.heap H1 locs1 → W p l e room_1 s m #[Value.ref b] below meth c H1 locs1 80 2486 (lw_Z below #[Value.ref b] s) (F0 m 576 ls [])) : W p l e room_1 s m #[Value.ref b] below meth c H locs 80 2486 (lw_Z below #[Value.ref b] s) (F0 m 464 ls []) := by
  obtain ⟨hx, hb, hr, hml, hown, hts0, hX, hbl, hlocks, hgv⟩ := C0
  have hts := lw_words hts0
  obtain ⟨⟨i19, i20, i18, i53, i12⟩, ⟨n, hn, n2, n5⟩, ⟨i0, i3⟩, ⟨b67, b22, b32, b43, b79, b68⟩, hk⟩ := id hI
  refine lv_aload_n hx hb d_law_464 rfl (lv_at hl 1 rfl) ?_
  refine lv_aload_n hx hb d_law_465 rfl (lv_at hl 0 rfl) ?_
  refine lv_iload_n hx hb d_law_466 rfl (lv_at hl 3 rfl) ?_
  refine lv_iconst (v := nI (1)) hx hb d_law_467 (by decide) ?_
  refine lv_iadd hx hb d_law_468 ?_
  refine g_topi (y := nI (i + 1)) (nI_add _ _) ?_
  refine va_sld hx hb hX hbl hbA hG.2.2 (vp_in_nI (show i + 1 < L by omega) (by omega)) d_law_469 ?_
  rw [nI_clamp (show i + 1 < 2 ^ 31 by omega)]
  refine g_calli (va_runV (As := [.int (xs (i + 1))]) (rest := []) ⟨hx, hb, hml, hown, hts⟩ (c_S_high l V X (xs (i + 1))) (cwV 1 hts (g_goodV kw_568 kw_565 kw_566 kw_567 kw_1) rfl rfl rfl (by decide +kernel) ⟨Nat.le_of_ble_eq_true rfl, Nat.le_of_ble_eq_true rfl⟩) (g_preV (k0 := 0) (ci := 0) hE hG (by decide) rfl rfl) rfl rfl hl.1 rfl (lv_room (Nat.le_of_ble_eq_true rfl)) d_law_470 ⟨Nat.le_refl 80, Nat.le_refl 2486⟩) hG (fun r1 X1 H locs q1 hG => ?_)
  refine lv_aload_n hx hb d_law_473 rfl (lv_at hl 2 rfl) ?_
  refine lv_aload_n hx hb d_law_474 rfl (lv_at hl 0 rfl) ?_
  refine lv_iload_n hx hb d_law_475 rfl (lv_at hl 3 rfl) ?_
  refine lv_iconst (v := nI (1)) hx hb d_law_476 (by decide) ?_
  refine lv_iadd hx hb d_law_477 ?_
  refine g_topi (y := nI (i + 1)) (nI_add _ _) ?_
  refine va_sld hx hb hX hbl hbA hG.2.2 (vp_in_nI (show i + 1 < L by omega) (by omega)) d_law_478 ?_
  rw [nI_clamp (show i + 1 < 2 ^ 31 by omega)]
  refine g_calli (va_runV (As := [.int (xs (i + 1))]) (rest := [.int r1]) ⟨hx, hb, hml, hown, hts⟩ (c_M_high l V X1 (xs (i + 1))) (cwV 1 hts (g_goodV kw_876 kw_873 kw_874 kw_875 kw_8) rfl rfl rfl (by decide +kernel) ⟨Nat.le_of_ble_eq_true rfl, Nat.le_of_ble_eq_true rfl⟩) (g_preV (k0 := 11) (ci := 7) hE hG (by decide) rfl rfl) rfl rfl hl.1 rfl (lv_room (Nat.le_of_ble_eq_true rfl)) d_law_479 ⟨Nat.le_refl 80, Nat.le_refl 2486⟩) hG (fun r2 X2 H locs q2 hG => ?_)
  have hLI : LI X2 := by rw [← q2.2, ← q1.2]; exact hI
  have er : r1 = r2 := by rw [q1.1, q2.1]
  exact lv_icmp_eq (tgt := 576) hx hb d_law_482 (by decide) (fun _ => kk X2 H locs hLI hG) (fun c9 => absurd er c9)

set_option maxHeartbeats 4000000 in
set_option maxRecDepth 100000 in
theorem lw_case13 {p : Program} {l : Launch} {e : Env} {s : State} {m : MethodId} {below : List Frame} {meth : Method} {c : Code} {b L : Nat} {xs : Nat → Int32} (hL : L ≤ 2048) (C0 : lw_At p s m meth c b L xs) {V : Ev} (hE : g_en V s s.heap) (hbA : ¬ g_A V b) {X : Mm} {H : Heap} {locs : List Loc} {ls : Array Slot} {i : Nat} (hi : i + 4 ≤ L) (hI : LI X) (hG : g_st V X s.heap H locs) (hl : lv_has ls 4 [(0, .ref b), (1, .ref (g_ad V 0)), (2, .ref (g_ad V 11)), (3, .int (nI i))])
    (kk : ∀ (X1 : Mm) (H1 : Heap) (locs1 : List Loc), LI X1 → g_st V X1 s.heap H1 locs1 → W p l e room_1 s m #[Value.ref b] below meth c H1 locs1 80 2486 (lw_Z below #[Value.ref b] s) (F0 m 576 ls [])) : W p l e room_1 s m #[Value.ref b] below meth c H locs 80 2486 (lw_Z below #[Value.ref b] s) (F0 m 487 ls []) := by
  obtain ⟨hx, hb, hr, hml, hown, hts0, hX, hbl, hlocks, hgv⟩ := C0
  have hts := lw_words hts0
  obtain ⟨⟨i19, i20, i18, i53, i12⟩, ⟨n, hn, n2, n5⟩, ⟨i0, i3⟩, ⟨b67, b22, b32, b43, b79, b68⟩, hk⟩ := id hI
  refine lv_aload_n hx hb d_law_487 rfl (lv_at hl 1 rfl) ?_
  refine lv_aload_n hx hb d_law_488 rfl (lv_at hl 0 rfl) ?_
  refine lv_iload_n hx hb d_law_489 rfl (lv_at hl 3 rfl) ?_
  refine lv_iconst (v := nI (1)) hx hb d_law_490 (by decide) ?_
  refine lv_iadd hx hb d_law_491 ?_
  refine g_topi (y := nI (i + 1)) (nI_add _ _) ?_
  refine va_sld hx hb hX hbl hbA hG.2.2 (vp_in_nI (show i + 1 < L by omega) (by omega)) d_law_492 ?_
  rw [nI_clamp (show i + 1 < 2 ^ 31 by omega)]
  refine g_calli (va_runV (As := [.int (xs (i + 1))]) (rest := []) ⟨hx, hb, hml, hown, hts⟩ (c_S_low l V X (xs (i + 1))) (cwV 1 hts (g_goodV kw_574 kw_571 kw_572 kw_573 kw_1) rfl rfl rfl (by decide +kernel) ⟨Nat.le_of_ble_eq_true rfl, Nat.le_of_ble_eq_true rfl⟩) (g_preV (k0 := 0) (ci := 0) hE hG (by decide) rfl rfl) rfl rfl hl.1 rfl (lv_room (Nat.le_of_ble_eq_true rfl)) d_law_493 ⟨Nat.le_refl 80, Nat.le_refl 2486⟩) hG (fun r1 X1 H locs q1 hG => ?_)
  refine lv_aload_n hx hb d_law_496 rfl (lv_at hl 2 rfl) ?_
  refine lv_aload_n hx hb d_law_497 rfl (lv_at hl 0 rfl) ?_
  refine lv_iload_n hx hb d_law_498 rfl (lv_at hl 3 rfl) ?_
  refine lv_iconst (v := nI (1)) hx hb d_law_499 (by decide) ?_
  refine lv_iadd hx hb d_law_500 ?_
  refine g_topi (y := nI (i + 1)) (nI_add _ _) ?_
  refine va_sld hx hb hX hbl hbA hG.2.2 (vp_in_nI (show i + 1 < L by omega) (by omega)) d_law_501 ?_
  rw [nI_clamp (show i + 1 < 2 ^ 31 by omega)]
  refine g_calli (va_runV (As := [.int (xs (i + 1))]) (rest := [.int r1]) ⟨hx, hb, hml, hown, hts⟩ (c_M_low l V X1 (xs (i + 1))) (cwV 1 hts (g_goodV kw_880 kw_877 kw_878 kw_879 kw_8) rfl rfl rfl (by decide +kernel) ⟨Nat.le_of_ble_eq_true rfl, Nat.le_of_ble_eq_true rfl⟩) (g_preV (k0 := 11) (ci := 7) hE hG (by decide) rfl rfl) rfl rfl hl.1 rfl (lv_room (Nat.le_of_ble_eq_true rfl)) d_law_502 ⟨Nat.le_refl 80, Nat.le_refl 2486⟩) hG (fun r2 X2 H locs q2 hG => ?_)
  have hLI : LI X2 := by rw [← q2.2, ← q1.2]; exact hI
  have er : r1 = r2 := by rw [q1.1, q2.1]
  exact lv_icmp_eq (tgt := 576) hx hb d_law_505 (by decide) (fun _ => kk X2 H locs hLI hG) (fun c9 => absurd er c9)

set_option maxHeartbeats 4000000 in
set_option maxRecDepth 100000 in
theorem lw_case14 {p : Program} {l : Launch} {e : Env} {s : State} {m : MethodId} {below : List Frame} {meth : Method} {c : Code} {b L : Nat} {xs : Nat → Int32} (hL : L ≤ 2048) (C0 : lw_At p s m meth c b L xs) {V : Ev} (hE : g_en V s s.heap) (hbA : ¬ g_A V b) {X : Mm} {H : Heap} {locs : List Loc} {ls : Array Slot} {i : Nat} (hi : i + 4 ≤ L) (hI : LI X) (hG : g_st V X s.heap H locs) (hl : lv_has ls 4 [(0, .ref b), (1, .ref (g_ad V 0)), (2, .ref (g_ad V 11)), (3, .int (nI i))])
    (kk : ∀ (X1 : Mm) (H1 : Heap) (locs1 : List Loc), LI X1 → g_st V X1 s.heap H1 locs1 → W p l e room_1 s m #[Value.ref b] below meth c H1 locs1 80 2486 (lw_Z below #[Value.ref b] s) (F0 m 576 ls [])) : W p l e room_1 s m #[Value.ref b] below meth c H locs 80 2486 (lw_Z below #[Value.ref b] s) (F0 m 510 ls []) := by
  obtain ⟨hx, hb, hr, hml, hown, hts0, hX, hbl, hlocks, hgv⟩ := C0
  have hts := lw_words hts0
  obtain ⟨⟨i19, i20, i18, i53, i12⟩, ⟨n, hn, n2, n5⟩, ⟨i0, i3⟩, ⟨b67, b22, b32, b43, b79, b68⟩, hk⟩ := id hI
  refine lv_aload_n hx hb d_law_510 rfl (lv_at hl 1 rfl) ?_
  refine lv_aload_n hx hb d_law_511 rfl (lv_at hl 0 rfl) ?_
  refine lv_iload_n hx hb d_law_512 rfl (lv_at hl 3 rfl) ?_
  refine lv_iconst (v := nI (1)) hx hb d_law_513 (by decide) ?_
  refine lv_iadd hx hb d_law_514 ?_
  refine g_topi (y := nI (i + 1)) (nI_add _ _) ?_
  refine va_sld hx hb hX hbl hbA hG.2.2 (vp_in_nI (show i + 1 < L by omega) (by omega)) d_law_515 ?_
  rw [nI_clamp (show i + 1 < 2 ^ 31 by omega)]
  refine lv_aload_n hx hb d_law_516 rfl (lv_at hl 0 rfl) ?_
  refine lv_iload_n hx hb d_law_517 rfl (lv_at hl 3 rfl) ?_
  refine lv_iconst (v := nI (2)) hx hb d_law_518 (by decide) ?_
  refine lv_iadd hx hb d_law_519 ?_
  refine g_topi (y := nI (i + 2)) (nI_add _ _) ?_
  refine va_sld hx hb hX hbl hbA hG.2.2 (vp_in_nI (show i + 2 < L by omega) (by omega)) d_law_520 ?_
  rw [nI_clamp (show i + 2 < 2 ^ 31 by omega)]
  refine g_calli (va_runV (As := [.int (xs (i + 1)), .int (xs (i + 2))]) (rest := []) ⟨hx, hb, hml, hown, hts⟩ (c_S_hint l V X (xs (i + 1)) (xs (i + 2))) (cwV 2 hts (g_goodV kw_579 kw_576 kw_577 kw_578 kw_1) rfl rfl rfl (by decide +kernel) ⟨Nat.le_of_ble_eq_true rfl, Nat.le_of_ble_eq_true rfl⟩) (g_preV (k0 := 0) (ci := 0) hE hG (by decide) rfl rfl) rfl rfl hl.1 rfl (lv_room (Nat.le_of_ble_eq_true rfl)) d_law_521 ⟨Nat.le_refl 80, Nat.le_refl 2486⟩) hG (fun r1 X1 H locs q1 hG => ?_)
  refine lv_aload_n hx hb d_law_524 rfl (lv_at hl 2 rfl) ?_
  refine lv_aload_n hx hb d_law_525 rfl (lv_at hl 0 rfl) ?_
  refine lv_iload_n hx hb d_law_526 rfl (lv_at hl 3 rfl) ?_
  refine lv_iconst (v := nI (1)) hx hb d_law_527 (by decide) ?_
  refine lv_iadd hx hb d_law_528 ?_
  refine g_topi (y := nI (i + 1)) (nI_add _ _) ?_
  refine va_sld hx hb hX hbl hbA hG.2.2 (vp_in_nI (show i + 1 < L by omega) (by omega)) d_law_529 ?_
  rw [nI_clamp (show i + 1 < 2 ^ 31 by omega)]
  refine lv_aload_n hx hb d_law_530 rfl (lv_at hl 0 rfl) ?_
  refine lv_iload_n hx hb d_law_531 rfl (lv_at hl 3 rfl) ?_
  refine lv_iconst (v := nI (2)) hx hb d_law_532 (by decide) ?_
  refine lv_iadd hx hb d_law_533 ?_
  refine g_topi (y := nI (i + 2)) (nI_add _ _) ?_
  refine va_sld hx hb hX hbl hbA hG.2.2 (vp_in_nI (show i + 2 < L by omega) (by omega)) d_law_534 ?_
  rw [nI_clamp (show i + 2 < 2 ^ 31 by omega)]
  refine g_calli (va_runV (As := [.int (xs (i + 1)), .int (xs (i + 2))]) (rest := [.int r1]) ⟨hx, hb, hml, hown, hts⟩ (c_M_hint l V X1 (xs (i + 1)) (xs (i + 2))) (cwV 2 hts (g_goodV kw_884 kw_881 kw_882 kw_883 kw_8) rfl rfl rfl (by decide +kernel) ⟨Nat.le_of_ble_eq_true rfl, Nat.le_of_ble_eq_true rfl⟩) (g_preV (k0 := 11) (ci := 7) hE hG (by decide) rfl rfl) rfl rfl hl.1 rfl (lv_room (Nat.le_of_ble_eq_true rfl)) d_law_535 ⟨Nat.le_refl 80, Nat.le_refl 2486⟩) hG (fun r2 X2 H locs q2 hG => ?_)
  have hLI : LI X2 := by rw [← q2.2, ← q1.2]; exact hI
  have er : r1 = r2 := by rw [q1.1, q2.1]
  exact lv_icmp_eq (tgt := 576) hx hb d_law_538 (by decide) (fun _ => kk X2 H locs hLI hG) (fun c9 => absurd er c9)

set_option maxHeartbeats 4000000 in
set_option maxRecDepth 100000 in
theorem lw_case15 {p : Program} {l : Launch} {e : Env} {s : State} {m : MethodId} {below : List Frame} {meth : Method} {c : Code} {b L : Nat} {xs : Nat → Int32} (hL : L ≤ 2048) (C0 : lw_At p s m meth c b L xs) {V : Ev} (hE : g_en V s s.heap) (hbA : ¬ g_A V b) {X : Mm} {H : Heap} {locs : List Loc} {ls : Array Slot} {i : Nat} (hi : i + 4 ≤ L) (hI : LI X) (hG : g_st V X s.heap H locs) (hl : lv_has ls 4 [(0, .ref b), (1, .ref (g_ad V 0)), (2, .ref (g_ad V 11)), (3, .int (nI i))])
    (kk : ∀ (X1 : Mm) (H1 : Heap) (locs1 : List Loc), LI X1 → g_st V X1 s.heap H1 locs1 → W p l e room_1 s m #[Value.ref b] below meth c H1 locs1 80 2486 (lw_Z below #[Value.ref b] s) (F0 m 576 ls [])) : W p l e room_1 s m #[Value.ref b] below meth c H locs 80 2486 (lw_Z below #[Value.ref b] s) (F0 m 543 ls []) := by
  obtain ⟨hx, hb, hr, hml, hown, hts0, hX, hbl, hlocks, hgv⟩ := C0
  have hts := lw_words hts0
  obtain ⟨⟨i19, i20, i18, i53, i12⟩, ⟨n, hn, n2, n5⟩, ⟨i0, i3⟩, ⟨b67, b22, b32, b43, b79, b68⟩, hk⟩ := id hI
  refine lv_aload_n hx hb d_law_543 rfl (lv_at hl 1 rfl) ?_
  refine lv_aload_n hx hb d_law_544 rfl (lv_at hl 0 rfl) ?_
  refine lv_iload_n hx hb d_law_545 rfl (lv_at hl 3 rfl) ?_
  refine lv_iconst (v := nI (1)) hx hb d_law_546 (by decide) ?_
  refine lv_iadd hx hb d_law_547 ?_
  refine g_topi (y := nI (i + 1)) (nI_add _ _) ?_
  refine va_sld hx hb hX hbl hbA hG.2.2 (vp_in_nI (show i + 1 < L by omega) (by omega)) d_law_548 ?_
  rw [nI_clamp (show i + 1 < 2 ^ 31 by omega)]
  refine lv_aload_n hx hb d_law_549 rfl (lv_at hl 0 rfl) ?_
  refine lv_iload_n hx hb d_law_550 rfl (lv_at hl 3 rfl) ?_
  refine lv_iconst (v := nI (2)) hx hb d_law_551 (by decide) ?_
  refine lv_iadd hx hb d_law_552 ?_
  refine g_topi (y := nI (i + 2)) (nI_add _ _) ?_
  refine va_sld hx hb hX hbl hbA hG.2.2 (vp_in_nI (show i + 2 < L by omega) (by omega)) d_law_553 ?_
  rw [nI_clamp (show i + 2 < 2 ^ 31 by omega)]
  refine g_calli (va_runV (As := [.int (xs (i + 1)), .int (xs (i + 2))]) (rest := []) ⟨hx, hb, hml, hown, hts⟩ (c_S_corrected l V X (xs (i + 1)) (xs (i + 2))) (cwV 2 hts (g_goodV kw_584 kw_581 kw_582 kw_583 kw_1) rfl rfl rfl (by decide +kernel) ⟨Nat.le_of_ble_eq_true rfl, Nat.le_of_ble_eq_true rfl⟩) (g_preV (k0 := 0) (ci := 0) hE hG (by decide) rfl rfl) rfl rfl hl.1 rfl (lv_room (Nat.le_of_ble_eq_true rfl)) d_law_554 ⟨Nat.le_refl 80, Nat.le_refl 2486⟩) hG (fun r1 X1 H locs q1 hG => ?_)
  refine lv_aload_n hx hb d_law_557 rfl (lv_at hl 2 rfl) ?_
  refine lv_aload_n hx hb d_law_558 rfl (lv_at hl 0 rfl) ?_
  refine lv_iload_n hx hb d_law_559 rfl (lv_at hl 3 rfl) ?_
  refine lv_iconst (v := nI (1)) hx hb d_law_560 (by decide) ?_
  refine lv_iadd hx hb d_law_561 ?_
  refine g_topi (y := nI (i + 1)) (nI_add _ _) ?_
  refine va_sld hx hb hX hbl hbA hG.2.2 (vp_in_nI (show i + 1 < L by omega) (by omega)) d_law_562 ?_
  rw [nI_clamp (show i + 1 < 2 ^ 31 by omega)]
  refine lv_aload_n hx hb d_law_563 rfl (lv_at hl 0 rfl) ?_
  refine lv_iload_n hx hb d_law_564 rfl (lv_at hl 3 rfl) ?_
  refine lv_iconst (v := nI (2)) hx hb d_law_565 (by decide) ?_
  refine lv_iadd hx hb d_law_566 ?_
  refine g_topi (y := nI (i + 2)) (nI_add _ _) ?_
  refine va_sld hx hb hX hbl hbA hG.2.2 (vp_in_nI (show i + 2 < L by omega) (by omega)) d_law_567 ?_
  rw [nI_clamp (show i + 2 < 2 ^ 31 by omega)]
  refine g_calli (va_runV (As := [.int (xs (i + 1)), .int (xs (i + 2))]) (rest := [.int r1]) ⟨hx, hb, hml, hown, hts⟩ (c_M_corrected l V X1 (xs (i + 1)) (xs (i + 2))) (cwV 2 hts (g_goodV kw_888 kw_885 kw_886 kw_887 kw_8) rfl rfl rfl (by decide +kernel) ⟨Nat.le_of_ble_eq_true rfl, Nat.le_of_ble_eq_true rfl⟩) (g_preV (k0 := 11) (ci := 7) hE hG (by decide) rfl rfl) rfl rfl hl.1 rfl (lv_room (Nat.le_of_ble_eq_true rfl)) d_law_568 ⟨Nat.le_refl 80, Nat.le_refl 2486⟩) hG (fun r2 X2 H locs q2 hG => ?_)
  have hLI : LI X2 := by rw [← q2.2, ← q1.2]; exact hI
  have er : r1 = r2 := by rw [q1.1, q2.1]
  exact lv_icmp_eq (tgt := 576) hx hb d_law_571 (by decide) (fun _ => kk X2 H locs hLI hG) (fun c9 => absurd er c9)
