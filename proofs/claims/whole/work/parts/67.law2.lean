theorem sg_of {f : Nat → Int32} (h : ∀ j, j < 62 → isB (f j)) : ∃ sg : Nat → Nat, ∀ j, j < 62 → f j = nI (sg j) ∧ sg j < 256 := by
  refine ⟨fun j => if h9 : j < 62 then (h j h9).choose else 0, fun j hj => ?_⟩
  simp only [dif_pos hj]
  exact ⟨(h j hj).choose_spec.2, (h j hj).choose_spec.1⟩
theorem isB_of {b : Int32} (h : 0 ≤ b ∧ b ≤ nI 255) : isB b := by
  obtain ⟨j, hj, e⟩ := rgN (n := 256) (by decide) ⟨h.1, (le_lt (by decide)).mp h.2⟩
  exact ⟨j, hj, e⟩
theorem upd_isB {f : Nat → Int32} {N k : Nat} {b : Int32} (h : ∀ j, j < N → isB (f j)) (hb : isB b) : ∀ j, j < N → isB (upd f k b j) := by
  intro j hj
  unfold upd
  by_cases e : j = k
  · rw [if_pos e]
    exact hb
  · rw [if_neg e]
    exact h j hj
theorem sec_eq {X : Mm} (k : KI X) {wh i r1 r2 : Int32} (h1 : ∃ w j, w < 6 ∧ j < 16 ∧ wh = nI w ∧ i = nI j ∧ r1 = cenP (redP (X.1 (27 + w / 2) (16 * (w % 2) + j)).toInt64)) (h2 : ∃ w j, w < 6 ∧ j < 16 ∧ wh = nI w ∧ i = nI j ∧ r2 = cenP (X.1 (62 + w / 2) (16 * (w % 2) + j))) : r1 = r2 := by
  obtain ⟨w, j, hw, hj, ew, ej, e1⟩ := h1
  obtain ⟨w', j', hw', hj', ew', ej', e2⟩ := h2
  have a : w' = w := (nI_eq (by omega) (by omega)).mp (ew'.symm.trans ew)
  have b : j' = j := (nI_eq (by omega) (by omega)).mp (ej'.symm.trans ej)
  subst a
  subst b
  rw [e1, e2]
  congr 1
  obtain ⟨-, -, -, -, -, -, -, k1, k2, k3⟩ := k
  rcases (show w' / 2 = 0 ∨ w' / 2 = 1 ∨ w' / 2 = 2 by omega) with e | e | e
  · rw [e]
    exact (congrFun k1 _).symm
  · rw [e]
    exact (congrFun k2 _).symm
  · rw [e]
    exact (congrFun k3 _).symm
set_option maxHeartbeats 4000000 in
set_option maxRecDepth 100000 in
theorem lw_case1 {p : Program} {l : Launch} {e : Env} {s : State} {m : MethodId} {below : List Frame} {meth : Method} {c : Code} {b L : Nat} {xs : Nat → Int32} (hL : L ≤ 2048) (C0 : lw_At p s m meth c b L xs) {V : Ev} (hE : g_en V s s.heap) (hbA : ¬ g_A V b) {X : Mm} {H : Heap} {locs : List Loc} {ls : Array Slot} {i : Nat} (hi : i + 4 ≤ L) (hI : LI X) (hG : g_st V X s.heap H locs) (hl : lv_has ls 4 [(0, .ref b), (1, .ref (g_ad V 0)), (2, .ref (g_ad V 11)), (3, .int (nI i))])
    (kk : ∀ (X1 : Mm) (H1 : Heap) (locs1 : List Loc), LI X1 → g_st V X1 s.heap H1 locs1 → W p l e room_1 s m #[Value.ref b] below meth c H1 locs1 80 2486 (lw_Z below #[Value.ref b] s) (F0 m 576 ls [])) : W p l e room_1 s m #[Value.ref b] below meth c H locs 80 2486 (lw_Z below #[Value.ref b] s) (F0 m 163 ls []) := by
  obtain ⟨hx, hb, hr, hml, hown, hts0, hX, hbl, hlocks, hgv⟩ := C0
  have hts := lw_words hts0
  obtain ⟨⟨i19, i20, i18, i53, i12⟩, ⟨n, hn, n2, n5⟩, ⟨i0, i3⟩, ⟨b67, b22, b32, b43, b79, b68⟩, hk⟩ := id hI
  refine lv_aload_n hx hb d_law_163 rfl (lv_at hl 1 rfl) ?_
  refine lv_aload_n hx hb d_law_164 rfl (lv_at hl 0 rfl) ?_
  refine lv_iload_n hx hb d_law_165 rfl (lv_at hl 3 rfl) ?_
  refine lv_iconst (v := nI (1)) hx hb d_law_166 (by decide) ?_
  refine lv_iadd hx hb d_law_167 ?_
  refine g_topi (y := nI (i + 1)) (nI_add _ _) ?_
  refine va_sld hx hb hX hbl hbA hG.2.2 (vp_in_nI (show i + 1 < L by omega) (by omega)) d_law_168 ?_
  rw [nI_clamp (show i + 1 < 2 ^ 31 by omega)]
  refine g_calli (va_runV (As := [.int (xs (i + 1))]) (rest := []) ⟨hx, hb, hml, hown, hts⟩ (c_S_say l V X (xs (i + 1)) n hn n2) (cwV 1 hts (g_goodV kw_335 kw_332 kw_333 kw_334 kw_1) rfl rfl rfl (by decide +kernel) ⟨Nat.le_of_ble_eq_true rfl, Nat.le_of_ble_eq_true rfl⟩) (g_preV (k0 := 0) (ci := 0) hE hG (by decide) rfl rfl) rfl rfl hl.1 rfl (lv_room (Nat.le_of_ble_eq_true rfl)) d_law_169 ⟨Nat.le_refl 80, Nat.le_refl 2486⟩) hG (fun r1 X1 H locs q1 hG => ?_)
  refine lv_aload_n hx hb d_law_172 rfl (lv_at hl 2 rfl) ?_
  refine lv_aload_n hx hb d_law_173 rfl (lv_at hl 0 rfl) ?_
  refine lv_iload_n hx hb d_law_174 rfl (lv_at hl 3 rfl) ?_
  refine lv_iconst (v := nI (1)) hx hb d_law_175 (by decide) ?_
  refine lv_iadd hx hb d_law_176 ?_
  refine g_topi (y := nI (i + 1)) (nI_add _ _) ?_
  refine va_sld hx hb hX hbl hbA hG.2.2 (vp_in_nI (show i + 1 < L by omega) (by omega)) d_law_177 ?_
  rw [nI_clamp (show i + 1 < 2 ^ 31 by omega)]
  have g5 : X1.2.2 5 = nI n := (Classical.em ((0 ≤ xs (i + 1) ∧ xs (i + 1) ≤ nI 255) ∧ n < 24)).elim (fun z => ((q1.1 z).2.2.2.2.2 5 (by decide)).trans n5) (fun z => by rw [← (q1.2 z).2]; exact n5)
  refine g_calli (va_runV (As := [.int (xs (i + 1))]) (rest := [.int r1]) ⟨hx, hb, hml, hown, hts⟩ (c_M_say l V X1 (xs (i + 1)) n hn g5) (cwV 1 hts (g_goodV kw_775 kw_772 kw_773 kw_774 kw_8) rfl rfl rfl (by decide +kernel) ⟨Nat.le_of_ble_eq_true rfl, Nat.le_of_ble_eq_true rfl⟩) (g_preV (k0 := 11) (ci := 7) hE hG (by decide) rfl rfl) rfl rfl hl.1 rfl (lv_room (Nat.le_of_ble_eq_true rfl)) d_law_178 ⟨Nat.le_refl 80, Nat.le_refl 2486⟩) hG (fun r2 X2 H locs q2 hG => ?_)
  have hLI : LI X2 := by
    by_cases z : ((0 ≤ xs (i + 1) ∧ xs (i + 1) ≤ nI 255) ∧ n < 24)
    · have w1 := q1.1 z
      have w2 := q2.1 z
      have f1 := w1.2.2.2
      have f2 := w2.2.2.2
      exact LI_mk hI (fun k hk => (f2.1 k ((show ∀ k ∈ [22, 24, 25, 26, 27, 28, 29, 53, 58, 59, 60, 62, 63, 64], k ∉ [66] by decide) k hk)).trans (f1.1 k ((show ∀ k ∈ [22, 24, 25, 26, 27, 28, 29, 53, 58, 59, 60, 62, 63, 64], k ∉ [18] by decide) k hk))) ((f2.2.1 12 (by decide)).trans (f1.2.1 12 (by decide))) (fun k hk => (f2.2.2 k ((show ∀ k ∈ [0, 4], k ∉ [5] by decide) k hk)).trans (f1.2.2 k ((show ∀ k ∈ [0, 4], k ∉ [2] by decide) k hk))) ((f2.2.2 3 (by decide)).trans ((f1.2.2 3 (by decide)).trans i3)) ⟨n + 1, by omega, (f2.2.2 2 (by decide)).trans w1.2.2.1, w2.2.2.1⟩ (by rw [f2.1 19 (by decide), f1.1 19 (by decide), f2.1 67 (by decide), f1.1 67 (by decide)]; exact i19) (by rw [f2.1 20 (by decide), f1.1 20 (by decide), f2.1 68 (by decide), f1.1 68 (by decide)]; exact i20) (by rw [f2.1 18 (by decide), w1.2.1, w2.2.1, f1.1 66 (by decide), i18]) (fun j hj => by rw [f2.1 67 (by decide), f1.1 67 (by decide)]; exact b67 j hj) (fun j hj => by rw [f2.1 32 (by decide), f1.1 32 (by decide)]; exact b32 j hj) (fun j hj => by rw [f2.1 43 (by decide), f1.1 43 (by decide)]; exact b43 j hj) (fun j hj => by rw [f2.1 79 (by decide), f1.1 79 (by decide)]; exact b79 j hj) (fun j hj => by rw [f2.1 68 (by decide), f1.1 68 (by decide)]; exact b68 j hj)
    · rw [← (q2.2 z).2, ← (q1.2 z).2]
      exact hI
  have er : r1 = r2 := (Classical.em ((0 ≤ xs (i + 1) ∧ xs (i + 1) ≤ nI 255) ∧ n < 24)).elim (fun z => (q1.1 z).1.trans (q2.1 z).1.symm) (fun z => (q1.2 z).1.trans (q2.2 z).1.symm)
  exact lv_icmp_eq (tgt := 576) hx hb d_law_181 (by decide) (fun _ => kk X2 H locs hLI hG) (fun c9 => absurd er c9)

set_option maxHeartbeats 4000000 in
set_option maxRecDepth 100000 in
theorem lw_case2 {p : Program} {l : Launch} {e : Env} {s : State} {m : MethodId} {below : List Frame} {meth : Method} {c : Code} {b L : Nat} {xs : Nat → Int32} (hL : L ≤ 2048) (C0 : lw_At p s m meth c b L xs) {V : Ev} (hE : g_en V s s.heap) (hbA : ¬ g_A V b) {X : Mm} {H : Heap} {locs : List Loc} {ls : Array Slot} {i : Nat} (hi : i + 4 ≤ L) (hI : LI X) (hG : g_st V X s.heap H locs) (hl : lv_has ls 4 [(0, .ref b), (1, .ref (g_ad V 0)), (2, .ref (g_ad V 11)), (3, .int (nI i))])
    (kk : ∀ (X1 : Mm) (H1 : Heap) (locs1 : List Loc), LI X1 → g_st V X1 s.heap H1 locs1 → W p l e room_1 s m #[Value.ref b] below meth c H1 locs1 80 2486 (lw_Z below #[Value.ref b] s) (F0 m 576 ls [])) : W p l e room_1 s m #[Value.ref b] below meth c H locs 80 2486 (lw_Z below #[Value.ref b] s) (F0 m 186 ls []) := by
  obtain ⟨hx, hb, hr, hml, hown, hts0, hX, hbl, hlocks, hgv⟩ := C0
  have hts := lw_words hts0
  obtain ⟨⟨i19, i20, i18, i53, i12⟩, ⟨n, hn, n2, n5⟩, ⟨i0, i3⟩, ⟨b67, b22, b32, b43, b79, b68⟩, hk⟩ := id hI
  refine lv_aload_n hx hb d_law_186 rfl (lv_at hl 1 rfl) ?_
  refine g_callv (va_runV (As := []) (rest := []) ⟨hx, hb, hml, hown, hts⟩ (c_S_hush l V X ) (cwV 0 hts (g_goodV kw_346 kw_343 kw_344 kw_345 kw_1) rfl rfl rfl (by decide +kernel) ⟨Nat.le_of_ble_eq_true rfl, Nat.le_of_ble_eq_true rfl⟩) (g_preV (k0 := 0) (ci := 0) hE hG (by decide) rfl rfl) rfl rfl hl.1 rfl (lv_room (Nat.le_of_ble_eq_true rfl)) d_law_187 ⟨Nat.le_refl 80, Nat.le_refl 2486⟩) hG (fun X1 H locs q1 hG => ?_)
  refine lv_aload_n hx hb d_law_190 rfl (lv_at hl 2 rfl) ?_
  refine g_callv (va_runV (As := []) (rest := []) ⟨hx, hb, hml, hown, hts⟩ (c_M_hush l V X1 ) (cwV 0 hts (g_goodV kw_779 kw_776 kw_777 kw_778 kw_8) rfl rfl rfl (by decide +kernel) ⟨Nat.le_of_ble_eq_true rfl, Nat.le_of_ble_eq_true rfl⟩) (g_preV (k0 := 11) (ci := 7) hE hG (by decide) rfl rfl) rfl rfl hl.1 rfl (lv_room (Nat.le_of_ble_eq_true rfl)) d_law_191 ⟨Nat.le_refl 80, Nat.le_refl 2486⟩) hG (fun X2 H locs q2 hG => ?_)
  have f1 := q1.2
  have f2 := q2.2
  have hLI : LI X2 := LI_mk hI (fun k hk => (f2.1 k ((show ∀ k ∈ [22, 24, 25, 26, 27, 28, 29, 53, 58, 59, 60, 62, 63, 64], k ∉ [] by decide) k hk)).trans (f1.1 k ((show ∀ k ∈ [22, 24, 25, 26, 27, 28, 29, 53, 58, 59, 60, 62, 63, 64], k ∉ [] by decide) k hk))) ((f2.2.1 12 (by decide)).trans (f1.2.1 12 (by decide))) (fun k hk => (f2.2.2 k ((show ∀ k ∈ [0, 4], k ∉ [5] by decide) k hk)).trans (f1.2.2 k ((show ∀ k ∈ [0, 4], k ∉ [2] by decide) k hk))) ((f2.2.2 3 (by decide)).trans ((f1.2.2 3 (by decide)).trans i3)) ⟨0, by omega, (f2.2.2 2 (by decide)).trans q1.1, q2.1⟩ (by rw [f2.1 19 (by decide), f1.1 19 (by decide), f2.1 67 (by decide), f1.1 67 (by decide)]; exact i19) (by rw [f2.1 20 (by decide), f1.1 20 (by decide), f2.1 68 (by decide), f1.1 68 (by decide)]; exact i20) (by rw [f2.1 18 (by decide), f1.1 18 (by decide), f2.1 66 (by decide), f1.1 66 (by decide)]; exact i18) (fun j hj => by rw [f2.1 67 (by decide), f1.1 67 (by decide)]; exact b67 j hj) (fun j hj => by rw [f2.1 32 (by decide), f1.1 32 (by decide)]; exact b32 j hj) (fun j hj => by rw [f2.1 43 (by decide), f1.1 43 (by decide)]; exact b43 j hj) (fun j hj => by rw [f2.1 79 (by decide), f1.1 79 (by decide)]; exact b79 j hj) (fun j hj => by rw [f2.1 68 (by decide), f1.1 68 (by decide)]; exact b68 j hj)
  exact lv_goto (tgt := 576) hx hb d_law_194 (by decide) (kk X2 H locs hLI hG)

set_option maxHeartbeats 4000000 in
set_option maxRecDepth 100000 in
theorem lw_case4 {p : Program} {l : Launch} {e : Env} {s : State} {m : MethodId} {below : List Frame} {meth : Method} {c : Code} {b L : Nat} {xs : Nat → Int32} (hL : L ≤ 2048) (C0 : lw_At p s m meth c b L xs) {V : Ev} (hE : g_en V s s.heap) (hbA : ¬ g_A V b) {X : Mm} {H : Heap} {locs : List Loc} {ls : Array Slot} {i : Nat} (hi : i + 4 ≤ L) (hI : LI X) (hG : g_st V X s.heap H locs) (hl : lv_has ls 4 [(0, .ref b), (1, .ref (g_ad V 0)), (2, .ref (g_ad V 11)), (3, .int (nI i))])
    (kk : ∀ (X1 : Mm) (H1 : Heap) (locs1 : List Loc), LI X1 → g_st V X1 s.heap H1 locs1 → W p l e room_1 s m #[Value.ref b] below meth c H1 locs1 80 2486 (lw_Z below #[Value.ref b] s) (F0 m 576 ls [])) : W p l e room_1 s m #[Value.ref b] below meth c H locs 80 2486 (lw_Z below #[Value.ref b] s) (F0 m 260 ls []) := by
  obtain ⟨hx, hb, hr, hml, hown, hts0, hX, hbl, hlocks, hgv⟩ := C0
  have hts := lw_words hts0
  obtain ⟨⟨i19, i20, i18, i53, i12⟩, ⟨n, hn, n2, n5⟩, ⟨i0, i3⟩, ⟨b67, b22, b32, b43, b79, b68⟩, hk⟩ := id hI
  refine lv_aload_n hx hb d_law_260 rfl (lv_at hl 1 rfl) ?_
  obtain ⟨sg, hsg⟩ := sg_of b68
  refine g_calli (va_runV (As := []) (rest := []) ⟨hx, hb, hml, hown, hts⟩ (c_S_verify l V X n hn n2 sg (fun j hj => by rw [i20]; exact (hsg j hj).1) (fun j hj => (hsg j hj).2) b43) (cwV 0 hts (g_goodV kw_474 kw_471 kw_472 kw_473 kw_1) rfl rfl rfl (by decide +kernel) ⟨Nat.le_of_ble_eq_true rfl, Nat.le_of_ble_eq_true rfl⟩) (g_preV (k0 := 0) (ci := 0) hE hG (by decide) rfl rfl) rfl rfl hl.1 rfl (lv_room (Nat.le_of_ble_eq_true rfl)) d_law_261 ⟨Nat.le_refl 80, Nat.le_refl 2486⟩) hG (fun r1 X1 H locs q1 hG => ?_)
  refine lv_aload_n hx hb d_law_264 rfl (lv_at hl 2 rfl) ?_
  have f1 := q1.2.2.2
  refine g_calli (va_runV (As := []) (rest := [.int r1]) ⟨hx, hb, hml, hown, hts⟩ (c_M_verify l V X1 n hn ((f1.2.2 5 (by decide)).trans n5) ((f1.2.2 3 (by decide)).trans i3) ((f1.1 53 (by decide)).trans i53) ((f1.2.1 12 (by decide)).trans i12) sg (fun j hj => by rw [f1.1 68 (by decide)]; exact (hsg j hj).1) (fun j hj => (hsg j hj).2) (fun j hj => by rw [f1.1 79 (by decide)]; exact b79 j hj)) (cwV 0 hts (g_goodV kw_836 kw_833 kw_834 kw_835 kw_8) rfl rfl rfl (by decide +kernel) ⟨Nat.le_of_ble_eq_true rfl, Nat.le_of_ble_eq_true rfl⟩) (g_preV (k0 := 11) (ci := 7) hE hG (by decide) rfl rfl) rfl rfl hl.1 rfl (lv_room (Nat.le_of_ble_eq_true rfl)) d_law_265 ⟨Nat.le_refl 80, Nat.le_refl 2486⟩) hG (fun r2 X2 H locs q2 hG => ?_)
  have f2 := q2.2.2.2.2
  have hLI : LI X2 := LI_keep hI (fun k hk => (f2.1 k ((show ∀ k ∈ [18, 19, 20, 22, 24, 25, 26, 27, 28, 29, 32, 53, 58, 59, 60, 62, 63, 64, 66, 67, 68], k ∉ [54, 55, 61, 65, 69, 70, 73, 74, 75, 77, 78, 79] by decide) k hk)).trans (f1.1 k ((show ∀ k ∈ [18, 19, 20, 22, 24, 25, 26, 27, 28, 29, 32, 53, 58, 59, 60, 62, 63, 64, 66, 67, 68], k ∉ [17, 42, 43, 44, 45, 46, 47, 48, 49, 50, 51, 52] by decide) k hk))) ((f2.2.1 12 (by decide)).trans (f1.2.1 12 (by decide))) (fun k hk => (f2.2.2 k ((show ∀ k ∈ [0, 2, 4, 5], k ∉ [3] by decide) k hk)).trans (f1.2.2 k ((show ∀ k ∈ [0, 2, 4, 5], k ∉ [1] by decide) k hk))) q2.2.2.2.1 (fun j hj => by rw [f2.1 43 (by decide)]; exact q1.2.2.1 j hj) q2.2.2.1
  have e1 := q1.1
  have e2 := q1.2.1
  rw [i19, i20, i18] at e1 e2
  have e3 := q2.1
  have e4 := q2.2.1
  rw [f1.1 67 (by decide), f1.1 66 (by decide), f1.1 68 (by decide)] at e3 e4
  have er : r1 = r2 := (Classical.em (vOK (X.1 67) (X.1 66) (X.1 68) sg n)).elim (fun z => (e1 z).trans (e3 z).symm) (fun z => (e2 z).trans (e4 z).symm)
  exact lv_icmp_eq (tgt := 576) hx hb d_law_268 (by decide) (fun _ => kk X2 H locs hLI hG) (fun c9 => absurd er c9)

set_option maxHeartbeats 4000000 in
set_option maxRecDepth 100000 in
theorem lw_case7 {p : Program} {l : Launch} {e : Env} {s : State} {m : MethodId} {below : List Frame} {meth : Method} {c : Code} {b L : Nat} {xs : Nat → Int32} (hL : L ≤ 2048) (C0 : lw_At p s m meth c b L xs) {V : Ev} (hE : g_en V s s.heap) (hbA : ¬ g_A V b) {X : Mm} {H : Heap} {locs : List Loc} {ls : Array Slot} {i : Nat} (hi : i + 4 ≤ L) (hI : LI X) (hG : g_st V X s.heap H locs) (hl : lv_has ls 4 [(0, .ref b), (1, .ref (g_ad V 0)), (2, .ref (g_ad V 11)), (3, .int (nI i))])
    (kk : ∀ (X1 : Mm) (H1 : Heap) (locs1 : List Loc), LI X1 → g_st V X1 s.heap H1 locs1 → W p l e room_1 s m #[Value.ref b] below meth c H1 locs1 80 2486 (lw_Z below #[Value.ref b] s) (F0 m 576 ls [])) : W p l e room_1 s m #[Value.ref b] below meth c H locs 80 2486 (lw_Z below #[Value.ref b] s) (F0 m 319 ls []) := by
  obtain ⟨hx, hb, hr, hml, hown, hts0, hX, hbl, hlocks, hgv⟩ := C0
  have hts := lw_words hts0
  obtain ⟨⟨i19, i20, i18, i53, i12⟩, ⟨n, hn, n2, n5⟩, ⟨i0, i3⟩, ⟨b67, b22, b32, b43, b79, b68⟩, hk⟩ := id hI
  refine lv_aload_n hx hb d_law_319 rfl (lv_at hl 1 rfl) ?_
  refine lv_aload_n hx hb d_law_320 rfl (lv_at hl 0 rfl) ?_
  refine lv_iload_n hx hb d_law_321 rfl (lv_at hl 3 rfl) ?_
  refine lv_iconst (v := nI (1)) hx hb d_law_322 (by decide) ?_
  refine lv_iadd hx hb d_law_323 ?_
  refine g_topi (y := nI (i + 1)) (nI_add _ _) ?_
  refine va_sld hx hb hX hbl hbA hG.2.2 (vp_in_nI (show i + 1 < L by omega) (by omega)) d_law_324 ?_
  rw [nI_clamp (show i + 1 < 2 ^ 31 by omega)]
  refine lv_aload_n hx hb d_law_325 rfl (lv_at hl 0 rfl) ?_
  refine lv_iload_n hx hb d_law_326 rfl (lv_at hl 3 rfl) ?_
  refine lv_iconst (v := nI (2)) hx hb d_law_327 (by decide) ?_
  refine lv_iadd hx hb d_law_328 ?_
  refine g_topi (y := nI (i + 2)) (nI_add _ _) ?_
  refine va_sld hx hb hX hbl hbA hG.2.2 (vp_in_nI (show i + 2 < L by omega) (by omega)) d_law_329 ?_
  rw [nI_clamp (show i + 2 < 2 ^ 31 by omega)]
  refine g_calli (va_runV (As := [.int (xs (i + 1)), .int (xs (i + 2))]) (rest := []) ⟨hx, hb, hml, hown, hts⟩ (c_S_putPublic l V X (xs (i + 1)) (xs (i + 2))) (cwV 2 hts (g_goodV kw_536 kw_533 kw_534 kw_535 kw_1) rfl rfl rfl (by decide +kernel) ⟨Nat.le_of_ble_eq_true rfl, Nat.le_of_ble_eq_true rfl⟩) (g_preV (k0 := 0) (ci := 0) hE hG (by decide) rfl rfl) rfl rfl hl.1 rfl (lv_room (Nat.le_of_ble_eq_true rfl)) d_law_330 ⟨Nat.le_refl 80, Nat.le_refl 2486⟩) hG (fun r1 X1 H locs q1 hG => ?_)
  refine lv_aload_n hx hb d_law_333 rfl (lv_at hl 2 rfl) ?_
  refine lv_aload_n hx hb d_law_334 rfl (lv_at hl 0 rfl) ?_
  refine lv_iload_n hx hb d_law_335 rfl (lv_at hl 3 rfl) ?_
  refine lv_iconst (v := nI (1)) hx hb d_law_336 (by decide) ?_
  refine lv_iadd hx hb d_law_337 ?_
  refine g_topi (y := nI (i + 1)) (nI_add _ _) ?_
  refine va_sld hx hb hX hbl hbA hG.2.2 (vp_in_nI (show i + 1 < L by omega) (by omega)) d_law_338 ?_
  rw [nI_clamp (show i + 1 < 2 ^ 31 by omega)]
  refine lv_aload_n hx hb d_law_339 rfl (lv_at hl 0 rfl) ?_
  refine lv_iload_n hx hb d_law_340 rfl (lv_at hl 3 rfl) ?_
  refine lv_iconst (v := nI (2)) hx hb d_law_341 (by decide) ?_
  refine lv_iadd hx hb d_law_342 ?_
  refine g_topi (y := nI (i + 2)) (nI_add _ _) ?_
  refine va_sld hx hb hX hbl hbA hG.2.2 (vp_in_nI (show i + 2 < L by omega) (by omega)) d_law_343 ?_
  rw [nI_clamp (show i + 2 < 2 ^ 31 by omega)]
  refine g_calli (va_runV (As := [.int (xs (i + 1)), .int (xs (i + 2))]) (rest := [.int r1]) ⟨hx, hb, hml, hown, hts⟩ (c_M_putPublic l V X1 (xs (i + 1)) (xs (i + 2))) (cwV 2 hts (g_goodV kw_856 kw_853 kw_854 kw_855 kw_8) rfl rfl rfl (by decide +kernel) ⟨Nat.le_of_ble_eq_true rfl, Nat.le_of_ble_eq_true rfl⟩) (g_preV (k0 := 11) (ci := 7) hE hG (by decide) rfl rfl) rfl rfl hl.1 rfl (lv_room (Nat.le_of_ble_eq_true rfl)) d_law_344 ⟨Nat.le_refl 80, Nat.le_refl 2486⟩) hG (fun r2 X2 H locs q2 hG => ?_)
  have hLI : LI X2 := by
    by_cases z : ((0 ≤ xs (i + 1) ∧ xs (i + 1) < nI 68) ∧ (0 ≤ xs (i + 2) ∧ xs (i + 2) ≤ nI 255))
    · have w1 := q1.1 z
      have w2 := q2.1 z
      have f1 := w1.2.2
      have f2 := w2.2.2
      exact LI_mk hI (fun k hk => (f2.1 k ((show ∀ k ∈ [22, 24, 25, 26, 27, 28, 29, 53, 58, 59, 60, 62, 63, 64], k ∉ [67] by decide) k hk)).trans (f1.1 k ((show ∀ k ∈ [22, 24, 25, 26, 27, 28, 29, 53, 58, 59, 60, 62, 63, 64], k ∉ [19] by decide) k hk))) ((f2.2.1 12 (by decide)).trans (f1.2.1 12 (by decide))) (fun k hk => (f2.2.2 k ((show ∀ k ∈ [0, 4], k ∉ [] by decide) k hk)).trans (f1.2.2 k ((show ∀ k ∈ [0, 4], k ∉ [] by decide) k hk))) ((f2.2.2 3 (by decide)).trans ((f1.2.2 3 (by decide)).trans i3)) ⟨n, hn, (f2.2.2 2 (by decide)).trans ((f1.2.2 2 (by decide)).trans n2), (f2.2.2 5 (by decide)).trans ((f1.2.2 5 (by decide)).trans n5)⟩ (by rw [f2.1 19 (by decide), w1.2.1, w2.2.1, f1.1 67 (by decide), i19]) (by rw [f2.1 20 (by decide), f1.1 20 (by decide), f2.1 68 (by decide), f1.1 68 (by decide)]; exact i20) (by rw [f2.1 18 (by decide), f1.1 18 (by decide), f2.1 66 (by decide), f1.1 66 (by decide)]; exact i18) (by rw [w2.2.1, f1.1 67 (by decide)]; exact upd_isB b67 (isB_of z.2)) (fun j hj => by rw [f2.1 32 (by decide), f1.1 32 (by decide)]; exact b32 j hj) (fun j hj => by rw [f2.1 43 (by decide), f1.1 43 (by decide)]; exact b43 j hj) (fun j hj => by rw [f2.1 79 (by decide), f1.1 79 (by decide)]; exact b79 j hj) (fun j hj => by rw [f2.1 68 (by decide), f1.1 68 (by decide)]; exact b68 j hj)
    · rw [← (q2.2 z).2, ← (q1.2 z).2]
      exact hI
  have er : r1 = r2 := (Classical.em ((0 ≤ xs (i + 1) ∧ xs (i + 1) < nI 68) ∧ (0 ≤ xs (i + 2) ∧ xs (i + 2) ≤ nI 255))).elim (fun z => (q1.1 z).1.trans (q2.1 z).1.symm) (fun z => (q1.2 z).1.trans (q2.2 z).1.symm)
  exact lv_icmp_eq (tgt := 576) hx hb d_law_347 (by decide) (fun _ => kk X2 H locs hLI hG) (fun c9 => absurd er c9)

set_option maxHeartbeats 4000000 in
set_option maxRecDepth 100000 in
theorem lw_case8 {p : Program} {l : Launch} {e : Env} {s : State} {m : MethodId} {below : List Frame} {meth : Method} {c : Code} {b L : Nat} {xs : Nat → Int32} (hL : L ≤ 2048) (C0 : lw_At p s m meth c b L xs) {V : Ev} (hE : g_en V s s.heap) (hbA : ¬ g_A V b) {X : Mm} {H : Heap} {locs : List Loc} {ls : Array Slot} {i : Nat} (hi : i + 4 ≤ L) (hI : LI X) (hG : g_st V X s.heap H locs) (hl : lv_has ls 4 [(0, .ref b), (1, .ref (g_ad V 0)), (2, .ref (g_ad V 11)), (3, .int (nI i))])
    (kk : ∀ (X1 : Mm) (H1 : Heap) (locs1 : List Loc), LI X1 → g_st V X1 s.heap H1 locs1 → W p l e room_1 s m #[Value.ref b] below meth c H1 locs1 80 2486 (lw_Z below #[Value.ref b] s) (F0 m 576 ls [])) : W p l e room_1 s m #[Value.ref b] below meth c H locs 80 2486 (lw_Z below #[Value.ref b] s) (F0 m 352 ls []) := by
  obtain ⟨hx, hb, hr, hml, hown, hts0, hX, hbl, hlocks, hgv⟩ := C0
  have hts := lw_words hts0
  obtain ⟨⟨i19, i20, i18, i53, i12⟩, ⟨n, hn, n2, n5⟩, ⟨i0, i3⟩, ⟨b67, b22, b32, b43, b79, b68⟩, hk⟩ := id hI
  refine lv_aload_n hx hb d_law_352 rfl (lv_at hl 1 rfl) ?_
  refine lv_aload_n hx hb d_law_353 rfl (lv_at hl 0 rfl) ?_
  refine lv_iload_n hx hb d_law_354 rfl (lv_at hl 3 rfl) ?_
  refine lv_iconst (v := nI (1)) hx hb d_law_355 (by decide) ?_
  refine lv_iadd hx hb d_law_356 ?_
  refine g_topi (y := nI (i + 1)) (nI_add _ _) ?_
  refine va_sld hx hb hX hbl hbA hG.2.2 (vp_in_nI (show i + 1 < L by omega) (by omega)) d_law_357 ?_
  rw [nI_clamp (show i + 1 < 2 ^ 31 by omega)]
  refine lv_aload_n hx hb d_law_358 rfl (lv_at hl 0 rfl) ?_
  refine lv_iload_n hx hb d_law_359 rfl (lv_at hl 3 rfl) ?_
  refine lv_iconst (v := nI (2)) hx hb d_law_360 (by decide) ?_
  refine lv_iadd hx hb d_law_361 ?_
  refine g_topi (y := nI (i + 2)) (nI_add _ _) ?_
  refine va_sld hx hb hX hbl hbA hG.2.2 (vp_in_nI (show i + 2 < L by omega) (by omega)) d_law_362 ?_
  rw [nI_clamp (show i + 2 < 2 ^ 31 by omega)]
  refine g_calli (va_runV (As := [.int (xs (i + 1)), .int (xs (i + 2))]) (rest := []) ⟨hx, hb, hml, hown, hts⟩ (c_S_putSignature l V X (xs (i + 1)) (xs (i + 2))) (cwV 2 hts (g_goodV kw_543 kw_540 kw_541 kw_542 kw_1) rfl rfl rfl (by decide +kernel) ⟨Nat.le_of_ble_eq_true rfl, Nat.le_of_ble_eq_true rfl⟩) (g_preV (k0 := 0) (ci := 0) hE hG (by decide) rfl rfl) rfl rfl hl.1 rfl (lv_room (Nat.le_of_ble_eq_true rfl)) d_law_363 ⟨Nat.le_refl 80, Nat.le_refl 2486⟩) hG (fun r1 X1 H locs q1 hG => ?_)
  refine lv_aload_n hx hb d_law_366 rfl (lv_at hl 2 rfl) ?_
  refine lv_aload_n hx hb d_law_367 rfl (lv_at hl 0 rfl) ?_
  refine lv_iload_n hx hb d_law_368 rfl (lv_at hl 3 rfl) ?_
  refine lv_iconst (v := nI (1)) hx hb d_law_369 (by decide) ?_
  refine lv_iadd hx hb d_law_370 ?_
  refine g_topi (y := nI (i + 1)) (nI_add _ _) ?_
  refine va_sld hx hb hX hbl hbA hG.2.2 (vp_in_nI (show i + 1 < L by omega) (by omega)) d_law_371 ?_
  rw [nI_clamp (show i + 1 < 2 ^ 31 by omega)]
  refine lv_aload_n hx hb d_law_372 rfl (lv_at hl 0 rfl) ?_
  refine lv_iload_n hx hb d_law_373 rfl (lv_at hl 3 rfl) ?_
  refine lv_iconst (v := nI (2)) hx hb d_law_374 (by decide) ?_
  refine lv_iadd hx hb d_law_375 ?_
  refine g_topi (y := nI (i + 2)) (nI_add _ _) ?_
  refine va_sld hx hb hX hbl hbA hG.2.2 (vp_in_nI (show i + 2 < L by omega) (by omega)) d_law_376 ?_
  rw [nI_clamp (show i + 2 < 2 ^ 31 by omega)]
  refine g_calli (va_runV (As := [.int (xs (i + 1)), .int (xs (i + 2))]) (rest := [.int r1]) ⟨hx, hb, hml, hown, hts⟩ (c_M_putSignature l V X1 (xs (i + 1)) (xs (i + 2))) (cwV 2 hts (g_goodV kw_860 kw_857 kw_858 kw_859 kw_8) rfl rfl rfl (by decide +kernel) ⟨Nat.le_of_ble_eq_true rfl, Nat.le_of_ble_eq_true rfl⟩) (g_preV (k0 := 11) (ci := 7) hE hG (by decide) rfl rfl) rfl rfl hl.1 rfl (lv_room (Nat.le_of_ble_eq_true rfl)) d_law_377 ⟨Nat.le_refl 80, Nat.le_refl 2486⟩) hG (fun r2 X2 H locs q2 hG => ?_)
  have hLI : LI X2 := by
    by_cases z : ((0 ≤ xs (i + 1) ∧ xs (i + 1) < nI 62) ∧ (0 ≤ xs (i + 2) ∧ xs (i + 2) ≤ nI 255))
    · have w1 := q1.1 z
      have w2 := q2.1 z
      have f1 := w1.2.2
      have f2 := w2.2.2
      exact LI_mk hI (fun k hk => (f2.1 k ((show ∀ k ∈ [22, 24, 25, 26, 27, 28, 29, 53, 58, 59, 60, 62, 63, 64], k ∉ [68] by decide) k hk)).trans (f1.1 k ((show ∀ k ∈ [22, 24, 25, 26, 27, 28, 29, 53, 58, 59, 60, 62, 63, 64], k ∉ [20] by decide) k hk))) ((f2.2.1 12 (by decide)).trans (f1.2.1 12 (by decide))) (fun k hk => (f2.2.2 k ((show ∀ k ∈ [0, 4], k ∉ [] by decide) k hk)).trans (f1.2.2 k ((show ∀ k ∈ [0, 4], k ∉ [] by decide) k hk))) ((f2.2.2 3 (by decide)).trans ((f1.2.2 3 (by decide)).trans i3)) ⟨n, hn, (f2.2.2 2 (by decide)).trans ((f1.2.2 2 (by decide)).trans n2), (f2.2.2 5 (by decide)).trans ((f1.2.2 5 (by decide)).trans n5)⟩ (by rw [f2.1 19 (by decide), f1.1 19 (by decide), f2.1 67 (by decide), f1.1 67 (by decide)]; exact i19) (by rw [f2.1 20 (by decide), w1.2.1, w2.2.1, f1.1 68 (by decide), i20]) (by rw [f2.1 18 (by decide), f1.1 18 (by decide), f2.1 66 (by decide), f1.1 66 (by decide)]; exact i18) (fun j hj => by rw [f2.1 67 (by decide), f1.1 67 (by decide)]; exact b67 j hj) (fun j hj => by rw [f2.1 32 (by decide), f1.1 32 (by decide)]; exact b32 j hj) (fun j hj => by rw [f2.1 43 (by decide), f1.1 43 (by decide)]; exact b43 j hj) (fun j hj => by rw [f2.1 79 (by decide), f1.1 79 (by decide)]; exact b79 j hj) (by rw [w2.2.1, f1.1 68 (by decide)]; exact upd_isB b68 (isB_of z.2))
    · rw [← (q2.2 z).2, ← (q1.2 z).2]
      exact hI
  have er : r1 = r2 := (Classical.em ((0 ≤ xs (i + 1) ∧ xs (i + 1) < nI 62) ∧ (0 ≤ xs (i + 2) ∧ xs (i + 2) ≤ nI 255))).elim (fun z => (q1.1 z).1.trans (q2.1 z).1.symm) (fun z => (q1.2 z).1.trans (q2.2 z).1.symm)
  exact lv_icmp_eq (tgt := 576) hx hb d_law_380 (by decide) (fun _ => kk X2 H locs hLI hG) (fun c9 => absurd er c9)

set_option maxHeartbeats 4000000 in
set_option maxRecDepth 100000 in
theorem lw_case9 {p : Program} {l : Launch} {e : Env} {s : State} {m : MethodId} {below : List Frame} {meth : Method} {c : Code} {b L : Nat} {xs : Nat → Int32} (hL : L ≤ 2048) (C0 : lw_At p s m meth c b L xs) {V : Ev} (hE : g_en V s s.heap) (hbA : ¬ g_A V b) {X : Mm} {H : Heap} {locs : List Loc} {ls : Array Slot} {i : Nat} (hi : i + 4 ≤ L) (hI : LI X) (hG : g_st V X s.heap H locs) (hl : lv_has ls 4 [(0, .ref b), (1, .ref (g_ad V 0)), (2, .ref (g_ad V 11)), (3, .int (nI i))])
    (kk : ∀ (X1 : Mm) (H1 : Heap) (locs1 : List Loc), LI X1 → g_st V X1 s.heap H1 locs1 → W p l e room_1 s m #[Value.ref b] below meth c H1 locs1 80 2486 (lw_Z below #[Value.ref b] s) (F0 m 576 ls [])) : W p l e room_1 s m #[Value.ref b] below meth c H locs 80 2486 (lw_Z below #[Value.ref b] s) (F0 m 385 ls []) := by
  obtain ⟨hx, hb, hr, hml, hown, hts0, hX, hbl, hlocks, hgv⟩ := C0
  have hts := lw_words hts0
  obtain ⟨⟨i19, i20, i18, i53, i12⟩, ⟨n, hn, n2, n5⟩, ⟨i0, i3⟩, ⟨b67, b22, b32, b43, b79, b68⟩, hk⟩ := id hI
  refine lv_aload_n hx hb d_law_385 rfl (lv_at hl 1 rfl) ?_
  refine lv_aload_n hx hb d_law_386 rfl (lv_at hl 0 rfl) ?_
  refine lv_iload_n hx hb d_law_387 rfl (lv_at hl 3 rfl) ?_
  refine lv_iconst (v := nI (1)) hx hb d_law_388 (by decide) ?_
  refine lv_iadd hx hb d_law_389 ?_
  refine g_topi (y := nI (i + 1)) (nI_add _ _) ?_
  refine va_sld hx hb hX hbl hbA hG.2.2 (vp_in_nI (show i + 1 < L by omega) (by omega)) d_law_390 ?_
  rw [nI_clamp (show i + 1 < 2 ^ 31 by omega)]
  refine lv_aload_n hx hb d_law_391 rfl (lv_at hl 0 rfl) ?_
  refine lv_iload_n hx hb d_law_392 rfl (lv_at hl 3 rfl) ?_
  refine lv_iconst (v := nI (2)) hx hb d_law_393 (by decide) ?_
  refine lv_iadd hx hb d_law_394 ?_
  refine g_topi (y := nI (i + 2)) (nI_add _ _) ?_
  refine va_sld hx hb hX hbl hbA hG.2.2 (vp_in_nI (show i + 2 < L by omega) (by omega)) d_law_395 ?_
  rw [nI_clamp (show i + 2 < 2 ^ 31 by omega)]
  refine g_calli (va_runV (As := [.int (xs (i + 1)), .int (xs (i + 2))]) (rest := []) ⟨hx, hb, hml, hown, hts⟩ (c_S_secret l V X (xs (i + 1)) (xs (i + 2))) (cwV 2 hts (g_goodV kw_547 kw_544 kw_545 kw_546 kw_1) rfl rfl rfl (by decide +kernel) ⟨Nat.le_of_ble_eq_true rfl, Nat.le_of_ble_eq_true rfl⟩) (g_preV (k0 := 0) (ci := 0) hE hG (by decide) rfl rfl) rfl rfl hl.1 rfl (lv_room (Nat.le_of_ble_eq_true rfl)) d_law_396 ⟨Nat.le_refl 80, Nat.le_refl 2486⟩) hG (fun r1 X1 H locs q1 hG => ?_)
  refine lv_aload_n hx hb d_law_399 rfl (lv_at hl 2 rfl) ?_
  refine lv_aload_n hx hb d_law_400 rfl (lv_at hl 0 rfl) ?_
  refine lv_iload_n hx hb d_law_401 rfl (lv_at hl 3 rfl) ?_
  refine lv_iconst (v := nI (1)) hx hb d_law_402 (by decide) ?_
  refine lv_iadd hx hb d_law_403 ?_
  refine g_topi (y := nI (i + 1)) (nI_add _ _) ?_
  refine va_sld hx hb hX hbl hbA hG.2.2 (vp_in_nI (show i + 1 < L by omega) (by omega)) d_law_404 ?_
  rw [nI_clamp (show i + 1 < 2 ^ 31 by omega)]
  refine lv_aload_n hx hb d_law_405 rfl (lv_at hl 0 rfl) ?_
  refine lv_iload_n hx hb d_law_406 rfl (lv_at hl 3 rfl) ?_
  refine lv_iconst (v := nI (2)) hx hb d_law_407 (by decide) ?_
  refine lv_iadd hx hb d_law_408 ?_
  refine g_topi (y := nI (i + 2)) (nI_add _ _) ?_
  refine va_sld hx hb hX hbl hbA hG.2.2 (vp_in_nI (show i + 2 < L by omega) (by omega)) d_law_409 ?_
  rw [nI_clamp (show i + 2 < 2 ^ 31 by omega)]
  refine g_calli (va_runV (As := [.int (xs (i + 1)), .int (xs (i + 2))]) (rest := [.int r1]) ⟨hx, hb, hml, hown, hts⟩ (c_M_secret l V X1 (xs (i + 1)) (xs (i + 2))) (cwV 2 hts (g_goodV kw_864 kw_861 kw_862 kw_863 kw_8) rfl rfl rfl (by decide +kernel) ⟨Nat.le_of_ble_eq_true rfl, Nat.le_of_ble_eq_true rfl⟩) (g_preV (k0 := 11) (ci := 7) hE hG (by decide) rfl rfl) rfl rfl hl.1 rfl (lv_room (Nat.le_of_ble_eq_true rfl)) d_law_410 ⟨Nat.le_refl 80, Nat.le_refl 2486⟩) hG (fun r2 X2 H locs q2 hG => ?_)
  rw [← q1.2] at q2
  have hLI : LI X2 := by rw [← q2.2]; exact hI
  have e1 := q1.1
  rw [i0] at e1
  have e2 := q2.1
  have er : r1 = r2 := (Classical.em (¬ X.2.2 4 = nI 0 ∧ (0 ≤ xs (i + 1) ∧ xs (i + 1) < nI 6) ∧ (0 ≤ xs (i + 2) ∧ xs (i + 2) < nI 16))).elim (fun z => sec_eq (hk z.1) (e1.2 z) (e2.2 z)) (fun z => (e1.1 z).trans (e2.1 z).symm)
  exact lv_icmp_eq (tgt := 576) hx hb d_law_413 (by decide) (fun _ => kk X2 H locs hLI hG) (fun c9 => absurd er c9)

set_option maxHeartbeats 4000000 in
set_option maxRecDepth 100000 in
theorem lw_case10 {p : Program} {l : Launch} {e : Env} {s : State} {m : MethodId} {below : List Frame} {meth : Method} {c : Code} {b L : Nat} {xs : Nat → Int32} (hL : L ≤ 2048) (C0 : lw_At p s m meth c b L xs) {V : Ev} (hE : g_en V s s.heap) (hbA : ¬ g_A V b) {X : Mm} {H : Heap} {locs : List Loc} {ls : Array Slot} {i : Nat} (hi : i + 4 ≤ L) (hI : LI X) (hG : g_st V X s.heap H locs) (hl : lv_has ls 4 [(0, .ref b), (1, .ref (g_ad V 0)), (2, .ref (g_ad V 11)), (3, .int (nI i))])
    (kk : ∀ (X1 : Mm) (H1 : Heap) (locs1 : List Loc), LI X1 → g_st V X1 s.heap H1 locs1 → W p l e room_1 s m #[Value.ref b] below meth c H1 locs1 80 2486 (lw_Z below #[Value.ref b] s) (F0 m 576 ls [])) : W p l e room_1 s m #[Value.ref b] below meth c H locs 80 2486 (lw_Z below #[Value.ref b] s) (F0 m 418 ls []) := by
  obtain ⟨hx, hb, hr, hml, hown, hts0, hX, hbl, hlocks, hgv⟩ := C0
  have hts := lw_words hts0
  obtain ⟨⟨i19, i20, i18, i53, i12⟩, ⟨n, hn, n2, n5⟩, ⟨i0, i3⟩, ⟨b67, b22, b32, b43, b79, b68⟩, hk⟩ := id hI
  refine lv_aload_n hx hb d_law_418 rfl (lv_at hl 1 rfl) ?_
  refine lv_aload_n hx hb d_law_419 rfl (lv_at hl 0 rfl) ?_
  refine lv_iload_n hx hb d_law_420 rfl (lv_at hl 3 rfl) ?_
  refine lv_iconst (v := nI (1)) hx hb d_law_421 (by decide) ?_
  refine lv_iadd hx hb d_law_422 ?_
  refine g_topi (y := nI (i + 1)) (nI_add _ _) ?_
  refine va_sld hx hb hX hbl hbA hG.2.2 (vp_in_nI (show i + 1 < L by omega) (by omega)) d_law_423 ?_
  rw [nI_clamp (show i + 1 < 2 ^ 31 by omega)]
  refine g_calli (va_runV (As := [.int (xs (i + 1))]) (rest := []) ⟨hx, hb, hml, hown, hts⟩ (c_S_hash l V X (xs (i + 1)) n hn n2) (cwV 1 hts (g_goodV kw_556 kw_553 kw_554 kw_555 kw_1) rfl rfl rfl (by decide +kernel) ⟨Nat.le_of_ble_eq_true rfl, Nat.le_of_ble_eq_true rfl⟩) (g_preV (k0 := 0) (ci := 0) hE hG (by decide) rfl rfl) rfl rfl hl.1 rfl (lv_room (Nat.le_of_ble_eq_true rfl)) d_law_424 ⟨Nat.le_refl 80, Nat.le_refl 2486⟩) hG (fun r1 X1 H locs q1 hG => ?_)
  refine lv_aload_n hx hb d_law_427 rfl (lv_at hl 2 rfl) ?_
  refine lv_aload_n hx hb d_law_428 rfl (lv_at hl 0 rfl) ?_
  refine lv_iload_n hx hb d_law_429 rfl (lv_at hl 3 rfl) ?_
  refine lv_iconst (v := nI (1)) hx hb d_law_430 (by decide) ?_
  refine lv_iadd hx hb d_law_431 ?_
  refine g_topi (y := nI (i + 1)) (nI_add _ _) ?_
  refine va_sld hx hb hX hbl hbA hG.2.2 (vp_in_nI (show i + 1 < L by omega) (by omega)) d_law_432 ?_
  rw [nI_clamp (show i + 1 < 2 ^ 31 by omega)]
  have f1 := q1.2
  refine g_calli (va_runV (As := [.int (xs (i + 1))]) (rest := [.int r1]) ⟨hx, hb, hml, hown, hts⟩ (c_M_hash l V X1 (xs (i + 1)) n hn ((f1.2.2 5 (by decide)).trans n5) ((f1.2.2 3 (by decide)).trans i3) ((f1.1 53 (by decide)).trans i53) ((f1.2.1 12 (by decide)).trans i12)) (cwV 1 hts (g_goodV kw_868 kw_865 kw_866 kw_867 kw_8) rfl rfl rfl (by decide +kernel) ⟨Nat.le_of_ble_eq_true rfl, Nat.le_of_ble_eq_true rfl⟩) (g_preV (k0 := 11) (ci := 7) hE hG (by decide) rfl rfl) rfl rfl hl.1 rfl (lv_room (Nat.le_of_ble_eq_true rfl)) d_law_433 ⟨Nat.le_refl 80, Nat.le_refl 2486⟩) hG (fun r2 X2 H locs q2 hG => ?_)
  have f2 := q2.2.2
  have hLI : LI X2 := LI_keep hI (fun k hk => (f2.1 k ((show ∀ k ∈ [18, 19, 20, 22, 24, 25, 26, 27, 28, 29, 32, 53, 58, 59, 60, 62, 63, 64, 66, 67, 68], k ∉ [54, 55] by decide) k hk)).trans (f1.1 k ((show ∀ k ∈ [18, 19, 20, 22, 24, 25, 26, 27, 28, 29, 32, 53, 58, 59, 60, 62, 63, 64, 66, 67, 68], k ∉ [17] by decide) k hk))) ((f2.2.1 12 (by decide)).trans (f1.2.1 12 (by decide))) (fun k hk => (f2.2.2 k ((show ∀ k ∈ [0, 2, 4, 5], k ∉ [3] by decide) k hk)).trans (f1.2.2 k ((show ∀ k ∈ [0, 2, 4, 5], k ∉ [1] by decide) k hk))) q2.2.1 (fun j hj => by rw [f2.1 43 (by decide), f1.1 43 (by decide)]; exact b43 j hj) (fun j hj => by rw [f2.1 79 (by decide), f1.1 79 (by decide)]; exact b79 j hj)
  have er : r1 = r2 := by rw [q1.1, q2.1, f1.1 66 (by decide), i18]
  exact lv_icmp_eq (tgt := 576) hx hb d_law_436 (by decide) (fun _ => kk X2 H locs hLI hG) (fun c9 => absurd er c9)

set_option maxHeartbeats 4000000 in
set_option maxRecDepth 100000 in
theorem lw_case11 {p : Program} {l : Launch} {e : Env} {s : State} {m : MethodId} {below : List Frame} {meth : Method} {c : Code} {b L : Nat} {xs : Nat → Int32} (hL : L ≤ 2048) (C0 : lw_At p s m meth c b L xs) {V : Ev} (hE : g_en V s s.heap) (hbA : ¬ g_A V b) {X : Mm} {H : Heap} {locs : List Loc} {ls : Array Slot} {i : Nat} (hi : i + 4 ≤ L) (hI : LI X) (hG : g_st V X s.heap H locs) (hl : lv_has ls 4 [(0, .ref b), (1, .ref (g_ad V 0)), (2, .ref (g_ad V 11)), (3, .int (nI i))])
    (kk : ∀ (X1 : Mm) (H1 : Heap) (locs1 : List Loc), LI X1 → g_st V X1 s.heap H1 locs1 → W p l e room_1 s m #[Value.ref b] below meth c H1 locs1 80 2486 (lw_Z below #[Value.ref b] s) (F0 m 576 ls [])) : W p l e room_1 s m #[Value.ref b] below meth c H locs 80 2486 (lw_Z below #[Value.ref b] s) (F0 m 441 ls []) := by
  obtain ⟨hx, hb, hr, hml, hown, hts0, hX, hbl, hlocks, hgv⟩ := C0
  have hts := lw_words hts0
  obtain ⟨⟨i19, i20, i18, i53, i12⟩, ⟨n, hn, n2, n5⟩, ⟨i0, i3⟩, ⟨b67, b22, b32, b43, b79, b68⟩, hk⟩ := id hI
  refine lv_aload_n hx hb d_law_441 rfl (lv_at hl 1 rfl) ?_
  refine lv_aload_n hx hb d_law_442 rfl (lv_at hl 0 rfl) ?_
  refine lv_iload_n hx hb d_law_443 rfl (lv_at hl 3 rfl) ?_
  refine lv_iconst (v := nI (1)) hx hb d_law_444 (by decide) ?_
  refine lv_iadd hx hb d_law_445 ?_
  refine g_topi (y := nI (i + 1)) (nI_add _ _) ?_
  refine va_sld hx hb hX hbl hbA hG.2.2 (vp_in_nI (show i + 1 < L by omega) (by omega)) d_law_446 ?_
  rw [nI_clamp (show i + 1 < 2 ^ 31 by omega)]
  refine g_calli (va_runV (As := [.int (xs (i + 1))]) (rest := []) ⟨hx, hb, hml, hown, hts⟩ (c_S_ball l V X (xs (i + 1))) (cwV 1 hts (g_goodV kw_563 kw_560 kw_561 kw_562 kw_1) rfl rfl rfl (by decide +kernel) ⟨Nat.le_of_ble_eq_true rfl, Nat.le_of_ble_eq_true rfl⟩) (g_preV (k0 := 0) (ci := 0) hE hG (by decide) rfl rfl) rfl rfl hl.1 rfl (lv_room (Nat.le_of_ble_eq_true rfl)) d_law_447 ⟨Nat.le_refl 80, Nat.le_refl 2486⟩) hG (fun r1 X1 H locs q1 hG => ?_)
  refine lv_aload_n hx hb d_law_450 rfl (lv_at hl 2 rfl) ?_
  refine lv_aload_n hx hb d_law_451 rfl (lv_at hl 0 rfl) ?_
  refine lv_iload_n hx hb d_law_452 rfl (lv_at hl 3 rfl) ?_
  refine lv_iconst (v := nI (1)) hx hb d_law_453 (by decide) ?_
  refine lv_iadd hx hb d_law_454 ?_
  refine g_topi (y := nI (i + 1)) (nI_add _ _) ?_
  refine va_sld hx hb hX hbl hbA hG.2.2 (vp_in_nI (show i + 1 < L by omega) (by omega)) d_law_455 ?_
  rw [nI_clamp (show i + 1 < 2 ^ 31 by omega)]
  have f1 := q1.2
  refine g_calli (va_runV (As := [.int (xs (i + 1))]) (rest := [.int r1]) ⟨hx, hb, hml, hown, hts⟩ (c_M_ball l V X1 (xs (i + 1)) ((f1.2.2 3 (by decide)).trans i3) ((f1.1 53 (by decide)).trans i53) ((f1.2.1 12 (by decide)).trans i12)) (cwV 1 hts (g_goodV kw_872 kw_869 kw_870 kw_871 kw_8) rfl rfl rfl (by decide +kernel) ⟨Nat.le_of_ble_eq_true rfl, Nat.le_of_ble_eq_true rfl⟩) (g_preV (k0 := 11) (ci := 7) hE hG (by decide) rfl rfl) rfl rfl hl.1 rfl (lv_room (Nat.le_of_ble_eq_true rfl)) d_law_456 ⟨Nat.le_refl 80, Nat.le_refl 2486⟩) hG (fun r2 X2 H locs q2 hG => ?_)
  have f2 := q2.2.2
  have hLI : LI X2 := LI_keep hI (fun k hk => (f2.1 k ((show ∀ k ∈ [18, 19, 20, 22, 24, 25, 26, 27, 28, 29, 32, 53, 58, 59, 60, 62, 63, 64, 66, 67, 68], k ∉ [54, 55, 77] by decide) k hk)).trans (f1.1 k ((show ∀ k ∈ [18, 19, 20, 22, 24, 25, 26, 27, 28, 29, 32, 53, 58, 59, 60, 62, 63, 64, 66, 67, 68], k ∉ [17, 21] by decide) k hk))) ((f2.2.1 12 (by decide)).trans (f1.2.1 12 (by decide))) (fun k hk => (f2.2.2 k ((show ∀ k ∈ [0, 2, 4, 5], k ∉ [3] by decide) k hk)).trans (f1.2.2 k ((show ∀ k ∈ [0, 2, 4, 5], k ∉ [1] by decide) k hk))) q2.2.1 (fun j hj => by rw [f2.1 43 (by decide), f1.1 43 (by decide)]; exact b43 j hj) (fun j hj => by rw [f2.1 79 (by decide), f1.1 79 (by decide)]; exact b79 j hj)
  have er : r1 = r2 := by rw [q1.1, q2.1, f1.1 68 (by decide), i20]
  exact lv_icmp_eq (tgt := 576) hx hb d_law_459 (by decide) (fun _ => kk X2 H locs hLI hG) (fun c9 => absurd er c9)
