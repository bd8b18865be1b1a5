theorem sgn_eq {P : Nat → Prop} {G : Nat → Nat → Int32} {tr r1 r2 : Int32} {Y0 Y0' Y1 Y2 : Nat → Int32} {B1 F1 B2 F2 : Prop} (h1 : ∃ T, T ≤ 30 ∧ tr = nI T ∧ ((∃ k, k < T ∧ P (k + 1) ∧ (∀ j, j < k → ¬ P (j + 1)) ∧ r1 = nI (k + 1) ∧ Y1 = G (k + 1)) ∨ ((∀ j, j < T → ¬ P (j + 1)) ∧ r1 = -2 ∧ Y1 = Y0)) ∧ B1 ∧ F1) (h2 : ∃ T, T ≤ 30 ∧ tr = nI T ∧ ((∃ k, k < T ∧ P (k + 1) ∧ (∀ j, j < k → ¬ P (j + 1)) ∧ r2 = nI (k + 1) ∧ Y2 = G (k + 1)) ∨ ((∀ j, j < T → ¬ P (j + 1)) ∧ r2 = -2 ∧ Y2 = Y0')) ∧ B2 ∧ F2) (h0 : Y0 = Y0') : r1 = r2 ∧ Y1 = Y2 ∧ (Y2 = Y0' ∨ ∃ k, Y2 = G (k + 1)) ∧ (B1 ∧ F1) ∧ (B2 ∧ F2) := by
  obtain ⟨T, hT, eT, a, b1⟩ := h1
  obtain ⟨T', hT', eT', a', b2⟩ := h2
  have e : T' = T := (nI_eq (by omega) (by omega)).mp (eT'.symm.trans eT)
  subst e
  rcases a with ⟨k, hk, p1, p2, p3, p4⟩ | ⟨p1, p2, p3⟩
  · rcases a' with ⟨k', hk', q1, q2, q3, q4⟩ | ⟨q1, q2, q3⟩
    · have e : k = k' := by
        rcases Nat.lt_trichotomy k k' with h | h | h
        · exact absurd p1 (q2 k h)
        · exact h
        · exact absurd q1 (p2 k' h)
      subst e
      exact ⟨p3.trans q3.symm, p4.trans q4.symm, Or.inr ⟨k, q4⟩, b1, b2⟩
    · exact absurd p1 (q1 k hk)
  · rcases a' with ⟨k', hk', q1, q2, q3, q4⟩ | ⟨q1, q2, q3⟩
    · exact absurd q1 (p1 k' hk')
    · exact ⟨p2.trans q2.symm, p3.trans (h0.trans q3.symm), Or.inl q3, b1, b2⟩
set_option maxHeartbeats 4000000 in
set_option maxRecDepth 100000 in
theorem lw_case0 {p : Program} {l : Launch} {e : Env} {s : State} {m : MethodId} {below : List Frame} {meth : Method} {c : Code} {b L : Nat} {xs : Nat → Int32} (hL : L ≤ 2048) (C0 : lw_At p s m meth c b L xs) {V : Ev} (hE : g_en V s s.heap) (hbA : ¬ g_A V b) {X : Mm} {H : Heap} {locs : List Loc} {ls : Array Slot} {i : Nat} (hi : i + 4 ≤ L) (hI : LI X) (hG : g_st V X s.heap H locs) (hl : lv_has ls 4 [(0, .ref b), (1, .ref (g_ad V 0)), (2, .ref (g_ad V 11)), (3, .int (nI i))])
    (kk : ∀ (X1 : Mm) (H1 : Heap) (locs1 : List Loc), LI X1 → g_st V X1 s.heap H1 locs1 → W p l e room_1 s m #[Value.ref b] below meth c H1 locs1 80 2486 (lw_Z below #[Value.ref b] s) (F0 m 576 ls [])) : W p l e room_1 s m #[Value.ref b] below meth c H locs 80 2486 (lw_Z below #[Value.ref b] s) (F0 m 112 ls []) := by
  obtain ⟨hx, hb, hr, hml, hown, hts0, hX, hbl, hlocks, hgv⟩ := C0
  have hts := lw_words hts0
  obtain ⟨⟨i19, i20, i18, i53, i12⟩, ⟨n, hn, n2, n5⟩, ⟨i0, i3⟩, ⟨b67, b22, b32, b43, b79, b68⟩, hk⟩ := id hI
  refine lv_aload_n hx hb d_law_112 rfl (lv_at hl 1 rfl) ?_
  refine lv_aload_n hx hb d_law_113 rfl (lv_at hl 0 rfl) ?_
  refine lv_iload_n hx hb d_law_114 rfl (lv_at hl 3 rfl) ?_
  refine lv_iconst (v := nI (1)) hx hb d_law_115 (by decide) ?_
  refine lv_iadd hx hb d_law_116 ?_
  refine g_topi (y := nI (i + 1)) (nI_add _ _) ?_
  refine va_sld hx hb hX hbl hbA hG.2.2 (vp_in_nI (show i + 1 < L by omega) (by omega)) d_law_117 ?_
  rw [nI_clamp (show i + 1 < 2 ^ 31 by omega)]
  refine lv_i2l (v := (xs (i + 1)).toInt64) hx hb d_law_118 rfl ?_
  refine lv_bipush (v := nI (32)) hx hb d_law_119 (by decide) ?_
  refine lv_lshl hx hb d_law_121 rfl ?_
  refine lv_aload_n hx hb d_law_122 rfl (lv_at hl 0 rfl) ?_
  refine lv_iload_n hx hb d_law_123 rfl (lv_at hl 3 rfl) ?_
  refine lv_iconst (v := nI (2)) hx hb d_law_124 (by decide) ?_
  refine lv_iadd hx hb d_law_125 ?_
  refine g_topi (y := nI (i + 2)) (nI_add _ _) ?_
  refine va_sld hx hb hX hbl hbA hG.2.2 (vp_in_nI (show i + 2 < L by omega) (by omega)) d_law_126 ?_
  rw [nI_clamp (show i + 2 < 2 ^ 31 by omega)]
  refine lv_i2l (v := (xs (i + 2)).toInt64) hx hb d_law_127 rfl ?_
  refine lv_ldc2 (v := 4294967295) hx hb hown (hts _ (List.mem_cons_of_mem _ kw_889)) d_law_128 ?_
  refine lv_land hx hb d_law_131 ?_
  refine lv_lor hx hb d_law_132 ?_
  refine g_topl (y := lwW (xs (i + 1)) (xs (i + 2))) rfl ?_
  refine g_callv (va_runV (As := [.long (lwW (xs (i + 1)) (xs (i + 2)))]) (rest := []) ⟨hx, hb, hml, hown, hts⟩ (c_S_key l V X (lwW (xs (i + 1)) (xs (i + 2))) b22) (cwV 1 hts (g_goodV kw_222 kw_219 kw_220 kw_221 kw_1) rfl rfl rfl (by decide +kernel) ⟨Nat.le_of_ble_eq_true rfl, Nat.le_of_ble_eq_true rfl⟩) (g_preV (k0 := 0) (ci := 0) hE hG (by decide) rfl rfl) rfl rfl hl.1 rfl (lv_room (Nat.le_of_ble_eq_true rfl)) d_law_133 ⟨Nat.le_refl 80, Nat.le_refl 2486⟩) hG (fun X1 H locs q1 hG => ?_)
  refine lv_aload_n hx hb d_law_136 rfl (lv_at hl 2 rfl) ?_
  refine lv_aload_n hx hb d_law_137 rfl (lv_at hl 0 rfl) ?_
  refine lv_iload_n hx hb d_law_138 rfl (lv_at hl 3 rfl) ?_
  refine lv_iconst (v := nI (1)) hx hb d_law_139 (by decide) ?_
  refine lv_iadd hx hb d_law_140 ?_
  refine g_topi (y := nI (i + 1)) (nI_add _ _) ?_
  refine va_sld hx hb hX hbl hbA hG.2.2 (vp_in_nI (show i + 1 < L by omega) (by omega)) d_law_141 ?_
  rw [nI_clamp (show i + 1 < 2 ^ 31 by omega)]
  refine lv_i2l (v := (xs (i + 1)).toInt64) hx hb d_law_142 rfl ?_
  refine lv_bipush (v := nI (32)) hx hb d_law_143 (by decide) ?_
  refine lv_lshl hx hb d_law_145 rfl ?_
  refine lv_aload_n hx hb d_law_146 rfl (lv_at hl 0 rfl) ?_
  refine lv_iload_n hx hb d_law_147 rfl (lv_at hl 3 rfl) ?_
  refine lv_iconst (v := nI (2)) hx hb d_law_148 (by decide) ?_
  refine lv_iadd hx hb d_law_149 ?_
  refine g_topi (y := nI (i + 2)) (nI_add _ _) ?_
  refine va_sld hx hb hX hbl hbA hG.2.2 (vp_in_nI (show i + 2 < L by omega) (by omega)) d_law_150 ?_
  rw [nI_clamp (show i + 2 < 2 ^ 31 by omega)]
  refine lv_i2l (v := (xs (i + 2)).toInt64) hx hb d_law_151 rfl ?_
  refine lv_ldc2 (v := 4294967295) hx hb hown (hts _ (List.mem_cons_of_mem _ kw_889)) d_law_152 ?_
  refine lv_land hx hb d_law_155 ?_
  refine lv_lor hx hb d_law_156 ?_
  refine g_topl (y := lwW (xs (i + 1)) (xs (i + 2))) rfl ?_
  obtain ⟨x19, x22, x24, x25, x26, x27, x28, x29, x0, f1⟩ := q1
  refine g_callv (va_runV (As := [.long (lwW (xs (i + 1)) (xs (i + 2)))]) (rest := []) ⟨hx, hb, hml, hown, hts⟩ (c_M_key l V X1 (lwW (xs (i + 1)) (xs (i + 2))) ((f1.2.2 3 (by decide)).trans i3) ((f1.1 53 (by decide)).trans i53) ((f1.2.1 12 (by decide)).trans i12) (fun j hj => by rw [f1.1 67 (by decide)]; exact b67 j hj)) (cwV 1 hts (g_goodV kw_701 kw_698 kw_699 kw_700 kw_8) rfl rfl rfl (by decide +kernel) ⟨Nat.le_of_ble_eq_true rfl, Nat.le_of_ble_eq_true rfl⟩) (g_preV (k0 := 11) (ci := 7) hE hG (by decide) rfl rfl) rfl rfl hl.1 rfl (lv_room (Nat.le_of_ble_eq_true rfl)) d_law_157 ⟨Nat.le_refl 80, Nat.le_refl 2486⟩) hG (fun X2 H locs q2 hG => ?_)
  obtain ⟨y67, y58, y59, y60, y62, y63, y64, z4, z3, f2⟩ := q2
  have hLI : LI X2 := by
    have k19 : X2.1 19 = kP (lwW (xs (i + 1)) (xs (i + 2))) := (f2.1 19 (by decide)).trans x19
    refine ⟨⟨k19.trans y67.symm, by rw [f2.1 20 (by decide), f1.1 20 (by decide), f2.1 68 (by decide), f1.1 68 (by decide)]; exact i20, by rw [f2.1 18 (by decide), f1.1 18 (by decide), f2.1 66 (by decide), f1.1 66 (by decide)]; exact i18, by rw [f2.1 53 (by decide), f1.1 53 (by decide)]; exact i53, by rw [f2.2.1 12 (by decide), f1.2.1 12 (by decide)]; exact i12⟩, ⟨n, hn, by rw [f2.2.2 2 (by decide), f1.2.2 2 (by decide)]; exact n2, by rw [f2.2.2 5 (by decide), f1.2.2 5 (by decide)]; exact n5⟩, ⟨by rw [f2.2.2 0 (by decide), x0, z4], z3⟩, ⟨fun j hj => by rw [y67]; exact kP_isB _ hj, fun j hj => by rw [f2.1 22 (by decide), x22]; exact kP_isB _ hj, fun j hj => by rw [f2.1 32 (by decide), f1.1 32 (by decide)]; exact b32 j hj, fun j hj => by rw [f2.1 43 (by decide), f1.1 43 (by decide)]; exact b43 j hj, fun j hj => by rw [f2.1 79 (by decide), f1.1 79 (by decide)]; exact b79 j hj, fun j hj => by rw [f2.1 68 (by decide), f1.1 68 (by decide)]; exact b68 j hj⟩, fun _ => ?_⟩
    have k27 : X2.1 27 = kS (lwW (xs (i + 1)) (xs (i + 2))) := (f2.1 27 (by decide)).trans x27
    have k28 : X2.1 28 = kE (lwW (xs (i + 1)) (xs (i + 2))) := (f2.1 28 (by decide)).trans x28
    have k29 : X2.1 29 = kT (lwW (xs (i + 1)) (xs (i + 2))) := (f2.1 29 (by decide)).trans x29
    refine ⟨by rw [f2.1 25 (by decide), x25, y59], by rw [f2.1 24 (by decide), x24, y58], by rw [f2.1 26 (by decide), x26, y60], by rw [y60]; exact matP_in _, by rw [k27]; exact smlP_in _ _, by rw [k28]; exact smlP_in _ _, by rw [k29]; exact t0P_in _ _ _, by rw [y62, k27], by rw [y63, k28], by rw [y64, k29]⟩
  exact lv_goto (tgt := 576) hx hb d_law_160 (by decide) (kk X2 H locs hLI hG)

set_option maxHeartbeats 4000000 in
set_option maxRecDepth 100000 in
theorem lw_case3 {p : Program} {l : Launch} {e : Env} {s : State} {m : MethodId} {below : List Frame} {meth : Method} {c : Code} {b L : Nat} {xs : Nat → Int32} (hL : L ≤ 2048) (C0 : lw_At p s m meth c b L xs) {V : Ev} (hE : g_en V s s.heap) (hbA : ¬ g_A V b) {X : Mm} {H : Heap} {locs : List Loc} {ls : Array Slot} {i : Nat} (hi : i + 4 ≤ L) (hI : LI X) (hG : g_st V X s.heap H locs) (hl : lv_has ls 4 [(0, .ref b), (1, .ref (g_ad V 0)), (2, .ref (g_ad V 11)), (3, .int (nI i))])
    (kk : ∀ (X1 : Mm) (H1 : Heap) (locs1 : List Loc), LI X1 → g_st V X1 s.heap H1 locs1 → W p l e room_1 s m #[Value.ref b] below meth c H1 locs1 80 2486 (lw_Z below #[Value.ref b] s) (F0 m 576 ls [])) : W p l e room_1 s m #[Value.ref b] below meth c H locs 80 2486 (lw_Z below #[Value.ref b] s) (F0 m 197 ls []) := by
  obtain ⟨hx, hb, hr, hml, hown, hts0, hX, hbl, hlocks, hgv⟩ := C0
  have hts := lw_words hts0
  obtain ⟨⟨i19, i20, i18, i53, i12⟩, ⟨n, hn, n2, n5⟩, ⟨i0, i3⟩, ⟨b67, b22, b32, b43, b79, b68⟩, hk⟩ := id hI
  refine lv_aload_n hx hb d_law_197 rfl (lv_at hl 1 rfl) ?_
  refine lv_aload_n hx hb d_law_198 rfl (lv_at hl 0 rfl) ?_
  refine lv_iload_n hx hb d_law_199 rfl (lv_at hl 3 rfl) ?_
  refine lv_iconst (v := nI (1)) hx hb d_law_200 (by decide) ?_
  refine lv_iadd hx hb d_law_201 ?_
  refine g_topi (y := nI (i + 1)) (nI_add _ _) ?_
  refine va_sld hx hb hX hbl hbA hG.2.2 (vp_in_nI (show i + 1 < L by omega) (by omega)) d_law_202 ?_
  rw [nI_clamp (show i + 1 < 2 ^ 31 by omega)]
  refine lv_i2l (v := (xs (i + 1)).toInt64) hx hb d_law_203 rfl ?_
  refine lv_bipush (v := nI (32)) hx hb d_law_204 (by decide) ?_
  refine lv_lshl hx hb d_law_206 rfl ?_
  refine lv_aload_n hx hb d_law_207 rfl (lv_at hl 0 rfl) ?_
  refine lv_iload_n hx hb d_law_208 rfl (lv_at hl 3 rfl) ?_
  refine lv_iconst (v := nI (2)) hx hb d_law_209 (by decide) ?_
  refine lv_iadd hx hb d_law_210 ?_
  refine g_topi (y := nI (i + 2)) (nI_add _ _) ?_
  refine va_sld hx hb hX hbl hbA hG.2.2 (vp_in_nI (show i + 2 < L by omega) (by omega)) d_law_211 ?_
  rw [nI_clamp (show i + 2 < 2 ^ 31 by omega)]
  refine lv_i2l (v := (xs (i + 2)).toInt64) hx hb d_law_212 rfl ?_
  refine lv_ldc2 (v := 4294967295) hx hb hown (hts _ (List.mem_cons_of_mem _ kw_889)) d_law_213 ?_
  refine lv_land hx hb d_law_216 ?_
  refine lv_lor hx hb d_law_217 ?_
  refine g_topl (y := lwW (xs (i + 1)) (xs (i + 2))) rfl ?_
  refine lv_aload_n hx hb d_law_218 rfl (lv_at hl 0 rfl) ?_
  refine lv_iload_n hx hb d_law_219 rfl (lv_at hl 3 rfl) ?_
  refine lv_iconst (v := nI (3)) hx hb d_law_220 (by decide) ?_
  refine lv_iadd hx hb d_law_221 ?_
  refine g_topi (y := nI (i + 3)) (nI_add _ _) ?_
  refine va_sld hx hb hX hbl hbA hG.2.2 (vp_in_nI (show i + 3 < L by omega) (by omega)) d_law_222 ?_
  rw [nI_clamp (show i + 3 < 2 ^ 31 by omega)]
  refine g_calli (va_runV (As := [.long (lwW (xs (i + 1)) (xs (i + 2))), .int (xs (i + 3))]) (rest := []) ⟨hx, hb, hml, hown, hts⟩ (c_S_sign l V X (lwW (xs (i + 1)) (xs (i + 2))) (xs (i + 3)) n hn n2 b32 (fun j hj => by rw [i20]; exact b68 j hj)) (cwV 2 hts (g_goodV kw_354 kw_351 kw_352 kw_353 kw_1) rfl rfl rfl (by decide +kernel) ⟨Nat.le_of_ble_eq_true rfl, Nat.le_of_ble_eq_true rfl⟩) (g_preV (k0 := 0) (ci := 0) hE hG (by decide) rfl rfl) rfl rfl hl.1 rfl (lv_room (Nat.le_of_ble_eq_true rfl)) d_law_223 ⟨Nat.le_refl 80, Nat.le_refl 2486⟩) hG (fun r1 X1 H locs q1 hG => ?_)
  refine lv_aload_n hx hb d_law_226 rfl (lv_at hl 2 rfl) ?_
  refine lv_aload_n hx hb d_law_227 rfl (lv_at hl 0 rfl) ?_
  refine lv_iload_n hx hb d_law_228 rfl (lv_at hl 3 rfl) ?_
  refine lv_iconst (v := nI (1)) hx hb d_law_229 (by decide) ?_
  refine lv_iadd hx hb d_law_230 ?_
  refine g_topi (y := nI (i + 1)) (nI_add _ _) ?_
  refine va_sld hx hb hX hbl hbA hG.2.2 (vp_in_nI (show i + 1 < L by omega) (by omega)) d_law_231 ?_
  rw [nI_clamp (show i + 1 < 2 ^ 31 by omega)]
  refine lv_i2l (v := (xs (i + 1)).toInt64) hx hb d_law_232 rfl ?_
  refine lv_bipush (v := nI (32)) hx hb d_law_233 (by decide) ?_
  refine lv_lshl hx hb d_law_235 rfl ?_
  refine lv_aload_n hx hb d_law_236 rfl (lv_at hl 0 rfl) ?_
  refine lv_iload_n hx hb d_law_237 rfl (lv_at hl 3 rfl) ?_
  refine lv_iconst (v := nI (2)) hx hb d_law_238 (by decide) ?_
  refine lv_iadd hx hb d_law_239 ?_
  refine g_topi (y := nI (i + 2)) (nI_add _ _) ?_
  refine va_sld hx hb hX hbl hbA hG.2.2 (vp_in_nI (show i + 2 < L by omega) (by omega)) d_law_240 ?_
  rw [nI_clamp (show i + 2 < 2 ^ 31 by omega)]
  refine lv_i2l (v := (xs (i + 2)).toInt64) hx hb d_law_241 rfl ?_
  refine lv_ldc2 (v := 4294967295) hx hb hown (hts _ (List.mem_cons_of_mem _ kw_889)) d_law_242 ?_
  refine lv_land hx hb d_law_245 ?_
  refine lv_lor hx hb d_law_246 ?_
  refine g_topl (y := lwW (xs (i + 1)) (xs (i + 2))) rfl ?_
  refine lv_aload_n hx hb d_law_247 rfl (lv_at hl 0 rfl) ?_
  refine lv_iload_n hx hb d_law_248 rfl (lv_at hl 3 rfl) ?_
  refine lv_iconst (v := nI (3)) hx hb d_law_249 (by decide) ?_
  refine lv_iadd hx hb d_law_250 ?_
  refine g_topi (y := nI (i + 3)) (nI_add _ _) ?_
  refine va_sld hx hb hX hbl hbA hG.2.2 (vp_in_nI (show i + 3 < L by omega) (by omega)) d_law_251 ?_
  rw [nI_clamp (show i + 3 < 2 ^ 31 by omega)]
  rw [i0] at q1
  have f1 : fr X X1 [17, 20, 31, 32, 33, 34, 35, 36, 37, 38, 39, 40, 41] [2, 3, 4] [1] := (Classical.em (¬ X.2.2 4 = nI 0 ∧ nI 1 ≤ xs (i + 3) ∧ xs (i + 3) ≤ nI 30)).elim (fun z => (q1.2 z).choose_spec.2.2.2.2) (fun z => by rw [← (q1.1 z).2]; exact fr_rf X _ _ _)
  refine g_calli (va_runV (As := [.long (lwW (xs (i + 1)) (xs (i + 2))), .int (xs (i + 3))]) (rest := [.int r1]) ⟨hx, hb, hml, hown, hts⟩ (c_M_sign l V X1 (lwW (xs (i + 1)) (xs (i + 2))) (xs (i + 3)) n hn ((f1.2.2 5 (by decide)).trans n5) ((f1.2.2 3 (by decide)).trans i3) ((f1.1 53 (by decide)).trans i53) ((f1.2.1 12 (by decide)).trans i12) (fun j hj => by rw [f1.1 79 (by decide)]; exact b79 j hj) (X.1 27) (X.1 28) (X.1 29) (fun h4 => by
    rw [f1.2.2 4 (by decide)] at h4
    rw [f1.1 60 (by decide), f1.1 62 (by decide), f1.1 63 (by decide), f1.1 64 (by decide)]
    exact (hk h4).2.2.2)) (cwV 2 hts (g_goodV kw_783 kw_780 kw_781 kw_782 kw_8) rfl rfl rfl (by decide +kernel) ⟨Nat.le_of_ble_eq_true rfl, Nat.le_of_ble_eq_true rfl⟩) (g_preV (k0 := 11) (ci := 7) hE hG (by decide) rfl rfl) rfl rfl hl.1 rfl (lv_room (Nat.le_of_ble_eq_true rfl)) d_law_252 ⟨Nat.le_refl 80, Nat.le_refl 2486⟩) hG (fun r2 X2 H locs q2 hG => ?_)
  rw [f1.2.2 4 (by decide), f1.1 59 (by decide), f1.1 66 (by decide), f1.1 60 (by decide), f1.1 58 (by decide), f1.1 68 (by decide)] at q2
  have both : r1 = r2 ∧ LI X2 := by
    by_cases z : (¬ X.2.2 4 = nI 0 ∧ nI 1 ≤ xs (i + 3) ∧ xs (i + 3) ≤ nI 30)
    · have kq := hk z.1
      have w1 := q1.2 z
      have w2 := q2.2 z
      rw [kq.1, kq.2.1, kq.2.2.1, i18] at w1
      obtain ⟨e1, e2, e3, e4, e5⟩ := sgn_eq (P := fun k => tOK (sMU (X.1 59) (X.1 66) n) (X.1 60) (sNU (X.1 58) (lwW (xs (i + 1)) (xs (i + 2))) (sMU (X.1 59) (X.1 66) n)) (X.1 27) (X.1 28) (X.1 29) k) (G := fun k => tSG (sMU (X.1 59) (X.1 66) n) (X.1 60) (sNU (X.1 58) (lwW (xs (i + 1)) (xs (i + 2))) (sMU (X.1 59) (X.1 66) n)) (X.1 27) (X.1 28) (X.1 29) k) w1 w2 i20
      have f2 := e5.2.2
      refine ⟨e1, LI_mk hI (fun k hk => (f2.1 k ((show ∀ k ∈ [22, 24, 25, 26, 27, 28, 29, 53, 58, 59, 60, 62, 63, 64], k ∉ [54, 55, 68, 69, 70, 71, 72, 73, 74, 75, 76, 77, 78, 79] by decide) k hk)).trans (f1.1 k ((show ∀ k ∈ [22, 24, 25, 26, 27, 28, 29, 53, 58, 59, 60, 62, 63, 64], k ∉ [17, 20, 31, 32, 33, 34, 35, 36, 37, 38, 39, 40, 41] by decide) k hk))) ((f2.2.1 12 (by decide)).trans (f1.2.1 12 (by decide))) (fun k hk => (f2.2.2 k ((show ∀ k ∈ [0, 4], k ∉ [3] by decide) k hk)).trans (f1.2.2 k ((show ∀ k ∈ [0, 4], k ∉ [1] by decide) k hk))) e5.2.1 ⟨n, hn, (f2.2.2 2 (by decide)).trans ((f1.2.2 2 (by decide)).trans n2), (f2.2.2 5 (by decide)).trans ((f1.2.2 5 (by decide)).trans n5)⟩ (by rw [f2.1 19 (by decide), f1.1 19 (by decide), f2.1 67 (by decide), f1.1 67 (by decide)]; exact i19) ?_ (by rw [f2.1 18 (by decide), f1.1 18 (by decide), f2.1 66 (by decide), f1.1 66 (by decide)]; exact i18) (fun j hj => by rw [f2.1 67 (by decide), f1.1 67 (by decide)]; exact b67 j hj) (fun j hj => by rw [f2.1 32 (by decide)]; exact e4.1 j hj) (fun j hj => by rw [f2.1 43 (by decide), f1.1 43 (by decide)]; exact b43 j hj) e5.1 ?_⟩
      · rw [f2.1 20 (by decide)]
        exact e2
      · rcases e3 with e3 | ⟨k, e3⟩
        · rw [e3]
          exact b68
        · rw [e3]
          exact fun j hj => tSG_isB _ _ _ _ _ _ _ hj
    · refine ⟨(q1.1 z).1.trans (q2.1 z).1.symm, ?_⟩
      rw [← (q2.1 z).2, ← (q1.1 z).2]
      exact hI
  have hLI := both.2
  have er := both.1
  exact lv_icmp_eq (tgt := 576) hx hb d_law_255 (by decide) (fun _ => kk X2 H locs hLI hG) (fun c9 => absurd er c9)
