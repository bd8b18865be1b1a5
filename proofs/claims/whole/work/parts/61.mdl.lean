def tXL : List Nat := [1, 0, 2, 1, 2, 3, 3, 0, 1, 3, 1, 4, 4, 0, 3, 4, 3, 2, 2, 0, 4, 2, 4, 1, 1]
def tYL : List Nat := [0, 2, 1, 2, 3, 3, 0, 1, 3, 1, 4, 4, 0, 3, 4, 3, 2, 2, 0, 4, 2, 4, 1, 1, 0]
def lfL : List Nat := [1, 2, 4, 8, 16, 32, 64, 128, 113, 226, 181, 27, 54, 108, 216, 193, 243, 151, 95, 190, 13, 26, 52, 104, 208, 209, 211, 215, 223, 207, 239, 175, 47, 94, 188, 9, 18, 36, 72, 144, 81, 162, 53, 106, 212, 217, 195, 247, 159, 79, 158, 77, 154, 69, 138, 101, 202, 229, 187, 7, 14, 28, 56, 112, 224, 177, 19, 38, 76, 152, 65, 130, 117, 234, 165, 59, 118, 236, 169, 35, 70, 140, 105, 210, 213, 219, 199, 255, 143, 111, 222, 205, 235, 167, 63, 126, 252, 137, 99, 198, 253, 139, 103, 206, 237, 171, 39, 78, 156, 73, 146, 85, 170, 37, 74, 148, 89, 178, 21, 42, 84, 168, 33, 66, 132, 121, 242, 149, 91, 182, 29, 58, 116, 232, 161, 51, 102, 204, 233, 163, 55, 110, 220, 201, 227, 183, 31, 62, 124, 248, 129, 115, 230, 189, 11, 22, 44, 88, 176, 17, 34, 68, 136, 97, 194, 245, 155, 71, 142]
def exL : List Int64 := [0, 1, 1, 1, 1, 1, 1, 0, 0, 2, 2, 130, 32898, 32898, 0, 0, 2, 10, 138, 32906, 32906, 0, 0, 0, 0, 0, 32768, 2147516416, 0, 1, 3, 11, 139, 32907, 32907, 0, 1, 1, 1, 1, 1, 2147483649, 0, 1, 1, 1, 129, 32897, 2147516545, 0, 1, 1, 9, 9, 32777, 32777, 0, 0, 2, 10, 138, 138, 138, 0, 0, 0, 8, 136, 136, 136, 0, 1, 1, 9, 9, 32777, 2147516425, 0, 0, 2, 10, 10, 10, 2147483658, 0, 1, 3, 11, 139, 32907, 2147516555, 0, 1, 3, 11, 139, 139, 139, 0, 1, 1, 9, 137, 32905, 32905, 0, 1, 3, 3, 3, 32771, 32771, 0, 0, 2, 2, 2, 32770, 32770, 0, 0, 0, 0, 128, 128, 128, 0, 0, 2, 10, 10, 32778, 32778, 0, 0, 2, 10, 10, 10, 2147483658, 0, 1, 1, 1, 129, 32897, 2147516545, 0, 0, 0, 0, 128, 32896, 32896, 0, 1, 1, 1, 1, 1, 2147483649, 0, 0, 0, 8, 8, 32776, 2147516424, 0]
def tQx (i : Nat) : Nat := tXL.getD i 0
def tQy (i : Nat) : Nat := tYL.getD i 0
def lfT (j : Nat) : Int32 := nI (lfL.getD j 0)
def exP (j : Nat) : Int64 := exL.getD j 0
def tQp (i : Nat) : Nat := tQx i + 5 * tQy i
def tQv (i : Nat) : Nat := (i + 1) * (i + 2) / 2 % 64
def tQn : Nat → Nat → Int32
  | 0 => zI
  | i + 1 => upd (tQn i) (tQp i) (nI (tQv i))
def exF (j k : Nat) : Int64 := if k < j / 7 then rcT k else if k = j / 7 then exP j else 0
theorem tu_0 : ∀ i, i < 24 → tQx (i + 1) = tQy i := by decide +kernel
theorem tu_1 : ∀ i, i < 24 → nI (tQx i) + nI 5 * nI (tQy i) = nI (tQp i) := by decide +kernel
theorem tu_2 : ∀ i, i < 24 → nI (i + 1) * (nI (i + 1) + nI 1) / nI 2 - nI (i + 1) * (nI (i + 1) + nI 1) / nI 2 / nI 64 * nI 64 = nI (tQv i) := by decide +kernel
theorem tu_3 : ∀ i, i < 24 → nI 2 * nI (tQx i) + nI 3 * nI (tQy i) - (nI 2 * nI (tQx i) + nI 3 * nI (tQy i)) / nI 5 * nI 5 = nI (tQy (i + 1)) := by decide +kernel
theorem tu_4 : ∀ i, i < 24 → tQp i < 25 := by decide +kernel
theorem tu_5 : ∀ j, j < 25 → rotT j = tQn 24 j := by decide +kernel
theorem ex_1 : ∀ j, j < 168 → nI j / nI 7 = nI (j / 7) := by decide +kernel
theorem ex_2 : ∀ j, j < 168 → exF j (j / 7) ||| ((lfT j &&& nI 1).toInt64 <<< ((nI 1 <<< ((nI j - nI j / nI 7 * nI 7) &&& 31) - nI 1).toInt64 &&& 63)) = exF (j + 1) (j / 7) := by decide +kernel
theorem ex_3 : ∀ j, j < 168 → nI 2 * lfT j ≤ nI 255 → nI 2 * lfT j = lfT (j + 1) := by decide +kernel
theorem ex_4 : ∀ j, j < 168 → ¬ nI 2 * lfT j ≤ nI 255 → (nI 2 * lfT j) ^^^ nI 369 = lfT (j + 1) := by decide +kernel
theorem ex_5 : ∀ j, j < 168 → j % 7 = 6 → exP (j + 1) = 0 := by decide +kernel
theorem ex_6 : ∀ j, j < 24 → rcT j = exF 168 j := by decide +kernel
theorem ex_0 : exF 0 = zJ := by
  funext k
  unfold exF
  by_cases h : k = 0
  · subst h
    decide
  · rw [if_neg (by omega), if_neg (by omega)]
theorem ex_s {j : Nat} (hj : j < 168) : vp_updL (exF j) (j / 7) (exF (j + 1) (j / 7)) = exF (j + 1) := by
  funext k
  unfold vp_updL
  by_cases h : k = j / 7
  · subst h
    simp
  · rw [if_neg h]
    unfold exF
    by_cases h1 : k < j / 7
    · rw [if_pos h1, if_pos (by omega)]
    · rw [if_neg h1, if_neg h, if_neg (by omega)]
      by_cases h2 : k = (j + 1) / 7
      · rw [if_pos h2, ex_5 j hj (by omega)]
      · rw [if_neg h2]
abbrev k_mw (cs : ClassId × ClassId) (fs : List Value) (h0 q1 q2 : Nat) (T : Nat → Int32) (E : Nat → Int64) (wr : va_W) : va_W := (h0, .inr (7, fs)) :: (q1, .inl (cs.1, 25, .inl T)) :: (q2, .inl (cs.2, 24, .inr (.inl E))) :: wr
set_option maxHeartbeats 4000000 in
set_option maxRecDepth 100000 in
theorem k_mdl {p : Program} {l : Launch} {e : Env} {R : Room} {s : State} {m : MethodId} {args : Array Value} {below : List Frame} {meth : Method} {c : Code} {H : Heap} {locs : List Loc} {cells slots : Nat} {Q : State → Prop} {ls : Array Slot} {D : va_G} {cs : ClassId × ClassId} {H0 : Heap} {A : Nat → Prop} {fs : List Value} {h0 q1 q2 : Nat} {wr : va_W} {c0 : Cond} (hx : p.tables.exec = Jvm.exec) (hb : c.code = b_Md_init) (hown : s.vm.findClass R_Md = some m.cls) (hts : ∀ w ∈ (c0 :: WA), w.before args s = true) (hK : va_K D classes (k_ty cs) s) (hf0 : fs[0]? = some (.ref q1)) (hf1 : fs[1]? = some (.ref q2))
    (hP : va_P D classes (k_mw cs fs h0 q1 q2 zI zJ wr) H) (hD : va_D A (k_mw cs fs h0 q1 q2 zI zJ wr)) (hS : va_S A H0 H locs) (hl : lv_has ls 5 [(0, .ref h0)])
    (kk : ∀ (H : Heap) (locs : List Loc) (ls : Array Slot), va_P D classes (k_mw cs fs h0 q1 q2 (tQn 24) (exF 168) wr) H → va_D A (k_mw cs fs h0 q1 q2 (tQn 24) (exF 168) wr) → va_S A H0 H locs → W p l e R s m args below meth c H locs cells slots Q (F0 m 392 ls [])) : W p l e R s m args below meth c H locs cells slots Q (F0 m 261 ls []) := by
  have K2 : ∀ (fu j : Nat), j + fu = 168 → ∀ (H : Heap) (locs : List Loc) (ls : Array Slot), va_P D classes (k_mw cs fs h0 q1 q2 (tQn 24) (exF j) wr) H → va_D A (k_mw cs fs h0 q1 q2 (tQn 24) (exF j) wr) → va_S A H0 H locs → lv_has ls 5 [(0, .ref h0), (3, .int (lfT j)), (4, .int (nI j))] → W p l e R s m args below meth c H locs cells slots Q (F0 m 320 ls []) := by
    intro fu
    induction fu with
    | zero =>
      intro j hj H locs ls hP hD hS hl
      have hj : 168 = j := by omega
      subst hj
      refine lv_iload hx hb d_Md_init_320 (lv_at hl 2 rfl) ?_
      refine lv_sipush (v := nI (168)) hx hb d_Md_init_322 (by decide) ?_
      refine lv_icmp_ge (tgt := 392) hx hb d_Md_init_325 (by decide) (fun _ => ?_) (fun q => absurd ((g_geN (x := 168) (y := 168) (by omega) (by omega)).mp q) (by omega))
      exact kk H locs ls hP hD hS
    | succ fu ih =>
      intro j hj H locs ls hP hD hS hl
      have hj : j < 168 := by omega
      refine lv_iload hx hb d_Md_init_320 (lv_at hl 2 rfl) ?_
      refine lv_sipush (v := nI (168)) hx hb d_Md_init_322 (by decide) ?_
      refine lv_icmp_ge (tgt := 392) hx hb d_Md_init_325 (by decide) (fun q => absurd ((g_ge (x := j) (y := 168) (by omega) (by omega)).mp q) (by omega)) (fun _ => ?_)
      refine lv_aload_n hx hb d_Md_init_328 rfl (lv_at hl 0 rfl) ?_
      refine va_get (ci := 7) (v := .ref q2) (C := R_Md) (T := F_Md) (N := 35) hx hb hts (fun w h => List.mem_cons_of_mem _ (in_Md w h)) hown hK hP 0 rfl rfl 1 (by decide) (hts _ (List.mem_cons_of_mem _ kw_593)) (fun _ h9 => h9) hf1 d_Md_init_329 ?_
      refine lv_iload hx hb d_Md_init_332 (lv_at hl 2 rfl) ?_
      refine lv_bipush (v := nI (7)) hx hb d_Md_init_334 (by decide) ?_
      refine lv_idiv hx hb d_Md_init_336 (by decide) ?_
      refine g_topi (y := nI (j / 7)) (ex_1 j hj) ?_
      refine lv_aload_n hx hb d_Md_init_337 rfl (lv_at hl 0 rfl) ?_
      refine va_get (ci := 7) (v := .ref q2) (C := R_Md) (T := F_Md) (N := 35) hx hb hts (fun w h => List.mem_cons_of_mem _ (in_Md w h)) hown hK hP 0 rfl rfl 1 (by decide) (hts _ (List.mem_cons_of_mem _ kw_593)) (fun _ h9 => h9) hf1 d_Md_init_338 ?_
      refine lv_iload hx hb d_Md_init_341 (lv_at hl 2 rfl) ?_
      refine lv_bipush (v := nI (7)) hx hb d_Md_init_343 (by decide) ?_
      refine lv_idiv hx hb d_Md_init_345 (by decide) ?_
      refine g_topi (y := nI (j / 7)) (ex_1 j hj) ?_
      refine va_lald hx hb hK hP 2 1 rfl rfl (vp_in_nI (show j / 7 < 24 by omega) (by omega)) d_Md_init_346 ?_
      rw [nI_clamp (show j / 7 < 2 ^ 31 by omega)]
      refine lv_iload_n hx hb d_Md_init_347 rfl (lv_at hl 1 rfl) ?_
      refine lv_iconst (v := nI (1)) hx hb d_Md_init_348 (by decide) ?_
      refine lv_iand hx hb d_Md_init_349 ?_
      refine lv_i2l (v := (lfT j &&& nI 1).toInt64) hx hb d_Md_init_350 rfl ?_
      refine lv_iconst (v := nI (1)) hx hb d_Md_init_351 (by decide) ?_
      refine lv_iload hx hb d_Md_init_352 (lv_at hl 2 rfl) ?_
      refine lv_bipush (v := nI (7)) hx hb d_Md_init_354 (by decide) ?_
      refine lv_irem hx hb d_Md_init_356 (by decide) ?_
      refine lv_ishl hx hb d_Md_init_357 ?_
      refine lv_iconst (v := nI (1)) hx hb d_Md_init_358 (by decide) ?_
      refine lv_isub hx hb d_Md_init_359 ?_
      refine lv_lshl hx hb d_Md_init_360 rfl ?_
      refine lv_lor hx hb d_Md_init_361 ?_
      refine g_topl (y := exF (j + 1) (j / 7)) (ex_2 j hj) ?_
      refine va_last hx hb hK hP hD hS 2 1 rfl rfl (vp_in_nI (show j / 7 < 24 by omega) (by omega)) d_Md_init_362 (fun H locs hP hD hS => ?_)
      rw [nI_clamp (show j / 7 < 2 ^ 31 by omega), ex_s hj] at hP hD
      have hP : va_P D classes (k_mw cs fs h0 q1 q2 (tQn 24) (exF (j + 1)) wr) H := hP
      have hD : va_D A (k_mw cs fs h0 q1 q2 (tQn 24) (exF (j + 1)) wr) := hD
      refine lv_iconst (v := nI (2)) hx hb d_Md_init_363 (by decide) ?_
      refine lv_iload_n hx hb d_Md_init_364 rfl (lv_at hl 1 rfl) ?_
      refine lv_imul hx hb d_Md_init_365 ?_
      refine lv_sipush (v := nI (255)) hx hb d_Md_init_366 (by decide) ?_
      refine lv_icmp_le (tgt := 382) hx hb d_Md_init_369 (by decide) (fun c9 => ?_) (fun c9 => ?_)
      · refine lv_iconst (v := nI (2)) hx hb d_Md_init_382 (by decide) ?_
        refine lv_iload_n hx hb d_Md_init_383 rfl (lv_at hl 1 rfl) ?_
        refine lv_imul hx hb d_Md_init_384 ?_
        refine g_topi (y := lfT (j + 1)) (ex_3 j hj c9) ?_
        refine lv_istore_n (lv' := [(3, .int (lfT (j + 1))), (0, .ref h0), (4, .int (nI j))]) hx hb d_Md_init_385 rfl hl (by decide) rfl (fun ls hl => ?_)
        refine lv_iinc (v := nI (j + 1)) (lv' := [(4, .int (nI (j + 1))), (3, .int (lfT (j + 1))), (0, .ref h0)]) hx hb d_Md_init_386 hl (k := 2) rfl (g_inc _) (by decide) rfl (fun ls hl => ?_)
        refine lv_goto (tgt := 320) hx hb d_Md_init_389 (by decide) ?_
        exact ih (j + 1) (by omega) H locs ls hP hD hS (lv_sub hl [2, 1, 0] rfl)
      · refine lv_iconst (v := nI (2)) hx hb d_Md_init_372 (by decide) ?_
        refine lv_iload_n hx hb d_Md_init_373 rfl (lv_at hl 1 rfl) ?_
        refine lv_imul hx hb d_Md_init_374 ?_
        refine lv_sipush (v := nI (369)) hx hb d_Md_init_375 (by decide) ?_
        refine lv_ixor hx hb d_Md_init_378 ?_
        refine g_topi (y := lfT (j + 1)) (ex_4 j hj c9) ?_
        refine lv_goto (tgt := 385) hx hb d_Md_init_379 (by decide) ?_
        refine lv_istore_n (lv' := [(3, .int (lfT (j + 1))), (0, .ref h0), (4, .int (nI j))]) hx hb d_Md_init_385 rfl hl (by decide) rfl (fun ls hl => ?_)
        refine lv_iinc (v := nI (j + 1)) (lv' := [(4, .int (nI (j + 1))), (3, .int (lfT (j + 1))), (0, .ref h0)]) hx hb d_Md_init_386 hl (k := 2) rfl (g_inc _) (by decide) rfl (fun ls hl => ?_)
        refine lv_goto (tgt := 320) hx hb d_Md_init_389 (by decide) ?_
        exact ih (j + 1) (by omega) H locs ls hP hD hS (lv_sub hl [2, 1, 0] rfl)
  have K1 : ∀ (fu i : Nat), i + fu = 24 → ∀ (H : Heap) (locs : List Loc) (ls : Array Slot), va_P D classes (k_mw cs fs h0 q1 q2 (tQn i) zJ wr) H → va_D A (k_mw cs fs h0 q1 q2 (tQn i) zJ wr) → va_S A H0 H locs → lv_has ls 5 [(0, .ref h0), (1, .int (nI (tQx i))), (2, .int (nI (tQy i))), (3, .int (nI (i + 1)))] → W p l e R s m args below meth c H locs cells slots Q (F0 m 267 ls []) := by
    intro fu
    induction fu with
    | zero =>
      intro i hi H locs ls hP hD hS hl
      have hi : 24 = i := by omega
      subst hi
      refine lv_iload_n hx hb d_Md_init_267 rfl (lv_at hl 3 rfl) ?_
      refine lv_bipush (v := nI (24)) hx hb d_Md_init_268 (by decide) ?_
      refine lv_icmp_gt (tgt := 315) hx hb d_Md_init_270 (by decide) (fun _ => ?_) (fun q => absurd ((g_gtN (x := 24 + 1) (y := 24) (by omega) (by omega)).mp q) (by omega))
      refine lv_iconst (v := nI (1)) hx hb d_Md_init_315 (by decide) ?_
      refine lv_istore_n (lv' := [(3, .int (nI (1))), (0, .ref h0), (1, .int (nI (tQx 24))), (2, .int (nI (tQy 24)))]) hx hb d_Md_init_316 rfl hl (by decide) rfl (fun ls hl => ?_)
      refine lv_iconst (v := nI (0)) hx hb d_Md_init_317 (by decide) ?_
      refine lv_istore (lv' := [(4, .int (nI (0))), (3, .int (nI (1))), (0, .ref h0), (1, .int (nI (tQx 24))), (2, .int (nI (tQy 24)))]) hx hb d_Md_init_318 hl (by decide) rfl (fun ls hl => ?_)
      exact K2 168 0 rfl H locs ls (by rw [ex_0]; exact hP) (by rw [ex_0]; exact hD) hS (lv_sub hl [2, 1, 0] rfl)
    | succ fu ih =>
      intro i hi H locs ls hP hD hS hl
      have hi : i < 24 := by omega
      refine lv_iload_n hx hb d_Md_init_267 rfl (lv_at hl 3 rfl) ?_
      refine lv_bipush (v := nI (24)) hx hb d_Md_init_268 (by decide) ?_
      refine lv_icmp_gt (tgt := 315) hx hb d_Md_init_270 (by decide) (fun q => absurd ((g_gt (x := i + 1) (y := 24) (by omega) (by omega)).mp q) (by omega)) (fun _ => ?_)
      refine lv_aload_n hx hb d_Md_init_273 rfl (lv_at hl 0 rfl) ?_
      refine va_get (ci := 7) (v := .ref q1) (C := R_Md) (T := F_Md) (N := 35) hx hb hts (fun w h => List.mem_cons_of_mem _ (in_Md w h)) hown hK hP 0 rfl rfl 0 (by decide) (hts _ (List.mem_cons_of_mem _ kw_592)) (fun _ h9 => h9) hf0 d_Md_init_274 ?_
      refine lv_iload_n hx hb d_Md_init_277 rfl (lv_at hl 1 rfl) ?_
      refine lv_iconst (v := nI (5)) hx hb d_Md_init_278 (by decide) ?_
      refine lv_iload_n hx hb d_Md_init_279 rfl (lv_at hl 2 rfl) ?_
      refine lv_imul hx hb d_Md_init_280 ?_
      refine lv_iadd hx hb d_Md_init_281 ?_
      refine g_topi (y := nI (tQp i)) (tu_1 i hi) ?_
      refine lv_iload_n hx hb d_Md_init_282 rfl (lv_at hl 3 rfl) ?_
      refine lv_iload_n hx hb d_Md_init_283 rfl (lv_at hl 3 rfl) ?_
      refine lv_iconst (v := nI (1)) hx hb d_Md_init_284 (by decide) ?_
      refine lv_iadd hx hb d_Md_init_285 ?_
      refine lv_imul hx hb d_Md_init_286 ?_
      refine lv_iconst (v := nI (2)) hx hb d_Md_init_287 (by decide) ?_
      refine lv_idiv hx hb d_Md_init_288 (by decide) ?_
      refine lv_bipush (v := nI (64)) hx hb d_Md_init_289 (by decide) ?_
      refine lv_irem hx hb d_Md_init_291 (by decide) ?_
      refine g_topi (y := nI (tQv i)) (tu_2 i hi) ?_
      have h25 := tu_4 i hi
      refine va_iast hx hb hK hP hD hS 1 0 rfl rfl (vp_in_nI h25 (by omega)) d_Md_init_292 (fun H locs hP hD hS => ?_)
      rw [nI_clamp (show tQp i < 2 ^ 31 by omega)] at hP hD
      have hP : va_P D classes (k_mw cs fs h0 q1 q2 (tQn (i + 1)) zJ wr) H := hP
      have hD : va_D A (k_mw cs fs h0 q1 q2 (tQn (i + 1)) zJ wr) := hD
      refine lv_iconst (v := nI (2)) hx hb d_Md_init_293 (by decide) ?_
      refine lv_iload_n hx hb d_Md_init_294 rfl (lv_at hl 1 rfl) ?_
      refine lv_imul hx hb d_Md_init_295 ?_
      refine lv_iconst (v := nI (3)) hx hb d_Md_init_296 (by decide) ?_
      refine lv_iload_n hx hb d_Md_init_297 rfl (lv_at hl 2 rfl) ?_
      refine lv_imul hx hb d_Md_init_298 ?_
      refine lv_iadd hx hb d_Md_init_299 ?_
      refine lv_iconst (v := nI (5)) hx hb d_Md_init_300 (by decide) ?_
      refine lv_irem hx hb d_Md_init_301 (by decide) ?_
      refine g_topi (y := nI (tQy (i + 1))) (tu_3 i hi) ?_
      refine lv_istore (lv' := [(4, .int (nI (tQy (i + 1)))), (0, .ref h0), (1, .int (nI (tQx i))), (2, .int (nI (tQy i))), (3, .int (nI (i + 1)))]) hx hb d_Md_init_302 hl (by decide) rfl (fun ls hl => ?_)
      refine lv_iload_n hx hb d_Md_init_304 rfl (lv_at hl 3 rfl) ?_
      refine g_topi (y := nI (tQx (i + 1))) (by rw [tu_0 i hi]) ?_
      refine lv_istore_n (lv' := [(1, .int (nI (tQx (i + 1)))), (4, .int (nI (tQy (i + 1)))), (0, .ref h0), (2, .int (nI (tQy i))), (3, .int (nI (i + 1)))]) hx hb d_Md_init_305 rfl hl (by decide) rfl (fun ls hl => ?_)
      refine lv_iload hx hb d_Md_init_306 (lv_at hl 1 rfl) ?_
      refine lv_istore_n (lv' := [(2, .int (nI (tQy (i + 1)))), (1, .int (nI (tQx (i + 1)))), (4, .int (nI (tQy (i + 1)))), (0, .ref h0), (3, .int (nI (i + 1)))]) hx hb d_Md_init_308 rfl hl (by decide) rfl (fun ls hl => ?_)
      refine lv_iinc (v := nI (i + 1 + 1)) (lv' := [(3, .int (nI (i + 1 + 1))), (2, .int (nI (tQy (i + 1)))), (1, .int (nI (tQx (i + 1)))), (4, .int (nI (tQy (i + 1)))), (0, .ref h0)]) hx hb d_Md_init_309 hl (k := 4) rfl (g_inc _) (by decide) rfl (fun ls hl => ?_)
      refine lv_goto (tgt := 267) hx hb d_Md_init_312 (by decide) ?_
      exact ih (i + 1) (by omega) H locs ls hP hD hS (lv_sub hl [4, 2, 1, 0] rfl)
  refine lv_iconst (v := nI (1)) hx hb d_Md_init_261 (by decide) ?_
  refine lv_istore_n (lv' := [(1, .int (nI (1))), (0, .ref h0)]) hx hb d_Md_init_262 rfl hl (by decide) rfl (fun ls hl => ?_)
  refine lv_iconst (v := nI (0)) hx hb d_Md_init_263 (by decide) ?_
  refine lv_istore_n (lv' := [(2, .int (nI (0))), (1, .int (nI (1))), (0, .ref h0)]) hx hb d_Md_init_264 rfl hl (by decide) rfl (fun ls hl => ?_)
  refine lv_iconst (v := nI (1)) hx hb d_Md_init_265 (by decide) ?_
  refine lv_istore_n (lv' := [(3, .int (nI (1))), (2, .int (nI (0))), (1, .int (nI (1))), (0, .ref h0)]) hx hb d_Md_init_266 rfl hl (by decide) rfl (fun ls hl => ?_)
  exact K1 24 0 rfl H locs ls hP hD hS (lv_sub hl [3, 2, 1, 0] rfl)
