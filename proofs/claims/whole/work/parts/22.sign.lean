set_option maxHeartbeats 4000000 in
set_option maxRecDepth 100000 in
theorem c_sg_open (l : Launch) (V : Ev) (X : Mm) (w : Int64) (n : Nat) (hn : n ≤ 24) (hM : X.2.2 2 = nI n) : Met l y_Signing_open (Cond.code y_Signing_open b_Signing_open 6 none :: WA) ({ frames := 5, cells := 0, slots := 0, locals := 110 } : Room) (g_Pc V X [.ref (g_ad V 7), .ref (g_ad V 1), .ref (g_ad V 6), .ref (g_ad V 5), .long (w)]) (g_Qv V (fun X1 : Mm => X1.1 31 = (HS (apB (X.1 25) 8 (X.1 18)) (8 + n)) ∧ X1.1 34 = HS (apB (X.1 24) 8 (apB (lgB w) 8 (HS (apB (X.1 25) 8 (X.1 18)) (8 + n)))) 32 ∧ fr X X1 [17, 31, 34] [2, 3, 4] [1])) 0 0 (g_A V) := by
  refine g_met (by decide) (Nat.le_of_ble_eq_true rfl) ?_
  intro p e s m below meth c hx hb hr hml hown hts hlocks hE hG ls hl
  have hl : lv_has ls 6 [(0, .ref (g_ad V 7)), (1, .ref (g_ad V 1)), (2, .ref (g_ad V 6)), (3, .ref (g_ad V 5)), (4, .long (w))] := hl
  have hown : s.vm.findClass R_Signing = some m.cls := hown
  refine lv_aload_n hx hb d_Signing_open_0 rfl (lv_at hl 0 rfl) ?_
  refine g_get (ci := 4) (v := .ref (g_ad V 8)) (C := R_Signing) (T := F_Signing) (N := 9) hx hb hts (fun w h => List.mem_cons_of_mem _ (in_Signing w h)) hown hE hG 7 (by decide) rfl rfl 0 (by decide) (hts _ (List.mem_cons_of_mem _ kw_127)) (fun _ h9 => h9) rfl d_Signing_open_1 ?_
  refine lv_aload_n hx hb d_Signing_open_4 rfl (lv_at hl 1 rfl) ?_
  refine lv_aload_n hx hb d_Signing_open_5 rfl (lv_at hl 2 rfl) ?_
  refine g_getN (ci := 3) (v := .ref (g_ad V 25)) (C := R_SecretKey) (T := F_SecretKey) (N := 9) hx hb hts (fun w h => List.mem_cons_of_mem _ (in_SecretKey w h)) hown hE hG 6 (by decide) rfl rfl 3 (by decide) (nf_Signing_43) (fun _ h9 => h9) rfl d_Signing_open_6 ?_
  refine lv_aload_n hx hb d_Signing_open_9 rfl (lv_at hl 3 rfl) ?_
  refine g_callv (va_runV (As := [.ref (g_ad V 1), .ref (g_ad V 25), .ref (g_ad V 5)]) (rest := []) ⟨hx, hb, hml, hown, hts⟩ (c_tr_open_8 l V X n hn hM) (cwV 3 hts (g_goodV kw_362 kw_359 kw_360 kw_361 kw_6) rfl rfl rfl (by decide +kernel) ⟨Nat.le_of_ble_eq_true rfl, Nat.le_of_ble_eq_true rfl⟩) (g_preV (k0 := 8) (ci := 5) hE hG (by decide) rfl rfl) rfl rfl hl.1 rfl (lv_room (Nat.le_of_ble_eq_true rfl)) d_Signing_open_10 ⟨Nat.le_refl 0, Nat.le_refl 0⟩) hG (fun X2 H locs q2 hG => ?_)
  refine lv_aload_n hx hb d_Signing_open_13 rfl (lv_at hl 1 rfl) ?_
  refine g_callv (va_runV (As := []) (rest := []) ⟨hx, hb, hml, hown, hts⟩ (c_begin l V X2 ) (cwV 0 hts (g_goodV kw_230 kw_372 kw_228 kw_229 kw_2) rfl rfl rfl (by decide +kernel) ⟨Nat.le_of_ble_eq_true rfl, Nat.le_of_ble_eq_true rfl⟩) (g_preV (k0 := 1) (ci := 1) hE hG (by decide) rfl rfl) rfl rfl hl.1 rfl (lv_room (Nat.le_of_ble_eq_true rfl)) d_Signing_open_14 ⟨Nat.le_refl 0, Nat.le_refl 0⟩) hG (fun X3 H locs q3 hG => ?_)
  refine lv_aload_n hx hb d_Signing_open_17 rfl (lv_at hl 1 rfl) ?_
  refine lv_aload_n hx hb d_Signing_open_18 rfl (lv_at hl 2 rfl) ?_
  refine g_getN (ci := 3) (v := .ref (g_ad V 24)) (C := R_SecretKey) (T := F_SecretKey) (N := 9) hx hb hts (fun w h => List.mem_cons_of_mem _ (in_SecretKey w h)) hown hE hG 6 (by decide) rfl rfl 2 (by decide) (nf_Signing_57) (fun _ h9 => h9) rfl d_Signing_open_19 ?_
  refine g_callv (va_runV (As := [.ref (g_ad V 24)]) (rest := []) ⟨hx, hb, hml, hown, hts⟩ (c_takeAll l V X3 24 (by decide) (apB (X.1 24) 8 (apB (lgB w) 8 (HS (apB (X.1 25) 8 (X.1 18)) (8 + n)))) 0 8 rfl (by decide) q3.1 q3.2.1 (fun j hj => by rw [q3.2.2.1 24 (fun q => by cases q), q2.2.1 24 (by decide), Nat.zero_add]; exact (apB_lo _ _ hj).symm)) (cwV 1 hts (g_goodV kw_329 kw_373 kw_327 kw_328 kw_2) rfl rfl rfl (by decide +kernel) ⟨Nat.le_of_ble_eq_true rfl, Nat.le_of_ble_eq_true rfl⟩) (g_preV (k0 := 1) (ci := 1) hE hG (by decide) rfl rfl) rfl rfl hl.1 rfl (lv_room (Nat.le_of_ble_eq_true rfl)) d_Signing_open_22 ⟨Nat.le_refl 0, Nat.le_refl 0⟩) hG (fun X4 H locs q4 hG => ?_)
  refine lv_aload_n hx hb d_Signing_open_25 rfl (lv_at hl 1 rfl) ?_
  refine lv_lload hx hb d_Signing_open_26 (lv_at hl 4 rfl) ?_
  refine g_callv (va_runV (As := [.long (w)]) (rest := []) ⟨hx, hb, hml, hown, hts⟩ (c_takeLong l V X4 w (apB (X.1 24) 8 (apB (lgB w) 8 (HS (apB (X.1 25) 8 (X.1 18)) (8 + n)))) (0 + 8) (by decide) q4.1 q4.2.1 (fun j hj => by rw [Nat.zero_add, apB_hi]; exact (apB_lo _ _ hj).symm)) (cwV 1 hts (g_goodV kw_237 kw_374 kw_235 kw_236 kw_2) rfl rfl rfl (by decide +kernel) ⟨Nat.le_of_ble_eq_true rfl, Nat.le_of_ble_eq_true rfl⟩) (g_preV (k0 := 1) (ci := 1) hE hG (by decide) rfl rfl) rfl rfl hl.1 rfl (lv_room (Nat.le_of_ble_eq_true rfl)) d_Signing_open_28 ⟨Nat.le_refl 0, Nat.le_refl 0⟩) hG (fun X5 H locs q5 hG => ?_)
  refine lv_aload_n hx hb d_Signing_open_31 rfl (lv_at hl 1 rfl) ?_
  refine lv_aload_n hx hb d_Signing_open_32 rfl (lv_at hl 0 rfl) ?_
  refine g_get (ci := 4) (v := .ref (g_ad V 8)) (C := R_Signing) (T := F_Signing) (N := 9) hx hb hts (fun w h => List.mem_cons_of_mem _ (in_Signing w h)) hown hE hG 7 (by decide) rfl rfl 0 (by decide) (hts _ (List.mem_cons_of_mem _ kw_127)) (fun _ h9 => h9) rfl d_Signing_open_33 ?_
  refine g_getN (ci := 5) (v := .ref (g_ad V 31)) (C := R_Transcript) (T := F_Transcript) (N := 3) hx hb hts (fun w h => List.mem_cons_of_mem _ (in_Transcript w h)) hown hE hG 8 (by decide) rfl rfl 0 (by decide) (nf_Signing_68) (fun _ h9 => h9) rfl d_Signing_open_36 ?_
  refine g_callv (va_runV (As := [.ref (g_ad V 31)]) (rest := []) ⟨hx, hb, hml, hown, hts⟩ (c_takeAll l V X5 31 (by decide) (apB (X.1 24) 8 (apB (lgB w) 8 (HS (apB (X.1 25) 8 (X.1 18)) (8 + n)))) (0 + 8 + 8) 16 rfl (by decide) q5.1 q5.2.1 (fun j hj => by rw [q5.2.2.1 31 (fun q => by cases q), q4.2.2.1 31 (fun q => by cases q), q3.2.2.1 31 (fun q => by cases q), q2.1, Nat.zero_add, Nat.add_assoc, apB_hi, apB_hi])) (cwV 1 hts (g_goodV kw_329 kw_373 kw_327 kw_328 kw_2) rfl rfl rfl (by decide +kernel) ⟨Nat.le_of_ble_eq_true rfl, Nat.le_of_ble_eq_true rfl⟩) (g_preV (k0 := 1) (ci := 1) hE hG (by decide) rfl rfl) rfl rfl hl.1 rfl (lv_room (Nat.le_of_ble_eq_true rfl)) d_Signing_open_39 ⟨Nat.le_refl 0, Nat.le_refl 0⟩) hG (fun X6 H locs q6 hG => ?_)
  refine lv_aload_n hx hb d_Signing_open_42 rfl (lv_at hl 1 rfl) ?_
  refine g_callr (va_runV (As := []) (rest := []) ⟨hx, hb, hml, hown, hts⟩ (c_finish l V X6 (apB (X.1 24) 8 (apB (lgB w) 8 (HS (apB (X.1 25) 8 (X.1 18)) (8 + n)))) (0 + 8 + 8 + 16) (by decide) q6.1 q6.2.1) (cwV 0 hts (g_goodV kw_249 kw_375 kw_247 kw_248 kw_2) rfl rfl rfl (by decide +kernel) ⟨Nat.le_of_ble_eq_true rfl, Nat.le_of_ble_eq_true rfl⟩) (g_preV (k0 := 1) (ci := 1) hE hG (by decide) rfl rfl) rfl rfl hl.1 rfl (lv_room (Nat.le_of_ble_eq_true rfl)) d_Signing_open_43 ⟨Nat.le_refl 0, Nat.le_refl 0⟩) hG (fun X7 H locs q7 hG => ?_)
  refine lv_iconst (v := nI (0)) hx hb d_Signing_open_46 (by decide) ?_
  refine lv_aload_n hx hb d_Signing_open_47 rfl (lv_at hl 0 rfl) ?_
  refine g_get (ci := 4) (v := .ref (g_ad V 34)) (C := R_Signing) (T := F_Signing) (N := 9) hx hb hts (fun w h => List.mem_cons_of_mem _ (in_Signing w h)) hown hE hG 7 (by decide) rfl rfl 1 (by decide) (hts _ (List.mem_cons_of_mem _ kw_128)) (fun _ h9 => h9) rfl d_Signing_open_48 ?_
  refine lv_iconst (v := nI (0)) hx hb d_Signing_open_51 (by decide) ?_
  refine lv_bipush (v := nI (16)) hx hb d_Signing_open_52 (by decide) ?_
  refine g_copy hx hb (hml.trans hl.1.symm) hown (hts _ (List.mem_cons_of_mem _ kw_376)) (hts _ (List.mem_cons_of_mem _ kw_272)) (hts _ (List.mem_cons_of_mem _ kw_271)) (hts _ (List.mem_cons_of_mem _ kw_11)) hE hG 17 34 (by decide) (by decide) (sp := 0) (dp := 0) (n := 16) (by decide) (by decide) (Nat.le_of_ble_eq_true rfl) (Nat.le_of_ble_eq_true rfl) d_Signing_open_54 (fun H locs hG => ?_)
  have hG := g_xi hG 34 (by decide) (HS (apB (X.1 24) 8 (apB (lgB w) 8 (HS (apB (X.1 25) 8 (X.1 18)) (8 + n)))) 32) (fun j hj => by rw [uI_s, sb_cpy0 (show j < 16 from hj), q7.1])
  exact g_vret hx hb hr hlocks hE hG (⟨(uI_n _ _ (by decide)).trans ((uI_n _ _ (by decide)).trans (by rw [q7.2.1 31 (by decide), q6.2.2.1 31 (fun q => by cases q), q5.2.2.1 31 (fun q => by cases q), q4.2.2.1 31 (fun q => by cases q), q3.2.2.1 31 (fun q => by cases q), q2.1])), uI_s _ _ _, fr_i (fr_i (fr_tr2 (fr_tr2 (fr_tr2 (fr_tr2 (fr_tr2 (fr_mono q2.2 (a' := [17, 31, 34]) (b' := [2, 3, 4]) (c' := [1]) (by decide) (by decide) (by decide)) q3.2.2 (by decide) (by decide) (by decide)) q4.2.2 (by decide) (by decide) (by decide)) q5.2.2 (by decide) (by decide) (by decide)) q6.2.2 (by decide) (by decide) (by decide)) q7.2 (by decide) (by decide) (by decide)) _ (by decide)) _ (by decide)⟩) d_Signing_open_57

set_option maxHeartbeats 4000000 in
set_option maxRecDepth 100000 in
theorem c_noteHighs (l : Launch) (V : Ev) (X : Mm) (hB : ∀ j, j < 48 → isB (X.1 32 j)) : Met l y_Signing_noteHighs (Cond.code y_Signing_noteHighs b_Signing_noteHighs 2 none :: WA) ({ frames := 2, cells := 0, slots := 0, locals := 50 } : Room) (g_Pc V X [.ref (g_ad V 7)]) (g_Qv V (fun X1 : Mm => X1.1 32 = pcP (fun i => hiP (X.1 36 i)) 0 12 32 ∧ fr X X1 [32] [] [])) 0 0 (g_A V) := by
  refine g_met (by decide) (Nat.le_of_ble_eq_true rfl) ?_
  intro p e s m below meth c hx hb hr hml hown hts hlocks hE hG ls hl
  have hl : lv_has ls 2 [(0, .ref (g_ad V 7))] := hl
  have hown : s.vm.findClass R_Signing = some m.cls := hown
  refine lv_iconst (v := nI (0)) hx hb d_Signing_noteHighs_0 (by decide) ?_
  refine lv_istore_n (lv' := [(1, .int (nI (0))), (0, .ref (g_ad V 7))]) hx hb d_Signing_noteHighs_1 rfl hl (by decide) rfl (fun ls hl => ?_)
  have K2 : ∀ (n i : Nat), i + n = 32 → ∀ (X1 : Mm) (H : Heap) (locs : List Loc), ∀ (ls : Array Slot), (fr X X1 [32] [] []) → (X1.1 32 = pkN (X.1 32) (fun i => hiP (X.1 36 i)) 0 12 i) → g_st V X1 s.heap H locs → lv_has ls 2 [(0, .ref (g_ad V 7)), (1, .int (nI (i)))] → W p l e ({ frames := 2, cells := 0, slots := 0, locals := 50 } : Room) s m ([.ref (g_ad V 7)] : List Value).toArray below meth c H locs 0 0 (MQ below (g_Qv V (fun X1 : Mm => X1.1 32 = pcP (fun i => hiP (X.1 36 i)) 0 12 32 ∧ fr X X1 [32] [] [])) ([.ref (g_ad V 7)] : List Value).toArray s 0 0 (g_A V)) (F0 m 2 ls []) := by
    intro n
    induction n with
    | zero =>
      intro i hin2 X1 H locs ls hF hC hG hl
      have hi2 : 32 = i := by omega
      subst hi2
      refine lv_iload_n hx hb d_Signing_noteHighs_2 rfl (lv_at hl 1 rfl) ?_
      refine lv_bipush (v := nI (32)) hx hb d_Signing_noteHighs_3 (by decide) ?_
      refine lv_icmp_ge (tgt := 31) hx hb d_Signing_noteHighs_5 (by decide) (fun _ => ?_) (fun q => absurd ((g_geN (x := 32) (y := 32) (by omega) (by omega)).mp q) (by omega))
      have hG := g_xi hG 32 (by decide) (pcP (fun i => hiP (X.1 36 i)) 0 12 32) (fun j hj => by rw [hC]; exact pc_eq0 hB (by decide) hj)
      exact g_vret hx hb hr hlocks hE hG (⟨uI_s _ _ _, fr_i hF _ (by decide)⟩) d_Signing_noteHighs_31
    | succ n ih2 =>
      intro i hin2 X1 H locs ls hF hC hG hl
      have hi2 : i < 32 := by omega
      refine lv_iload_n hx hb d_Signing_noteHighs_2 rfl (lv_at hl 1 rfl) ?_
      refine lv_bipush (v := nI (32)) hx hb d_Signing_noteHighs_3 (by decide) ?_
      refine lv_icmp_ge (tgt := 31) hx hb d_Signing_noteHighs_5 (by decide) (fun q => absurd ((g_ge (x := i) (y := 32) (by omega) (by omega)).mp q) (by omega)) (fun _ => ?_)
      refine lv_aload_n hx hb d_Signing_noteHighs_8 rfl (lv_at hl 0 rfl) ?_
      refine g_get (ci := 4) (v := .ref (g_ad V 8)) (C := R_Signing) (T := F_Signing) (N := 9) hx hb hts (fun w h => List.mem_cons_of_mem _ (in_Signing w h)) hown hE hG 7 (by decide) rfl rfl 0 (by decide) (hts _ (List.mem_cons_of_mem _ kw_127)) (fun _ h9 => h9) rfl d_Signing_noteHighs_9 ?_
      refine lv_iload_n hx hb d_Signing_noteHighs_12 rfl (lv_at hl 1 rfl) ?_
      refine lv_aload_n hx hb d_Signing_noteHighs_13 rfl (lv_at hl 0 rfl) ?_
      refine g_get (ci := 4) (v := .ref (g_ad V 36)) (C := R_Signing) (T := F_Signing) (N := 9) hx hb hts (fun w h => List.mem_cons_of_mem _ (in_Signing w h)) hown hE hG 7 (by decide) rfl rfl 3 (by decide) (hts _ (List.mem_cons_of_mem _ kw_130)) (fun _ h9 => h9) rfl d_Signing_noteHighs_14 ?_
      refine lv_iload_n hx hb d_Signing_noteHighs_17 rfl (lv_at hl 1 rfl) ?_
      refine g_iald hx hb hE hG 36 (by decide) (i) (rfl) (show _ < 32 by omega) (v := X.1 36 i) (congrFun (hF.1 36 (by decide)) _) d_Signing_noteHighs_18 ?_
      refine g_callpi (va_runS (As := [.int (X.1 36 i)]) (rest := [.int (nI (i)), .ref (g_ad V 8)]) ⟨hx, hb, hml, hown, hts⟩ (c_highOf l (X.1 36 i)) (va_cwS 1 hts (g_goodS kw_397 kw_395 kw_396 kw_14) rfl rfl rfl (by decide +kernel) ⟨Nat.le_of_ble_eq_true rfl, Nat.le_of_ble_eq_true rfl⟩) ⟨fun _ _ _ _ q => q, fun _ _ _ => rfl⟩ rfl rfl hl.1 rfl (lv_room (Nat.le_of_ble_eq_true rfl)) d_Signing_noteHighs_19 ⟨Nat.le_refl 0, Nat.le_refl 0⟩) (fun r2 q1 => ?_)
      refine g_topi (y := hiP (X.1 36 i)) (q1) ?_
      refine g_callv (va_runV (As := [.int (nI (i)), .int (hiP (X.1 36 i))]) (rest := []) ⟨hx, hb, hml, hown, hts⟩ (c_setHigh_8 l V X1 i (hiP (X.1 36 i)) (by omega)) (cwV 2 hts (g_goodV kw_402 kw_399 kw_400 kw_401 kw_6) rfl rfl rfl (by decide +kernel) ⟨Nat.le_of_ble_eq_true rfl, Nat.le_of_ble_eq_true rfl⟩) (g_preV (k0 := 8) (ci := 5) hE hG (by decide) rfl rfl) rfl rfl hl.1 rfl (lv_room (Nat.le_of_ble_eq_true rfl)) d_Signing_noteHighs_22 ⟨Nat.le_refl 0, Nat.le_refl 0⟩) hG (fun X2 H locs q2 hG => ?_)
      refine lv_iinc (v := nI (i + 1)) (lv' := [(1, .int (nI (i + 1))), (0, .ref (g_ad V 7))]) hx hb d_Signing_noteHighs_25 hl (k := 1) rfl (g_inc _) (by decide) rfl (fun ls hl => ?_)
      refine lv_goto (tgt := 2) hx hb d_Signing_noteHighs_28 (by decide) ?_
      exact ih2 (i + 1) (by omega) X2 _ _ ls (fr_tr hF q2.2) (by rw [q2.1, hC]; rfl) hG (lv_sub hl [1, 0] rfl)
  exact K2 (32 - 0) 0 (by omega) X _ _ ls (fr_rf X _ _ _) rfl hG (lv_sub hl [1, 0] rfl)

set_option maxHeartbeats 4000000 in
set_option maxRecDepth 100000 in
theorem c_answer (l : Launch) (V : Ev) (X : Mm)  : Met l y_Signing_answer (Cond.code y_Signing_answer b_Signing_answer 3 none :: WA) ({ frames := 2, cells := 0, slots := 0, locals := 50 } : Room) (g_Pc V X [.ref (g_ad V 7), .ref (g_ad V 6)]) (g_Qv V (fun X1 : Mm => X1.1 38 = (zP (X.1 35) (X.1 37) (X.1 27)) ∧ X1.1 39 = (uP (X.1 36) (X.1 37) (X.1 28)) ∧ X1.1 40 = (mpP (X.1 37) (X.1 29)) ∧ fr X X1 [38, 39, 40] [] [])) 0 0 (g_A V) := by
  refine g_met (by decide) (Nat.le_of_ble_eq_true rfl) ?_
  intro p e s m below meth c hx hb hr hml hown hts hlocks hE hG ls hl
  have hl : lv_has ls 3 [(0, .ref (g_ad V 7)), (1, .ref (g_ad V 6))] := hl
  have hown : s.vm.findClass R_Signing = some m.cls := hown
  refine lv_aload_n hx hb d_Signing_answer_0 rfl (lv_at hl 0 rfl) ?_
  refine g_get (ci := 4) (v := .ref (g_ad V 37)) (C := R_Signing) (T := F_Signing) (N := 9) hx hb hts (fun w h => List.mem_cons_of_mem _ (in_Signing w h)) hown hE hG 7 (by decide) rfl rfl 4 (by decide) (hts _ (List.mem_cons_of_mem _ kw_131)) (fun _ h9 => h9) rfl d_Signing_answer_1 ?_
  refine lv_aload_n hx hb d_Signing_answer_4 rfl (lv_at hl 1 rfl) ?_
  refine g_getN (ci := 3) (v := .ref (g_ad V 27)) (C := R_SecretKey) (T := F_SecretKey) (N := 9) hx hb hts (fun w h => List.mem_cons_of_mem _ (in_SecretKey w h)) hown hE hG 6 (by decide) rfl rfl 5 (by decide) (nf_Signing_149) (fun _ h9 => h9) rfl d_Signing_answer_5 ?_
  refine lv_aload_n hx hb d_Signing_answer_8 rfl (lv_at hl 0 rfl) ?_
  refine g_get (ci := 4) (v := .ref (g_ad V 38)) (C := R_Signing) (T := F_Signing) (N := 9) hx hb hts (fun w h => List.mem_cons_of_mem _ (in_Signing w h)) hown hE hG 7 (by decide) rfl rfl 5 (by decide) (hts _ (List.mem_cons_of_mem _ kw_132)) (fun _ h9 => h9) rfl d_Signing_answer_9 ?_
  refine g_callv (va_runS (As := [.ref (g_ad V 37), .ref (g_ad V 27), .ref (g_ad V 38)]) (rest := []) ⟨hx, hb, hml, hown, hts⟩ (c_applyPolynomial l V X 37 (by decide) rfl 27 (by decide) rfl 38 (by decide) rfl (by decide) (by decide)) (va_cwS 3 hts (g_goodS kw_423 kw_421 kw_422 kw_13) rfl rfl rfl (by decide +kernel) ⟨Nat.le_of_ble_eq_true rfl, Nat.le_of_ble_eq_true rfl⟩) (g_preS hE hG) rfl rfl hl.1 rfl (lv_room (Nat.le_of_ble_eq_true rfl)) d_Signing_answer_12 ⟨Nat.le_refl 0, Nat.le_refl 0⟩) hG (fun Xa H locs qa hG => ?_)
  refine lv_aload_n hx hb d_Signing_answer_15 rfl (lv_at hl 0 rfl) ?_
  refine g_get (ci := 4) (v := .ref (g_ad V 37)) (C := R_Signing) (T := F_Signing) (N := 9) hx hb hts (fun w h => List.mem_cons_of_mem _ (in_Signing w h)) hown hE hG 7 (by decide) rfl rfl 4 (by decide) (hts _ (List.mem_cons_of_mem _ kw_131)) (fun _ h9 => h9) rfl d_Signing_answer_16 ?_
  refine lv_aload_n hx hb d_Signing_answer_19 rfl (lv_at hl 1 rfl) ?_
  refine g_getN (ci := 3) (v := .ref (g_ad V 28)) (C := R_SecretKey) (T := F_SecretKey) (N := 9) hx hb hts (fun w h => List.mem_cons_of_mem _ (in_SecretKey w h)) hown hE hG 6 (by decide) rfl rfl 6 (by decide) (nf_Signing_155) (fun _ h9 => h9) rfl d_Signing_answer_20 ?_
  refine lv_aload_n hx hb d_Signing_answer_23 rfl (lv_at hl 0 rfl) ?_
  refine g_get (ci := 4) (v := .ref (g_ad V 39)) (C := R_Signing) (T := F_Signing) (N := 9) hx hb hts (fun w h => List.mem_cons_of_mem _ (in_Signing w h)) hown hE hG 7 (by decide) rfl rfl 6 (by decide) (hts _ (List.mem_cons_of_mem _ kw_133)) (fun _ h9 => h9) rfl d_Signing_answer_24 ?_
  refine g_callv (va_runS (As := [.ref (g_ad V 37), .ref (g_ad V 28), .ref (g_ad V 39)]) (rest := []) ⟨hx, hb, hml, hown, hts⟩ (c_applyPolynomial l V Xa 37 (by decide) rfl 28 (by decide) rfl 39 (by decide) rfl (by decide) (by decide)) (va_cwS 3 hts (g_goodS kw_423 kw_421 kw_422 kw_13) rfl rfl rfl (by decide +kernel) ⟨Nat.le_of_ble_eq_true rfl, Nat.le_of_ble_eq_true rfl⟩) (g_preS hE hG) rfl rfl hl.1 rfl (lv_room (Nat.le_of_ble_eq_true rfl)) d_Signing_answer_27 ⟨Nat.le_refl 0, Nat.le_refl 0⟩) hG (fun Xb H locs qb hG => ?_)
  refine lv_aload_n hx hb d_Signing_answer_30 rfl (lv_at hl 0 rfl) ?_
  refine g_get (ci := 4) (v := .ref (g_ad V 37)) (C := R_Signing) (T := F_Signing) (N := 9) hx hb hts (fun w h => List.mem_cons_of_mem _ (in_Signing w h)) hown hE hG 7 (by decide) rfl rfl 4 (by decide) (hts _ (List.mem_cons_of_mem _ kw_131)) (fun _ h9 => h9) rfl d_Signing_answer_31 ?_
  refine lv_aload_n hx hb d_Signing_answer_34 rfl (lv_at hl 1 rfl) ?_
  refine g_getN (ci := 3) (v := .ref (g_ad V 29)) (C := R_SecretKey) (T := F_SecretKey) (N := 9) hx hb hts (fun w h => List.mem_cons_of_mem _ (in_SecretKey w h)) hown hE hG 6 (by decide) rfl rfl 7 (by decide) (nf_Signing_158) (fun _ h9 => h9) rfl d_Signing_answer_35 ?_
  refine lv_aload_n hx hb d_Signing_answer_38 rfl (lv_at hl 0 rfl) ?_
  refine g_get (ci := 4) (v := .ref (g_ad V 40)) (C := R_Signing) (T := F_Signing) (N := 9) hx hb hts (fun w h => List.mem_cons_of_mem _ (in_Signing w h)) hown hE hG 7 (by decide) rfl rfl 7 (by decide) (hts _ (List.mem_cons_of_mem _ kw_134)) (fun _ h9 => h9) rfl d_Signing_answer_39 ?_
  refine g_callv (va_runS (As := [.ref (g_ad V 37), .ref (g_ad V 29), .ref (g_ad V 40)]) (rest := []) ⟨hx, hb, hml, hown, hts⟩ (c_applyPolynomial l V Xb 37 (by decide) rfl 29 (by decide) rfl 40 (by decide) rfl (by decide) (by decide)) (va_cwS 3 hts (g_goodS kw_423 kw_421 kw_422 kw_13) rfl rfl rfl (by decide +kernel) ⟨Nat.le_of_ble_eq_true rfl, Nat.le_of_ble_eq_true rfl⟩) (g_preS hE hG) rfl rfl hl.1 rfl (lv_room (Nat.le_of_ble_eq_true rfl)) d_Signing_answer_42 ⟨Nat.le_refl 0, Nat.le_refl 0⟩) hG (fun Xc H locs qc hG => ?_)
  refine lv_iconst (v := nI (0)) hx hb d_Signing_answer_45 (by decide) ?_
  refine lv_istore_n (lv' := [(2, .int (nI (0))), (0, .ref (g_ad V 7)), (1, .ref (g_ad V 6))]) hx hb d_Signing_answer_46 rfl hl (by decide) rfl (fun ls hl => ?_)
  have K47 : ∀ (n i : Nat), i + n = 32 → ∀ (X1 : Mm) (H : Heap) (locs : List Loc), ∀ (ls : Array Slot), (fr X X1 [38, 39, 40] [] []) → (X1.1 38 = segI (zP (X.1 35) (X.1 37) (X.1 27)) (mpP (X.1 37) (X.1 27)) i) → (X1.1 39 = segI (uP (X.1 36) (X.1 37) (X.1 28)) (mpP (X.1 37) (X.1 28)) i) → (X1.1 40 = (mpP (X.1 37) (X.1 29))) → g_st V X1 s.heap H locs → lv_has ls 3 [(0, .ref (g_ad V 7)), (1, .ref (g_ad V 6)), (2, .int (nI (i)))] → W p l e ({ frames := 2, cells := 0, slots := 0, locals := 50 } : Room) s m ([.ref (g_ad V 7), .ref (g_ad V 6)] : List Value).toArray below meth c H locs 0 0 (MQ below (g_Qv V (fun X1 : Mm => X1.1 38 = (zP (X.1 35) (X.1 37) (X.1 27)) ∧ X1.1 39 = (uP (X.1 36) (X.1 37) (X.1 28)) ∧ X1.1 40 = (mpP (X.1 37) (X.1 29)) ∧ fr X X1 [38, 39, 40] [] [])) ([.ref (g_ad V 7), .ref (g_ad V 6)] : List Value).toArray s 0 0 (g_A V)) (F0 m 47 ls []) := by
    intro n
    induction n with
    | zero =>
      intro i hin47 X1 H locs ls hF h38 h39 h40 hG hl
      have hi47 : 32 = i := by omega
      subst hi47
      refine lv_iload_n hx hb d_Signing_answer_47 rfl (lv_at hl 2 rfl) ?_
      refine lv_bipush (v := nI (32)) hx hb d_Signing_answer_48 (by decide) ?_
      refine lv_icmp_ge (tgt := 105) hx hb d_Signing_answer_50 (by decide) (fun _ => ?_) (fun q => absurd ((g_geN (x := 32) (y := 32) (by omega) (by omega)).mp q) (by omega))
      have hG := g_xi hG 38 (by decide) (zP (X.1 35) (X.1 37) (X.1 27)) (fun j hj => by rw [h38]; exact segI_e _ _ hj)
      have hG := g_xi hG 39 (by decide) (uP (X.1 36) (X.1 37) (X.1 28)) (fun j hj => by rw [uI_n _ _ (show (39 : Nat) ≠ 38 by decide), h39]; exact segI_e _ _ hj)
      exact g_vret hx hb hr hlocks hE hG (⟨(uI_n _ _ (by decide)).trans (uI_s _ _ _), uI_s _ _ _, (uI_n _ _ (by decide)).trans ((uI_n _ _ (by decide)).trans h40), fr_i (fr_i hF _ (by decide)) _ (by decide)⟩) d_Signing_answer_105
    | succ n ih47 =>
      intro i hin47 X1 H locs ls hF h38 h39 h40 hG hl
      have hi47 : i < 32 := by omega
      refine lv_iload_n hx hb d_Signing_answer_47 rfl (lv_at hl 2 rfl) ?_
      refine lv_bipush (v := nI (32)) hx hb d_Signing_answer_48 (by decide) ?_
      refine lv_icmp_ge (tgt := 105) hx hb d_Signing_answer_50 (by decide) (fun q => absurd ((g_ge (x := i) (y := 32) (by omega) (by omega)).mp q) (by omega)) (fun _ => ?_)
      refine lv_aload_n hx hb d_Signing_answer_53 rfl (lv_at hl 0 rfl) ?_
      refine g_get (ci := 4) (v := .ref (g_ad V 38)) (C := R_Signing) (T := F_Signing) (N := 9) hx hb hts (fun w h => List.mem_cons_of_mem _ (in_Signing w h)) hown hE hG 7 (by decide) rfl rfl 5 (by decide) (hts _ (List.mem_cons_of_mem _ kw_132)) (fun _ h9 => h9) rfl d_Signing_answer_54 ?_
      refine lv_iload_n hx hb d_Signing_answer_57 rfl (lv_at hl 2 rfl) ?_
      refine lv_aload_n hx hb d_Signing_answer_58 rfl (lv_at hl 0 rfl) ?_
      refine g_get (ci := 4) (v := .ref (g_ad V 35)) (C := R_Signing) (T := F_Signing) (N := 9) hx hb hts (fun w h => List.mem_cons_of_mem _ (in_Signing w h)) hown hE hG 7 (by decide) rfl rfl 2 (by decide) (hts _ (List.mem_cons_of_mem _ kw_129)) (fun _ h9 => h9) rfl d_Signing_answer_59 ?_
      refine lv_iload_n hx hb d_Signing_answer_62 rfl (lv_at hl 2 rfl) ?_
      refine g_iald hx hb hE hG 35 (by decide) (i) (rfl) (show _ < 32 by omega) (v := X.1 35 i) (congrFun (hF.1 35 (by decide)) _) d_Signing_answer_63 ?_
      refine lv_aload_n hx hb d_Signing_answer_64 rfl (lv_at hl 0 rfl) ?_
      refine g_get (ci := 4) (v := .ref (g_ad V 38)) (C := R_Signing) (T := F_Signing) (N := 9) hx hb hts (fun w h => List.mem_cons_of_mem _ (in_Signing w h)) hown hE hG 7 (by decide) rfl rfl 5 (by decide) (hts _ (List.mem_cons_of_mem _ kw_132)) (fun _ h9 => h9) rfl d_Signing_answer_65 ?_
      refine lv_iload_n hx hb d_Signing_answer_68 rfl (lv_at hl 2 rfl) ?_
      refine g_iald hx hb hE hG 38 (by decide) (i) (rfl) (show _ < 32 by omega) (v := mpP (X.1 37) (X.1 27) i) ((congrFun h38 i).trans (segI_ge _ _ (Nat.le_refl i))) d_Signing_answer_69 ?_
      refine lv_iadd hx hb d_Signing_answer_70 ?_
      refine lv_i2l (v := ((X.1 35 i) + (mpP (X.1 37) (X.1 27) i)).toInt64) hx hb d_Signing_answer_71 rfl ?_
      refine g_callpi (va_runS (As := [.long (((X.1 35 i) + (mpP (X.1 37) (X.1 27) i)).toInt64)]) (rest := [.int (nI (i)), .ref (g_ad V 38)]) ⟨hx, hb, hml, hown, hts⟩ (c_reduce l (X.1 35 i + mpP (X.1 37) (X.1 27) i).toInt64) (va_cwS 1 hts (g_goodS kw_311 kw_424 kw_310 kw_13) rfl rfl rfl (by decide +kernel) ⟨Nat.le_of_ble_eq_true rfl, Nat.le_of_ble_eq_true rfl⟩) ⟨fun _ _ _ _ q => q, fun _ _ _ => rfl⟩ rfl rfl hl.1 rfl (lv_room (Nat.le_of_ble_eq_true rfl)) d_Signing_answer_72 ⟨Nat.le_refl 0, Nat.le_refl 0⟩) (fun r11 q1 => ?_)
      refine g_topi (y := zP (X.1 35) (X.1 37) (X.1 27) i) (q1) ?_
      refine g_iast (x := zP (X.1 35) (X.1 37) (X.1 27) i) hx hb hE hG 38 (by decide) (i) (rfl) (show _ < 32 by omega) d_Signing_answer_75 (fun H locs hG => ?_)
      refine lv_aload_n hx hb d_Signing_answer_76 rfl (lv_at hl 0 rfl) ?_
      refine g_get (ci := 4) (v := .ref (g_ad V 39)) (C := R_Signing) (T := F_Signing) (N := 9) hx hb hts (fun w h => List.mem_cons_of_mem _ (in_Signing w h)) hown hE hG 7 (by decide) rfl rfl 6 (by decide) (hts _ (List.mem_cons_of_mem _ kw_133)) (fun _ h9 => h9) rfl d_Signing_answer_77 ?_
      refine lv_iload_n hx hb d_Signing_answer_80 rfl (lv_at hl 2 rfl) ?_
      refine lv_aload_n hx hb d_Signing_answer_81 rfl (lv_at hl 0 rfl) ?_
      refine g_get (ci := 4) (v := .ref (g_ad V 36)) (C := R_Signing) (T := F_Signing) (N := 9) hx hb hts (fun w h => List.mem_cons_of_mem _ (in_Signing w h)) hown hE hG 7 (by decide) rfl rfl 3 (by decide) (hts _ (List.mem_cons_of_mem _ kw_130)) (fun _ h9 => h9) rfl d_Signing_answer_82 ?_
      refine lv_iload_n hx hb d_Signing_answer_85 rfl (lv_at hl 2 rfl) ?_
      refine g_iald hx hb hE hG 36 (by decide) (i) (rfl) (show _ < 32 by omega) (v := X.1 36 i) ((congrFun (uI_n _ _ (by decide)) i).trans (congrFun (hF.1 36 (by decide)) _)) d_Signing_answer_86 ?_
      refine lv_aload_n hx hb d_Signing_answer_87 rfl (lv_at hl 0 rfl) ?_
      refine g_get (ci := 4) (v := .ref (g_ad V 39)) (C := R_Signing) (T := F_Signing) (N := 9) hx hb hts (fun w h => List.mem_cons_of_mem _ (in_Signing w h)) hown hE hG 7 (by decide) rfl rfl 6 (by decide) (hts _ (List.mem_cons_of_mem _ kw_133)) (fun _ h9 => h9) rfl d_Signing_answer_88 ?_
      refine lv_iload_n hx hb d_Signing_answer_91 rfl (lv_at hl 2 rfl) ?_
      refine g_iald hx hb hE hG 39 (by decide) (i) (rfl) (show _ < 32 by omega) (v := mpP (X.1 37) (X.1 28) i) ((congrFun (uI_n _ _ (by decide)) i).trans ((congrFun h39 i).trans (segI_ge _ _ (Nat.le_refl i)))) d_Signing_answer_92 ?_
      refine lv_isub hx hb d_Signing_answer_93 ?_
      refine lv_i2l (v := ((X.1 36 i) - (mpP (X.1 37) (X.1 28) i)).toInt64) hx hb d_Signing_answer_94 rfl ?_
      refine g_callpi (va_runS (As := [.long (((X.1 36 i) - (mpP (X.1 37) (X.1 28) i)).toInt64)]) (rest := [.int (nI (i)), .ref (g_ad V 39)]) ⟨hx, hb, hml, hown, hts⟩ (c_reduce l (X.1 36 i - mpP (X.1 37) (X.1 28) i).toInt64) (va_cwS 1 hts (g_goodS kw_311 kw_424 kw_310 kw_13) rfl rfl rfl (by decide +kernel) ⟨Nat.le_of_ble_eq_true rfl, Nat.le_of_ble_eq_true rfl⟩) ⟨fun _ _ _ _ q => q, fun _ _ _ => rfl⟩ rfl rfl hl.1 rfl (lv_room (Nat.le_of_ble_eq_true rfl)) d_Signing_answer_95 ⟨Nat.le_refl 0, Nat.le_refl 0⟩) (fun r13 q2 => ?_)
      refine g_topi (y := uP (X.1 36) (X.1 37) (X.1 28) i) (q2) ?_
      refine g_iast (x := uP (X.1 36) (X.1 37) (X.1 28) i) hx hb hE hG 39 (by decide) (i) (rfl) (show _ < 32 by omega) d_Signing_answer_98 (fun H locs hG => ?_)
      refine lv_iinc (v := nI (i + 1)) (lv' := [(2, .int (nI (i + 1))), (0, .ref (g_ad V 7)), (1, .ref (g_ad V 6))]) hx hb d_Signing_answer_99 hl (k := 2) rfl (g_inc _) (by decide) rfl (fun ls hl => ?_)
      refine lv_goto (tgt := 47) hx hb d_Signing_answer_102 (by decide) ?_
      exact ih47 (i + 1) (by omega) (uI (uI X1 38 (upd (X1.1 38) i (zP (X.1 35) (X.1 37) (X.1 27) i))) 39 (upd ((uI X1 38 (upd (X1.1 38) i (zP (X.1 35) (X.1 37) (X.1 27) i))).1 39) i (uP (X.1 36) (X.1 37) (X.1 28) i))) _ _ ls (fr_i (fr_i hF _ (by decide)) _ (by decide)) ((uI_n _ _ (by decide)).trans (by rw [uI_s, h38]; exact segI_s (zP (X.1 35) (X.1 37) (X.1 27)) _ _)) (by rw [uI_s, uI_n _ _ (show (39 : Nat) ≠ 38 by decide), h39]; exact segI_s (uP (X.1 36) (X.1 37) (X.1 28)) _ _) ((uI_n _ _ (by decide)).trans ((uI_n _ _ (by decide)).trans h40)) hG (lv_sub hl [1, 2, 0] rfl)
  exact K47 (32 - 0) 0 (by omega) Xc _ _ ls (fr_tr2 (fr_tr2 (fr_mono qa.2 (a' := [38, 39, 40]) (by decide) (by decide) (by decide)) qb.2 (by decide) (by decide) (by decide)) qc.2 (by decide) (by decide) (by decide)) (by rw [qc.2.1 38 (by decide), qb.2.1 38 (by decide), qa.1, segI_0]) (by rw [qc.2.1 39 (by decide), qb.1, qa.2.1 37 (by decide), qa.2.1 28 (by decide), segI_0]) (by rw [qc.1, qb.2.1 37 (by decide), qb.2.1 29 (by decide), qa.2.1 37 (by decide), qa.2.1 29 (by decide)]) hG (lv_sub hl [1, 2, 0] rfl)

set_option maxHeartbeats 4000000 in
set_option maxRecDepth 100000 in
theorem c_lowsAreShort (l : Launch) (V : Ev) (X : Mm)  : Met l y_Signing_lowsAreShort (Cond.code y_Signing_lowsAreShort b_Signing_lowsAreShort 2 (some .boolean) :: WA) ({ frames := 2, cells := 0, slots := 0, locals := 43 } : Room) (g_Pc V X [.ref (g_ad V 7)]) (g_Qi V (fun (r : Int32) (X1 : Mm) => ((r = nI 1 ∧ ∀ j, j < 32 → abI (loP (X.1 39 j)) < nI 1015) ∨ (r = nI 0 ∧ ∃ j, j < 32 ∧ ¬ abI (loP (X.1 39 j)) < nI 1015)) ∧ X = X1)) 0 0 (g_A V) := by
  refine g_met (by decide) (Nat.le_of_ble_eq_true rfl) ?_
  intro p e s m below meth c hx hb hr hml hown hts hlocks hE hG ls hl
  have hl : lv_has ls 2 [(0, .ref (g_ad V 7))] := hl
  have hown : s.vm.findClass R_Signing = some m.cls := hown
  refine lv_iconst (v := nI (0)) hx hb d_Signing_lowsAreShort_0 (by decide) ?_
  refine lv_istore_n (lv' := [(1, .int (nI (0))), (0, .ref (g_ad V 7))]) hx hb d_Signing_lowsAreShort_1 rfl hl (by decide) rfl (fun ls hl => ?_)
  have K2 : ∀ (n i : Nat), i + n = 32 → ∀ (ls : Array Slot), (∀ j, j < i → abI (loP (X.1 39 j)) < nI 1015) → lv_has ls 2 [(0, .ref (g_ad V 7)), (1, .int (nI (i)))] → W p l e ({ frames := 2, cells := 0, slots := 0, locals := 43 } : Room) s m ([.ref (g_ad V 7)] : List Value).toArray below meth c s.heap [] 0 0 (MQ below (g_Qi V (fun (r : Int32) (X1 : Mm) => ((r = nI 1 ∧ ∀ j, j < 32 → abI (loP (X.1 39 j)) < nI 1015) ∨ (r = nI 0 ∧ ∃ j, j < 32 ∧ ¬ abI (loP (X.1 39 j)) < nI 1015)) ∧ X = X1)) ([.ref (g_ad V 7)] : List Value).toArray s 0 0 (g_A V)) (F0 m 2 ls []) := by
    intro n
    induction n with
    | zero =>
      intro i hin2 ls hA hl
      have hi2 : 32 = i := by omega
      subst hi2
      refine lv_iload_n hx hb d_Signing_lowsAreShort_2 rfl (lv_at hl 1 rfl) ?_
      refine lv_bipush (v := nI (32)) hx hb d_Signing_lowsAreShort_3 (by decide) ?_
      refine lv_icmp_ge (tgt := 34) hx hb d_Signing_lowsAreShort_5 (by decide) (fun _ => ?_) (fun q => absurd ((g_geN (x := 32) (y := 32) (by omega) (by omega)).mp q) (by omega))
      refine lv_iconst (v := nI (1)) hx hb d_Signing_lowsAreShort_34 (by decide) ?_
      exact g_zret hx hb hr hlocks hE hG (by decide) (⟨Or.inl ⟨rfl, hA⟩, rfl⟩) d_Signing_lowsAreShort_35
    | succ n ih2 =>
      intro i hin2 ls hA hl
      have hi2 : i < 32 := by omega
      refine lv_iload_n hx hb d_Signing_lowsAreShort_2 rfl (lv_at hl 1 rfl) ?_
      refine lv_bipush (v := nI (32)) hx hb d_Signing_lowsAreShort_3 (by decide) ?_
      refine lv_icmp_ge (tgt := 34) hx hb d_Signing_lowsAreShort_5 (by decide) (fun q => absurd ((g_ge (x := i) (y := 32) (by omega) (by omega)).mp q) (by omega)) (fun _ => ?_)
      refine lv_aload_n hx hb d_Signing_lowsAreShort_8 rfl (lv_at hl 0 rfl) ?_
      refine g_get (ci := 4) (v := .ref (g_ad V 39)) (C := R_Signing) (T := F_Signing) (N := 9) hx hb hts (fun w h => List.mem_cons_of_mem _ (in_Signing w h)) hown hE hG 7 (by decide) rfl rfl 6 (by decide) (hts _ (List.mem_cons_of_mem _ kw_133)) (fun _ h9 => h9) rfl d_Signing_lowsAreShort_9 ?_
      refine lv_iload_n hx hb d_Signing_lowsAreShort_12 rfl (lv_at hl 1 rfl) ?_
      refine g_iald hx hb hE hG 39 (by decide) (i) (rfl) (show _ < 32 by omega) (v := X.1 39 i) (rfl) d_Signing_lowsAreShort_13 ?_
      refine g_callpi (va_runS (As := [.int (X.1 39 i)]) (rest := []) ⟨hx, hb, hml, hown, hts⟩ (c_lowOf l (X.1 39 i)) (va_cwS 1 hts (g_goodS kw_445 kw_443 kw_444 kw_14) rfl rfl rfl (by decide +kernel) ⟨Nat.le_of_ble_eq_true rfl, Nat.le_of_ble_eq_true rfl⟩) ⟨fun _ _ _ _ q => q, fun _ _ _ => rfl⟩ rfl rfl hl.1 rfl (lv_room (Nat.le_of_ble_eq_true rfl)) d_Signing_lowsAreShort_14 ⟨Nat.le_refl 0, Nat.le_refl 0⟩) (fun r2 q1 => ?_)
      refine g_topi (y := loP (X.1 39 i)) (q1) ?_
      refine va_mabs hx hb (hml.trans hl.1.symm) hown (hts _ (List.mem_cons_of_mem _ kw_446)) (hts _ (List.mem_cons_of_mem _ kw_434)) (hts _ (List.mem_cons_of_mem _ kw_16)) (hts _ (List.mem_cons_of_mem _ kw_435)) (Nat.le_of_ble_eq_true rfl) (Nat.le_of_ble_eq_true rfl) (Nat.le_refl 0) (Nat.le_refl 0) d_Signing_lowsAreShort_17 ?_
      refine g_topi (y := abI (loP (X.1 39 i))) rfl ?_
      refine lv_sipush (v := nI (1015)) hx hb d_Signing_lowsAreShort_20 (by decide) ?_
      refine lv_icmp_lt (tgt := 28) hx hb d_Signing_lowsAreShort_23 (by decide) (fun c23 => ?_) (fun c23 => ?_)
      · refine lv_iinc (v := nI (i + 1)) (lv' := [(1, .int (nI (i + 1))), (0, .ref (g_ad V 7))]) hx hb d_Signing_lowsAreShort_28 hl (k := 1) rfl (g_inc _) (by decide) rfl (fun ls hl => ?_)
        refine lv_goto (tgt := 2) hx hb d_Signing_lowsAreShort_31 (by decide) ?_
        exact ih2 (i + 1) (by omega) ls (lt_s hA c23) (lv_sub hl [1, 0] rfl)
      · refine lv_iconst (v := nI (0)) hx hb d_Signing_lowsAreShort_26 (by decide) ?_
        exact g_zret hx hb hr hlocks hE hG (by decide) (⟨Or.inr ⟨rfl, i, by omega, c23⟩, rfl⟩) d_Signing_lowsAreShort_27
  exact K2 (32 - 0) 0 (by omega) ls lt_0 (lv_sub hl [1, 0] rfl)

set_option maxHeartbeats 4000000 in
set_option maxRecDepth 100000 in
theorem c_fillHints (l : Launch) (V : Ev) (X : Mm)  : Met l y_Signing_fillHints (Cond.code y_Signing_fillHints b_Signing_fillHints 3 (some .int) :: WA) ({ frames := 3, cells := 0, slots := 0, locals := 65 } : Room) (g_Pc V X [.ref (g_ad V 7)]) (g_Qi V (fun (r : Int32) (X1 : Mm) => r = ctN (hnP (X.1 39) (X.1 40)) 32 ∧ X1.1 41 = (hnP (X.1 39) (X.1 40)) ∧ fr X X1 [41] [] [])) 0 0 (g_A V) := by
  refine g_met (by decide) (Nat.le_of_ble_eq_true rfl) ?_
  intro p e s m below meth c hx hb hr hml hown hts hlocks hE hG ls hl
  have hl : lv_has ls 3 [(0, .ref (g_ad V 7))] := hl
  have hown : s.vm.findClass R_Signing = some m.cls := hown
  refine lv_iconst (v := nI (0)) hx hb d_Signing_fillHints_0 (by decide) ?_
  refine lv_istore_n (lv' := [(1, .int (nI (0))), (0, .ref (g_ad V 7))]) hx hb d_Signing_fillHints_1 rfl hl (by decide) rfl (fun ls hl => ?_)
  refine lv_iconst (v := nI (0)) hx hb d_Signing_fillHints_2 (by decide) ?_
  refine lv_istore_n (lv' := [(2, .int (nI (0))), (1, .int (nI (0))), (0, .ref (g_ad V 7))]) hx hb d_Signing_fillHints_3 rfl hl (by decide) rfl (fun ls hl => ?_)
  have K4 : ∀ (n i : Nat), i + n = 32 → ∀ (X1 : Mm) (H : Heap) (locs : List Loc), ∀ (ls : Array Slot), (fr X X1 [41] [] []) → (X1.1 41 = segI (hnP (X.1 39) (X.1 40)) (X.1 41) i) → g_st V X1 s.heap H locs → lv_has ls 3 [(0, .ref (g_ad V 7)), (1, .int (ctN (hnP (X.1 39) (X.1 40)) i)), (2, .int (nI (i)))] → W p l e ({ frames := 3, cells := 0, slots := 0, locals := 65 } : Room) s m ([.ref (g_ad V 7)] : List Value).toArray below meth c H locs 0 0 (MQ below (g_Qi V (fun (r : Int32) (X1 : Mm) => r = ctN (hnP (X.1 39) (X.1 40)) 32 ∧ X1.1 41 = (hnP (X.1 39) (X.1 40)) ∧ fr X X1 [41] [] [])) ([.ref (g_ad V 7)] : List Value).toArray s 0 0 (g_A V)) (F0 m 4 ls []) := by
    intro n
    induction n with
    | zero =>
      intro i hin4 X1 H locs ls hF hC hG hl
      have hi4 : 32 = i := by omega
      subst hi4
      refine lv_iload_n hx hb d_Signing_fillHints_4 rfl (lv_at hl 2 rfl) ?_
      refine lv_bipush (v := nI (32)) hx hb d_Signing_fillHints_5 (by decide) ?_
      refine lv_icmp_ge (tgt := 59) hx hb d_Signing_fillHints_7 (by decide) (fun _ => ?_) (fun q => absurd ((g_geN (x := 32) (y := 32) (by omega) (by omega)).mp q) (by omega))
      have hG := g_xi hG 41 (by decide) (hnP (X.1 39) (X.1 40)) (fun j hj => by rw [hC]; exact segI_e _ _ hj)
      refine lv_iload_n hx hb d_Signing_fillHints_59 rfl (lv_at hl 1 rfl) ?_
      exact g_iret hx hb hr hlocks hE hG (⟨rfl, uI_s _ _ _, fr_i hF _ (by decide)⟩) d_Signing_fillHints_60
    | succ n ih4 =>
      intro i hin4 X1 H locs ls hF hC hG hl
      have hi4 : i < 32 := by omega
      refine lv_iload_n hx hb d_Signing_fillHints_4 rfl (lv_at hl 2 rfl) ?_
      refine lv_bipush (v := nI (32)) hx hb d_Signing_fillHints_5 (by decide) ?_
      refine lv_icmp_ge (tgt := 59) hx hb d_Signing_fillHints_7 (by decide) (fun q => absurd ((g_ge (x := i) (y := 32) (by omega) (by omega)).mp q) (by omega)) (fun _ => ?_)
      refine lv_aload_n hx hb d_Signing_fillHints_10 rfl (lv_at hl 0 rfl) ?_
      refine g_get (ci := 4) (v := .ref (g_ad V 41)) (C := R_Signing) (T := F_Signing) (N := 9) hx hb hts (fun w h => List.mem_cons_of_mem _ (in_Signing w h)) hown hE hG 7 (by decide) rfl rfl 8 (by decide) (hts _ (List.mem_cons_of_mem _ kw_135)) (fun _ h9 => h9) rfl d_Signing_fillHints_11 ?_
      refine lv_iload_n hx hb d_Signing_fillHints_14 rfl (lv_at hl 2 rfl) ?_
      refine lv_aload_n hx hb d_Signing_fillHints_15 rfl (lv_at hl 0 rfl) ?_
      refine g_get (ci := 4) (v := .ref (g_ad V 40)) (C := R_Signing) (T := F_Signing) (N := 9) hx hb hts (fun w h => List.mem_cons_of_mem _ (in_Signing w h)) hown hE hG 7 (by decide) rfl rfl 7 (by decide) (hts _ (List.mem_cons_of_mem _ kw_134)) (fun _ h9 => h9) rfl d_Signing_fillHints_16 ?_
      refine lv_iload_n hx hb d_Signing_fillHints_19 rfl (lv_at hl 2 rfl) ?_
      refine g_iald hx hb hE hG 40 (by decide) (i) (rfl) (show _ < 32 by omega) (v := X.1 40 i) (congrFun (hF.1 40 (by decide)) _) d_Signing_fillHints_20 ?_
      refine lv_ineg hx hb d_Signing_fillHints_21 ?_
      refine lv_i2l (v := (-(X.1 40 i)).toInt64) hx hb d_Signing_fillHints_22 rfl ?_
      refine lv_aload_n hx hb d_Signing_fillHints_23 rfl (lv_at hl 0 rfl) ?_
      refine g_get (ci := 4) (v := .ref (g_ad V 39)) (C := R_Signing) (T := F_Signing) (N := 9) hx hb hts (fun w h => List.mem_cons_of_mem _ (in_Signing w h)) hown hE hG 7 (by decide) rfl rfl 6 (by decide) (hts _ (List.mem_cons_of_mem _ kw_133)) (fun _ h9 => h9) rfl d_Signing_fillHints_24 ?_
      refine lv_iload_n hx hb d_Signing_fillHints_27 rfl (lv_at hl 2 rfl) ?_
      refine g_iald hx hb hE hG 39 (by decide) (i) (rfl) (show _ < 32 by omega) (v := X.1 39 i) (congrFun (hF.1 39 (by decide)) _) d_Signing_fillHints_28 ?_
      refine lv_aload_n hx hb d_Signing_fillHints_29 rfl (lv_at hl 0 rfl) ?_
      refine g_get (ci := 4) (v := .ref (g_ad V 40)) (C := R_Signing) (T := F_Signing) (N := 9) hx hb hts (fun w h => List.mem_cons_of_mem _ (in_Signing w h)) hown hE hG 7 (by decide) rfl rfl 7 (by decide) (hts _ (List.mem_cons_of_mem _ kw_134)) (fun _ h9 => h9) rfl d_Signing_fillHints_30 ?_
      refine lv_iload_n hx hb d_Signing_fillHints_33 rfl (lv_at hl 2 rfl) ?_
      refine g_iald hx hb hE hG 40 (by decide) (i) (rfl) (show _ < 32 by omega) (v := X.1 40 i) (congrFun (hF.1 40 (by decide)) _) d_Signing_fillHints_34 ?_
      refine lv_iadd hx hb d_Signing_fillHints_35 ?_
      refine lv_i2l (v := ((X.1 39 i) + (X.1 40 i)).toInt64) hx hb d_Signing_fillHints_36 rfl ?_
      refine g_callpi (va_runS (As := [.long (((X.1 39 i) + (X.1 40 i)).toInt64)]) (rest := [.long ((-(X.1 40 i)).toInt64), .int (nI (i)), .ref (g_ad V 41)]) ⟨hx, hb, hml, hown, hts⟩ (c_reduce l (X.1 39 i + X.1 40 i).toInt64) (va_cwS 1 hts (g_goodS kw_311 kw_424 kw_310 kw_13) rfl rfl rfl (by decide +kernel) ⟨Nat.le_of_ble_eq_true rfl, Nat.le_of_ble_eq_true rfl⟩) ⟨fun _ _ _ _ q => q, fun _ _ _ => rfl⟩ rfl rfl hl.1 rfl (lv_room (Nat.le_of_ble_eq_true rfl)) d_Signing_fillHints_37 ⟨Nat.le_refl 0, Nat.le_refl 0⟩) (fun r2 q1 => ?_)
      refine g_topi (y := redP (X.1 39 i + X.1 40 i).toInt64) (q1) ?_
      refine g_callpi (va_runS (As := [.long ((-(X.1 40 i)).toInt64), .int (redP (X.1 39 i + X.1 40 i).toInt64)]) (rest := [.int (nI (i)), .ref (g_ad V 41)]) ⟨hx, hb, hml, hown, hts⟩ (c_hintOf l (-(X.1 40 i)).toInt64 (redP (X.1 39 i + X.1 40 i).toInt64)) (va_cwS 2 hts (g_goodS kw_453 kw_451 kw_452 kw_14) rfl rfl rfl (by decide +kernel) ⟨Nat.le_of_ble_eq_true rfl, Nat.le_of_ble_eq_true rfl⟩) ⟨fun _ _ _ _ q => q, fun _ _ _ => rfl⟩ rfl rfl hl.1 rfl (lv_room (Nat.le_of_ble_eq_true rfl)) d_Signing_fillHints_40 ⟨Nat.le_refl 0, Nat.le_refl 0⟩) (fun r4 q2 => ?_)
      refine g_topi (y := hnP (X.1 39) (X.1 40) i) (q2) ?_
      refine g_iast (x := hnP (X.1 39) (X.1 40) i) hx hb hE hG 41 (by decide) (i) (rfl) (show _ < 32 by omega) d_Signing_fillHints_43 (fun H locs hG => ?_)
      refine lv_iload_n hx hb d_Signing_fillHints_44 rfl (lv_at hl 1 rfl) ?_
      refine lv_aload_n hx hb d_Signing_fillHints_45 rfl (lv_at hl 0 rfl) ?_
      refine g_get (ci := 4) (v := .ref (g_ad V 41)) (C := R_Signing) (T := F_Signing) (N := 9) hx hb hts (fun w h => List.mem_cons_of_mem _ (in_Signing w h)) hown hE hG 7 (by decide) rfl rfl 8 (by decide) (hts _ (List.mem_cons_of_mem _ kw_135)) (fun _ h9 => h9) rfl d_Signing_fillHints_46 ?_
      refine lv_iload_n hx hb d_Signing_fillHints_49 rfl (lv_at hl 2 rfl) ?_
      refine g_iald hx hb hE hG 41 (by decide) (i) (rfl) (show _ < 32 by omega) (v := hnP (X.1 39) (X.1 40) i) (by rw [uI_s]; exact pk_us) d_Signing_fillHints_50 ?_
      refine lv_iadd hx hb d_Signing_fillHints_51 ?_
      refine lv_istore_n (lv' := [(1, .int ((ctN (hnP (X.1 39) (X.1 40)) i) + (hnP (X.1 39) (X.1 40) i))), (0, .ref (g_ad V 7)), (2, .int (nI (i)))]) hx hb d_Signing_fillHints_52 rfl hl (by decide) rfl (fun ls hl => ?_)
      refine lv_iinc (v := nI (i + 1)) (lv' := [(2, .int (nI (i + 1))), (1, .int ((ctN (hnP (X.1 39) (X.1 40)) i) + (hnP (X.1 39) (X.1 40) i))), (0, .ref (g_ad V 7))]) hx hb d_Signing_fillHints_53 hl (k := 2) rfl (g_inc _) (by decide) rfl (fun ls hl => ?_)
      refine lv_goto (tgt := 4) hx hb d_Signing_fillHints_56 (by decide) ?_
      exact ih4 (i + 1) (by omega) (uI X1 41 (upd (X1.1 41) i (hnP (X.1 39) (X.1 40) i))) _ _ ls (fr_i hF _ (by decide)) (by rw [uI_s, hC]; exact segI_s (hnP (X.1 39) (X.1 40)) _ _) hG (lv_sub hl [2, 1, 0] rfl)
  exact K4 (32 - 0) 0 (by omega) X _ _ ls (fr_rf X _ _ _) (segI_0 _ _).symm hG (lv_sub hl [2, 1, 0] rfl)

set_option maxHeartbeats 4000000 in
set_option maxRecDepth 100000 in
theorem c_trySucceeds (l : Launch) (V : Ev) (X : Mm) (k : Nat) (hk : k ≤ 30) (hB : ∀ j, j < 48 → isB (X.1 32 j)) : Met l y_Signing_trySucceeds (Cond.code y_Signing_trySucceeds b_Signing_trySucceeds 4 (some .boolean) :: WA) ({ frames := 5, cells := 0, slots := 0, locals := 112 } : Room) (g_Pc V X [.ref (g_ad V 7), .ref (g_ad V 1), .ref (g_ad V 6), .int (nI (k))]) (g_Qi V (fun (r : Int32) (X1 : Mm) => ((szN (zP (widP (X.1 34) (2 * k)) (blP (HS (HS (apB (X.1 31) 16 (pcP (fun i => hiP ((mmP (X.1 26) (widP (X.1 34) (2 * k))) i)) 0 12 32)) 64) 8)) (X.1 27)) 32 < nI 504 ∧ (∀ j, j < 32 → abI (loP ((uP (mmP (X.1 26) (widP (X.1 34) (2 * k))) (blP (HS (HS (apB (X.1 31) 16 (pcP (fun i => hiP ((mmP (X.1 26) (widP (X.1 34) (2 * k))) i)) 0 12 32)) 64) 8)) (X.1 28)) j)) < nI 1015) ∧ szN (mpP (blP (HS (HS (apB (X.1 31) 16 (pcP (fun i => hiP ((mmP (X.1 26) (widP (X.1 34) (2 * k))) i)) 0 12 32)) 64) 8)) (X.1 29)) 32 < nI 1023 ∧ ctN (hnP (uP (mmP (X.1 26) (widP (X.1 34) (2 * k))) (blP (HS (HS (apB (X.1 31) 16 (pcP (fun i => hiP ((mmP (X.1 26) (widP (X.1 34) (2 * k))) i)) 0 12 32)) 64) 8)) (X.1 28)) (mpP (blP (HS (HS (apB (X.1 31) 16 (pcP (fun i => hiP ((mmP (X.1 26) (widP (X.1 34) (2 * k))) i)) 0 12 32)) 64) 8)) (X.1 29))) 32 ≤ nI 12) → r = nI 1 ∧ X1.1 33 = (HS (apB (X.1 31) 16 (pcP (fun i => hiP ((mmP (X.1 26) (widP (X.1 34) (2 * k))) i)) 0 12 32)) 64) ∧ X1.1 38 = (zP (widP (X.1 34) (2 * k)) (blP (HS (HS (apB (X.1 31) 16 (pcP (fun i => hiP ((mmP (X.1 26) (widP (X.1 34) (2 * k))) i)) 0 12 32)) 64) 8)) (X.1 27)) ∧ X1.1 41 = hnP (uP (mmP (X.1 26) (widP (X.1 34) (2 * k))) (blP (HS (HS (apB (X.1 31) 16 (pcP (fun i => hiP ((mmP (X.1 26) (widP (X.1 34) (2 * k))) i)) 0 12 32)) 64) 8)) (X.1 28)) (mpP (blP (HS (HS (apB (X.1 31) 16 (pcP (fun i => hiP ((mmP (X.1 26) (widP (X.1 34) (2 * k))) i)) 0 12 32)) 64) 8)) (X.1 29))) ∧ (¬ (szN (zP (widP (X.1 34) (2 * k)) (blP (HS (HS (apB (X.1 31) 16 (pcP (fun i => hiP ((mmP (X.1 26) (widP (X.1 34) (2 * k))) i)) 0 12 32)) 64) 8)) (X.1 27)) 32 < nI 504 ∧ (∀ j, j < 32 → abI (loP ((uP (mmP (X.1 26) (widP (X.1 34) (2 * k))) (blP (HS (HS (apB (X.1 31) 16 (pcP (fun i => hiP ((mmP (X.1 26) (widP (X.1 34) (2 * k))) i)) 0 12 32)) 64) 8)) (X.1 28)) j)) < nI 1015) ∧ szN (mpP (blP (HS (HS (apB (X.1 31) 16 (pcP (fun i => hiP ((mmP (X.1 26) (widP (X.1 34) (2 * k))) i)) 0 12 32)) 64) 8)) (X.1 29)) 32 < nI 1023 ∧ ctN (hnP (uP (mmP (X.1 26) (widP (X.1 34) (2 * k))) (blP (HS (HS (apB (X.1 31) 16 (pcP (fun i => hiP ((mmP (X.1 26) (widP (X.1 34) (2 * k))) i)) 0 12 32)) 64) 8)) (X.1 28)) (mpP (blP (HS (HS (apB (X.1 31) 16 (pcP (fun i => hiP ((mmP (X.1 26) (widP (X.1 34) (2 * k))) i)) 0 12 32)) 64) 8)) (X.1 29))) 32 ≤ nI 12) → r = nI 0) ∧ X1.1 32 = (pcP (fun i => hiP ((mmP (X.1 26) (widP (X.1 34) (2 * k))) i)) 0 12 32) ∧ fr X X1 [17, 32, 33, 35, 36, 37, 38, 39, 40, 41] [2, 3, 4] [1])) 0 0 (g_A V) := by
  refine g_met (by decide) (Nat.le_of_ble_eq_true rfl) ?_
  intro p e s m below meth c hx hb hr hml hown hts hlocks hE hG ls hl
  have hl : lv_has ls 4 [(0, .ref (g_ad V 7)), (1, .ref (g_ad V 1)), (2, .ref (g_ad V 6)), (3, .int (nI (k)))] := hl
  have hown : s.vm.findClass R_Signing = some m.cls := hown
  refine lv_aload_n hx hb d_Signing_trySucceeds_0 rfl (lv_at hl 1 rfl) ?_
  refine lv_aload_n hx hb d_Signing_trySucceeds_1 rfl (lv_at hl 0 rfl) ?_
  refine g_get (ci := 4) (v := .ref (g_ad V 34)) (C := R_Signing) (T := F_Signing) (N := 9) hx hb hts (fun w h => List.mem_cons_of_mem _ (in_Signing w h)) hown hE hG 7 (by decide) rfl rfl 1 (by decide) (hts _ (List.mem_cons_of_mem _ kw_128)) (fun _ h9 => h9) rfl d_Signing_trySucceeds_2 ?_
  refine lv_iconst (v := nI (2)) hx hb d_Signing_trySucceeds_5 (by decide) ?_
  refine lv_iload_n hx hb d_Signing_trySucceeds_6 rfl (lv_at hl 3 rfl) ?_
  refine lv_imul hx hb d_Signing_trySucceeds_7 ?_
  refine g_topi (y := nI (2 * k)) (pk_mul _ _) ?_
  refine lv_aload_n hx hb d_Signing_trySucceeds_8 rfl (lv_at hl 0 rfl) ?_
  refine g_get (ci := 4) (v := .ref (g_ad V 35)) (C := R_Signing) (T := F_Signing) (N := 9) hx hb hts (fun w h => List.mem_cons_of_mem _ (in_Signing w h)) hown hE hG 7 (by decide) rfl rfl 2 (by decide) (hts _ (List.mem_cons_of_mem _ kw_129)) (fun _ h9 => h9) rfl d_Signing_trySucceeds_9 ?_
  refine g_callv (va_runS (As := [.ref (g_ad V 1), .ref (g_ad V 34), .int (nI (2 * k)), .ref (g_ad V 35)]) (rest := []) ⟨hx, hb, hml, hown, hts⟩ (c_fillWideVector_35 l V X (2 * k) (by omega)) (va_cwS 4 hts (g_goodS kw_383 kw_381 kw_382 kw_12) rfl rfl rfl (by decide +kernel) ⟨Nat.le_of_ble_eq_true rfl, Nat.le_of_ble_eq_true rfl⟩) (g_preS hE hG) rfl rfl hl.1 rfl (lv_room (Nat.le_of_ble_eq_true rfl)) d_Signing_trySucceeds_12 ⟨Nat.le_refl 0, Nat.le_refl 0⟩) hG (fun X2 H locs q2 hG => ?_)
  refine lv_aload_n hx hb d_Signing_trySucceeds_15 rfl (lv_at hl 2 rfl) ?_
  refine g_getN (ci := 3) (v := .ref (g_ad V 26)) (C := R_SecretKey) (T := F_SecretKey) (N := 9) hx hb hts (fun w h => List.mem_cons_of_mem _ (in_SecretKey w h)) hown hE hG 6 (by decide) rfl rfl 4 (by decide) (nf_Signing_87) (fun _ h9 => h9) rfl d_Signing_trySucceeds_16 ?_
  refine lv_aload_n hx hb d_Signing_trySucceeds_19 rfl (lv_at hl 0 rfl) ?_
  refine g_get (ci := 4) (v := .ref (g_ad V 35)) (C := R_Signing) (T := F_Signing) (N := 9) hx hb hts (fun w h => List.mem_cons_of_mem _ (in_Signing w h)) hown hE hG 7 (by decide) rfl rfl 2 (by decide) (hts _ (List.mem_cons_of_mem _ kw_129)) (fun _ h9 => h9) rfl d_Signing_trySucceeds_20 ?_
  refine lv_aload_n hx hb d_Signing_trySucceeds_23 rfl (lv_at hl 0 rfl) ?_
  refine g_get (ci := 4) (v := .ref (g_ad V 36)) (C := R_Signing) (T := F_Signing) (N := 9) hx hb hts (fun w h => List.mem_cons_of_mem _ (in_Signing w h)) hown hE hG 7 (by decide) rfl rfl 3 (by decide) (hts _ (List.mem_cons_of_mem _ kw_130)) (fun _ h9 => h9) rfl d_Signing_trySucceeds_24 ?_
  refine g_callv (va_runS (As := [.ref (g_ad V 26), .ref (g_ad V 35), .ref (g_ad V 36)]) (rest := []) ⟨hx, hb, hml, hown, hts⟩ (c_applyMatrix l V X2 26 (by decide) rfl 35 (by decide) rfl 36 (by decide) rfl (by decide) (by decide)) (va_cwS 3 hts (g_goodS kw_305 kw_390 kw_304 kw_13) rfl rfl rfl (by decide +kernel) ⟨Nat.le_of_ble_eq_true rfl, Nat.le_of_ble_eq_true rfl⟩) (g_preS hE hG) rfl rfl hl.1 rfl (lv_room (Nat.le_of_ble_eq_true rfl)) d_Signing_trySucceeds_27 ⟨Nat.le_refl 0, Nat.le_refl 0⟩) hG (fun X3 H locs q3 hG => ?_)
  refine lv_aload_n hx hb d_Signing_trySucceeds_30 rfl (lv_at hl 0 rfl) ?_
  refine g_callv (va_runV (As := []) (rest := []) ⟨hx, hb, hml, hown, hts⟩ (c_noteHighs l V X3 (fun j hj => by rw [q3.2.1 32 (by decide), q2.2.1 32 (by decide)]; exact hB j hj)) (cwV 0 hts (g_goodV kw_394 kw_391 kw_393 kp_5 kw_5) rfl rfl rfl (by decide +kernel) ⟨Nat.le_of_ble_eq_true rfl, Nat.le_of_ble_eq_true rfl⟩) (g_preV (k0 := 7) (ci := 4) hE hG (by decide) rfl rfl) rfl rfl hl.1 rfl (lv_room (Nat.le_of_ble_eq_true rfl)) d_Signing_trySucceeds_31 ⟨Nat.le_refl 0, Nat.le_refl 0⟩) hG (fun X4 H locs q4 hG => ?_)
  refine lv_aload_n hx hb d_Signing_trySucceeds_34 rfl (lv_at hl 0 rfl) ?_
  refine g_get (ci := 4) (v := .ref (g_ad V 8)) (C := R_Signing) (T := F_Signing) (N := 9) hx hb hts (fun w h => List.mem_cons_of_mem _ (in_Signing w h)) hown hE hG 7 (by decide) rfl rfl 0 (by decide) (hts _ (List.mem_cons_of_mem _ kw_127)) (fun _ h9 => h9) rfl d_Signing_trySucceeds_35 ?_
  refine lv_aload_n hx hb d_Signing_trySucceeds_38 rfl (lv_at hl 1 rfl) ?_
  refine g_callv (va_runV (As := [.ref (g_ad V 1)]) (rest := []) ⟨hx, hb, hml, hown, hts⟩ (c_tr_close_8 l V X4 ) (cwV 1 hts (g_goodV kw_407 kw_404 kw_405 kw_406 kw_6) rfl rfl rfl (by decide +kernel) ⟨Nat.le_of_ble_eq_true rfl, Nat.le_of_ble_eq_true rfl⟩) (g_preV (k0 := 8) (ci := 5) hE hG (by decide) rfl rfl) rfl rfl hl.1 rfl (lv_room (Nat.le_of_ble_eq_true rfl)) d_Signing_trySucceeds_39 ⟨Nat.le_refl 0, Nat.le_refl 0⟩) hG (fun X5 H locs q5 hG => ?_)
  refine lv_aload_n hx hb d_Signing_trySucceeds_42 rfl (lv_at hl 1 rfl) ?_
  refine lv_aload_n hx hb d_Signing_trySucceeds_43 rfl (lv_at hl 0 rfl) ?_
  refine g_get (ci := 4) (v := .ref (g_ad V 8)) (C := R_Signing) (T := F_Signing) (N := 9) hx hb hts (fun w h => List.mem_cons_of_mem _ (in_Signing w h)) hown hE hG 7 (by decide) rfl rfl 0 (by decide) (hts _ (List.mem_cons_of_mem _ kw_127)) (fun _ h9 => h9) rfl d_Signing_trySucceeds_44 ?_
  refine g_getN (ci := 5) (v := .ref (g_ad V 33)) (C := R_Transcript) (T := F_Transcript) (N := 3) hx hb hts (fun w h => List.mem_cons_of_mem _ (in_Transcript w h)) hown hE hG 8 (by decide) rfl rfl 2 (by decide) (nf_Signing_103) (fun _ h9 => h9) rfl d_Signing_trySucceeds_47 ?_
  refine lv_aload_n hx hb d_Signing_trySucceeds_50 rfl (lv_at hl 0 rfl) ?_
  refine g_get (ci := 4) (v := .ref (g_ad V 37)) (C := R_Signing) (T := F_Signing) (N := 9) hx hb hts (fun w h => List.mem_cons_of_mem _ (in_Signing w h)) hown hE hG 7 (by decide) rfl rfl 4 (by decide) (hts _ (List.mem_cons_of_mem _ kw_131)) (fun _ h9 => h9) rfl d_Signing_trySucceeds_51 ?_
  refine g_callv (va_runS (As := [.ref (g_ad V 1), .ref (g_ad V 33), .ref (g_ad V 37)]) (rest := []) ⟨hx, hb, hml, hown, hts⟩ (c_fillBall_37 l V X5 ) (va_cwS 3 hts (g_goodS kw_410 kw_408 kw_409 kw_12) rfl rfl rfl (by decide +kernel) ⟨Nat.le_of_ble_eq_true rfl, Nat.le_of_ble_eq_true rfl⟩) (g_preS hE hG) rfl rfl hl.1 rfl (lv_room (Nat.le_of_ble_eq_true rfl)) d_Signing_trySucceeds_54 ⟨Nat.le_refl 0, Nat.le_refl 0⟩) hG (fun X6 H locs q6 hG => ?_)
  refine lv_aload_n hx hb d_Signing_trySucceeds_57 rfl (lv_at hl 0 rfl) ?_
  refine lv_aload_n hx hb d_Signing_trySucceeds_58 rfl (lv_at hl 2 rfl) ?_
  refine g_callv (va_runV (As := [.ref (g_ad V 6)]) (rest := []) ⟨hx, hb, hml, hown, hts⟩ (c_answer l V X6 ) (cwV 1 hts (g_goodV kw_420 kw_417 kw_419 kp_6 kw_5) rfl rfl rfl (by decide +kernel) ⟨Nat.le_of_ble_eq_true rfl, Nat.le_of_ble_eq_true rfl⟩) (g_preV (k0 := 7) (ci := 4) hE hG (by decide) rfl rfl) rfl rfl hl.1 rfl (lv_room (Nat.le_of_ble_eq_true rfl)) d_Signing_trySucceeds_59 ⟨Nat.le_refl 0, Nat.le_refl 0⟩) hG (fun X7 H locs q7 hG => ?_)
  have f7 : fr X X7 [17, 32, 33, 35, 36, 37, 38, 39, 40, 41] [2, 3, 4] [1] := (fr_tr2 (fr_tr2 (fr_tr2 (fr_tr2 (fr_tr2 (fr_mono q2.2 (a' := [17, 32, 33, 35, 36, 37, 38, 39, 40, 41]) (b' := [2, 3, 4]) (c' := [1]) (by decide) (by decide) (by decide)) q3.2 (by decide) (by decide) (by decide)) q4.2 (by decide) (by decide) (by decide)) q5.2 (by decide) (by decide) (by decide)) q6.2 (by decide) (by decide) (by decide)) q7.2.2.2 (by decide) (by decide) (by decide))
  have w36 : X3.1 36 = (mmP (X.1 26) (widP (X.1 34) (2 * k))) := by rw [q3.1, q2.2.1 26 (by decide), q2.1]
  have w32 : X4.1 32 = (pcP (fun i => hiP ((mmP (X.1 26) (widP (X.1 34) (2 * k))) i)) 0 12 32) := by rw [q4.1, w36]
  have w33 : X5.1 33 = (HS (apB (X.1 31) 16 (pcP (fun i => hiP ((mmP (X.1 26) (widP (X.1 34) (2 * k))) i)) 0 12 32)) 64) := by rw [q5.1, w32, q4.2.1 31 (by decide), q3.2.1 31 (by decide), q2.2.1 31 (by decide)]
  have w37 : X6.1 37 = (blP (HS (HS (apB (X.1 31) 16 (pcP (fun i => hiP ((mmP (X.1 26) (widP (X.1 34) (2 * k))) i)) 0 12 32)) 64) 8)) := by rw [q6.1, w33]
  have w35 : X6.1 35 = (widP (X.1 34) (2 * k)) := by rw [q6.2.1 35 (by decide), q5.2.1 35 (by decide), q4.2.1 35 (by decide), q3.2.1 35 (by decide), q2.1]
  have v36 : X6.1 36 = (mmP (X.1 26) (widP (X.1 34) (2 * k))) := by rw [q6.2.1 36 (by decide), q5.2.1 36 (by decide), q4.2.1 36 (by decide), w36]
  have v27 : X6.1 27 = X.1 27 := by rw [q6.2.1 27 (by decide), q5.2.1 27 (by decide), q4.2.1 27 (by decide), q3.2.1 27 (by decide), q2.2.1 27 (by decide)]
  have v28 : X6.1 28 = X.1 28 := by rw [q6.2.1 28 (by decide), q5.2.1 28 (by decide), q4.2.1 28 (by decide), q3.2.1 28 (by decide), q2.2.1 28 (by decide)]
  have v29 : X6.1 29 = X.1 29 := by rw [q6.2.1 29 (by decide), q5.2.1 29 (by decide), q4.2.1 29 (by decide), q3.2.1 29 (by decide), q2.2.1 29 (by decide)]
  have z38 : X7.1 38 = (zP (widP (X.1 34) (2 * k)) (blP (HS (HS (apB (X.1 31) 16 (pcP (fun i => hiP ((mmP (X.1 26) (widP (X.1 34) (2 * k))) i)) 0 12 32)) 64) 8)) (X.1 27)) := by rw [q7.1, w35, w37, v27]
  have z39 : X7.1 39 = (uP (mmP (X.1 26) (widP (X.1 34) (2 * k))) (blP (HS (HS (apB (X.1 31) 16 (pcP (fun i => hiP ((mmP (X.1 26) (widP (X.1 34) (2 * k))) i)) 0 12 32)) 64) 8)) (X.1 28)) := by rw [q7.2.1, v36, w37, v28]
  have z40 : X7.1 40 = (mpP (blP (HS (HS (apB (X.1 31) 16 (pcP (fun i => hiP ((mmP (X.1 26) (widP (X.1 34) (2 * k))) i)) 0 12 32)) 64) 8)) (X.1 29)) := by rw [q7.2.2.1, w37, v29]
  have z32 : X7.1 32 = (pcP (fun i => hiP ((mmP (X.1 26) (widP (X.1 34) (2 * k))) i)) 0 12 32) := by rw [q7.2.2.2.1 32 (by decide), q6.2.1 32 (by decide), q5.2.1 32 (by decide), w32]
  have z33 : X7.1 33 = (HS (apB (X.1 31) 16 (pcP (fun i => hiP ((mmP (X.1 26) (widP (X.1 34) (2 * k))) i)) 0 12 32)) 64) := by rw [q7.2.2.2.1 33 (by decide), q6.2.1 33 (by decide), w33]
  refine lv_aload_n hx hb d_Signing_trySucceeds_62 rfl (lv_at hl 0 rfl) ?_
  refine g_get (ci := 4) (v := .ref (g_ad V 38)) (C := R_Signing) (T := F_Signing) (N := 9) hx hb hts (fun w h => List.mem_cons_of_mem _ (in_Signing w h)) hown hE hG 7 (by decide) rfl rfl 5 (by decide) (hts _ (List.mem_cons_of_mem _ kw_132)) (fun _ h9 => h9) rfl d_Signing_trySucceeds_63 ?_
  refine g_calli (va_runS (As := [.ref (g_ad V 38)]) (rest := []) ⟨hx, hb, hml, hown, hts⟩ (c_size l V X7 38 (by decide) rfl) (va_cwS 1 hts (g_goodS kw_427 kw_425 kw_426 kw_13) rfl rfl rfl (by decide +kernel) ⟨Nat.le_of_ble_eq_true rfl, Nat.le_of_ble_eq_true rfl⟩) (g_preS hE hG) rfl rfl hl.1 rfl (lv_room (Nat.le_of_ble_eq_true rfl)) d_Signing_trySucceeds_66 ⟨Nat.le_refl 0, Nat.le_refl 0⟩) hG (fun r21 X19 H locs r1 hG => ?_)
  obtain ⟨r1, rfl⟩ := r1
  refine g_topi (y := szN (zP (widP (X.1 34) (2 * k)) (blP (HS (HS (apB (X.1 31) 16 (pcP (fun i => hiP ((mmP (X.1 26) (widP (X.1 34) (2 * k))) i)) 0 12 32)) 64) 8)) (X.1 27)) 32) (by rw [r1, z38]) ?_
  refine lv_sipush (v := nI (504)) hx hb d_Signing_trySucceeds_69 (by decide) ?_
  refine lv_icmp_ge (tgt := 108) hx hb d_Signing_trySucceeds_72 (by decide) (fun c72 => ?_) (fun c72 => ?_)
  · refine lv_iconst (v := nI (0)) hx hb d_Signing_trySucceeds_108 (by decide) ?_
    exact g_zret hx hb hr hlocks hE hG (by decide) (⟨fun z => absurd z.1 (Int32.not_lt.mpr c72), fun _ => rfl, z32, f7⟩) d_Signing_trySucceeds_109
  · refine lv_aload_n hx hb d_Signing_trySucceeds_75 rfl (lv_at hl 0 rfl) ?_
    refine g_calli (va_runV (As := []) (rest := []) ⟨hx, hb, hml, hown, hts⟩ (c_lowsAreShort l V X7 ) (cwV 0 hts (g_goodV kw_442 kw_439 kw_441 kp_7 kw_5) rfl rfl rfl (by decide +kernel) ⟨Nat.le_of_ble_eq_true rfl, Nat.le_of_ble_eq_true rfl⟩) (g_preV (k0 := 7) (ci := 4) hE hG (by decide) rfl rfl) rfl rfl hl.1 rfl (lv_room (Nat.le_of_ble_eq_true rfl)) d_Signing_trySucceeds_76 ⟨Nat.le_refl 0, Nat.le_refl 0⟩) hG (fun rl X22 H locs r2 hG => ?_)
    obtain ⟨r2, rfl⟩ := r2
    refine lv_if_eq (tgt := 108) hx hb d_Signing_trySucceeds_79 (by decide) (fun c79 => ?_) (fun c79 => ?_)
    · have n2 : ¬ ∀ j, j < 32 → abI (loP ((uP (mmP (X.1 26) (widP (X.1 34) (2 * k))) (blP (HS (HS (apB (X.1 31) 16 (pcP (fun i => hiP ((mmP (X.1 26) (widP (X.1 34) (2 * k))) i)) 0 12 32)) 64) 8)) (X.1 28)) j)) < nI 1015 := fun z => by
        rcases r2 with ⟨e, _⟩ | ⟨_, j, hj, hn⟩
        · rw [e] at c79; exact absurd c79 (by decide)
        · rw [z39] at hn; exact hn (z j hj)
      refine lv_iconst (v := nI (0)) hx hb d_Signing_trySucceeds_108 (by decide) ?_
      exact g_zret hx hb hr hlocks hE hG (by decide) (⟨fun z => absurd z.2.1 n2, fun _ => rfl, z32, f7⟩) d_Signing_trySucceeds_109
    · have n2 : ∀ j, j < 32 → abI (loP ((uP (mmP (X.1 26) (widP (X.1 34) (2 * k))) (blP (HS (HS (apB (X.1 31) 16 (pcP (fun i => hiP ((mmP (X.1 26) (widP (X.1 34) (2 * k))) i)) 0 12 32)) 64) 8)) (X.1 28)) j)) < nI 1015 := by
        rcases r2 with ⟨_, h⟩ | ⟨e, _⟩
        · rw [z39] at h; exact h
        · exact absurd e c79
      refine lv_aload_n hx hb d_Signing_trySucceeds_82 rfl (lv_at hl 0 rfl) ?_
      refine g_get (ci := 4) (v := .ref (g_ad V 40)) (C := R_Signing) (T := F_Signing) (N := 9) hx hb hts (fun w h => List.mem_cons_of_mem _ (in_Signing w h)) hown hE hG 7 (by decide) rfl rfl 7 (by decide) (hts _ (List.mem_cons_of_mem _ kw_134)) (fun _ h9 => h9) rfl d_Signing_trySucceeds_83 ?_
      refine g_calli (va_runS (As := [.ref (g_ad V 40)]) (rest := []) ⟨hx, hb, hml, hown, hts⟩ (c_size l V X7 40 (by decide) rfl) (va_cwS 1 hts (g_goodS kw_427 kw_425 kw_426 kw_13) rfl rfl rfl (by decide +kernel) ⟨Nat.le_of_ble_eq_true rfl, Nat.le_of_ble_eq_true rfl⟩) (g_preS hE hG) rfl rfl hl.1 rfl (lv_room (Nat.le_of_ble_eq_true rfl)) d_Signing_trySucceeds_86 ⟨Nat.le_refl 0, Nat.le_refl 0⟩) hG (fun r27 X25 H locs r3 hG => ?_)
      obtain ⟨r3, rfl⟩ := r3
      refine g_topi (y := szN (mpP (blP (HS (HS (apB (X.1 31) 16 (pcP (fun i => hiP ((mmP (X.1 26) (widP (X.1 34) (2 * k))) i)) 0 12 32)) 64) 8)) (X.1 29)) 32) (by rw [r3, z40]) ?_
      refine lv_sipush (v := nI (1023)) hx hb d_Signing_trySucceeds_89 (by decide) ?_
      refine lv_icmp_ge (tgt := 108) hx hb d_Signing_trySucceeds_92 (by decide) (fun c92 => ?_) (fun c92 => ?_)
      · refine lv_iconst (v := nI (0)) hx hb d_Signing_trySucceeds_108 (by decide) ?_
        exact g_zret hx hb hr hlocks hE hG (by decide) (⟨fun z => absurd z.2.2.1 (Int32.not_lt.mpr c92), fun _ => rfl, z32, f7⟩) d_Signing_trySucceeds_109
      · refine lv_aload_n hx hb d_Signing_trySucceeds_95 rfl (lv_at hl 0 rfl) ?_
        refine g_calli (va_runV (As := []) (rest := []) ⟨hx, hb, hml, hown, hts⟩ (c_fillHints l V X7 ) (cwV 0 hts (g_goodV kw_450 kw_447 kw_449 kp_8 kw_5) rfl rfl rfl (by decide +kernel) ⟨Nat.le_of_ble_eq_true rfl, Nat.le_of_ble_eq_true rfl⟩) (g_preV (k0 := 7) (ci := 4) hE hG (by decide) rfl rfl) rfl rfl hl.1 rfl (lv_room (Nat.le_of_ble_eq_true rfl)) d_Signing_trySucceeds_96 ⟨Nat.le_refl 0, Nat.le_refl 0⟩) hG (fun rc X8 H locs q8 hG => ?_)
        have q81 := q8.1
        have q82 := q8.2.1
        rw [z39, z40] at q81 q82
        refine g_topi (y := ctN (hnP (uP (mmP (X.1 26) (widP (X.1 34) (2 * k))) (blP (HS (HS (apB (X.1 31) 16 (pcP (fun i => hiP ((mmP (X.1 26) (widP (X.1 34) (2 * k))) i)) 0 12 32)) 64) 8)) (X.1 28)) (mpP (blP (HS (HS (apB (X.1 31) 16 (pcP (fun i => hiP ((mmP (X.1 26) (widP (X.1 34) (2 * k))) i)) 0 12 32)) 64) 8)) (X.1 29))) 32) (q81) ?_
        refine lv_bipush (v := nI (12)) hx hb d_Signing_trySucceeds_99 (by decide) ?_
        refine lv_icmp_gt (tgt := 108) hx hb d_Signing_trySucceeds_101 (by decide) (fun c101 => ?_) (fun c101 => ?_)
        · refine lv_iconst (v := nI (0)) hx hb d_Signing_trySucceeds_108 (by decide) ?_
          exact g_zret hx hb hr hlocks hE hG (by decide) (⟨fun z => absurd z.2.2.2 (Int32.not_le.mpr c101), fun _ => rfl, (q8.2.2.1 32 (by decide)).trans z32, (fr_tr2 f7 q8.2.2 (by decide) (by decide) (by decide))⟩) d_Signing_trySucceeds_109
        · refine lv_iconst (v := nI (1)) hx hb d_Signing_trySucceeds_104 (by decide) ?_
          refine lv_goto (tgt := 109) hx hb d_Signing_trySucceeds_105 (by decide) ?_
          exact g_zret hx hb hr hlocks hE hG (by decide) (⟨fun _ => ⟨rfl, (q8.2.2.1 33 (by decide)).trans z33, (q8.2.2.1 38 (by decide)).trans z38, q82⟩, fun z => absurd ⟨Int32.not_le.mp c72, n2, Int32.not_le.mp c92, Int32.not_lt.mp c101⟩ z, (q8.2.2.1 32 (by decide)).trans z32, (fr_tr2 f7 q8.2.2 (by decide) (by decide) (by decide))⟩) d_Signing_trySucceeds_109
