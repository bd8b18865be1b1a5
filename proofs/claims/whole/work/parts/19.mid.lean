set_option maxHeartbeats 4000000 in
set_option maxRecDepth 100000 in
theorem c_fillMatrix_22 (l : Launch) (V : Ev) (X : Mm)  : Met l y_Samples_fillMatrix (Cond.code y_Samples_fillMatrix b_Samples_fillMatrix 4 none :: WA) ({ frames := 4, cells := 0, slots := 0, locals := 89 } : Room) (g_Pc V X [.ref (g_ad V 1), .ref (g_ad V 22), .ref (g_ad V 26)]) (g_Qv V (fun X1 : Mm => X1.1 26 = matP (X.1 22) ∧ fr X X1 [17, 26] [2, 3, 4] [1])) 0 0 (g_A V) := by
  refine g_met (by decide) (Nat.le_of_ble_eq_true rfl) ?_
  intro p e s m below meth c hx hb hr hml hown hts hlocks hE hG ls hl
  have hl : lv_has ls 4 [(0, .ref (g_ad V 1)), (1, .ref (g_ad V 22)), (2, .ref (g_ad V 26))] := hl
  have hown : s.vm.findClass R_Samples = some m.cls := hown
  refine lv_iconst (v := nI (0)) hx hb d_Samples_fillMatrix_0 (by decide) ?_
  refine lv_istore_n (lv' := [(3, .int (nI (0))), (0, .ref (g_ad V 1)), (1, .ref (g_ad V 22)), (2, .ref (g_ad V 26))]) hx hb d_Samples_fillMatrix_1 rfl hl (by decide) rfl (fun ls hl => ?_)
  have K2 : ∀ (n i : Nat), i + n = 4 → ∀ (X1 : Mm) (H : Heap) (locs : List Loc), ∀ (ls : Array Slot), (fr X X1 [17, 26] [2, 3, 4] [1]) → (X1.1 26 = segI (matP (X.1 22)) (X.1 26) (16 * i)) → g_st V X1 s.heap H locs → lv_has ls 4 [(0, .ref (g_ad V 1)), (1, .ref (g_ad V 22)), (2, .ref (g_ad V 26)), (3, .int (nI (i)))] → W p l e ({ frames := 4, cells := 0, slots := 0, locals := 89 } : Room) s m ([.ref (g_ad V 1), .ref (g_ad V 22), .ref (g_ad V 26)] : List Value).toArray below meth c H locs 0 0 (MQ below (g_Qv V (fun X1 : Mm => X1.1 26 = matP (X.1 22) ∧ fr X X1 [17, 26] [2, 3, 4] [1])) ([.ref (g_ad V 1), .ref (g_ad V 22), .ref (g_ad V 26)] : List Value).toArray s 0 0 (g_A V)) (F0 m 2 ls []) := by
    intro n
    induction n with
    | zero =>
      intro i hin2 X1 H locs ls hF hC hG hl
      have hi2 : 4 = i := by omega
      subst hi2
      refine lv_iload_n hx hb d_Samples_fillMatrix_2 rfl (lv_at hl 3 rfl) ?_
      refine lv_iconst (v := nI (4)) hx hb d_Samples_fillMatrix_3 (by decide) ?_
      refine lv_icmp_ge (tgt := 29) hx hb d_Samples_fillMatrix_4 (by decide) (fun _ => ?_) (fun q => absurd ((g_geN (x := 4) (y := 4) (by omega) (by omega)).mp q) (by omega))
      have hG := g_xi hG 26 (by decide) (matP (X.1 22)) (fun j hj => by rw [hC]; exact segI_e _ _ hj)
      exact g_vret hx hb hr hlocks hE hG (⟨uI_s _ _ _, fr_i hF _ (by decide)⟩) d_Samples_fillMatrix_29
    | succ n ih2 =>
      intro i hin2 X1 H locs ls hF hC hG hl
      have hi2 : i < 4 := by omega
      refine lv_iload_n hx hb d_Samples_fillMatrix_2 rfl (lv_at hl 3 rfl) ?_
      refine lv_iconst (v := nI (4)) hx hb d_Samples_fillMatrix_3 (by decide) ?_
      refine lv_icmp_ge (tgt := 29) hx hb d_Samples_fillMatrix_4 (by decide) (fun q => absurd ((g_ge (x := i) (y := 4) (by omega) (by omega)).mp q) (by omega)) (fun _ => ?_)
      refine lv_aload_n hx hb d_Samples_fillMatrix_7 rfl (lv_at hl 0 rfl) ?_
      refine lv_aload_n hx hb d_Samples_fillMatrix_8 rfl (lv_at hl 1 rfl) ?_
      refine lv_bipush (v := nI (8)) hx hb d_Samples_fillMatrix_9 (by decide) ?_
      refine lv_iload_n hx hb d_Samples_fillMatrix_11 rfl (lv_at hl 3 rfl) ?_
      refine g_callr (va_runS (As := [.ref (g_ad V 1), .ref (g_ad V 22), .int (nI (8)), .int (nI (i))]) (rest := []) ⟨hx, hb, hml, hown, hts⟩ (c_streamOf l V X1 22 (by decide) 8 (by decide) (by decide) (nI i)) (va_cwS 4 hts (g_goodS kw_278 kw_276 kw_277 kw_12) rfl rfl rfl (by decide +kernel) ⟨Nat.le_of_ble_eq_true rfl, Nat.le_of_ble_eq_true rfl⟩) (g_preS hE hG) rfl rfl hl.1 rfl (lv_room (Nat.le_of_ble_eq_true rfl)) d_Samples_fillMatrix_12 ⟨Nat.le_refl 0, Nat.le_refl 0⟩) hG (fun X2 H locs q2 hG => ?_)
      refine lv_aload_n hx hb d_Samples_fillMatrix_15 rfl (lv_at hl 2 rfl) ?_
      refine lv_bipush (v := nI (16)) hx hb d_Samples_fillMatrix_16 (by decide) ?_
      refine lv_iload_n hx hb d_Samples_fillMatrix_18 rfl (lv_at hl 3 rfl) ?_
      refine lv_imul hx hb d_Samples_fillMatrix_19 ?_
      refine g_topi (y := nI (16 * i)) (pk_mul _ _) ?_
      refine g_callv (va_runS (As := [.ref (g_ad V 17), .ref (g_ad V 26), .int (nI (16 * i))]) (rest := []) ⟨hx, hb, hml, hown, hts⟩ (c_fillUniform l V X2 26 (by decide) (by decide) (16 * i) (by show 16 * i + 16 ≤ 64; omega)) (va_cwS 3 hts (g_goodS kw_288 kw_286 kw_287 kw_12) rfl rfl rfl (by decide +kernel) ⟨Nat.le_of_ble_eq_true rfl, Nat.le_of_ble_eq_true rfl⟩) (g_preS hE hG) rfl rfl hl.1 rfl (lv_room (Nat.le_of_ble_eq_true rfl)) d_Samples_fillMatrix_20 ⟨Nat.le_refl 0, Nat.le_refl 0⟩) hG (fun X3 H locs q3 hG => ?_)
      refine lv_iinc (v := nI (i + 1)) (lv' := [(3, .int (nI (i + 1))), (0, .ref (g_ad V 1)), (1, .ref (g_ad V 22)), (2, .ref (g_ad V 26))]) hx hb d_Samples_fillMatrix_23 hl (k := 3) rfl (g_inc _) (by decide) rfl (fun ls hl => ?_)
      refine lv_goto (tgt := 2) hx hb d_Samples_fillMatrix_26 (by decide) ?_
      exact ih2 (i + 1) (by omega) X3 _ _ ls (fr_tr2 (fr_tr2 hF q2.2 (by decide) (by decide) (by decide)) q3.2 (by decide) (by decide) (by decide)) (by rw [q3.1, q2.1, q2.2.1 26 (by decide), hC, hF.1 22 (by decide), show 16 * (i + 1) = 16 * i + 16 by omega]; exact seg_segI (fun j hj => matP_at _ hj)) hG (lv_sub hl [1, 2, 3, 0] rfl)
  exact K2 (4 - 0) 0 (by omega) X _ _ ls (fr_rf X _ _ _) (segI_0 _ _).symm hG (lv_sub hl [1, 2, 3, 0] rfl)

set_option maxHeartbeats 4000000 in
set_option maxRecDepth 100000 in
theorem c_fillMatrix_19 (l : Launch) (V : Ev) (X : Mm)  : Met l y_Samples_fillMatrix (Cond.code y_Samples_fillMatrix b_Samples_fillMatrix 4 none :: WA) ({ frames := 4, cells := 0, slots := 0, locals := 89 } : Room) (g_Pc V X [.ref (g_ad V 1), .ref (g_ad V 19), .ref (g_ad V 46)]) (g_Qv V (fun X1 : Mm => X1.1 46 = matP (X.1 19) ∧ fr X X1 [17, 46] [2, 3, 4] [1])) 0 0 (g_A V) := by
  refine g_met (by decide) (Nat.le_of_ble_eq_true rfl) ?_
  intro p e s m below meth c hx hb hr hml hown hts hlocks hE hG ls hl
  have hl : lv_has ls 4 [(0, .ref (g_ad V 1)), (1, .ref (g_ad V 19)), (2, .ref (g_ad V 46))] := hl
  have hown : s.vm.findClass R_Samples = some m.cls := hown
  refine lv_iconst (v := nI (0)) hx hb d_Samples_fillMatrix_0 (by decide) ?_
  refine lv_istore_n (lv' := [(3, .int (nI (0))), (0, .ref (g_ad V 1)), (1, .ref (g_ad V 19)), (2, .ref (g_ad V 46))]) hx hb d_Samples_fillMatrix_1 rfl hl (by decide) rfl (fun ls hl => ?_)
  have K2 : ∀ (n i : Nat), i + n = 4 → ∀ (X1 : Mm) (H : Heap) (locs : List Loc), ∀ (ls : Array Slot), (fr X X1 [17, 46] [2, 3, 4] [1]) → (X1.1 46 = segI (matP (X.1 19)) (X.1 46) (16 * i)) → g_st V X1 s.heap H locs → lv_has ls 4 [(0, .ref (g_ad V 1)), (1, .ref (g_ad V 19)), (2, .ref (g_ad V 46)), (3, .int (nI (i)))] → W p l e ({ frames := 4, cells := 0, slots := 0, locals := 89 } : Room) s m ([.ref (g_ad V 1), .ref (g_ad V 19), .ref (g_ad V 46)] : List Value).toArray below meth c H locs 0 0 (MQ below (g_Qv V (fun X1 : Mm => X1.1 46 = matP (X.1 19) ∧ fr X X1 [17, 46] [2, 3, 4] [1])) ([.ref (g_ad V 1), .ref (g_ad V 19), .ref (g_ad V 46)] : List Value).toArray s 0 0 (g_A V)) (F0 m 2 ls []) := by
    intro n
    induction n with
    | zero =>
      intro i hin2 X1 H locs ls hF hC hG hl
      have hi2 : 4 = i := by omega
      subst hi2
      refine lv_iload_n hx hb d_Samples_fillMatrix_2 rfl (lv_at hl 3 rfl) ?_
      refine lv_iconst (v := nI (4)) hx hb d_Samples_fillMatrix_3 (by decide) ?_
      refine lv_icmp_ge (tgt := 29) hx hb d_Samples_fillMatrix_4 (by decide) (fun _ => ?_) (fun q => absurd ((g_geN (x := 4) (y := 4) (by omega) (by omega)).mp q) (by omega))
      have hG := g_xi hG 46 (by decide) (matP (X.1 19)) (fun j hj => by rw [hC]; exact segI_e _ _ hj)
      exact g_vret hx hb hr hlocks hE hG (⟨uI_s _ _ _, fr_i hF _ (by decide)⟩) d_Samples_fillMatrix_29
    | succ n ih2 =>
      intro i hin2 X1 H locs ls hF hC hG hl
      have hi2 : i < 4 := by omega
      refine lv_iload_n hx hb d_Samples_fillMatrix_2 rfl (lv_at hl 3 rfl) ?_
      refine lv_iconst (v := nI (4)) hx hb d_Samples_fillMatrix_3 (by decide) ?_
      refine lv_icmp_ge (tgt := 29) hx hb d_Samples_fillMatrix_4 (by decide) (fun q => absurd ((g_ge (x := i) (y := 4) (by omega) (by omega)).mp q) (by omega)) (fun _ => ?_)
      refine lv_aload_n hx hb d_Samples_fillMatrix_7 rfl (lv_at hl 0 rfl) ?_
      refine lv_aload_n hx hb d_Samples_fillMatrix_8 rfl (lv_at hl 1 rfl) ?_
      refine lv_bipush (v := nI (8)) hx hb d_Samples_fillMatrix_9 (by decide) ?_
      refine lv_iload_n hx hb d_Samples_fillMatrix_11 rfl (lv_at hl 3 rfl) ?_
      refine g_callr (va_runS (As := [.ref (g_ad V 1), .ref (g_ad V 19), .int (nI (8)), .int (nI (i))]) (rest := []) ⟨hx, hb, hml, hown, hts⟩ (c_streamOf l V X1 19 (by decide) 8 (by decide) (by decide) (nI i)) (va_cwS 4 hts (g_goodS kw_278 kw_276 kw_277 kw_12) rfl rfl rfl (by decide +kernel) ⟨Nat.le_of_ble_eq_true rfl, Nat.le_of_ble_eq_true rfl⟩) (g_preS hE hG) rfl rfl hl.1 rfl (lv_room (Nat.le_of_ble_eq_true rfl)) d_Samples_fillMatrix_12 ⟨Nat.le_refl 0, Nat.le_refl 0⟩) hG (fun X2 H locs q2 hG => ?_)
      refine lv_aload_n hx hb d_Samples_fillMatrix_15 rfl (lv_at hl 2 rfl) ?_
      refine lv_bipush (v := nI (16)) hx hb d_Samples_fillMatrix_16 (by decide) ?_
      refine lv_iload_n hx hb d_Samples_fillMatrix_18 rfl (lv_at hl 3 rfl) ?_
      refine lv_imul hx hb d_Samples_fillMatrix_19 ?_
      refine g_topi (y := nI (16 * i)) (pk_mul _ _) ?_
      refine g_callv (va_runS (As := [.ref (g_ad V 17), .ref (g_ad V 46), .int (nI (16 * i))]) (rest := []) ⟨hx, hb, hml, hown, hts⟩ (c_fillUniform l V X2 46 (by decide) (by decide) (16 * i) (by show 16 * i + 16 ≤ 64; omega)) (va_cwS 3 hts (g_goodS kw_288 kw_286 kw_287 kw_12) rfl rfl rfl (by decide +kernel) ⟨Nat.le_of_ble_eq_true rfl, Nat.le_of_ble_eq_true rfl⟩) (g_preS hE hG) rfl rfl hl.1 rfl (lv_room (Nat.le_of_ble_eq_true rfl)) d_Samples_fillMatrix_20 ⟨Nat.le_refl 0, Nat.le_refl 0⟩) hG (fun X3 H locs q3 hG => ?_)
      refine lv_iinc (v := nI (i + 1)) (lv' := [(3, .int (nI (i + 1))), (0, .ref (g_ad V 1)), (1, .ref (g_ad V 19)), (2, .ref (g_ad V 46))]) hx hb d_Samples_fillMatrix_23 hl (k := 3) rfl (g_inc _) (by decide) rfl (fun ls hl => ?_)
      refine lv_goto (tgt := 2) hx hb d_Samples_fillMatrix_26 (by decide) ?_
      exact ih2 (i + 1) (by omega) X3 _ _ ls (fr_tr2 (fr_tr2 hF q2.2 (by decide) (by decide) (by decide)) q3.2 (by decide) (by decide) (by decide)) (by rw [q3.1, q2.1, q2.2.1 46 (by decide), hC, hF.1 19 (by decide), show 16 * (i + 1) = 16 * i + 16 by omega]; exact seg_segI (fun j hj => matP_at _ hj)) hG (lv_sub hl [1, 2, 3, 0] rfl)
  exact K2 (4 - 0) 0 (by omega) X _ _ ls (fr_rf X _ _ _) (segI_0 _ _).symm hG (lv_sub hl [1, 2, 3, 0] rfl)

set_option maxHeartbeats 4000000 in
set_option maxRecDepth 100000 in
theorem c_fillSmallVector_27 (l : Launch) (V : Ev) (X : Mm) (last : Nat) (hlast : last < 1000) : Met l y_Samples_fillSmallVector (Cond.code y_Samples_fillSmallVector b_Samples_fillSmallVector 4 none :: WA) ({ frames := 4, cells := 0, slots := 0, locals := 89 } : Room) (g_Pc V X [.ref (g_ad V 1), .ref (g_ad V 23), .int (nI (last)), .ref (g_ad V 27)]) (g_Qv V (fun X1 : Mm => X1.1 27 = smlP (X.1 23) last ∧ fr X X1 [17, 27] [2, 3, 4] [1])) 0 0 (g_A V) := by
  refine g_met (by decide) (Nat.le_of_ble_eq_true rfl) ?_
  intro p e s m below meth c hx hb hr hml hown hts hlocks hE hG ls hl
  have hl : lv_has ls 4 [(0, .ref (g_ad V 1)), (1, .ref (g_ad V 23)), (2, .int (nI (last))), (3, .ref (g_ad V 27))] := hl
  have hown : s.vm.findClass R_Samples = some m.cls := hown
  refine lv_aload_n hx hb d_Samples_fillSmallVector_0 rfl (lv_at hl 0 rfl) ?_
  refine lv_aload_n hx hb d_Samples_fillSmallVector_1 rfl (lv_at hl 1 rfl) ?_
  refine lv_bipush (v := nI (8)) hx hb d_Samples_fillSmallVector_2 (by decide) ?_
  refine lv_iload_n hx hb d_Samples_fillSmallVector_4 rfl (lv_at hl 2 rfl) ?_
  refine g_callr (va_runS (As := [.ref (g_ad V 1), .ref (g_ad V 23), .int (nI (8)), .int (nI (last))]) (rest := []) ⟨hx, hb, hml, hown, hts⟩ (c_streamOf l V X 23 (by decide) 8 (by decide) (by decide) (nI last)) (va_cwS 4 hts (g_goodS kw_278 kw_276 kw_277 kw_12) rfl rfl rfl (by decide +kernel) ⟨Nat.le_of_ble_eq_true rfl, Nat.le_of_ble_eq_true rfl⟩) (g_preS hE hG) rfl rfl hl.1 rfl (lv_room (Nat.le_of_ble_eq_true rfl)) d_Samples_fillSmallVector_5 ⟨Nat.le_refl 0, Nat.le_refl 0⟩) hG (fun X2 H locs q2 hG => ?_)
  refine lv_aload_n hx hb d_Samples_fillSmallVector_8 rfl (lv_at hl 3 rfl) ?_
  refine lv_iconst (v := nI (0)) hx hb d_Samples_fillSmallVector_9 (by decide) ?_
  refine g_callv (va_runS (As := [.ref (g_ad V 17), .ref (g_ad V 27), .int (nI (0))]) (rest := []) ⟨hx, hb, hml, hown, hts⟩ (c_fillSmall l V X2 27 (by decide) (by decide) 0 (by decide)) (va_cwS 3 hts (g_goodS kw_298 kw_296 kw_297 kw_12) rfl rfl rfl (by decide +kernel) ⟨Nat.le_of_ble_eq_true rfl, Nat.le_of_ble_eq_true rfl⟩) (g_preS hE hG) rfl rfl hl.1 rfl (lv_room (Nat.le_of_ble_eq_true rfl)) d_Samples_fillSmallVector_10 ⟨Nat.le_refl 0, Nat.le_refl 0⟩) hG (fun X3 H locs q3 hG => ?_)
  refine lv_aload_n hx hb d_Samples_fillSmallVector_13 rfl (lv_at hl 0 rfl) ?_
  refine lv_aload_n hx hb d_Samples_fillSmallVector_14 rfl (lv_at hl 1 rfl) ?_
  refine lv_bipush (v := nI (8)) hx hb d_Samples_fillSmallVector_15 (by decide) ?_
  refine lv_iload_n hx hb d_Samples_fillSmallVector_17 rfl (lv_at hl 2 rfl) ?_
  refine lv_iconst (v := nI (1)) hx hb d_Samples_fillSmallVector_18 (by decide) ?_
  refine lv_iadd hx hb d_Samples_fillSmallVector_19 ?_
  refine g_topi (y := nI (last + 1)) (nI_add _ _) ?_
  refine g_callr (va_runS (As := [.ref (g_ad V 1), .ref (g_ad V 23), .int (nI (8)), .int (nI (last + 1))]) (rest := []) ⟨hx, hb, hml, hown, hts⟩ (c_streamOf l V X3 23 (by decide) 8 (by decide) (by decide) (nI (last + 1))) (va_cwS 4 hts (g_goodS kw_278 kw_276 kw_277 kw_12) rfl rfl rfl (by decide +kernel) ⟨Nat.le_of_ble_eq_true rfl, Nat.le_of_ble_eq_true rfl⟩) (g_preS hE hG) rfl rfl hl.1 rfl (lv_room (Nat.le_of_ble_eq_true rfl)) d_Samples_fillSmallVector_20 ⟨Nat.le_refl 0, Nat.le_refl 0⟩) hG (fun X4 H locs q4 hG => ?_)
  refine lv_aload_n hx hb d_Samples_fillSmallVector_23 rfl (lv_at hl 3 rfl) ?_
  refine lv_bipush (v := nI (16)) hx hb d_Samples_fillSmallVector_24 (by decide) ?_
  refine g_callv (va_runS (As := [.ref (g_ad V 17), .ref (g_ad V 27), .int (nI (16))]) (rest := []) ⟨hx, hb, hml, hown, hts⟩ (c_fillSmall l V X4 27 (by decide) (by decide) 16 (by decide)) (va_cwS 3 hts (g_goodS kw_298 kw_296 kw_297 kw_12) rfl rfl rfl (by decide +kernel) ⟨Nat.le_of_ble_eq_true rfl, Nat.le_of_ble_eq_true rfl⟩) (g_preS hE hG) rfl rfl hl.1 rfl (lv_room (Nat.le_of_ble_eq_true rfl)) d_Samples_fillSmallVector_26 ⟨Nat.le_refl 0, Nat.le_refl 0⟩) hG (fun X5 H locs q5 hG => ?_)
  have e3 : X3.1 27 = segI (smlP (X.1 23) last) (X.1 27) 16 := by rw [q3.1, q2.1, q2.2.1 27 (by decide), ← segI_0 (smlP (X.1 23) last) (X.1 27)]; exact seg_segI (fun j hj => smlP_lo _ _ hj)
  have e5 : X5.1 27 = segI (smlP (X.1 23) last) (X.1 27) 32 := by rw [q5.1, q4.1, q4.2.1 27 (by decide), e3, q3.2.1 23 (by decide), q2.2.1 23 (by decide)]; exact seg_segI (fun j hj => smlP_hi _ _ hj)
  have hG := g_xi hG 27 (by decide) (smlP (X.1 23) last) (fun j hj => by rw [e5]; exact segI_e _ _ hj)
  exact g_vret hx hb hr hlocks hE hG (⟨uI_s _ _ _, fr_i (fr_tr2 (fr_tr2 (fr_tr2 (fr_mono q2.2 (a' := [17, 27]) (b' := [2, 3, 4]) (c' := [1]) (by decide) (by decide) (by decide)) q3.2 (by decide) (by decide) (by decide)) q4.2 (by decide) (by decide) (by decide)) q5.2 (by decide) (by decide) (by decide)) _ (by decide)⟩) d_Samples_fillSmallVector_29

set_option maxHeartbeats 4000000 in
set_option maxRecDepth 100000 in
theorem c_fillSmallVector_28 (l : Launch) (V : Ev) (X : Mm) (last : Nat) (hlast : last < 1000) : Met l y_Samples_fillSmallVector (Cond.code y_Samples_fillSmallVector b_Samples_fillSmallVector 4 none :: WA) ({ frames := 4, cells := 0, slots := 0, locals := 89 } : Room) (g_Pc V X [.ref (g_ad V 1), .ref (g_ad V 23), .int (nI (last)), .ref (g_ad V 28)]) (g_Qv V (fun X1 : Mm => X1.1 28 = smlP (X.1 23) last ∧ fr X X1 [17, 28] [2, 3, 4] [1])) 0 0 (g_A V) := by
  refine g_met (by decide) (Nat.le_of_ble_eq_true rfl) ?_
  intro p e s m below meth c hx hb hr hml hown hts hlocks hE hG ls hl
  have hl : lv_has ls 4 [(0, .ref (g_ad V 1)), (1, .ref (g_ad V 23)), (2, .int (nI (last))), (3, .ref (g_ad V 28))] := hl
  have hown : s.vm.findClass R_Samples = some m.cls := hown
  refine lv_aload_n hx hb d_Samples_fillSmallVector_0 rfl (lv_at hl 0 rfl) ?_
  refine lv_aload_n hx hb d_Samples_fillSmallVector_1 rfl (lv_at hl 1 rfl) ?_
  refine lv_bipush (v := nI (8)) hx hb d_Samples_fillSmallVector_2 (by decide) ?_
  refine lv_iload_n hx hb d_Samples_fillSmallVector_4 rfl (lv_at hl 2 rfl) ?_
  refine g_callr (va_runS (As := [.ref (g_ad V 1), .ref (g_ad V 23), .int (nI (8)), .int (nI (last))]) (rest := []) ⟨hx, hb, hml, hown, hts⟩ (c_streamOf l V X 23 (by decide) 8 (by decide) (by decide) (nI last)) (va_cwS 4 hts (g_goodS kw_278 kw_276 kw_277 kw_12) rfl rfl rfl (by decide +kernel) ⟨Nat.le_of_ble_eq_true rfl, Nat.le_of_ble_eq_true rfl⟩) (g_preS hE hG) rfl rfl hl.1 rfl (lv_room (Nat.le_of_ble_eq_true rfl)) d_Samples_fillSmallVector_5 ⟨Nat.le_refl 0, Nat.le_refl 0⟩) hG (fun X2 H locs q2 hG => ?_)
  refine lv_aload_n hx hb d_Samples_fillSmallVector_8 rfl (lv_at hl 3 rfl) ?_
  refine lv_iconst (v := nI (0)) hx hb d_Samples_fillSmallVector_9 (by decide) ?_
  refine g_callv (va_runS (As := [.ref (g_ad V 17), .ref (g_ad V 28), .int (nI (0))]) (rest := []) ⟨hx, hb, hml, hown, hts⟩ (c_fillSmall l V X2 28 (by decide) (by decide) 0 (by decide)) (va_cwS 3 hts (g_goodS kw_298 kw_296 kw_297 kw_12) rfl rfl rfl (by decide +kernel) ⟨Nat.le_of_ble_eq_true rfl, Nat.le_of_ble_eq_true rfl⟩) (g_preS hE hG) rfl rfl hl.1 rfl (lv_room (Nat.le_of_ble_eq_true rfl)) d_Samples_fillSmallVector_10 ⟨Nat.le_refl 0, Nat.le_refl 0⟩) hG (fun X3 H locs q3 hG => ?_)
  refine lv_aload_n hx hb d_Samples_fillSmallVector_13 rfl (lv_at hl 0 rfl) ?_
  refine lv_aload_n hx hb d_Samples_fillSmallVector_14 rfl (lv_at hl 1 rfl) ?_
  refine lv_bipush (v := nI (8)) hx hb d_Samples_fillSmallVector_15 (by decide) ?_
  refine lv_iload_n hx hb d_Samples_fillSmallVector_17 rfl (lv_at hl 2 rfl) ?_
  refine lv_iconst (v := nI (1)) hx hb d_Samples_fillSmallVector_18 (by decide) ?_
  refine lv_iadd hx hb d_Samples_fillSmallVector_19 ?_
  refine g_topi (y := nI (last + 1)) (nI_add _ _) ?_
  refine g_callr (va_runS (As := [.ref (g_ad V 1), .ref (g_ad V 23), .int (nI (8)), .int (nI (last + 1))]) (rest := []) ⟨hx, hb, hml, hown, hts⟩ (c_streamOf l V X3 23 (by decide) 8 (by decide) (by decide) (nI (last + 1))) (va_cwS 4 hts (g_goodS kw_278 kw_276 kw_277 kw_12) rfl rfl rfl (by decide +kernel) ⟨Nat.le_of_ble_eq_true rfl, Nat.le_of_ble_eq_true rfl⟩) (g_preS hE hG) rfl rfl hl.1 rfl (lv_room (Nat.le_of_ble_eq_true rfl)) d_Samples_fillSmallVector_20 ⟨Nat.le_refl 0, Nat.le_refl 0⟩) hG (fun X4 H locs q4 hG => ?_)
  refine lv_aload_n hx hb d_Samples_fillSmallVector_23 rfl (lv_at hl 3 rfl) ?_
  refine lv_bipush (v := nI (16)) hx hb d_Samples_fillSmallVector_24 (by decide) ?_
  refine g_callv (va_runS (As := [.ref (g_ad V 17), .ref (g_ad V 28), .int (nI (16))]) (rest := []) ⟨hx, hb, hml, hown, hts⟩ (c_fillSmall l V X4 28 (by decide) (by decide) 16 (by decide)) (va_cwS 3 hts (g_goodS kw_298 kw_296 kw_297 kw_12) rfl rfl rfl (by decide +kernel) ⟨Nat.le_of_ble_eq_true rfl, Nat.le_of_ble_eq_true rfl⟩) (g_preS hE hG) rfl rfl hl.1 rfl (lv_room (Nat.le_of_ble_eq_true rfl)) d_Samples_fillSmallVector_26 ⟨Nat.le_refl 0, Nat.le_refl 0⟩) hG (fun X5 H locs q5 hG => ?_)
  have e3 : X3.1 28 = segI (smlP (X.1 23) last) (X.1 28) 16 := by rw [q3.1, q2.1, q2.2.1 28 (by decide), ← segI_0 (smlP (X.1 23) last) (X.1 28)]; exact seg_segI (fun j hj => smlP_lo _ _ hj)
  have e5 : X5.1 28 = segI (smlP (X.1 23) last) (X.1 28) 32 := by rw [q5.1, q4.1, q4.2.1 28 (by decide), e3, q3.2.1 23 (by decide), q2.2.1 23 (by decide)]; exact seg_segI (fun j hj => smlP_hi _ _ hj)
  have hG := g_xi hG 28 (by decide) (smlP (X.1 23) last) (fun j hj => by rw [e5]; exact segI_e _ _ hj)
  exact g_vret hx hb hr hlocks hE hG (⟨uI_s _ _ _, fr_i (fr_tr2 (fr_tr2 (fr_tr2 (fr_mono q2.2 (a' := [17, 28]) (b' := [2, 3, 4]) (c' := [1]) (by decide) (by decide) (by decide)) q3.2 (by decide) (by decide) (by decide)) q4.2 (by decide) (by decide) (by decide)) q5.2 (by decide) (by decide) (by decide)) _ (by decide)⟩) d_Samples_fillSmallVector_29

set_option maxHeartbeats 4000000 in
set_option maxRecDepth 100000 in
theorem c_fillWideVector_35 (l : Launch) (V : Ev) (X : Mm) (last : Nat) (hlast : last < 1000) : Met l y_Samples_fillWideVector (Cond.code y_Samples_fillWideVector b_Samples_fillWideVector 4 none :: WA) ({ frames := 4, cells := 0, slots := 0, locals := 89 } : Room) (g_Pc V X [.ref (g_ad V 1), .ref (g_ad V 34), .int (nI (last)), .ref (g_ad V 35)]) (g_Qv V (fun X1 : Mm => X1.1 35 = widP (X.1 34) last ∧ fr X X1 [17, 35] [2, 3, 4] [1])) 0 0 (g_A V) := by
  refine g_met (by decide) (Nat.le_of_ble_eq_true rfl) ?_
  intro p e s m below meth c hx hb hr hml hown hts hlocks hE hG ls hl
  have hl : lv_has ls 4 [(0, .ref (g_ad V 1)), (1, .ref (g_ad V 34)), (2, .int (nI (last))), (3, .ref (g_ad V 35))] := hl
  have hown : s.vm.findClass R_Samples = some m.cls := hown
  refine lv_aload_n hx hb d_Samples_fillWideVector_0 rfl (lv_at hl 0 rfl) ?_
  refine lv_aload_n hx hb d_Samples_fillWideVector_1 rfl (lv_at hl 1 rfl) ?_
  refine lv_bipush (v := nI (16)) hx hb d_Samples_fillWideVector_2 (by decide) ?_
  refine lv_iload_n hx hb d_Samples_fillWideVector_4 rfl (lv_at hl 2 rfl) ?_
  refine g_callr (va_runS (As := [.ref (g_ad V 1), .ref (g_ad V 34), .int (nI (16)), .int (nI (last))]) (rest := []) ⟨hx, hb, hml, hown, hts⟩ (c_streamOf l V X 34 (by decide) 16 (by decide) (by decide) (nI last)) (va_cwS 4 hts (g_goodS kw_278 kw_276 kw_277 kw_12) rfl rfl rfl (by decide +kernel) ⟨Nat.le_of_ble_eq_true rfl, Nat.le_of_ble_eq_true rfl⟩) (g_preS hE hG) rfl rfl hl.1 rfl (lv_room (Nat.le_of_ble_eq_true rfl)) d_Samples_fillWideVector_5 ⟨Nat.le_refl 0, Nat.le_refl 0⟩) hG (fun X2 H locs q2 hG => ?_)
  refine lv_aload_n hx hb d_Samples_fillWideVector_8 rfl (lv_at hl 3 rfl) ?_
  refine lv_iconst (v := nI (0)) hx hb d_Samples_fillWideVector_9 (by decide) ?_
  refine g_callv (va_runS (As := [.ref (g_ad V 17), .ref (g_ad V 35), .int (nI (0))]) (rest := []) ⟨hx, hb, hml, hown, hts⟩ (c_fillWide l V X2 35 (by decide) (by decide) 0 (by decide)) (va_cwS 3 hts (g_goodS kw_386 kw_384 kw_385 kw_12) rfl rfl rfl (by decide +kernel) ⟨Nat.le_of_ble_eq_true rfl, Nat.le_of_ble_eq_true rfl⟩) (g_preS hE hG) rfl rfl hl.1 rfl (lv_room (Nat.le_of_ble_eq_true rfl)) d_Samples_fillWideVector_10 ⟨Nat.le_refl 0, Nat.le_refl 0⟩) hG (fun X3 H locs q3 hG => ?_)
  refine lv_aload_n hx hb d_Samples_fillWideVector_13 rfl (lv_at hl 0 rfl) ?_
  refine lv_aload_n hx hb d_Samples_fillWideVector_14 rfl (lv_at hl 1 rfl) ?_
  refine lv_bipush (v := nI (16)) hx hb d_Samples_fillWideVector_15 (by decide) ?_
  refine lv_iload_n hx hb d_Samples_fillWideVector_17 rfl (lv_at hl 2 rfl) ?_
  refine lv_iconst (v := nI (1)) hx hb d_Samples_fillWideVector_18 (by decide) ?_
  refine lv_iadd hx hb d_Samples_fillWideVector_19 ?_
  refine g_topi (y := nI (last + 1)) (nI_add _ _) ?_
  refine g_callr (va_runS (As := [.ref (g_ad V 1), .ref (g_ad V 34), .int (nI (16)), .int (nI (last + 1))]) (rest := []) ⟨hx, hb, hml, hown, hts⟩ (c_streamOf l V X3 34 (by decide) 16 (by decide) (by decide) (nI (last + 1))) (va_cwS 4 hts (g_goodS kw_278 kw_276 kw_277 kw_12) rfl rfl rfl (by decide +kernel) ⟨Nat.le_of_ble_eq_true rfl, Nat.le_of_ble_eq_true rfl⟩) (g_preS hE hG) rfl rfl hl.1 rfl (lv_room (Nat.le_of_ble_eq_true rfl)) d_Samples_fillWideVector_20 ⟨Nat.le_refl 0, Nat.le_refl 0⟩) hG (fun X4 H locs q4 hG => ?_)
  refine lv_aload_n hx hb d_Samples_fillWideVector_23 rfl (lv_at hl 3 rfl) ?_
  refine lv_bipush (v := nI (16)) hx hb d_Samples_fillWideVector_24 (by decide) ?_
  refine g_callv (va_runS (As := [.ref (g_ad V 17), .ref (g_ad V 35), .int (nI (16))]) (rest := []) ⟨hx, hb, hml, hown, hts⟩ (c_fillWide l V X4 35 (by decide) (by decide) 16 (by decide)) (va_cwS 3 hts (g_goodS kw_386 kw_384 kw_385 kw_12) rfl rfl rfl (by decide +kernel) ⟨Nat.le_of_ble_eq_true rfl, Nat.le_of_ble_eq_true rfl⟩) (g_preS hE hG) rfl rfl hl.1 rfl (lv_room (Nat.le_of_ble_eq_true rfl)) d_Samples_fillWideVector_26 ⟨Nat.le_refl 0, Nat.le_refl 0⟩) hG (fun X5 H locs q5 hG => ?_)
  have e3 : X3.1 35 = segI (widP (X.1 34) last) (X.1 35) 16 := by rw [q3.1, q2.1, q2.2.1 35 (by decide), ← segI_0 (widP (X.1 34) last) (X.1 35)]; exact seg_segI (fun j hj => widP_lo _ _ hj)
  have e5 : X5.1 35 = segI (widP (X.1 34) last) (X.1 35) 32 := by rw [q5.1, q4.1, q4.2.1 35 (by decide), e3, q3.2.1 34 (by decide), q2.2.1 34 (by decide)]; exact seg_segI (fun j hj => widP_hi _ _ hj)
  have hG := g_xi hG 35 (by decide) (widP (X.1 34) last) (fun j hj => by rw [e5]; exact segI_e _ _ hj)
  exact g_vret hx hb hr hlocks hE hG (⟨uI_s _ _ _, fr_i (fr_tr2 (fr_tr2 (fr_tr2 (fr_mono q2.2 (a' := [17, 35]) (b' := [2, 3, 4]) (c' := [1]) (by decide) (by decide) (by decide)) q3.2 (by decide) (by decide) (by decide)) q4.2 (by decide) (by decide) (by decide)) q5.2 (by decide) (by decide) (by decide)) _ (by decide)⟩) d_Samples_fillWideVector_29

set_option maxHeartbeats 4000000 in
set_option maxRecDepth 100000 in
theorem c_fillBall_21 (l : Launch) (V : Ev) (X : Mm)  : Met l y_Samples_fillBall (Cond.code y_Samples_fillBall b_Samples_fillBall 3 none :: WA) ({ frames := 3, cells := 0, slots := 0, locals := 66 } : Room) (g_Pc V X [.ref (g_ad V 1), .ref (g_ad V 20), .ref (g_ad V 21)]) (g_Qv V (fun X1 : Mm => X1.1 21 = blP (HS (X.1 20) 8) ∧ fr X X1 [17, 21] [2, 3, 4] [1])) 0 0 (g_A V) := by
  refine g_met (by decide) (Nat.le_of_ble_eq_true rfl) ?_
  intro p e s m below meth c hx hb hr hml hown hts hlocks hE hG ls hl
  have hl : lv_has ls 3 [(0, .ref (g_ad V 1)), (1, .ref (g_ad V 20)), (2, .ref (g_ad V 21))] := hl
  have hown : s.vm.findClass R_Samples = some m.cls := hown
  refine lv_aload_n hx hb d_Samples_fillBall_0 rfl (lv_at hl 0 rfl) ?_
  refine g_callv (va_runV (As := []) (rest := []) ⟨hx, hb, hml, hown, hts⟩ (c_begin l V X ) (cwV 0 hts (g_goodV kw_230 kw_279 kw_228 kw_229 kw_2) rfl rfl rfl (by decide +kernel) ⟨Nat.le_of_ble_eq_true rfl, Nat.le_of_ble_eq_true rfl⟩) (g_preV (k0 := 1) (ci := 1) hE hG (by decide) rfl rfl) rfl rfl hl.1 rfl (lv_room (Nat.le_of_ble_eq_true rfl)) d_Samples_fillBall_1 ⟨Nat.le_refl 0, Nat.le_refl 0⟩) hG (fun X2 H locs q2 hG => ?_)
  refine lv_aload_n hx hb d_Samples_fillBall_4 rfl (lv_at hl 0 rfl) ?_
  refine lv_aload_n hx hb d_Samples_fillBall_5 rfl (lv_at hl 1 rfl) ?_
  refine lv_bipush (v := nI (8)) hx hb d_Samples_fillBall_6 (by decide) ?_
  refine g_callv (va_runV (As := [.ref (g_ad V 20), .int (nI (8))]) (rest := []) ⟨hx, hb, hml, hown, hts⟩ (c_takeFirst l V X2 20 (by decide) (X.1 20) 0 8 (by decide) (by decide) q2.1 q2.2.1 (fun j hj => by rw [q2.2.2.1 20 (fun q => by cases q), Nat.zero_add])) (cwV 2 hts (g_goodV kw_283 kw_280 kw_281 kw_282 kw_2) rfl rfl rfl (by decide +kernel) ⟨Nat.le_of_ble_eq_true rfl, Nat.le_of_ble_eq_true rfl⟩) (g_preV (k0 := 1) (ci := 1) hE hG (by decide) rfl rfl) rfl rfl hl.1 rfl (lv_room (Nat.le_of_ble_eq_true rfl)) d_Samples_fillBall_8 ⟨Nat.le_refl 0, Nat.le_refl 0⟩) hG (fun X3 H locs q3 hG => ?_)
  refine lv_aload_n hx hb d_Samples_fillBall_11 rfl (lv_at hl 0 rfl) ?_
  refine g_callr (va_runV (As := []) (rest := []) ⟨hx, hb, hml, hown, hts⟩ (c_finish l V X3 (X.1 20) (0 + 8) (by decide) q3.1 q3.2.1) (cwV 0 hts (g_goodV kw_249 kw_285 kw_247 kw_248 kw_2) rfl rfl rfl (by decide +kernel) ⟨Nat.le_of_ble_eq_true rfl, Nat.le_of_ble_eq_true rfl⟩) (g_preV (k0 := 1) (ci := 1) hE hG (by decide) rfl rfl) rfl rfl hl.1 rfl (lv_room (Nat.le_of_ble_eq_true rfl)) d_Samples_fillBall_12 ⟨Nat.le_refl 0, Nat.le_refl 0⟩) hG (fun X4 H locs q4 hG => ?_)
  refine lv_aload_n hx hb d_Samples_fillBall_15 rfl (lv_at hl 2 rfl) ?_
  refine g_callv (va_runS (As := [.ref (g_ad V 17), .ref (g_ad V 21)]) (rest := []) ⟨hx, hb, hml, hown, hts⟩ (c_fillSigns l V X4 21 (by decide) (by decide) rfl) (va_cwS 2 hts (g_goodS kw_413 kw_411 kw_412 kw_12) rfl rfl rfl (by decide +kernel) ⟨Nat.le_of_ble_eq_true rfl, Nat.le_of_ble_eq_true rfl⟩) (g_preS hE hG) rfl rfl hl.1 rfl (lv_room (Nat.le_of_ble_eq_true rfl)) d_Samples_fillBall_16 ⟨Nat.le_refl 0, Nat.le_refl 0⟩) hG (fun X5 H locs q5 hG => ?_)
  exact g_vret hx hb hr hlocks hE hG (⟨by rw [q5.1, q4.1], (fr_tr2 (fr_tr2 (fr_tr2 (fr_mono q2.2.2 (a' := [17, 21]) (b' := [2, 3, 4]) (c' := [1]) (by decide) (by decide) (by decide)) q3.2.2 (by decide) (by decide) (by decide)) q4.2 (by decide) (by decide) (by decide)) q5.2 (by decide) (by decide) (by decide))⟩) d_Samples_fillBall_19

set_option maxHeartbeats 4000000 in
set_option maxRecDepth 100000 in
theorem c_fillBall_37 (l : Launch) (V : Ev) (X : Mm)  : Met l y_Samples_fillBall (Cond.code y_Samples_fillBall b_Samples_fillBall 3 none :: WA) ({ frames := 3, cells := 0, slots := 0, locals := 66 } : Room) (g_Pc V X [.ref (g_ad V 1), .ref (g_ad V 33), .ref (g_ad V 37)]) (g_Qv V (fun X1 : Mm => X1.1 37 = blP (HS (X.1 33) 8) ∧ fr X X1 [17, 37] [2, 3, 4] [1])) 0 0 (g_A V) := by
  refine g_met (by decide) (Nat.le_of_ble_eq_true rfl) ?_
  intro p e s m below meth c hx hb hr hml hown hts hlocks hE hG ls hl
  have hl : lv_has ls 3 [(0, .ref (g_ad V 1)), (1, .ref (g_ad V 33)), (2, .ref (g_ad V 37))] := hl
  have hown : s.vm.findClass R_Samples = some m.cls := hown
  refine lv_aload_n hx hb d_Samples_fillBall_0 rfl (lv_at hl 0 rfl) ?_
  refine g_callv (va_runV (As := []) (rest := []) ⟨hx, hb, hml, hown, hts⟩ (c_begin l V X ) (cwV 0 hts (g_goodV kw_230 kw_279 kw_228 kw_229 kw_2) rfl rfl rfl (by decide +kernel) ⟨Nat.le_of_ble_eq_true rfl, Nat.le_of_ble_eq_true rfl⟩) (g_preV (k0 := 1) (ci := 1) hE hG (by decide) rfl rfl) rfl rfl hl.1 rfl (lv_room (Nat.le_of_ble_eq_true rfl)) d_Samples_fillBall_1 ⟨Nat.le_refl 0, Nat.le_refl 0⟩) hG (fun X2 H locs q2 hG => ?_)
  refine lv_aload_n hx hb d_Samples_fillBall_4 rfl (lv_at hl 0 rfl) ?_
  refine lv_aload_n hx hb d_Samples_fillBall_5 rfl (lv_at hl 1 rfl) ?_
  refine lv_bipush (v := nI (8)) hx hb d_Samples_fillBall_6 (by decide) ?_
  refine g_callv (va_runV (As := [.ref (g_ad V 33), .int (nI (8))]) (rest := []) ⟨hx, hb, hml, hown, hts⟩ (c_takeFirst l V X2 33 (by decide) (X.1 33) 0 8 (by decide) (by decide) q2.1 q2.2.1 (fun j hj => by rw [q2.2.2.1 33 (fun q => by cases q), Nat.zero_add])) (cwV 2 hts (g_goodV kw_283 kw_280 kw_281 kw_282 kw_2) rfl rfl rfl (by decide +kernel) ⟨Nat.le_of_ble_eq_true rfl, Nat.le_of_ble_eq_true rfl⟩) (g_preV (k0 := 1) (ci := 1) hE hG (by decide) rfl rfl) rfl rfl hl.1 rfl (lv_room (Nat.le_of_ble_eq_true rfl)) d_Samples_fillBall_8 ⟨Nat.le_refl 0, Nat.le_refl 0⟩) hG (fun X3 H locs q3 hG => ?_)
  refine lv_aload_n hx hb d_Samples_fillBall_11 rfl (lv_at hl 0 rfl) ?_
  refine g_callr (va_runV (As := []) (rest := []) ⟨hx, hb, hml, hown, hts⟩ (c_finish l V X3 (X.1 33) (0 + 8) (by decide) q3.1 q3.2.1) (cwV 0 hts (g_goodV kw_249 kw_285 kw_247 kw_248 kw_2) rfl rfl rfl (by decide +kernel) ⟨Nat.le_of_ble_eq_true rfl, Nat.le_of_ble_eq_true rfl⟩) (g_preV (k0 := 1) (ci := 1) hE hG (by decide) rfl rfl) rfl rfl hl.1 rfl (lv_room (Nat.le_of_ble_eq_true rfl)) d_Samples_fillBall_12 ⟨Nat.le_refl 0, Nat.le_refl 0⟩) hG (fun X4 H locs q4 hG => ?_)
  refine lv_aload_n hx hb d_Samples_fillBall_15 rfl (lv_at hl 2 rfl) ?_
  refine g_callv (va_runS (As := [.ref (g_ad V 17), .ref (g_ad V 37)]) (rest := []) ⟨hx, hb, hml, hown, hts⟩ (c_fillSigns l V X4 37 (by decide) (by decide) rfl) (va_cwS 2 hts (g_goodS kw_413 kw_411 kw_412 kw_12) rfl rfl rfl (by decide +kernel) ⟨Nat.le_of_ble_eq_true rfl, Nat.le_of_ble_eq_true rfl⟩) (g_preS hE hG) rfl rfl hl.1 rfl (lv_room (Nat.le_of_ble_eq_true rfl)) d_Samples_fillBall_16 ⟨Nat.le_refl 0, Nat.le_refl 0⟩) hG (fun X5 H locs q5 hG => ?_)
  exact g_vret hx hb hr hlocks hE hG (⟨by rw [q5.1, q4.1], (fr_tr2 (fr_tr2 (fr_tr2 (fr_mono q2.2.2 (a' := [17, 37]) (b' := [2, 3, 4]) (c' := [1]) (by decide) (by decide) (by decide)) q3.2.2 (by decide) (by decide) (by decide)) q4.2 (by decide) (by decide) (by decide)) q5.2 (by decide) (by decide) (by decide))⟩) d_Samples_fillBall_19

set_option maxHeartbeats 4000000 in
set_option maxRecDepth 100000 in
theorem c_fillBall_49 (l : Launch) (V : Ev) (X : Mm)  : Met l y_Samples_fillBall (Cond.code y_Samples_fillBall b_Samples_fillBall 3 none :: WA) ({ frames := 3, cells := 0, slots := 0, locals := 66 } : Room) (g_Pc V X [.ref (g_ad V 1), .ref (g_ad V 20), .ref (g_ad V 49)]) (g_Qv V (fun X1 : Mm => X1.1 49 = blP (HS (X.1 20) 8) ∧ fr X X1 [17, 49] [2, 3, 4] [1])) 0 0 (g_A V) := by
  refine g_met (by decide) (Nat.le_of_ble_eq_true rfl) ?_
  intro p e s m below meth c hx hb hr hml hown hts hlocks hE hG ls hl
  have hl : lv_has ls 3 [(0, .ref (g_ad V 1)), (1, .ref (g_ad V 20)), (2, .ref (g_ad V 49))] := hl
  have hown : s.vm.findClass R_Samples = some m.cls := hown
  refine lv_aload_n hx hb d_Samples_fillBall_0 rfl (lv_at hl 0 rfl) ?_
  refine g_callv (va_runV (As := []) (rest := []) ⟨hx, hb, hml, hown, hts⟩ (c_begin l V X ) (cwV 0 hts (g_goodV kw_230 kw_279 kw_228 kw_229 kw_2) rfl rfl rfl (by decide +kernel) ⟨Nat.le_of_ble_eq_true rfl, Nat.le_of_ble_eq_true rfl⟩) (g_preV (k0 := 1) (ci := 1) hE hG (by decide) rfl rfl) rfl rfl hl.1 rfl (lv_room (Nat.le_of_ble_eq_true rfl)) d_Samples_fillBall_1 ⟨Nat.le_refl 0, Nat.le_refl 0⟩) hG (fun X2 H locs q2 hG => ?_)
  refine lv_aload_n hx hb d_Samples_fillBall_4 rfl (lv_at hl 0 rfl) ?_
  refine lv_aload_n hx hb d_Samples_fillBall_5 rfl (lv_at hl 1 rfl) ?_
  refine lv_bipush (v := nI (8)) hx hb d_Samples_fillBall_6 (by decide) ?_
  refine g_callv (va_runV (As := [.ref (g_ad V 20), .int (nI (8))]) (rest := []) ⟨hx, hb, hml, hown, hts⟩ (c_takeFirst l V X2 20 (by decide) (X.1 20) 0 8 (by decide) (by decide) q2.1 q2.2.1 (fun j hj => by rw [q2.2.2.1 20 (fun q => by cases q), Nat.zero_add])) (cwV 2 hts (g_goodV kw_283 kw_280 kw_281 kw_282 kw_2) rfl rfl rfl (by decide +kernel) ⟨Nat.le_of_ble_eq_true rfl, Nat.le_of_ble_eq_true rfl⟩) (g_preV (k0 := 1) (ci := 1) hE hG (by decide) rfl rfl) rfl rfl hl.1 rfl (lv_room (Nat.le_of_ble_eq_true rfl)) d_Samples_fillBall_8 ⟨Nat.le_refl 0, Nat.le_refl 0⟩) hG (fun X3 H locs q3 hG => ?_)
  refine lv_aload_n hx hb d_Samples_fillBall_11 rfl (lv_at hl 0 rfl) ?_
  refine g_callr (va_runV (As := []) (rest := []) ⟨hx, hb, hml, hown, hts⟩ (c_finish l V X3 (X.1 20) (0 + 8) (by decide) q3.1 q3.2.1) (cwV 0 hts (g_goodV kw_249 kw_285 kw_247 kw_248 kw_2) rfl rfl rfl (by decide +kernel) ⟨Nat.le_of_ble_eq_true rfl, Nat.le_of_ble_eq_true rfl⟩) (g_preV (k0 := 1) (ci := 1) hE hG (by decide) rfl rfl) rfl rfl hl.1 rfl (lv_room (Nat.le_of_ble_eq_true rfl)) d_Samples_fillBall_12 ⟨Nat.le_refl 0, Nat.le_refl 0⟩) hG (fun X4 H locs q4 hG => ?_)
  refine lv_aload_n hx hb d_Samples_fillBall_15 rfl (lv_at hl 2 rfl) ?_
  refine g_callv (va_runS (As := [.ref (g_ad V 17), .ref (g_ad V 49)]) (rest := []) ⟨hx, hb, hml, hown, hts⟩ (c_fillSigns l V X4 49 (by decide) (by decide) rfl) (va_cwS 2 hts (g_goodS kw_413 kw_411 kw_412 kw_12) rfl rfl rfl (by decide +kernel) ⟨Nat.le_of_ble_eq_true rfl, Nat.le_of_ble_eq_true rfl⟩) (g_preS hE hG) rfl rfl hl.1 rfl (lv_room (Nat.le_of_ble_eq_true rfl)) d_Samples_fillBall_16 ⟨Nat.le_refl 0, Nat.le_refl 0⟩) hG (fun X5 H locs q5 hG => ?_)
  exact g_vret hx hb hr hlocks hE hG (⟨by rw [q5.1, q4.1], (fr_tr2 (fr_tr2 (fr_tr2 (fr_mono q2.2.2 (a' := [17, 49]) (b' := [2, 3, 4]) (c' := [1]) (by decide) (by decide) (by decide)) q3.2.2 (by decide) (by decide) (by decide)) q4.2 (by decide) (by decide) (by decide)) q5.2 (by decide) (by decide) (by decide))⟩) d_Samples_fillBall_19

set_option maxHeartbeats 4000000 in
set_option maxRecDepth 100000 in
theorem c_fillTrace_22 (l : Launch) (V : Ev) (X : Mm)  : Met l y_SecretKey_fillTrace (Cond.code y_SecretKey_fillTrace b_SecretKey_fillTrace 3 none :: WA) ({ frames := 4, cells := 0, slots := 0, locals := 87 } : Room) (g_Pc V X [.ref (g_ad V 1), .ref (g_ad V 22), .ref (g_ad V 25)]) (g_Qv V (fun X1 : Mm => X1.1 25 = HS (X.1 22) 68 ∧ fr X X1 [17, 25] [2, 3, 4] [1])) 0 0 (g_A V) := by
  refine g_met (by decide) (Nat.le_of_ble_eq_true rfl) ?_
  intro p e s m below meth c hx hb hr hml hown hts hlocks hE hG ls hl
  have hl : lv_has ls 3 [(0, .ref (g_ad V 1)), (1, .ref (g_ad V 22)), (2, .ref (g_ad V 25))] := hl
  have hown : s.vm.findClass R_SecretKey = some m.cls := hown
  refine lv_aload_n hx hb d_SecretKey_fillTrace_0 rfl (lv_at hl 0 rfl) ?_
  refine g_callv (va_runV (As := []) (rest := []) ⟨hx, hb, hml, hown, hts⟩ (c_begin l V X ) (cwV 0 hts (g_goodV kw_230 kw_227 kw_228 kw_229 kw_2) rfl rfl rfl (by decide +kernel) ⟨Nat.le_of_ble_eq_true rfl, Nat.le_of_ble_eq_true rfl⟩) (g_preV (k0 := 1) (ci := 1) hE hG (by decide) rfl rfl) rfl rfl hl.1 rfl (lv_room (Nat.le_of_ble_eq_true rfl)) d_SecretKey_fillTrace_1 ⟨Nat.le_refl 0, Nat.le_refl 0⟩) hG (fun X2 H locs q2 hG => ?_)
  refine lv_aload_n hx hb d_SecretKey_fillTrace_4 rfl (lv_at hl 0 rfl) ?_
  refine lv_aload_n hx hb d_SecretKey_fillTrace_5 rfl (lv_at hl 1 rfl) ?_
  refine g_callv (va_runV (As := [.ref (g_ad V 22)]) (rest := []) ⟨hx, hb, hml, hown, hts⟩ (c_takeAll l V X2 22 (by decide) (X.1 22) 0 68 rfl (by decide) q2.1 q2.2.1 (fun j hj => by rw [q2.2.2.1 22 (fun q => by cases q), Nat.zero_add])) (cwV 1 hts (g_goodV kw_329 kw_326 kw_327 kw_328 kw_2) rfl rfl rfl (by decide +kernel) ⟨Nat.le_of_ble_eq_true rfl, Nat.le_of_ble_eq_true rfl⟩) (g_preV (k0 := 1) (ci := 1) hE hG (by decide) rfl rfl) rfl rfl hl.1 rfl (lv_room (Nat.le_of_ble_eq_true rfl)) d_SecretKey_fillTrace_6 ⟨Nat.le_refl 0, Nat.le_refl 0⟩) hG (fun X3 H locs q3 hG => ?_)
  refine lv_aload_n hx hb d_SecretKey_fillTrace_9 rfl (lv_at hl 0 rfl) ?_
  refine g_callr (va_runV (As := []) (rest := []) ⟨hx, hb, hml, hown, hts⟩ (c_finish l V X3 (X.1 22) (0 + 68) (by decide) q3.1 q3.2.1) (cwV 0 hts (g_goodV kw_249 kw_246 kw_247 kw_248 kw_2) rfl rfl rfl (by decide +kernel) ⟨Nat.le_of_ble_eq_true rfl, Nat.le_of_ble_eq_true rfl⟩) (g_preV (k0 := 1) (ci := 1) hE hG (by decide) rfl rfl) rfl rfl hl.1 rfl (lv_room (Nat.le_of_ble_eq_true rfl)) d_SecretKey_fillTrace_10 ⟨Nat.le_refl 0, Nat.le_refl 0⟩) hG (fun X4 H locs q4 hG => ?_)
  refine lv_iconst (v := nI (0)) hx hb d_SecretKey_fillTrace_13 (by decide) ?_
  refine lv_aload_n hx hb d_SecretKey_fillTrace_14 rfl (lv_at hl 2 rfl) ?_
  refine lv_iconst (v := nI (0)) hx hb d_SecretKey_fillTrace_15 (by decide) ?_
  refine lv_bipush (v := nI (8)) hx hb d_SecretKey_fillTrace_16 (by decide) ?_
  refine g_copy hx hb (hml.trans hl.1.symm) hown (hts _ (List.mem_cons_of_mem _ kw_270)) (hts _ (List.mem_cons_of_mem _ kw_272)) (hts _ (List.mem_cons_of_mem _ kw_271)) (hts _ (List.mem_cons_of_mem _ kw_11)) hE hG 17 25 (by decide) (by decide) (sp := 0) (dp := 0) (n := 8) (by decide) (by decide) (Nat.le_of_ble_eq_true rfl) (Nat.le_of_ble_eq_true rfl) d_SecretKey_fillTrace_18 (fun H locs hG => ?_)
  have hG := g_xi hG 25 (by decide) (HS (X.1 22) 68) (fun j hj => by rw [uI_s, sb_cpy0 (show j < 8 from hj), q4.1])
  exact g_vret hx hb hr hlocks hE hG (⟨uI_s _ _ _, fr_i (fr_i (fr_tr2 (fr_tr2 (fr_mono q2.2.2 (a' := [17, 25]) (b' := [2, 3, 4]) (c' := [1]) (by decide) (by decide) (by decide)) q3.2.2 (by decide) (by decide) (by decide)) q4.2 (by decide) (by decide) (by decide)) _ (by decide)) _ (by decide)⟩) d_SecretKey_fillTrace_21

set_option maxHeartbeats 4000000 in
set_option maxRecDepth 100000 in
theorem c_fillTrace_19 (l : Launch) (V : Ev) (X : Mm)  : Met l y_SecretKey_fillTrace (Cond.code y_SecretKey_fillTrace b_SecretKey_fillTrace 3 none :: WA) ({ frames := 4, cells := 0, slots := 0, locals := 87 } : Room) (g_Pc V X [.ref (g_ad V 1), .ref (g_ad V 19), .ref (g_ad V 45)]) (g_Qv V (fun X1 : Mm => X1.1 45 = HS (X.1 19) 68 ∧ fr X X1 [17, 45] [2, 3, 4] [1])) 0 0 (g_A V) := by
  refine g_met (by decide) (Nat.le_of_ble_eq_true rfl) ?_
  intro p e s m below meth c hx hb hr hml hown hts hlocks hE hG ls hl
  have hl : lv_has ls 3 [(0, .ref (g_ad V 1)), (1, .ref (g_ad V 19)), (2, .ref (g_ad V 45))] := hl
  have hown : s.vm.findClass R_SecretKey = some m.cls := hown
  refine lv_aload_n hx hb d_SecretKey_fillTrace_0 rfl (lv_at hl 0 rfl) ?_
  refine g_callv (va_runV (As := []) (rest := []) ⟨hx, hb, hml, hown, hts⟩ (c_begin l V X ) (cwV 0 hts (g_goodV kw_230 kw_227 kw_228 kw_229 kw_2) rfl rfl rfl (by decide +kernel) ⟨Nat.le_of_ble_eq_true rfl, Nat.le_of_ble_eq_true rfl⟩) (g_preV (k0 := 1) (ci := 1) hE hG (by decide) rfl rfl) rfl rfl hl.1 rfl (lv_room (Nat.le_of_ble_eq_true rfl)) d_SecretKey_fillTrace_1 ⟨Nat.le_refl 0, Nat.le_refl 0⟩) hG (fun X2 H locs q2 hG => ?_)
  refine lv_aload_n hx hb d_SecretKey_fillTrace_4 rfl (lv_at hl 0 rfl) ?_
  refine lv_aload_n hx hb d_SecretKey_fillTrace_5 rfl (lv_at hl 1 rfl) ?_
  refine g_callv (va_runV (As := [.ref (g_ad V 19)]) (rest := []) ⟨hx, hb, hml, hown, hts⟩ (c_takeAll l V X2 19 (by decide) (X.1 19) 0 68 rfl (by decide) q2.1 q2.2.1 (fun j hj => by rw [q2.2.2.1 19 (fun q => by cases q), Nat.zero_add])) (cwV 1 hts (g_goodV kw_329 kw_326 kw_327 kw_328 kw_2) rfl rfl rfl (by decide +kernel) ⟨Nat.le_of_ble_eq_true rfl, Nat.le_of_ble_eq_true rfl⟩) (g_preV (k0 := 1) (ci := 1) hE hG (by decide) rfl rfl) rfl rfl hl.1 rfl (lv_room (Nat.le_of_ble_eq_true rfl)) d_SecretKey_fillTrace_6 ⟨Nat.le_refl 0, Nat.le_refl 0⟩) hG (fun X3 H locs q3 hG => ?_)
  refine lv_aload_n hx hb d_SecretKey_fillTrace_9 rfl (lv_at hl 0 rfl) ?_
  refine g_callr (va_runV (As := []) (rest := []) ⟨hx, hb, hml, hown, hts⟩ (c_finish l V X3 (X.1 19) (0 + 68) (by decide) q3.1 q3.2.1) (cwV 0 hts (g_goodV kw_249 kw_246 kw_247 kw_248 kw_2) rfl rfl rfl (by decide +kernel) ⟨Nat.le_of_ble_eq_true rfl, Nat.le_of_ble_eq_true rfl⟩) (g_preV (k0 := 1) (ci := 1) hE hG (by decide) rfl rfl) rfl rfl hl.1 rfl (lv_room (Nat.le_of_ble_eq_true rfl)) d_SecretKey_fillTrace_10 ⟨Nat.le_refl 0, Nat.le_refl 0⟩) hG (fun X4 H locs q4 hG => ?_)
  refine lv_iconst (v := nI (0)) hx hb d_SecretKey_fillTrace_13 (by decide) ?_
  refine lv_aload_n hx hb d_SecretKey_fillTrace_14 rfl (lv_at hl 2 rfl) ?_
  refine lv_iconst (v := nI (0)) hx hb d_SecretKey_fillTrace_15 (by decide) ?_
  refine lv_bipush (v := nI (8)) hx hb d_SecretKey_fillTrace_16 (by decide) ?_
  refine g_copy hx hb (hml.trans hl.1.symm) hown (hts _ (List.mem_cons_of_mem _ kw_270)) (hts _ (List.mem_cons_of_mem _ kw_272)) (hts _ (List.mem_cons_of_mem _ kw_271)) (hts _ (List.mem_cons_of_mem _ kw_11)) hE hG 17 45 (by decide) (by decide) (sp := 0) (dp := 0) (n := 8) (by decide) (by decide) (Nat.le_of_ble_eq_true rfl) (Nat.le_of_ble_eq_true rfl) d_SecretKey_fillTrace_18 (fun H locs hG => ?_)
  have hG := g_xi hG 45 (by decide) (HS (X.1 19) 68) (fun j hj => by rw [uI_s, sb_cpy0 (show j < 8 from hj), q4.1])
  exact g_vret hx hb hr hlocks hE hG (⟨uI_s _ _ _, fr_i (fr_i (fr_tr2 (fr_tr2 (fr_mono q2.2.2 (a' := [17, 45]) (b' := [2, 3, 4]) (c' := [1]) (by decide) (by decide) (by decide)) q3.2.2 (by decide) (by decide) (by decide)) q4.2 (by decide) (by decide) (by decide)) _ (by decide)) _ (by decide)⟩) d_SecretKey_fillTrace_21

set_option maxHeartbeats 4000000 in
set_option maxRecDepth 100000 in
theorem c_tr_open_8 (l : Launch) (V : Ev) (X : Mm) (n : Nat) (hn : n ≤ 24) (hM : X.2.2 2 = nI n) : Met l y_Transcript_open (Cond.code y_Transcript_open b_Transcript_open 4 none :: WA) ({ frames := 4, cells := 0, slots := 0, locals := 87 } : Room) (g_Pc V X [.ref (g_ad V 8), .ref (g_ad V 1), .ref (g_ad V 25), .ref (g_ad V 5)]) (g_Qv V (fun X1 : Mm => X1.1 31 = HS (apB (X.1 25) 8 (X.1 18)) (8 + n) ∧ fr X X1 [17, 31] [2, 3, 4] [1])) 0 0 (g_A V) := by
  refine g_met (by decide) (Nat.le_of_ble_eq_true rfl) ?_
  intro p e s m below meth c hx hb hr hml hown hts hlocks hE hG ls hl
  have hl : lv_has ls 4 [(0, .ref (g_ad V 8)), (1, .ref (g_ad V 1)), (2, .ref (g_ad V 25)), (3, .ref (g_ad V 5))] := hl
  have hown : s.vm.findClass R_Transcript = some m.cls := hown
  refine lv_aload_n hx hb d_Transcript_open_0 rfl (lv_at hl 1 rfl) ?_
  refine g_callv (va_runV (As := []) (rest := []) ⟨hx, hb, hml, hown, hts⟩ (c_begin l V X ) (cwV 0 hts (g_goodV kw_230 kw_363 kw_228 kw_229 kw_2) rfl rfl rfl (by decide +kernel) ⟨Nat.le_of_ble_eq_true rfl, Nat.le_of_ble_eq_true rfl⟩) (g_preV (k0 := 1) (ci := 1) hE hG (by decide) rfl rfl) rfl rfl hl.1 rfl (lv_room (Nat.le_of_ble_eq_true rfl)) d_Transcript_open_1 ⟨Nat.le_refl 0, Nat.le_refl 0⟩) hG (fun X2 H locs q2 hG => ?_)
  refine lv_aload_n hx hb d_Transcript_open_4 rfl (lv_at hl 1 rfl) ?_
  refine lv_aload_n hx hb d_Transcript_open_5 rfl (lv_at hl 2 rfl) ?_
  refine g_callv (va_runV (As := [.ref (g_ad V 25)]) (rest := []) ⟨hx, hb, hml, hown, hts⟩ (c_takeAll l V X2 25 (by decide) (apB (X.1 25) 8 (X.1 18)) 0 8 rfl (by decide) q2.1 q2.2.1 (fun j hj => by rw [q2.2.2.1 25 (fun q => by cases q), Nat.zero_add]; exact (apB_lo _ _ hj).symm)) (cwV 1 hts (g_goodV kw_329 kw_364 kw_327 kw_328 kw_2) rfl rfl rfl (by decide +kernel) ⟨Nat.le_of_ble_eq_true rfl, Nat.le_of_ble_eq_true rfl⟩) (g_preV (k0 := 1) (ci := 1) hE hG (by decide) rfl rfl) rfl rfl hl.1 rfl (lv_room (Nat.le_of_ble_eq_true rfl)) d_Transcript_open_6 ⟨Nat.le_refl 0, Nat.le_refl 0⟩) hG (fun X3 H locs q3 hG => ?_)
  refine lv_aload_n hx hb d_Transcript_open_9 rfl (lv_at hl 3 rfl) ?_
  refine lv_aload_n hx hb d_Transcript_open_10 rfl (lv_at hl 1 rfl) ?_
  refine g_callv (va_runV (As := [.ref (g_ad V 1)]) (rest := []) ⟨hx, hb, hml, hown, hts⟩ (c_feed l V X3 (apB (X.1 25) 8 (X.1 18)) (0 + 8) n hn (by omega) q3.1 q3.2.1 (by rw [q3.2.2.2.2 2 (by decide), q2.2.2.2.2 2 (by decide)]; exact hM) (fun j hj => by rw [q3.2.2.1 18 (fun q => by cases q), q2.2.2.1 18 (fun q => by cases q), Nat.zero_add]; exact (apB_hi _ _ _ _).symm)) (cwV 1 hts (g_goodV kw_368 kw_365 kw_366 kw_367 kw_3) rfl rfl rfl (by decide +kernel) ⟨Nat.le_of_ble_eq_true rfl, Nat.le_of_ble_eq_true rfl⟩) (g_preV (k0 := 5) (ci := 2) hE hG (by decide) rfl rfl) rfl rfl hl.1 rfl (lv_room (Nat.le_of_ble_eq_true rfl)) d_Transcript_open_11 ⟨Nat.le_refl 0, Nat.le_refl 0⟩) hG (fun X4 H locs q4 hG => ?_)
  refine lv_aload_n hx hb d_Transcript_open_14 rfl (lv_at hl 1 rfl) ?_
  refine g_callr (va_runV (As := []) (rest := []) ⟨hx, hb, hml, hown, hts⟩ (c_finish l V X4 (apB (X.1 25) 8 (X.1 18)) (0 + 8 + n) (by omega) q4.1 q4.2.1) (cwV 0 hts (g_goodV kw_249 kw_370 kw_247 kw_248 kw_2) rfl rfl rfl (by decide +kernel) ⟨Nat.le_of_ble_eq_true rfl, Nat.le_of_ble_eq_true rfl⟩) (g_preV (k0 := 1) (ci := 1) hE hG (by decide) rfl rfl) rfl rfl hl.1 rfl (lv_room (Nat.le_of_ble_eq_true rfl)) d_Transcript_open_15 ⟨Nat.le_refl 0, Nat.le_refl 0⟩) hG (fun X5 H locs q5 hG => ?_)
  refine lv_iconst (v := nI (0)) hx hb d_Transcript_open_18 (by decide) ?_
  refine lv_aload_n hx hb d_Transcript_open_19 rfl (lv_at hl 0 rfl) ?_
  refine g_get (ci := 5) (v := .ref (g_ad V 31)) (C := R_Transcript) (T := F_Transcript) (N := 3) hx hb hts (fun w h => List.mem_cons_of_mem _ (in_Transcript w h)) hown hE hG 8 (by decide) rfl rfl 0 (by decide) (hts _ (List.mem_cons_of_mem _ kw_115)) (fun _ h9 => h9) rfl d_Transcript_open_20 ?_
  refine lv_iconst (v := nI (0)) hx hb d_Transcript_open_23 (by decide) ?_
  refine lv_bipush (v := nI (16)) hx hb d_Transcript_open_24 (by decide) ?_
  refine g_copy hx hb (hml.trans hl.1.symm) hown (hts _ (List.mem_cons_of_mem _ kw_371)) (hts _ (List.mem_cons_of_mem _ kw_272)) (hts _ (List.mem_cons_of_mem _ kw_271)) (hts _ (List.mem_cons_of_mem _ kw_11)) hE hG 17 31 (by decide) (by decide) (sp := 0) (dp := 0) (n := 16) (by decide) (by decide) (Nat.le_of_ble_eq_true rfl) (Nat.le_of_ble_eq_true rfl) d_Transcript_open_26 (fun H locs hG => ?_)
  have hG := g_xi hG 31 (by decide) (HS (apB (X.1 25) 8 (X.1 18)) (8 + n)) (fun j hj => by rw [uI_s, sb_cpy0 (show j < 16 from hj), q5.1, Nat.zero_add])
  exact g_vret hx hb hr hlocks hE hG (⟨uI_s _ _ _, fr_i (fr_i (fr_tr2 (fr_tr2 (fr_tr2 (fr_mono q2.2.2 (a' := [17, 31]) (b' := [2, 3, 4]) (c' := [1]) (by decide) (by decide) (by decide)) q3.2.2 (by decide) (by decide) (by decide)) q4.2.2 (by decide) (by decide) (by decide)) q5.2 (by decide) (by decide) (by decide)) _ (by decide)) _ (by decide)⟩) d_Transcript_open_29

set_option maxHeartbeats 4000000 in
set_option maxRecDepth 100000 in
theorem c_setHigh_8 (l : Launch) (V : Ev) (X : Mm) (pl : Nat) (x : Int32) (hpl : pl < 32) : Met l y_Transcript_setHigh (Cond.code y_Transcript_setHigh b_Transcript_setHigh 3 none :: WA) ({ frames := 1, cells := 0, slots := 0, locals := 28 } : Room) (g_Pc V X [.ref (g_ad V 8), .int (nI (pl)), .int (x)]) (g_Qv V (fun X1 : Mm => X1.1 32 = wrN (X.1 32) 0 (pl * 12) x 12 ∧ fr X X1 [32] [] [])) 0 0 (g_A V) := by
  refine g_met (by decide) (Nat.le_of_ble_eq_true rfl) ?_
  intro p e s m below meth c hx hb hr hml hown hts hlocks hE hG ls hl
  have hl : lv_has ls 3 [(0, .ref (g_ad V 8)), (1, .int (nI (pl))), (2, .int (x))] := hl
  have hown : s.vm.findClass R_Transcript = some m.cls := hown
  refine lv_aload_n hx hb d_Transcript_setHigh_0 rfl (lv_at hl 0 rfl) ?_
  refine g_get (ci := 5) (v := .ref (g_ad V 32)) (C := R_Transcript) (T := F_Transcript) (N := 3) hx hb hts (fun w h => List.mem_cons_of_mem _ (in_Transcript w h)) hown hE hG 8 (by decide) rfl rfl 1 (by decide) (hts _ (List.mem_cons_of_mem _ kw_117)) (fun _ h9 => h9) rfl d_Transcript_setHigh_1 ?_
  refine lv_iconst (v := nI (0)) hx hb d_Transcript_setHigh_4 (by decide) ?_
  refine lv_iload_n hx hb d_Transcript_setHigh_5 rfl (lv_at hl 1 rfl) ?_
  refine lv_bipush (v := nI (12)) hx hb d_Transcript_setHigh_6 (by decide) ?_
  refine lv_iload_n hx hb d_Transcript_setHigh_8 rfl (lv_at hl 2 rfl) ?_
  refine g_callv (va_runS (As := [.ref (g_ad V 32), .int (nI (0)), .int (nI (pl)), .int (nI (12)), .int (x)]) (rest := []) ⟨hx, hb, hml, hown, hts⟩ (c_write l V X 32 (by decide) 0 pl 12 x (by omega) (by show 8 * 0 + pl * 12 + 12 ≤ 8 * 48; omega)) (va_cwS 5 hts (g_goodS kw_322 kw_403 kw_321 kw_15) rfl rfl rfl (by decide +kernel) ⟨Nat.le_of_ble_eq_true rfl, Nat.le_of_ble_eq_true rfl⟩) (g_preS hE hG) rfl rfl hl.1 rfl (lv_room (Nat.le_of_ble_eq_true rfl)) d_Transcript_setHigh_9 ⟨Nat.le_refl 0, Nat.le_refl 0⟩) hG (fun X2 H locs q2 hG => ?_)
  exact g_vret hx hb hr hlocks hE hG (q2) d_Transcript_setHigh_12

set_option maxHeartbeats 4000000 in
set_option maxRecDepth 100000 in
theorem c_tr_close_8 (l : Launch) (V : Ev) (X : Mm)  : Met l y_Transcript_close (Cond.code y_Transcript_close b_Transcript_close 2 none :: WA) ({ frames := 4, cells := 0, slots := 0, locals := 87 } : Room) (g_Pc V X [.ref (g_ad V 8), .ref (g_ad V 1)]) (g_Qv V (fun X1 : Mm => X1.1 33 = HS (apB (X.1 31) 16 (X.1 32)) 64 ∧ fr X X1 [17, 33] [2, 3, 4] [1])) 0 0 (g_A V) := by
  refine g_met (by decide) (Nat.le_of_ble_eq_true rfl) ?_
  intro p e s m below meth c hx hb hr hml hown hts hlocks hE hG ls hl
  have hl : lv_has ls 2 [(0, .ref (g_ad V 8)), (1, .ref (g_ad V 1))] := hl
  have hown : s.vm.findClass R_Transcript = some m.cls := hown
  refine lv_aload_n hx hb d_Transcript_close_0 rfl (lv_at hl 1 rfl) ?_
  refine g_callv (va_runV (As := []) (rest := []) ⟨hx, hb, hml, hown, hts⟩ (c_begin l V X ) (cwV 0 hts (g_goodV kw_230 kw_363 kw_228 kw_229 kw_2) rfl rfl rfl (by decide +kernel) ⟨Nat.le_of_ble_eq_true rfl, Nat.le_of_ble_eq_true rfl⟩) (g_preV (k0 := 1) (ci := 1) hE hG (by decide) rfl rfl) rfl rfl hl.1 rfl (lv_room (Nat.le_of_ble_eq_true rfl)) d_Transcript_close_1 ⟨Nat.le_refl 0, Nat.le_refl 0⟩) hG (fun X2 H locs q2 hG => ?_)
  refine lv_aload_n hx hb d_Transcript_close_4 rfl (lv_at hl 1 rfl) ?_
  refine lv_aload_n hx hb d_Transcript_close_5 rfl (lv_at hl 0 rfl) ?_
  refine g_get (ci := 5) (v := .ref (g_ad V 31)) (C := R_Transcript) (T := F_Transcript) (N := 3) hx hb hts (fun w h => List.mem_cons_of_mem _ (in_Transcript w h)) hown hE hG 8 (by decide) rfl rfl 0 (by decide) (hts _ (List.mem_cons_of_mem _ kw_115)) (fun _ h9 => h9) rfl d_Transcript_close_6 ?_
  refine g_callv (va_runV (As := [.ref (g_ad V 31)]) (rest := []) ⟨hx, hb, hml, hown, hts⟩ (c_takeAll l V X2 31 (by decide) (apB (X.1 31) 16 (X.1 32)) 0 16 rfl (by decide) q2.1 q2.2.1 (fun j hj => by rw [q2.2.2.1 31 (fun q => by cases q), Nat.zero_add]; exact (apB_lo _ _ hj).symm)) (cwV 1 hts (g_goodV kw_329 kw_364 kw_327 kw_328 kw_2) rfl rfl rfl (by decide +kernel) ⟨Nat.le_of_ble_eq_true rfl, Nat.le_of_ble_eq_true rfl⟩) (g_preV (k0 := 1) (ci := 1) hE hG (by decide) rfl rfl) rfl rfl hl.1 rfl (lv_room (Nat.le_of_ble_eq_true rfl)) d_Transcript_close_9 ⟨Nat.le_refl 0, Nat.le_refl 0⟩) hG (fun X3 H locs q3 hG => ?_)
  refine lv_aload_n hx hb d_Transcript_close_12 rfl (lv_at hl 1 rfl) ?_
  refine lv_aload_n hx hb d_Transcript_close_13 rfl (lv_at hl 0 rfl) ?_
  refine g_get (ci := 5) (v := .ref (g_ad V 32)) (C := R_Transcript) (T := F_Transcript) (N := 3) hx hb hts (fun w h => List.mem_cons_of_mem _ (in_Transcript w h)) hown hE hG 8 (by decide) rfl rfl 1 (by decide) (hts _ (List.mem_cons_of_mem _ kw_117)) (fun _ h9 => h9) rfl d_Transcript_close_14 ?_
  refine g_callv (va_runV (As := [.ref (g_ad V 32)]) (rest := []) ⟨hx, hb, hml, hown, hts⟩ (c_takeAll l V X3 32 (by decide) (apB (X.1 31) 16 (X.1 32)) (0 + 16) 48 rfl (by decide) q3.1 q3.2.1 (fun j hj => by rw [q3.2.2.1 32 (fun q => by cases q), q2.2.2.1 32 (fun q => by cases q), Nat.zero_add]; exact (apB_hi _ _ _ _).symm)) (cwV 1 hts (g_goodV kw_329 kw_364 kw_327 kw_328 kw_2) rfl rfl rfl (by decide +kernel) ⟨Nat.le_of_ble_eq_true rfl, Nat.le_of_ble_eq_true rfl⟩) (g_preV (k0 := 1) (ci := 1) hE hG (by decide) rfl rfl) rfl rfl hl.1 rfl (lv_room (Nat.le_of_ble_eq_true rfl)) d_Transcript_close_17 ⟨Nat.le_refl 0, Nat.le_refl 0⟩) hG (fun X4 H locs q4 hG => ?_)
  refine lv_aload_n hx hb d_Transcript_close_20 rfl (lv_at hl 1 rfl) ?_
  refine g_callr (va_runV (As := []) (rest := []) ⟨hx, hb, hml, hown, hts⟩ (c_finish l V X4 (apB (X.1 31) 16 (X.1 32)) (0 + 16 + 48) (by decide) q4.1 q4.2.1) (cwV 0 hts (g_goodV kw_249 kw_370 kw_247 kw_248 kw_2) rfl rfl rfl (by decide +kernel) ⟨Nat.le_of_ble_eq_true rfl, Nat.le_of_ble_eq_true rfl⟩) (g_preV (k0 := 1) (ci := 1) hE hG (by decide) rfl rfl) rfl rfl hl.1 rfl (lv_room (Nat.le_of_ble_eq_true rfl)) d_Transcript_close_21 ⟨Nat.le_refl 0, Nat.le_refl 0⟩) hG (fun X5 H locs q5 hG => ?_)
  refine lv_iconst (v := nI (0)) hx hb d_Transcript_close_24 (by decide) ?_
  refine lv_aload_n hx hb d_Transcript_close_25 rfl (lv_at hl 0 rfl) ?_
  refine g_get (ci := 5) (v := .ref (g_ad V 33)) (C := R_Transcript) (T := F_Transcript) (N := 3) hx hb hts (fun w h => List.mem_cons_of_mem _ (in_Transcript w h)) hown hE hG 8 (by decide) rfl rfl 2 (by decide) (hts _ (List.mem_cons_of_mem _ kw_118)) (fun _ h9 => h9) rfl d_Transcript_close_26 ?_
  refine lv_iconst (v := nI (0)) hx hb d_Transcript_close_29 (by decide) ?_
  refine lv_bipush (v := nI (8)) hx hb d_Transcript_close_30 (by decide) ?_
  refine g_copy hx hb (hml.trans hl.1.symm) hown (hts _ (List.mem_cons_of_mem _ kw_371)) (hts _ (List.mem_cons_of_mem _ kw_272)) (hts _ (List.mem_cons_of_mem _ kw_271)) (hts _ (List.mem_cons_of_mem _ kw_11)) hE hG 17 33 (by decide) (by decide) (sp := 0) (dp := 0) (n := 8) (by decide) (by decide) (Nat.le_of_ble_eq_true rfl) (Nat.le_of_ble_eq_true rfl) d_Transcript_close_32 (fun H locs hG => ?_)
  have hG := g_xi hG 33 (by decide) (HS (apB (X.1 31) 16 (X.1 32)) 64) (fun j hj => by rw [uI_s, sb_cpy0 (show j < 8 from hj), q5.1])
  exact g_vret hx hb hr hlocks hE hG (⟨uI_s _ _ _, fr_i (fr_i (fr_tr2 (fr_tr2 (fr_tr2 (fr_mono q2.2.2 (a' := [17, 33]) (b' := [2, 3, 4]) (c' := [1]) (by decide) (by decide) (by decide)) q3.2.2 (by decide) (by decide) (by decide)) q4.2.2 (by decide) (by decide) (by decide)) q5.2 (by decide) (by decide) (by decide)) _ (by decide)) _ (by decide)⟩) d_Transcript_close_35

set_option maxHeartbeats 4000000 in
set_option maxRecDepth 100000 in
theorem c_tr_open_10 (l : Launch) (V : Ev) (X : Mm) (n : Nat) (hn : n ≤ 24) (hM : X.2.2 2 = nI n) : Met l y_Transcript_open (Cond.code y_Transcript_open b_Transcript_open 4 none :: WA) ({ frames := 4, cells := 0, slots := 0, locals := 87 } : Room) (g_Pc V X [.ref (g_ad V 10), .ref (g_ad V 1), .ref (g_ad V 45), .ref (g_ad V 5)]) (g_Qv V (fun X1 : Mm => X1.1 42 = HS (apB (X.1 45) 8 (X.1 18)) (8 + n) ∧ fr X X1 [17, 42] [2, 3, 4] [1])) 0 0 (g_A V) := by
  refine g_met (by decide) (Nat.le_of_ble_eq_true rfl) ?_
  intro p e s m below meth c hx hb hr hml hown hts hlocks hE hG ls hl
  have hl : lv_has ls 4 [(0, .ref (g_ad V 10)), (1, .ref (g_ad V 1)), (2, .ref (g_ad V 45)), (3, .ref (g_ad V 5))] := hl
  have hown : s.vm.findClass R_Transcript = some m.cls := hown
  refine lv_aload_n hx hb d_Transcript_open_0 rfl (lv_at hl 1 rfl) ?_
  refine g_callv (va_runV (As := []) (rest := []) ⟨hx, hb, hml, hown, hts⟩ (c_begin l V X ) (cwV 0 hts (g_goodV kw_230 kw_363 kw_228 kw_229 kw_2) rfl rfl rfl (by decide +kernel) ⟨Nat.le_of_ble_eq_true rfl, Nat.le_of_ble_eq_true rfl⟩) (g_preV (k0 := 1) (ci := 1) hE hG (by decide) rfl rfl) rfl rfl hl.1 rfl (lv_room (Nat.le_of_ble_eq_true rfl)) d_Transcript_open_1 ⟨Nat.le_refl 0, Nat.le_refl 0⟩) hG (fun X2 H locs q2 hG => ?_)
  refine lv_aload_n hx hb d_Transcript_open_4 rfl (lv_at hl 1 rfl) ?_
  refine lv_aload_n hx hb d_Transcript_open_5 rfl (lv_at hl 2 rfl) ?_
  refine g_callv (va_runV (As := [.ref (g_ad V 45)]) (rest := []) ⟨hx, hb, hml, hown, hts⟩ (c_takeAll l V X2 45 (by decide) (apB (X.1 45) 8 (X.1 18)) 0 8 rfl (by decide) q2.1 q2.2.1 (fun j hj => by rw [q2.2.2.1 45 (fun q => by cases q), Nat.zero_add]; exact (apB_lo _ _ hj).symm)) (cwV 1 hts (g_goodV kw_329 kw_364 kw_327 kw_328 kw_2) rfl rfl rfl (by decide +kernel) ⟨Nat.le_of_ble_eq_true rfl, Nat.le_of_ble_eq_true rfl⟩) (g_preV (k0 := 1) (ci := 1) hE hG (by decide) rfl rfl) rfl rfl hl.1 rfl (lv_room (Nat.le_of_ble_eq_true rfl)) d_Transcript_open_6 ⟨Nat.le_refl 0, Nat.le_refl 0⟩) hG (fun X3 H locs q3 hG => ?_)
  refine lv_aload_n hx hb d_Transcript_open_9 rfl (lv_at hl 3 rfl) ?_
  refine lv_aload_n hx hb d_Transcript_open_10 rfl (lv_at hl 1 rfl) ?_
  refine g_callv (va_runV (As := [.ref (g_ad V 1)]) (rest := []) ⟨hx, hb, hml, hown, hts⟩ (c_feed l V X3 (apB (X.1 45) 8 (X.1 18)) (0 + 8) n hn (by omega) q3.1 q3.2.1 (by rw [q3.2.2.2.2 2 (by decide), q2.2.2.2.2 2 (by decide)]; exact hM) (fun j hj => by rw [q3.2.2.1 18 (fun q => by cases q), q2.2.2.1 18 (fun q => by cases q), Nat.zero_add]; exact (apB_hi _ _ _ _).symm)) (cwV 1 hts (g_goodV kw_368 kw_365 kw_366 kw_367 kw_3) rfl rfl rfl (by decide +kernel) ⟨Nat.le_of_ble_eq_true rfl, Nat.le_of_ble_eq_true rfl⟩) (g_preV (k0 := 5) (ci := 2) hE hG (by decide) rfl rfl) rfl rfl hl.1 rfl (lv_room (Nat.le_of_ble_eq_true rfl)) d_Transcript_open_11 ⟨Nat.le_refl 0, Nat.le_refl 0⟩) hG (fun X4 H locs q4 hG => ?_)
  refine lv_aload_n hx hb d_Transcript_open_14 rfl (lv_at hl 1 rfl) ?_
  refine g_callr (va_runV (As := []) (rest := []) ⟨hx, hb, hml, hown, hts⟩ (c_finish l V X4 (apB (X.1 45) 8 (X.1 18)) (0 + 8 + n) (by omega) q4.1 q4.2.1) (cwV 0 hts (g_goodV kw_249 kw_370 kw_247 kw_248 kw_2) rfl rfl rfl (by decide +kernel) ⟨Nat.le_of_ble_eq_true rfl, Nat.le_of_ble_eq_true rfl⟩) (g_preV (k0 := 1) (ci := 1) hE hG (by decide) rfl rfl) rfl rfl hl.1 rfl (lv_room (Nat.le_of_ble_eq_true rfl)) d_Transcript_open_15 ⟨Nat.le_refl 0, Nat.le_refl 0⟩) hG (fun X5 H locs q5 hG => ?_)
  refine lv_iconst (v := nI (0)) hx hb d_Transcript_open_18 (by decide) ?_
  refine lv_aload_n hx hb d_Transcript_open_19 rfl (lv_at hl 0 rfl) ?_
  refine g_get (ci := 5) (v := .ref (g_ad V 42)) (C := R_Transcript) (T := F_Transcript) (N := 3) hx hb hts (fun w h => List.mem_cons_of_mem _ (in_Transcript w h)) hown hE hG 10 (by decide) rfl rfl 0 (by decide) (hts _ (List.mem_cons_of_mem _ kw_115)) (fun _ h9 => h9) rfl d_Transcript_open_20 ?_
  refine lv_iconst (v := nI (0)) hx hb d_Transcript_open_23 (by decide) ?_
  refine lv_bipush (v := nI (16)) hx hb d_Transcript_open_24 (by decide) ?_
  refine g_copy hx hb (hml.trans hl.1.symm) hown (hts _ (List.mem_cons_of_mem _ kw_371)) (hts _ (List.mem_cons_of_mem _ kw_272)) (hts _ (List.mem_cons_of_mem _ kw_271)) (hts _ (List.mem_cons_of_mem _ kw_11)) hE hG 17 42 (by decide) (by decide) (sp := 0) (dp := 0) (n := 16) (by decide) (by decide) (Nat.le_of_ble_eq_true rfl) (Nat.le_of_ble_eq_true rfl) d_Transcript_open_26 (fun H locs hG => ?_)
  have hG := g_xi hG 42 (by decide) (HS (apB (X.1 45) 8 (X.1 18)) (8 + n)) (fun j hj => by rw [uI_s, sb_cpy0 (show j < 16 from hj), q5.1, Nat.zero_add])
  exact g_vret hx hb hr hlocks hE hG (⟨uI_s _ _ _, fr_i (fr_i (fr_tr2 (fr_tr2 (fr_tr2 (fr_mono q2.2.2 (a' := [17, 42]) (b' := [2, 3, 4]) (c' := [1]) (by decide) (by decide) (by decide)) q3.2.2 (by decide) (by decide) (by decide)) q4.2.2 (by decide) (by decide) (by decide)) q5.2 (by decide) (by decide) (by decide)) _ (by decide)) _ (by decide)⟩) d_Transcript_open_29

set_option maxHeartbeats 4000000 in
set_option maxRecDepth 100000 in
theorem c_setHigh_10 (l : Launch) (V : Ev) (X : Mm) (pl : Nat) (x : Int32) (hpl : pl < 32) : Met l y_Transcript_setHigh (Cond.code y_Transcript_setHigh b_Transcript_setHigh 3 none :: WA) ({ frames := 1, cells := 0, slots := 0, locals := 28 } : Room) (g_Pc V X [.ref (g_ad V 10), .int (nI (pl)), .int (x)]) (g_Qv V (fun X1 : Mm => X1.1 43 = wrN (X.1 43) 0 (pl * 12) x 12 ∧ fr X X1 [43] [] [])) 0 0 (g_A V) := by
  refine g_met (by decide) (Nat.le_of_ble_eq_true rfl) ?_
  intro p e s m below meth c hx hb hr hml hown hts hlocks hE hG ls hl
  have hl : lv_has ls 3 [(0, .ref (g_ad V 10)), (1, .int (nI (pl))), (2, .int (x))] := hl
  have hown : s.vm.findClass R_Transcript = some m.cls := hown
  refine lv_aload_n hx hb d_Transcript_setHigh_0 rfl (lv_at hl 0 rfl) ?_
  refine g_get (ci := 5) (v := .ref (g_ad V 43)) (C := R_Transcript) (T := F_Transcript) (N := 3) hx hb hts (fun w h => List.mem_cons_of_mem _ (in_Transcript w h)) hown hE hG 10 (by decide) rfl rfl 1 (by decide) (hts _ (List.mem_cons_of_mem _ kw_117)) (fun _ h9 => h9) rfl d_Transcript_setHigh_1 ?_
  refine lv_iconst (v := nI (0)) hx hb d_Transcript_setHigh_4 (by decide) ?_
  refine lv_iload_n hx hb d_Transcript_setHigh_5 rfl (lv_at hl 1 rfl) ?_
  refine lv_bipush (v := nI (12)) hx hb d_Transcript_setHigh_6 (by decide) ?_
  refine lv_iload_n hx hb d_Transcript_setHigh_8 rfl (lv_at hl 2 rfl) ?_
  refine g_callv (va_runS (As := [.ref (g_ad V 43), .int (nI (0)), .int (nI (pl)), .int (nI (12)), .int (x)]) (rest := []) ⟨hx, hb, hml, hown, hts⟩ (c_write l V X 43 (by decide) 0 pl 12 x (by omega) (by show 8 * 0 + pl * 12 + 12 ≤ 8 * 48; omega)) (va_cwS 5 hts (g_goodS kw_322 kw_403 kw_321 kw_15) rfl rfl rfl (by decide +kernel) ⟨Nat.le_of_ble_eq_true rfl, Nat.le_of_ble_eq_true rfl⟩) (g_preS hE hG) rfl rfl hl.1 rfl (lv_room (Nat.le_of_ble_eq_true rfl)) d_Transcript_setHigh_9 ⟨Nat.le_refl 0, Nat.le_refl 0⟩) hG (fun X2 H locs q2 hG => ?_)
  exact g_vret hx hb hr hlocks hE hG (q2) d_Transcript_setHigh_12

set_option maxHeartbeats 4000000 in
set_option maxRecDepth 100000 in
theorem c_tr_close_10 (l : Launch) (V : Ev) (X : Mm)  : Met l y_Transcript_close (Cond.code y_Transcript_close b_Transcript_close 2 none :: WA) ({ frames := 4, cells := 0, slots := 0, locals := 87 } : Room) (g_Pc V X [.ref (g_ad V 10), .ref (g_ad V 1)]) (g_Qv V (fun X1 : Mm => X1.1 44 = HS (apB (X.1 42) 16 (X.1 43)) 64 ∧ fr X X1 [17, 44] [2, 3, 4] [1])) 0 0 (g_A V) := by
  refine g_met (by decide) (Nat.le_of_ble_eq_true rfl) ?_
  intro p e s m below meth c hx hb hr hml hown hts hlocks hE hG ls hl
  have hl : lv_has ls 2 [(0, .ref (g_ad V 10)), (1, .ref (g_ad V 1))] := hl
  have hown : s.vm.findClass R_Transcript = some m.cls := hown
  refine lv_aload_n hx hb d_Transcript_close_0 rfl (lv_at hl 1 rfl) ?_
  refine g_callv (va_runV (As := []) (rest := []) ⟨hx, hb, hml, hown, hts⟩ (c_begin l V X ) (cwV 0 hts (g_goodV kw_230 kw_363 kw_228 kw_229 kw_2) rfl rfl rfl (by decide +kernel) ⟨Nat.le_of_ble_eq_true rfl, Nat.le_of_ble_eq_true rfl⟩) (g_preV (k0 := 1) (ci := 1) hE hG (by decide) rfl rfl) rfl rfl hl.1 rfl (lv_room (Nat.le_of_ble_eq_true rfl)) d_Transcript_close_1 ⟨Nat.le_refl 0, Nat.le_refl 0⟩) hG (fun X2 H locs q2 hG => ?_)
  refine lv_aload_n hx hb d_Transcript_close_4 rfl (lv_at hl 1 rfl) ?_
  refine lv_aload_n hx hb d_Transcript_close_5 rfl (lv_at hl 0 rfl) ?_
  refine g_get (ci := 5) (v := .ref (g_ad V 42)) (C := R_Transcript) (T := F_Transcript) (N := 3) hx hb hts (fun w h => List.mem_cons_of_mem _ (in_Transcript w h)) hown hE hG 10 (by decide) rfl rfl 0 (by decide) (hts _ (List.mem_cons_of_mem _ kw_115)) (fun _ h9 => h9) rfl d_Transcript_close_6 ?_
  refine g_callv (va_runV (As := [.ref (g_ad V 42)]) (rest := []) ⟨hx, hb, hml, hown, hts⟩ (c_takeAll l V X2 42 (by decide) (apB (X.1 42) 16 (X.1 43)) 0 16 rfl (by decide) q2.1 q2.2.1 (fun j hj => by rw [q2.2.2.1 42 (fun q => by cases q), Nat.zero_add]; exact (apB_lo _ _ hj).symm)) (cwV 1 hts (g_goodV kw_329 kw_364 kw_327 kw_328 kw_2) rfl rfl rfl (by decide +kernel) ⟨Nat.le_of_ble_eq_true rfl, Nat.le_of_ble_eq_true rfl⟩) (g_preV (k0 := 1) (ci := 1) hE hG (by decide) rfl rfl) rfl rfl hl.1 rfl (lv_room (Nat.le_of_ble_eq_true rfl)) d_Transcript_close_9 ⟨Nat.le_refl 0, Nat.le_refl 0⟩) hG (fun X3 H locs q3 hG => ?_)
  refine lv_aload_n hx hb d_Transcript_close_12 rfl (lv_at hl 1 rfl) ?_
  refine lv_aload_n hx hb d_Transcript_close_13 rfl (lv_at hl 0 rfl) ?_
  refine g_get (ci := 5) (v := .ref (g_ad V 43)) (C := R_Transcript) (T := F_Transcript) (N := 3) hx hb hts (fun w h => List.mem_cons_of_mem _ (in_Transcript w h)) hown hE hG 10 (by decide) rfl rfl 1 (by decide) (hts _ (List.mem_cons_of_mem _ kw_117)) (fun _ h9 => h9) rfl d_Transcript_close_14 ?_
  refine g_callv (va_runV (As := [.ref (g_ad V 43)]) (rest := []) ⟨hx, hb, hml, hown, hts⟩ (c_takeAll l V X3 43 (by decide) (apB (X.1 42) 16 (X.1 43)) (0 + 16) 48 rfl (by decide) q3.1 q3.2.1 (fun j hj => by rw [q3.2.2.1 43 (fun q => by cases q), q2.2.2.1 43 (fun q => by cases q), Nat.zero_add]; exact (apB_hi _ _ _ _).symm)) (cwV 1 hts (g_goodV kw_329 kw_364 kw_327 kw_328 kw_2) rfl rfl rfl (by decide +kernel) ⟨Nat.le_of_ble_eq_true rfl, Nat.le_of_ble_eq_true rfl⟩) (g_preV (k0 := 1) (ci := 1) hE hG (by decide) rfl rfl) rfl rfl hl.1 rfl (lv_room (Nat.le_of_ble_eq_true rfl)) d_Transcript_close_17 ⟨Nat.le_refl 0, Nat.le_refl 0⟩) hG (fun X4 H locs q4 hG => ?_)
  refine lv_aload_n hx hb d_Transcript_close_20 rfl (lv_at hl 1 rfl) ?_
  refine g_callr (va_runV (As := []) (rest := []) ⟨hx, hb, hml, hown, hts⟩ (c_finish l V X4 (apB (X.1 42) 16 (X.1 43)) (0 + 16 + 48) (by decide) q4.1 q4.2.1) (cwV 0 hts (g_goodV kw_249 kw_370 kw_247 kw_248 kw_2) rfl rfl rfl (by decide +kernel) ⟨Nat.le_of_ble_eq_true rfl, Nat.le_of_ble_eq_true rfl⟩) (g_preV (k0 := 1) (ci := 1) hE hG (by decide) rfl rfl) rfl rfl hl.1 rfl (lv_room (Nat.le_of_ble_eq_true rfl)) d_Transcript_close_21 ⟨Nat.le_refl 0, Nat.le_refl 0⟩) hG (fun X5 H locs q5 hG => ?_)
  refine lv_iconst (v := nI (0)) hx hb d_Transcript_close_24 (by decide) ?_
  refine lv_aload_n hx hb d_Transcript_close_25 rfl (lv_at hl 0 rfl) ?_
  refine g_get (ci := 5) (v := .ref (g_ad V 44)) (C := R_Transcript) (T := F_Transcript) (N := 3) hx hb hts (fun w h => List.mem_cons_of_mem _ (in_Transcript w h)) hown hE hG 10 (by decide) rfl rfl 2 (by decide) (hts _ (List.mem_cons_of_mem _ kw_118)) (fun _ h9 => h9) rfl d_Transcript_close_26 ?_
  refine lv_iconst (v := nI (0)) hx hb d_Transcript_close_29 (by decide) ?_
  refine lv_bipush (v := nI (8)) hx hb d_Transcript_close_30 (by decide) ?_
  refine g_copy hx hb (hml.trans hl.1.symm) hown (hts _ (List.mem_cons_of_mem _ kw_371)) (hts _ (List.mem_cons_of_mem _ kw_272)) (hts _ (List.mem_cons_of_mem _ kw_271)) (hts _ (List.mem_cons_of_mem _ kw_11)) hE hG 17 44 (by decide) (by decide) (sp := 0) (dp := 0) (n := 8) (by decide) (by decide) (Nat.le_of_ble_eq_true rfl) (Nat.le_of_ble_eq_true rfl) d_Transcript_close_32 (fun H locs hG => ?_)
  have hG := g_xi hG 44 (by decide) (HS (apB (X.1 42) 16 (X.1 43)) 64) (fun j hj => by rw [uI_s, sb_cpy0 (show j < 8 from hj), q5.1])
  exact g_vret hx hb hr hlocks hE hG (⟨uI_s _ _ _, fr_i (fr_i (fr_tr2 (fr_tr2 (fr_tr2 (fr_mono q2.2.2 (a' := [17, 44]) (b' := [2, 3, 4]) (c' := [1]) (by decide) (by decide) (by decide)) q3.2.2 (by decide) (by decide) (by decide)) q4.2.2 (by decide) (by decide) (by decide)) q5.2 (by decide) (by decide) (by decide)) _ (by decide)) _ (by decide)⟩) d_Transcript_close_35

set_option maxHeartbeats 4000000 in
set_option maxRecDepth 100000 in
theorem c_hasSealOf (l : Launch) (V : Ev) (X : Mm)  : Met l y_Transcript_hasSealOf (Cond.code y_Transcript_hasSealOf b_Transcript_hasSealOf 3 (some .boolean) :: WA) ({ frames := 0, cells := 0, slots := 0, locals := 0 } : Room) (g_Pc V X [.ref (g_ad V 10), .ref (g_ad V 20)]) (g_Qi V (fun (r : Int32) (X1 : Mm) => ((r = nI 1 ∧ ∀ j, j < 8 → X.1 44 j = X.1 20 j) ∨ (r = nI 0 ∧ ∃ j, j < 8 ∧ ¬ X.1 44 j = X.1 20 j)) ∧ X = X1)) 0 0 (g_A V) := by
  refine g_met (by decide) (Nat.le_of_ble_eq_true rfl) ?_
  intro p e s m below meth c hx hb hr hml hown hts hlocks hE hG ls hl
  have hl : lv_has ls 3 [(0, .ref (g_ad V 10)), (1, .ref (g_ad V 20))] := hl
  have hown : s.vm.findClass R_Transcript = some m.cls := hown
  refine lv_iconst (v := nI (0)) hx hb d_Transcript_hasSealOf_0 (by decide) ?_
  refine lv_istore_n (lv' := [(2, .int (nI (0))), (0, .ref (g_ad V 10)), (1, .ref (g_ad V 20))]) hx hb d_Transcript_hasSealOf_1 rfl hl (by decide) rfl (fun ls hl => ?_)
  have K2 : ∀ (n i : Nat), i + n = 8 → ∀ (ls : Array Slot), (∀ j, j < i → X.1 44 j = X.1 20 j) → lv_has ls 3 [(0, .ref (g_ad V 10)), (1, .ref (g_ad V 20)), (2, .int (nI (i)))] → W p l e ({ frames := 0, cells := 0, slots := 0, locals := 0 } : Room) s m ([.ref (g_ad V 10), .ref (g_ad V 20)] : List Value).toArray below meth c s.heap [] 0 0 (MQ below (g_Qi V (fun (r : Int32) (X1 : Mm) => ((r = nI 1 ∧ ∀ j, j < 8 → X.1 44 j = X.1 20 j) ∨ (r = nI 0 ∧ ∃ j, j < 8 ∧ ¬ X.1 44 j = X.1 20 j)) ∧ X = X1)) ([.ref (g_ad V 10), .ref (g_ad V 20)] : List Value).toArray s 0 0 (g_A V)) (F0 m 2 ls []) := by
    intro n
    induction n with
    | zero =>
      intro i hin2 ls hA hl
      have hi2 : 8 = i := by omega
      subst hi2
      refine lv_iload_n hx hb d_Transcript_hasSealOf_2 rfl (lv_at hl 2 rfl) ?_
      refine lv_bipush (v := nI (8)) hx hb d_Transcript_hasSealOf_3 (by decide) ?_
      refine lv_icmp_ge (tgt := 28) hx hb d_Transcript_hasSealOf_5 (by decide) (fun _ => ?_) (fun q => absurd ((g_geN (x := 8) (y := 8) (by omega) (by omega)).mp q) (by omega))
      refine lv_iconst (v := nI (1)) hx hb d_Transcript_hasSealOf_28 (by decide) ?_
      exact g_zret hx hb hr hlocks hE hG (by decide) (⟨Or.inl ⟨rfl, hA⟩, rfl⟩) d_Transcript_hasSealOf_29
    | succ n ih2 =>
      intro i hin2 ls hA hl
      have hi2 : i < 8 := by omega
      refine lv_iload_n hx hb d_Transcript_hasSealOf_2 rfl (lv_at hl 2 rfl) ?_
      refine lv_bipush (v := nI (8)) hx hb d_Transcript_hasSealOf_3 (by decide) ?_
      refine lv_icmp_ge (tgt := 28) hx hb d_Transcript_hasSealOf_5 (by decide) (fun q => absurd ((g_ge (x := i) (y := 8) (by omega) (by omega)).mp q) (by omega)) (fun _ => ?_)
      refine lv_aload_n hx hb d_Transcript_hasSealOf_8 rfl (lv_at hl 0 rfl) ?_
      refine g_get (ci := 5) (v := .ref (g_ad V 44)) (C := R_Transcript) (T := F_Transcript) (N := 3) hx hb hts (fun w h => List.mem_cons_of_mem _ (in_Transcript w h)) hown hE hG 10 (by decide) rfl rfl 2 (by decide) (hts _ (List.mem_cons_of_mem _ kw_118)) (fun _ h9 => h9) rfl d_Transcript_hasSealOf_9 ?_
      refine lv_iload_n hx hb d_Transcript_hasSealOf_12 rfl (lv_at hl 2 rfl) ?_
      refine g_iald hx hb hE hG 44 (by decide) (i) (rfl) (show _ < 8 by omega) (v := X.1 44 i) (rfl) d_Transcript_hasSealOf_13 ?_
      refine lv_aload_n hx hb d_Transcript_hasSealOf_14 rfl (lv_at hl 1 rfl) ?_
      refine lv_iload_n hx hb d_Transcript_hasSealOf_15 rfl (lv_at hl 2 rfl) ?_
      refine g_iald hx hb hE hG 20 (by decide) (i) (rfl) (show _ < 62 by omega) (v := X.1 20 i) (rfl) d_Transcript_hasSealOf_16 ?_
      refine lv_icmp_eq (tgt := 22) hx hb d_Transcript_hasSealOf_17 (by decide) (fun c17 => ?_) (fun c17 => ?_)
      · refine lv_iinc (v := nI (i + 1)) (lv' := [(2, .int (nI (i + 1))), (0, .ref (g_ad V 10)), (1, .ref (g_ad V 20))]) hx hb d_Transcript_hasSealOf_22 hl (k := 2) rfl (g_inc _) (by decide) rfl (fun ls hl => ?_)
        refine lv_goto (tgt := 2) hx hb d_Transcript_hasSealOf_25 (by decide) ?_
        exact ih2 (i + 1) (by omega) ls (lt_s hA c17) (lv_sub hl [1, 2, 0] rfl)
      · refine lv_iconst (v := nI (0)) hx hb d_Transcript_hasSealOf_20 (by decide) ?_
        exact g_zret hx hb hr hlocks hE hG (by decide) (⟨Or.inr ⟨rfl, i, by omega, c17⟩, rfl⟩) d_Transcript_hasSealOf_21
  exact K2 (8 - 0) 0 (by omega) ls lt_0 (lv_sub hl [1, 2, 0] rfl)

set_option maxHeartbeats 4000000 in
set_option maxRecDepth 100000 in
theorem c_splitT (l : Launch) (V : Ev) (X : Mm)  : Met l y_SecretKey_splitT (Cond.code y_SecretKey_splitT b_SecretKey_splitT 3 none :: WA) ({ frames := 2, cells := 0, slots := 0, locals := 50 } : Room) (g_Pc V X [.ref (g_ad V 6)]) (g_Qv V (fun X1 : Mm => X1.1 29 = t0P (X.1 26) (X.1 27) (X.1 28) ∧ X1.1 22 = pkN (X.1 22) (upP (X.1 26) (X.1 27) (X.1 28)) 8 15 32 ∧ fr X X1 [22, 29, 30] [] [])) 0 0 (g_A V) := by
  refine g_met (by decide) (Nat.le_of_ble_eq_true rfl) ?_
  intro p e s m below meth c hx hb hr hml hown hts hlocks hE hG ls hl
  have hl : lv_has ls 3 [(0, .ref (g_ad V 6))] := hl
  have hown : s.vm.findClass R_SecretKey = some m.cls := hown
  refine lv_aload_n hx hb d_SecretKey_splitT_0 rfl (lv_at hl 0 rfl) ?_
  refine g_get (ci := 3) (v := .ref (g_ad V 26)) (C := R_SecretKey) (T := F_SecretKey) (N := 9) hx hb hts (fun w h => List.mem_cons_of_mem _ (in_SecretKey w h)) hown hE hG 6 (by decide) rfl rfl 4 (by decide) (hts _ (List.mem_cons_of_mem _ kw_75)) (fun _ h9 => h9) rfl d_SecretKey_splitT_1 ?_
  refine lv_aload_n hx hb d_SecretKey_splitT_4 rfl (lv_at hl 0 rfl) ?_
  refine g_get (ci := 3) (v := .ref (g_ad V 27)) (C := R_SecretKey) (T := F_SecretKey) (N := 9) hx hb hts (fun w h => List.mem_cons_of_mem _ (in_SecretKey w h)) hown hE hG 6 (by decide) rfl rfl 5 (by decide) (hts _ (List.mem_cons_of_mem _ kw_77)) (fun _ h9 => h9) rfl d_SecretKey_splitT_5 ?_
  refine lv_aload_n hx hb d_SecretKey_splitT_8 rfl (lv_at hl 0 rfl) ?_
  refine g_get (ci := 3) (v := .ref (g_ad V 30)) (C := R_SecretKey) (T := F_SecretKey) (N := 9) hx hb hts (fun w h => List.mem_cons_of_mem _ (in_SecretKey w h)) hown hE hG 6 (by decide) rfl rfl 8 (by decide) (hts _ (List.mem_cons_of_mem _ kw_83)) (fun _ h9 => h9) rfl d_SecretKey_splitT_9 ?_
  refine g_callv (va_runS (As := [.ref (g_ad V 26), .ref (g_ad V 27), .ref (g_ad V 30)]) (rest := []) ⟨hx, hb, hml, hown, hts⟩ (c_applyMatrix l V X 26 (by decide) rfl 27 (by decide) rfl 30 (by decide) rfl (by decide) (by decide)) (va_cwS 3 hts (g_goodS kw_305 kw_303 kw_304 kw_13) rfl rfl rfl (by decide +kernel) ⟨Nat.le_of_ble_eq_true rfl, Nat.le_of_ble_eq_true rfl⟩) (g_preS hE hG) rfl rfl hl.1 rfl (lv_room (Nat.le_of_ble_eq_true rfl)) d_SecretKey_splitT_12 ⟨Nat.le_refl 0, Nat.le_refl 0⟩) hG (fun X0 H locs q0 hG => ?_)
  refine lv_iconst (v := nI (0)) hx hb d_SecretKey_splitT_15 (by decide) ?_
  refine lv_istore_n (lv' := [(1, .int (nI (0))), (0, .ref (g_ad V 6))]) hx hb d_SecretKey_splitT_16 rfl hl (by decide) rfl (fun ls hl => ?_)
  have K17 : ∀ (n i : Nat), i + n = 32 → ∀ (X1 : Mm) (H : Heap) (locs : List Loc), ∀ (ls : Array Slot), (fr X X1 [22, 29, 30] [] []) → (X1.1 30 = mmP (X.1 26) (X.1 27)) → (X1.1 29 = segI (t0P (X.1 26) (X.1 27) (X.1 28)) (X.1 29) i) → (X1.1 22 = pkN (X.1 22) (upP (X.1 26) (X.1 27) (X.1 28)) 8 15 i) → g_st V X1 s.heap H locs → lv_has ls 3 [(0, .ref (g_ad V 6)), (1, .int (nI (i)))] → W p l e ({ frames := 2, cells := 0, slots := 0, locals := 50 } : Room) s m ([.ref (g_ad V 6)] : List Value).toArray below meth c H locs 0 0 (MQ below (g_Qv V (fun X1 : Mm => X1.1 29 = t0P (X.1 26) (X.1 27) (X.1 28) ∧ X1.1 22 = pkN (X.1 22) (upP (X.1 26) (X.1 27) (X.1 28)) 8 15 32 ∧ fr X X1 [22, 29, 30] [] [])) ([.ref (g_ad V 6)] : List Value).toArray s 0 0 (g_A V)) (F0 m 17 ls []) := by
    intro n
    induction n with
    | zero =>
      intro i hin17 X1 H locs ls hF h30 h29 h22 hG hl
      have hi17 : 32 = i := by omega
      subst hi17
      refine lv_iload_n hx hb d_SecretKey_splitT_17 rfl (lv_at hl 1 rfl) ?_
      refine lv_bipush (v := nI (32)) hx hb d_SecretKey_splitT_18 (by decide) ?_
      refine lv_icmp_ge (tgt := 81) hx hb d_SecretKey_splitT_20 (by decide) (fun _ => ?_) (fun q => absurd ((g_geN (x := 32) (y := 32) (by omega) (by omega)).mp q) (by omega))
      have hG := g_xi hG 29 (by decide) (t0P (X.1 26) (X.1 27) (X.1 28)) (fun j hj => by rw [h29]; exact segI_e _ _ hj)
      exact g_vret hx hb hr hlocks hE hG (⟨uI_s _ _ _, (uI_n _ _ (by decide)).trans h22, fr_i hF _ (by decide)⟩) d_SecretKey_splitT_81
    | succ n ih17 =>
      intro i hin17 X1 H locs ls hF h30 h29 h22 hG hl
      have hi17 : i < 32 := by omega
      refine lv_iload_n hx hb d_SecretKey_splitT_17 rfl (lv_at hl 1 rfl) ?_
      refine lv_bipush (v := nI (32)) hx hb d_SecretKey_splitT_18 (by decide) ?_
      refine lv_icmp_ge (tgt := 81) hx hb d_SecretKey_splitT_20 (by decide) (fun q => absurd ((g_ge (x := i) (y := 32) (by omega) (by omega)).mp q) (by omega)) (fun _ => ?_)
      refine lv_aload_n hx hb d_SecretKey_splitT_23 rfl (lv_at hl 0 rfl) ?_
      refine g_get (ci := 3) (v := .ref (g_ad V 30)) (C := R_SecretKey) (T := F_SecretKey) (N := 9) hx hb hts (fun w h => List.mem_cons_of_mem _ (in_SecretKey w h)) hown hE hG 6 (by decide) rfl rfl 8 (by decide) (hts _ (List.mem_cons_of_mem _ kw_83)) (fun _ h9 => h9) rfl d_SecretKey_splitT_24 ?_
      refine lv_iload_n hx hb d_SecretKey_splitT_27 rfl (lv_at hl 1 rfl) ?_
      refine g_iald hx hb hE hG 30 (by decide) (i) (rfl) (show _ < 32 by omega) (v := mmP (X.1 26) (X.1 27) i) (congrFun h30 _) d_SecretKey_splitT_28 ?_
      refine lv_aload_n hx hb d_SecretKey_splitT_29 rfl (lv_at hl 0 rfl) ?_
      refine g_get (ci := 3) (v := .ref (g_ad V 28)) (C := R_SecretKey) (T := F_SecretKey) (N := 9) hx hb hts (fun w h => List.mem_cons_of_mem _ (in_SecretKey w h)) hown hE hG 6 (by decide) rfl rfl 6 (by decide) (hts _ (List.mem_cons_of_mem _ kw_79)) (fun _ h9 => h9) rfl d_SecretKey_splitT_30 ?_
      refine lv_iload_n hx hb d_SecretKey_splitT_33 rfl (lv_at hl 1 rfl) ?_
      refine g_iald hx hb hE hG 28 (by decide) (i) (rfl) (show _ < 32 by omega) (v := X.1 28 i) (congrFun (hF.1 28 (by decide)) _) d_SecretKey_splitT_34 ?_
      refine lv_iadd hx hb d_SecretKey_splitT_35 ?_
      refine lv_i2l (v := ((mmP (X.1 26) (X.1 27) i) + (X.1 28 i)).toInt64) hx hb d_SecretKey_splitT_36 rfl ?_
      refine g_callpi (va_runS (As := [.long (((mmP (X.1 26) (X.1 27) i) + (X.1 28 i)).toInt64)]) (rest := []) ⟨hx, hb, hml, hown, hts⟩ (c_reduce l (mmP (X.1 26) (X.1 27) i + X.1 28 i).toInt64) (va_cwS 1 hts (g_goodS kw_311 kw_313 kw_310 kw_13) rfl rfl rfl (by decide +kernel) ⟨Nat.le_of_ble_eq_true rfl, Nat.le_of_ble_eq_true rfl⟩) ⟨fun _ _ _ _ q => q, fun _ _ _ => rfl⟩ rfl rfl hl.1 rfl (lv_room (Nat.le_of_ble_eq_true rfl)) d_SecretKey_splitT_37 ⟨Nat.le_refl 0, Nat.le_refl 0⟩) (fun r5 q1 => ?_)
      refine g_topi (y := tvP (X.1 26) (X.1 27) (X.1 28) i) (q1) ?_
      refine lv_istore_n (lv' := [(2, .int (tvP (X.1 26) (X.1 27) (X.1 28) i)), (0, .ref (g_ad V 6)), (1, .int (nI (i)))]) hx hb d_SecretKey_splitT_40 rfl hl (by decide) rfl (fun ls hl => ?_)
      refine lv_aload_n hx hb d_SecretKey_splitT_41 rfl (lv_at hl 1 rfl) ?_
      refine g_get (ci := 3) (v := .ref (g_ad V 29)) (C := R_SecretKey) (T := F_SecretKey) (N := 9) hx hb hts (fun w h => List.mem_cons_of_mem _ (in_SecretKey w h)) hown hE hG 6 (by decide) rfl rfl 7 (by decide) (hts _ (List.mem_cons_of_mem _ kw_81)) (fun _ h9 => h9) rfl d_SecretKey_splitT_42 ?_
      refine lv_iload_n hx hb d_SecretKey_splitT_45 rfl (lv_at hl 2 rfl) ?_
      refine lv_iload_n hx hb d_SecretKey_splitT_46 rfl (lv_at hl 0 rfl) ?_
      refine g_callpi (va_runS (As := [.int (tvP (X.1 26) (X.1 27) (X.1 28) i)]) (rest := [.int (nI (i)), .ref (g_ad V 29)]) ⟨hx, hb, hml, hown, hts⟩ (c_lowerPart l (tvP (X.1 26) (X.1 27) (X.1 28) i)) (va_cwS 1 hts (g_goodS kw_316 kw_314 kw_315 kw_14) rfl rfl rfl (by decide +kernel) ⟨Nat.le_of_ble_eq_true rfl, Nat.le_of_ble_eq_true rfl⟩) ⟨fun _ _ _ _ q => q, fun _ _ _ => rfl⟩ rfl rfl hl.1 rfl (lv_room (Nat.le_of_ble_eq_true rfl)) d_SecretKey_splitT_47 ⟨Nat.le_refl 0, Nat.le_refl 0⟩) (fun r7 q3 => ?_)
      refine g_topi (y := t0P (X.1 26) (X.1 27) (X.1 28) i) (q3) ?_
      refine g_iast (x := t0P (X.1 26) (X.1 27) (X.1 28) i) hx hb hE hG 29 (by decide) (i) (rfl) (show _ < 32 by omega) d_SecretKey_splitT_50 (fun H locs hG => ?_)
      refine lv_aload_n hx hb d_SecretKey_splitT_51 rfl (lv_at hl 1 rfl) ?_
      refine g_get (ci := 3) (v := .ref (g_ad V 22)) (C := R_SecretKey) (T := F_SecretKey) (N := 9) hx hb hts (fun w h => List.mem_cons_of_mem _ (in_SecretKey w h)) hown hE hG 6 (by decide) rfl rfl 0 (by decide) (hts _ (List.mem_cons_of_mem _ kw_68)) (fun _ h9 => h9) rfl d_SecretKey_splitT_52 ?_
      refine lv_bipush (v := nI (8)) hx hb d_SecretKey_splitT_55 (by decide) ?_
      refine lv_iload_n hx hb d_SecretKey_splitT_57 rfl (lv_at hl 2 rfl) ?_
      refine lv_bipush (v := nI (15)) hx hb d_SecretKey_splitT_58 (by decide) ?_
      refine lv_iload_n hx hb d_SecretKey_splitT_60 rfl (lv_at hl 0 rfl) ?_
      refine lv_aload_n hx hb d_SecretKey_splitT_61 rfl (lv_at hl 1 rfl) ?_
      refine g_get (ci := 3) (v := .ref (g_ad V 29)) (C := R_SecretKey) (T := F_SecretKey) (N := 9) hx hb hts (fun w h => List.mem_cons_of_mem _ (in_SecretKey w h)) hown hE hG 6 (by decide) rfl rfl 7 (by decide) (hts _ (List.mem_cons_of_mem _ kw_81)) (fun _ h9 => h9) rfl d_SecretKey_splitT_62 ?_
      refine lv_iload_n hx hb d_SecretKey_splitT_65 rfl (lv_at hl 2 rfl) ?_
      refine g_iald hx hb hE hG 29 (by decide) (i) (rfl) (show _ < 32 by omega) (v := t0P (X.1 26) (X.1 27) (X.1 28) i) (by rw [uI_s]; exact pk_us) d_SecretKey_splitT_66 ?_
      refine lv_isub hx hb d_SecretKey_splitT_67 ?_
      refine lv_sipush (v := nI (256)) hx hb d_SecretKey_splitT_68 (by decide) ?_
      refine lv_idiv hx hb d_SecretKey_splitT_71 (by decide) ?_
      refine g_topi (y := upP (X.1 26) (X.1 27) (X.1 28) i) (rfl) ?_
      refine g_callv (va_runS (As := [.ref (g_ad V 22), .int (nI (8)), .int (nI (i)), .int (nI (15)), .int (upP (X.1 26) (X.1 27) (X.1 28) i)]) (rest := []) ⟨hx, hb, hml, hown, hts⟩ (c_write l V (uI X1 29 (upd (X1.1 29) i (t0P (X.1 26) (X.1 27) (X.1 28) i))) 22 (by decide) 8 i 15 (upP (X.1 26) (X.1 27) (X.1 28) i) (by omega) (by show 8 * 8 + i * 15 + 15 ≤ 8 * 68; omega)) (va_cwS 5 hts (g_goodS kw_322 kw_320 kw_321 kw_15) rfl rfl rfl (by decide +kernel) ⟨Nat.le_of_ble_eq_true rfl, Nat.le_of_ble_eq_true rfl⟩) (g_preS hE hG) rfl rfl hl.1 rfl (lv_room (Nat.le_of_ble_eq_true rfl)) d_SecretKey_splitT_72 ⟨Nat.le_refl 0, Nat.le_refl 0⟩) hG (fun X5 H locs q5 hG => ?_)
      refine lv_iinc (v := nI (i + 1)) (lv' := [(1, .int (nI (i + 1))), (2, .int (tvP (X.1 26) (X.1 27) (X.1 28) i)), (0, .ref (g_ad V 6))]) hx hb d_SecretKey_splitT_75 hl (k := 2) rfl (g_inc _) (by decide) rfl (fun ls hl => ?_)
      refine lv_goto (tgt := 17) hx hb d_SecretKey_splitT_78 (by decide) ?_
      exact ih17 (i + 1) (by omega) X5 _ _ ls (fr_tr2 (fr_i hF _ (by decide)) q5.2 (by decide) (by decide) (by decide)) ((q5.2.1 30 (by decide)).trans ((uI_n _ _ (by decide)).trans h30)) (by rw [q5.2.1 29 (by decide), uI_s, h29]; exact segI_s (t0P (X.1 26) (X.1 27) (X.1 28)) _ _) (by rw [q5.1, uI_n _ _ (show (22 : Nat) ≠ 29 by decide), h22]; rfl) hG (lv_sub hl [2, 0] rfl)
  exact K17 (32 - 0) 0 (by omega) X0 _ _ ls (fr_mono q0.2 (a' := [22, 29, 30]) (by decide) (by decide) (by decide)) q0.1 ((q0.2.1 29 (by decide)).trans (segI_0 _ _).symm) (q0.2.1 22 (by decide)) hG (lv_sub hl [1, 0] rfl)

set_option maxHeartbeats 4000000 in
set_option maxRecDepth 100000 in
theorem c_derive (l : Launch) (V : Ev) (X : Mm) (x : Int64) : Met l y_SecretKey_derive (Cond.code y_SecretKey_derive b_SecretKey_derive 5 none :: WA) ({ frames := 5, cells := 0, slots := 0, locals := 112 } : Room) (g_Pc V X [.ref (g_ad V 6), .ref (g_ad V 1), .long (x)]) (g_Qv V (fun X1 : Mm => X1.1 24 = shI (HS (lgB x) 8) 16 ∧ X1.1 26 = matP (HS (lgB x) 8) ∧ X1.1 27 = smlP (shI (HS (lgB x) 8) 8) 0 ∧ X1.1 28 = smlP (shI (HS (lgB x) 8) 8) 2 ∧ X1.1 29 = t0P (matP (HS (lgB x) 8)) (smlP (shI (HS (lgB x) 8) 8) 0) (smlP (shI (HS (lgB x) 8) 8) 2) ∧ X1.1 22 = (pkN (segI (HS (lgB x) 8) (X.1 22) 8) (upP (matP (HS (lgB x) 8)) (smlP (shI (HS (lgB x) 8) 8) 0) (smlP (shI (HS (lgB x) 8) 8) 2)) 8 15 32) ∧ X1.1 25 = HS (pkN (segI (HS (lgB x) 8) (X.1 22) 8) (upP (matP (HS (lgB x) 8)) (smlP (shI (HS (lgB x) 8) 8) 0) (smlP (shI (HS (lgB x) 8) 8) 2)) 8 15 32) 68 ∧ fr X X1 [17, 22, 23, 24, 25, 26, 27, 28, 29, 30] [2, 3, 4] [1])) 0 0 (g_A V) := by
  refine g_met (by decide) (Nat.le_of_ble_eq_true rfl) ?_
  intro p e s m below meth c hx hb hr hml hown hts hlocks hE hG ls hl
  have hl : lv_has ls 5 [(0, .ref (g_ad V 6)), (1, .ref (g_ad V 1)), (2, .long (x))] := hl
  have hown : s.vm.findClass R_SecretKey = some m.cls := hown
  refine lv_aload_n hx hb d_SecretKey_derive_0 rfl (lv_at hl 1 rfl) ?_
  refine g_callv (va_runV (As := []) (rest := []) ⟨hx, hb, hml, hown, hts⟩ (c_begin l V X ) (cwV 0 hts (g_goodV kw_230 kw_227 kw_228 kw_229 kw_2) rfl rfl rfl (by decide +kernel) ⟨Nat.le_of_ble_eq_true rfl, Nat.le_of_ble_eq_true rfl⟩) (g_preV (k0 := 1) (ci := 1) hE hG (by decide) rfl rfl) rfl rfl hl.1 rfl (lv_room (Nat.le_of_ble_eq_true rfl)) d_SecretKey_derive_1 ⟨Nat.le_refl 0, Nat.le_refl 0⟩) hG (fun X2 H locs q2 hG => ?_)
  refine lv_aload_n hx hb d_SecretKey_derive_4 rfl (lv_at hl 1 rfl) ?_
  refine lv_lload_n hx hb d_SecretKey_derive_5 rfl (lv_at hl 2 rfl) ?_
  refine g_callv (va_runV (As := [.long (x)]) (rest := []) ⟨hx, hb, hml, hown, hts⟩ (c_takeLong l V X2 x (lgB x) 0 (by decide) q2.1 q2.2.1 (fun j hj => by rw [Nat.zero_add])) (cwV 1 hts (g_goodV kw_237 kw_234 kw_235 kw_236 kw_2) rfl rfl rfl (by decide +kernel) ⟨Nat.le_of_ble_eq_true rfl, Nat.le_of_ble_eq_true rfl⟩) (g_preV (k0 := 1) (ci := 1) hE hG (by decide) rfl rfl) rfl rfl hl.1 rfl (lv_room (Nat.le_of_ble_eq_true rfl)) d_SecretKey_derive_6 ⟨Nat.le_refl 0, Nat.le_refl 0⟩) hG (fun X3 H locs q3 hG => ?_)
  refine lv_aload_n hx hb d_SecretKey_derive_9 rfl (lv_at hl 1 rfl) ?_
  refine g_callr (va_runV (As := []) (rest := []) ⟨hx, hb, hml, hown, hts⟩ (c_finish l V X3 (lgB x) (0 + 8) (by decide) q3.1 q3.2.1) (cwV 0 hts (g_goodV kw_249 kw_246 kw_247 kw_248 kw_2) rfl rfl rfl (by decide +kernel) ⟨Nat.le_of_ble_eq_true rfl, Nat.le_of_ble_eq_true rfl⟩) (g_preV (k0 := 1) (ci := 1) hE hG (by decide) rfl rfl) rfl rfl hl.1 rfl (lv_room (Nat.le_of_ble_eq_true rfl)) d_SecretKey_derive_10 ⟨Nat.le_refl 0, Nat.le_refl 0⟩) hG (fun X4 H locs q4 hG => ?_)
  refine lv_astore (lv' := [(4, .ref (g_ad V 17)), (0, .ref (g_ad V 6)), (1, .ref (g_ad V 1)), (2, .long (x))]) hx hb d_SecretKey_derive_13 hl (by decide) rfl (fun ls hl => ?_)
  have e17 : X4.1 17 = HS (lgB x) 8 := q4.1
  have f4 : fr X X4 [17, 22, 23, 24, 25, 26, 27, 28, 29, 30] [2, 3, 4] [1] := (fr_tr2 (fr_tr2 (fr_mono q2.2.2 (a' := [17, 22, 23, 24, 25, 26, 27, 28, 29, 30]) (b' := [2, 3, 4]) (c' := [1]) (by decide) (by decide) (by decide)) q3.2.2 (by decide) (by decide) (by decide)) q4.2 (by decide) (by decide) (by decide))
  refine lv_aload hx hb d_SecretKey_derive_15 (lv_at hl 0 rfl) ?_
  refine lv_iconst (v := nI (0)) hx hb d_SecretKey_derive_17 (by decide) ?_
  refine lv_aload_n hx hb d_SecretKey_derive_18 rfl (lv_at hl 1 rfl) ?_
  refine g_get (ci := 3) (v := .ref (g_ad V 22)) (C := R_SecretKey) (T := F_SecretKey) (N := 9) hx hb hts (fun w h => List.mem_cons_of_mem _ (in_SecretKey w h)) hown hE hG 6 (by decide) rfl rfl 0 (by decide) (hts _ (List.mem_cons_of_mem _ kw_68)) (fun _ h9 => h9) rfl d_SecretKey_derive_19 ?_
  refine lv_iconst (v := nI (0)) hx hb d_SecretKey_derive_22 (by decide) ?_
  refine lv_bipush (v := nI (8)) hx hb d_SecretKey_derive_23 (by decide) ?_
  refine g_copy hx hb (hml.trans hl.1.symm) hown (hts _ (List.mem_cons_of_mem _ kw_270)) (hts _ (List.mem_cons_of_mem _ kw_272)) (hts _ (List.mem_cons_of_mem _ kw_271)) (hts _ (List.mem_cons_of_mem _ kw_11)) hE hG 17 22 (by decide) (by decide) (sp := 0) (dp := 0) (n := 8) (by decide) (by decide) (Nat.le_of_ble_eq_true rfl) (Nat.le_of_ble_eq_true rfl) d_SecretKey_derive_25 (fun H locs hG => ?_)
  have hG := g_xi hG 22 (by decide) (segI (HS (lgB x) 8) (X.1 22) 8) (fun j hj => by rw [uI_s, cpy_segI, e17, q4.2.1 22 (by decide), q3.2.2.1 22 (by decide), q2.2.2.1 22 (by decide)])
  rw [uI_uI] at hG
  refine lv_aload hx hb d_SecretKey_derive_28 (lv_at hl 0 rfl) ?_
  refine lv_bipush (v := nI (8)) hx hb d_SecretKey_derive_30 (by decide) ?_
  refine lv_aload_n hx hb d_SecretKey_derive_32 rfl (lv_at hl 1 rfl) ?_
  refine g_get (ci := 3) (v := .ref (g_ad V 23)) (C := R_SecretKey) (T := F_SecretKey) (N := 9) hx hb hts (fun w h => List.mem_cons_of_mem _ (in_SecretKey w h)) hown hE hG 6 (by decide) rfl rfl 1 (by decide) (hts _ (List.mem_cons_of_mem _ kw_70)) (fun _ h9 => h9) rfl d_SecretKey_derive_33 ?_
  refine lv_iconst (v := nI (0)) hx hb d_SecretKey_derive_36 (by decide) ?_
  refine lv_bipush (v := nI (8)) hx hb d_SecretKey_derive_37 (by decide) ?_
  refine g_copy hx hb (hml.trans hl.1.symm) hown (hts _ (List.mem_cons_of_mem _ kw_270)) (hts _ (List.mem_cons_of_mem _ kw_272)) (hts _ (List.mem_cons_of_mem _ kw_271)) (hts _ (List.mem_cons_of_mem _ kw_11)) hE hG 17 23 (by decide) (by decide) (sp := 8) (dp := 0) (n := 8) (by decide) (by decide) (Nat.le_of_ble_eq_true rfl) (Nat.le_of_ble_eq_true rfl) d_SecretKey_derive_39 (fun H locs hG => ?_)
  have hG := g_xi hG 23 (by decide) (shI (HS (lgB x) 8) 8) (fun j hj => by rw [uI_s, uI_n _ _ (show (17 : Nat) ≠ 22 by decide), e17]; exact cpy_sh _ _ (show j < 8 from hj))
  rw [uI_uI] at hG
  refine lv_aload hx hb d_SecretKey_derive_42 (lv_at hl 0 rfl) ?_
  refine lv_bipush (v := nI (16)) hx hb d_SecretKey_derive_44 (by decide) ?_
  refine lv_aload_n hx hb d_SecretKey_derive_46 rfl (lv_at hl 1 rfl) ?_
  refine g_get (ci := 3) (v := .ref (g_ad V 24)) (C := R_SecretKey) (T := F_SecretKey) (N := 9) hx hb hts (fun w h => List.mem_cons_of_mem _ (in_SecretKey w h)) hown hE hG 6 (by decide) rfl rfl 2 (by decide) (hts _ (List.mem_cons_of_mem _ kw_71)) (fun _ h9 => h9) rfl d_SecretKey_derive_47 ?_
  refine lv_iconst (v := nI (0)) hx hb d_SecretKey_derive_50 (by decide) ?_
  refine lv_bipush (v := nI (8)) hx hb d_SecretKey_derive_51 (by decide) ?_
  refine g_copy hx hb (hml.trans hl.1.symm) hown (hts _ (List.mem_cons_of_mem _ kw_270)) (hts _ (List.mem_cons_of_mem _ kw_272)) (hts _ (List.mem_cons_of_mem _ kw_271)) (hts _ (List.mem_cons_of_mem _ kw_11)) hE hG 17 24 (by decide) (by decide) (sp := 16) (dp := 0) (n := 8) (by decide) (by decide) (Nat.le_of_ble_eq_true rfl) (Nat.le_of_ble_eq_true rfl) d_SecretKey_derive_53 (fun H locs hG => ?_)
  have hG := g_xi hG 24 (by decide) (shI (HS (lgB x) 8) 16) (fun j hj => by rw [uI_s, uI_n _ _ (show (17 : Nat) ≠ 23 by decide), uI_n _ _ (show (17 : Nat) ≠ 22 by decide), e17]; exact cpy_sh _ _ (show j < 8 from hj))
  rw [uI_uI] at hG
  obtain ⟨XA, hXA⟩ : ∃ z, z = uI (uI (uI X4 22 (segI (HS (lgB x) 8) (X.1 22) 8)) 23 (shI (HS (lgB x) 8) 8)) 24 (shI (HS (lgB x) 8) 16) := ⟨_, rfl⟩
  rw [← hXA] at hG
  have fA : fr X XA [17, 22, 23, 24, 25, 26, 27, 28, 29, 30] [2, 3, 4] [1] := by rw [hXA]; exact fr_i (fr_i (fr_i f4 _ (by decide)) _ (by decide)) _ (by decide)
  have a22 : XA.1 22 = segI (HS (lgB x) 8) (X.1 22) 8 := by rw [hXA]; rfl
  have a23 : XA.1 23 = shI (HS (lgB x) 8) 8 := by rw [hXA]; rfl
  have a24 : XA.1 24 = shI (HS (lgB x) 8) 16 := by rw [hXA]; rfl
  have hG := hG
  refine lv_aload_n hx hb d_SecretKey_derive_56 rfl (lv_at hl 2 rfl) ?_
  refine lv_aload_n hx hb d_SecretKey_derive_57 rfl (lv_at hl 1 rfl) ?_
  refine g_get (ci := 3) (v := .ref (g_ad V 22)) (C := R_SecretKey) (T := F_SecretKey) (N := 9) hx hb hts (fun w h => List.mem_cons_of_mem _ (in_SecretKey w h)) hown hE hG 6 (by decide) rfl rfl 0 (by decide) (hts _ (List.mem_cons_of_mem _ kw_68)) (fun _ h9 => h9) rfl d_SecretKey_derive_58 ?_
  refine lv_aload_n hx hb d_SecretKey_derive_61 rfl (lv_at hl 1 rfl) ?_
  refine g_get (ci := 3) (v := .ref (g_ad V 26)) (C := R_SecretKey) (T := F_SecretKey) (N := 9) hx hb hts (fun w h => List.mem_cons_of_mem _ (in_SecretKey w h)) hown hE hG 6 (by decide) rfl rfl 4 (by decide) (hts _ (List.mem_cons_of_mem _ kw_75)) (fun _ h9 => h9) rfl d_SecretKey_derive_62 ?_
  refine g_callv (va_runS (As := [.ref (g_ad V 1), .ref (g_ad V 22), .ref (g_ad V 26)]) (rest := []) ⟨hx, hb, hml, hown, hts⟩ (c_fillMatrix_22 l V XA ) (va_cwS 3 hts (g_goodS kw_275 kw_273 kw_274 kw_12) rfl rfl rfl (by decide +kernel) ⟨Nat.le_of_ble_eq_true rfl, Nat.le_of_ble_eq_true rfl⟩) (g_preS hE hG) rfl rfl hl.1 rfl (lv_room (Nat.le_of_ble_eq_true rfl)) d_SecretKey_derive_65 ⟨Nat.le_refl 0, Nat.le_refl 0⟩) hG (fun X5 H locs q5 hG => ?_)
  refine lv_aload_n hx hb d_SecretKey_derive_68 rfl (lv_at hl 2 rfl) ?_
  refine lv_aload_n hx hb d_SecretKey_derive_69 rfl (lv_at hl 1 rfl) ?_
  refine g_get (ci := 3) (v := .ref (g_ad V 23)) (C := R_SecretKey) (T := F_SecretKey) (N := 9) hx hb hts (fun w h => List.mem_cons_of_mem _ (in_SecretKey w h)) hown hE hG 6 (by decide) rfl rfl 1 (by decide) (hts _ (List.mem_cons_of_mem _ kw_70)) (fun _ h9 => h9) rfl d_SecretKey_derive_70 ?_
  refine lv_iconst (v := nI (0)) hx hb d_SecretKey_derive_73 (by decide) ?_
  refine lv_aload_n hx hb d_SecretKey_derive_74 rfl (lv_at hl 1 rfl) ?_
  refine g_get (ci := 3) (v := .ref (g_ad V 27)) (C := R_SecretKey) (T := F_SecretKey) (N := 9) hx hb hts (fun w h => List.mem_cons_of_mem _ (in_SecretKey w h)) hown hE hG 6 (by decide) rfl rfl 5 (by decide) (hts _ (List.mem_cons_of_mem _ kw_77)) (fun _ h9 => h9) rfl d_SecretKey_derive_75 ?_
  refine g_callv (va_runS (As := [.ref (g_ad V 1), .ref (g_ad V 23), .int (nI (0)), .ref (g_ad V 27)]) (rest := []) ⟨hx, hb, hml, hown, hts⟩ (c_fillSmallVector_27 l V X5 0 (by decide)) (va_cwS 4 hts (g_goodS kw_295 kw_293 kw_294 kw_12) rfl rfl rfl (by decide +kernel) ⟨Nat.le_of_ble_eq_true rfl, Nat.le_of_ble_eq_true rfl⟩) (g_preS hE hG) rfl rfl hl.1 rfl (lv_room (Nat.le_of_ble_eq_true rfl)) d_SecretKey_derive_78 ⟨Nat.le_refl 0, Nat.le_refl 0⟩) hG (fun X6 H locs q6 hG => ?_)
  refine lv_aload_n hx hb d_SecretKey_derive_81 rfl (lv_at hl 2 rfl) ?_
  refine lv_aload_n hx hb d_SecretKey_derive_82 rfl (lv_at hl 1 rfl) ?_
  refine g_get (ci := 3) (v := .ref (g_ad V 23)) (C := R_SecretKey) (T := F_SecretKey) (N := 9) hx hb hts (fun w h => List.mem_cons_of_mem _ (in_SecretKey w h)) hown hE hG 6 (by decide) rfl rfl 1 (by decide) (hts _ (List.mem_cons_of_mem _ kw_70)) (fun _ h9 => h9) rfl d_SecretKey_derive_83 ?_
  refine lv_iconst (v := nI (2)) hx hb d_SecretKey_derive_86 (by decide) ?_
  refine lv_aload_n hx hb d_SecretKey_derive_87 rfl (lv_at hl 1 rfl) ?_
  refine g_get (ci := 3) (v := .ref (g_ad V 28)) (C := R_SecretKey) (T := F_SecretKey) (N := 9) hx hb hts (fun w h => List.mem_cons_of_mem _ (in_SecretKey w h)) hown hE hG 6 (by decide) rfl rfl 6 (by decide) (hts _ (List.mem_cons_of_mem _ kw_79)) (fun _ h9 => h9) rfl d_SecretKey_derive_88 ?_
  refine g_callv (va_runS (As := [.ref (g_ad V 1), .ref (g_ad V 23), .int (nI (2)), .ref (g_ad V 28)]) (rest := []) ⟨hx, hb, hml, hown, hts⟩ (c_fillSmallVector_28 l V X6 2 (by decide)) (va_cwS 4 hts (g_goodS kw_295 kw_293 kw_294 kw_12) rfl rfl rfl (by decide +kernel) ⟨Nat.le_of_ble_eq_true rfl, Nat.le_of_ble_eq_true rfl⟩) (g_preS hE hG) rfl rfl hl.1 rfl (lv_room (Nat.le_of_ble_eq_true rfl)) d_SecretKey_derive_91 ⟨Nat.le_refl 0, Nat.le_refl 0⟩) hG (fun X7 H locs q7 hG => ?_)
  refine lv_aload_n hx hb d_SecretKey_derive_94 rfl (lv_at hl 1 rfl) ?_
  refine g_callv (va_runV (As := []) (rest := []) ⟨hx, hb, hml, hown, hts⟩ (c_splitT l V X7 ) (cwV 0 hts (g_goodV kw_302 kw_299 kw_301 kp_4 kw_4) rfl rfl rfl (by decide +kernel) ⟨Nat.le_of_ble_eq_true rfl, Nat.le_of_ble_eq_true rfl⟩) (g_preV (k0 := 6) (ci := 3) hE hG (by decide) rfl rfl) rfl rfl hl.1 rfl (lv_room (Nat.le_of_ble_eq_true rfl)) d_SecretKey_derive_95 ⟨Nat.le_refl 0, Nat.le_refl 0⟩) hG (fun X8 H locs q8 hG => ?_)
  refine lv_aload_n hx hb d_SecretKey_derive_98 rfl (lv_at hl 2 rfl) ?_
  refine lv_aload_n hx hb d_SecretKey_derive_99 rfl (lv_at hl 1 rfl) ?_
  refine g_get (ci := 3) (v := .ref (g_ad V 22)) (C := R_SecretKey) (T := F_SecretKey) (N := 9) hx hb hts (fun w h => List.mem_cons_of_mem _ (in_SecretKey w h)) hown hE hG 6 (by decide) rfl rfl 0 (by decide) (hts _ (List.mem_cons_of_mem _ kw_68)) (fun _ h9 => h9) rfl d_SecretKey_derive_100 ?_
  refine lv_aload_n hx hb d_SecretKey_derive_103 rfl (lv_at hl 1 rfl) ?_
  refine g_get (ci := 3) (v := .ref (g_ad V 25)) (C := R_SecretKey) (T := F_SecretKey) (N := 9) hx hb hts (fun w h => List.mem_cons_of_mem _ (in_SecretKey w h)) hown hE hG 6 (by decide) rfl rfl 3 (by decide) (hts _ (List.mem_cons_of_mem _ kw_73)) (fun _ h9 => h9) rfl d_SecretKey_derive_104 ?_
  refine g_callv (va_runS (As := [.ref (g_ad V 1), .ref (g_ad V 22), .ref (g_ad V 25)]) (rest := []) ⟨hx, hb, hml, hown, hts⟩ (c_fillTrace_22 l V X8 ) (va_cwS 3 hts (g_goodS kw_325 kw_323 kw_324 kw_4) rfl rfl rfl (by decide +kernel) ⟨Nat.le_of_ble_eq_true rfl, Nat.le_of_ble_eq_true rfl⟩) (g_preS hE hG) rfl rfl hl.1 rfl (lv_room (Nat.le_of_ble_eq_true rfl)) d_SecretKey_derive_107 ⟨Nat.le_refl 0, Nat.le_refl 0⟩) hG (fun X9 H locs q9 hG => ?_)
  have b26 : X5.1 26 = matP (HS (lgB x) 8) := by rw [q5.1, a22]; exact matP_ext (fun j hj => (segI_e _ _ hj).symm)
  have b27 : X6.1 27 = smlP (shI (HS (lgB x) 8) 8) 0 := by rw [q6.1, q5.2.1 23 (by decide), a23]
  have b28 : X7.1 28 = smlP (shI (HS (lgB x) 8) 8) 2 := by rw [q7.1, q6.2.1 23 (by decide), q5.2.1 23 (by decide), a23]
  have c26 : X7.1 26 = matP (HS (lgB x) 8) := by rw [q7.2.1 26 (by decide), q6.2.1 26 (by decide), b26]
  have c27 : X7.1 27 = smlP (shI (HS (lgB x) 8) 8) 0 := by rw [q7.2.1 27 (by decide), b27]
  have c22 : X7.1 22 = segI (HS (lgB x) 8) (X.1 22) 8 := by rw [q7.2.1 22 (by decide), q6.2.1 22 (by decide), q5.2.1 22 (by decide), a22]
  have q81 := q8.1
  have q82 := q8.2.1
  rw [c26, c27, b28] at q81 q82
  rw [c22] at q82
  have fZ : fr X X9 [17, 22, 23, 24, 25, 26, 27, 28, 29, 30] [2, 3, 4] [1] := (fr_tr2 (fr_tr2 (fr_tr2 (fr_tr2 (fr_tr2 fA q5.2 (by decide) (by decide) (by decide)) q6.2 (by decide) (by decide) (by decide)) q7.2 (by decide) (by decide) (by decide)) q8.2.2 (by decide) (by decide) (by decide)) q9.2 (by decide) (by decide) (by decide))
  exact g_vret hx hb hr hlocks hE hG (⟨by rw [q9.2.1 24 (by decide), q8.2.2.1 24 (by decide), q7.2.1 24 (by decide), q6.2.1 24 (by decide), q5.2.1 24 (by decide), a24], by rw [q9.2.1 26 (by decide), q8.2.2.1 26 (by decide), c26], by rw [q9.2.1 27 (by decide), q8.2.2.1 27 (by decide), c27], by rw [q9.2.1 28 (by decide), q8.2.2.1 28 (by decide), b28], by rw [q9.2.1 29 (by decide), q81], by rw [q9.2.1 22 (by decide), q82], by rw [q9.1, q82], fZ⟩) d_SecretKey_derive_110

set_option maxHeartbeats 4000000 in
set_option maxRecDepth 100000 in
theorem c_vectorOf_0 (l : Launch) (V : Ev) (X : Mm)  : Met l y_SecretKey_vectorOf (Cond.code y_SecretKey_vectorOf b_SecretKey_vectorOf 2 (some (.array .int)) :: WA) ({ frames := 0, cells := 0, slots := 0, locals := 0 } : Room) (g_Pc V X [.ref (g_ad V 6), .int (nI (0))]) (g_Qr V 27 (fun X1 : Mm => X = X1)) 0 0 (g_A V) := by
  refine g_met (by decide) (Nat.le_of_ble_eq_true rfl) ?_
  intro p e s m below meth c hx hb hr hml hown hts hlocks hE hG ls hl
  have hl : lv_has ls 2 [(0, .ref (g_ad V 6)), (1, .int (nI (0)))] := hl
  have hown : s.vm.findClass R_SecretKey = some m.cls := hown
  refine lv_iload_n hx hb d_SecretKey_vectorOf_0 rfl (lv_at hl 1 rfl) ?_
  refine lv_if_ne (tgt := 9) hx hb d_SecretKey_vectorOf_1 (by decide) (fun q => absurd ((g_ne (x := 0) (y := 0) (by omega) (by omega)).mp q) (by omega)) (fun _ => ?_)
  refine lv_aload_n hx hb d_SecretKey_vectorOf_4 rfl (lv_at hl 0 rfl) ?_
  refine g_get (ci := 3) (v := .ref (g_ad V 27)) (C := R_SecretKey) (T := F_SecretKey) (N := 9) hx hb hts (fun w h => List.mem_cons_of_mem _ (in_SecretKey w h)) hown hE hG 6 (by decide) rfl rfl 5 (by decide) (hts _ (List.mem_cons_of_mem _ kw_77)) (fun _ h9 => h9) rfl d_SecretKey_vectorOf_5 ?_
  exact g_aret hx hb hr hlocks hE hG (rfl) d_SecretKey_vectorOf_8

set_option maxHeartbeats 4000000 in
set_option maxRecDepth 100000 in
theorem c_vectorOf_1 (l : Launch) (V : Ev) (X : Mm)  : Met l y_SecretKey_vectorOf (Cond.code y_SecretKey_vectorOf b_SecretKey_vectorOf 2 (some (.array .int)) :: WA) ({ frames := 0, cells := 0, slots := 0, locals := 0 } : Room) (g_Pc V X [.ref (g_ad V 6), .int (nI (1))]) (g_Qr V 28 (fun X1 : Mm => X = X1)) 0 0 (g_A V) := by
  refine g_met (by decide) (Nat.le_of_ble_eq_true rfl) ?_
  intro p e s m below meth c hx hb hr hml hown hts hlocks hE hG ls hl
  have hl : lv_has ls 2 [(0, .ref (g_ad V 6)), (1, .int (nI (1)))] := hl
  have hown : s.vm.findClass R_SecretKey = some m.cls := hown
  refine lv_iload_n hx hb d_SecretKey_vectorOf_0 rfl (lv_at hl 1 rfl) ?_
  refine lv_if_ne (tgt := 9) hx hb d_SecretKey_vectorOf_1 (by decide) (fun _ => ?_) (fun q => absurd ((g_neN (x := 1) (y := 0) (by omega) (by omega)).mp q) (by omega))
  refine lv_iload_n hx hb d_SecretKey_vectorOf_9 rfl (lv_at hl 1 rfl) ?_
  refine lv_iconst (v := nI (1)) hx hb d_SecretKey_vectorOf_10 (by decide) ?_
  refine lv_icmp_ne (tgt := 21) hx hb d_SecretKey_vectorOf_11 (by decide) (fun q => absurd ((g_ne (x := 1) (y := 1) (by omega) (by omega)).mp q) (by omega)) (fun _ => ?_)
  refine lv_aload_n hx hb d_SecretKey_vectorOf_14 rfl (lv_at hl 0 rfl) ?_
  refine g_get (ci := 3) (v := .ref (g_ad V 28)) (C := R_SecretKey) (T := F_SecretKey) (N := 9) hx hb hts (fun w h => List.mem_cons_of_mem _ (in_SecretKey w h)) hown hE hG 6 (by decide) rfl rfl 6 (by decide) (hts _ (List.mem_cons_of_mem _ kw_79)) (fun _ h9 => h9) rfl d_SecretKey_vectorOf_15 ?_
  refine lv_goto (tgt := 25) hx hb d_SecretKey_vectorOf_18 (by decide) ?_
  exact g_aret hx hb hr hlocks hE hG (rfl) d_SecretKey_vectorOf_25

set_option maxHeartbeats 4000000 in
set_option maxRecDepth 100000 in
theorem c_vectorOf_2 (l : Launch) (V : Ev) (X : Mm)  : Met l y_SecretKey_vectorOf (Cond.code y_SecretKey_vectorOf b_SecretKey_vectorOf 2 (some (.array .int)) :: WA) ({ frames := 0, cells := 0, slots := 0, locals := 0 } : Room) (g_Pc V X [.ref (g_ad V 6), .int (nI (2))]) (g_Qr V 29 (fun X1 : Mm => X = X1)) 0 0 (g_A V) := by
  refine g_met (by decide) (Nat.le_of_ble_eq_true rfl) ?_
  intro p e s m below meth c hx hb hr hml hown hts hlocks hE hG ls hl
  have hl : lv_has ls 2 [(0, .ref (g_ad V 6)), (1, .int (nI (2)))] := hl
  have hown : s.vm.findClass R_SecretKey = some m.cls := hown
  refine lv_iload_n hx hb d_SecretKey_vectorOf_0 rfl (lv_at hl 1 rfl) ?_
  refine lv_if_ne (tgt := 9) hx hb d_SecretKey_vectorOf_1 (by decide) (fun _ => ?_) (fun q => absurd ((g_neN (x := 2) (y := 0) (by omega) (by omega)).mp q) (by omega))
  refine lv_iload_n hx hb d_SecretKey_vectorOf_9 rfl (lv_at hl 1 rfl) ?_
  refine lv_iconst (v := nI (1)) hx hb d_SecretKey_vectorOf_10 (by decide) ?_
  refine lv_icmp_ne (tgt := 21) hx hb d_SecretKey_vectorOf_11 (by decide) (fun _ => ?_) (fun q => absurd ((g_neN (x := 2) (y := 1) (by omega) (by omega)).mp q) (by omega))
  refine lv_aload_n hx hb d_SecretKey_vectorOf_21 rfl (lv_at hl 0 rfl) ?_
  refine g_get (ci := 3) (v := .ref (g_ad V 29)) (C := R_SecretKey) (T := F_SecretKey) (N := 9) hx hb hts (fun w h => List.mem_cons_of_mem _ (in_SecretKey w h)) hown hE hG 6 (by decide) rfl rfl 7 (by decide) (hts _ (List.mem_cons_of_mem _ kw_81)) (fun _ h9 => h9) rfl d_SecretKey_vectorOf_22 ?_
  exact g_aret hx hb hr hlocks hE hG (rfl) d_SecretKey_vectorOf_25
