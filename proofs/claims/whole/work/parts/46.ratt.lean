set_option maxHeartbeats 4000000 in
set_option maxRecDepth 100000 in
theorem c_m_attempt (l : Launch) (V : Ev) (X : Mm) (k : Nat) (hk : k ≤ 30) (hT : X.2.2 3 = nI 0) (hTu : X.1 53 = rotT) (hEx : X.2.1 12 = rcT) (hB : ∀ j, j < 48 → isB (X.1 79 j)) (S E T : Nat → Int32) (hA : bqn 64 (X.1 60)) (hS : bqn 32 S) (hEb : bqn 32 E) (hT0 : bqn 32 T) (h62 : X.1 62 = rdF S) (h63 : X.1 63 = rdF E) (h64 : X.1 64 = rdF T) : Met l y_Md_attempt (Cond.code y_Md_attempt b_Md_attempt 5 (some .boolean) :: WA) ({ frames := 4, cells := 0, slots := 0, locals := 92 } : Room) (g_Pc V X [.ref (g_ad V 11), .int (nI (k))]) (g_Qi V (fun (r : Int32) (X1 : Mm) => ((tOK (X.1 69) (X.1 60) (X.1 70) S E T k) → r = nI 1 ∧ X1.1 71 = (tSE (X.1 69) (X.1 60) (X.1 70) k) ∧ X1.1 74 = (tZ (X.1 69) (X.1 60) (X.1 70) S k) ∧ X1.1 78 = hnP (tU (X.1 69) (X.1 60) (X.1 70) E k) (tV (X.1 69) (X.1 60) (X.1 70) T k)) ∧ (¬ (tOK (X.1 69) (X.1 60) (X.1 70) S E T k) → r = nI 0) ∧ (∀ j, j < 48 → isB (X1.1 79 j)) ∧ X1.2.2 3 = nI 0 ∧ fr X X1 [54, 55, 71, 72, 73, 74, 75, 76, 77, 78, 79] [13, 14, 15, 16] [3])) 0 0 (g_A V) := by
  refine g_met (by decide) (Nat.le_of_ble_eq_true rfl) ?_
  intro p e s m below meth c hx hb hr hml hown hts hlocks hE hG ls hl
  have hl : lv_has ls 5 [(0, .ref (g_ad V 11)), (1, .int (nI (k)))] := hl
  have hown : s.vm.findClass R_Md = some m.cls := hown
  refine lv_iconst (v := nI (0)) hx hb d_Md_attempt_0 (by decide) ?_
  refine lv_istore_n (lv' := [(2, .int (nI (0))), (0, .ref (g_ad V 11)), (1, .int (nI (k)))]) hx hb d_Md_attempt_1 rfl hl (by decide) rfl (fun ls hl => ?_)
  have K2 : ∀ (fu i : Nat), i + fu = 2 → ∀ (X1 : Mm) (H : Heap) (locs : List Loc), ∀ (ls : Array Slot), (fr X X1 [54, 55, 71, 72, 73, 74, 75, 76, 77, 78, 79] [13, 14, 15, 16] [3]) → (X1.2.2 3 = nI 0) → (X1.1 79 = X.1 79) → (X1.1 72 = segI (rdF (tY (X.1 70) k)) (X.1 72) (16 * i)) → g_st V X1 s.heap H locs → lv_has ls 5 [(0, .ref (g_ad V 11)), (1, .int (nI (k))), (2, .int (nI (i)))] → W p l e ({ frames := 4, cells := 0, slots := 0, locals := 92 } : Room) s m ([.ref (g_ad V 11), .int (nI (k))] : List Value).toArray below meth c H locs 0 0 (MQ below (g_Qi V (fun (r : Int32) (X1 : Mm) => ((tOK (X.1 69) (X.1 60) (X.1 70) S E T k) → r = nI 1 ∧ X1.1 71 = (tSE (X.1 69) (X.1 60) (X.1 70) k) ∧ X1.1 74 = (tZ (X.1 69) (X.1 60) (X.1 70) S k) ∧ X1.1 78 = hnP (tU (X.1 69) (X.1 60) (X.1 70) E k) (tV (X.1 69) (X.1 60) (X.1 70) T k)) ∧ (¬ (tOK (X.1 69) (X.1 60) (X.1 70) S E T k) → r = nI 0) ∧ (∀ j, j < 48 → isB (X1.1 79 j)) ∧ X1.2.2 3 = nI 0 ∧ fr X X1 [54, 55, 71, 72, 73, 74, 75, 76, 77, 78, 79] [13, 14, 15, 16] [3])) ([.ref (g_ad V 11), .int (nI (k))] : List Value).toArray s 0 0 (g_A V)) (F0 m 2 ls []) := by
    intro fu
    induction fu with
    | zero =>
      intro i hin2 X1 H locs ls hF h3 h79 h72 hG hl
      have hi2 : 2 = i := by omega
      subst hi2
      refine lv_iload_n hx hb d_Md_attempt_2 rfl (lv_at hl 2 rfl) ?_
      refine lv_iconst (v := nI (2)) hx hb d_Md_attempt_3 (by decide) ?_
      refine lv_icmp_ge (tgt := 45) hx hb d_Md_attempt_4 (by decide) (fun _ => ?_) (fun q => absurd ((g_geN (x := 2) (y := 2) (by omega) (by omega)).mp q) (by omega))
      have hG := g_xi hG 72 (by decide) (rdF (tY (X.1 70) k)) (fun j hj => by rw [h72]; exact segI_e _ _ hj)
      refine lv_aload_n hx hb d_Md_attempt_45 rfl (lv_at hl 0 rfl) ?_
      refine lv_aload_n hx hb d_Md_attempt_46 rfl (lv_at hl 0 rfl) ?_
      refine g_get (ci := 7) (v := .ref (g_ad V 60)) (C := R_Md) (T := F_Md) (N := 35) hx hb hts (fun w h => List.mem_cons_of_mem _ (in_Md w h)) hown hE hG 11 (by decide) rfl rfl 13 (by decide) (hts _ (List.mem_cons_of_mem _ kw_605)) (fun _ h9 => h9) rfl d_Md_attempt_47 ?_
      refine lv_aload_n hx hb d_Md_attempt_50 rfl (lv_at hl 0 rfl) ?_
      refine g_get (ci := 7) (v := .ref (g_ad V 72)) (C := R_Md) (T := F_Md) (N := 35) hx hb hts (fun w h => List.mem_cons_of_mem _ (in_Md w h)) hown hE hG 11 (by decide) rfl rfl 26 (by decide) (hts _ (List.mem_cons_of_mem _ kw_618)) (fun _ h9 => h9) rfl d_Md_attempt_51 ?_
      refine lv_aload_n hx hb d_Md_attempt_54 rfl (lv_at hl 0 rfl) ?_
      refine g_get (ci := 7) (v := .ref (g_ad V 73)) (C := R_Md) (T := F_Md) (N := 35) hx hb hts (fun w h => List.mem_cons_of_mem _ (in_Md w h)) hown hE hG 11 (by decide) rfl rfl 27 (by decide) (hts _ (List.mem_cons_of_mem _ kw_619)) (fun _ h9 => h9) rfl d_Md_attempt_55 ?_
      refine g_callv (va_runV (As := [.ref (g_ad V 60), .ref (g_ad V 72), .ref (g_ad V 73)]) (rest := []) ⟨hx, hb, hml, hown, hts⟩ (c_m_apply l V (uI X1 72 (rdF (tY (X.1 70) k))) 60 (by decide) rfl 72 (by decide) rfl 73 (by decide) rfl (by decide) (by decide)) (cwV 3 hts (g_goodV kw_756 kw_753 kw_755 kp_26 kw_8) rfl rfl rfl (by decide +kernel) ⟨Nat.le_of_ble_eq_true rfl, Nat.le_of_ble_eq_true rfl⟩) (g_preV (k0 := 11) (ci := 7) hE hG (by decide) rfl rfl) rfl rfl hl.1 rfl (lv_room (Nat.le_of_ble_eq_true rfl)) d_Md_attempt_58 ⟨Nat.le_refl 0, Nat.le_refl 0⟩) hG (fun Xj H locs qj hG => ?_)
      have fj : fr X Xj [54, 55, 71, 72, 73, 74, 75, 76, 77, 78, 79] [13, 14, 15, 16] [3] := (fr_tr2 (fr_i hF _ (by decide)) qj.2 (by decide) (by decide) (by decide))
      have j3 : Xj.2.2 3 = nI 0 := (qj.2.2.2 3 (fun q => by cases q)).trans h3
      have j72 : Xj.1 72 = rdF (tY (X.1 70) k) := (qj.2.1 72 (by decide)).trans (uI_s _ _ _)
      have j79 : Xj.1 79 = X.1 79 := (qj.2.1 79 (by decide)).trans ((uI_n _ _ (by decide)).trans h79)
      have jm : Xj.1 73 = maP (X.1 60) (rdF (tY (X.1 70) k)) := by rw [qj.1, uI_s, uI_n _ _ (show (60 : Nat) ≠ 72 by decide), hF.1 60 (by decide)]
      have hG := g_xi hG 73 (by decide) (tW (X.1 60) (X.1 70) k) (fun j hj => by rw [jm]; exact (ma_mm hA (bqn_y (widP_in _ _) 32) (show j < 32 from hj)).symm)
      obtain ⟨XJ, eXJ⟩ : ∃ z, z = uI Xj 73 (tW (X.1 60) (X.1 70) k) := ⟨_, rfl⟩
      rw [← eXJ] at hG
      have fj : fr X XJ [54, 55, 71, 72, 73, 74, 75, 76, 77, 78, 79] [13, 14, 15, 16] [3] := by rw [eXJ]; exact fr_i fj _ (by decide)
      have j3 : XJ.2.2 3 = nI 0 := by rw [eXJ]; exact j3
      have j72 : XJ.1 72 = rdF (tY (X.1 70) k) := by rw [eXJ]; exact j72
      have j79 : XJ.1 79 = X.1 79 := by rw [eXJ]; exact j79
      have j73 : XJ.1 73 = (tW (X.1 60) (X.1 70) k) := by rw [eXJ]; rfl
      have hG := hG
      refine lv_iconst (v := nI (0)) hx hb d_Md_attempt_61 (by decide) ?_
      refine lv_istore_n (lv' := [(2, .int (nI (0))), (0, .ref (g_ad V 11)), (1, .int (nI (k)))]) hx hb d_Md_attempt_62 rfl hl (by decide) rfl (fun ls hl => ?_)
      have K63 : ∀ (fu i : Nat), i + fu = 32 → ∀ (X2 : Mm) (H : Heap) (locs : List Loc), ∀ (ls : Array Slot), (fr X X2 [54, 55, 71, 72, 73, 74, 75, 76, 77, 78, 79] [13, 14, 15, 16] [3]) → (X2.2.2 3 = nI 0) → (X2.1 72 = rdF (tY (X.1 70) k)) → (X2.1 73 = (tW (X.1 60) (X.1 70) k)) → (X2.1 79 = pkN (X.1 79) (fun i => hiP ((tW (X.1 60) (X.1 70) k) i)) 0 12 i) → g_st V X2 s.heap H locs → lv_has ls 5 [(0, .ref (g_ad V 11)), (1, .int (nI (k))), (2, .int (nI (i)))] → W p l e ({ frames := 4, cells := 0, slots := 0, locals := 92 } : Room) s m ([.ref (g_ad V 11), .int (nI (k))] : List Value).toArray below meth c H locs 0 0 (MQ below (g_Qi V (fun (r : Int32) (X1 : Mm) => ((tOK (X.1 69) (X.1 60) (X.1 70) S E T k) → r = nI 1 ∧ X1.1 71 = (tSE (X.1 69) (X.1 60) (X.1 70) k) ∧ X1.1 74 = (tZ (X.1 69) (X.1 60) (X.1 70) S k) ∧ X1.1 78 = hnP (tU (X.1 69) (X.1 60) (X.1 70) E k) (tV (X.1 69) (X.1 60) (X.1 70) T k)) ∧ (¬ (tOK (X.1 69) (X.1 60) (X.1 70) S E T k) → r = nI 0) ∧ (∀ j, j < 48 → isB (X1.1 79 j)) ∧ X1.2.2 3 = nI 0 ∧ fr X X1 [54, 55, 71, 72, 73, 74, 75, 76, 77, 78, 79] [13, 14, 15, 16] [3])) ([.ref (g_ad V 11), .int (nI (k))] : List Value).toArray s 0 0 (g_A V)) (F0 m 63 ls []) := by
        intro fu
        induction fu with
        | zero =>
          intro i hin63 X2 H locs ls hF2 i3 i72 i73 i79 hG hl
          have hi63 : 32 = i := by omega
          subst hi63
          refine lv_iload_n hx hb d_Md_attempt_63 rfl (lv_at hl 2 rfl) ?_
          refine lv_bipush (v := nI (32)) hx hb d_Md_attempt_64 (by decide) ?_
          refine lv_icmp_ge (tgt := 99) hx hb d_Md_attempt_66 (by decide) (fun _ => ?_) (fun q => absurd ((g_geN (x := 32) (y := 32) (by omega) (by omega)).mp q) (by omega))
          have hG := g_xi hG 79 (by decide) (segI (tH (X.1 60) (X.1 70) k) (X.1 79) 48) (fun j hj => by
                      by_cases h48 : j < 48
                      · rw [← segI_e _ _ h48, i79]; exact pc_eq0 hB (by decide) h48
                      · rw [segI_ge _ _ (by omega), i79, pkN_out _ _ 0 12 48 (by omega) 32 (by decide)])
          obtain ⟨X2b, eX2b⟩ : ∃ z, z = uI X2 79 (segI (tH (X.1 60) (X.1 70) k) (X.1 79) 48) := ⟨_, rfl⟩
          rw [← eX2b] at hG
          have f2b : fr X X2b [54, 55, 71, 72, 73, 74, 75, 76, 77, 78, 79] [13, 14, 15, 16] [3] := by rw [eX2b]; exact fr_i hF2 _ (by decide)
          have i3b : X2b.2.2 3 = nI 0 := by rw [eX2b]; exact i3
          have b79 : X2b.1 79 = segI (tH (X.1 60) (X.1 70) k) (X.1 79) 48 := by rw [eX2b]; rfl
          have i72 : X2b.1 72 = rdF (tY (X.1 70) k) := by rw [eX2b]; exact i72
          have i73 : X2b.1 73 = (tW (X.1 60) (X.1 70) k) := by rw [eX2b]; exact i73
          have hG := hG
          refine lv_aload_n hx hb d_Md_attempt_99 rfl (lv_at hl 0 rfl) ?_
          refine g_callv (va_runV (As := []) (rest := []) ⟨hx, hb, hml, hown, hts⟩ (c_m_sealing l V X2b i3b ((f2b.1 53 (by decide)).trans hTu) ((f2b.2.1 12 (by decide)).trans hEx)) (cwV 0 hts (g_goodV kw_806 kw_803 kw_805 kp_33 kw_8) rfl rfl rfl (by decide +kernel) ⟨Nat.le_of_ble_eq_true rfl, Nat.le_of_ble_eq_true rfl⟩) (g_preV (k0 := 11) (ci := 7) hE hG (by decide) rfl rfl) rfl rfl hl.1 rfl (lv_room (Nat.le_of_ble_eq_true rfl)) d_Md_attempt_100 ⟨Nat.le_refl 0, Nat.le_refl 0⟩) hG (fun Xs H locs qs hG => ?_)
          have fs : fr X Xs [54, 55, 71, 72, 73, 74, 75, 76, 77, 78, 79] [13, 14, 15, 16] [3] := (fr_tr2 f2b qs.2.2 (by decide) (by decide) (by decide))
          have s55 : Xs.1 55 = (tSE (X.1 69) (X.1 60) (X.1 70) k) := by rw [qs.1, f2b.1 69 (by decide), b79]; exact HS_seg _ _ _
          refine lv_aload_n hx hb d_Md_attempt_103 rfl (lv_at hl 0 rfl) ?_
          refine lv_aload_n hx hb d_Md_attempt_104 rfl (lv_at hl 0 rfl) ?_
          refine g_get (ci := 7) (v := .ref (g_ad V 71)) (C := R_Md) (T := F_Md) (N := 35) hx hb hts (fun w h => List.mem_cons_of_mem _ (in_Md w h)) hown hE hG 11 (by decide) rfl rfl 25 (by decide) (hts _ (List.mem_cons_of_mem _ kw_617)) (fun _ h9 => h9) rfl d_Md_attempt_105 ?_
          refine lv_iconst (v := nI (0)) hx hb d_Md_attempt_108 (by decide) ?_
          refine lv_bipush (v := nI (8)) hx hb d_Md_attempt_109 (by decide) ?_
          refine g_callv (va_runV (As := [.ref (g_ad V 71), .int (nI (0)), .int (nI (8))]) (rest := []) ⟨hx, hb, hml, hown, hts⟩ (c_m_takeC l V Xs 71 (by decide) (by decide) 0 8 rfl (by decide)) (cwV 3 hts (g_goodV kw_730 kw_727 kw_729 kp_21 kw_8) rfl rfl rfl (by decide +kernel) ⟨Nat.le_of_ble_eq_true rfl, Nat.le_of_ble_eq_true rfl⟩) (g_preV (k0 := 11) (ci := 7) hE hG (by decide) rfl rfl) rfl rfl hl.1 rfl (lv_room (Nat.le_of_ble_eq_true rfl)) d_Md_attempt_111 ⟨Nat.le_refl 0, Nat.le_refl 0⟩) hG (fun Xt H locs qt hG => ?_)
          have ft : fr X Xt [54, 55, 71, 72, 73, 74, 75, 76, 77, 78, 79] [13, 14, 15, 16] [3] := (fr_tr2 fs qt.2 (by decide) (by decide) (by decide))
          have t71 : Xt.1 71 = (tSE (X.1 69) (X.1 60) (X.1 70) k) := by rw [qt.1, s55, shI_0]
          refine lv_aload_n hx hb d_Md_attempt_114 rfl (lv_at hl 0 rfl) ?_
          refine lv_aload_n hx hb d_Md_attempt_115 rfl (lv_at hl 0 rfl) ?_
          refine g_get (ci := 7) (v := .ref (g_ad V 71)) (C := R_Md) (T := F_Md) (N := 35) hx hb hts (fun w h => List.mem_cons_of_mem _ (in_Md w h)) hown hE hG 11 (by decide) rfl rfl 25 (by decide) (hts _ (List.mem_cons_of_mem _ kw_617)) (fun _ h9 => h9) rfl d_Md_attempt_116 ?_
          refine g_callv (va_runV (As := [.ref (g_ad V 71)]) (rest := []) ⟨hx, hb, hml, hown, hts⟩ (c_m_ballOf l V Xt 71 (by decide) (by decide) (by decide) ((qt.2.2.2 3 (fun q => by cases q)).trans qs.2.1) ((ft.1 53 (by decide)).trans hTu) ((ft.2.1 12 (by decide)).trans hEx)) (cwV 1 hts (g_goodV kw_810 kw_807 kw_809 kp_34 kw_8) rfl rfl rfl (by decide +kernel) ⟨Nat.le_of_ble_eq_true rfl, Nat.le_of_ble_eq_true rfl⟩) (g_preV (k0 := 11) (ci := 7) hE hG (by decide) rfl rfl) rfl rfl hl.1 rfl (lv_room (Nat.le_of_ble_eq_true rfl)) d_Md_attempt_119 ⟨Nat.le_refl 0, Nat.le_refl 0⟩) hG (fun Xu H locs qu hG => ?_)
          have fu_ : fr X Xu [54, 55, 71, 72, 73, 74, 75, 76, 77, 78, 79] [13, 14, 15, 16] [3] := (fr_tr2 ft qu.2.2 (by decide) (by decide) (by decide))
          have u77 : Xu.1 77 = (tC (X.1 69) (X.1 60) (X.1 70) k) := by rw [qu.1, t71]; rfl
          have u72 : Xu.1 72 = rdF (tY (X.1 70) k) := by rw [qu.2.2.1 72 (by decide), qt.2.1 72 (by decide), qs.2.2.1 72 (by decide)]; exact i72
          have u73 : Xu.1 73 = (tW (X.1 60) (X.1 70) k) := by rw [qu.2.2.1 73 (by decide), qt.2.1 73 (by decide), qs.2.2.1 73 (by decide)]; exact i73
          have hc : bqn 16 (tC (X.1 69) (X.1 60) (X.1 70) k) := blP_in _
          refine lv_aload_n hx hb d_Md_attempt_122 rfl (lv_at hl 0 rfl) ?_
          refine lv_aload_n hx hb d_Md_attempt_123 rfl (lv_at hl 0 rfl) ?_
          refine g_get (ci := 7) (v := .ref (g_ad V 62)) (C := R_Md) (T := F_Md) (N := 35) hx hb hts (fun w h => List.mem_cons_of_mem _ (in_Md w h)) hown hE hG 11 (by decide) rfl rfl 15 (by decide) (hts _ (List.mem_cons_of_mem _ kw_607)) (fun _ h9 => h9) rfl d_Md_attempt_124 ?_
          refine lv_iconst (v := nI (1)) hx hb d_Md_attempt_127 (by decide) ?_
          refine lv_aload_n hx hb d_Md_attempt_128 rfl (lv_at hl 0 rfl) ?_
          refine g_get (ci := 7) (v := .ref (g_ad V 72)) (C := R_Md) (T := F_Md) (N := 35) hx hb hts (fun w h => List.mem_cons_of_mem _ (in_Md w h)) hown hE hG 11 (by decide) rfl rfl 26 (by decide) (hts _ (List.mem_cons_of_mem _ kw_618)) (fun _ h9 => h9) rfl d_Md_attempt_129 ?_
          refine lv_aload_n hx hb d_Md_attempt_132 rfl (lv_at hl 0 rfl) ?_
          refine g_get (ci := 7) (v := .ref (g_ad V 74)) (C := R_Md) (T := F_Md) (N := 35) hx hb hts (fun w h => List.mem_cons_of_mem _ (in_Md w h)) hown hE hG 11 (by decide) rfl rfl 28 (by decide) (hts _ (List.mem_cons_of_mem _ kw_620)) (fun _ h9 => h9) rfl d_Md_attempt_133 ?_
          refine g_callv (va_runV (As := [.ref (g_ad V 62), .int (nI (1)), .ref (g_ad V 72), .ref (g_ad V 74)]) (rest := []) ⟨hx, hb, hml, hown, hts⟩ (c_m_shift l V Xu 62 (by decide) rfl (nI 1) 72 (by decide) rfl 74 (by decide) rfl (by decide) (by decide) (by decide)) (cwV 4 hts (g_goodV kw_814 kw_811 kw_813 kp_35 kw_8) rfl rfl rfl (by decide +kernel) ⟨Nat.le_of_ble_eq_true rfl, Nat.le_of_ble_eq_true rfl⟩) (g_preV (k0 := 11) (ci := 7) hE hG (by decide) rfl rfl) rfl rfl hl.1 rfl (lv_room (Nat.le_of_ble_eq_true rfl)) d_Md_attempt_136 ⟨Nat.le_refl 0, Nat.le_refl 0⟩) hG (fun Xa H locs qa hG => ?_)
          have za : Xa.1 74 = shP (tC (X.1 69) (X.1 60) (X.1 70) k) (rdF S) (nI 1) (rdF (tY (X.1 70) k)) := by rw [qa.1, u77, fu_.1 62 (by decide), h62, u72]
          have hG := g_xi hG 74 (by decide) (tZ (X.1 69) (X.1 60) (X.1 70) S k) (fun j hj => by rw [za]; exact (z_eq hc hS (widP_in _ _) (show j < 32 from hj)).symm)
          obtain ⟨XA, eXA⟩ : ∃ z, z = uI Xa 74 (tZ (X.1 69) (X.1 60) (X.1 70) S k) := ⟨_, rfl⟩
          rw [← eXA] at hG
          have fA : fr X XA [54, 55, 71, 72, 73, 74, 75, 76, 77, 78, 79] [13, 14, 15, 16] [3] := by rw [eXA]; exact fr_i (fr_tr2 fu_ qa.2 (by decide) (by decide) (by decide)) _ (by decide)
          have oA : ∀ c, c ≠ 74 → XA.1 c = Xu.1 c := fun c hc => by rw [eXA, uI_n _ _ hc]; exact qa.2.1 c (ni_1 hc)
          have A74 : XA.1 74 = (tZ (X.1 69) (X.1 60) (X.1 70) S k) := by rw [eXA]; exact uI_s _ _ _
          have A3 : XA.2.2 3 = nI 0 := by rw [eXA]; exact (qa.2.2.2 3 (fun q => by cases q)).trans qu.2.1
          have hG := hG
          refine lv_aload_n hx hb d_Md_attempt_139 rfl (lv_at hl 0 rfl) ?_
          refine lv_aload_n hx hb d_Md_attempt_140 rfl (lv_at hl 0 rfl) ?_
          refine g_get (ci := 7) (v := .ref (g_ad V 63)) (C := R_Md) (T := F_Md) (N := 35) hx hb hts (fun w h => List.mem_cons_of_mem _ (in_Md w h)) hown hE hG 11 (by decide) rfl rfl 16 (by decide) (hts _ (List.mem_cons_of_mem _ kw_608)) (fun _ h9 => h9) rfl d_Md_attempt_141 ?_
          refine lv_iconst (v := -1) hx hb d_Md_attempt_144 (by decide) ?_
          refine lv_aload_n hx hb d_Md_attempt_145 rfl (lv_at hl 0 rfl) ?_
          refine g_get (ci := 7) (v := .ref (g_ad V 73)) (C := R_Md) (T := F_Md) (N := 35) hx hb hts (fun w h => List.mem_cons_of_mem _ (in_Md w h)) hown hE hG 11 (by decide) rfl rfl 27 (by decide) (hts _ (List.mem_cons_of_mem _ kw_619)) (fun _ h9 => h9) rfl d_Md_attempt_146 ?_
          refine lv_aload_n hx hb d_Md_attempt_149 rfl (lv_at hl 0 rfl) ?_
          refine g_get (ci := 7) (v := .ref (g_ad V 75)) (C := R_Md) (T := F_Md) (N := 35) hx hb hts (fun w h => List.mem_cons_of_mem _ (in_Md w h)) hown hE hG 11 (by decide) rfl rfl 29 (by decide) (hts _ (List.mem_cons_of_mem _ kw_621)) (fun _ h9 => h9) rfl d_Md_attempt_150 ?_
          refine g_callv (va_runV (As := [.ref (g_ad V 63), .int (-1), .ref (g_ad V 73), .ref (g_ad V 75)]) (rest := []) ⟨hx, hb, hml, hown, hts⟩ (c_m_shift l V XA 63 (by decide) rfl (-1) 73 (by decide) rfl 75 (by decide) rfl (by decide) (by decide) (by decide)) (cwV 4 hts (g_goodV kw_814 kw_811 kw_813 kp_35 kw_8) rfl rfl rfl (by decide +kernel) ⟨Nat.le_of_ble_eq_true rfl, Nat.le_of_ble_eq_true rfl⟩) (g_preV (k0 := 11) (ci := 7) hE hG (by decide) rfl rfl) rfl rfl hl.1 rfl (lv_room (Nat.le_of_ble_eq_true rfl)) d_Md_attempt_153 ⟨Nat.le_refl 0, Nat.le_refl 0⟩) hG (fun Xb H locs qb hG => ?_)
          have zb : Xb.1 75 = shP (tC (X.1 69) (X.1 60) (X.1 70) k) (rdF E) (-1) (tW (X.1 60) (X.1 70) k) := by rw [qb.1, oA 77 (by decide), oA 63 (by decide), oA 73 (by decide), u77, fu_.1 63 (by decide), h63, u73]
          have hG := g_xi hG 75 (by decide) (tU (X.1 69) (X.1 60) (X.1 70) E k) (fun j hj => by rw [zb]; exact (u_eq hc hEb (mmP_in _ _) (show j < 32 from hj)).symm)
          obtain ⟨Xv, eXv⟩ : ∃ z, z = uI Xb 75 (tU (X.1 69) (X.1 60) (X.1 70) E k) := ⟨_, rfl⟩
          rw [← eXv] at hG
          have fv : fr X Xv [54, 55, 71, 72, 73, 74, 75, 76, 77, 78, 79] [13, 14, 15, 16] [3] := by rw [eXv]; exact fr_i (fr_tr2 fA qb.2 (by decide) (by decide) (by decide)) _ (by decide)
          have oB : ∀ c, c ≠ 75 → Xv.1 c = XA.1 c := fun c hc => by rw [eXv, uI_n _ _ hc]; exact qb.2.1 c (ni_1 hc)
          have v75 : Xv.1 75 = (tU (X.1 69) (X.1 60) (X.1 70) E k) := by rw [eXv]; exact uI_s _ _ _
          have v3 : Xv.2.2 3 = nI 0 := by rw [eXv]; exact (qb.2.2.2 3 (fun q => by cases q)).trans A3
          have v71 : Xv.1 71 = (tSE (X.1 69) (X.1 60) (X.1 70) k) := by rw [oB 71 (by decide), oA 71 (by decide), qu.2.2.1 71 (by decide), t71]
          have v74 : Xv.1 74 = (tZ (X.1 69) (X.1 60) (X.1 70) S k) := by rw [oB 74 (by decide), A74]
          have v77 : Xv.1 77 = (tC (X.1 69) (X.1 60) (X.1 70) k) := by rw [oB 77 (by decide), oA 77 (by decide), u77]
          have v79 : ∀ j, j < 48 → isB (Xv.1 79 j) := fun j hj => by rw [oB 79 (by decide), oA 79 (by decide), qu.2.2.1 79 (by decide), qt.2.1 79 (by decide), qs.2.2.1 79 (by decide), b79, ← segI_e _ _ hj, ← Nat.zero_add j]; exact pc_isB _ (L := 48) (by decide) hj
          have hG := hG
          refine lv_iconst (v := nI (0)) hx hb d_Md_attempt_156 (by decide) ?_
          refine lv_istore_n (lv' := [(2, .int (nI (0))), (0, .ref (g_ad V 11)), (1, .int (nI (k)))]) hx hb d_Md_attempt_157 rfl hl (by decide) rfl (fun ls hl => ?_)
          have K158 : ∀ (fu i : Nat), i + fu = 32 → ∀ (X3 : Mm) (H : Heap) (locs : List Loc), ∀ (ls : Array Slot), (fr X X3 [54, 55, 71, 72, 73, 74, 75, 76, 77, 78, 79] [13, 14, 15, 16] [3]) → (X3.2.2 3 = nI 0) → (X3.1 71 = (tSE (X.1 69) (X.1 60) (X.1 70) k)) → (X3.1 74 = (tZ (X.1 69) (X.1 60) (X.1 70) S k)) → (X3.1 75 = (tU (X.1 69) (X.1 60) (X.1 70) E k)) → (X3.1 77 = (tC (X.1 69) (X.1 60) (X.1 70) k)) → (∀ j, j < 48 → isB (X3.1 79 j)) → (X3.1 76 = segI (fun _ => nI 0) (Xv.1 76) i) → g_st V X3 s.heap H locs → lv_has ls 5 [(0, .ref (g_ad V 11)), (1, .int (nI (k))), (2, .int (nI (i)))] → W p l e ({ frames := 4, cells := 0, slots := 0, locals := 92 } : Room) s m ([.ref (g_ad V 11), .int (nI (k))] : List Value).toArray below meth c H locs 0 0 (MQ below (g_Qi V (fun (r : Int32) (X1 : Mm) => ((tOK (X.1 69) (X.1 60) (X.1 70) S E T k) → r = nI 1 ∧ X1.1 71 = (tSE (X.1 69) (X.1 60) (X.1 70) k) ∧ X1.1 74 = (tZ (X.1 69) (X.1 60) (X.1 70) S k) ∧ X1.1 78 = hnP (tU (X.1 69) (X.1 60) (X.1 70) E k) (tV (X.1 69) (X.1 60) (X.1 70) T k)) ∧ (¬ (tOK (X.1 69) (X.1 60) (X.1 70) S E T k) → r = nI 0) ∧ (∀ j, j < 48 → isB (X1.1 79 j)) ∧ X1.2.2 3 = nI 0 ∧ fr X X1 [54, 55, 71, 72, 73, 74, 75, 76, 77, 78, 79] [13, 14, 15, 16] [3])) ([.ref (g_ad V 11), .int (nI (k))] : List Value).toArray s 0 0 (g_A V)) (F0 m 158 ls []) := by
            intro fu
            induction fu with
            | zero =>
              intro i hin158 X3 H locs ls hF3 l3 l71 l74 l75 l77 l79 l76 hG hl
              have hi158 : 32 = i := by omega
              subst hi158
              refine lv_iload_n hx hb d_Md_attempt_158 rfl (lv_at hl 2 rfl) ?_
              refine lv_bipush (v := nI (32)) hx hb d_Md_attempt_159 (by decide) ?_
              refine lv_icmp_ge (tgt := 177) hx hb d_Md_attempt_161 (by decide) (fun _ => ?_) (fun q => absurd ((g_geN (x := 32) (y := 32) (by omega) (by omega)).mp q) (by omega))
              have hG := g_xi hG 76 (by decide) (fun _ => nI 0) (fun j hj => by rw [l76]; exact segI_e (fun _ => nI 0) _ hj)
              refine lv_aload_n hx hb d_Md_attempt_177 rfl (lv_at hl 0 rfl) ?_
              refine lv_aload_n hx hb d_Md_attempt_178 rfl (lv_at hl 0 rfl) ?_
              refine g_get (ci := 7) (v := .ref (g_ad V 64)) (C := R_Md) (T := F_Md) (N := 35) hx hb hts (fun w h => List.mem_cons_of_mem _ (in_Md w h)) hown hE hG 11 (by decide) rfl rfl 17 (by decide) (hts _ (List.mem_cons_of_mem _ kw_609)) (fun _ h9 => h9) rfl d_Md_attempt_179 ?_
              refine lv_iconst (v := nI (1)) hx hb d_Md_attempt_182 (by decide) ?_
              refine lv_aload_n hx hb d_Md_attempt_183 rfl (lv_at hl 0 rfl) ?_
              refine g_get (ci := 7) (v := .ref (g_ad V 76)) (C := R_Md) (T := F_Md) (N := 35) hx hb hts (fun w h => List.mem_cons_of_mem _ (in_Md w h)) hown hE hG 11 (by decide) rfl rfl 30 (by decide) (hts _ (List.mem_cons_of_mem _ kw_622)) (fun _ h9 => h9) rfl d_Md_attempt_184 ?_
              refine lv_aload_n hx hb d_Md_attempt_187 rfl (lv_at hl 0 rfl) ?_
              refine g_get (ci := 7) (v := .ref (g_ad V 76)) (C := R_Md) (T := F_Md) (N := 35) hx hb hts (fun w h => List.mem_cons_of_mem _ (in_Md w h)) hown hE hG 11 (by decide) rfl rfl 30 (by decide) (hts _ (List.mem_cons_of_mem _ kw_622)) (fun _ h9 => h9) rfl d_Md_attempt_188 ?_
              refine g_callv (va_runV (As := [.ref (g_ad V 64), .int (nI (1)), .ref (g_ad V 76), .ref (g_ad V 76)]) (rest := []) ⟨hx, hb, hml, hown, hts⟩ (c_m_shiftA l V (uI X3 76 (fun _ => nI 0)) 64 (by decide) rfl (nI 1) 76 (by decide) rfl (by decide) (by decide)) (cwV 4 hts (g_goodV kw_814 kw_811 kw_813 kp_35 kw_8) rfl rfl rfl (by decide +kernel) ⟨Nat.le_of_ble_eq_true rfl, Nat.le_of_ble_eq_true rfl⟩) (g_preV (k0 := 11) (ci := 7) hE hG (by decide) rfl rfl) rfl rfl hl.1 rfl (lv_room (Nat.le_of_ble_eq_true rfl)) d_Md_attempt_191 ⟨Nat.le_refl 0, Nat.le_refl 0⟩) hG (fun Xc H locs qc hG => ?_)
              have zc : Xc.1 76 = shP (tC (X.1 69) (X.1 60) (X.1 70) k) (rdF T) (nI 1) (fun _ => nI 0) := by rw [qc.1, uI_s, uI_n _ _ (show (77 : Nat) ≠ 76 by decide), uI_n _ _ (show (64 : Nat) ≠ 76 by decide), l77, hF3.1 64 (by decide), h64]
              have hG := g_xi hG 76 (by decide) (tV (X.1 69) (X.1 60) (X.1 70) T k) (fun j hj => by rw [zc]; exact (v_eq (blP_in _) hT0 (show j < 32 from hj)).symm)
              obtain ⟨Xx, eXx⟩ : ∃ z, z = uI Xc 76 (tV (X.1 69) (X.1 60) (X.1 70) T k) := ⟨_, rfl⟩
              rw [← eXx] at hG
              have fx : fr X Xx [54, 55, 71, 72, 73, 74, 75, 76, 77, 78, 79] [13, 14, 15, 16] [3] := by rw [eXx]; exact fr_i (fr_tr2 (fr_i hF3 _ (by decide)) qc.2 (by decide) (by decide) (by decide)) _ (by decide)
              have oC : ∀ c, c ≠ 76 → Xx.1 c = X3.1 c := fun c hc => by rw [eXx, uI_n _ _ hc, qc.2.1 c (ni_1 hc), uI_n _ _ hc]
              have x76 : Xx.1 76 = (tV (X.1 69) (X.1 60) (X.1 70) T k) := by rw [eXx]; exact uI_s _ _ _
              have x3 : Xx.2.2 3 = nI 0 := by rw [eXx]; exact (qc.2.2.2 3 (fun q => by cases q)).trans l3
              have x71 : Xx.1 71 = (tSE (X.1 69) (X.1 60) (X.1 70) k) := by rw [oC 71 (by decide), l71]
              have x74 : Xx.1 74 = (tZ (X.1 69) (X.1 60) (X.1 70) S k) := by rw [oC 74 (by decide), l74]
              have x75 : Xx.1 75 = (tU (X.1 69) (X.1 60) (X.1 70) E k) := by rw [oC 75 (by decide), l75]
              have x79 : ∀ j, j < 48 → isB (Xx.1 79 j) := fun j hj => by rw [oC 79 (by decide)]; exact l79 j hj
              have ez : szN (tZ (X.1 69) (X.1 60) (X.1 70) S k) 32 < nI 504 ↔ wrP (tZ (X.1 69) (X.1 60) (X.1 70) S k) (nI 504) 32 = nI 0 := by rw [← wr_ext (nI 504) 32 (fun i _ => rd_fix (f := (tZ (X.1 69) (X.1 60) (X.1 70) S k)) (zP_in _ _ _ i))]; exact sz_wr _ (by decide) (by decide)
              have ev : szN (tV (X.1 69) (X.1 60) (X.1 70) T k) 32 < nI 1023 ↔ wrP (tV (X.1 69) (X.1 60) (X.1 70) T k) (nI 1023) 32 = nI 0 := by rw [← wr_ext (nI 1023) 32 (fun i _ => rd_fix (f := (tV (X.1 69) (X.1 60) (X.1 70) T k)) (mpP_in _ _ i))]; exact sz_wr _ (by decide) (by decide)
              have hG := hG
              refine lv_iconst (v := nI (0)) hx hb d_Md_attempt_194 (by decide) ?_
              refine lv_istore_n (lv' := [(2, .int (nI (0))), (0, .ref (g_ad V 11)), (1, .int (nI (k)))]) hx hb d_Md_attempt_195 rfl hl (by decide) rfl (fun ls hl => ?_)
              have K230 : ∀ (g0 : Int32), ∀ (Xw : Mm) (H : Heap) (locs : List Loc), ∀ (ls : Array Slot), (¬ g0 = nI 0 ↔ (szN (tZ (X.1 69) (X.1 60) (X.1 70) S k) 32 < nI 504 ∧ szN (tV (X.1 69) (X.1 60) (X.1 70) T k) 32 < nI 1023)) → (fr X Xw [54, 55, 71, 72, 73, 74, 75, 76, 77, 78, 79] [13, 14, 15, 16] [3]) → (Xw.2.2 3 = nI 0) → (Xw.1 71 = (tSE (X.1 69) (X.1 60) (X.1 70) k)) → (Xw.1 74 = (tZ (X.1 69) (X.1 60) (X.1 70) S k)) → (Xw.1 75 = (tU (X.1 69) (X.1 60) (X.1 70) E k)) → (Xw.1 76 = (tV (X.1 69) (X.1 60) (X.1 70) T k)) → (∀ j, j < 48 → isB (Xw.1 79 j)) → g_st V Xw s.heap H locs → lv_has ls 5 [(0, .ref (g_ad V 11)), (2, .int (nI (0))), (3, .int (g0))] → W p l e ({ frames := 4, cells := 0, slots := 0, locals := 92 } : Room) s m ([.ref (g_ad V 11), .int (nI (k))] : List Value).toArray below meth c H locs 0 0 (MQ below (g_Qi V (fun (r : Int32) (X1 : Mm) => ((tOK (X.1 69) (X.1 60) (X.1 70) S E T k) → r = nI 1 ∧ X1.1 71 = (tSE (X.1 69) (X.1 60) (X.1 70) k) ∧ X1.1 74 = (tZ (X.1 69) (X.1 60) (X.1 70) S k) ∧ X1.1 78 = hnP (tU (X.1 69) (X.1 60) (X.1 70) E k) (tV (X.1 69) (X.1 60) (X.1 70) T k)) ∧ (¬ (tOK (X.1 69) (X.1 60) (X.1 70) S E T k) → r = nI 0) ∧ (∀ j, j < 48 → isB (X1.1 79 j)) ∧ X1.2.2 3 = nI 0 ∧ fr X X1 [54, 55, 71, 72, 73, 74, 75, 76, 77, 78, 79] [13, 14, 15, 16] [3])) ([.ref (g_ad V 11), .int (nI (k))] : List Value).toArray s 0 0 (g_A V)) (F0 m 230 ls []) := by
                intro g0 Xw H locs ls hg0 fw w3 w71 w74 w75 w76 w79 hG hl
                refine lv_iconst (v := nI (0)) hx hb d_Md_attempt_230 (by decide) ?_
                refine lv_istore (lv' := [(4, .int (nI (0))), (0, .ref (g_ad V 11)), (2, .int (nI (0))), (3, .int (g0))]) hx hb d_Md_attempt_231 hl (by decide) rfl (fun ls hl => ?_)
                have K233 : ∀ (fu i : Nat), i + fu = 32 → ∀ (X4 : Mm) (H : Heap) (locs : List Loc), ∀ (ls : Array Slot), (fr X X4 [54, 55, 71, 72, 73, 74, 75, 76, 77, 78, 79] [13, 14, 15, 16] [3]) → (X4.2.2 3 = nI 0) → (X4.1 71 = (tSE (X.1 69) (X.1 60) (X.1 70) k)) → (X4.1 74 = (tZ (X.1 69) (X.1 60) (X.1 70) S k)) → (X4.1 75 = (tU (X.1 69) (X.1 60) (X.1 70) E k)) → (X4.1 76 = (tV (X.1 69) (X.1 60) (X.1 70) T k)) → (∀ j, j < 48 → isB (X4.1 79 j)) → (X4.1 78 = segI (hnP (tU (X.1 69) (X.1 60) (X.1 70) E k) (tV (X.1 69) (X.1 60) (X.1 70) T k)) (Xw.1 78) i) → g_st V X4 s.heap H locs → lv_has ls 5 [(0, .ref (g_ad V 11)), (2, .int (ctN (hnP (tU (X.1 69) (X.1 60) (X.1 70) E k) (tV (X.1 69) (X.1 60) (X.1 70) T k)) i)), (3, .int (gdN (tU (X.1 69) (X.1 60) (X.1 70) E k) g0 i)), (4, .int (nI (i)))] → W p l e ({ frames := 4, cells := 0, slots := 0, locals := 92 } : Room) s m ([.ref (g_ad V 11), .int (nI (k))] : List Value).toArray below meth c H locs 0 0 (MQ below (g_Qi V (fun (r : Int32) (X1 : Mm) => ((tOK (X.1 69) (X.1 60) (X.1 70) S E T k) → r = nI 1 ∧ X1.1 71 = (tSE (X.1 69) (X.1 60) (X.1 70) k) ∧ X1.1 74 = (tZ (X.1 69) (X.1 60) (X.1 70) S k) ∧ X1.1 78 = hnP (tU (X.1 69) (X.1 60) (X.1 70) E k) (tV (X.1 69) (X.1 60) (X.1 70) T k)) ∧ (¬ (tOK (X.1 69) (X.1 60) (X.1 70) S E T k) → r = nI 0) ∧ (∀ j, j < 48 → isB (X1.1 79 j)) ∧ X1.2.2 3 = nI 0 ∧ fr X X1 [54, 55, 71, 72, 73, 74, 75, 76, 77, 78, 79] [13, 14, 15, 16] [3])) ([.ref (g_ad V 11), .int (nI (k))] : List Value).toArray s 0 0 (g_A V)) (F0 m 233 ls []) := by
                  intro fu
                  induction fu with
                  | zero =>
                    intro i hin233 X4 H locs ls hF4 o3 o71 o74 o75 o76 o79 o78 hG hl
                    have hi233 : 32 = i := by omega
                    subst hi233
                    refine lv_iload hx hb d_Md_attempt_233 (lv_at hl 3 rfl) ?_
                    refine lv_bipush (v := nI (32)) hx hb d_Md_attempt_235 (by decide) ?_
                    refine lv_icmp_ge (tgt := 337) hx hb d_Md_attempt_237 (by decide) (fun _ => ?_) (fun q => absurd ((g_geN (x := 32) (y := 32) (by omega) (by omega)).mp q) (by omega))
                    have hG := g_xi hG 78 (by decide) (hnP (tU (X.1 69) (X.1 60) (X.1 70) E k) (tV (X.1 69) (X.1 60) (X.1 70) T k)) (fun j hj => by rw [o78]; exact segI_e _ _ hj)
                    refine lv_iload_n hx hb d_Md_attempt_337 rfl (lv_at hl 2 rfl) ?_
                    refine lv_if_eq (tgt := 351) hx hb d_Md_attempt_338 (by decide) (fun c338 => ?_) (fun c338 => ?_)
                    · refine lv_iconst (v := nI (0)) hx hb d_Md_attempt_351 (by decide) ?_
                      exact g_zret hx hb hr hlocks hE hG (by decide) (⟨fun z => absurd ((gd_iff _ _ 32).mpr ⟨hg0.mpr ⟨z.1, z.2.2.1⟩, fun i hi => (lo_lt (uP_in _ _ _ i)).mp (z.2.1 i hi)⟩) (fun w => w c338), fun _ => rfl, o79, o3, fr_i hF4 _ (by decide)⟩) d_Md_attempt_352
                    · refine lv_iload_n hx hb d_Md_attempt_341 rfl (lv_at hl 1 rfl) ?_
                      refine lv_bipush (v := nI (12)) hx hb d_Md_attempt_342 (by decide) ?_
                      refine lv_icmp_gt (tgt := 351) hx hb d_Md_attempt_344 (by decide) (fun c344 => ?_) (fun c344 => ?_)
                      · refine lv_iconst (v := nI (0)) hx hb d_Md_attempt_351 (by decide) ?_
                        exact g_zret hx hb hr hlocks hE hG (by decide) (⟨fun z => absurd z.2.2.2 (Int32.not_le.mpr c344), fun _ => rfl, o79, o3, fr_i hF4 _ (by decide)⟩) d_Md_attempt_352
                      · refine lv_iconst (v := nI (1)) hx hb d_Md_attempt_347 (by decide) ?_
                        refine lv_goto (tgt := 352) hx hb d_Md_attempt_348 (by decide) ?_
                        exact g_zret hx hb hr hlocks hE hG (by decide) (⟨fun _ => ⟨rfl, o71, o74, uI_s _ _ _⟩, fun z => absurd ⟨(hg0.mp ((gd_iff _ _ 32).mp c338).1).1, fun j hj => (lo_lt (uP_in _ _ _ j)).mpr (((gd_iff _ _ 32).mp c338).2 j hj), (hg0.mp ((gd_iff _ _ 32).mp c338).1).2, Int32.not_lt.mp c344⟩ z, o79, o3, fr_i hF4 _ (by decide)⟩) d_Md_attempt_352
                  | succ fu ih233 =>
                    intro i hin233 X4 H locs ls hF4 o3 o71 o74 o75 o76 o79 o78 hG hl
                    have hi233 : i < 32 := by omega
                    refine lv_iload hx hb d_Md_attempt_233 (lv_at hl 3 rfl) ?_
                    refine lv_bipush (v := nI (32)) hx hb d_Md_attempt_235 (by decide) ?_
                    refine lv_icmp_ge (tgt := 337) hx hb d_Md_attempt_237 (by decide) (fun q => absurd ((g_ge (x := i) (y := 32) (by omega) (by omega)).mp q) (by omega)) (fun _ => ?_)
                    refine lv_iload_n hx hb d_Md_attempt_240 rfl (lv_at hl 2 rfl) ?_
                    refine lv_if_eq (tgt := 280) hx hb d_Md_attempt_241 (by decide) (fun c241 => ?_) (fun c241 => ?_)
                    · refine lv_iconst (v := nI (0)) hx hb d_Md_attempt_280 (by decide) ?_
                      refine g_topi (y := gdN (tU (X.1 69) (X.1 60) (X.1 70) E k) g0 (i + 1)) (gdN_n (fun z => z.1 c241)) ?_
                      refine lv_istore_n (lv' := [(3, .int (gdN (tU (X.1 69) (X.1 60) (X.1 70) E k) g0 (i + 1))), (0, .ref (g_ad V 11)), (2, .int (ctN (hnP (tU (X.1 69) (X.1 60) (X.1 70) E k) (tV (X.1 69) (X.1 60) (X.1 70) T k)) i)), (4, .int (nI (i)))]) hx hb d_Md_attempt_281 rfl hl (by decide) rfl (fun ls hl => ?_)
                      refine lv_aload_n hx hb d_Md_attempt_282 rfl (lv_at hl 1 rfl) ?_
                      refine g_get (ci := 7) (v := .ref (g_ad V 78)) (C := R_Md) (T := F_Md) (N := 35) hx hb hts (fun w h => List.mem_cons_of_mem _ (in_Md w h)) hown hE hG 11 (by decide) rfl rfl 32 (by decide) (hts _ (List.mem_cons_of_mem _ kw_624)) (fun _ h9 => h9) rfl d_Md_attempt_283 ?_
                      refine lv_iload hx hb d_Md_attempt_286 (lv_at hl 3 rfl) ?_
                      refine lv_aload_n hx hb d_Md_attempt_288 rfl (lv_at hl 1 rfl) ?_
                      refine g_get (ci := 7) (v := .ref (g_ad V 76)) (C := R_Md) (T := F_Md) (N := 35) hx hb hts (fun w h => List.mem_cons_of_mem _ (in_Md w h)) hown hE hG 11 (by decide) rfl rfl 30 (by decide) (hts _ (List.mem_cons_of_mem _ kw_622)) (fun _ h9 => h9) rfl d_Md_attempt_289 ?_
                      refine lv_iload hx hb d_Md_attempt_292 (lv_at hl 3 rfl) ?_
                      refine g_iald hx hb hE hG 76 (by decide) (i) (rfl) (show _ < 32 by omega) (v := (tV (X.1 69) (X.1 60) (X.1 70) T k) i) (congrFun o76 _) d_Md_attempt_294 ?_
                      refine lv_ineg hx hb d_Md_attempt_295 ?_
                      refine lv_i2l (v := (-((tV (X.1 69) (X.1 60) (X.1 70) T k) i)).toInt64) hx hb d_Md_attempt_296 rfl ?_
                      refine lv_aload_n hx hb d_Md_attempt_297 rfl (lv_at hl 1 rfl) ?_
                      refine g_get (ci := 7) (v := .ref (g_ad V 75)) (C := R_Md) (T := F_Md) (N := 35) hx hb hts (fun w h => List.mem_cons_of_mem _ (in_Md w h)) hown hE hG 11 (by decide) rfl rfl 29 (by decide) (hts _ (List.mem_cons_of_mem _ kw_621)) (fun _ h9 => h9) rfl d_Md_attempt_298 ?_
                      refine lv_iload hx hb d_Md_attempt_301 (lv_at hl 3 rfl) ?_
                      refine g_iald hx hb hE hG 75 (by decide) (i) (rfl) (show _ < 32 by omega) (v := (tU (X.1 69) (X.1 60) (X.1 70) E k) i) (congrFun o75 _) d_Md_attempt_303 ?_
                      refine lv_i2l (v := ((tU (X.1 69) (X.1 60) (X.1 70) E k) i).toInt64) hx hb d_Md_attempt_304 rfl ?_
                      refine lv_aload_n hx hb d_Md_attempt_305 rfl (lv_at hl 1 rfl) ?_
                      refine g_get (ci := 7) (v := .ref (g_ad V 76)) (C := R_Md) (T := F_Md) (N := 35) hx hb hts (fun w h => List.mem_cons_of_mem _ (in_Md w h)) hown hE hG 11 (by decide) rfl rfl 30 (by decide) (hts _ (List.mem_cons_of_mem _ kw_622)) (fun _ h9 => h9) rfl d_Md_attempt_306 ?_
                      refine lv_iload hx hb d_Md_attempt_309 (lv_at hl 3 rfl) ?_
                      refine g_iald hx hb hE hG 76 (by decide) (i) (rfl) (show _ < 32 by omega) (v := (tV (X.1 69) (X.1 60) (X.1 70) T k) i) (congrFun o76 _) d_Md_attempt_311 ?_
                      refine lv_i2l (v := ((tV (X.1 69) (X.1 60) (X.1 70) T k) i).toInt64) hx hb d_Md_attempt_312 rfl ?_
                      refine lv_ladd hx hb d_Md_attempt_313 ?_
                      refine g_callpi (va_runS (As := [.long ((((tU (X.1 69) (X.1 60) (X.1 70) E k) i).toInt64) + (((tV (X.1 69) (X.1 60) (X.1 70) T k) i).toInt64))]) (rest := [.long ((-((tV (X.1 69) (X.1 60) (X.1 70) T k) i)).toInt64), .int (nI (i)), .ref (g_ad V 78)]) ⟨hx, hb, hml, hown, hts⟩ (c_m_mod l (((tU (X.1 69) (X.1 60) (X.1 70) E k) i).toInt64 + ((tV (X.1 69) (X.1 60) (X.1 70) T k) i).toInt64)) (va_cwS 1 hts (g_goodS kw_751 kw_749 kw_750 kw_8) rfl rfl rfl (by decide +kernel) ⟨Nat.le_of_ble_eq_true rfl, Nat.le_of_ble_eq_true rfl⟩) ⟨fun _ _ _ _ q => q, fun _ _ _ => rfl⟩ rfl rfl hl.1 rfl (lv_room (Nat.le_of_ble_eq_true rfl)) d_Md_attempt_314 ⟨Nat.le_refl 0, Nat.le_refl 0⟩) (fun r23 q8 => ?_)
                      refine g_topi (y := redP (((tU (X.1 69) (X.1 60) (X.1 70) E k) i).toInt64 + ((tV (X.1 69) (X.1 60) (X.1 70) T k) i).toInt64)) (q8) ?_
                      refine g_callpi (va_runS (As := [.long ((-((tV (X.1 69) (X.1 60) (X.1 70) T k) i)).toInt64), .int (redP (((tU (X.1 69) (X.1 60) (X.1 70) E k) i).toInt64 + ((tV (X.1 69) (X.1 60) (X.1 70) T k) i).toInt64))]) (rest := [.int (nI (i)), .ref (g_ad V 78)]) ⟨hx, hb, hml, hown, hts⟩ (c_m_hintOf l (-((tV (X.1 69) (X.1 60) (X.1 70) T k) i)).toInt64 (redP (((tU (X.1 69) (X.1 60) (X.1 70) E k) i).toInt64 + ((tV (X.1 69) (X.1 60) (X.1 70) T k) i).toInt64))) (va_cwS 2 hts (g_goodS kw_828 kw_826 kw_827 kw_8) rfl rfl rfl (by decide +kernel) ⟨Nat.le_of_ble_eq_true rfl, Nat.le_of_ble_eq_true rfl⟩) ⟨fun _ _ _ _ q => q, fun _ _ _ => rfl⟩ rfl rfl hl.1 rfl (lv_room (Nat.le_of_ble_eq_true rfl)) d_Md_attempt_317 ⟨Nat.le_refl 0, Nat.le_refl 0⟩) (fun r25 q9 => ?_)
                      refine g_topi (y := hnP (tU (X.1 69) (X.1 60) (X.1 70) E k) (tV (X.1 69) (X.1 60) (X.1 70) T k) i) (q9.trans (h_eq (uP_in _ _ _ _) (mpP_in _ _ _))) ?_
                      refine g_iast (x := hnP (tU (X.1 69) (X.1 60) (X.1 70) E k) (tV (X.1 69) (X.1 60) (X.1 70) T k) i) hx hb hE hG 78 (by decide) (i) (rfl) (show _ < 32 by omega) d_Md_attempt_320 (fun H locs hG => ?_)
                      refine lv_iload_n hx hb d_Md_attempt_321 rfl (lv_at hl 2 rfl) ?_
                      refine lv_aload_n hx hb d_Md_attempt_322 rfl (lv_at hl 1 rfl) ?_
                      refine g_get (ci := 7) (v := .ref (g_ad V 78)) (C := R_Md) (T := F_Md) (N := 35) hx hb hts (fun w h => List.mem_cons_of_mem _ (in_Md w h)) hown hE hG 11 (by decide) rfl rfl 32 (by decide) (hts _ (List.mem_cons_of_mem _ kw_624)) (fun _ h9 => h9) rfl d_Md_attempt_323 ?_
                      refine lv_iload hx hb d_Md_attempt_326 (lv_at hl 3 rfl) ?_
                      refine g_iald hx hb hE hG 78 (by decide) (i) (rfl) (show _ < 32 by omega) (v := hnP (tU (X.1 69) (X.1 60) (X.1 70) E k) (tV (X.1 69) (X.1 60) (X.1 70) T k) i) (by rw [uI_s]; exact pk_us) d_Md_attempt_328 ?_
                      refine lv_iadd hx hb d_Md_attempt_329 ?_
                      refine lv_istore_n (lv' := [(2, .int ((ctN (hnP (tU (X.1 69) (X.1 60) (X.1 70) E k) (tV (X.1 69) (X.1 60) (X.1 70) T k)) i) + (hnP (tU (X.1 69) (X.1 60) (X.1 70) E k) (tV (X.1 69) (X.1 60) (X.1 70) T k) i))), (3, .int (gdN (tU (X.1 69) (X.1 60) (X.1 70) E k) g0 (i + 1))), (0, .ref (g_ad V 11)), (4, .int (nI (i)))]) hx hb d_Md_attempt_330 rfl hl (by decide) rfl (fun ls hl => ?_)
                      refine lv_iinc (v := nI (i + 1)) (lv' := [(4, .int (nI (i + 1))), (2, .int ((ctN (hnP (tU (X.1 69) (X.1 60) (X.1 70) E k) (tV (X.1 69) (X.1 60) (X.1 70) T k)) i) + (hnP (tU (X.1 69) (X.1 60) (X.1 70) E k) (tV (X.1 69) (X.1 60) (X.1 70) T k) i))), (3, .int (gdN (tU (X.1 69) (X.1 60) (X.1 70) E k) g0 (i + 1))), (0, .ref (g_ad V 11))]) hx hb d_Md_attempt_331 hl (k := 3) rfl (g_inc _) (by decide) rfl (fun ls hl => ?_)
                      refine lv_goto (tgt := 233) hx hb d_Md_attempt_334 (by decide) ?_
                      exact ih233 (i + 1) (by omega) (uI X4 78 (upd (X4.1 78) i (hnP (tU (X.1 69) (X.1 60) (X.1 70) E k) (tV (X.1 69) (X.1 60) (X.1 70) T k) i))) _ _ ls (fr_i hF4 _ (by decide)) o3 ((uI_n _ _ (by decide)).trans o71) ((uI_n _ _ (by decide)).trans o74) ((uI_n _ _ (by decide)).trans o75) ((uI_n _ _ (by decide)).trans o76) (fun j hj => by rw [uI_n _ _ (show (79 : Nat) ≠ 78 by decide)]; exact o79 j hj) (by rw [uI_s, o78]; exact segI_s (hnP (tU (X.1 69) (X.1 60) (X.1 70) E k) (tV (X.1 69) (X.1 60) (X.1 70) T k)) _ _) hG (lv_sub hl [3, 1, 2, 0] rfl)
                    · refine lv_aload_n hx hb d_Md_attempt_244 rfl (lv_at hl 0 rfl) ?_
                      refine g_get (ci := 7) (v := .ref (g_ad V 75)) (C := R_Md) (T := F_Md) (N := 35) hx hb hts (fun w h => List.mem_cons_of_mem _ (in_Md w h)) hown hE hG 11 (by decide) rfl rfl 29 (by decide) (hts _ (List.mem_cons_of_mem _ kw_621)) (fun _ h9 => h9) rfl d_Md_attempt_245 ?_
                      refine lv_iload hx hb d_Md_attempt_248 (lv_at hl 3 rfl) ?_
                      refine g_iald hx hb hE hG 75 (by decide) (i) (rfl) (show _ < 32 by omega) (v := (tU (X.1 69) (X.1 60) (X.1 70) E k) i) (congrFun o75 _) d_Md_attempt_250 ?_
                      refine g_callpi (va_runS (As := [.int ((tU (X.1 69) (X.1 60) (X.1 70) E k) i)]) (rest := []) ⟨hx, hb, hml, hown, hts⟩ (c_m_lowOf l ((tU (X.1 69) (X.1 60) (X.1 70) E k) i)) (va_cwS 1 hts (g_goodS kw_825 kw_823 kw_824 kw_8) rfl rfl rfl (by decide +kernel) ⟨Nat.le_of_ble_eq_true rfl, Nat.le_of_ble_eq_true rfl⟩) ⟨fun _ _ _ _ q => q, fun _ _ _ => rfl⟩ rfl rfl hl.1 rfl (lv_room (Nat.le_of_ble_eq_true rfl)) d_Md_attempt_251 ⟨Nat.le_refl 0, Nat.le_refl 0⟩) (fun r27 q7 => ?_)
                      refine g_topi (y := loP ((tU (X.1 69) (X.1 60) (X.1 70) E k) i)) (q7) ?_
                      refine lv_sipush (v := nI (1015)) hx hb d_Md_attempt_254 (by decide) ?_
                      refine lv_icmp_ge (tgt := 280) hx hb d_Md_attempt_257 (by decide) (fun c257 => ?_) (fun c257 => ?_)
                      · refine lv_iconst (v := nI (0)) hx hb d_Md_attempt_280 (by decide) ?_
                        refine g_topi (y := gdN (tU (X.1 69) (X.1 60) (X.1 70) E k) g0 (i + 1)) (gdN_n (fun z => absurd z.2.1 (Int32.not_lt.mpr c257))) ?_
                        refine lv_istore_n (lv' := [(3, .int (gdN (tU (X.1 69) (X.1 60) (X.1 70) E k) g0 (i + 1))), (0, .ref (g_ad V 11)), (2, .int (ctN (hnP (tU (X.1 69) (X.1 60) (X.1 70) E k) (tV (X.1 69) (X.1 60) (X.1 70) T k)) i)), (4, .int (nI (i)))]) hx hb d_Md_attempt_281 rfl hl (by decide) rfl (fun ls hl => ?_)
                        refine lv_aload_n hx hb d_Md_attempt_282 rfl (lv_at hl 1 rfl) ?_
                        refine g_get (ci := 7) (v := .ref (g_ad V 78)) (C := R_Md) (T := F_Md) (N := 35) hx hb hts (fun w h => List.mem_cons_of_mem _ (in_Md w h)) hown hE hG 11 (by decide) rfl rfl 32 (by decide) (hts _ (List.mem_cons_of_mem _ kw_624)) (fun _ h9 => h9) rfl d_Md_attempt_283 ?_
                        refine lv_iload hx hb d_Md_attempt_286 (lv_at hl 3 rfl) ?_
                        refine lv_aload_n hx hb d_Md_attempt_288 rfl (lv_at hl 1 rfl) ?_
                        refine g_get (ci := 7) (v := .ref (g_ad V 76)) (C := R_Md) (T := F_Md) (N := 35) hx hb hts (fun w h => List.mem_cons_of_mem _ (in_Md w h)) hown hE hG 11 (by decide) rfl rfl 30 (by decide) (hts _ (List.mem_cons_of_mem _ kw_622)) (fun _ h9 => h9) rfl d_Md_attempt_289 ?_
                        refine lv_iload hx hb d_Md_attempt_292 (lv_at hl 3 rfl) ?_
                        refine g_iald hx hb hE hG 76 (by decide) (i) (rfl) (show _ < 32 by omega) (v := (tV (X.1 69) (X.1 60) (X.1 70) T k) i) (congrFun o76 _) d_Md_attempt_294 ?_
                        refine lv_ineg hx hb d_Md_attempt_295 ?_
                        refine lv_i2l (v := (-((tV (X.1 69) (X.1 60) (X.1 70) T k) i)).toInt64) hx hb d_Md_attempt_296 rfl ?_
                        refine lv_aload_n hx hb d_Md_attempt_297 rfl (lv_at hl 1 rfl) ?_
                        refine g_get (ci := 7) (v := .ref (g_ad V 75)) (C := R_Md) (T := F_Md) (N := 35) hx hb hts (fun w h => List.mem_cons_of_mem _ (in_Md w h)) hown hE hG 11 (by decide) rfl rfl 29 (by decide) (hts _ (List.mem_cons_of_mem _ kw_621)) (fun _ h9 => h9) rfl d_Md_attempt_298 ?_
                        refine lv_iload hx hb d_Md_attempt_301 (lv_at hl 3 rfl) ?_
                        refine g_iald hx hb hE hG 75 (by decide) (i) (rfl) (show _ < 32 by omega) (v := (tU (X.1 69) (X.1 60) (X.1 70) E k) i) (congrFun o75 _) d_Md_attempt_303 ?_
                        refine lv_i2l (v := ((tU (X.1 69) (X.1 60) (X.1 70) E k) i).toInt64) hx hb d_Md_attempt_304 rfl ?_
                        refine lv_aload_n hx hb d_Md_attempt_305 rfl (lv_at hl 1 rfl) ?_
                        refine g_get (ci := 7) (v := .ref (g_ad V 76)) (C := R_Md) (T := F_Md) (N := 35) hx hb hts (fun w h => List.mem_cons_of_mem _ (in_Md w h)) hown hE hG 11 (by decide) rfl rfl 30 (by decide) (hts _ (List.mem_cons_of_mem _ kw_622)) (fun _ h9 => h9) rfl d_Md_attempt_306 ?_
                        refine lv_iload hx hb d_Md_attempt_309 (lv_at hl 3 rfl) ?_
                        refine g_iald hx hb hE hG 76 (by decide) (i) (rfl) (show _ < 32 by omega) (v := (tV (X.1 69) (X.1 60) (X.1 70) T k) i) (congrFun o76 _) d_Md_attempt_311 ?_
                        refine lv_i2l (v := ((tV (X.1 69) (X.1 60) (X.1 70) T k) i).toInt64) hx hb d_Md_attempt_312 rfl ?_
                        refine lv_ladd hx hb d_Md_attempt_313 ?_
                        refine g_callpi (va_runS (As := [.long ((((tU (X.1 69) (X.1 60) (X.1 70) E k) i).toInt64) + (((tV (X.1 69) (X.1 60) (X.1 70) T k) i).toInt64))]) (rest := [.long ((-((tV (X.1 69) (X.1 60) (X.1 70) T k) i)).toInt64), .int (nI (i)), .ref (g_ad V 78)]) ⟨hx, hb, hml, hown, hts⟩ (c_m_mod l (((tU (X.1 69) (X.1 60) (X.1 70) E k) i).toInt64 + ((tV (X.1 69) (X.1 60) (X.1 70) T k) i).toInt64)) (va_cwS 1 hts (g_goodS kw_751 kw_749 kw_750 kw_8) rfl rfl rfl (by decide +kernel) ⟨Nat.le_of_ble_eq_true rfl, Nat.le_of_ble_eq_true rfl⟩) ⟨fun _ _ _ _ q => q, fun _ _ _ => rfl⟩ rfl rfl hl.1 rfl (lv_room (Nat.le_of_ble_eq_true rfl)) d_Md_attempt_314 ⟨Nat.le_refl 0, Nat.le_refl 0⟩) (fun r29 q8 => ?_)
                        refine g_topi (y := redP (((tU (X.1 69) (X.1 60) (X.1 70) E k) i).toInt64 + ((tV (X.1 69) (X.1 60) (X.1 70) T k) i).toInt64)) (q8) ?_
                        refine g_callpi (va_runS (As := [.long ((-((tV (X.1 69) (X.1 60) (X.1 70) T k) i)).toInt64), .int (redP (((tU (X.1 69) (X.1 60) (X.1 70) E k) i).toInt64 + ((tV (X.1 69) (X.1 60) (X.1 70) T k) i).toInt64))]) (rest := [.int (nI (i)), .ref (g_ad V 78)]) ⟨hx, hb, hml, hown, hts⟩ (c_m_hintOf l (-((tV (X.1 69) (X.1 60) (X.1 70) T k) i)).toInt64 (redP (((tU (X.1 69) (X.1 60) (X.1 70) E k) i).toInt64 + ((tV (X.1 69) (X.1 60) (X.1 70) T k) i).toInt64))) (va_cwS 2 hts (g_goodS kw_828 kw_826 kw_827 kw_8) rfl rfl rfl (by decide +kernel) ⟨Nat.le_of_ble_eq_true rfl, Nat.le_of_ble_eq_true rfl⟩) ⟨fun _ _ _ _ q => q, fun _ _ _ => rfl⟩ rfl rfl hl.1 rfl (lv_room (Nat.le_of_ble_eq_true rfl)) d_Md_attempt_317 ⟨Nat.le_refl 0, Nat.le_refl 0⟩) (fun r31 q9 => ?_)
                        refine g_topi (y := hnP (tU (X.1 69) (X.1 60) (X.1 70) E k) (tV (X.1 69) (X.1 60) (X.1 70) T k) i) (q9.trans (h_eq (uP_in _ _ _ _) (mpP_in _ _ _))) ?_
                        refine g_iast (x := hnP (tU (X.1 69) (X.1 60) (X.1 70) E k) (tV (X.1 69) (X.1 60) (X.1 70) T k) i) hx hb hE hG 78 (by decide) (i) (rfl) (show _ < 32 by omega) d_Md_attempt_320 (fun H locs hG => ?_)
                        refine lv_iload_n hx hb d_Md_attempt_321 rfl (lv_at hl 2 rfl) ?_
                        refine lv_aload_n hx hb d_Md_attempt_322 rfl (lv_at hl 1 rfl) ?_
                        refine g_get (ci := 7) (v := .ref (g_ad V 78)) (C := R_Md) (T := F_Md) (N := 35) hx hb hts (fun w h => List.mem_cons_of_mem _ (in_Md w h)) hown hE hG 11 (by decide) rfl rfl 32 (by decide) (hts _ (List.mem_cons_of_mem _ kw_624)) (fun _ h9 => h9) rfl d_Md_attempt_323 ?_
                        refine lv_iload hx hb d_Md_attempt_326 (lv_at hl 3 rfl) ?_
                        refine g_iald hx hb hE hG 78 (by decide) (i) (rfl) (show _ < 32 by omega) (v := hnP (tU (X.1 69) (X.1 60) (X.1 70) E k) (tV (X.1 69) (X.1 60) (X.1 70) T k) i) (by rw [uI_s]; exact pk_us) d_Md_attempt_328 ?_
                        refine lv_iadd hx hb d_Md_attempt_329 ?_
                        refine lv_istore_n (lv' := [(2, .int ((ctN (hnP (tU (X.1 69) (X.1 60) (X.1 70) E k) (tV (X.1 69) (X.1 60) (X.1 70) T k)) i) + (hnP (tU (X.1 69) (X.1 60) (X.1 70) E k) (tV (X.1 69) (X.1 60) (X.1 70) T k) i))), (3, .int (gdN (tU (X.1 69) (X.1 60) (X.1 70) E k) g0 (i + 1))), (0, .ref (g_ad V 11)), (4, .int (nI (i)))]) hx hb d_Md_attempt_330 rfl hl (by decide) rfl (fun ls hl => ?_)
                        refine lv_iinc (v := nI (i + 1)) (lv' := [(4, .int (nI (i + 1))), (2, .int ((ctN (hnP (tU (X.1 69) (X.1 60) (X.1 70) E k) (tV (X.1 69) (X.1 60) (X.1 70) T k)) i) + (hnP (tU (X.1 69) (X.1 60) (X.1 70) E k) (tV (X.1 69) (X.1 60) (X.1 70) T k) i))), (3, .int (gdN (tU (X.1 69) (X.1 60) (X.1 70) E k) g0 (i + 1))), (0, .ref (g_ad V 11))]) hx hb d_Md_attempt_331 hl (k := 3) rfl (g_inc _) (by decide) rfl (fun ls hl => ?_)
                        refine lv_goto (tgt := 233) hx hb d_Md_attempt_334 (by decide) ?_
                        exact ih233 (i + 1) (by omega) (uI X4 78 (upd (X4.1 78) i (hnP (tU (X.1 69) (X.1 60) (X.1 70) E k) (tV (X.1 69) (X.1 60) (X.1 70) T k) i))) _ _ ls (fr_i hF4 _ (by decide)) o3 ((uI_n _ _ (by decide)).trans o71) ((uI_n _ _ (by decide)).trans o74) ((uI_n _ _ (by decide)).trans o75) ((uI_n _ _ (by decide)).trans o76) (fun j hj => by rw [uI_n _ _ (show (79 : Nat) ≠ 78 by decide)]; exact o79 j hj) (by rw [uI_s, o78]; exact segI_s (hnP (tU (X.1 69) (X.1 60) (X.1 70) E k) (tV (X.1 69) (X.1 60) (X.1 70) T k)) _ _) hG (lv_sub hl [3, 1, 2, 0] rfl)
                      · refine lv_aload_n hx hb d_Md_attempt_260 rfl (lv_at hl 0 rfl) ?_
                        refine g_get (ci := 7) (v := .ref (g_ad V 75)) (C := R_Md) (T := F_Md) (N := 35) hx hb hts (fun w h => List.mem_cons_of_mem _ (in_Md w h)) hown hE hG 11 (by decide) rfl rfl 29 (by decide) (hts _ (List.mem_cons_of_mem _ kw_621)) (fun _ h9 => h9) rfl d_Md_attempt_261 ?_
                        refine lv_iload hx hb d_Md_attempt_264 (lv_at hl 3 rfl) ?_
                        refine g_iald hx hb hE hG 75 (by decide) (i) (rfl) (show _ < 32 by omega) (v := (tU (X.1 69) (X.1 60) (X.1 70) E k) i) (congrFun o75 _) d_Md_attempt_266 ?_
                        refine g_callpi (va_runS (As := [.int ((tU (X.1 69) (X.1 60) (X.1 70) E k) i)]) (rest := []) ⟨hx, hb, hml, hown, hts⟩ (c_m_lowOf l ((tU (X.1 69) (X.1 60) (X.1 70) E k) i)) (va_cwS 1 hts (g_goodS kw_825 kw_823 kw_824 kw_8) rfl rfl rfl (by decide +kernel) ⟨Nat.le_of_ble_eq_true rfl, Nat.le_of_ble_eq_true rfl⟩) ⟨fun _ _ _ _ q => q, fun _ _ _ => rfl⟩ rfl rfl hl.1 rfl (lv_room (Nat.le_of_ble_eq_true rfl)) d_Md_attempt_267 ⟨Nat.le_refl 0, Nat.le_refl 0⟩) (fun r33 q7 => ?_)
                        refine g_topi (y := loP ((tU (X.1 69) (X.1 60) (X.1 70) E k) i)) (q7) ?_
                        refine lv_sipush (v := -1015) hx hb d_Md_attempt_270 (by decide) ?_
                        refine lv_icmp_le (tgt := 280) hx hb d_Md_attempt_273 (by decide) (fun c273 => ?_) (fun c273 => ?_)
                        · refine lv_iconst (v := nI (0)) hx hb d_Md_attempt_280 (by decide) ?_
                          refine g_topi (y := gdN (tU (X.1 69) (X.1 60) (X.1 70) E k) g0 (i + 1)) (gdN_n (fun z => absurd z.2.2 (Int32.not_lt.mpr c273))) ?_
                          refine lv_istore_n (lv' := [(3, .int (gdN (tU (X.1 69) (X.1 60) (X.1 70) E k) g0 (i + 1))), (0, .ref (g_ad V 11)), (2, .int (ctN (hnP (tU (X.1 69) (X.1 60) (X.1 70) E k) (tV (X.1 69) (X.1 60) (X.1 70) T k)) i)), (4, .int (nI (i)))]) hx hb d_Md_attempt_281 rfl hl (by decide) rfl (fun ls hl => ?_)
                          refine lv_aload_n hx hb d_Md_attempt_282 rfl (lv_at hl 1 rfl) ?_
                          refine g_get (ci := 7) (v := .ref (g_ad V 78)) (C := R_Md) (T := F_Md) (N := 35) hx hb hts (fun w h => List.mem_cons_of_mem _ (in_Md w h)) hown hE hG 11 (by decide) rfl rfl 32 (by decide) (hts _ (List.mem_cons_of_mem _ kw_624)) (fun _ h9 => h9) rfl d_Md_attempt_283 ?_
                          refine lv_iload hx hb d_Md_attempt_286 (lv_at hl 3 rfl) ?_
                          refine lv_aload_n hx hb d_Md_attempt_288 rfl (lv_at hl 1 rfl) ?_
                          refine g_get (ci := 7) (v := .ref (g_ad V 76)) (C := R_Md) (T := F_Md) (N := 35) hx hb hts (fun w h => List.mem_cons_of_mem _ (in_Md w h)) hown hE hG 11 (by decide) rfl rfl 30 (by decide) (hts _ (List.mem_cons_of_mem _ kw_622)) (fun _ h9 => h9) rfl d_Md_attempt_289 ?_
                          refine lv_iload hx hb d_Md_attempt_292 (lv_at hl 3 rfl) ?_
                          refine g_iald hx hb hE hG 76 (by decide) (i) (rfl) (show _ < 32 by omega) (v := (tV (X.1 69) (X.1 60) (X.1 70) T k) i) (congrFun o76 _) d_Md_attempt_294 ?_
                          refine lv_ineg hx hb d_Md_attempt_295 ?_
                          refine lv_i2l (v := (-((tV (X.1 69) (X.1 60) (X.1 70) T k) i)).toInt64) hx hb d_Md_attempt_296 rfl ?_
                          refine lv_aload_n hx hb d_Md_attempt_297 rfl (lv_at hl 1 rfl) ?_
                          refine g_get (ci := 7) (v := .ref (g_ad V 75)) (C := R_Md) (T := F_Md) (N := 35) hx hb hts (fun w h => List.mem_cons_of_mem _ (in_Md w h)) hown hE hG 11 (by decide) rfl rfl 29 (by decide) (hts _ (List.mem_cons_of_mem _ kw_621)) (fun _ h9 => h9) rfl d_Md_attempt_298 ?_
                          refine lv_iload hx hb d_Md_attempt_301 (lv_at hl 3 rfl) ?_
                          refine g_iald hx hb hE hG 75 (by decide) (i) (rfl) (show _ < 32 by omega) (v := (tU (X.1 69) (X.1 60) (X.1 70) E k) i) (congrFun o75 _) d_Md_attempt_303 ?_
                          refine lv_i2l (v := ((tU (X.1 69) (X.1 60) (X.1 70) E k) i).toInt64) hx hb d_Md_attempt_304 rfl ?_
                          refine lv_aload_n hx hb d_Md_attempt_305 rfl (lv_at hl 1 rfl) ?_
                          refine g_get (ci := 7) (v := .ref (g_ad V 76)) (C := R_Md) (T := F_Md) (N := 35) hx hb hts (fun w h => List.mem_cons_of_mem _ (in_Md w h)) hown hE hG 11 (by decide) rfl rfl 30 (by decide) (hts _ (List.mem_cons_of_mem _ kw_622)) (fun _ h9 => h9) rfl d_Md_attempt_306 ?_
                          refine lv_iload hx hb d_Md_attempt_309 (lv_at hl 3 rfl) ?_
                          refine g_iald hx hb hE hG 76 (by decide) (i) (rfl) (show _ < 32 by omega) (v := (tV (X.1 69) (X.1 60) (X.1 70) T k) i) (congrFun o76 _) d_Md_attempt_311 ?_
                          refine lv_i2l (v := ((tV (X.1 69) (X.1 60) (X.1 70) T k) i).toInt64) hx hb d_Md_attempt_312 rfl ?_
                          refine lv_ladd hx hb d_Md_attempt_313 ?_
                          refine g_callpi (va_runS (As := [.long ((((tU (X.1 69) (X.1 60) (X.1 70) E k) i).toInt64) + (((tV (X.1 69) (X.1 60) (X.1 70) T k) i).toInt64))]) (rest := [.long ((-((tV (X.1 69) (X.1 60) (X.1 70) T k) i)).toInt64), .int (nI (i)), .ref (g_ad V 78)]) ⟨hx, hb, hml, hown, hts⟩ (c_m_mod l (((tU (X.1 69) (X.1 60) (X.1 70) E k) i).toInt64 + ((tV (X.1 69) (X.1 60) (X.1 70) T k) i).toInt64)) (va_cwS 1 hts (g_goodS kw_751 kw_749 kw_750 kw_8) rfl rfl rfl (by decide +kernel) ⟨Nat.le_of_ble_eq_true rfl, Nat.le_of_ble_eq_true rfl⟩) ⟨fun _ _ _ _ q => q, fun _ _ _ => rfl⟩ rfl rfl hl.1 rfl (lv_room (Nat.le_of_ble_eq_true rfl)) d_Md_attempt_314 ⟨Nat.le_refl 0, Nat.le_refl 0⟩) (fun r35 q8 => ?_)
                          refine g_topi (y := redP (((tU (X.1 69) (X.1 60) (X.1 70) E k) i).toInt64 + ((tV (X.1 69) (X.1 60) (X.1 70) T k) i).toInt64)) (q8) ?_
                          refine g_callpi (va_runS (As := [.long ((-((tV (X.1 69) (X.1 60) (X.1 70) T k) i)).toInt64), .int (redP (((tU (X.1 69) (X.1 60) (X.1 70) E k) i).toInt64 + ((tV (X.1 69) (X.1 60) (X.1 70) T k) i).toInt64))]) (rest := [.int (nI (i)), .ref (g_ad V 78)]) ⟨hx, hb, hml, hown, hts⟩ (c_m_hintOf l (-((tV (X.1 69) (X.1 60) (X.1 70) T k) i)).toInt64 (redP (((tU (X.1 69) (X.1 60) (X.1 70) E k) i).toInt64 + ((tV (X.1 69) (X.1 60) (X.1 70) T k) i).toInt64))) (va_cwS 2 hts (g_goodS kw_828 kw_826 kw_827 kw_8) rfl rfl rfl (by decide +kernel) ⟨Nat.le_of_ble_eq_true rfl, Nat.le_of_ble_eq_true rfl⟩) ⟨fun _ _ _ _ q => q, fun _ _ _ => rfl⟩ rfl rfl hl.1 rfl (lv_room (Nat.le_of_ble_eq_true rfl)) d_Md_attempt_317 ⟨Nat.le_refl 0, Nat.le_refl 0⟩) (fun r37 q9 => ?_)
                          refine g_topi (y := hnP (tU (X.1 69) (X.1 60) (X.1 70) E k) (tV (X.1 69) (X.1 60) (X.1 70) T k) i) (q9.trans (h_eq (uP_in _ _ _ _) (mpP_in _ _ _))) ?_
                          refine g_iast (x := hnP (tU (X.1 69) (X.1 60) (X.1 70) E k) (tV (X.1 69) (X.1 60) (X.1 70) T k) i) hx hb hE hG 78 (by decide) (i) (rfl) (show _ < 32 by omega) d_Md_attempt_320 (fun H locs hG => ?_)
                          refine lv_iload_n hx hb d_Md_attempt_321 rfl (lv_at hl 2 rfl) ?_
                          refine lv_aload_n hx hb d_Md_attempt_322 rfl (lv_at hl 1 rfl) ?_
                          refine g_get (ci := 7) (v := .ref (g_ad V 78)) (C := R_Md) (T := F_Md) (N := 35) hx hb hts (fun w h => List.mem_cons_of_mem _ (in_Md w h)) hown hE hG 11 (by decide) rfl rfl 32 (by decide) (hts _ (List.mem_cons_of_mem _ kw_624)) (fun _ h9 => h9) rfl d_Md_attempt_323 ?_
                          refine lv_iload hx hb d_Md_attempt_326 (lv_at hl 3 rfl) ?_
                          refine g_iald hx hb hE hG 78 (by decide) (i) (rfl) (show _ < 32 by omega) (v := hnP (tU (X.1 69) (X.1 60) (X.1 70) E k) (tV (X.1 69) (X.1 60) (X.1 70) T k) i) (by rw [uI_s]; exact pk_us) d_Md_attempt_328 ?_
                          refine lv_iadd hx hb d_Md_attempt_329 ?_
                          refine lv_istore_n (lv' := [(2, .int ((ctN (hnP (tU (X.1 69) (X.1 60) (X.1 70) E k) (tV (X.1 69) (X.1 60) (X.1 70) T k)) i) + (hnP (tU (X.1 69) (X.1 60) (X.1 70) E k) (tV (X.1 69) (X.1 60) (X.1 70) T k) i))), (3, .int (gdN (tU (X.1 69) (X.1 60) (X.1 70) E k) g0 (i + 1))), (0, .ref (g_ad V 11)), (4, .int (nI (i)))]) hx hb d_Md_attempt_330 rfl hl (by decide) rfl (fun ls hl => ?_)
                          refine lv_iinc (v := nI (i + 1)) (lv' := [(4, .int (nI (i + 1))), (2, .int ((ctN (hnP (tU (X.1 69) (X.1 60) (X.1 70) E k) (tV (X.1 69) (X.1 60) (X.1 70) T k)) i) + (hnP (tU (X.1 69) (X.1 60) (X.1 70) E k) (tV (X.1 69) (X.1 60) (X.1 70) T k) i))), (3, .int (gdN (tU (X.1 69) (X.1 60) (X.1 70) E k) g0 (i + 1))), (0, .ref (g_ad V 11))]) hx hb d_Md_attempt_331 hl (k := 3) rfl (g_inc _) (by decide) rfl (fun ls hl => ?_)
                          refine lv_goto (tgt := 233) hx hb d_Md_attempt_334 (by decide) ?_
                          exact ih233 (i + 1) (by omega) (uI X4 78 (upd (X4.1 78) i (hnP (tU (X.1 69) (X.1 60) (X.1 70) E k) (tV (X.1 69) (X.1 60) (X.1 70) T k) i))) _ _ ls (fr_i hF4 _ (by decide)) o3 ((uI_n _ _ (by decide)).trans o71) ((uI_n _ _ (by decide)).trans o74) ((uI_n _ _ (by decide)).trans o75) ((uI_n _ _ (by decide)).trans o76) (fun j hj => by rw [uI_n _ _ (show (79 : Nat) ≠ 78 by decide)]; exact o79 j hj) (by rw [uI_s, o78]; exact segI_s (hnP (tU (X.1 69) (X.1 60) (X.1 70) E k) (tV (X.1 69) (X.1 60) (X.1 70) T k)) _ _) hG (lv_sub hl [3, 1, 2, 0] rfl)
                        · refine lv_iconst (v := nI (1)) hx hb d_Md_attempt_276 (by decide) ?_
                          refine g_topi (y := gdN (tU (X.1 69) (X.1 60) (X.1 70) E k) g0 (i + 1)) (gdN_y ⟨c241, Int32.not_le.mp c257, Int32.not_le.mp c273⟩) ?_
                          refine lv_goto (tgt := 281) hx hb d_Md_attempt_277 (by decide) ?_
                          refine lv_istore_n (lv' := [(3, .int (gdN (tU (X.1 69) (X.1 60) (X.1 70) E k) g0 (i + 1))), (0, .ref (g_ad V 11)), (2, .int (ctN (hnP (tU (X.1 69) (X.1 60) (X.1 70) E k) (tV (X.1 69) (X.1 60) (X.1 70) T k)) i)), (4, .int (nI (i)))]) hx hb d_Md_attempt_281 rfl hl (by decide) rfl (fun ls hl => ?_)
                          refine lv_aload_n hx hb d_Md_attempt_282 rfl (lv_at hl 1 rfl) ?_
                          refine g_get (ci := 7) (v := .ref (g_ad V 78)) (C := R_Md) (T := F_Md) (N := 35) hx hb hts (fun w h => List.mem_cons_of_mem _ (in_Md w h)) hown hE hG 11 (by decide) rfl rfl 32 (by decide) (hts _ (List.mem_cons_of_mem _ kw_624)) (fun _ h9 => h9) rfl d_Md_attempt_283 ?_
                          refine lv_iload hx hb d_Md_attempt_286 (lv_at hl 3 rfl) ?_
                          refine lv_aload_n hx hb d_Md_attempt_288 rfl (lv_at hl 1 rfl) ?_
                          refine g_get (ci := 7) (v := .ref (g_ad V 76)) (C := R_Md) (T := F_Md) (N := 35) hx hb hts (fun w h => List.mem_cons_of_mem _ (in_Md w h)) hown hE hG 11 (by decide) rfl rfl 30 (by decide) (hts _ (List.mem_cons_of_mem _ kw_622)) (fun _ h9 => h9) rfl d_Md_attempt_289 ?_
                          refine lv_iload hx hb d_Md_attempt_292 (lv_at hl 3 rfl) ?_
                          refine g_iald hx hb hE hG 76 (by decide) (i) (rfl) (show _ < 32 by omega) (v := (tV (X.1 69) (X.1 60) (X.1 70) T k) i) (congrFun o76 _) d_Md_attempt_294 ?_
                          refine lv_ineg hx hb d_Md_attempt_295 ?_
                          refine lv_i2l (v := (-((tV (X.1 69) (X.1 60) (X.1 70) T k) i)).toInt64) hx hb d_Md_attempt_296 rfl ?_
                          refine lv_aload_n hx hb d_Md_attempt_297 rfl (lv_at hl 1 rfl) ?_
                          refine g_get (ci := 7) (v := .ref (g_ad V 75)) (C := R_Md) (T := F_Md) (N := 35) hx hb hts (fun w h => List.mem_cons_of_mem _ (in_Md w h)) hown hE hG 11 (by decide) rfl rfl 29 (by decide) (hts _ (List.mem_cons_of_mem _ kw_621)) (fun _ h9 => h9) rfl d_Md_attempt_298 ?_
                          refine lv_iload hx hb d_Md_attempt_301 (lv_at hl 3 rfl) ?_
                          refine g_iald hx hb hE hG 75 (by decide) (i) (rfl) (show _ < 32 by omega) (v := (tU (X.1 69) (X.1 60) (X.1 70) E k) i) (congrFun o75 _) d_Md_attempt_303 ?_
                          refine lv_i2l (v := ((tU (X.1 69) (X.1 60) (X.1 70) E k) i).toInt64) hx hb d_Md_attempt_304 rfl ?_
                          refine lv_aload_n hx hb d_Md_attempt_305 rfl (lv_at hl 1 rfl) ?_
                          refine g_get (ci := 7) (v := .ref (g_ad V 76)) (C := R_Md) (T := F_Md) (N := 35) hx hb hts (fun w h => List.mem_cons_of_mem _ (in_Md w h)) hown hE hG 11 (by decide) rfl rfl 30 (by decide) (hts _ (List.mem_cons_of_mem _ kw_622)) (fun _ h9 => h9) rfl d_Md_attempt_306 ?_
                          refine lv_iload hx hb d_Md_attempt_309 (lv_at hl 3 rfl) ?_
                          refine g_iald hx hb hE hG 76 (by decide) (i) (rfl) (show _ < 32 by omega) (v := (tV (X.1 69) (X.1 60) (X.1 70) T k) i) (congrFun o76 _) d_Md_attempt_311 ?_
                          refine lv_i2l (v := ((tV (X.1 69) (X.1 60) (X.1 70) T k) i).toInt64) hx hb d_Md_attempt_312 rfl ?_
                          refine lv_ladd hx hb d_Md_attempt_313 ?_
                          refine g_callpi (va_runS (As := [.long ((((tU (X.1 69) (X.1 60) (X.1 70) E k) i).toInt64) + (((tV (X.1 69) (X.1 60) (X.1 70) T k) i).toInt64))]) (rest := [.long ((-((tV (X.1 69) (X.1 60) (X.1 70) T k) i)).toInt64), .int (nI (i)), .ref (g_ad V 78)]) ⟨hx, hb, hml, hown, hts⟩ (c_m_mod l (((tU (X.1 69) (X.1 60) (X.1 70) E k) i).toInt64 + ((tV (X.1 69) (X.1 60) (X.1 70) T k) i).toInt64)) (va_cwS 1 hts (g_goodS kw_751 kw_749 kw_750 kw_8) rfl rfl rfl (by decide +kernel) ⟨Nat.le_of_ble_eq_true rfl, Nat.le_of_ble_eq_true rfl⟩) ⟨fun _ _ _ _ q => q, fun _ _ _ => rfl⟩ rfl rfl hl.1 rfl (lv_room (Nat.le_of_ble_eq_true rfl)) d_Md_attempt_314 ⟨Nat.le_refl 0, Nat.le_refl 0⟩) (fun r39 q8 => ?_)
                          refine g_topi (y := redP (((tU (X.1 69) (X.1 60) (X.1 70) E k) i).toInt64 + ((tV (X.1 69) (X.1 60) (X.1 70) T k) i).toInt64)) (q8) ?_
                          refine g_callpi (va_runS (As := [.long ((-((tV (X.1 69) (X.1 60) (X.1 70) T k) i)).toInt64), .int (redP (((tU (X.1 69) (X.1 60) (X.1 70) E k) i).toInt64 + ((tV (X.1 69) (X.1 60) (X.1 70) T k) i).toInt64))]) (rest := [.int (nI (i)), .ref (g_ad V 78)]) ⟨hx, hb, hml, hown, hts⟩ (c_m_hintOf l (-((tV (X.1 69) (X.1 60) (X.1 70) T k) i)).toInt64 (redP (((tU (X.1 69) (X.1 60) (X.1 70) E k) i).toInt64 + ((tV (X.1 69) (X.1 60) (X.1 70) T k) i).toInt64))) (va_cwS 2 hts (g_goodS kw_828 kw_826 kw_827 kw_8) rfl rfl rfl (by decide +kernel) ⟨Nat.le_of_ble_eq_true rfl, Nat.le_of_ble_eq_true rfl⟩) ⟨fun _ _ _ _ q => q, fun _ _ _ => rfl⟩ rfl rfl hl.1 rfl (lv_room (Nat.le_of_ble_eq_true rfl)) d_Md_attempt_317 ⟨Nat.le_refl 0, Nat.le_refl 0⟩) (fun r41 q9 => ?_)
                          refine g_topi (y := hnP (tU (X.1 69) (X.1 60) (X.1 70) E k) (tV (X.1 69) (X.1 60) (X.1 70) T k) i) (q9.trans (h_eq (uP_in _ _ _ _) (mpP_in _ _ _))) ?_
                          refine g_iast (x := hnP (tU (X.1 69) (X.1 60) (X.1 70) E k) (tV (X.1 69) (X.1 60) (X.1 70) T k) i) hx hb hE hG 78 (by decide) (i) (rfl) (show _ < 32 by omega) d_Md_attempt_320 (fun H locs hG => ?_)
                          refine lv_iload_n hx hb d_Md_attempt_321 rfl (lv_at hl 2 rfl) ?_
                          refine lv_aload_n hx hb d_Md_attempt_322 rfl (lv_at hl 1 rfl) ?_
                          refine g_get (ci := 7) (v := .ref (g_ad V 78)) (C := R_Md) (T := F_Md) (N := 35) hx hb hts (fun w h => List.mem_cons_of_mem _ (in_Md w h)) hown hE hG 11 (by decide) rfl rfl 32 (by decide) (hts _ (List.mem_cons_of_mem _ kw_624)) (fun _ h9 => h9) rfl d_Md_attempt_323 ?_
                          refine lv_iload hx hb d_Md_attempt_326 (lv_at hl 3 rfl) ?_
                          refine g_iald hx hb hE hG 78 (by decide) (i) (rfl) (show _ < 32 by omega) (v := hnP (tU (X.1 69) (X.1 60) (X.1 70) E k) (tV (X.1 69) (X.1 60) (X.1 70) T k) i) (by rw [uI_s]; exact pk_us) d_Md_attempt_328 ?_
                          refine lv_iadd hx hb d_Md_attempt_329 ?_
                          refine lv_istore_n (lv' := [(2, .int ((ctN (hnP (tU (X.1 69) (X.1 60) (X.1 70) E k) (tV (X.1 69) (X.1 60) (X.1 70) T k)) i) + (hnP (tU (X.1 69) (X.1 60) (X.1 70) E k) (tV (X.1 69) (X.1 60) (X.1 70) T k) i))), (3, .int (gdN (tU (X.1 69) (X.1 60) (X.1 70) E k) g0 (i + 1))), (0, .ref (g_ad V 11)), (4, .int (nI (i)))]) hx hb d_Md_attempt_330 rfl hl (by decide) rfl (fun ls hl => ?_)
                          refine lv_iinc (v := nI (i + 1)) (lv' := [(4, .int (nI (i + 1))), (2, .int ((ctN (hnP (tU (X.1 69) (X.1 60) (X.1 70) E k) (tV (X.1 69) (X.1 60) (X.1 70) T k)) i) + (hnP (tU (X.1 69) (X.1 60) (X.1 70) E k) (tV (X.1 69) (X.1 60) (X.1 70) T k) i))), (3, .int (gdN (tU (X.1 69) (X.1 60) (X.1 70) E k) g0 (i + 1))), (0, .ref (g_ad V 11))]) hx hb d_Md_attempt_331 hl (k := 3) rfl (g_inc _) (by decide) rfl (fun ls hl => ?_)
                          refine lv_goto (tgt := 233) hx hb d_Md_attempt_334 (by decide) ?_
                          exact ih233 (i + 1) (by omega) (uI X4 78 (upd (X4.1 78) i (hnP (tU (X.1 69) (X.1 60) (X.1 70) E k) (tV (X.1 69) (X.1 60) (X.1 70) T k) i))) _ _ ls (fr_i hF4 _ (by decide)) o3 ((uI_n _ _ (by decide)).trans o71) ((uI_n _ _ (by decide)).trans o74) ((uI_n _ _ (by decide)).trans o75) ((uI_n _ _ (by decide)).trans o76) (fun j hj => by rw [uI_n _ _ (show (79 : Nat) ≠ 78 by decide)]; exact o79 j hj) (by rw [uI_s, o78]; exact segI_s (hnP (tU (X.1 69) (X.1 60) (X.1 70) E k) (tV (X.1 69) (X.1 60) (X.1 70) T k)) _ _) hG (lv_sub hl [3, 1, 2, 0] rfl)
                exact K233 (32 - 0) 0 (by omega) Xw _ _ ls fw w3 w71 w74 w75 w76 w79 (segI_0 _ _).symm hG (lv_sub hl [1, 2, 3, 0] rfl)
              refine lv_aload_n hx hb d_Md_attempt_196 rfl (lv_at hl 1 rfl) ?_
              refine lv_aload_n hx hb d_Md_attempt_197 rfl (lv_at hl 1 rfl) ?_
              refine g_get (ci := 7) (v := .ref (g_ad V 74)) (C := R_Md) (T := F_Md) (N := 35) hx hb hts (fun w h => List.mem_cons_of_mem _ (in_Md w h)) hown hE hG 11 (by decide) rfl rfl 28 (by decide) (hts _ (List.mem_cons_of_mem _ kw_620)) (fun _ h9 => h9) rfl d_Md_attempt_198 ?_
              refine lv_sipush (v := nI (504)) hx hb d_Md_attempt_201 (by decide) ?_
              refine g_calli (va_runV (As := [.ref (g_ad V 74), .int (nI (504))]) (rest := []) ⟨hx, hb, hml, hown, hts⟩ (c_m_wider l V Xx 74 (by decide) rfl 504) (cwV 2 hts (g_goodV kw_818 kw_815 kw_817 kp_36 kw_8) rfl rfl rfl (by decide +kernel) ⟨Nat.le_of_ble_eq_true rfl, Nat.le_of_ble_eq_true rfl⟩) (g_preV (k0 := 11) (ci := 7) hE hG (by decide) rfl rfl) rfl rfl hl.1 rfl (lv_room (Nat.le_of_ble_eq_true rfl)) d_Md_attempt_204 ⟨Nat.le_refl 0, Nat.le_refl 0⟩) hG (fun r44 X42 H locs r1 hG => ?_)
              obtain ⟨r1, rfl⟩ := r1
              refine g_topi (y := wrP (tZ (X.1 69) (X.1 60) (X.1 70) S k) (nI 504) 32) (by rw [r1, x74]) ?_
              refine lv_if_ne (tgt := 228) hx hb d_Md_attempt_207 (by decide) (fun c207 => ?_) (fun c207 => ?_)
              · refine lv_iconst (v := nI (0)) hx hb d_Md_attempt_228 (by decide) ?_
                refine lv_istore_n (lv' := [(3, .int (nI (0))), (2, .int (nI (0))), (0, .ref (g_ad V 11)), (1, .int (nI (k)))]) hx hb d_Md_attempt_229 rfl hl (by decide) rfl (fun ls hl => ?_)
                exact K230 (nI 0) Xx _ _ ls (⟨fun z => absurd rfl z, fun z => absurd (ez.mp z.1) c207⟩) fx x3 x71 x74 x75 x76 x79 hG (lv_sub hl [2, 1, 0] rfl)
              · refine lv_aload_n hx hb d_Md_attempt_210 rfl (lv_at hl 1 rfl) ?_
                refine lv_aload_n hx hb d_Md_attempt_211 rfl (lv_at hl 1 rfl) ?_
                refine g_get (ci := 7) (v := .ref (g_ad V 76)) (C := R_Md) (T := F_Md) (N := 35) hx hb hts (fun w h => List.mem_cons_of_mem _ (in_Md w h)) hown hE hG 11 (by decide) rfl rfl 30 (by decide) (hts _ (List.mem_cons_of_mem _ kw_622)) (fun _ h9 => h9) rfl d_Md_attempt_212 ?_
                refine lv_sipush (v := nI (1023)) hx hb d_Md_attempt_215 (by decide) ?_
                refine g_calli (va_runV (As := [.ref (g_ad V 76), .int (nI (1023))]) (rest := []) ⟨hx, hb, hml, hown, hts⟩ (c_m_wider l V Xx 76 (by decide) rfl 1023) (cwV 2 hts (g_goodV kw_818 kw_815 kw_817 kp_36 kw_8) rfl rfl rfl (by decide +kernel) ⟨Nat.le_of_ble_eq_true rfl, Nat.le_of_ble_eq_true rfl⟩) (g_preV (k0 := 11) (ci := 7) hE hG (by decide) rfl rfl) rfl rfl hl.1 rfl (lv_room (Nat.le_of_ble_eq_true rfl)) d_Md_attempt_218 ⟨Nat.le_refl 0, Nat.le_refl 0⟩) hG (fun r47 X45 H locs r2 hG => ?_)
                obtain ⟨r2, rfl⟩ := r2
                refine g_topi (y := wrP (tV (X.1 69) (X.1 60) (X.1 70) T k) (nI 1023) 32) (by rw [r2, x76]) ?_
                refine lv_if_ne (tgt := 228) hx hb d_Md_attempt_221 (by decide) (fun c221 => ?_) (fun c221 => ?_)
                · refine lv_iconst (v := nI (0)) hx hb d_Md_attempt_228 (by decide) ?_
                  refine lv_istore_n (lv' := [(3, .int (nI (0))), (2, .int (nI (0))), (0, .ref (g_ad V 11)), (1, .int (nI (k)))]) hx hb d_Md_attempt_229 rfl hl (by decide) rfl (fun ls hl => ?_)
                  exact K230 (nI 0) Xx _ _ ls (⟨fun z => absurd rfl z, fun z => absurd (ev.mp z.2) c221⟩) fx x3 x71 x74 x75 x76 x79 hG (lv_sub hl [2, 1, 0] rfl)
                · refine lv_iconst (v := nI (1)) hx hb d_Md_attempt_224 (by decide) ?_
                  refine lv_goto (tgt := 229) hx hb d_Md_attempt_225 (by decide) ?_
                  refine lv_istore_n (lv' := [(3, .int (nI (1))), (2, .int (nI (0))), (0, .ref (g_ad V 11)), (1, .int (nI (k)))]) hx hb d_Md_attempt_229 rfl hl (by decide) rfl (fun ls hl => ?_)
                  exact K230 (nI 1) Xx _ _ ls (⟨fun _ => ⟨ez.mpr c207, ev.mpr c221⟩, fun _ => by decide⟩) fx x3 x71 x74 x75 x76 x79 hG (lv_sub hl [2, 1, 0] rfl)
            | succ fu ih158 =>
              intro i hin158 X3 H locs ls hF3 l3 l71 l74 l75 l77 l79 l76 hG hl
              have hi158 : i < 32 := by omega
              refine lv_iload_n hx hb d_Md_attempt_158 rfl (lv_at hl 2 rfl) ?_
              refine lv_bipush (v := nI (32)) hx hb d_Md_attempt_159 (by decide) ?_
              refine lv_icmp_ge (tgt := 177) hx hb d_Md_attempt_161 (by decide) (fun q => absurd ((g_ge (x := i) (y := 32) (by omega) (by omega)).mp q) (by omega)) (fun _ => ?_)
              refine lv_aload_n hx hb d_Md_attempt_164 rfl (lv_at hl 0 rfl) ?_
              refine g_get (ci := 7) (v := .ref (g_ad V 76)) (C := R_Md) (T := F_Md) (N := 35) hx hb hts (fun w h => List.mem_cons_of_mem _ (in_Md w h)) hown hE hG 11 (by decide) rfl rfl 30 (by decide) (hts _ (List.mem_cons_of_mem _ kw_622)) (fun _ h9 => h9) rfl d_Md_attempt_165 ?_
              refine lv_iload_n hx hb d_Md_attempt_168 rfl (lv_at hl 2 rfl) ?_
              refine lv_iconst (v := nI (0)) hx hb d_Md_attempt_169 (by decide) ?_
              refine g_iast (x := nI (0)) hx hb hE hG 76 (by decide) (i) (rfl) (show _ < 32 by omega) d_Md_attempt_170 (fun H locs hG => ?_)
              refine lv_iinc (v := nI (i + 1)) (lv' := [(2, .int (nI (i + 1))), (0, .ref (g_ad V 11)), (1, .int (nI (k)))]) hx hb d_Md_attempt_171 hl (k := 2) rfl (g_inc _) (by decide) rfl (fun ls hl => ?_)
              refine lv_goto (tgt := 158) hx hb d_Md_attempt_174 (by decide) ?_
              exact ih158 (i + 1) (by omega) (uI X3 76 (upd (X3.1 76) i (nI (0)))) _ _ ls (fr_i hF3 _ (by decide)) l3 ((uI_n _ _ (by decide)).trans l71) ((uI_n _ _ (by decide)).trans l74) ((uI_n _ _ (by decide)).trans l75) ((uI_n _ _ (by decide)).trans l77) (fun j hj => by rw [uI_n _ _ (show (79 : Nat) ≠ 76 by decide)]; exact l79 j hj) (by rw [uI_s, l76]; exact segI_s (fun _ => nI 0) _ _) hG (lv_sub hl [1, 2, 0] rfl)
          exact K158 (32 - 0) 0 (by omega) Xv _ _ ls fv v3 v71 v74 v75 v77 v79 (segI_0 _ _).symm hG (lv_sub hl [1, 2, 0] rfl)
        | succ fu ih63 =>
          intro i hin63 X2 H locs ls hF2 i3 i72 i73 i79 hG hl
          have hi63 : i < 32 := by omega
          refine lv_iload_n hx hb d_Md_attempt_63 rfl (lv_at hl 2 rfl) ?_
          refine lv_bipush (v := nI (32)) hx hb d_Md_attempt_64 (by decide) ?_
          refine lv_icmp_ge (tgt := 99) hx hb d_Md_attempt_66 (by decide) (fun q => absurd ((g_ge (x := i) (y := 32) (by omega) (by omega)).mp q) (by omega)) (fun _ => ?_)
          refine lv_aload_n hx hb d_Md_attempt_69 rfl (lv_at hl 0 rfl) ?_
          refine lv_aload_n hx hb d_Md_attempt_70 rfl (lv_at hl 0 rfl) ?_
          refine g_get (ci := 7) (v := .ref (g_ad V 79)) (C := R_Md) (T := F_Md) (N := 35) hx hb hts (fun w h => List.mem_cons_of_mem _ (in_Md w h)) hown hE hG 11 (by decide) rfl rfl 33 (by decide) (hts _ (List.mem_cons_of_mem _ kw_625)) (fun _ h9 => h9) rfl d_Md_attempt_71 ?_
          refine lv_iconst (v := nI (0)) hx hb d_Md_attempt_74 (by decide) ?_
          refine lv_bipush (v := nI (12)) hx hb d_Md_attempt_75 (by decide) ?_
          refine lv_iload_n hx hb d_Md_attempt_77 rfl (lv_at hl 2 rfl) ?_
          refine lv_imul hx hb d_Md_attempt_78 ?_
          refine g_topi (y := nI (12 * i)) (pk_mul _ _) ?_
          refine lv_bipush (v := nI (12)) hx hb d_Md_attempt_79 (by decide) ?_
          refine lv_aload_n hx hb d_Md_attempt_81 rfl (lv_at hl 0 rfl) ?_
          refine g_get (ci := 7) (v := .ref (g_ad V 73)) (C := R_Md) (T := F_Md) (N := 35) hx hb hts (fun w h => List.mem_cons_of_mem _ (in_Md w h)) hown hE hG 11 (by decide) rfl rfl 27 (by decide) (hts _ (List.mem_cons_of_mem _ kw_619)) (fun _ h9 => h9) rfl d_Md_attempt_82 ?_
          refine lv_iload_n hx hb d_Md_attempt_85 rfl (lv_at hl 2 rfl) ?_
          refine g_iald hx hb hE hG 73 (by decide) (i) (rfl) (show _ < 32 by omega) (v := (tW (X.1 60) (X.1 70) k) i) (congrFun i73 _) d_Md_attempt_86 ?_
          refine g_callpi (va_runS (As := [.int ((tW (X.1 60) (X.1 70) k) i)]) (rest := [.int (nI (12)), .int (nI (12 * i)), .int (nI (0)), .ref (g_ad V 79), .ref (g_ad V 11)]) ⟨hx, hb, hml, hown, hts⟩ (c_m_highOf l ((tW (X.1 60) (X.1 70) k) i)) (va_cwS 1 hts (g_goodS kw_798 kw_796 kw_797 kw_8) rfl rfl rfl (by decide +kernel) ⟨Nat.le_of_ble_eq_true rfl, Nat.le_of_ble_eq_true rfl⟩) ⟨fun _ _ _ _ q => q, fun _ _ _ => rfl⟩ rfl rfl hl.1 rfl (lv_room (Nat.le_of_ble_eq_true rfl)) d_Md_attempt_87 ⟨Nat.le_refl 0, Nat.le_refl 0⟩) (fun r49 q1 => ?_)
          refine g_topi (y := hiP ((tW (X.1 60) (X.1 70) k) i)) (q1) ?_
          refine g_callv (va_runV (As := [.ref (g_ad V 79), .int (nI (0)), .int (nI (12 * i)), .int (nI (12)), .int (hiP ((tW (X.1 60) (X.1 70) k) i))]) (rest := []) ⟨hx, hb, hml, hown, hts⟩ (c_m_pack l V X2 79 (by decide) 0 (12 * i) 12 (hiP ((tW (X.1 60) (X.1 70) k) i)) (by decide) (by show 8 * 0 + 12 * i + 12 ≤ 8 * 60; omega)) (cwV 5 hts (g_goodV kw_771 kw_768 kw_770 kp_29 kw_8) rfl rfl rfl (by decide +kernel) ⟨Nat.le_of_ble_eq_true rfl, Nat.le_of_ble_eq_true rfl⟩) (g_preV (k0 := 11) (ci := 7) hE hG (by decide) rfl rfl) rfl rfl hl.1 rfl (lv_room (Nat.le_of_ble_eq_true rfl)) d_Md_attempt_90 ⟨Nat.le_refl 0, Nat.le_refl 0⟩) hG (fun Xp H locs qp hG => ?_)
          refine lv_iinc (v := nI (i + 1)) (lv' := [(2, .int (nI (i + 1))), (0, .ref (g_ad V 11)), (1, .int (nI (k)))]) hx hb d_Md_attempt_93 hl (k := 2) rfl (g_inc _) (by decide) rfl (fun ls hl => ?_)
          refine lv_goto (tgt := 63) hx hb d_Md_attempt_96 (by decide) ?_
          exact ih63 (i + 1) (by omega) Xp _ _ ls (fr_tr2 hF2 qp.2 (by decide) (by decide) (by decide)) ((qp.2.2.2 3 (fun q => by cases q)).trans i3) ((qp.2.1 72 (by decide)).trans i72) ((qp.2.1 73 (by decide)).trans i73) (by rw [qp.1, i79, Nat.mul_comm 12 i]; rfl) hG (lv_sub hl [1, 2, 0] rfl)
      exact K63 (32 - 0) 0 (by omega) XJ _ _ ls fj j3 j72 j73 j79 hG (lv_sub hl [1, 2, 0] rfl)
    | succ fu ih2 =>
      intro i hin2 X1 H locs ls hF h3 h79 h72 hG hl
      have hi2 : i < 2 := by omega
      refine lv_iload_n hx hb d_Md_attempt_2 rfl (lv_at hl 2 rfl) ?_
      refine lv_iconst (v := nI (2)) hx hb d_Md_attempt_3 (by decide) ?_
      refine lv_icmp_ge (tgt := 45) hx hb d_Md_attempt_4 (by decide) (fun q => absurd ((g_ge (x := i) (y := 2) (by omega) (by omega)).mp q) (by omega)) (fun _ => ?_)
      refine lv_aload_n hx hb d_Md_attempt_7 rfl (lv_at hl 0 rfl) ?_
      refine lv_aload_n hx hb d_Md_attempt_8 rfl (lv_at hl 0 rfl) ?_
      refine g_get (ci := 7) (v := .ref (g_ad V 70)) (C := R_Md) (T := F_Md) (N := 35) hx hb hts (fun w h => List.mem_cons_of_mem _ (in_Md w h)) hown hE hG 11 (by decide) rfl rfl 24 (by decide) (hts _ (List.mem_cons_of_mem _ kw_616)) (fun _ h9 => h9) rfl d_Md_attempt_9 ?_
      refine lv_iconst (v := nI (0)) hx hb d_Md_attempt_12 (by decide) ?_
      refine lv_bipush (v := nI (16)) hx hb d_Md_attempt_13 (by decide) ?_
      refine g_callv (va_runV (As := [.ref (g_ad V 70), .int (nI (0)), .int (nI (16))]) (rest := []) ⟨hx, hb, hml, hown, hts⟩ (c_m_feedAll l V X1 70 (by decide) (by decide) 0 16 (by decide) (ctB (X.1 70) 16 (nI (2 * k + i))) 0 (by decide) h3 (fun j hj => absurd hj (Nat.not_lt_zero j)) (fun j hj => by rw [hF.1 70 (by decide), Nat.zero_add]; exact (ctB_lo _ _ hj).symm)) (cwV 3 hts (g_goodV kw_738 kw_735 kw_737 kp_23 kw_8) rfl rfl rfl (by decide +kernel) ⟨Nat.le_of_ble_eq_true rfl, Nat.le_of_ble_eq_true rfl⟩) (g_preV (k0 := 11) (ci := 7) hE hG (by decide) rfl rfl) rfl rfl hl.1 rfl (lv_room (Nat.le_of_ble_eq_true rfl)) d_Md_attempt_15 ⟨Nat.le_refl 0, Nat.le_refl 0⟩) hG (fun Xg H locs qg hG => ?_)
      refine lv_aload_n hx hb d_Md_attempt_18 rfl (lv_at hl 0 rfl) ?_
      refine lv_iconst (v := nI (2)) hx hb d_Md_attempt_19 (by decide) ?_
      refine lv_iload_n hx hb d_Md_attempt_20 rfl (lv_at hl 1 rfl) ?_
      refine lv_imul hx hb d_Md_attempt_21 ?_
      refine g_topi (y := nI (2 * k)) (pk_mul _ _) ?_
      refine lv_iload_n hx hb d_Md_attempt_22 rfl (lv_at hl 2 rfl) ?_
      refine lv_iadd hx hb d_Md_attempt_23 ?_
      refine g_topi (y := nI ((2 * k) + i)) (nI_add _ _) ?_
      refine g_topi (y := ctB (X.1 70) 16 (nI (2 * k + i)) (0 + 16)) ((ctB_hi _ _ _).symm) ?_
      refine g_callv (va_runV (As := [.int (ctB (X.1 70) 16 (nI (2 * k + i)) (0 + 16))]) (rest := []) ⟨hx, hb, hml, hown, hts⟩ (c_m_feed l V Xg (ctB (X.1 70) 16 (nI (2 * k + i))) (0 + 16) (by decide) qg.1 qg.2.1) (cwV 1 hts (g_goodV kw_710 kw_707 kw_709 kp_17 kw_8) rfl rfl rfl (by decide +kernel) ⟨Nat.le_of_ble_eq_true rfl, Nat.le_of_ble_eq_true rfl⟩) (g_preV (k0 := 11) (ci := 7) hE hG (by decide) rfl rfl) rfl rfl hl.1 rfl (lv_room (Nat.le_of_ble_eq_true rfl)) d_Md_attempt_24 ⟨Nat.le_refl 0, Nat.le_refl 0⟩) hG (fun Xh H locs qh hG => ?_)
      have fh : fr X Xh [54, 55, 71, 72, 73, 74, 75, 76, 77, 78, 79] [13, 14, 15, 16] [3] := (fr_tr2 (fr_tr2 hF qg.2.2 (by decide) (by decide) (by decide)) qh.2.2 (by decide) (by decide) (by decide))
      refine lv_aload_n hx hb d_Md_attempt_27 rfl (lv_at hl 0 rfl) ?_
      refine lv_aload_n hx hb d_Md_attempt_28 rfl (lv_at hl 0 rfl) ?_
      refine g_get (ci := 7) (v := .ref (g_ad V 72)) (C := R_Md) (T := F_Md) (N := 35) hx hb hts (fun w h => List.mem_cons_of_mem _ (in_Md w h)) hown hE hG 11 (by decide) rfl rfl 26 (by decide) (hts _ (List.mem_cons_of_mem _ kw_618)) (fun _ h9 => h9) rfl d_Md_attempt_29 ?_
      refine lv_bipush (v := nI (16)) hx hb d_Md_attempt_32 (by decide) ?_
      refine lv_iload_n hx hb d_Md_attempt_34 rfl (lv_at hl 2 rfl) ?_
      refine lv_imul hx hb d_Md_attempt_35 ?_
      refine g_topi (y := nI (16 * i)) (pk_mul _ _) ?_
      refine g_callv (va_runV (As := [.ref (g_ad V 72), .int (nI (16 * i))]) (rest := []) ⟨hx, hb, hml, hown, hts⟩ (c_m_wide l V Xh 72 (by decide) (by decide) (16 * i) (by show 16 * i + 16 ≤ 32; omega) (ctB (X.1 70) 16 (nI (2 * k + i))) (0 + 16 + 1) (by decide) qh.1 qh.2.1 ((fh.1 53 (by decide)).trans hTu) ((fh.2.1 12 (by decide)).trans hEx)) (cwV 2 hts (g_goodV kw_791 kw_788 kw_790 kp_31 kw_8) rfl rfl rfl (by decide +kernel) ⟨Nat.le_of_ble_eq_true rfl, Nat.le_of_ble_eq_true rfl⟩) (g_preV (k0 := 11) (ci := 7) hE hG (by decide) rfl rfl) rfl rfl hl.1 rfl (lv_room (Nat.le_of_ble_eq_true rfl)) d_Md_attempt_36 ⟨Nat.le_refl 0, Nat.le_refl 0⟩) hG (fun Xi H locs qi hG => ?_)
      refine lv_iinc (v := nI (i + 1)) (lv' := [(2, .int (nI (i + 1))), (0, .ref (g_ad V 11)), (1, .int (nI (k)))]) hx hb d_Md_attempt_39 hl (k := 2) rfl (g_inc _) (by decide) rfl (fun ls hl => ?_)
      refine lv_goto (tgt := 2) hx hb d_Md_attempt_42 (by decide) ?_
      exact ih2 (i + 1) (by omega) Xi _ _ ls (fr_tr2 fh qi.2.2.2 (by decide) (by decide) (by decide)) qi.2.2.1 (by rw [qi.2.2.2.1 79 (by decide), qh.2.2.1 79 (by decide), qg.2.2.1 79 (by decide), h79]) (by rw [qi.1, qh.2.2.1 72 (by decide), qg.2.2.1 72 (by decide), h72, show 16 * (i + 1) = 16 * i + 16 by omega]; exact seg_segI (fun j hj => rdF_at _ _ (widP_at (X.1 70) (2 * k) i hj))) hG (lv_sub hl [1, 2, 0] rfl)
  exact K2 (2 - 0) 0 (by omega) X _ _ ls (fr_rf X _ _ _) hT rfl (segI_0 _ _).symm hG (lv_sub hl [1, 2, 0] rfl)
