set_option maxHeartbeats 4000000 in
set_option maxRecDepth 100000 in
theorem c_M_key (l : Launch) (V : Ev) (X : Mm) (x : Int64) (hT : X.2.2 3 = nI 0) (hTu : X.1 53 = rotT) (hEx : X.2.1 12 = rcT) (hB : ∀ j, j < 68 → isB (X.1 67 j)) : Met l y_Md_key (Cond.code y_Md_key b_Md_key 5 none :: WA) ({ frames := 5, cells := 0, slots := 0, locals := 116 } : Room) (g_Pc V X [.ref (g_ad V 11), .long (x)]) (g_Qv V (fun X1 : Mm => X1.1 67 = kP x ∧ X1.1 58 = kK x ∧ X1.1 59 = kR x ∧ X1.1 60 = kA x ∧ X1.1 62 = rdF (kS x) ∧ X1.1 63 = rdF (kE x) ∧ X1.1 64 = rdF (kT x) ∧ X1.2.2 4 = nI 1 ∧ X1.2.2 3 = nI 0 ∧ fr X X1 [54, 55, 56, 57, 58, 59, 60, 62, 63, 64, 67, 73] [13, 14, 15, 16] [3, 4])) 0 0 (g_A V) := by
  refine g_met (by decide) (Nat.le_of_ble_eq_true rfl) ?_
  intro p e s m below meth c hx hb hr hml hown hts hlocks hE hG ls hl
  have hl : lv_has ls 5 [(0, .ref (g_ad V 11)), (1, .long (x))] := hl
  have hown : s.vm.findClass R_Md = some m.cls := hown
  refine lv_aload_n hx hb d_Md_key_0 rfl (lv_at hl 0 rfl) ?_
  refine lv_lload_n hx hb d_Md_key_1 rfl (lv_at hl 1 rfl) ?_
  refine g_callv (va_runV (As := [.long (x)]) (rest := []) ⟨hx, hb, hml, hown, hts⟩ (c_m_feedLong l V X x (lgB x) 0 (by decide) hT (fun j hj => absurd hj (Nat.not_lt_zero j)) (fun j hj => by rw [Nat.zero_add])) (cwV 1 hts (g_goodV kw_705 kw_702 kw_704 kp_16 kw_8) rfl rfl rfl (by decide +kernel) ⟨Nat.le_of_ble_eq_true rfl, Nat.le_of_ble_eq_true rfl⟩) (g_preV (k0 := 11) (ci := 7) hE hG (by decide) rfl rfl) rfl rfl hl.1 rfl (lv_room (Nat.le_of_ble_eq_true rfl)) d_Md_key_2 ⟨Nat.le_refl 0, Nat.le_refl 0⟩) hG (fun Xa H locs qa hG => ?_)
  have fa : fr X Xa [54, 55, 56, 57, 58, 59, 60, 62, 63, 64, 67, 73] [13, 14, 15, 16] [3, 4] := (fr_mono qa.2.2 (a' := [54, 55, 56, 57, 58, 59, 60, 62, 63, 64, 67, 73]) (b' := [13, 14, 15, 16]) (c' := [3, 4]) (by decide) (by decide) (by decide))
  refine lv_aload_n hx hb d_Md_key_5 rfl (lv_at hl 0 rfl) ?_
  refine g_callv (va_runV (As := []) (rest := []) ⟨hx, hb, hml, hown, hts⟩ (c_m_stream l V Xa (lgB x) (0 + 8) (by decide) qa.1 qa.2.1 ((fa.1 53 (by decide)).trans hTu) ((fa.2.1 12 (by decide)).trans hEx)) (cwV 0 hts (g_goodV kw_714 kw_711 kw_713 kp_18 kw_8) rfl rfl rfl (by decide +kernel) ⟨Nat.le_of_ble_eq_true rfl, Nat.le_of_ble_eq_true rfl⟩) (g_preV (k0 := 11) (ci := 7) hE hG (by decide) rfl rfl) rfl rfl hl.1 rfl (lv_room (Nat.le_of_ble_eq_true rfl)) d_Md_key_6 ⟨Nat.le_refl 0, Nat.le_refl 0⟩) hG (fun Xb H locs qb hG => ?_)
  have fb : fr X Xb [54, 55, 56, 57, 58, 59, 60, 62, 63, 64, 67, 73] [13, 14, 15, 16] [3, 4] := (fr_tr2 fa qb.2.2 (by decide) (by decide) (by decide))
  have eb : Xb.1 55 = kst x := qb.1
  refine lv_aload_n hx hb d_Md_key_9 rfl (lv_at hl 0 rfl) ?_
  refine lv_aload_n hx hb d_Md_key_10 rfl (lv_at hl 0 rfl) ?_
  refine g_get (ci := 7) (v := .ref (g_ad V 56)) (C := R_Md) (T := F_Md) (N := 35) hx hb hts (fun w h => List.mem_cons_of_mem _ (in_Md w h)) hown hE hG 11 (by decide) rfl rfl 9 (by decide) (hts _ (List.mem_cons_of_mem _ kw_601)) (fun _ h9 => h9) rfl d_Md_key_11 ?_
  refine lv_iconst (v := nI (0)) hx hb d_Md_key_14 (by decide) ?_
  refine lv_bipush (v := nI (8)) hx hb d_Md_key_15 (by decide) ?_
  refine g_callv (va_runV (As := [.ref (g_ad V 56), .int (nI (0)), .int (nI (8))]) (rest := []) ⟨hx, hb, hml, hown, hts⟩ (c_m_takeC l V Xb 56 (by decide) (by decide) 0 8 rfl (by decide)) (cwV 3 hts (g_goodV kw_730 kw_727 kw_729 kp_21 kw_8) rfl rfl rfl (by decide +kernel) ⟨Nat.le_of_ble_eq_true rfl, Nat.le_of_ble_eq_true rfl⟩) (g_preV (k0 := 11) (ci := 7) hE hG (by decide) rfl rfl) rfl rfl hl.1 rfl (lv_room (Nat.le_of_ble_eq_true rfl)) d_Md_key_17 ⟨Nat.le_refl 0, Nat.le_refl 0⟩) hG (fun Xc H locs qc hG => ?_)
  have fc : fr X Xc [54, 55, 56, 57, 58, 59, 60, 62, 63, 64, 67, 73] [13, 14, 15, 16] [3, 4] := (fr_tr2 fb qc.2 (by decide) (by decide) (by decide))
  refine lv_aload_n hx hb d_Md_key_20 rfl (lv_at hl 0 rfl) ?_
  refine lv_aload_n hx hb d_Md_key_21 rfl (lv_at hl 0 rfl) ?_
  refine g_get (ci := 7) (v := .ref (g_ad V 57)) (C := R_Md) (T := F_Md) (N := 35) hx hb hts (fun w h => List.mem_cons_of_mem _ (in_Md w h)) hown hE hG 11 (by decide) rfl rfl 10 (by decide) (hts _ (List.mem_cons_of_mem _ kw_602)) (fun _ h9 => h9) rfl d_Md_key_22 ?_
  refine lv_bipush (v := nI (8)) hx hb d_Md_key_25 (by decide) ?_
  refine lv_bipush (v := nI (8)) hx hb d_Md_key_27 (by decide) ?_
  refine g_callv (va_runV (As := [.ref (g_ad V 57), .int (nI (8)), .int (nI (8))]) (rest := []) ⟨hx, hb, hml, hown, hts⟩ (c_m_takeC l V Xc 57 (by decide) (by decide) 8 8 rfl (by decide)) (cwV 3 hts (g_goodV kw_730 kw_727 kw_729 kp_21 kw_8) rfl rfl rfl (by decide +kernel) ⟨Nat.le_of_ble_eq_true rfl, Nat.le_of_ble_eq_true rfl⟩) (g_preV (k0 := 11) (ci := 7) hE hG (by decide) rfl rfl) rfl rfl hl.1 rfl (lv_room (Nat.le_of_ble_eq_true rfl)) d_Md_key_29 ⟨Nat.le_refl 0, Nat.le_refl 0⟩) hG (fun Xd H locs qd hG => ?_)
  have fd : fr X Xd [54, 55, 56, 57, 58, 59, 60, 62, 63, 64, 67, 73] [13, 14, 15, 16] [3, 4] := (fr_tr2 fc qd.2 (by decide) (by decide) (by decide))
  refine lv_aload_n hx hb d_Md_key_32 rfl (lv_at hl 0 rfl) ?_
  refine lv_aload_n hx hb d_Md_key_33 rfl (lv_at hl 0 rfl) ?_
  refine g_get (ci := 7) (v := .ref (g_ad V 58)) (C := R_Md) (T := F_Md) (N := 35) hx hb hts (fun w h => List.mem_cons_of_mem _ (in_Md w h)) hown hE hG 11 (by decide) rfl rfl 11 (by decide) (hts _ (List.mem_cons_of_mem _ kw_603)) (fun _ h9 => h9) rfl d_Md_key_34 ?_
  refine lv_bipush (v := nI (16)) hx hb d_Md_key_37 (by decide) ?_
  refine lv_bipush (v := nI (8)) hx hb d_Md_key_39 (by decide) ?_
  refine g_callv (va_runV (As := [.ref (g_ad V 58), .int (nI (16)), .int (nI (8))]) (rest := []) ⟨hx, hb, hml, hown, hts⟩ (c_m_takeC l V Xd 58 (by decide) (by decide) 16 8 rfl (by decide)) (cwV 3 hts (g_goodV kw_730 kw_727 kw_729 kp_21 kw_8) rfl rfl rfl (by decide +kernel) ⟨Nat.le_of_ble_eq_true rfl, Nat.le_of_ble_eq_true rfl⟩) (g_preV (k0 := 11) (ci := 7) hE hG (by decide) rfl rfl) rfl rfl hl.1 rfl (lv_room (Nat.le_of_ble_eq_true rfl)) d_Md_key_41 ⟨Nat.le_refl 0, Nat.le_refl 0⟩) hG (fun Xe H locs qe hG => ?_)
  have fe : fr X Xe [54, 55, 56, 57, 58, 59, 60, 62, 63, 64, 67, 73] [13, 14, 15, 16] [3, 4] := (fr_tr2 fd qe.2 (by decide) (by decide) (by decide))
  have e56 : Xe.1 56 = kst x := by rw [qe.2.1 56 (by decide), qd.2.1 56 (by decide), qc.1, eb, shI_0]
  have e57 : Xe.1 57 = (shI (kst x) 8) := by rw [qe.2.1 57 (by decide), qd.1, qc.2.1 55 (by decide), eb]
  have e58 : Xe.1 58 = kK x := by rw [qe.1, qd.2.1 55 (by decide), qc.2.1 55 (by decide), eb]; rfl
  have e3 : Xe.2.2 3 = nI 0 := by rw [qe.2.2.2 3 (fun q => by cases q), qd.2.2.2 3 (fun q => by cases q), qc.2.2.2 3 (fun q => by cases q), qb.2.1]
  refine lv_aload_n hx hb d_Md_key_44 rfl (lv_at hl 0 rfl) ?_
  refine lv_aload_n hx hb d_Md_key_45 rfl (lv_at hl 0 rfl) ?_
  refine g_get (ci := 7) (v := .ref (g_ad V 56)) (C := R_Md) (T := F_Md) (N := 35) hx hb hts (fun w h => List.mem_cons_of_mem _ (in_Md w h)) hown hE hG 11 (by decide) rfl rfl 9 (by decide) (hts _ (List.mem_cons_of_mem _ kw_601)) (fun _ h9 => h9) rfl d_Md_key_46 ?_
  refine lv_aload_n hx hb d_Md_key_49 rfl (lv_at hl 0 rfl) ?_
  refine g_get (ci := 7) (v := .ref (g_ad V 60)) (C := R_Md) (T := F_Md) (N := 35) hx hb hts (fun w h => List.mem_cons_of_mem _ (in_Md w h)) hown hE hG 11 (by decide) rfl rfl 13 (by decide) (hts _ (List.mem_cons_of_mem _ kw_605)) (fun _ h9 => h9) rfl d_Md_key_50 ?_
  refine g_callv (va_runV (As := [.ref (g_ad V 56), .ref (g_ad V 60)]) (rest := []) ⟨hx, hb, hml, hown, hts⟩ (c_m_expand_56 l V Xe e3 ((fe.1 53 (by decide)).trans hTu) ((fe.2.1 12 (by decide)).trans hEx)) (cwV 2 hts (g_goodV kw_734 kw_731 kw_733 kp_22 kw_8) rfl rfl rfl (by decide +kernel) ⟨Nat.le_of_ble_eq_true rfl, Nat.le_of_ble_eq_true rfl⟩) (g_preV (k0 := 11) (ci := 7) hE hG (by decide) rfl rfl) rfl rfl hl.1 rfl (lv_room (Nat.le_of_ble_eq_true rfl)) d_Md_key_53 ⟨Nat.le_refl 0, Nat.le_refl 0⟩) hG (fun Xf H locs qf hG => ?_)
  have ff : fr X Xf [54, 55, 56, 57, 58, 59, 60, 62, 63, 64, 67, 73] [13, 14, 15, 16] [3, 4] := (fr_tr2 fe qf.2.2 (by decide) (by decide) (by decide))
  have f60 : Xf.1 60 = kA x := by rw [qf.1, e56]; rfl
  refine lv_iconst (v := nI (0)) hx hb d_Md_key_56 (by decide) ?_
  refine lv_istore_n (lv' := [(3, .int (nI (0))), (0, .ref (g_ad V 11)), (1, .long (x))]) hx hb d_Md_key_57 rfl hl (by decide) rfl (fun ls hl => ?_)
  have K58 : ∀ (fu i : Nat), i + fu = 4 → ∀ (X1 : Mm) (H : Heap) (locs : List Loc), ∀ (ls : Array Slot), (fr X X1 [54, 55, 56, 57, 58, 59, 60, 62, 63, 64, 67, 73] [13, 14, 15, 16] [3, 4]) → (X1.1 56 = kst x) → (X1.1 57 = (shI (kst x) 8)) → (X1.1 58 = kK x) → (X1.1 60 = kA x) → (X1.1 67 = X.1 67) → (X1.2.2 3 = nI 0) → (X1.1 62 = segI (rdF (kS x)) (X.1 62) (16 * min i 2)) → (X1.1 63 = segI (rdF (kE x)) (X.1 63) (16 * (i - 2))) → g_st V X1 s.heap H locs → lv_has ls 5 [(0, .ref (g_ad V 11)), (3, .int (nI (i)))] → W p l e ({ frames := 5, cells := 0, slots := 0, locals := 116 } : Room) s m ([.ref (g_ad V 11), .long (x)] : List Value).toArray below meth c H locs 0 0 (MQ below (g_Qv V (fun X1 : Mm => X1.1 67 = kP x ∧ X1.1 58 = kK x ∧ X1.1 59 = kR x ∧ X1.1 60 = kA x ∧ X1.1 62 = rdF (kS x) ∧ X1.1 63 = rdF (kE x) ∧ X1.1 64 = rdF (kT x) ∧ X1.2.2 4 = nI 1 ∧ X1.2.2 3 = nI 0 ∧ fr X X1 [54, 55, 56, 57, 58, 59, 60, 62, 63, 64, 67, 73] [13, 14, 15, 16] [3, 4])) ([.ref (g_ad V 11), .long (x)] : List Value).toArray s 0 0 (g_A V)) (F0 m 58 ls []) := by
    intro fu
    induction fu with
    | zero =>
      intro i hin58 X1 H locs ls hF h56 h57 h58 h60 h67 h3 h62 h63 hG hl
      have hi58 : 4 = i := by omega
      subst hi58
      refine lv_iload_n hx hb d_Md_key_58 rfl (lv_at hl 1 rfl) ?_
      refine lv_iconst (v := nI (4)) hx hb d_Md_key_59 (by decide) ?_
      refine lv_icmp_ge (tgt := 120) hx hb d_Md_key_60 (by decide) (fun _ => ?_) (fun q => absurd ((g_geN (x := 4) (y := 4) (by omega) (by omega)).mp q) (by omega))
      obtain ⟨XZ, eXZ⟩ : ∃ z, z = uI (uI X1 62 (rdF (kS x))) 63 (rdF (kE x)) := ⟨_, rfl⟩
      have hG := g_xi hG 62 (by decide) (rdF (kS x)) (fun j hj => by rw [h62]; exact segI_e _ _ hj)
      have hG := g_xi hG 63 (by decide) (rdF (kE x)) (fun j hj => by rw [uI_n _ _ (show (63 : Nat) ≠ 62 by decide), h63]; exact segI_e _ _ hj)
      rw [← eXZ] at hG
      have fz : fr X XZ [54, 55, 56, 57, 58, 59, 60, 62, 63, 64, 67, 73] [13, 14, 15, 16] [3, 4] := by rw [eXZ]; exact fr_i (fr_i hF _ (by decide)) _ (by decide)
      have z56 : XZ.1 56 = kst x := by rw [eXZ]; exact h56
      have z58 : XZ.1 58 = kK x := by rw [eXZ]; exact h58
      have z60 : XZ.1 60 = kA x := by rw [eXZ]; exact h60
      have z67 : XZ.1 67 = X.1 67 := by rw [eXZ]; exact h67
      have z62 : XZ.1 62 = rdF (kS x) := by rw [eXZ]; rfl
      have z63 : XZ.1 63 = rdF (kE x) := by rw [eXZ]; rfl
      have z3 : XZ.2.2 3 = nI 0 := by rw [eXZ]; exact h3
      have hG := hG
      refine lv_aload_n hx hb d_Md_key_120 rfl (lv_at hl 0 rfl) ?_
      refine lv_aload_n hx hb d_Md_key_121 rfl (lv_at hl 0 rfl) ?_
      refine g_get (ci := 7) (v := .ref (g_ad V 60)) (C := R_Md) (T := F_Md) (N := 35) hx hb hts (fun w h => List.mem_cons_of_mem _ (in_Md w h)) hown hE hG 11 (by decide) rfl rfl 13 (by decide) (hts _ (List.mem_cons_of_mem _ kw_605)) (fun _ h9 => h9) rfl d_Md_key_122 ?_
      refine lv_aload_n hx hb d_Md_key_125 rfl (lv_at hl 0 rfl) ?_
      refine g_get (ci := 7) (v := .ref (g_ad V 62)) (C := R_Md) (T := F_Md) (N := 35) hx hb hts (fun w h => List.mem_cons_of_mem _ (in_Md w h)) hown hE hG 11 (by decide) rfl rfl 15 (by decide) (hts _ (List.mem_cons_of_mem _ kw_607)) (fun _ h9 => h9) rfl d_Md_key_126 ?_
      refine lv_aload_n hx hb d_Md_key_129 rfl (lv_at hl 0 rfl) ?_
      refine g_get (ci := 7) (v := .ref (g_ad V 73)) (C := R_Md) (T := F_Md) (N := 35) hx hb hts (fun w h => List.mem_cons_of_mem _ (in_Md w h)) hown hE hG 11 (by decide) rfl rfl 27 (by decide) (hts _ (List.mem_cons_of_mem _ kw_619)) (fun _ h9 => h9) rfl d_Md_key_130 ?_
      refine g_callv (va_runV (As := [.ref (g_ad V 60), .ref (g_ad V 62), .ref (g_ad V 73)]) (rest := []) ⟨hx, hb, hml, hown, hts⟩ (c_m_apply l V XZ 60 (by decide) rfl 62 (by decide) rfl 73 (by decide) rfl (by decide) (by decide)) (cwV 3 hts (g_goodV kw_756 kw_753 kw_755 kp_26 kw_8) rfl rfl rfl (by decide +kernel) ⟨Nat.le_of_ble_eq_true rfl, Nat.le_of_ble_eq_true rfl⟩) (g_preV (k0 := 11) (ci := 7) hE hG (by decide) rfl rfl) rfl rfl hl.1 rfl (lv_room (Nat.le_of_ble_eq_true rfl)) d_Md_key_133 ⟨Nat.le_refl 0, Nat.le_refl 0⟩) hG (fun Xj H locs qj hG => ?_)
      have fj : fr X Xj [54, 55, 56, 57, 58, 59, 60, 62, 63, 64, 67, 73] [13, 14, 15, 16] [3, 4] := (fr_tr2 fz qj.2 (by decide) (by decide) (by decide))
      have j73 : Xj.1 73 = maP (kA x) (rdF (kS x)) := by rw [qj.1, z60, z62]
      have j56 : Xj.1 56 = kst x := (qj.2.1 56 (by decide)).trans z56
      have j58 : Xj.1 58 = kK x := (qj.2.1 58 (by decide)).trans z58
      have j60 : Xj.1 60 = kA x := (qj.2.1 60 (by decide)).trans z60
      have j62 : Xj.1 62 = rdF (kS x) := (qj.2.1 62 (by decide)).trans z62
      have j63 : Xj.1 63 = rdF (kE x) := (qj.2.1 63 (by decide)).trans z63
      have j3 : Xj.2.2 3 = nI 0 := (qj.2.2.2 3 (fun q => by cases q)).trans z3
      have j67 : Xj.1 67 = X.1 67 := (qj.2.1 67 (by decide)).trans z67
      refine lv_iconst (v := nI (0)) hx hb d_Md_key_136 (by decide) ?_
      refine lv_istore_n (lv' := [(3, .int (nI (0))), (0, .ref (g_ad V 11))]) hx hb d_Md_key_137 rfl hl (by decide) rfl (fun ls hl => ?_)
      have K138 : ∀ (fu i : Nat), i + fu = 8 → ∀ (X2 : Mm) (H : Heap) (locs : List Loc), ∀ (ls : Array Slot), (fr X X2 [54, 55, 56, 57, 58, 59, 60, 62, 63, 64, 67, 73] [13, 14, 15, 16] [3, 4]) → (X2.1 73 = maP (kA x) (rdF (kS x))) → (X2.1 56 = kst x) → (X2.1 58 = kK x) → (X2.1 60 = kA x) → (X2.1 62 = rdF (kS x)) → (X2.1 63 = rdF (kE x)) → (X2.2.2 3 = nI 0) → (X2.1 67 = segI (kst x) (X.1 67) i) → g_st V X2 s.heap H locs → lv_has ls 5 [(0, .ref (g_ad V 11)), (3, .int (nI (i)))] → W p l e ({ frames := 5, cells := 0, slots := 0, locals := 116 } : Room) s m ([.ref (g_ad V 11), .long (x)] : List Value).toArray below meth c H locs 0 0 (MQ below (g_Qv V (fun X1 : Mm => X1.1 67 = kP x ∧ X1.1 58 = kK x ∧ X1.1 59 = kR x ∧ X1.1 60 = kA x ∧ X1.1 62 = rdF (kS x) ∧ X1.1 63 = rdF (kE x) ∧ X1.1 64 = rdF (kT x) ∧ X1.2.2 4 = nI 1 ∧ X1.2.2 3 = nI 0 ∧ fr X X1 [54, 55, 56, 57, 58, 59, 60, 62, 63, 64, 67, 73] [13, 14, 15, 16] [3, 4])) ([.ref (g_ad V 11), .long (x)] : List Value).toArray s 0 0 (g_A V)) (F0 m 138 ls []) := by
        intro fu
        induction fu with
        | zero =>
          intro i hin138 X2 H locs ls hF2 k73 k56 k58 k60 k62 k63 k3 k67 hG hl
          have hi138 : 8 = i := by omega
          subst hi138
          refine lv_iload_n hx hb d_Md_key_138 rfl (lv_at hl 1 rfl) ?_
          refine lv_bipush (v := nI (8)) hx hb d_Md_key_139 (by decide) ?_
          refine lv_icmp_ge (tgt := 162) hx hb d_Md_key_141 (by decide) (fun _ => ?_) (fun q => absurd ((g_geN (x := 8) (y := 8) (by omega) (by omega)).mp q) (by omega))
          refine lv_iconst (v := nI (0)) hx hb d_Md_key_162 (by decide) ?_
          refine lv_istore_n (lv' := [(3, .int (nI (0))), (0, .ref (g_ad V 11))]) hx hb d_Md_key_163 rfl hl (by decide) rfl (fun ls hl => ?_)
          have K164 : ∀ (fu i : Nat), i + fu = 32 → ∀ (X3 : Mm) (H : Heap) (locs : List Loc), ∀ (ls : Array Slot), (fr X X3 [54, 55, 56, 57, 58, 59, 60, 62, 63, 64, 67, 73] [13, 14, 15, 16] [3, 4]) → (X3.1 73 = maP (kA x) (rdF (kS x))) → (X3.1 58 = kK x) → (X3.1 60 = kA x) → (X3.1 62 = rdF (kS x)) → (X3.1 63 = rdF (kE x)) → (X3.2.2 3 = nI 0) → (X3.1 64 = segI (rdF (kT x)) (X2.1 64) i) → (X3.1 67 = pkN (segI (kst x) (X.1 67) 8) (upP (kA x) (kS x) (kE x)) 8 15 i) → g_st V X3 s.heap H locs → lv_has ls 5 [(0, .ref (g_ad V 11)), (3, .int (nI (i)))] → W p l e ({ frames := 5, cells := 0, slots := 0, locals := 116 } : Room) s m ([.ref (g_ad V 11), .long (x)] : List Value).toArray below meth c H locs 0 0 (MQ below (g_Qv V (fun X1 : Mm => X1.1 67 = kP x ∧ X1.1 58 = kK x ∧ X1.1 59 = kR x ∧ X1.1 60 = kA x ∧ X1.1 62 = rdF (kS x) ∧ X1.1 63 = rdF (kE x) ∧ X1.1 64 = rdF (kT x) ∧ X1.2.2 4 = nI 1 ∧ X1.2.2 3 = nI 0 ∧ fr X X1 [54, 55, 56, 57, 58, 59, 60, 62, 63, 64, 67, 73] [13, 14, 15, 16] [3, 4])) ([.ref (g_ad V 11), .long (x)] : List Value).toArray s 0 0 (g_A V)) (F0 m 164 ls []) := by
            intro fu
            induction fu with
            | zero =>
              intro i hin164 X3 H locs ls hF3 n73 n58 n60 n62 n63 n3 n64 n67 hG hl
              have hi164 : 32 = i := by omega
              subst hi164
              refine lv_iload_n hx hb d_Md_key_164 rfl (lv_at hl 1 rfl) ?_
              refine lv_bipush (v := nI (32)) hx hb d_Md_key_165 (by decide) ?_
              refine lv_icmp_ge (tgt := 239) hx hb d_Md_key_167 (by decide) (fun _ => ?_) (fun q => absurd ((g_geN (x := 32) (y := 32) (by omega) (by omega)).mp q) (by omega))
              have hG := g_xi hG 64 (by decide) (rdF (kT x)) (fun j hj => by rw [n64]; exact segI_e _ _ hj)
              have hG := g_xi hG 67 (by decide) (kP x) (fun j hj => by rw [uI_n _ _ (show (67 : Nat) ≠ 64 by decide), n67]; exact pub_eq hB hj)
              refine lv_aload_n hx hb d_Md_key_239 rfl (lv_at hl 0 rfl) ?_
              refine lv_aload_n hx hb d_Md_key_240 rfl (lv_at hl 0 rfl) ?_
              refine g_get (ci := 7) (v := .ref (g_ad V 67)) (C := R_Md) (T := F_Md) (N := 35) hx hb hts (fun w h => List.mem_cons_of_mem _ (in_Md w h)) hown hE hG 11 (by decide) rfl rfl 21 (by decide) (hts _ (List.mem_cons_of_mem _ kw_613)) (fun _ h9 => h9) rfl d_Md_key_241 ?_
              refine lv_iconst (v := nI (0)) hx hb d_Md_key_244 (by decide) ?_
              refine lv_bipush (v := nI (68)) hx hb d_Md_key_245 (by decide) ?_
              refine g_callv (va_runV (As := [.ref (g_ad V 67), .int (nI (0)), .int (nI (68))]) (rest := []) ⟨hx, hb, hml, hown, hts⟩ (c_m_feedAll l V (uI (uI X3 64 (rdF (kT x))) 67 (kP x)) 67 (by decide) (by decide) 0 68 (by decide) (kP x) 0 (by decide) n3 (fun j hj => absurd hj (Nat.not_lt_zero j)) (fun j hj => by rw [Nat.zero_add]; exact congrFun (uI_s _ _ _) j)) (cwV 3 hts (g_goodV kw_738 kw_735 kw_737 kp_23 kw_8) rfl rfl rfl (by decide +kernel) ⟨Nat.le_of_ble_eq_true rfl, Nat.le_of_ble_eq_true rfl⟩) (g_preV (k0 := 11) (ci := 7) hE hG (by decide) rfl rfl) rfl rfl hl.1 rfl (lv_room (Nat.le_of_ble_eq_true rfl)) d_Md_key_247 ⟨Nat.le_refl 0, Nat.le_refl 0⟩) hG (fun Xq H locs qq hG => ?_)
              have fq : fr X Xq [54, 55, 56, 57, 58, 59, 60, 62, 63, 64, 67, 73] [13, 14, 15, 16] [3, 4] := (fr_tr2 (fr_i (fr_i hF3 _ (by decide)) _ (by decide)) qq.2.2 (by decide) (by decide) (by decide))
              refine lv_aload_n hx hb d_Md_key_250 rfl (lv_at hl 0 rfl) ?_
              refine g_callv (va_runV (As := []) (rest := []) ⟨hx, hb, hml, hown, hts⟩ (c_m_stream l V Xq (kP x) (0 + 68) (by decide) qq.1 qq.2.1 ((fq.1 53 (by decide)).trans hTu) ((fq.2.1 12 (by decide)).trans hEx)) (cwV 0 hts (g_goodV kw_714 kw_711 kw_713 kp_18 kw_8) rfl rfl rfl (by decide +kernel) ⟨Nat.le_of_ble_eq_true rfl, Nat.le_of_ble_eq_true rfl⟩) (g_preV (k0 := 11) (ci := 7) hE hG (by decide) rfl rfl) rfl rfl hl.1 rfl (lv_room (Nat.le_of_ble_eq_true rfl)) d_Md_key_251 ⟨Nat.le_refl 0, Nat.le_refl 0⟩) hG (fun Xr H locs qr hG => ?_)
              have fr_ : fr X Xr [54, 55, 56, 57, 58, 59, 60, 62, 63, 64, 67, 73] [13, 14, 15, 16] [3, 4] := (fr_tr2 fq qr.2.2 (by decide) (by decide) (by decide))
              refine lv_aload_n hx hb d_Md_key_254 rfl (lv_at hl 0 rfl) ?_
              refine lv_aload_n hx hb d_Md_key_255 rfl (lv_at hl 0 rfl) ?_
              refine g_get (ci := 7) (v := .ref (g_ad V 59)) (C := R_Md) (T := F_Md) (N := 35) hx hb hts (fun w h => List.mem_cons_of_mem _ (in_Md w h)) hown hE hG 11 (by decide) rfl rfl 12 (by decide) (hts _ (List.mem_cons_of_mem _ kw_604)) (fun _ h9 => h9) rfl d_Md_key_256 ?_
              refine lv_iconst (v := nI (0)) hx hb d_Md_key_259 (by decide) ?_
              refine lv_bipush (v := nI (8)) hx hb d_Md_key_260 (by decide) ?_
              refine g_callv (va_runV (As := [.ref (g_ad V 59), .int (nI (0)), .int (nI (8))]) (rest := []) ⟨hx, hb, hml, hown, hts⟩ (c_m_takeC l V Xr 59 (by decide) (by decide) 0 8 rfl (by decide)) (cwV 3 hts (g_goodV kw_730 kw_727 kw_729 kp_21 kw_8) rfl rfl rfl (by decide +kernel) ⟨Nat.le_of_ble_eq_true rfl, Nat.le_of_ble_eq_true rfl⟩) (g_preV (k0 := 11) (ci := 7) hE hG (by decide) rfl rfl) rfl rfl hl.1 rfl (lv_room (Nat.le_of_ble_eq_true rfl)) d_Md_key_262 ⟨Nat.le_refl 0, Nat.le_refl 0⟩) hG (fun Xs H locs qs hG => ?_)
              refine lv_aload_n hx hb d_Md_key_265 rfl (lv_at hl 0 rfl) ?_
              refine lv_iconst (v := nI (1)) hx hb d_Md_key_266 (by decide) ?_
              refine g_put (ci := 7) (v := nI (1)) (ty := .boolean) (C := R_Md) (T := F_Md) (N := 35) hx hb hts (fun w h => List.mem_cons_of_mem _ (in_Md w h)) t_Md t_Md_ok n_Md hown hE hG 4 (by decide) rfl rfl 8 (by decide) (hts _ (List.mem_cons_of_mem _ kw_600)) (fun _ h9 => h9) rfl (by decide +kernel) (rfl) rfl (Nat.le_of_ble_eq_true rfl) rfl d_Md_key_267 (fun H locs hG => ?_)
              exact g_vret hx hb hr hlocks hE hG (⟨(show Xs.1 67 = kP x by rw [qs.2.1 67 (by decide), qr.2.2.1 67 (by decide), qq.2.2.1 67 (by decide)]; rfl), (show Xs.1 58 = kK x by rw [qs.2.1 58 (by decide), qr.2.2.1 58 (by decide), qq.2.2.1 58 (by decide)]; exact n58), (show Xs.1 59 = kR x by rw [qs.1, qr.1, shI_0]; rfl), (show Xs.1 60 = kA x by rw [qs.2.1 60 (by decide), qr.2.2.1 60 (by decide), qq.2.2.1 60 (by decide)]; exact n60), (show Xs.1 62 = rdF (kS x) by rw [qs.2.1 62 (by decide), qr.2.2.1 62 (by decide), qq.2.2.1 62 (by decide)]; exact n62), (show Xs.1 63 = rdF (kE x) by rw [qs.2.1 63 (by decide), qr.2.2.1 63 (by decide), qq.2.2.1 63 (by decide)]; exact n63), (show Xs.1 64 = rdF (kT x) by rw [qs.2.1 64 (by decide), qr.2.2.1 64 (by decide), qq.2.2.1 64 (by decide)]; rfl), uF_s _ _ _, (qs.2.2.2 3 (fun q => by cases q)).trans qr.2.1, fr_f (fr_tr2 fr_ qs.2 (by decide) (by decide) (by decide)) _ (by decide)⟩) d_Md_key_270
            | succ fu ih164 =>
              intro i hin164 X3 H locs ls hF3 n73 n58 n60 n62 n63 n3 n64 n67 hG hl
              have hi164 : i < 32 := by omega
              refine lv_iload_n hx hb d_Md_key_164 rfl (lv_at hl 1 rfl) ?_
              refine lv_bipush (v := nI (32)) hx hb d_Md_key_165 (by decide) ?_
              refine lv_icmp_ge (tgt := 239) hx hb d_Md_key_167 (by decide) (fun q => absurd ((g_ge (x := i) (y := 32) (by omega) (by omega)).mp q) (by omega)) (fun _ => ?_)
              refine lv_aload_n hx hb d_Md_key_170 rfl (lv_at hl 0 rfl) ?_
              refine g_get (ci := 7) (v := .ref (g_ad V 73)) (C := R_Md) (T := F_Md) (N := 35) hx hb hts (fun w h => List.mem_cons_of_mem _ (in_Md w h)) hown hE hG 11 (by decide) rfl rfl 27 (by decide) (hts _ (List.mem_cons_of_mem _ kw_619)) (fun _ h9 => h9) rfl d_Md_key_171 ?_
              refine lv_iload_n hx hb d_Md_key_174 rfl (lv_at hl 1 rfl) ?_
              refine g_iald hx hb hE hG 73 (by decide) (i) (rfl) (show _ < 32 by omega) (v := mmP (kA x) (kS x) i) ((congrFun n73 i).trans (ma_mm (matP_in _) (smlP_in _ _) (by omega))) d_Md_key_175 ?_
              refine lv_i2l (v := (mmP (kA x) (kS x) i).toInt64) hx hb d_Md_key_176 rfl ?_
              refine lv_aload_n hx hb d_Md_key_177 rfl (lv_at hl 0 rfl) ?_
              refine g_get (ci := 7) (v := .ref (g_ad V 63)) (C := R_Md) (T := F_Md) (N := 35) hx hb hts (fun w h => List.mem_cons_of_mem _ (in_Md w h)) hown hE hG 11 (by decide) rfl rfl 16 (by decide) (hts _ (List.mem_cons_of_mem _ kw_608)) (fun _ h9 => h9) rfl d_Md_key_178 ?_
              refine lv_iload_n hx hb d_Md_key_181 rfl (lv_at hl 1 rfl) ?_
              refine g_iald hx hb hE hG 63 (by decide) (i) (rfl) (show _ < 32 by omega) (v := rdF (kE x) i) (congrFun n63 _) d_Md_key_182 ?_
              refine lv_i2l (v := (rdF (kE x) i).toInt64) hx hb d_Md_key_183 rfl ?_
              refine lv_ladd hx hb d_Md_key_184 ?_
              refine g_callpi (va_runS (As := [.long (((mmP (kA x) (kS x) i).toInt64) + ((rdF (kE x) i).toInt64))]) (rest := []) ⟨hx, hb, hml, hown, hts⟩ (c_m_mod l ((mmP (kA x) (kS x) i).toInt64 + (rdF (kE x) i).toInt64)) (va_cwS 1 hts (g_goodS kw_751 kw_749 kw_750 kw_8) rfl rfl rfl (by decide +kernel) ⟨Nat.le_of_ble_eq_true rfl, Nat.le_of_ble_eq_true rfl⟩) ⟨fun _ _ _ _ q => q, fun _ _ _ => rfl⟩ rfl rfl hl.1 rfl (lv_room (Nat.le_of_ble_eq_true rfl)) d_Md_key_185 ⟨Nat.le_refl 0, Nat.le_refl 0⟩) (fun r32 qt => ?_)
              refine g_topi (y := tvP (kA x) (kS x) (kE x) i) (qt.trans (tv_eq (smlP_in _ _) (by omega))) ?_
              refine lv_istore (lv' := [(4, .int (tvP (kA x) (kS x) (kE x) i)), (0, .ref (g_ad V 11)), (3, .int (nI (i)))]) hx hb d_Md_key_188 hl (by decide) rfl (fun ls hl => ?_)
              refine lv_aload_n hx hb d_Md_key_190 rfl (lv_at hl 1 rfl) ?_
              refine g_get (ci := 7) (v := .ref (g_ad V 64)) (C := R_Md) (T := F_Md) (N := 35) hx hb hts (fun w h => List.mem_cons_of_mem _ (in_Md w h)) hown hE hG 11 (by decide) rfl rfl 17 (by decide) (hts _ (List.mem_cons_of_mem _ kw_609)) (fun _ h9 => h9) rfl d_Md_key_191 ?_
              refine lv_iload_n hx hb d_Md_key_194 rfl (lv_at hl 2 rfl) ?_
              refine lv_iload hx hb d_Md_key_195 (lv_at hl 0 rfl) ?_
              refine g_callpi (va_runS (As := [.int (tvP (kA x) (kS x) (kE x) i)]) (rest := [.int (nI (i)), .ref (g_ad V 64)]) ⟨hx, hb, hml, hown, hts⟩ (c_m_bottom l (tvP (kA x) (kS x) (kE x) i)) (va_cwS 1 hts (g_goodS kw_767 kw_765 kw_766 kw_8) rfl rfl rfl (by decide +kernel) ⟨Nat.le_of_ble_eq_true rfl, Nat.le_of_ble_eq_true rfl⟩) ⟨fun _ _ _ _ q => q, fun _ _ _ => rfl⟩ rfl rfl hl.1 rfl (lv_room (Nat.le_of_ble_eq_true rfl)) d_Md_key_197 ⟨Nat.le_refl 0, Nat.le_refl 0⟩) (fun r34 qv => ?_)
              refine g_topi (y := t0P (kA x) (kS x) (kE x) i) (qv) ?_
              refine lv_i2l (v := (t0P (kA x) (kS x) (kE x) i).toInt64) hx hb d_Md_key_200 rfl ?_
              refine g_callpi (va_runS (As := [.long ((t0P (kA x) (kS x) (kE x) i).toInt64)]) (rest := [.int (nI (i)), .ref (g_ad V 64)]) ⟨hx, hb, hml, hown, hts⟩ (c_m_mod l (t0P (kA x) (kS x) (kE x) i).toInt64) (va_cwS 1 hts (g_goodS kw_751 kw_749 kw_750 kw_8) rfl rfl rfl (by decide +kernel) ⟨Nat.le_of_ble_eq_true rfl, Nat.le_of_ble_eq_true rfl⟩) ⟨fun _ _ _ _ q => q, fun _ _ _ => rfl⟩ rfl rfl hl.1 rfl (lv_room (Nat.le_of_ble_eq_true rfl)) d_Md_key_201 ⟨Nat.le_refl 0, Nat.le_refl 0⟩) (fun r36 qw => ?_)
              refine g_topi (y := rdF (kT x) i) (qw) ?_
              refine g_iast (x := rdF (kT x) i) hx hb hE hG 64 (by decide) (i) (rfl) (show _ < 32 by omega) d_Md_key_204 (fun H locs hG => ?_)
              refine lv_aload_n hx hb d_Md_key_205 rfl (lv_at hl 1 rfl) ?_
              refine lv_aload_n hx hb d_Md_key_206 rfl (lv_at hl 1 rfl) ?_
              refine g_get (ci := 7) (v := .ref (g_ad V 67)) (C := R_Md) (T := F_Md) (N := 35) hx hb hts (fun w h => List.mem_cons_of_mem _ (in_Md w h)) hown hE hG 11 (by decide) rfl rfl 21 (by decide) (hts _ (List.mem_cons_of_mem _ kw_613)) (fun _ h9 => h9) rfl d_Md_key_207 ?_
              refine lv_bipush (v := nI (8)) hx hb d_Md_key_210 (by decide) ?_
              refine lv_bipush (v := nI (15)) hx hb d_Md_key_212 (by decide) ?_
              refine lv_iload_n hx hb d_Md_key_214 rfl (lv_at hl 2 rfl) ?_
              refine lv_imul hx hb d_Md_key_215 ?_
              refine g_topi (y := nI (15 * i)) (pk_mul _ _) ?_
              refine lv_bipush (v := nI (15)) hx hb d_Md_key_216 (by decide) ?_
              refine lv_iload hx hb d_Md_key_218 (lv_at hl 0 rfl) ?_
              refine lv_iload hx hb d_Md_key_220 (lv_at hl 0 rfl) ?_
              refine g_callpi (va_runS (As := [.int (tvP (kA x) (kS x) (kE x) i)]) (rest := [.int (tvP (kA x) (kS x) (kE x) i), .int (nI (15)), .int (nI (15 * i)), .int (nI (8)), .ref (g_ad V 67), .ref (g_ad V 11)]) ⟨hx, hb, hml, hown, hts⟩ (c_m_bottom l (tvP (kA x) (kS x) (kE x) i)) (va_cwS 1 hts (g_goodS kw_767 kw_765 kw_766 kw_8) rfl rfl rfl (by decide +kernel) ⟨Nat.le_of_ble_eq_true rfl, Nat.le_of_ble_eq_true rfl⟩) ⟨fun _ _ _ _ q => q, fun _ _ _ => rfl⟩ rfl rfl hl.1 rfl (lv_room (Nat.le_of_ble_eq_true rfl)) d_Md_key_222 ⟨Nat.le_refl 0, Nat.le_refl 0⟩) (fun r38 qv => ?_)
              refine g_topi (y := t0P (kA x) (kS x) (kE x) i) (qv) ?_
              refine lv_isub hx hb d_Md_key_225 ?_
              refine lv_sipush (v := nI (256)) hx hb d_Md_key_226 (by decide) ?_
              refine lv_idiv hx hb d_Md_key_229 (by decide) ?_
              refine g_topi (y := (upP (kA x) (kS x) (kE x)) i) (rfl) ?_
              refine g_callv (va_runV (As := [.ref (g_ad V 67), .int (nI (8)), .int (nI (15 * i)), .int (nI (15)), .int ((upP (kA x) (kS x) (kE x)) i)]) (rest := []) ⟨hx, hb, hml, hown, hts⟩ (c_m_pack l V (uI X3 64 (upd (X3.1 64) i (rdF (kT x) i))) 67 (by decide) 8 (15 * i) 15 ((upP (kA x) (kS x) (kE x)) i) (by decide) (by show 8 * 8 + 15 * i + 15 ≤ 8 * 68; omega)) (cwV 5 hts (g_goodV kw_771 kw_768 kw_770 kp_29 kw_8) rfl rfl rfl (by decide +kernel) ⟨Nat.le_of_ble_eq_true rfl, Nat.le_of_ble_eq_true rfl⟩) (g_preV (k0 := 11) (ci := 7) hE hG (by decide) rfl rfl) rfl rfl hl.1 rfl (lv_room (Nat.le_of_ble_eq_true rfl)) d_Md_key_230 ⟨Nat.le_refl 0, Nat.le_refl 0⟩) hG (fun Xp H locs qp hG => ?_)
              refine lv_iinc (v := nI (i + 1)) (lv' := [(3, .int (nI (i + 1))), (4, .int (tvP (kA x) (kS x) (kE x) i)), (0, .ref (g_ad V 11))]) hx hb d_Md_key_233 hl (k := 2) rfl (g_inc _) (by decide) rfl (fun ls hl => ?_)
              refine lv_goto (tgt := 164) hx hb d_Md_key_236 (by decide) ?_
              exact ih164 (i + 1) (by omega) Xp _ _ ls (fr_tr2 (fr_i hF3 _ (by decide)) qp.2 (by decide) (by decide) (by decide)) ((qp.2.1 73 (by decide)).trans ((uI_n _ _ (by decide)).trans n73)) ((qp.2.1 58 (by decide)).trans ((uI_n _ _ (by decide)).trans n58)) ((qp.2.1 60 (by decide)).trans ((uI_n _ _ (by decide)).trans n60)) ((qp.2.1 62 (by decide)).trans ((uI_n _ _ (by decide)).trans n62)) ((qp.2.1 63 (by decide)).trans ((uI_n _ _ (by decide)).trans n63)) ((qp.2.2.2 3 (fun q => by cases q)).trans n3) (by rw [qp.2.1 64 (by decide), uI_s, n64]; exact segI_s (rdF (kT x)) _ _) (by rw [qp.1, uI_n _ _ (show (67 : Nat) ≠ 64 by decide), n67, Nat.mul_comm 15 i]; rfl) hG (lv_sub hl [2, 0] rfl)
          exact K164 (32 - 0) 0 (by omega) X2 _ _ ls hF2 k73 k58 k60 k62 k63 k3 (segI_0 _ _).symm k67 hG (lv_sub hl [1, 0] rfl)
        | succ fu ih138 =>
          intro i hin138 X2 H locs ls hF2 k73 k56 k58 k60 k62 k63 k3 k67 hG hl
          have hi138 : i < 8 := by omega
          refine lv_iload_n hx hb d_Md_key_138 rfl (lv_at hl 1 rfl) ?_
          refine lv_bipush (v := nI (8)) hx hb d_Md_key_139 (by decide) ?_
          refine lv_icmp_ge (tgt := 162) hx hb d_Md_key_141 (by decide) (fun q => absurd ((g_ge (x := i) (y := 8) (by omega) (by omega)).mp q) (by omega)) (fun _ => ?_)
          refine lv_aload_n hx hb d_Md_key_144 rfl (lv_at hl 0 rfl) ?_
          refine g_get (ci := 7) (v := .ref (g_ad V 67)) (C := R_Md) (T := F_Md) (N := 35) hx hb hts (fun w h => List.mem_cons_of_mem _ (in_Md w h)) hown hE hG 11 (by decide) rfl rfl 21 (by decide) (hts _ (List.mem_cons_of_mem _ kw_613)) (fun _ h9 => h9) rfl d_Md_key_145 ?_
          refine lv_iload_n hx hb d_Md_key_148 rfl (lv_at hl 1 rfl) ?_
          refine lv_aload_n hx hb d_Md_key_149 rfl (lv_at hl 0 rfl) ?_
          refine g_get (ci := 7) (v := .ref (g_ad V 56)) (C := R_Md) (T := F_Md) (N := 35) hx hb hts (fun w h => List.mem_cons_of_mem _ (in_Md w h)) hown hE hG 11 (by decide) rfl rfl 9 (by decide) (hts _ (List.mem_cons_of_mem _ kw_601)) (fun _ h9 => h9) rfl d_Md_key_150 ?_
          refine lv_iload_n hx hb d_Md_key_153 rfl (lv_at hl 1 rfl) ?_
          refine g_iald hx hb hE hG 56 (by decide) (i) (rfl) (show _ < 8 by omega) (v := kst x i) (congrFun k56 _) d_Md_key_154 ?_
          refine g_iast (x := kst x i) hx hb hE hG 67 (by decide) (i) (rfl) (show _ < 68 by omega) d_Md_key_155 (fun H locs hG => ?_)
          refine lv_iinc (v := nI (i + 1)) (lv' := [(3, .int (nI (i + 1))), (0, .ref (g_ad V 11))]) hx hb d_Md_key_156 hl (k := 1) rfl (g_inc _) (by decide) rfl (fun ls hl => ?_)
          refine lv_goto (tgt := 138) hx hb d_Md_key_159 (by decide) ?_
          exact ih138 (i + 1) (by omega) (uI X2 67 (upd (X2.1 67) i (kst x i))) _ _ ls (fr_i hF2 _ (by decide)) ((uI_n _ _ (by decide)).trans k73) ((uI_n _ _ (by decide)).trans k56) ((uI_n _ _ (by decide)).trans k58) ((uI_n _ _ (by decide)).trans k60) ((uI_n _ _ (by decide)).trans k62) ((uI_n _ _ (by decide)).trans k63) k3 (by rw [uI_s, k67]; exact segI_s (kst x) _ _) hG (lv_sub hl [1, 0] rfl)
      exact K138 (8 - 0) 0 (by omega) Xj _ _ ls fj j73 j56 j58 j60 j62 j63 j3 (j67.trans (segI_0 _ _).symm) hG (lv_sub hl [1, 0] rfl)
    | succ fu ih58 =>
      intro i hin58 X1 H locs ls hF h56 h57 h58 h60 h67 h3 h62 h63 hG hl
      have hi58 : i < 4 := by omega
      refine lv_iload_n hx hb d_Md_key_58 rfl (lv_at hl 1 rfl) ?_
      refine lv_iconst (v := nI (4)) hx hb d_Md_key_59 (by decide) ?_
      refine lv_icmp_ge (tgt := 120) hx hb d_Md_key_60 (by decide) (fun q => absurd ((g_ge (x := i) (y := 4) (by omega) (by omega)).mp q) (by omega)) (fun _ => ?_)
      refine lv_aload_n hx hb d_Md_key_63 rfl (lv_at hl 0 rfl) ?_
      refine lv_aload_n hx hb d_Md_key_64 rfl (lv_at hl 0 rfl) ?_
      refine g_get (ci := 7) (v := .ref (g_ad V 57)) (C := R_Md) (T := F_Md) (N := 35) hx hb hts (fun w h => List.mem_cons_of_mem _ (in_Md w h)) hown hE hG 11 (by decide) rfl rfl 10 (by decide) (hts _ (List.mem_cons_of_mem _ kw_602)) (fun _ h9 => h9) rfl d_Md_key_65 ?_
      refine lv_iconst (v := nI (0)) hx hb d_Md_key_68 (by decide) ?_
      refine lv_bipush (v := nI (8)) hx hb d_Md_key_69 (by decide) ?_
      refine g_callv (va_runV (As := [.ref (g_ad V 57), .int (nI (0)), .int (nI (8))]) (rest := []) ⟨hx, hb, hml, hown, hts⟩ (c_m_feedAll l V X1 57 (by decide) (by decide) 0 8 (by decide) (ctB (shI (kst x) 8) 8 (nI i)) 0 (by decide) h3 (fun j hj => absurd hj (Nat.not_lt_zero j)) (fun j hj => by rw [h57, Nat.zero_add]; exact (ctB_lo _ _ hj).symm)) (cwV 3 hts (g_goodV kw_738 kw_735 kw_737 kp_23 kw_8) rfl rfl rfl (by decide +kernel) ⟨Nat.le_of_ble_eq_true rfl, Nat.le_of_ble_eq_true rfl⟩) (g_preV (k0 := 11) (ci := 7) hE hG (by decide) rfl rfl) rfl rfl hl.1 rfl (lv_room (Nat.le_of_ble_eq_true rfl)) d_Md_key_71 ⟨Nat.le_refl 0, Nat.le_refl 0⟩) hG (fun Xg H locs qg hG => ?_)
      refine lv_aload_n hx hb d_Md_key_74 rfl (lv_at hl 0 rfl) ?_
      refine lv_iload_n hx hb d_Md_key_75 rfl (lv_at hl 1 rfl) ?_
      refine g_topi (y := ctB (shI (kst x) 8) 8 (nI i) (0 + 8)) ((ctB_hi _ _ _).symm) ?_
      refine g_callv (va_runV (As := [.int (ctB (shI (kst x) 8) 8 (nI i) (0 + 8))]) (rest := []) ⟨hx, hb, hml, hown, hts⟩ (c_m_feed l V Xg (ctB (shI (kst x) 8) 8 (nI i)) (0 + 8) (by decide) qg.1 qg.2.1) (cwV 1 hts (g_goodV kw_710 kw_707 kw_709 kp_17 kw_8) rfl rfl rfl (by decide +kernel) ⟨Nat.le_of_ble_eq_true rfl, Nat.le_of_ble_eq_true rfl⟩) (g_preV (k0 := 11) (ci := 7) hE hG (by decide) rfl rfl) rfl rfl hl.1 rfl (lv_room (Nat.le_of_ble_eq_true rfl)) d_Md_key_76 ⟨Nat.le_refl 0, Nat.le_refl 0⟩) hG (fun Xh H locs qh hG => ?_)
      have fh : fr X Xh [54, 55, 56, 57, 58, 59, 60, 62, 63, 64, 67, 73] [13, 14, 15, 16] [3, 4] := (fr_tr2 (fr_tr2 hF qg.2.2 (by decide) (by decide) (by decide)) qh.2.2 (by decide) (by decide) (by decide))
      refine lv_iload_n hx hb d_Md_key_79 rfl (lv_at hl 1 rfl) ?_
      refine lv_iconst (v := nI (2)) hx hb d_Md_key_80 (by decide) ?_
      refine lv_icmp_ge (tgt := 99) hx hb d_Md_key_81 (by decide) (fun c81 => ?_) (fun c81 => ?_)
      · have c81 := (g_ge (x := i) (y := 2) (by omega) (by omega)).mp c81
        refine lv_aload_n hx hb d_Md_key_99 rfl (lv_at hl 0 rfl) ?_
        refine lv_aload_n hx hb d_Md_key_100 rfl (lv_at hl 0 rfl) ?_
        refine g_get (ci := 7) (v := .ref (g_ad V 63)) (C := R_Md) (T := F_Md) (N := 35) hx hb hts (fun w h => List.mem_cons_of_mem _ (in_Md w h)) hown hE hG 11 (by decide) rfl rfl 16 (by decide) (hts _ (List.mem_cons_of_mem _ kw_608)) (fun _ h9 => h9) rfl d_Md_key_101 ?_
        refine lv_bipush (v := nI (16)) hx hb d_Md_key_104 (by decide) ?_
        refine lv_iload_n hx hb d_Md_key_106 rfl (lv_at hl 1 rfl) ?_
        refine lv_imul hx hb d_Md_key_107 ?_
        refine g_topi (y := nI (16 * i)) (pk_mul _ _) ?_
        refine lv_bipush (v := nI (32)) hx hb d_Md_key_108 (by decide) ?_
        refine lv_isub hx hb d_Md_key_110 ?_
        refine g_topi (y := nI ((16 * i) - 32)) (pk_sub (by omega)) ?_
        refine g_callv (va_runV (As := [.ref (g_ad V 63), .int (nI ((16 * i) - 32))]) (rest := []) ⟨hx, hb, hml, hown, hts⟩ (c_m_small l V Xh 63 (by decide) (by decide) (16 * i - 32) (by show 16 * i - 32 + 16 ≤ 32; omega) (ctB (shI (kst x) 8) 8 (nI i)) (0 + 8 + 1) (by decide) qh.1 qh.2.1 ((fh.1 53 (by decide)).trans hTu) ((fh.2.1 12 (by decide)).trans hEx)) (cwV 2 hts (g_goodV kw_748 kw_745 kw_747 kp_25 kw_8) rfl rfl rfl (by decide +kernel) ⟨Nat.le_of_ble_eq_true rfl, Nat.le_of_ble_eq_true rfl⟩) (g_preV (k0 := 11) (ci := 7) hE hG (by decide) rfl rfl) rfl rfl hl.1 rfl (lv_room (Nat.le_of_ble_eq_true rfl)) d_Md_key_111 ⟨Nat.le_refl 0, Nat.le_refl 0⟩) hG (fun Xi H locs qi hG => ?_)
        refine lv_iinc (v := nI (i + 1)) (lv' := [(3, .int (nI (i + 1))), (0, .ref (g_ad V 11))]) hx hb d_Md_key_114 hl (k := 1) rfl (g_inc _) (by decide) rfl (fun ls hl => ?_)
        refine lv_goto (tgt := 58) hx hb d_Md_key_117 (by decide) ?_
        exact ih58 (i + 1) (by omega) Xi _ _ ls (fr_tr2 fh qi.2.2.2 (by decide) (by decide) (by decide)) (by rw [qi.2.2.2.1 56 (by decide), qh.2.2.1 56 (by decide), qg.2.2.1 56 (by decide)]; exact h56) (by rw [qi.2.2.2.1 57 (by decide), qh.2.2.1 57 (by decide), qg.2.2.1 57 (by decide)]; exact h57) (by rw [qi.2.2.2.1 58 (by decide), qh.2.2.1 58 (by decide), qg.2.2.1 58 (by decide)]; exact h58) (by rw [qi.2.2.2.1 60 (by decide), qh.2.2.1 60 (by decide), qg.2.2.1 60 (by decide)]; exact h60) (by rw [qi.2.2.2.1 67 (by decide), qh.2.2.1 67 (by decide), qg.2.2.1 67 (by decide)]; exact h67) qi.2.2.1 (by rw [qi.2.2.2.1 62 (by decide), qh.2.2.1 62 (by decide), qg.2.2.1 62 (by decide), h62, show min (i + 1) 2 = min i 2 by omega]) (by rw [qi.1, qh.2.2.1 63 (by decide), qg.2.2.1 63 (by decide), h63, show 16 * (i - 2) = 16 * i - 32 by omega, show 16 * (i + 1 - 2) = 16 * i - 32 + 16 by omega]; exact seg_segI (fun j hj => rdF_at _ _ (by obtain ⟨d, rfl⟩ : ∃ d, i = 2 + d := ⟨i - 2, by omega⟩; rw [show 16 * (2 + d) - 32 + j = 16 * d + j by omega]; exact smlP_at _ 2 d hj))) hG (lv_sub hl [1, 0] rfl)
      · have c81 := (g_geN (x := i) (y := 2) (by omega) (by omega)).mp c81
        refine lv_aload_n hx hb d_Md_key_84 rfl (lv_at hl 0 rfl) ?_
        refine lv_aload_n hx hb d_Md_key_85 rfl (lv_at hl 0 rfl) ?_
        refine g_get (ci := 7) (v := .ref (g_ad V 62)) (C := R_Md) (T := F_Md) (N := 35) hx hb hts (fun w h => List.mem_cons_of_mem _ (in_Md w h)) hown hE hG 11 (by decide) rfl rfl 15 (by decide) (hts _ (List.mem_cons_of_mem _ kw_607)) (fun _ h9 => h9) rfl d_Md_key_86 ?_
        refine lv_bipush (v := nI (16)) hx hb d_Md_key_89 (by decide) ?_
        refine lv_iload_n hx hb d_Md_key_91 rfl (lv_at hl 1 rfl) ?_
        refine lv_imul hx hb d_Md_key_92 ?_
        refine g_topi (y := nI (16 * i)) (pk_mul _ _) ?_
        refine g_callv (va_runV (As := [.ref (g_ad V 62), .int (nI (16 * i))]) (rest := []) ⟨hx, hb, hml, hown, hts⟩ (c_m_small l V Xh 62 (by decide) (by decide) (16 * i) (by show 16 * i + 16 ≤ 32; omega) (ctB (shI (kst x) 8) 8 (nI i)) (0 + 8 + 1) (by decide) qh.1 qh.2.1 ((fh.1 53 (by decide)).trans hTu) ((fh.2.1 12 (by decide)).trans hEx)) (cwV 2 hts (g_goodV kw_748 kw_745 kw_747 kp_25 kw_8) rfl rfl rfl (by decide +kernel) ⟨Nat.le_of_ble_eq_true rfl, Nat.le_of_ble_eq_true rfl⟩) (g_preV (k0 := 11) (ci := 7) hE hG (by decide) rfl rfl) rfl rfl hl.1 rfl (lv_room (Nat.le_of_ble_eq_true rfl)) d_Md_key_93 ⟨Nat.le_refl 0, Nat.le_refl 0⟩) hG (fun Xi H locs qi hG => ?_)
        refine lv_goto (tgt := 114) hx hb d_Md_key_96 (by decide) ?_
        refine lv_iinc (v := nI (i + 1)) (lv' := [(3, .int (nI (i + 1))), (0, .ref (g_ad V 11))]) hx hb d_Md_key_114 hl (k := 1) rfl (g_inc _) (by decide) rfl (fun ls hl => ?_)
        refine lv_goto (tgt := 58) hx hb d_Md_key_117 (by decide) ?_
        exact ih58 (i + 1) (by omega) Xi _ _ ls (fr_tr2 fh qi.2.2.2 (by decide) (by decide) (by decide)) (by rw [qi.2.2.2.1 56 (by decide), qh.2.2.1 56 (by decide), qg.2.2.1 56 (by decide)]; exact h56) (by rw [qi.2.2.2.1 57 (by decide), qh.2.2.1 57 (by decide), qg.2.2.1 57 (by decide)]; exact h57) (by rw [qi.2.2.2.1 58 (by decide), qh.2.2.1 58 (by decide), qg.2.2.1 58 (by decide)]; exact h58) (by rw [qi.2.2.2.1 60 (by decide), qh.2.2.1 60 (by decide), qg.2.2.1 60 (by decide)]; exact h60) (by rw [qi.2.2.2.1 67 (by decide), qh.2.2.1 67 (by decide), qg.2.2.1 67 (by decide)]; exact h67) qi.2.2.1 (by rw [qi.1, qh.2.2.1 62 (by decide), qg.2.2.1 62 (by decide), h62, show 16 * min i 2 = 16 * i by omega, show 16 * min (i + 1) 2 = 16 * i + 16 by omega]; exact seg_segI (fun j hj => rdF_at _ _ (by rw [← Nat.zero_add i, Nat.zero_add i]; have h := smlP_at (shI (kst x) 8) 0 i hj; rw [Nat.zero_add] at h; exact h))) (by rw [qi.2.2.2.1 63 (by decide), qh.2.2.1 63 (by decide), qg.2.2.1 63 (by decide), h63, show i + 1 - 2 = i - 2 by omega]) hG (lv_sub hl [1, 0] rfl)
  exact K58 (4 - 0) 0 (by omega) Xf _ _ ls ff ((qf.2.2.1 56 (by decide)).trans e56) ((qf.2.2.1 57 (by decide)).trans e57) ((qf.2.2.1 58 (by decide)).trans e58) f60 (by rw [qf.2.2.1 67 (by decide), qe.2.1 67 (by decide), qd.2.1 67 (by decide), qc.2.1 67 (by decide), qb.2.2.1 67 (by decide), qa.2.2.1 67 (by decide)]) qf.2.1 (by rw [qf.2.2.1 62 (by decide), qe.2.1 62 (by decide), qd.2.1 62 (by decide), qc.2.1 62 (by decide), qb.2.2.1 62 (by decide), qa.2.2.1 62 (by decide)]; exact (segI_0 _ _).symm) (by rw [qf.2.2.1 63 (by decide), qe.2.1 63 (by decide), qd.2.1 63 (by decide), qc.2.1 63 (by decide), qb.2.2.1 63 (by decide), qa.2.2.1 63 (by decide)]; exact (segI_0 _ _).symm) hG (lv_sub hl [1, 0] rfl)

set_option maxHeartbeats 4000000 in
set_option maxRecDepth 100000 in
theorem c_M_say (l : Launch) (V : Ev) (X : Mm) (b : Int32) (n : Nat) (hn : n ≤ 24) (hT : X.2.2 5 = nI n) : Met l y_Md_say (Cond.code y_Md_say b_Md_say 2 (some .boolean) :: WA) ({ frames := 0, cells := 0, slots := 0, locals := 0 } : Room) (g_Pc V X [.ref (g_ad V 11), .int (b)]) (g_Qi V (fun (r : Int32) (X1 : Mm) => (((0 ≤ b ∧ b ≤ nI 255) ∧ n < 24) → r = nI 1 ∧ X1.1 66 = upd (X.1 66) n b ∧ X1.2.2 5 = nI (n + 1) ∧ fr X X1 [66] [] [5]) ∧ (¬ ((0 ≤ b ∧ b ≤ nI 255) ∧ n < 24) → r = nI 0 ∧ X = X1))) 0 0 (g_A V) := by
  refine g_met (by decide) (Nat.le_of_ble_eq_true rfl) ?_
  intro p e s m below meth c hx hb hr hml hown hts hlocks hE hG ls hl
  have hl : lv_has ls 2 [(0, .ref (g_ad V 11)), (1, .int (b))] := hl
  have hown : s.vm.findClass R_Md = some m.cls := hown
  refine lv_iload_n hx hb d_Md_say_0 rfl (lv_at hl 1 rfl) ?_
  refine lv_if_lt (tgt := 20) hx hb d_Md_say_1 (by decide) (fun c1 => ?_) (fun c1 => ?_)
  · refine lv_iconst (v := nI (0)) hx hb d_Md_say_20 (by decide) ?_
    exact g_zret hx hb hr hlocks hE hG (by decide) (⟨fun z => absurd c1 (Int32.not_lt.mpr z.1.1), fun _ => ⟨rfl, rfl⟩⟩) d_Md_say_21
  · refine lv_iload_n hx hb d_Md_say_4 rfl (lv_at hl 1 rfl) ?_
    refine lv_sipush (v := nI (255)) hx hb d_Md_say_5 (by decide) ?_
    refine lv_icmp_gt (tgt := 20) hx hb d_Md_say_8 (by decide) (fun c8 => ?_) (fun c8 => ?_)
    · refine lv_iconst (v := nI (0)) hx hb d_Md_say_20 (by decide) ?_
      exact g_zret hx hb hr hlocks hE hG (by decide) (⟨fun z => absurd c8 (Int32.not_lt.mpr z.1.2), fun _ => ⟨rfl, rfl⟩⟩) d_Md_say_21
    · refine lv_aload_n hx hb d_Md_say_11 rfl (lv_at hl 0 rfl) ?_
      refine g_get (ci := 7) (v := .int (X.2.2 5)) (C := R_Md) (T := F_Md) (N := 35) hx hb hts (fun w h => List.mem_cons_of_mem _ (in_Md w h)) hown hE hG 11 (by decide) rfl rfl 19 (by decide) (hts _ (List.mem_cons_of_mem _ kw_611)) (fun _ h9 => h9) rfl d_Md_say_12 ?_
      refine g_topi (y := nI (n)) (hT) ?_
      refine lv_bipush (v := nI (24)) hx hb d_Md_say_15 (by decide) ?_
      refine lv_icmp_ne (tgt := 22) hx hb d_Md_say_17 (by decide) (fun c17 => ?_) (fun c17 => ?_)
      · have c17 := (g_ne (x := n) (y := 24) (by omega) (by omega)).mp c17
        refine lv_aload_n hx hb d_Md_say_22 rfl (lv_at hl 0 rfl) ?_
        refine g_get (ci := 7) (v := .ref (g_ad V 66)) (C := R_Md) (T := F_Md) (N := 35) hx hb hts (fun w h => List.mem_cons_of_mem _ (in_Md w h)) hown hE hG 11 (by decide) rfl rfl 20 (by decide) (hts _ (List.mem_cons_of_mem _ kw_612)) (fun _ h9 => h9) rfl d_Md_say_23 ?_
        refine lv_aload_n hx hb d_Md_say_26 rfl (lv_at hl 0 rfl) ?_
        refine g_get (ci := 7) (v := .int (X.2.2 5)) (C := R_Md) (T := F_Md) (N := 35) hx hb hts (fun w h => List.mem_cons_of_mem _ (in_Md w h)) hown hE hG 11 (by decide) rfl rfl 19 (by decide) (hts _ (List.mem_cons_of_mem _ kw_611)) (fun _ h9 => h9) rfl d_Md_say_27 ?_
        refine g_topi (y := nI (n)) (hT) ?_
        refine lv_iload_n hx hb d_Md_say_30 rfl (lv_at hl 1 rfl) ?_
        refine g_iast (x := b) hx hb hE hG 66 (by decide) (n) (rfl) (show _ < 24 by omega) d_Md_say_31 (fun H locs hG => ?_)
        refine lv_aload_n hx hb d_Md_say_32 rfl (lv_at hl 0 rfl) ?_
        refine lv_dup hx hb d_Md_say_33 rfl ?_
        refine g_get (ci := 7) (v := .int ((uI X 66 (upd (X.1 66) n b)).2.2 5)) (C := R_Md) (T := F_Md) (N := 35) hx hb hts (fun w h => List.mem_cons_of_mem _ (in_Md w h)) hown hE hG 11 (by decide) rfl rfl 19 (by decide) (hts _ (List.mem_cons_of_mem _ kw_611)) (fun _ h9 => h9) rfl d_Md_say_34 ?_
        refine g_topi (y := nI (n)) (hT) ?_
        refine lv_iconst (v := nI (1)) hx hb d_Md_say_37 (by decide) ?_
        refine lv_iadd hx hb d_Md_say_38 ?_
        refine g_topi (y := nI (n + 1)) (nI_add _ _) ?_
        refine g_put (ci := 7) (v := nI (n + 1)) (ty := .int) (C := R_Md) (T := F_Md) (N := 35) hx hb hts (fun w h => List.mem_cons_of_mem _ (in_Md w h)) t_Md t_Md_ok n_Md hown hE hG 5 (by decide) rfl rfl 19 (by decide) (hts _ (List.mem_cons_of_mem _ kw_611)) (fun _ h9 => h9) rfl (by decide +kernel) (rfl) rfl (Nat.le_of_ble_eq_true rfl) rfl d_Md_say_39 (fun H locs hG => ?_)
        refine lv_iconst (v := nI (1)) hx hb d_Md_say_42 (by decide) ?_
        exact g_zret hx hb hr hlocks hE hG (by decide) (⟨fun _ => ⟨rfl, uI_s X 66 (upd (X.1 66) n b), uF_s _ _ _, fr_f (fr_i (fr_rf X _ _ _) _ (by decide)) _ (by decide)⟩, fun z => absurd ⟨⟨Int32.not_lt.mp c1, Int32.not_lt.mp c8⟩, by omega⟩ z⟩) d_Md_say_43
      · have c17 := (g_neN (x := n) (y := 24) (by omega) (by omega)).mp c17
        refine lv_iconst (v := nI (0)) hx hb d_Md_say_20 (by decide) ?_
        exact g_zret hx hb hr hlocks hE hG (by decide) (⟨fun z => absurd z.2 (by omega), fun _ => ⟨rfl, rfl⟩⟩) d_Md_say_21

set_option maxHeartbeats 4000000 in
set_option maxRecDepth 100000 in
theorem c_M_hush (l : Launch) (V : Ev) (X : Mm)  : Met l y_Md_hush (Cond.code y_Md_hush b_Md_hush 1 none :: WA) ({ frames := 0, cells := 0, slots := 0, locals := 0 } : Room) (g_Pc V X [.ref (g_ad V 11)]) (g_Qv V (fun X1 : Mm => X1.2.2 5 = nI 0 ∧ fr X X1 [] [] [5])) 0 0 (g_A V) := by
  refine g_met (by decide) (Nat.le_of_ble_eq_true rfl) ?_
  intro p e s m below meth c hx hb hr hml hown hts hlocks hE hG ls hl
  have hl : lv_has ls 1 [(0, .ref (g_ad V 11))] := hl
  have hown : s.vm.findClass R_Md = some m.cls := hown
  refine lv_aload_n hx hb d_Md_hush_0 rfl (lv_at hl 0 rfl) ?_
  refine lv_iconst (v := nI (0)) hx hb d_Md_hush_1 (by decide) ?_
  refine g_put (ci := 7) (v := nI (0)) (ty := .int) (C := R_Md) (T := F_Md) (N := 35) hx hb hts (fun w h => List.mem_cons_of_mem _ (in_Md w h)) t_Md t_Md_ok n_Md hown hE hG 5 (by decide) rfl rfl 19 (by decide) (hts _ (List.mem_cons_of_mem _ kw_611)) (fun _ h9 => h9) rfl (by decide +kernel) (rfl) rfl (Nat.le_of_ble_eq_true rfl) rfl d_Md_hush_2 (fun H locs hG => ?_)
  exact g_vret hx hb hr hlocks hE hG (⟨uF_s _ _ _, fr_f (fr_rf X _ _ _) _ (by decide)⟩) d_Md_hush_5
