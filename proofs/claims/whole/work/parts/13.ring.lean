set_option maxHeartbeats 4000000 in
set_option maxRecDepth 100000 in
theorem c_reduce (l : Launch) (x : Int64) : Met l y_Ring_reduce (Cond.code y_Ring_reduce b_Ring_reduce 4 (some .int) :: WA) ({ frames := 0, cells := 0, slots := 0, locals := 0 } : Room) (fun v _ => v = ([.long (x)] : List Value).toArray) (vp_Si (fun r : Int32 => r = redP x)) 0 0 (fun _ => False) := by
  refine g_metp (by decide) (Nat.le_of_ble_eq_true rfl) ?_
  intro p e s m below meth c hx hb hr hml hown hts hlocks ls hl
  have hl : lv_has ls 4 [(0, .long (x))] := hl
  have hown : s.vm.findClass R_Ring = some m.cls := hown
  refine lv_lload_n hx hb d_Ring_reduce_0 rfl (lv_at hl 0 rfl) ?_
  refine lv_ldc2 (v := 8380417) hx hb hown (hts _ (List.mem_cons_of_mem _ kw_312)) d_Ring_reduce_1 ?_
  refine lv_lrem hx hb d_Ring_reduce_4 (by decide) ?_
  refine lv_lstore_n (lv' := [(2, .long (x - x / 8380417 * 8380417)), (0, .long (x))]) hx hb d_Ring_reduce_5 rfl hl (by decide) rfl (fun ls hl => ?_)
  refine lv_lload_n hx hb d_Ring_reduce_6 rfl (lv_at hl 0 rfl) ?_
  refine lv_lconst (v := 0) hx hb d_Ring_reduce_7 (by decide) ?_
  refine W.lcmp hx hb d_Ring_reduce_8 ?_
  refine lv_if_ge (tgt := 20) hx hb d_Ring_reduce_9 (by decide) (fun c9 => ?_) (fun c9 => ?_)
  · refine lv_lload_n hx hb d_Ring_reduce_20 rfl (lv_at hl 0 rfl) ?_
    refine lv_l2i (v := (x - x / 8380417 * 8380417).toInt32) hx hb d_Ring_reduce_21 rfl ?_
    exact g_iretp hx hb hr hlocks (by unfold redP; rw [if_neg (Int64.not_lt.mpr ((lg_cmp_ge _ _).mp c9))]) d_Ring_reduce_22
  · refine lv_lload_n hx hb d_Ring_reduce_12 rfl (lv_at hl 0 rfl) ?_
    refine lv_ldc2 (v := 8380417) hx hb hown (hts _ (List.mem_cons_of_mem _ kw_312)) d_Ring_reduce_13 ?_
    refine lv_ladd hx hb d_Ring_reduce_16 ?_
    refine lv_goto (tgt := 21) hx hb d_Ring_reduce_17 (by decide) ?_
    refine lv_l2i (v := ((x - x / 8380417 * 8380417) + 8380417).toInt32) hx hb d_Ring_reduce_21 rfl ?_
    exact g_iretp hx hb hr hlocks (by unfold redP; rw [if_pos (Int64.not_le.mp (fun q => c9 ((lg_cmp_ge _ _).mpr q)))]) d_Ring_reduce_22

set_option maxHeartbeats 4000000 in
set_option maxRecDepth 100000 in
theorem c_centered (l : Launch) (x : Int64) : Met l y_Ring_centered (Cond.code y_Ring_centered b_Ring_centered 3 (some .int) :: WA) ({ frames := 1, cells := 0, slots := 0, locals := 23 } : Room) (fun v _ => v = ([.long (x)] : List Value).toArray) (vp_Si (fun r : Int32 => r = cenP (redP x))) 0 0 (fun _ => False) := by
  refine g_metp (by decide) (Nat.le_of_ble_eq_true rfl) ?_
  intro p e s m below meth c hx hb hr hml hown hts hlocks ls hl
  have hl : lv_has ls 3 [(0, .long (x))] := hl
  have hown : s.vm.findClass R_Ring = some m.cls := hown
  refine lv_lload_n hx hb d_Ring_centered_0 rfl (lv_at hl 0 rfl) ?_
  refine g_callpi (va_runS (As := [.long (x)]) (rest := []) ⟨hx, hb, hml, hown, hts⟩ (c_reduce l x) (va_cwS 1 hts (g_goodS kw_311 kw_309 kw_310 kw_13) rfl rfl rfl (by decide +kernel) ⟨Nat.le_of_ble_eq_true rfl, Nat.le_of_ble_eq_true rfl⟩) ⟨fun _ _ _ _ q => q, fun _ _ _ => rfl⟩ rfl rfl hl.1 rfl (lv_room (Nat.le_of_ble_eq_true rfl)) d_Ring_centered_1 ⟨Nat.le_refl 0, Nat.le_refl 0⟩) (fun r1 q1 => ?_)
  refine g_topi (y := redP x) (q1) ?_
  refine lv_istore_n (lv' := [(2, .int (redP x)), (0, .long (x))]) hx hb d_Ring_centered_4 rfl hl (by decide) rfl (fun ls hl => ?_)
  refine lv_iload_n hx hb d_Ring_centered_5 rfl (lv_at hl 0 rfl) ?_
  refine lv_ldc (v := nI (4190208)) hx hb hown (hts _ (List.mem_cons_of_mem _ kw_431)) d_Ring_centered_6 ?_
  refine lv_icmp_le (tgt := 18) hx hb d_Ring_centered_8 (by decide) (fun c8 => ?_) (fun c8 => ?_)
  · refine lv_iload_n hx hb d_Ring_centered_18 rfl (lv_at hl 0 rfl) ?_
    exact g_iretp hx hb hr hlocks (by unfold cenP; rw [if_neg (Int32.not_lt.mpr c8)]) d_Ring_centered_19
  · refine lv_iload_n hx hb d_Ring_centered_11 rfl (lv_at hl 0 rfl) ?_
    refine lv_ldc (v := nI (8380417)) hx hb hown (hts _ (List.mem_cons_of_mem _ kw_432)) d_Ring_centered_12 ?_
    refine lv_isub hx hb d_Ring_centered_14 ?_
    refine lv_goto (tgt := 19) hx hb d_Ring_centered_15 (by decide) ?_
    exact g_iretp hx hb hr hlocks (by unfold cenP; rw [if_pos (Int32.not_le.mp c8)]) d_Ring_centered_19

set_option maxHeartbeats 4000000 in
set_option maxRecDepth 100000 in
theorem c_restOf (l : Launch) (r st : Int32) (hs : ¬ st = 0) : Met l y_Rounding_restOf (Cond.code y_Rounding_restOf b_Rounding_restOf 3 (some .int) :: WA) ({ frames := 0, cells := 0, slots := 0, locals := 0 } : Room) (fun v _ => v = ([.int (r), .int (st)] : List Value).toArray) (vp_Si (fun a : Int32 => a = rsP r st)) 0 0 (fun _ => False) := by
  refine g_metp (by decide) (Nat.le_of_ble_eq_true rfl) ?_
  intro p e s m below meth c hx hb hr hml hown hts hlocks ls hl
  have hl : lv_has ls 3 [(0, .int (r)), (1, .int (st))] := hl
  have hown : s.vm.findClass R_Rounding = some m.cls := hown
  refine lv_iload_n hx hb d_Rounding_restOf_0 rfl (lv_at hl 0 rfl) ?_
  refine lv_iload_n hx hb d_Rounding_restOf_1 rfl (lv_at hl 1 rfl) ?_
  refine lv_irem hx hb d_Rounding_restOf_2 (hs) ?_
  refine lv_istore_n (lv' := [(2, .int (r - r / st * st)), (0, .int (r)), (1, .int (st))]) hx hb d_Rounding_restOf_3 rfl hl (by decide) rfl (fun ls hl => ?_)
  refine lv_iload_n hx hb d_Rounding_restOf_4 rfl (lv_at hl 0 rfl) ?_
  refine lv_iload_n hx hb d_Rounding_restOf_5 rfl (lv_at hl 2 rfl) ?_
  refine lv_iconst (v := nI (2)) hx hb d_Rounding_restOf_6 (by decide) ?_
  refine lv_idiv hx hb d_Rounding_restOf_7 (by decide) ?_
  refine lv_icmp_le (tgt := 17) hx hb d_Rounding_restOf_8 (by decide) (fun c8 => ?_) (fun c8 => ?_)
  · refine lv_iload_n hx hb d_Rounding_restOf_17 rfl (lv_at hl 0 rfl) ?_
    exact g_iretp hx hb hr hlocks (by unfold rsP; rw [if_neg (Int32.not_lt.mpr c8)]) d_Rounding_restOf_18
  · refine lv_iload_n hx hb d_Rounding_restOf_11 rfl (lv_at hl 0 rfl) ?_
    refine lv_iload_n hx hb d_Rounding_restOf_12 rfl (lv_at hl 2 rfl) ?_
    refine lv_isub hx hb d_Rounding_restOf_13 ?_
    refine lv_goto (tgt := 18) hx hb d_Rounding_restOf_14 (by decide) ?_
    exact g_iretp hx hb hr hlocks (by unfold rsP; rw [if_pos (Int32.not_le.mp c8)]) d_Rounding_restOf_18

set_option maxHeartbeats 4000000 in
set_option maxRecDepth 100000 in
theorem c_highOf (l : Launch) (r : Int32) : Met l y_Rounding_highOf (Cond.code y_Rounding_highOf b_Rounding_highOf 2 (some .int) :: WA) ({ frames := 1, cells := 0, slots := 0, locals := 22 } : Room) (fun v _ => v = ([.int (r)] : List Value).toArray) (vp_Si (fun a : Int32 => a = hiP r)) 0 0 (fun _ => False) := by
  refine g_metp (by decide) (Nat.le_of_ble_eq_true rfl) ?_
  intro p e s m below meth c hx hb hr hml hown hts hlocks ls hl
  have hl : lv_has ls 2 [(0, .int (r))] := hl
  have hown : s.vm.findClass R_Rounding = some m.cls := hown
  refine lv_iload_n hx hb d_Rounding_highOf_0 rfl (lv_at hl 0 rfl) ?_
  refine lv_sipush (v := nI (2046)) hx hb d_Rounding_highOf_1 (by decide) ?_
  refine g_callpi (va_runS (As := [.int (r), .int (nI (2046))]) (rest := []) ⟨hx, hb, hml, hown, hts⟩ (c_restOf l r (nI 2046) (by decide)) (va_cwS 2 hts (g_goodS kw_319 kw_317 kw_318 kw_14) rfl rfl rfl (by decide +kernel) ⟨Nat.le_of_ble_eq_true rfl, Nat.le_of_ble_eq_true rfl⟩) ⟨fun _ _ _ _ q => q, fun _ _ _ => rfl⟩ rfl rfl hl.1 rfl (lv_room (Nat.le_of_ble_eq_true rfl)) d_Rounding_highOf_4 ⟨Nat.le_refl 0, Nat.le_refl 0⟩) (fun r1 q1 => ?_)
  refine g_topi (y := rsP r (nI 2046)) (q1) ?_
  refine lv_istore_n (lv' := [(1, .int (rsP r (nI 2046))), (0, .int (r))]) hx hb d_Rounding_highOf_7 rfl hl (by decide) rfl (fun ls hl => ?_)
  refine lv_iload_n hx hb d_Rounding_highOf_8 rfl (lv_at hl 1 rfl) ?_
  refine lv_iload_n hx hb d_Rounding_highOf_9 rfl (lv_at hl 0 rfl) ?_
  refine lv_isub hx hb d_Rounding_highOf_10 ?_
  refine lv_ldc (v := nI (8380416)) hx hb hown (hts _ (List.mem_cons_of_mem _ kw_398)) d_Rounding_highOf_11 ?_
  refine lv_icmp_ne (tgt := 20) hx hb d_Rounding_highOf_13 (by decide) (fun c13 => ?_) (fun c13 => ?_)
  · refine lv_iload_n hx hb d_Rounding_highOf_20 rfl (lv_at hl 1 rfl) ?_
    refine lv_iload_n hx hb d_Rounding_highOf_21 rfl (lv_at hl 0 rfl) ?_
    refine lv_isub hx hb d_Rounding_highOf_22 ?_
    refine lv_sipush (v := nI (2046)) hx hb d_Rounding_highOf_23 (by decide) ?_
    refine lv_idiv hx hb d_Rounding_highOf_26 (by decide) ?_
    exact g_iretp hx hb hr hlocks (by unfold hiP; rw [if_neg c13]) d_Rounding_highOf_27
  · refine lv_iconst (v := nI (0)) hx hb d_Rounding_highOf_16 (by decide) ?_
    refine lv_goto (tgt := 27) hx hb d_Rounding_highOf_17 (by decide) ?_
    exact g_iretp hx hb hr hlocks (by unfold hiP; rw [if_pos c13]) d_Rounding_highOf_27

set_option maxHeartbeats 4000000 in
set_option maxRecDepth 100000 in
theorem c_lowOf (l : Launch) (r : Int32) : Met l y_Rounding_lowOf (Cond.code y_Rounding_lowOf b_Rounding_lowOf 2 (some .int) :: WA) ({ frames := 1, cells := 0, slots := 0, locals := 22 } : Room) (fun v _ => v = ([.int (r)] : List Value).toArray) (vp_Si (fun a : Int32 => a = loP r)) 0 0 (fun _ => False) := by
  refine g_metp (by decide) (Nat.le_of_ble_eq_true rfl) ?_
  intro p e s m below meth c hx hb hr hml hown hts hlocks ls hl
  have hl : lv_has ls 2 [(0, .int (r))] := hl
  have hown : s.vm.findClass R_Rounding = some m.cls := hown
  refine lv_iload_n hx hb d_Rounding_lowOf_0 rfl (lv_at hl 0 rfl) ?_
  refine lv_sipush (v := nI (2046)) hx hb d_Rounding_lowOf_1 (by decide) ?_
  refine g_callpi (va_runS (As := [.int (r), .int (nI (2046))]) (rest := []) ⟨hx, hb, hml, hown, hts⟩ (c_restOf l r (nI 2046) (by decide)) (va_cwS 2 hts (g_goodS kw_319 kw_317 kw_318 kw_14) rfl rfl rfl (by decide +kernel) ⟨Nat.le_of_ble_eq_true rfl, Nat.le_of_ble_eq_true rfl⟩) ⟨fun _ _ _ _ q => q, fun _ _ _ => rfl⟩ rfl rfl hl.1 rfl (lv_room (Nat.le_of_ble_eq_true rfl)) d_Rounding_lowOf_4 ⟨Nat.le_refl 0, Nat.le_refl 0⟩) (fun r1 q1 => ?_)
  refine g_topi (y := rsP r (nI 2046)) (q1) ?_
  refine lv_istore_n (lv' := [(1, .int (rsP r (nI 2046))), (0, .int (r))]) hx hb d_Rounding_lowOf_7 rfl hl (by decide) rfl (fun ls hl => ?_)
  refine lv_iload_n hx hb d_Rounding_lowOf_8 rfl (lv_at hl 1 rfl) ?_
  refine lv_iload_n hx hb d_Rounding_lowOf_9 rfl (lv_at hl 0 rfl) ?_
  refine lv_isub hx hb d_Rounding_lowOf_10 ?_
  refine lv_ldc (v := nI (8380416)) hx hb hown (hts _ (List.mem_cons_of_mem _ kw_398)) d_Rounding_lowOf_11 ?_
  refine lv_icmp_ne (tgt := 22) hx hb d_Rounding_lowOf_13 (by decide) (fun c13 => ?_) (fun c13 => ?_)
  · refine lv_iload_n hx hb d_Rounding_lowOf_22 rfl (lv_at hl 0 rfl) ?_
    exact g_iretp hx hb hr hlocks (by unfold loP; rw [if_neg c13]) d_Rounding_lowOf_23
  · refine lv_iload_n hx hb d_Rounding_lowOf_16 rfl (lv_at hl 0 rfl) ?_
    refine lv_iconst (v := nI (1)) hx hb d_Rounding_lowOf_17 (by decide) ?_
    refine lv_isub hx hb d_Rounding_lowOf_18 ?_
    refine lv_goto (tgt := 23) hx hb d_Rounding_lowOf_19 (by decide) ?_
    exact g_iretp hx hb hr hlocks (by unfold loP; rw [if_pos c13]) d_Rounding_lowOf_23

set_option maxHeartbeats 4000000 in
set_option maxRecDepth 100000 in
theorem c_lowerPart (l : Launch) (r : Int32) : Met l y_Rounding_lowerPart (Cond.code y_Rounding_lowerPart b_Rounding_lowerPart 1 (some .int) :: WA) ({ frames := 1, cells := 0, slots := 0, locals := 22 } : Room) (fun v _ => v = ([.int (r)] : List Value).toArray) (vp_Si (fun a : Int32 => a = rsP r (nI 256))) 0 0 (fun _ => False) := by
  refine g_metp (by decide) (Nat.le_of_ble_eq_true rfl) ?_
  intro p e s m below meth c hx hb hr hml hown hts hlocks ls hl
  have hl : lv_has ls 1 [(0, .int (r))] := hl
  have hown : s.vm.findClass R_Rounding = some m.cls := hown
  refine lv_iload_n hx hb d_Rounding_lowerPart_0 rfl (lv_at hl 0 rfl) ?_
  refine lv_sipush (v := nI (256)) hx hb d_Rounding_lowerPart_1 (by decide) ?_
  refine g_callpi (va_runS (As := [.int (r), .int (nI (256))]) (rest := []) ⟨hx, hb, hml, hown, hts⟩ (c_restOf l r (nI 256) (by decide)) (va_cwS 2 hts (g_goodS kw_319 kw_317 kw_318 kw_14) rfl rfl rfl (by decide +kernel) ⟨Nat.le_of_ble_eq_true rfl, Nat.le_of_ble_eq_true rfl⟩) ⟨fun _ _ _ _ q => q, fun _ _ _ => rfl⟩ rfl rfl hl.1 rfl (lv_room (Nat.le_of_ble_eq_true rfl)) d_Rounding_lowerPart_4 ⟨Nat.le_refl 0, Nat.le_refl 0⟩) (fun r1 q1 => ?_)
  exact g_iretp hx hb hr hlocks (q1) d_Rounding_lowerPart_7

set_option maxHeartbeats 4000000 in
set_option maxRecDepth 100000 in
theorem c_hintOf (l : Launch) (z : Int64) (r : Int32) : Met l y_Rounding_hintOf (Cond.code y_Rounding_hintOf b_Rounding_hintOf 3 (some .int) :: WA) ({ frames := 2, cells := 0, slots := 0, locals := 43 } : Room) (fun v _ => v = ([.long (z), .int (r)] : List Value).toArray) (vp_Si (fun a : Int32 => a = hinP z r)) 0 0 (fun _ => False) := by
  refine g_metp (by decide) (Nat.le_of_ble_eq_true rfl) ?_
  intro p e s m below meth c hx hb hr hml hown hts hlocks ls hl
  have hl : lv_has ls 3 [(0, .long (z)), (2, .int (r))] := hl
  have hown : s.vm.findClass R_Rounding = some m.cls := hown
  refine lv_iload_n hx hb d_Rounding_hintOf_0 rfl (lv_at hl 1 rfl) ?_
  refine g_callpi (va_runS (As := [.int (r)]) (rest := []) ⟨hx, hb, hml, hown, hts⟩ (c_highOf l r) (va_cwS 1 hts (g_goodS kw_397 kw_454 kw_396 kw_14) rfl rfl rfl (by decide +kernel) ⟨Nat.le_of_ble_eq_true rfl, Nat.le_of_ble_eq_true rfl⟩) ⟨fun _ _ _ _ q => q, fun _ _ _ => rfl⟩ rfl rfl hl.1 rfl (lv_room (Nat.le_of_ble_eq_true rfl)) d_Rounding_hintOf_1 ⟨Nat.le_refl 0, Nat.le_refl 0⟩) (fun r1 q1 => ?_)
  refine g_topi (y := hiP r) (q1) ?_
  refine lv_iload_n hx hb d_Rounding_hintOf_4 rfl (lv_at hl 1 rfl) ?_
  refine lv_i2l (v := r.toInt64) hx hb d_Rounding_hintOf_5 rfl ?_
  refine lv_lload_n hx hb d_Rounding_hintOf_6 rfl (lv_at hl 0 rfl) ?_
  refine lv_ladd hx hb d_Rounding_hintOf_7 ?_
  refine g_callpi (va_runS (As := [.long (r.toInt64 + z)]) (rest := [.int (hiP r)]) ⟨hx, hb, hml, hown, hts⟩ (c_reduce l (r.toInt64 + z)) (va_cwS 1 hts (g_goodS kw_311 kw_455 kw_310 kw_13) rfl rfl rfl (by decide +kernel) ⟨Nat.le_of_ble_eq_true rfl, Nat.le_of_ble_eq_true rfl⟩) ⟨fun _ _ _ _ q => q, fun _ _ _ => rfl⟩ rfl rfl hl.1 rfl (lv_room (Nat.le_of_ble_eq_true rfl)) d_Rounding_hintOf_8 ⟨Nat.le_refl 0, Nat.le_refl 0⟩) (fun r2 q2 => ?_)
  refine g_topi (y := redP (r.toInt64 + z)) (q2) ?_
  refine g_callpi (va_runS (As := [.int (redP (r.toInt64 + z))]) (rest := [.int (hiP r)]) ⟨hx, hb, hml, hown, hts⟩ (c_highOf l (redP (r.toInt64 + z))) (va_cwS 1 hts (g_goodS kw_397 kw_454 kw_396 kw_14) rfl rfl rfl (by decide +kernel) ⟨Nat.le_of_ble_eq_true rfl, Nat.le_of_ble_eq_true rfl⟩) ⟨fun _ _ _ _ q => q, fun _ _ _ => rfl⟩ rfl rfl hl.1 rfl (lv_room (Nat.le_of_ble_eq_true rfl)) d_Rounding_hintOf_11 ⟨Nat.le_refl 0, Nat.le_refl 0⟩) (fun r3 q3 => ?_)
  refine g_topi (y := hiP (redP (r.toInt64 + z))) (q3) ?_
  refine lv_icmp_ne (tgt := 21) hx hb d_Rounding_hintOf_14 (by decide) (fun c14 => ?_) (fun c14 => ?_)
  · refine lv_iconst (v := nI (1)) hx hb d_Rounding_hintOf_21 (by decide) ?_
    exact g_iretp hx hb hr hlocks (by unfold hinP; rw [if_neg c14]) d_Rounding_hintOf_22
  · refine lv_iconst (v := nI (0)) hx hb d_Rounding_hintOf_17 (by decide) ?_
    refine lv_goto (tgt := 22) hx hb d_Rounding_hintOf_18 (by decide) ?_
    exact g_iretp hx hb hr hlocks (by unfold hinP; rw [if_pos c14]) d_Rounding_hintOf_22

set_option maxHeartbeats 4000000 in
set_option maxRecDepth 100000 in
theorem c_correctedBy (l : Launch) (h r : Int32) : Met l y_Rounding_correctedBy (Cond.code y_Rounding_correctedBy b_Rounding_correctedBy 3 (some .int) :: WA) ({ frames := 2, cells := 0, slots := 0, locals := 43 } : Room) (fun v _ => v = ([.int (h), .int (r)] : List Value).toArray) (vp_Si (fun a : Int32 => a = corP h r)) 0 0 (fun _ => False) := by
  refine g_metp (by decide) (Nat.le_of_ble_eq_true rfl) ?_
  intro p e s m below meth c hx hb hr hml hown hts hlocks ls hl
  have hl : lv_has ls 3 [(0, .int (h)), (1, .int (r))] := hl
  have hown : s.vm.findClass R_Rounding = some m.cls := hown
  refine lv_iload_n hx hb d_Rounding_correctedBy_0 rfl (lv_at hl 0 rfl) ?_
  refine lv_if_ne (tgt := 9) hx hb d_Rounding_correctedBy_1 (by decide) (fun c1 => ?_) (fun c1 => ?_)
  · refine lv_iload_n hx hb d_Rounding_correctedBy_9 rfl (lv_at hl 1 rfl) ?_
    refine g_callpi (va_runS (As := [.int (r)]) (rest := []) ⟨hx, hb, hml, hown, hts⟩ (c_lowOf l r) (va_cwS 1 hts (g_goodS kw_445 kw_515 kw_444 kw_14) rfl rfl rfl (by decide +kernel) ⟨Nat.le_of_ble_eq_true rfl, Nat.le_of_ble_eq_true rfl⟩) ⟨fun _ _ _ _ q => q, fun _ _ _ => rfl⟩ rfl rfl hl.1 rfl (lv_room (Nat.le_of_ble_eq_true rfl)) d_Rounding_correctedBy_10 ⟨Nat.le_refl 0, Nat.le_refl 0⟩) (fun r1 q1 => ?_)
    refine g_topi (y := loP r) (q1) ?_
    refine lv_if_le (tgt := 20) hx hb d_Rounding_correctedBy_13 (by decide) (fun c13 => ?_) (fun c13 => ?_)
    · refine lv_sipush (v := nI (4095)) hx hb d_Rounding_correctedBy_20 (by decide) ?_
      refine lv_istore_n (lv' := [(2, .int (nI (4095))), (0, .int (h)), (1, .int (r))]) hx hb d_Rounding_correctedBy_23 rfl hl (by decide) rfl (fun ls hl => ?_)
      refine lv_iload_n hx hb d_Rounding_correctedBy_24 rfl (lv_at hl 2 rfl) ?_
      refine g_callpi (va_runS (As := [.int (r)]) (rest := []) ⟨hx, hb, hml, hown, hts⟩ (c_highOf l r) (va_cwS 1 hts (g_goodS kw_397 kw_454 kw_396 kw_14) rfl rfl rfl (by decide +kernel) ⟨Nat.le_of_ble_eq_true rfl, Nat.le_of_ble_eq_true rfl⟩) ⟨fun _ _ _ _ q => q, fun _ _ _ => rfl⟩ rfl rfl hl.1 rfl (lv_room (Nat.le_of_ble_eq_true rfl)) d_Rounding_correctedBy_25 ⟨Nat.le_refl 0, Nat.le_refl 0⟩) (fun r2 q2 => ?_)
      refine g_topi (y := hiP r) (q2) ?_
      refine lv_iload_n hx hb d_Rounding_correctedBy_28 rfl (lv_at hl 0 rfl) ?_
      refine lv_iadd hx hb d_Rounding_correctedBy_29 ?_
      refine lv_sipush (v := nI (4096)) hx hb d_Rounding_correctedBy_30 (by decide) ?_
      refine lv_irem hx hb d_Rounding_correctedBy_33 (by decide) ?_
      exact g_iretp hx hb hr hlocks (by unfold corP; rw [if_neg (show ¬ h = nI 0 from c1), if_neg (show ¬ nI 0 < loP r from Int32.not_lt.mpr c13)]) d_Rounding_correctedBy_34
    · refine lv_iconst (v := nI (1)) hx hb d_Rounding_correctedBy_16 (by decide) ?_
      refine lv_goto (tgt := 23) hx hb d_Rounding_correctedBy_17 (by decide) ?_
      refine lv_istore_n (lv' := [(2, .int (nI (1))), (0, .int (h)), (1, .int (r))]) hx hb d_Rounding_correctedBy_23 rfl hl (by decide) rfl (fun ls hl => ?_)
      refine lv_iload_n hx hb d_Rounding_correctedBy_24 rfl (lv_at hl 2 rfl) ?_
      refine g_callpi (va_runS (As := [.int (r)]) (rest := []) ⟨hx, hb, hml, hown, hts⟩ (c_highOf l r) (va_cwS 1 hts (g_goodS kw_397 kw_454 kw_396 kw_14) rfl rfl rfl (by decide +kernel) ⟨Nat.le_of_ble_eq_true rfl, Nat.le_of_ble_eq_true rfl⟩) ⟨fun _ _ _ _ q => q, fun _ _ _ => rfl⟩ rfl rfl hl.1 rfl (lv_room (Nat.le_of_ble_eq_true rfl)) d_Rounding_correctedBy_25 ⟨Nat.le_refl 0, Nat.le_refl 0⟩) (fun r2 q2 => ?_)
      refine g_topi (y := hiP r) (q2) ?_
      refine lv_iload_n hx hb d_Rounding_correctedBy_28 rfl (lv_at hl 0 rfl) ?_
      refine lv_iadd hx hb d_Rounding_correctedBy_29 ?_
      refine lv_sipush (v := nI (4096)) hx hb d_Rounding_correctedBy_30 (by decide) ?_
      refine lv_irem hx hb d_Rounding_correctedBy_33 (by decide) ?_
      exact g_iretp hx hb hr hlocks (by unfold corP; rw [if_neg (show ¬ h = nI 0 from c1), if_pos (show nI 0 < loP r from Int32.not_le.mp c13)]) d_Rounding_correctedBy_34
  · refine lv_iload_n hx hb d_Rounding_correctedBy_4 rfl (lv_at hl 1 rfl) ?_
    refine g_callpi (va_runS (As := [.int (r)]) (rest := []) ⟨hx, hb, hml, hown, hts⟩ (c_highOf l r) (va_cwS 1 hts (g_goodS kw_397 kw_454 kw_396 kw_14) rfl rfl rfl (by decide +kernel) ⟨Nat.le_of_ble_eq_true rfl, Nat.le_of_ble_eq_true rfl⟩) ⟨fun _ _ _ _ q => q, fun _ _ _ => rfl⟩ rfl rfl hl.1 rfl (lv_room (Nat.le_of_ble_eq_true rfl)) d_Rounding_correctedBy_5 ⟨Nat.le_refl 0, Nat.le_refl 0⟩) (fun r1 q1 => ?_)
    exact g_iretp hx hb hr hlocks (by rw [q1]; unfold corP; rw [if_pos (show h = nI 0 from c1)]) d_Rounding_correctedBy_8

set_option maxHeartbeats 4000000 in
set_option maxRecDepth 100000 in
theorem c_write (l : Launch) (V : Ev) (X : Mm) (kb : Nat) (hkb : 17 ≤ kb ∧ kb < 80) (fm pl bt : Nat) (x : Int32) (hbt : bt ≤ 31 ∧ pl ≤ 136) (hw : 8 * fm + pl * bt + bt ≤ 8 * g_len kb) : Met l y_Packing_write (Cond.code y_Packing_write b_Packing_write 9 none :: WA) ({ frames := 0, cells := 0, slots := 0, locals := 0 } : Room) (g_Pc V X [.ref (g_ad V kb), .int (nI (fm)), .int (nI (pl)), .int (nI (bt)), .int (x)]) (g_Qv V (fun X1 : Mm => X1.1 kb = wrN (X.1 kb) fm (pl * bt) x bt ∧ fr X X1 [kb] [] [])) 0 0 (g_A V) := by
  refine g_met (by decide) (Nat.le_of_ble_eq_true rfl) ?_
  intro p e s m below meth c hx hb hr hml hown hts hlocks hE hG ls hl
  have hl : lv_has ls 9 [(0, .ref (g_ad V kb)), (1, .int (nI (fm))), (2, .int (nI (pl))), (3, .int (nI (bt))), (4, .int (x))] := hl
  have hown : s.vm.findClass R_Packing = some m.cls := hown
  have hlen := g_len_le kb
  refine lv_iconst (v := nI (0)) hx hb d_Packing_write_0 (by decide) ?_
  refine lv_istore (lv' := [(5, .int (nI (0))), (0, .ref (g_ad V kb)), (1, .int (nI (fm))), (2, .int (nI (pl))), (3, .int (nI (bt))), (4, .int (x))]) hx hb d_Packing_write_1 hl (by decide) rfl (fun ls hl => ?_)
  have K3 : ∀ (n i : Nat), i + n = bt → ∀ (X1 : Mm) (H : Heap) (locs : List Loc), ∀ (ls : Array Slot), (fr X X1 [kb] [] []) → (X1.1 kb = wrN (X.1 kb) fm (pl * bt) x i) → g_st V X1 s.heap H locs → lv_has ls 9 [(0, .ref (g_ad V kb)), (1, .int (nI (fm))), (2, .int (nI (pl))), (3, .int (nI (bt))), (4, .int (x)), (5, .int (nI (i)))] → W p l e ({ frames := 0, cells := 0, slots := 0, locals := 0 } : Room) s m ([.ref (g_ad V kb), .int (nI (fm)), .int (nI (pl)), .int (nI (bt)), .int (x)] : List Value).toArray below meth c H locs 0 0 (MQ below (g_Qv V (fun X1 : Mm => X1.1 kb = wrN (X.1 kb) fm (pl * bt) x bt ∧ fr X X1 [kb] [] [])) ([.ref (g_ad V kb), .int (nI (fm)), .int (nI (pl)), .int (nI (bt)), .int (x)] : List Value).toArray s 0 0 (g_A V)) (F0 m 3 ls []) := by
    intro n
    induction n with
    | zero =>
      intro i hin3 X1 H locs ls hF hC hG hl
      have hi3 : bt = i := by omega
      subst hi3
      refine lv_iload hx hb d_Packing_write_3 (lv_at hl 5 rfl) ?_
      refine lv_iload_n hx hb d_Packing_write_5 rfl (lv_at hl 3 rfl) ?_
      refine lv_icmp_ge (tgt := 75) hx hb d_Packing_write_6 (by decide) (fun _ => ?_) (fun q => absurd ((g_geN (x := bt) (y := bt) (by omega) (by omega)).mp q) (by omega))
      exact g_vret hx hb hr hlocks hE hG (⟨hC, hF⟩) d_Packing_write_75
    | succ n ih3 =>
      intro i hin3 X1 H locs ls hF hC hG hl
      have hi3 : i < bt := by omega
      refine lv_iload hx hb d_Packing_write_3 (lv_at hl 5 rfl) ?_
      refine lv_iload_n hx hb d_Packing_write_5 rfl (lv_at hl 3 rfl) ?_
      refine lv_icmp_ge (tgt := 75) hx hb d_Packing_write_6 (by decide) (fun q => absurd ((g_ge (x := i) (y := bt) (by omega) (by omega)).mp q) (by omega)) (fun _ => ?_)
      refine lv_iload_n hx hb d_Packing_write_9 rfl (lv_at hl 2 rfl) ?_
      refine lv_iload_n hx hb d_Packing_write_10 rfl (lv_at hl 3 rfl) ?_
      refine lv_imul hx hb d_Packing_write_11 ?_
      refine g_topi (y := nI (pl * bt)) (pk_mul _ _) ?_
      refine lv_iload hx hb d_Packing_write_12 (lv_at hl 5 rfl) ?_
      refine lv_iadd hx hb d_Packing_write_14 ?_
      refine g_topi (y := nI ((pl * bt) + i)) (nI_add _ _) ?_
      refine lv_istore (lv' := [(6, .int (nI ((pl * bt) + i))), (0, .ref (g_ad V kb)), (1, .int (nI (fm))), (2, .int (nI (pl))), (3, .int (nI (bt))), (4, .int (x)), (5, .int (nI (i)))]) hx hb d_Packing_write_15 hl (by decide) rfl (fun ls hl => ?_)
      refine lv_iconst (v := nI (1)) hx hb d_Packing_write_17 (by decide) ?_
      refine lv_iload hx hb d_Packing_write_18 (lv_at hl 0 rfl) ?_
      refine lv_bipush (v := nI (8)) hx hb d_Packing_write_20 (by decide) ?_
      refine lv_irem hx hb d_Packing_write_22 (by decide) ?_
      refine g_topi (y := nI (((pl * bt) + i) % 8)) (pk_rem (by omega) (by omega) (by omega)) ?_
      refine lv_ishl hx hb d_Packing_write_23 ?_
      refine lv_istore (lv' := [(7, .int ((nI (1)) <<< ((nI (((pl * bt) + i) % 8)) &&& 31))), (6, .int (nI ((pl * bt) + i))), (0, .ref (g_ad V kb)), (1, .int (nI (fm))), (2, .int (nI (pl))), (3, .int (nI (bt))), (4, .int (x)), (5, .int (nI (i)))]) hx hb d_Packing_write_24 hl (by decide) rfl (fun ls hl => ?_)
      refine lv_iload_n hx hb d_Packing_write_26 rfl (lv_at hl 3 rfl) ?_
      refine lv_iload hx hb d_Packing_write_27 (lv_at hl 1 rfl) ?_
      refine lv_bipush (v := nI (8)) hx hb d_Packing_write_29 (by decide) ?_
      refine lv_idiv hx hb d_Packing_write_31 (by decide) ?_
      refine g_topi (y := nI (((pl * bt) + i) / 8)) (pk_div (by omega) (by omega) (by omega)) ?_
      refine lv_iadd hx hb d_Packing_write_32 ?_
      refine g_topi (y := nI (fm + (((pl * bt) + i) / 8))) (nI_add _ _) ?_
      refine lv_istore (lv' := [(8, .int (nI (fm + (((pl * bt) + i) / 8)))), (7, .int ((nI (1)) <<< ((nI (((pl * bt) + i) % 8)) &&& 31))), (6, .int (nI ((pl * bt) + i))), (0, .ref (g_ad V kb)), (1, .int (nI (fm))), (2, .int (nI (pl))), (3, .int (nI (bt))), (4, .int (x)), (5, .int (nI (i)))]) hx hb d_Packing_write_33 hl (by decide) rfl (fun ls hl => ?_)
      refine lv_aload_n hx hb d_Packing_write_35 rfl (lv_at hl 3 rfl) ?_
      refine lv_iload hx hb d_Packing_write_36 (lv_at hl 0 rfl) ?_
      refine lv_iload hx hb d_Packing_write_38 (lv_at hl 7 rfl) ?_
      refine lv_iload hx hb d_Packing_write_40 (lv_at hl 8 rfl) ?_
      refine lv_ishr hx hb d_Packing_write_42 ?_
      refine lv_iconst (v := nI (1)) hx hb d_Packing_write_43 (by decide) ?_
      refine lv_iand hx hb d_Packing_write_44 ?_
      refine lv_iconst (v := nI (1)) hx hb d_Packing_write_45 (by decide) ?_
      refine lv_icmp_ne (tgt := 59) hx hb d_Packing_write_46 (by decide) (fun c46 => ?_) (fun c46 => ?_)
      · refine lv_aload_n hx hb d_Packing_write_59 rfl (lv_at hl 3 rfl) ?_
        refine lv_iload hx hb d_Packing_write_60 (lv_at hl 0 rfl) ?_
        refine g_iald hx hb hE hG kb (by omega) (fm + (((pl * bt) + i) / 8)) (rfl) (by omega) (v := X1.1 kb (fm + (((pl * bt) + i) / 8))) (rfl) d_Packing_write_62 ?_
        refine lv_iload hx hb d_Packing_write_63 (lv_at hl 1 rfl) ?_
        refine lv_iconst (v := -1) hx hb d_Packing_write_65 (by decide) ?_
        refine lv_ixor hx hb d_Packing_write_66 ?_
        refine lv_iand hx hb d_Packing_write_67 ?_
        refine g_iast (x := (X1.1 kb (fm + (((pl * bt) + i) / 8))) &&& (((nI (1)) <<< ((nI (((pl * bt) + i) % 8)) &&& 31)) ^^^ (-1))) hx hb hE hG kb (by omega) (fm + (((pl * bt) + i) / 8)) (rfl) (by omega) d_Packing_write_68 (fun H locs hG => ?_)
        refine lv_iinc (v := nI (i + 1)) (lv' := [(5, .int (nI (i + 1))), (8, .int (nI (fm + (((pl * bt) + i) / 8)))), (7, .int ((nI (1)) <<< ((nI (((pl * bt) + i) % 8)) &&& 31))), (6, .int (nI ((pl * bt) + i))), (0, .ref (g_ad V kb)), (1, .int (nI (fm))), (2, .int (nI (pl))), (3, .int (nI (bt))), (4, .int (x))]) hx hb d_Packing_write_69 hl (k := 8) rfl (g_inc _) (by decide) rfl (fun ls hl => ?_)
        refine lv_goto (tgt := 3) hx hb d_Packing_write_72 (by decide) ?_
        exact ih3 (i + 1) (by omega) (uI X1 kb (upd (X1.1 kb) (fm + (((pl * bt) + i) / 8)) ((X1.1 kb (fm + (((pl * bt) + i) / 8))) &&& (((nI (1)) <<< ((nI (((pl * bt) + i) % 8)) &&& 31)) ^^^ (-1))))) _ _ ls (fr_i hF _ List.mem_cons_self) (by rw [uI_s, hC]; exact wrN_n _ _ _ _ _ c46) hG (lv_sub hl [4, 5, 6, 7, 8, 0] rfl)
      · refine lv_aload_n hx hb d_Packing_write_49 rfl (lv_at hl 3 rfl) ?_
        refine lv_iload hx hb d_Packing_write_50 (lv_at hl 0 rfl) ?_
        refine g_iald hx hb hE hG kb (by omega) (fm + (((pl * bt) + i) / 8)) (rfl) (by omega) (v := X1.1 kb (fm + (((pl * bt) + i) / 8))) (rfl) d_Packing_write_52 ?_
        refine lv_iload hx hb d_Packing_write_53 (lv_at hl 1 rfl) ?_
        refine lv_ior hx hb d_Packing_write_55 ?_
        refine lv_goto (tgt := 68) hx hb d_Packing_write_56 (by decide) ?_
        refine g_iast (x := (X1.1 kb (fm + (((pl * bt) + i) / 8))) ||| ((nI (1)) <<< ((nI (((pl * bt) + i) % 8)) &&& 31))) hx hb hE hG kb (by omega) (fm + (((pl * bt) + i) / 8)) (rfl) (by omega) d_Packing_write_68 (fun H locs hG => ?_)
        refine lv_iinc (v := nI (i + 1)) (lv' := [(5, .int (nI (i + 1))), (8, .int (nI (fm + (((pl * bt) + i) / 8)))), (7, .int ((nI (1)) <<< ((nI (((pl * bt) + i) % 8)) &&& 31))), (6, .int (nI ((pl * bt) + i))), (0, .ref (g_ad V kb)), (1, .int (nI (fm))), (2, .int (nI (pl))), (3, .int (nI (bt))), (4, .int (x))]) hx hb d_Packing_write_69 hl (k := 8) rfl (g_inc _) (by decide) rfl (fun ls hl => ?_)
        refine lv_goto (tgt := 3) hx hb d_Packing_write_72 (by decide) ?_
        exact ih3 (i + 1) (by omega) (uI X1 kb (upd (X1.1 kb) (fm + (((pl * bt) + i) / 8)) ((X1.1 kb (fm + (((pl * bt) + i) / 8))) ||| ((nI (1)) <<< ((nI (((pl * bt) + i) % 8)) &&& 31))))) _ _ ls (fr_i hF _ List.mem_cons_self) (by rw [uI_s, hC]; exact wrN_y _ _ _ _ _ c46) hG (lv_sub hl [4, 5, 6, 7, 8, 0] rfl)
  exact K3 (bt - 0) 0 (by omega) X _ _ ls (fr_rf X _ _ _) rfl hG (lv_sub hl [1, 2, 3, 4, 5, 0] rfl)

set_option maxHeartbeats 4000000 in
set_option maxRecDepth 100000 in
theorem c_read (l : Launch) (V : Ev) (X : Mm) (kb : Nat) (hkb : 17 ≤ kb ∧ kb < 80) (fm pl bt : Nat) (hbt : bt ≤ 31 ∧ pl ≤ 136) (hw : 8 * fm + pl * bt + bt ≤ 8 * g_len kb) : Met l y_Packing_read (Cond.code y_Packing_read b_Packing_read 7 (some .int) :: WA) ({ frames := 0, cells := 0, slots := 0, locals := 0 } : Room) (g_Pc V X [.ref (g_ad V kb), .int (nI (fm)), .int (nI (pl)), .int (nI (bt))]) (g_Qi V (fun (r : Int32) (X1 : Mm) => r = rdN (X.1 kb) fm (pl * bt) bt ∧ X = X1)) 0 0 (g_A V) := by
  refine g_met (by decide) (Nat.le_of_ble_eq_true rfl) ?_
  intro p e s m below meth c hx hb hr hml hown hts hlocks hE hG ls hl
  have hl : lv_has ls 7 [(0, .ref (g_ad V kb)), (1, .int (nI (fm))), (2, .int (nI (pl))), (3, .int (nI (bt)))] := hl
  have hown : s.vm.findClass R_Packing = some m.cls := hown
  have hlen := g_len_le kb
  refine lv_iconst (v := nI (0)) hx hb d_Packing_read_0 (by decide) ?_
  refine lv_istore (lv' := [(4, .int (nI (0))), (0, .ref (g_ad V kb)), (1, .int (nI (fm))), (2, .int (nI (pl))), (3, .int (nI (bt)))]) hx hb d_Packing_read_1 hl (by decide) rfl (fun ls hl => ?_)
  refine lv_iconst (v := nI (0)) hx hb d_Packing_read_3 (by decide) ?_
  refine lv_istore (lv' := [(5, .int (nI (0))), (4, .int (nI (0))), (0, .ref (g_ad V kb)), (1, .int (nI (fm))), (2, .int (nI (pl))), (3, .int (nI (bt)))]) hx hb d_Packing_read_4 hl (by decide) rfl (fun ls hl => ?_)
  have K6 : ∀ (n i : Nat), i + n = bt → ∀ (ls : Array Slot), lv_has ls 7 [(0, .ref (g_ad V kb)), (1, .int (nI (fm))), (2, .int (nI (pl))), (3, .int (nI (bt))), (4, .int (rdN (X.1 kb) fm (pl * bt) i)), (5, .int (nI (i)))] → W p l e ({ frames := 0, cells := 0, slots := 0, locals := 0 } : Room) s m ([.ref (g_ad V kb), .int (nI (fm)), .int (nI (pl)), .int (nI (bt))] : List Value).toArray below meth c s.heap [] 0 0 (MQ below (g_Qi V (fun (r : Int32) (X1 : Mm) => r = rdN (X.1 kb) fm (pl * bt) bt ∧ X = X1)) ([.ref (g_ad V kb), .int (nI (fm)), .int (nI (pl)), .int (nI (bt))] : List Value).toArray s 0 0 (g_A V)) (F0 m 6 ls []) := by
    intro n
    induction n with
    | zero =>
      intro i hin6 ls hl
      have hi6 : bt = i := by omega
      subst hi6
      refine lv_iload hx hb d_Packing_read_6 (lv_at hl 5 rfl) ?_
      refine lv_iload_n hx hb d_Packing_read_8 rfl (lv_at hl 3 rfl) ?_
      refine lv_icmp_ge (tgt := 51) hx hb d_Packing_read_9 (by decide) (fun _ => ?_) (fun q => absurd ((g_geN (x := bt) (y := bt) (by omega) (by omega)).mp q) (by omega))
      refine lv_iload hx hb d_Packing_read_51 (lv_at hl 4 rfl) ?_
      exact g_iret hx hb hr hlocks hE hG (⟨rfl, rfl⟩) d_Packing_read_53
    | succ n ih6 =>
      intro i hin6 ls hl
      have hi6 : i < bt := by omega
      refine lv_iload hx hb d_Packing_read_6 (lv_at hl 5 rfl) ?_
      refine lv_iload_n hx hb d_Packing_read_8 rfl (lv_at hl 3 rfl) ?_
      refine lv_icmp_ge (tgt := 51) hx hb d_Packing_read_9 (by decide) (fun q => absurd ((g_ge (x := i) (y := bt) (by omega) (by omega)).mp q) (by omega)) (fun _ => ?_)
      refine lv_iload_n hx hb d_Packing_read_12 rfl (lv_at hl 2 rfl) ?_
      refine lv_iload_n hx hb d_Packing_read_13 rfl (lv_at hl 3 rfl) ?_
      refine lv_imul hx hb d_Packing_read_14 ?_
      refine g_topi (y := nI (pl * bt)) (pk_mul _ _) ?_
      refine lv_iload hx hb d_Packing_read_15 (lv_at hl 5 rfl) ?_
      refine lv_iadd hx hb d_Packing_read_17 ?_
      refine g_topi (y := nI ((pl * bt) + i)) (nI_add _ _) ?_
      refine lv_istore (lv' := [(6, .int (nI ((pl * bt) + i))), (0, .ref (g_ad V kb)), (1, .int (nI (fm))), (2, .int (nI (pl))), (3, .int (nI (bt))), (4, .int (rdN (X.1 kb) fm (pl * bt) i)), (5, .int (nI (i)))]) hx hb d_Packing_read_18 hl (by decide) rfl (fun ls hl => ?_)
      refine lv_iload hx hb d_Packing_read_20 (lv_at hl 5 rfl) ?_
      refine lv_aload_n hx hb d_Packing_read_22 rfl (lv_at hl 1 rfl) ?_
      refine lv_iload_n hx hb d_Packing_read_23 rfl (lv_at hl 2 rfl) ?_
      refine lv_iload hx hb d_Packing_read_24 (lv_at hl 0 rfl) ?_
      refine lv_bipush (v := nI (8)) hx hb d_Packing_read_26 (by decide) ?_
      refine lv_idiv hx hb d_Packing_read_28 (by decide) ?_
      refine g_topi (y := nI (((pl * bt) + i) / 8)) (pk_div (by omega) (by omega) (by omega)) ?_
      refine lv_iadd hx hb d_Packing_read_29 ?_
      refine g_topi (y := nI (fm + (((pl * bt) + i) / 8))) (nI_add _ _) ?_
      refine g_iald hx hb hE hG kb (by omega) (fm + (((pl * bt) + i) / 8)) (rfl) (by omega) (v := X.1 kb (fm + (((pl * bt) + i) / 8))) (rfl) d_Packing_read_30 ?_
      refine lv_iload hx hb d_Packing_read_31 (lv_at hl 0 rfl) ?_
      refine lv_bipush (v := nI (8)) hx hb d_Packing_read_33 (by decide) ?_
      refine lv_irem hx hb d_Packing_read_35 (by decide) ?_
      refine g_topi (y := nI (((pl * bt) + i) % 8)) (pk_rem (by omega) (by omega) (by omega)) ?_
      refine lv_ishr hx hb d_Packing_read_36 ?_
      refine lv_iconst (v := nI (1)) hx hb d_Packing_read_37 (by decide) ?_
      refine lv_iand hx hb d_Packing_read_38 ?_
      refine lv_iload hx hb d_Packing_read_39 (lv_at hl 6 rfl) ?_
      refine lv_ishl hx hb d_Packing_read_41 ?_
      refine lv_ior hx hb d_Packing_read_42 ?_
      refine lv_istore (lv' := [(4, .int ((rdN (X.1 kb) fm (pl * bt) i) ||| ((((X.1 kb (fm + (((pl * bt) + i) / 8))) >>> ((nI (((pl * bt) + i) % 8)) &&& 31)) &&& (nI (1))) <<< ((nI (i)) &&& 31)))), (6, .int (nI ((pl * bt) + i))), (0, .ref (g_ad V kb)), (1, .int (nI (fm))), (2, .int (nI (pl))), (3, .int (nI (bt))), (5, .int (nI (i)))]) hx hb d_Packing_read_43 hl (by decide) rfl (fun ls hl => ?_)
      refine lv_iinc (v := nI (i + 1)) (lv' := [(5, .int (nI (i + 1))), (4, .int ((rdN (X.1 kb) fm (pl * bt) i) ||| ((((X.1 kb (fm + (((pl * bt) + i) / 8))) >>> ((nI (((pl * bt) + i) % 8)) &&& 31)) &&& (nI (1))) <<< ((nI (i)) &&& 31)))), (6, .int (nI ((pl * bt) + i))), (0, .ref (g_ad V kb)), (1, .int (nI (fm))), (2, .int (nI (pl))), (3, .int (nI (bt)))]) hx hb d_Packing_read_45 hl (k := 6) rfl (g_inc _) (by decide) rfl (fun ls hl => ?_)
      refine lv_goto (tgt := 6) hx hb d_Packing_read_48 (by decide) ?_
      exact ih6 (i + 1) (by omega) ls (lv_sub hl [3, 4, 5, 6, 1, 0] rfl)
  exact K6 (bt - 0) 0 (by omega) ls (lv_sub hl [2, 3, 4, 5, 1, 0] rfl)

set_option maxHeartbeats 4000000 in
set_option maxRecDepth 100000 in
theorem c_productAt (l : Launch) (V : Ev) (X : Mm) (i : Nat) (hi : i < 16) (kf : Nat) (hkf : 17 ≤ kf ∧ kf < 80) (fo : Nat) (hfo : fo + 16 ≤ g_len kf) (kg : Nat) (hkg : 17 ≤ kg ∧ kg < 80) (go : Nat) (hgo : go + 16 ≤ g_len kg) : Met l y_Ring_productAt (Cond.code y_Ring_productAt b_Ring_productAt 8 (some .long) :: WA) ({ frames := 0, cells := 0, slots := 0, locals := 0 } : Room) (g_Pc V X [.int (nI (i)), .ref (g_ad V kf), .int (nI (fo)), .ref (g_ad V kg), .int (nI (go))]) (g_Ql V (fun (r : Int64) (X1 : Mm) => r = pA (shI (X.1 kf) fo) (shI (X.1 kg) go) i 16 ∧ X = X1)) 0 0 (g_A V) := by
  refine g_met (by decide) (Nat.le_of_ble_eq_true rfl) ?_
  intro p e s m below meth c hx hb hr hml hown hts hlocks hE hG ls hl
  have hl : lv_has ls 8 [(0, .int (nI (i))), (1, .ref (g_ad V kf)), (2, .int (nI (fo))), (3, .ref (g_ad V kg)), (4, .int (nI (go)))] := hl
  have hown : s.vm.findClass R_Ring = some m.cls := hown
  have hl1 := g_len_le kf
  have hl2 := g_len_le kg
  refine lv_lconst (v := 0) hx hb d_Ring_productAt_0 (by decide) ?_
  refine lv_lstore (lv' := [(5, .long (0)), (0, .int (nI (i))), (1, .ref (g_ad V kf)), (2, .int (nI (fo))), (3, .ref (g_ad V kg)), (4, .int (nI (go)))]) hx hb d_Ring_productAt_1 hl (by decide) rfl (fun ls hl => ?_)
  refine lv_iconst (v := nI (0)) hx hb d_Ring_productAt_3 (by decide) ?_
  refine lv_istore (lv' := [(7, .int (nI (0))), (5, .long (0)), (0, .int (nI (i))), (1, .ref (g_ad V kf)), (2, .int (nI (fo))), (3, .ref (g_ad V kg)), (4, .int (nI (go)))]) hx hb d_Ring_productAt_4 hl (by decide) rfl (fun ls hl => ?_)
  have K6 : ∀ (n j : Nat), j + n = i + 1 → ∀ (ls : Array Slot), lv_has ls 8 [(0, .int (nI (i))), (1, .ref (g_ad V kf)), (2, .int (nI (fo))), (3, .ref (g_ad V kg)), (4, .int (nI (go))), (5, .long (pA (shI (X.1 kf) fo) (shI (X.1 kg) go) i j)), (7, .int (nI (j)))] → W p l e ({ frames := 0, cells := 0, slots := 0, locals := 0 } : Room) s m ([.int (nI (i)), .ref (g_ad V kf), .int (nI (fo)), .ref (g_ad V kg), .int (nI (go))] : List Value).toArray below meth c s.heap [] 0 0 (MQ below (g_Ql V (fun (r : Int64) (X1 : Mm) => r = pA (shI (X.1 kf) fo) (shI (X.1 kg) go) i 16 ∧ X = X1)) ([.int (nI (i)), .ref (g_ad V kf), .int (nI (fo)), .ref (g_ad V kg), .int (nI (go))] : List Value).toArray s 0 0 (g_A V)) (F0 m 6 ls []) := by
    intro n
    induction n with
    | zero =>
      intro j hin6 ls hl
      have hi6 : i + 1 = j := by omega
      subst hi6
      refine lv_iload hx hb d_Ring_productAt_6 (lv_at hl 6 rfl) ?_
      refine lv_iload_n hx hb d_Ring_productAt_8 rfl (lv_at hl 0 rfl) ?_
      refine lv_icmp_gt (tgt := 41) hx hb d_Ring_productAt_9 (by decide) (fun _ => ?_) (fun q => absurd ((g_gtN (x := (i + 1)) (y := i) (by omega) (by omega)).mp q) (by omega))
      refine lv_iload_n hx hb d_Ring_productAt_41 rfl (lv_at hl 0 rfl) ?_
      refine lv_iconst (v := nI (1)) hx hb d_Ring_productAt_42 (by decide) ?_
      refine lv_iadd hx hb d_Ring_productAt_43 ?_
      refine g_topi (y := nI (i + 1)) (nI_add _ _) ?_
      refine lv_istore (lv' := [(7, .int (nI (i + 1))), (0, .int (nI (i))), (1, .ref (g_ad V kf)), (2, .int (nI (fo))), (3, .ref (g_ad V kg)), (4, .int (nI (go))), (5, .long (pA (shI (X.1 kf) fo) (shI (X.1 kg) go) i (i + 1)))]) hx hb d_Ring_productAt_44 hl (by decide) rfl (fun ls hl => ?_)
      have K46 : ∀ (n j : Nat), j + n = 16 → ∀ (ls : Array Slot), (i + 1 ≤ j) → lv_has ls 8 [(0, .int (nI (i))), (1, .ref (g_ad V kf)), (2, .int (nI (fo))), (3, .ref (g_ad V kg)), (4, .int (nI (go))), (5, .long (pA (shI (X.1 kf) fo) (shI (X.1 kg) go) i j)), (7, .int (nI (j)))] → W p l e ({ frames := 0, cells := 0, slots := 0, locals := 0 } : Room) s m ([.int (nI (i)), .ref (g_ad V kf), .int (nI (fo)), .ref (g_ad V kg), .int (nI (go))] : List Value).toArray below meth c s.heap [] 0 0 (MQ below (g_Ql V (fun (r : Int64) (X1 : Mm) => r = pA (shI (X.1 kf) fo) (shI (X.1 kg) go) i 16 ∧ X = X1)) ([.int (nI (i)), .ref (g_ad V kf), .int (nI (fo)), .ref (g_ad V kg), .int (nI (go))] : List Value).toArray s 0 0 (g_A V)) (F0 m 46 ls []) := by
        intro n
        induction n with
        | zero =>
          intro j hin46 ls hj hl
          have hi46 : 16 = j := by omega
          subst hi46
          refine lv_iload hx hb d_Ring_productAt_46 (lv_at hl 6 rfl) ?_
          refine lv_bipush (v := nI (16)) hx hb d_Ring_productAt_48 (by decide) ?_
          refine lv_icmp_ge (tgt := 85) hx hb d_Ring_productAt_50 (by decide) (fun _ => ?_) (fun q => absurd ((g_geN (x := 16) (y := 16) (by omega) (by omega)).mp q) (by omega))
          refine lv_lload hx hb d_Ring_productAt_85 (lv_at hl 5 rfl) ?_
          exact g_lret hx hb hr hlocks hE hG (⟨rfl, rfl⟩) d_Ring_productAt_87
        | succ n ih46 =>
          intro j hin46 ls hj hl
          have hi46 : j < 16 := by omega
          refine lv_iload hx hb d_Ring_productAt_46 (lv_at hl 6 rfl) ?_
          refine lv_bipush (v := nI (16)) hx hb d_Ring_productAt_48 (by decide) ?_
          refine lv_icmp_ge (tgt := 85) hx hb d_Ring_productAt_50 (by decide) (fun q => absurd ((g_ge (x := j) (y := 16) (by omega) (by omega)).mp q) (by omega)) (fun _ => ?_)
          refine lv_lload hx hb d_Ring_productAt_53 (lv_at hl 5 rfl) ?_
          refine lv_aload_n hx hb d_Ring_productAt_55 rfl (lv_at hl 1 rfl) ?_
          refine lv_iload_n hx hb d_Ring_productAt_56 rfl (lv_at hl 2 rfl) ?_
          refine lv_iload hx hb d_Ring_productAt_57 (lv_at hl 6 rfl) ?_
          refine lv_iadd hx hb d_Ring_productAt_59 ?_
          refine g_topi (y := nI (fo + j)) (nI_add _ _) ?_
          refine g_iald hx hb hE hG kf (by omega) (fo + j) (rfl) (by omega) (v := X.1 kf (fo + j)) (rfl) d_Ring_productAt_60 ?_
          refine lv_i2l (v := (X.1 kf (fo + j)).toInt64) hx hb d_Ring_productAt_61 rfl ?_
          refine lv_aload_n hx hb d_Ring_productAt_62 rfl (lv_at hl 3 rfl) ?_
          refine lv_iload hx hb d_Ring_productAt_63 (lv_at hl 4 rfl) ?_
          refine lv_bipush (v := nI (16)) hx hb d_Ring_productAt_65 (by decide) ?_
          refine lv_iadd hx hb d_Ring_productAt_67 ?_
          refine g_topi (y := nI (go + 16)) (nI_add _ _) ?_
          refine lv_iload_n hx hb d_Ring_productAt_68 rfl (lv_at hl 0 rfl) ?_
          refine lv_iadd hx hb d_Ring_productAt_69 ?_
          refine g_topi (y := nI ((go + 16) + i)) (nI_add _ _) ?_
          refine lv_iload hx hb d_Ring_productAt_70 (lv_at hl 6 rfl) ?_
          refine lv_isub hx hb d_Ring_productAt_72 ?_
          refine g_topi (y := nI (((go + 16) + i) - j)) (pk_sub (by omega)) ?_
          refine g_iald hx hb hE hG kg (by omega) (go + (16 + i - j)) (congrArg nI (by omega)) (by omega) (v := X.1 kg (go + (16 + i - j))) (rfl) d_Ring_productAt_73 ?_
          refine lv_i2l (v := (X.1 kg (go + (16 + i - j))).toInt64) hx hb d_Ring_productAt_74 rfl ?_
          refine lv_lmul hx hb d_Ring_productAt_75 ?_
          refine lv_lsub hx hb d_Ring_productAt_76 ?_
          refine g_topl (y := pA (shI (X.1 kf) fo) (shI (X.1 kg) go) i (j + 1)) ((pA_hi _ _ (by omega)).symm) ?_
          refine lv_lstore (lv' := [(5, .long (pA (shI (X.1 kf) fo) (shI (X.1 kg) go) i (j + 1))), (0, .int (nI (i))), (1, .ref (g_ad V kf)), (2, .int (nI (fo))), (3, .ref (g_ad V kg)), (4, .int (nI (go))), (7, .int (nI (j)))]) hx hb d_Ring_productAt_77 hl (by decide) rfl (fun ls hl => ?_)
          refine lv_iinc (v := nI (j + 1)) (lv' := [(7, .int (nI (j + 1))), (5, .long (pA (shI (X.1 kf) fo) (shI (X.1 kg) go) i (j + 1))), (0, .int (nI (i))), (1, .ref (g_ad V kf)), (2, .int (nI (fo))), (3, .ref (g_ad V kg)), (4, .int (nI (go)))]) hx hb d_Ring_productAt_79 hl (k := 6) rfl (g_inc _) (by decide) rfl (fun ls hl => ?_)
          refine lv_goto (tgt := 46) hx hb d_Ring_productAt_82 (by decide) ?_
          exact ih46 (j + 1) (by omega) ls (by omega) (lv_sub hl [2, 3, 4, 5, 6, 1, 0] rfl)
      exact K46 (16 - (i + 1)) (i + 1) (by omega) ls (Nat.le_refl _) (lv_sub hl [1, 2, 3, 4, 5, 6, 0] rfl)
    | succ n ih6 =>
      intro j hin6 ls hl
      have hi6 : j < i + 1 := by omega
      refine lv_iload hx hb d_Ring_productAt_6 (lv_at hl 6 rfl) ?_
      refine lv_iload_n hx hb d_Ring_productAt_8 rfl (lv_at hl 0 rfl) ?_
      refine lv_icmp_gt (tgt := 41) hx hb d_Ring_productAt_9 (by decide) (fun q => absurd ((g_gt (x := j) (y := i) (by omega) (by omega)).mp q) (by omega)) (fun _ => ?_)
      refine lv_lload hx hb d_Ring_productAt_12 (lv_at hl 5 rfl) ?_
      refine lv_aload_n hx hb d_Ring_productAt_14 rfl (lv_at hl 1 rfl) ?_
      refine lv_iload_n hx hb d_Ring_productAt_15 rfl (lv_at hl 2 rfl) ?_
      refine lv_iload hx hb d_Ring_productAt_16 (lv_at hl 6 rfl) ?_
      refine lv_iadd hx hb d_Ring_productAt_18 ?_
      refine g_topi (y := nI (fo + j)) (nI_add _ _) ?_
      refine g_iald hx hb hE hG kf (by omega) (fo + j) (rfl) (by omega) (v := X.1 kf (fo + j)) (rfl) d_Ring_productAt_19 ?_
      refine lv_i2l (v := (X.1 kf (fo + j)).toInt64) hx hb d_Ring_productAt_20 rfl ?_
      refine lv_aload_n hx hb d_Ring_productAt_21 rfl (lv_at hl 3 rfl) ?_
      refine lv_iload hx hb d_Ring_productAt_22 (lv_at hl 4 rfl) ?_
      refine lv_iload_n hx hb d_Ring_productAt_24 rfl (lv_at hl 0 rfl) ?_
      refine lv_iadd hx hb d_Ring_productAt_25 ?_
      refine g_topi (y := nI (go + i)) (nI_add _ _) ?_
      refine lv_iload hx hb d_Ring_productAt_26 (lv_at hl 6 rfl) ?_
      refine lv_isub hx hb d_Ring_productAt_28 ?_
      refine g_topi (y := nI ((go + i) - j)) (pk_sub (by omega)) ?_
      refine g_iald hx hb hE hG kg (by omega) (go + (i - j)) (congrArg nI (by omega)) (by omega) (v := X.1 kg (go + (i - j))) (rfl) d_Ring_productAt_29 ?_
      refine lv_i2l (v := (X.1 kg (go + (i - j))).toInt64) hx hb d_Ring_productAt_30 rfl ?_
      refine lv_lmul hx hb d_Ring_productAt_31 ?_
      refine lv_ladd hx hb d_Ring_productAt_32 ?_
      refine g_topl (y := pA (shI (X.1 kf) fo) (shI (X.1 kg) go) i (j + 1)) ((pA_lo _ _ (by omega)).symm) ?_
      refine lv_lstore (lv' := [(5, .long (pA (shI (X.1 kf) fo) (shI (X.1 kg) go) i (j + 1))), (0, .int (nI (i))), (1, .ref (g_ad V kf)), (2, .int (nI (fo))), (3, .ref (g_ad V kg)), (4, .int (nI (go))), (7, .int (nI (j)))]) hx hb d_Ring_productAt_33 hl (by decide) rfl (fun ls hl => ?_)
      refine lv_iinc (v := nI (j + 1)) (lv' := [(7, .int (nI (j + 1))), (5, .long (pA (shI (X.1 kf) fo) (shI (X.1 kg) go) i (j + 1))), (0, .int (nI (i))), (1, .ref (g_ad V kf)), (2, .int (nI (fo))), (3, .ref (g_ad V kg)), (4, .int (nI (go)))]) hx hb d_Ring_productAt_35 hl (k := 6) rfl (g_inc _) (by decide) rfl (fun ls hl => ?_)
      refine lv_goto (tgt := 6) hx hb d_Ring_productAt_38 (by decide) ?_
      exact ih6 (j + 1) (by omega) ls (lv_sub hl [2, 3, 4, 5, 6, 1, 0] rfl)
  exact K6 (i + 1 - 0) 0 (by omega) ls (lv_sub hl [2, 3, 4, 5, 6, 1, 0] rfl)

set_option maxHeartbeats 4000000 in
set_option maxRecDepth 100000 in
theorem c_applyMatrix (l : Launch) (V : Ev) (X : Mm) (km : Nat) (hkm : 17 ≤ km ∧ km < 80) (hlm : g_len km = 64) (kv : Nat) (hkv : 17 ≤ kv ∧ kv < 80) (hlv : g_len kv = 32) (ki : Nat) (hki : 17 ≤ ki ∧ ki < 80) (hli : g_len ki = 32) (hmi : km ≠ ki) (hvi : kv ≠ ki) : Met l y_Ring_applyMatrix (Cond.code y_Ring_applyMatrix b_Ring_applyMatrix 4 none :: WA) ({ frames := 1, cells := 0, slots := 0, locals := 27 } : Room) (g_Pc V X [.ref (g_ad V km), .ref (g_ad V kv), .ref (g_ad V ki)]) (g_Qv V (fun X1 : Mm => X1.1 ki = mmP (X.1 km) (X.1 kv) ∧ fr X X1 [ki] [] [])) 0 0 (g_A V) := by
  refine g_met (by decide) (Nat.le_of_ble_eq_true rfl) ?_
  intro p e s m below meth c hx hb hr hml hown hts hlocks hE hG ls hl
  have hl : lv_has ls 4 [(0, .ref (g_ad V km)), (1, .ref (g_ad V kv)), (2, .ref (g_ad V ki))] := hl
  have hown : s.vm.findClass R_Ring = some m.cls := hown
  refine lv_iconst (v := nI (0)) hx hb d_Ring_applyMatrix_0 (by decide) ?_
  refine lv_istore_n (lv' := [(3, .int (nI (0))), (0, .ref (g_ad V km)), (1, .ref (g_ad V kv)), (2, .ref (g_ad V ki))]) hx hb d_Ring_applyMatrix_1 rfl hl (by decide) rfl (fun ls hl => ?_)
  have K2 : ∀ (n i : Nat), i + n = 16 → ∀ (X1 : Mm) (H : Heap) (locs : List Loc), ∀ (ls : Array Slot), (fr X X1 [ki] [] []) → (X1.1 ki = hvS (mmP (X.1 km) (X.1 kv)) (X.1 ki) i) → g_st V X1 s.heap H locs → lv_has ls 4 [(0, .ref (g_ad V km)), (1, .ref (g_ad V kv)), (2, .ref (g_ad V ki)), (3, .int (nI (i)))] → W p l e ({ frames := 1, cells := 0, slots := 0, locals := 27 } : Room) s m ([.ref (g_ad V km), .ref (g_ad V kv), .ref (g_ad V ki)] : List Value).toArray below meth c H locs 0 0 (MQ below (g_Qv V (fun X1 : Mm => X1.1 ki = mmP (X.1 km) (X.1 kv) ∧ fr X X1 [ki] [] [])) ([.ref (g_ad V km), .ref (g_ad V kv), .ref (g_ad V ki)] : List Value).toArray s 0 0 (g_A V)) (F0 m 2 ls []) := by
    intro n
    induction n with
    | zero =>
      intro i hin2 X1 H locs ls hF hC hG hl
      have hi2 : 16 = i := by omega
      subst hi2
      refine lv_iload_n hx hb d_Ring_applyMatrix_2 rfl (lv_at hl 3 rfl) ?_
      refine lv_bipush (v := nI (16)) hx hb d_Ring_applyMatrix_3 (by decide) ?_
      refine lv_icmp_ge (tgt := 68) hx hb d_Ring_applyMatrix_5 (by decide) (fun _ => ?_) (fun q => absurd ((g_geN (x := 16) (y := 16) (by omega) (by omega)).mp q) (by omega))
      have hG := g_xi hG ki hki (mmP (X.1 km) (X.1 kv)) (fun j hj => by rw [hC]; exact hvS_e _ _ (by omega))
      exact g_vret hx hb hr hlocks hE hG (⟨uI_s _ _ _, fr_i hF _ List.mem_cons_self⟩) d_Ring_applyMatrix_68
    | succ n ih2 =>
      intro i hin2 X1 H locs ls hF hC hG hl
      have hi2 : i < 16 := by omega
      have em : X1.1 km = X.1 km := hF.1 km (ni_1 hmi)
      have ev : X1.1 kv = X.1 kv := hF.1 kv (ni_1 hvi)
      refine lv_iload_n hx hb d_Ring_applyMatrix_2 rfl (lv_at hl 3 rfl) ?_
      refine lv_bipush (v := nI (16)) hx hb d_Ring_applyMatrix_3 (by decide) ?_
      refine lv_icmp_ge (tgt := 68) hx hb d_Ring_applyMatrix_5 (by decide) (fun q => absurd ((g_ge (x := i) (y := 16) (by omega) (by omega)).mp q) (by omega)) (fun _ => ?_)
      refine lv_aload_n hx hb d_Ring_applyMatrix_8 rfl (lv_at hl 2 rfl) ?_
      refine lv_iload_n hx hb d_Ring_applyMatrix_9 rfl (lv_at hl 3 rfl) ?_
      refine lv_iload_n hx hb d_Ring_applyMatrix_10 rfl (lv_at hl 3 rfl) ?_
      refine lv_aload_n hx hb d_Ring_applyMatrix_11 rfl (lv_at hl 0 rfl) ?_
      refine lv_iconst (v := nI (0)) hx hb d_Ring_applyMatrix_12 (by decide) ?_
      refine lv_aload_n hx hb d_Ring_applyMatrix_13 rfl (lv_at hl 1 rfl) ?_
      refine lv_iconst (v := nI (0)) hx hb d_Ring_applyMatrix_14 (by decide) ?_
      refine g_calll (va_runS (As := [.int (nI (i)), .ref (g_ad V km), .int (nI (0)), .ref (g_ad V kv), .int (nI (0))]) (rest := [.int (nI (i)), .ref (g_ad V ki)]) ⟨hx, hb, hml, hown, hts⟩ (c_productAt l V X1 i (by omega) km hkm 0 (by omega) kv hkv 0 (by omega)) (va_cwS 5 hts (g_goodS kw_308 kw_306 kw_307 kw_13) rfl rfl rfl (by decide +kernel) ⟨Nat.le_of_ble_eq_true rfl, Nat.le_of_ble_eq_true rfl⟩) (g_preS hE hG) rfl rfl hl.1 rfl (lv_room (Nat.le_of_ble_eq_true rfl)) d_Ring_applyMatrix_15 ⟨Nat.le_refl 0, Nat.le_refl 0⟩) hG (fun r3 X1 H locs q0 hG => ?_)
      obtain ⟨q0, rfl⟩ := q0
      refine g_topl (y := pA (shI (X.1 km) 0) (shI (X.1 kv) 0) i 16) (by rw [q0, em, ev]) ?_
      refine lv_iload_n hx hb d_Ring_applyMatrix_18 rfl (lv_at hl 3 rfl) ?_
      refine lv_aload_n hx hb d_Ring_applyMatrix_19 rfl (lv_at hl 0 rfl) ?_
      refine lv_bipush (v := nI (16)) hx hb d_Ring_applyMatrix_20 (by decide) ?_
      refine lv_aload_n hx hb d_Ring_applyMatrix_22 rfl (lv_at hl 1 rfl) ?_
      refine lv_bipush (v := nI (16)) hx hb d_Ring_applyMatrix_23 (by decide) ?_
      refine g_calll (va_runS (As := [.int (nI (i)), .ref (g_ad V km), .int (nI (16)), .ref (g_ad V kv), .int (nI (16))]) (rest := [.long (pA (shI (X.1 km) 0) (shI (X.1 kv) 0) i 16), .int (nI (i)), .ref (g_ad V ki)]) ⟨hx, hb, hml, hown, hts⟩ (c_productAt l V X1 i (by omega) km hkm 16 (by omega) kv hkv 16 (by omega)) (va_cwS 5 hts (g_goodS kw_308 kw_306 kw_307 kw_13) rfl rfl rfl (by decide +kernel) ⟨Nat.le_of_ble_eq_true rfl, Nat.le_of_ble_eq_true rfl⟩) (g_preS hE hG) rfl rfl hl.1 rfl (lv_room (Nat.le_of_ble_eq_true rfl)) d_Ring_applyMatrix_25 ⟨Nat.le_refl 0, Nat.le_refl 0⟩) hG (fun r6 X4 H locs q0 hG => ?_)
      obtain ⟨q0, rfl⟩ := q0
      refine g_topl (y := pA (shI (X.1 km) 16) (shI (X.1 kv) 16) i 16) (by rw [q0, em, ev]) ?_
      refine lv_ladd hx hb d_Ring_applyMatrix_28 ?_
      refine g_callpi (va_runS (As := [.long ((pA (shI (X.1 km) 0) (shI (X.1 kv) 0) i 16) + (pA (shI (X.1 km) 16) (shI (X.1 kv) 16) i 16))]) (rest := [.int (nI (i)), .ref (g_ad V ki)]) ⟨hx, hb, hml, hown, hts⟩ (c_reduce l (pA (shI (X.1 km) 0) (shI (X.1 kv) 0) i 16 + pA (shI (X.1 km) 16) (shI (X.1 kv) 16) i 16)) (va_cwS 1 hts (g_goodS kw_311 kw_309 kw_310 kw_13) rfl rfl rfl (by decide +kernel) ⟨Nat.le_of_ble_eq_true rfl, Nat.le_of_ble_eq_true rfl⟩) ⟨fun _ _ _ _ q => q, fun _ _ _ => rfl⟩ rfl rfl hl.1 rfl (lv_room (Nat.le_of_ble_eq_true rfl)) d_Ring_applyMatrix_29 ⟨Nat.le_refl 0, Nat.le_refl 0⟩) (fun r8 q1 => ?_)
      refine g_topi (y := redP (pA (shI (X.1 km) 0) (shI (X.1 kv) 0) i 16 + pA (shI (X.1 km) 16) (shI (X.1 kv) 16) i 16)) (q1) ?_
      refine g_iast (x := redP (pA (shI (X.1 km) 0) (shI (X.1 kv) 0) i 16 + pA (shI (X.1 km) 16) (shI (X.1 kv) 16) i 16)) hx hb hE hG ki (by omega) (i) (rfl) (by omega) d_Ring_applyMatrix_32 (fun H locs hG => ?_)
      refine lv_aload_n hx hb d_Ring_applyMatrix_33 rfl (lv_at hl 2 rfl) ?_
      refine lv_bipush (v := nI (16)) hx hb d_Ring_applyMatrix_34 (by decide) ?_
      refine lv_iload_n hx hb d_Ring_applyMatrix_36 rfl (lv_at hl 3 rfl) ?_
      refine lv_iadd hx hb d_Ring_applyMatrix_37 ?_
      refine g_topi (y := nI (16 + i)) (nI_add _ _) ?_
      refine lv_iload_n hx hb d_Ring_applyMatrix_38 rfl (lv_at hl 3 rfl) ?_
      refine lv_aload_n hx hb d_Ring_applyMatrix_39 rfl (lv_at hl 0 rfl) ?_
      refine lv_bipush (v := nI (32)) hx hb d_Ring_applyMatrix_40 (by decide) ?_
      refine lv_aload_n hx hb d_Ring_applyMatrix_42 rfl (lv_at hl 1 rfl) ?_
      refine lv_iconst (v := nI (0)) hx hb d_Ring_applyMatrix_43 (by decide) ?_
      refine g_calll (va_runS (As := [.int (nI (i)), .ref (g_ad V km), .int (nI (32)), .ref (g_ad V kv), .int (nI (0))]) (rest := [.int (nI (16 + i)), .ref (g_ad V ki)]) ⟨hx, hb, hml, hown, hts⟩ (c_productAt l V (uI X1 ki (upd (X1.1 ki) i (redP (pA (shI (X.1 km) 0) (shI (X.1 kv) 0) i 16 + pA (shI (X.1 km) 16) (shI (X.1 kv) 16) i 16)))) i (by omega) km hkm 32 (by omega) kv hkv 0 (by omega)) (va_cwS 5 hts (g_goodS kw_308 kw_306 kw_307 kw_13) rfl rfl rfl (by decide +kernel) ⟨Nat.le_of_ble_eq_true rfl, Nat.le_of_ble_eq_true rfl⟩) (g_preS hE hG) rfl rfl hl.1 rfl (lv_room (Nat.le_of_ble_eq_true rfl)) d_Ring_applyMatrix_44 ⟨Nat.le_refl 0, Nat.le_refl 0⟩) hG (fun r11 X9 H locs q0 hG => ?_)
      obtain ⟨q0, rfl⟩ := q0
      refine g_topl (y := pA (shI (X.1 km) 32) (shI (X.1 kv) 0) i 16) (by rw [q0, ((uI_n _ _ hmi).trans em), ((uI_n _ _ hvi).trans ev)]) ?_
      refine lv_iload_n hx hb d_Ring_applyMatrix_47 rfl (lv_at hl 3 rfl) ?_
      refine lv_aload_n hx hb d_Ring_applyMatrix_48 rfl (lv_at hl 0 rfl) ?_
      refine lv_bipush (v := nI (48)) hx hb d_Ring_applyMatrix_49 (by decide) ?_
      refine lv_aload_n hx hb d_Ring_applyMatrix_51 rfl (lv_at hl 1 rfl) ?_
      refine lv_bipush (v := nI (16)) hx hb d_Ring_applyMatrix_52 (by decide) ?_
      refine g_calll (va_runS (As := [.int (nI (i)), .ref (g_ad V km), .int (nI (48)), .ref (g_ad V kv), .int (nI (16))]) (rest := [.long (pA (shI (X.1 km) 32) (shI (X.1 kv) 0) i 16), .int (nI (16 + i)), .ref (g_ad V ki)]) ⟨hx, hb, hml, hown, hts⟩ (c_productAt l V (uI X1 ki (upd (X1.1 ki) i (redP (pA (shI (X.1 km) 0) (shI (X.1 kv) 0) i 16 + pA (shI (X.1 km) 16) (shI (X.1 kv) 16) i 16)))) i (by omega) km hkm 48 (by omega) kv hkv 16 (by omega)) (va_cwS 5 hts (g_goodS kw_308 kw_306 kw_307 kw_13) rfl rfl rfl (by decide +kernel) ⟨Nat.le_of_ble_eq_true rfl, Nat.le_of_ble_eq_true rfl⟩) (g_preS hE hG) rfl rfl hl.1 rfl (lv_room (Nat.le_of_ble_eq_true rfl)) d_Ring_applyMatrix_54 ⟨Nat.le_refl 0, Nat.le_refl 0⟩) hG (fun r14 X12 H locs q0 hG => ?_)
      obtain ⟨q0, rfl⟩ := q0
      refine g_topl (y := pA (shI (X.1 km) 48) (shI (X.1 kv) 16) i 16) (by rw [q0, ((uI_n _ _ hmi).trans em), ((uI_n _ _ hvi).trans ev)]) ?_
      refine lv_ladd hx hb d_Ring_applyMatrix_57 ?_
      refine g_callpi (va_runS (As := [.long ((pA (shI (X.1 km) 32) (shI (X.1 kv) 0) i 16) + (pA (shI (X.1 km) 48) (shI (X.1 kv) 16) i 16))]) (rest := [.int (nI (16 + i)), .ref (g_ad V ki)]) ⟨hx, hb, hml, hown, hts⟩ (c_reduce l (pA (shI (X.1 km) 32) (shI (X.1 kv) 0) i 16 + pA (shI (X.1 km) 48) (shI (X.1 kv) 16) i 16)) (va_cwS 1 hts (g_goodS kw_311 kw_309 kw_310 kw_13) rfl rfl rfl (by decide +kernel) ⟨Nat.le_of_ble_eq_true rfl, Nat.le_of_ble_eq_true rfl⟩) ⟨fun _ _ _ _ q => q, fun _ _ _ => rfl⟩ rfl rfl hl.1 rfl (lv_room (Nat.le_of_ble_eq_true rfl)) d_Ring_applyMatrix_58 ⟨Nat.le_refl 0, Nat.le_refl 0⟩) (fun r16 q1 => ?_)
      refine g_topi (y := redP (pA (shI (X.1 km) 32) (shI (X.1 kv) 0) i 16 + pA (shI (X.1 km) 48) (shI (X.1 kv) 16) i 16)) (q1) ?_
      refine g_iast (x := redP (pA (shI (X.1 km) 32) (shI (X.1 kv) 0) i 16 + pA (shI (X.1 km) 48) (shI (X.1 kv) 16) i 16)) hx hb hE hG ki (by omega) (16 + i) (rfl) (by omega) d_Ring_applyMatrix_61 (fun H locs hG => ?_)
      refine lv_iinc (v := nI (i + 1)) (lv' := [(3, .int (nI (i + 1))), (0, .ref (g_ad V km)), (1, .ref (g_ad V kv)), (2, .ref (g_ad V ki))]) hx hb d_Ring_applyMatrix_62 hl (k := 3) rfl (g_inc _) (by decide) rfl (fun ls hl => ?_)
      refine lv_goto (tgt := 2) hx hb d_Ring_applyMatrix_65 (by decide) ?_
      exact ih2 (i + 1) (by omega) (uI (uI X1 ki (upd (X1.1 ki) i (redP (pA (shI (X.1 km) 0) (shI (X.1 kv) 0) i 16 + pA (shI (X.1 km) 16) (shI (X.1 kv) 16) i 16)))) ki (upd ((uI X1 ki (upd (X1.1 ki) i (redP (pA (shI (X.1 km) 0) (shI (X.1 kv) 0) i 16 + pA (shI (X.1 km) 16) (shI (X.1 kv) 16) i 16)))).1 ki) (16 + i) (redP (pA (shI (X.1 km) 32) (shI (X.1 kv) 0) i 16 + pA (shI (X.1 km) 48) (shI (X.1 kv) 16) i 16)))) _ _ ls (fr_i (fr_i hF _ List.mem_cons_self) _ List.mem_cons_self) (by rw [uI_s, uI_s, hC, ← mmP_lo _ _ (by omega), ← mmP_hi _ _ (by omega)]; exact hvS_s _ _ (by omega)) hG (lv_sub hl [1, 2, 3, 0] rfl)
  exact K2 (16 - 0) 0 (by omega) X _ _ ls (fr_rf X _ _ _) (hvS_0 _ _).symm hG (lv_sub hl [1, 2, 3, 0] rfl)

set_option maxHeartbeats 4000000 in
set_option maxRecDepth 100000 in
theorem c_applyPolynomial (l : Launch) (V : Ev) (X : Mm) (km : Nat) (hkm : 17 ≤ km ∧ km < 80) (hlm : g_len km = 16) (kv : Nat) (hkv : 17 ≤ kv ∧ kv < 80) (hlv : g_len kv = 32) (ki : Nat) (hki : 17 ≤ ki ∧ ki < 80) (hli : g_len ki = 32) (hmi : km ≠ ki) (hvi : kv ≠ ki) : Met l y_Ring_applyPolynomial (Cond.code y_Ring_applyPolynomial b_Ring_applyPolynomial 4 none :: WA) ({ frames := 1, cells := 0, slots := 0, locals := 27 } : Room) (g_Pc V X [.ref (g_ad V km), .ref (g_ad V kv), .ref (g_ad V ki)]) (g_Qv V (fun X1 : Mm => X1.1 ki = mpP (X.1 km) (X.1 kv) ∧ fr X X1 [ki] [] [])) 0 0 (g_A V) := by
  refine g_met (by decide) (Nat.le_of_ble_eq_true rfl) ?_
  intro p e s m below meth c hx hb hr hml hown hts hlocks hE hG ls hl
  have hl : lv_has ls 4 [(0, .ref (g_ad V km)), (1, .ref (g_ad V kv)), (2, .ref (g_ad V ki))] := hl
  have hown : s.vm.findClass R_Ring = some m.cls := hown
  refine lv_iconst (v := nI (0)) hx hb d_Ring_applyPolynomial_0 (by decide) ?_
  refine lv_istore_n (lv' := [(3, .int (nI (0))), (0, .ref (g_ad V km)), (1, .ref (g_ad V kv)), (2, .ref (g_ad V ki))]) hx hb d_Ring_applyPolynomial_1 rfl hl (by decide) rfl (fun ls hl => ?_)
  have K2 : ∀ (n i : Nat), i + n = 16 → ∀ (X1 : Mm) (H : Heap) (locs : List Loc), ∀ (ls : Array Slot), (fr X X1 [ki] [] []) → (X1.1 ki = hvS (mpP (X.1 km) (X.1 kv)) (X.1 ki) i) → g_st V X1 s.heap H locs → lv_has ls 4 [(0, .ref (g_ad V km)), (1, .ref (g_ad V kv)), (2, .ref (g_ad V ki)), (3, .int (nI (i)))] → W p l e ({ frames := 1, cells := 0, slots := 0, locals := 27 } : Room) s m ([.ref (g_ad V km), .ref (g_ad V kv), .ref (g_ad V ki)] : List Value).toArray below meth c H locs 0 0 (MQ below (g_Qv V (fun X1 : Mm => X1.1 ki = mpP (X.1 km) (X.1 kv) ∧ fr X X1 [ki] [] [])) ([.ref (g_ad V km), .ref (g_ad V kv), .ref (g_ad V ki)] : List Value).toArray s 0 0 (g_A V)) (F0 m 2 ls []) := by
    intro n
    induction n with
    | zero =>
      intro i hin2 X1 H locs ls hF hC hG hl
      have hi2 : 16 = i := by omega
      subst hi2
      refine lv_iload_n hx hb d_Ring_applyPolynomial_2 rfl (lv_at hl 3 rfl) ?_
      refine lv_bipush (v := nI (16)) hx hb d_Ring_applyPolynomial_3 (by decide) ?_
      refine lv_icmp_ge (tgt := 46) hx hb d_Ring_applyPolynomial_5 (by decide) (fun _ => ?_) (fun q => absurd ((g_geN (x := 16) (y := 16) (by omega) (by omega)).mp q) (by omega))
      have hG := g_xi hG ki hki (mpP (X.1 km) (X.1 kv)) (fun j hj => by rw [hC]; exact hvS_e _ _ (by omega))
      exact g_vret hx hb hr hlocks hE hG (⟨uI_s _ _ _, fr_i hF _ List.mem_cons_self⟩) d_Ring_applyPolynomial_46
    | succ n ih2 =>
      intro i hin2 X1 H locs ls hF hC hG hl
      have hi2 : i < 16 := by omega
      have em : X1.1 km = X.1 km := hF.1 km (ni_1 hmi)
      have ev : X1.1 kv = X.1 kv := hF.1 kv (ni_1 hvi)
      refine lv_iload_n hx hb d_Ring_applyPolynomial_2 rfl (lv_at hl 3 rfl) ?_
      refine lv_bipush (v := nI (16)) hx hb d_Ring_applyPolynomial_3 (by decide) ?_
      refine lv_icmp_ge (tgt := 46) hx hb d_Ring_applyPolynomial_5 (by decide) (fun q => absurd ((g_ge (x := i) (y := 16) (by omega) (by omega)).mp q) (by omega)) (fun _ => ?_)
      refine lv_aload_n hx hb d_Ring_applyPolynomial_8 rfl (lv_at hl 2 rfl) ?_
      refine lv_iload_n hx hb d_Ring_applyPolynomial_9 rfl (lv_at hl 3 rfl) ?_
      refine lv_iload_n hx hb d_Ring_applyPolynomial_10 rfl (lv_at hl 3 rfl) ?_
      refine lv_aload_n hx hb d_Ring_applyPolynomial_11 rfl (lv_at hl 0 rfl) ?_
      refine lv_iconst (v := nI (0)) hx hb d_Ring_applyPolynomial_12 (by decide) ?_
      refine lv_aload_n hx hb d_Ring_applyPolynomial_13 rfl (lv_at hl 1 rfl) ?_
      refine lv_iconst (v := nI (0)) hx hb d_Ring_applyPolynomial_14 (by decide) ?_
      refine g_calll (va_runS (As := [.int (nI (i)), .ref (g_ad V km), .int (nI (0)), .ref (g_ad V kv), .int (nI (0))]) (rest := [.int (nI (i)), .ref (g_ad V ki)]) ⟨hx, hb, hml, hown, hts⟩ (c_productAt l V X1 i (by omega) km hkm 0 (by omega) kv hkv 0 (by omega)) (va_cwS 5 hts (g_goodS kw_308 kw_306 kw_307 kw_13) rfl rfl rfl (by decide +kernel) ⟨Nat.le_of_ble_eq_true rfl, Nat.le_of_ble_eq_true rfl⟩) (g_preS hE hG) rfl rfl hl.1 rfl (lv_room (Nat.le_of_ble_eq_true rfl)) d_Ring_applyPolynomial_15 ⟨Nat.le_refl 0, Nat.le_refl 0⟩) hG (fun r3 X1 H locs q0 hG => ?_)
      obtain ⟨q0, rfl⟩ := q0
      refine g_topl (y := pA (shI (X.1 km) 0) (shI (X.1 kv) 0) i 16) (by rw [q0, em, ev]) ?_
      refine g_callpi (va_runS (As := [.long (pA (shI (X.1 km) 0) (shI (X.1 kv) 0) i 16)]) (rest := [.int (nI (i)), .ref (g_ad V ki)]) ⟨hx, hb, hml, hown, hts⟩ (c_reduce l (pA (shI (X.1 km) 0) (shI (X.1 kv) 0) i 16)) (va_cwS 1 hts (g_goodS kw_311 kw_309 kw_310 kw_13) rfl rfl rfl (by decide +kernel) ⟨Nat.le_of_ble_eq_true rfl, Nat.le_of_ble_eq_true rfl⟩) ⟨fun _ _ _ _ q => q, fun _ _ _ => rfl⟩ rfl rfl hl.1 rfl (lv_room (Nat.le_of_ble_eq_true rfl)) d_Ring_applyPolynomial_18 ⟨Nat.le_refl 0, Nat.le_refl 0⟩) (fun r5 q1 => ?_)
      refine g_topi (y := redP (pA (shI (X.1 km) 0) (shI (X.1 kv) 0) i 16)) (q1) ?_
      refine g_iast (x := redP (pA (shI (X.1 km) 0) (shI (X.1 kv) 0) i 16)) hx hb hE hG ki (by omega) (i) (rfl) (by omega) d_Ring_applyPolynomial_21 (fun H locs hG => ?_)
      refine lv_aload_n hx hb d_Ring_applyPolynomial_22 rfl (lv_at hl 2 rfl) ?_
      refine lv_bipush (v := nI (16)) hx hb d_Ring_applyPolynomial_23 (by decide) ?_
      refine lv_iload_n hx hb d_Ring_applyPolynomial_25 rfl (lv_at hl 3 rfl) ?_
      refine lv_iadd hx hb d_Ring_applyPolynomial_26 ?_
      refine g_topi (y := nI (16 + i)) (nI_add _ _) ?_
      refine lv_iload_n hx hb d_Ring_applyPolynomial_27 rfl (lv_at hl 3 rfl) ?_
      refine lv_aload_n hx hb d_Ring_applyPolynomial_28 rfl (lv_at hl 0 rfl) ?_
      refine lv_iconst (v := nI (0)) hx hb d_Ring_applyPolynomial_29 (by decide) ?_
      refine lv_aload_n hx hb d_Ring_applyPolynomial_30 rfl (lv_at hl 1 rfl) ?_
      refine lv_bipush (v := nI (16)) hx hb d_Ring_applyPolynomial_31 (by decide) ?_
      refine g_calll (va_runS (As := [.int (nI (i)), .ref (g_ad V km), .int (nI (0)), .ref (g_ad V kv), .int (nI (16))]) (rest := [.int (nI (16 + i)), .ref (g_ad V ki)]) ⟨hx, hb, hml, hown, hts⟩ (c_productAt l V (uI X1 ki (upd (X1.1 ki) i (redP (pA (shI (X.1 km) 0) (shI (X.1 kv) 0) i 16)))) i (by omega) km hkm 0 (by omega) kv hkv 16 (by omega)) (va_cwS 5 hts (g_goodS kw_308 kw_306 kw_307 kw_13) rfl rfl rfl (by decide +kernel) ⟨Nat.le_of_ble_eq_true rfl, Nat.le_of_ble_eq_true rfl⟩) (g_preS hE hG) rfl rfl hl.1 rfl (lv_room (Nat.le_of_ble_eq_true rfl)) d_Ring_applyPolynomial_33 ⟨Nat.le_refl 0, Nat.le_refl 0⟩) hG (fun r8 X6 H locs q0 hG => ?_)
      obtain ⟨q0, rfl⟩ := q0
      refine g_topl (y := pA (shI (X.1 km) 0) (shI (X.1 kv) 16) i 16) (by rw [q0, ((uI_n _ _ hmi).trans em), ((uI_n _ _ hvi).trans ev)]) ?_
      refine g_callpi (va_runS (As := [.long (pA (shI (X.1 km) 0) (shI (X.1 kv) 16) i 16)]) (rest := [.int (nI (16 + i)), .ref (g_ad V ki)]) ⟨hx, hb, hml, hown, hts⟩ (c_reduce l (pA (shI (X.1 km) 0) (shI (X.1 kv) 16) i 16)) (va_cwS 1 hts (g_goodS kw_311 kw_309 kw_310 kw_13) rfl rfl rfl (by decide +kernel) ⟨Nat.le_of_ble_eq_true rfl, Nat.le_of_ble_eq_true rfl⟩) ⟨fun _ _ _ _ q => q, fun _ _ _ => rfl⟩ rfl rfl hl.1 rfl (lv_room (Nat.le_of_ble_eq_true rfl)) d_Ring_applyPolynomial_36 ⟨Nat.le_refl 0, Nat.le_refl 0⟩) (fun r10 q1 => ?_)
      refine g_topi (y := redP (pA (shI (X.1 km) 0) (shI (X.1 kv) 16) i 16)) (q1) ?_
      refine g_iast (x := redP (pA (shI (X.1 km) 0) (shI (X.1 kv) 16) i 16)) hx hb hE hG ki (by omega) (16 + i) (rfl) (by omega) d_Ring_applyPolynomial_39 (fun H locs hG => ?_)
      refine lv_iinc (v := nI (i + 1)) (lv' := [(3, .int (nI (i + 1))), (0, .ref (g_ad V km)), (1, .ref (g_ad V kv)), (2, .ref (g_ad V ki))]) hx hb d_Ring_applyPolynomial_40 hl (k := 3) rfl (g_inc _) (by decide) rfl (fun ls hl => ?_)
      refine lv_goto (tgt := 2) hx hb d_Ring_applyPolynomial_43 (by decide) ?_
      exact ih2 (i + 1) (by omega) (uI (uI X1 ki (upd (X1.1 ki) i (redP (pA (shI (X.1 km) 0) (shI (X.1 kv) 0) i 16)))) ki (upd ((uI X1 ki (upd (X1.1 ki) i (redP (pA (shI (X.1 km) 0) (shI (X.1 kv) 0) i 16)))).1 ki) (16 + i) (redP (pA (shI (X.1 km) 0) (shI (X.1 kv) 16) i 16)))) _ _ ls (fr_i (fr_i hF _ List.mem_cons_self) _ List.mem_cons_self) (by rw [uI_s, uI_s, hC, ← mpP_lo _ _ (by omega), ← mpP_hi _ _ (by omega)]; exact hvS_s _ _ (by omega)) hG (lv_sub hl [1, 2, 3, 0] rfl)
  exact K2 (16 - 0) 0 (by omega) X _ _ ls (fr_rf X _ _ _) (hvS_0 _ _).symm hG (lv_sub hl [1, 2, 3, 0] rfl)

set_option maxHeartbeats 4000000 in
set_option maxRecDepth 100000 in
theorem c_size (l : Launch) (V : Ev) (X : Mm) (kv : Nat) (hkv : 17 ≤ kv ∧ kv < 80) (hlv : g_len kv = 32) : Met l y_Ring_size (Cond.code y_Ring_size b_Ring_size 3 (some .int) :: WA) ({ frames := 2, cells := 0, slots := 0, locals := 45 } : Room) (g_Pc V X [.ref (g_ad V kv)]) (g_Qi V (fun (r : Int32) (X1 : Mm) => r = szN (X.1 kv) 32 ∧ X = X1)) 0 0 (g_A V) := by
  refine g_met (by decide) (Nat.le_of_ble_eq_true rfl) ?_
  intro p e s m below meth c hx hb hr hml hown hts hlocks hE hG ls hl
  have hl : lv_has ls 3 [(0, .ref (g_ad V kv))] := hl
  have hown : s.vm.findClass R_Ring = some m.cls := hown
  refine lv_iconst (v := nI (0)) hx hb d_Ring_size_0 (by decide) ?_
  refine lv_istore_n (lv' := [(1, .int (nI (0))), (0, .ref (g_ad V kv))]) hx hb d_Ring_size_1 rfl hl (by decide) rfl (fun ls hl => ?_)
  refine lv_iconst (v := nI (0)) hx hb d_Ring_size_2 (by decide) ?_
  refine lv_istore_n (lv' := [(2, .int (nI (0))), (1, .int (nI (0))), (0, .ref (g_ad V kv))]) hx hb d_Ring_size_3 rfl hl (by decide) rfl (fun ls hl => ?_)
  have K4 : ∀ (n i : Nat), i + n = 32 → ∀ (ls : Array Slot), lv_has ls 3 [(0, .ref (g_ad V kv)), (1, .int (szN (X.1 kv) i)), (2, .int (nI (i)))] → W p l e ({ frames := 2, cells := 0, slots := 0, locals := 45 } : Room) s m ([.ref (g_ad V kv)] : List Value).toArray below meth c s.heap [] 0 0 (MQ below (g_Qi V (fun (r : Int32) (X1 : Mm) => r = szN (X.1 kv) 32 ∧ X = X1)) ([.ref (g_ad V kv)] : List Value).toArray s 0 0 (g_A V)) (F0 m 4 ls []) := by
    intro n
    induction n with
    | zero =>
      intro i hin4 ls hl
      have hi4 : 32 = i := by omega
      subst hi4
      refine lv_iload_n hx hb d_Ring_size_4 rfl (lv_at hl 2 rfl) ?_
      refine lv_bipush (v := nI (32)) hx hb d_Ring_size_5 (by decide) ?_
      refine lv_icmp_ge (tgt := 31) hx hb d_Ring_size_7 (by decide) (fun _ => ?_) (fun q => absurd ((g_geN (x := 32) (y := 32) (by omega) (by omega)).mp q) (by omega))
      refine lv_iload_n hx hb d_Ring_size_31 rfl (lv_at hl 1 rfl) ?_
      exact g_iret hx hb hr hlocks hE hG (⟨rfl, rfl⟩) d_Ring_size_32
    | succ n ih4 =>
      intro i hin4 ls hl
      have hi4 : i < 32 := by omega
      refine lv_iload_n hx hb d_Ring_size_4 rfl (lv_at hl 2 rfl) ?_
      refine lv_bipush (v := nI (32)) hx hb d_Ring_size_5 (by decide) ?_
      refine lv_icmp_ge (tgt := 31) hx hb d_Ring_size_7 (by decide) (fun q => absurd ((g_ge (x := i) (y := 32) (by omega) (by omega)).mp q) (by omega)) (fun _ => ?_)
      refine lv_iload_n hx hb d_Ring_size_10 rfl (lv_at hl 1 rfl) ?_
      refine lv_aload_n hx hb d_Ring_size_11 rfl (lv_at hl 0 rfl) ?_
      refine lv_iload_n hx hb d_Ring_size_12 rfl (lv_at hl 2 rfl) ?_
      refine g_iald hx hb hE hG kv (by omega) (i) (rfl) (by omega) (v := X.1 kv i) (rfl) d_Ring_size_13 ?_
      refine lv_i2l (v := (X.1 kv i).toInt64) hx hb d_Ring_size_14 rfl ?_
      refine g_callpi (va_runS (As := [.long ((X.1 kv i).toInt64)]) (rest := [.int (szN (X.1 kv) i)]) ⟨hx, hb, hml, hown, hts⟩ (c_centered l (X.1 kv i).toInt64) (va_cwS 1 hts (g_goodS kw_430 kw_428 kw_429 kw_13) rfl rfl rfl (by decide +kernel) ⟨Nat.le_of_ble_eq_true rfl, Nat.le_of_ble_eq_true rfl⟩) ⟨fun _ _ _ _ q => q, fun _ _ _ => rfl⟩ rfl rfl hl.1 rfl (lv_room (Nat.le_of_ble_eq_true rfl)) d_Ring_size_15 ⟨Nat.le_refl 0, Nat.le_refl 0⟩) (fun r2 q1 => ?_)
      refine g_topi (y := cenP (redP (X.1 kv i).toInt64)) (q1) ?_
      refine va_mabs hx hb (hml.trans hl.1.symm) hown (hts _ (List.mem_cons_of_mem _ kw_433)) (hts _ (List.mem_cons_of_mem _ kw_434)) (hts _ (List.mem_cons_of_mem _ kw_16)) (hts _ (List.mem_cons_of_mem _ kw_435)) (Nat.le_of_ble_eq_true rfl) (Nat.le_of_ble_eq_true rfl) (Nat.le_refl 0) (Nat.le_refl 0) d_Ring_size_18 ?_
      refine g_topi (y := abI (cenP (redP (X.1 kv i).toInt64))) rfl ?_
      refine va_mmax hx hb (hml.trans hl.1.symm) hown (hts _ (List.mem_cons_of_mem _ kw_436)) (hts _ (List.mem_cons_of_mem _ kw_437)) (hts _ (List.mem_cons_of_mem _ kw_16)) (hts _ (List.mem_cons_of_mem _ kw_438)) (Nat.le_of_ble_eq_true rfl) (Nat.le_of_ble_eq_true rfl) (Nat.le_refl 0) (Nat.le_refl 0) d_Ring_size_21 ?_
      refine g_topi (y := mxI (szN (X.1 kv) i) (abI (cenP (redP (X.1 kv i).toInt64)))) rfl ?_
      refine lv_istore_n (lv' := [(1, .int (mxI (szN (X.1 kv) i) (abI (cenP (redP (X.1 kv i).toInt64))))), (0, .ref (g_ad V kv)), (2, .int (nI (i)))]) hx hb d_Ring_size_24 rfl hl (by decide) rfl (fun ls hl => ?_)
      refine lv_iinc (v := nI (i + 1)) (lv' := [(2, .int (nI (i + 1))), (1, .int (mxI (szN (X.1 kv) i) (abI (cenP (redP (X.1 kv i).toInt64))))), (0, .ref (g_ad V kv))]) hx hb d_Ring_size_25 hl (k := 2) rfl (g_inc _) (by decide) rfl (fun ls hl => ?_)
      refine lv_goto (tgt := 4) hx hb d_Ring_size_28 (by decide) ?_
      exact ih4 (i + 1) (by omega) ls (lv_sub hl [2, 1, 0] rfl)
  exact K4 (32 - 0) 0 (by omega) ls (lv_sub hl [2, 1, 0] rfl)

set_option maxHeartbeats 4000000 in
set_option maxRecDepth 100000 in
theorem c_isIndex (l : Launch) (i n : Int32) : Met l y_SVS_isIndex (Cond.code y_SVS_isIndex b_SVS_isIndex 2 (some .boolean) :: WA) ({ frames := 0, cells := 0, slots := 0, locals := 0 } : Room) (fun v _ => v = ([.int (i), .int (n)] : List Value).toArray) (vp_Si (fun r : Int32 => r = (if 0 ≤ i ∧ i < n then nI 1 else nI 0))) 0 0 (fun _ => False) := by
  refine g_metp (by decide) (Nat.le_of_ble_eq_true rfl) ?_
  intro p e s m below meth c hx hb hr hml hown hts hlocks ls hl
  have hl : lv_has ls 2 [(0, .int (i)), (1, .int (n))] := hl
  have hown : s.vm.findClass R_SVS = some m.cls := hown
  refine lv_iload_n hx hb d_SVS_isIndex_0 rfl (lv_at hl 0 rfl) ?_
  refine lv_if_lt (tgt := 13) hx hb d_SVS_isIndex_1 (by decide) (fun c1 => ?_) (fun c1 => ?_)
  · refine lv_iconst (v := nI (0)) hx hb d_SVS_isIndex_13 (by decide) ?_
    exact g_zretp hx hb hr hlocks (by decide) ((if_neg (fun q => absurd c1 (Int32.not_lt.mpr q.1))).symm) d_SVS_isIndex_14
  · refine lv_iload_n hx hb d_SVS_isIndex_4 rfl (lv_at hl 0 rfl) ?_
    refine lv_iload_n hx hb d_SVS_isIndex_5 rfl (lv_at hl 1 rfl) ?_
    refine lv_icmp_ge (tgt := 13) hx hb d_SVS_isIndex_6 (by decide) (fun c6 => ?_) (fun c6 => ?_)
    · refine lv_iconst (v := nI (0)) hx hb d_SVS_isIndex_13 (by decide) ?_
      exact g_zretp hx hb hr hlocks (by decide) ((if_neg (fun q => absurd c6 (Int32.not_le.mpr q.2))).symm) d_SVS_isIndex_14
    · refine lv_iconst (v := nI (1)) hx hb d_SVS_isIndex_9 (by decide) ?_
      refine lv_goto (tgt := 14) hx hb d_SVS_isIndex_10 (by decide) ?_
      exact g_zretp hx hb hr hlocks (by decide) ((if_pos ⟨Int32.not_lt.mp c1, Int32.not_le.mp c6⟩).symm) d_SVS_isIndex_14

set_option maxHeartbeats 4000000 in
set_option maxRecDepth 100000 in
theorem c_isByte (l : Launch) (b : Int32) : Met l y_SVS_isByte (Cond.code y_SVS_isByte b_SVS_isByte 1 (some .boolean) :: WA) ({ frames := 0, cells := 0, slots := 0, locals := 0 } : Room) (fun v _ => v = ([.int (b)] : List Value).toArray) (vp_Si (fun r : Int32 => r = (if 0 ≤ b ∧ b ≤ nI 255 then nI 1 else nI 0))) 0 0 (fun _ => False) := by
  refine g_metp (by decide) (Nat.le_of_ble_eq_true rfl) ?_
  intro p e s m below meth c hx hb hr hml hown hts hlocks ls hl
  have hl : lv_has ls 1 [(0, .int (b))] := hl
  have hown : s.vm.findClass R_SVS = some m.cls := hown
  refine lv_iload_n hx hb d_SVS_isByte_0 rfl (lv_at hl 0 rfl) ?_
  refine lv_if_lt (tgt := 15) hx hb d_SVS_isByte_1 (by decide) (fun c1 => ?_) (fun c1 => ?_)
  · refine lv_iconst (v := nI (0)) hx hb d_SVS_isByte_15 (by decide) ?_
    exact g_zretp hx hb hr hlocks (by decide) ((if_neg (fun q => absurd c1 (Int32.not_lt.mpr q.1))).symm) d_SVS_isByte_16
  · refine lv_iload_n hx hb d_SVS_isByte_4 rfl (lv_at hl 0 rfl) ?_
    refine lv_sipush (v := nI (255)) hx hb d_SVS_isByte_5 (by decide) ?_
    refine lv_icmp_gt (tgt := 15) hx hb d_SVS_isByte_8 (by decide) (fun c8 => ?_) (fun c8 => ?_)
    · refine lv_iconst (v := nI (0)) hx hb d_SVS_isByte_15 (by decide) ?_
      exact g_zretp hx hb hr hlocks (by decide) ((if_neg (fun q => absurd c8 (Int32.not_lt.mpr q.2))).symm) d_SVS_isByte_16
    · refine lv_iconst (v := nI (1)) hx hb d_SVS_isByte_11 (by decide) ?_
      refine lv_goto (tgt := 16) hx hb d_SVS_isByte_12 (by decide) ?_
      exact g_zretp hx hb hr hlocks (by decide) ((if_pos ⟨Int32.not_lt.mp c1, Int32.not_lt.mp c8⟩).symm) d_SVS_isByte_16

set_option maxHeartbeats 4000000 in
set_option maxRecDepth 100000 in
theorem c_putByte (l : Launch) (V : Ev) (X : Mm) (kb : Nat) (hkb : 17 ≤ kb ∧ kb < 80) (i b : Int32) : Met l y_SVS_putByte (Cond.code y_SVS_putByte b_SVS_putByte 3 (some .boolean) :: WA) ({ frames := 1, cells := 0, slots := 0, locals := 21 } : Room) (g_Pc V X [.ref (g_ad V kb), .int (i), .int (b)]) (g_Qi V (fun (r : Int32) (X1 : Mm) => (((0 ≤ i ∧ i < nI (g_len kb)) ∧ (0 ≤ b ∧ b ≤ nI 255)) → r = nI 1 ∧ X1.1 kb = upd (X.1 kb) i.toNatClampNeg b ∧ fr X X1 [kb] [] []) ∧ (¬ ((0 ≤ i ∧ i < nI (g_len kb)) ∧ (0 ≤ b ∧ b ≤ nI 255)) → r = nI 0 ∧ X = X1))) 0 0 (g_A V) := by
  refine g_met (by decide) (Nat.le_of_ble_eq_true rfl) ?_
  intro p e s m below meth c hx hb hr hml hown hts hlocks hE hG ls hl
  have hl : lv_has ls 3 [(0, .ref (g_ad V kb)), (1, .int (i)), (2, .int (b))] := hl
  have hown : s.vm.findClass R_SVS = some m.cls := hown
  have hlen := g_len_le kb
  refine lv_iload_n hx hb d_SVS_putByte_0 rfl (lv_at hl 1 rfl) ?_
  refine lv_aload_n hx hb d_SVS_putByte_1 rfl (lv_at hl 0 rfl) ?_
  refine g_ilen hx hb hE hG kb (by omega) (n := g_len kb) (rfl) d_SVS_putByte_2 ?_
  refine g_callpi (va_runS (As := [.int (i), .int (nI (g_len kb))]) (rest := []) ⟨hx, hb, hml, hown, hts⟩ (c_isIndex l i (nI (g_len kb))) (va_cwS 2 hts (g_goodS kw_528 kw_526 kw_527 kw_1) rfl rfl rfl (by decide +kernel) ⟨Nat.le_of_ble_eq_true rfl, Nat.le_of_ble_eq_true rfl⟩) ⟨fun _ _ _ _ q => q, fun _ _ _ => rfl⟩ rfl rfl hl.1 rfl (lv_room (Nat.le_of_ble_eq_true rfl)) d_SVS_putByte_3 ⟨Nat.le_refl 0, Nat.le_refl 0⟩) (fun r1 q1 => ?_)
  refine lv_if_eq (tgt := 16) hx hb d_SVS_putByte_6 (by decide) (fun c6 => ?_) (fun c6 => ?_)
  · have n1 : ¬ (0 ≤ i ∧ i < nI (g_len kb)) := fun z => by rw [q1, if_pos z] at c6; exact absurd c6 (by decide)
    refine lv_iconst (v := nI (0)) hx hb d_SVS_putByte_16 (by decide) ?_
    exact g_zret hx hb hr hlocks hE hG (by decide) (⟨fun q => absurd q.1 n1, fun _ => ⟨rfl, rfl⟩⟩) d_SVS_putByte_17
  · have n1 : 0 ≤ i ∧ i < nI (g_len kb) := Classical.byContradiction fun z => c6 (by rw [q1, if_neg z]; rfl)
    refine lv_iload_n hx hb d_SVS_putByte_9 rfl (lv_at hl 2 rfl) ?_
    refine g_callpi (va_runS (As := [.int (b)]) (rest := []) ⟨hx, hb, hml, hown, hts⟩ (c_isByte l b) (va_cwS 1 hts (g_goodS kw_338 kw_336 kw_337 kw_1) rfl rfl rfl (by decide +kernel) ⟨Nat.le_of_ble_eq_true rfl, Nat.le_of_ble_eq_true rfl⟩) ⟨fun _ _ _ _ q => q, fun _ _ _ => rfl⟩ rfl rfl hl.1 rfl (lv_room (Nat.le_of_ble_eq_true rfl)) d_SVS_putByte_10 ⟨Nat.le_refl 0, Nat.le_refl 0⟩) (fun r2 q2 => ?_)
    refine lv_if_ne (tgt := 18) hx hb d_SVS_putByte_13 (by decide) (fun c13 => ?_) (fun c13 => ?_)
    · have n2 : 0 ≤ b ∧ b ≤ nI 255 := Classical.byContradiction fun z => c13 (by rw [q2, if_neg z]; rfl)
      obtain ⟨j, hj, ej⟩ := vp_in_of (n := g_len kb) (fun z => z.elim (fun z => absurd z (Int32.not_lt.mpr n1.1)) (fun z => by have t := Int32.lt_iff_toInt_lt.mp n1.2; rw [nI_toInt (by omega)] at t; have t0 := Int32.le_iff_toInt_le.mp n1.1; have t1 : i.toNatClampNeg = i.toInt.toNat := rfl; rw [t1] at z; have t2 : (0 : Int32).toInt = 0 := rfl; omega)) (by omega)
      refine lv_aload_n hx hb d_SVS_putByte_18 rfl (lv_at hl 0 rfl) ?_
      refine lv_iload_n hx hb d_SVS_putByte_19 rfl (lv_at hl 1 rfl) ?_
      refine lv_iload_n hx hb d_SVS_putByte_20 rfl (lv_at hl 2 rfl) ?_
      refine g_iast (x := b) hx hb hE hG kb (by omega) (j) (ej) (hj) d_SVS_putByte_21 (fun H locs hG => ?_)
      refine lv_iconst (v := nI (1)) hx hb d_SVS_putByte_22 (by decide) ?_
      exact g_zret hx hb hr hlocks hE hG (by decide) (⟨fun _ => ⟨rfl, (uI_s _ _ _).trans (by rw [ej, nI_clamp (by omega)]), fr_i (fr_rf X _ _ _) _ List.mem_cons_self⟩, fun q => absurd ⟨n1, n2⟩ q⟩) d_SVS_putByte_23
    · have n2 : ¬ (0 ≤ b ∧ b ≤ nI 255) := fun z => by rw [q2, if_pos z] at c13; exact absurd c13 (by decide)
      refine lv_iconst (v := nI (0)) hx hb d_SVS_putByte_16 (by decide) ?_
      exact g_zret hx hb hr hlocks hE hG (by decide) (⟨fun q => absurd q.2 n2, fun _ => ⟨rfl, rfl⟩⟩) d_SVS_putByte_17

set_option maxHeartbeats 4000000 in
set_option maxRecDepth 100000 in
theorem c_clearRest (l : Launch) (V : Ev) (X : Mm) (kb : Nat) (hkb : 17 ≤ kb ∧ kb < 80) (fm u cnt : Nat) (hu : u ≤ cnt) (hw : fm + cnt ≤ g_len kb) (F M0 : Nat → Int32) (hR : X.1 kb = seg F M0 fm u) (hz : ∀ j, u ≤ j → F j = nI 0) : Met l y_SVS_clearRest (Cond.code y_SVS_clearRest b_SVS_clearRest 5 none :: WA) ({ frames := 0, cells := 0, slots := 0, locals := 0 } : Room) (g_Pc V X [.ref (g_ad V kb), .int (nI (fm)), .int (nI (u)), .int (nI (cnt))]) (g_Qv V (fun X1 : Mm => X1.1 kb = seg F M0 fm cnt ∧ fr X X1 [kb] [] [])) 0 0 (g_A V) := by
  refine g_met (by decide) (Nat.le_of_ble_eq_true rfl) ?_
  intro p e s m below meth c hx hb hr hml hown hts hlocks hE hG ls hl
  have hl : lv_has ls 5 [(0, .ref (g_ad V kb)), (1, .int (nI (fm))), (2, .int (nI (u))), (3, .int (nI (cnt)))] := hl
  have hown : s.vm.findClass R_SVS = some m.cls := hown
  have hlen := g_len_le kb
  refine lv_iload_n hx hb d_SVS_clearRest_0 rfl (lv_at hl 2 rfl) ?_
  refine lv_istore (lv' := [(4, .int (nI (u))), (0, .ref (g_ad V kb)), (1, .int (nI (fm))), (2, .int (nI (u))), (3, .int (nI (cnt)))]) hx hb d_SVS_clearRest_1 hl (by decide) rfl (fun ls hl => ?_)
  have K3 : ∀ (n i : Nat), i + n = cnt → ∀ (X1 : Mm) (H : Heap) (locs : List Loc), ∀ (ls : Array Slot), (u ≤ i) → (fr X X1 [kb] [] []) → (X1.1 kb = seg F M0 fm i) → g_st V X1 s.heap H locs → lv_has ls 5 [(0, .ref (g_ad V kb)), (1, .int (nI (fm))), (3, .int (nI (cnt))), (4, .int (nI (i)))] → W p l e ({ frames := 0, cells := 0, slots := 0, locals := 0 } : Room) s m ([.ref (g_ad V kb), .int (nI (fm)), .int (nI (u)), .int (nI (cnt))] : List Value).toArray below meth c H locs 0 0 (MQ below (g_Qv V (fun X1 : Mm => X1.1 kb = seg F M0 fm cnt ∧ fr X X1 [kb] [] [])) ([.ref (g_ad V kb), .int (nI (fm)), .int (nI (u)), .int (nI (cnt))] : List Value).toArray s 0 0 (g_A V)) (F0 m 3 ls []) := by
    intro n
    induction n with
    | zero =>
      intro i hin3 X1 H locs ls hui hF hC hG hl
      have hi3 : cnt = i := by omega
      subst hi3
      refine lv_iload hx hb d_SVS_clearRest_3 (lv_at hl 3 rfl) ?_
      refine lv_iload_n hx hb d_SVS_clearRest_5 rfl (lv_at hl 2 rfl) ?_
      refine lv_icmp_ge (tgt := 22) hx hb d_SVS_clearRest_6 (by decide) (fun _ => ?_) (fun q => absurd ((g_geN (x := cnt) (y := cnt) (by omega) (by omega)).mp q) (by omega))
      exact g_vret hx hb hr hlocks hE hG (⟨hC, hF⟩) d_SVS_clearRest_22
    | succ n ih3 =>
      intro i hin3 X1 H locs ls hui hF hC hG hl
      have hi3 : i < cnt := by omega
      refine lv_iload hx hb d_SVS_clearRest_3 (lv_at hl 3 rfl) ?_
      refine lv_iload_n hx hb d_SVS_clearRest_5 rfl (lv_at hl 2 rfl) ?_
      refine lv_icmp_ge (tgt := 22) hx hb d_SVS_clearRest_6 (by decide) (fun q => absurd ((g_ge (x := i) (y := cnt) (by omega) (by omega)).mp q) (by omega)) (fun _ => ?_)
      refine lv_aload_n hx hb d_SVS_clearRest_9 rfl (lv_at hl 0 rfl) ?_
      refine lv_iload_n hx hb d_SVS_clearRest_10 rfl (lv_at hl 1 rfl) ?_
      refine lv_iload hx hb d_SVS_clearRest_11 (lv_at hl 3 rfl) ?_
      refine lv_iadd hx hb d_SVS_clearRest_13 ?_
      refine g_topi (y := nI (fm + i)) (nI_add _ _) ?_
      refine lv_iconst (v := nI (0)) hx hb d_SVS_clearRest_14 (by decide) ?_
      refine g_iast (x := nI (0)) hx hb hE hG kb (by omega) (fm + i) (rfl) (by omega) d_SVS_clearRest_15 (fun H locs hG => ?_)
      refine lv_iinc (v := nI (i + 1)) (lv' := [(4, .int (nI (i + 1))), (0, .ref (g_ad V kb)), (1, .int (nI (fm))), (3, .int (nI (cnt)))]) hx hb d_SVS_clearRest_16 hl (k := 3) rfl (g_inc _) (by decide) rfl (fun ls hl => ?_)
      refine lv_goto (tgt := 3) hx hb d_SVS_clearRest_19 (by decide) ?_
      exact ih3 (i + 1) (by omega) (uI X1 kb (upd (X1.1 kb) (fm + i) (nI (0)))) _ _ ls (by omega) (fr_i hF _ List.mem_cons_self) (by rw [uI_s, hC, ← hz i hui]; exact seg_s _ _ _ _) hG (lv_sub hl [1, 2, 3, 0] rfl)
  exact K3 (cnt - u) u (by omega) X _ _ ls (Nat.le_refl u) (fr_rf X _ _ _) hR hG (lv_sub hl [1, 2, 4, 0] rfl)

set_option maxHeartbeats 4000000 in
set_option maxRecDepth 100000 in
theorem c_add (l : Launch) (V : Ev) (X : Mm) (b : Int32) (n : Nat) (hn : n ≤ 24) (hT : X.2.2 2 = nI n) : Met l y_Message_add (Cond.code y_Message_add b_Message_add 2 (some .boolean) :: WA) ({ frames := 0, cells := 0, slots := 0, locals := 0 } : Room) (g_Pc V X [.ref (g_ad V 5), .int (b)]) (g_Qi V (fun (r : Int32) (X1 : Mm) => (n < 24 → r = nI 1 ∧ X1.1 18 = upd (X.1 18) n b ∧ X1.2.2 2 = nI (n + 1) ∧ fr X X1 [18] [] [2]) ∧ (¬ n < 24 → r = nI 0 ∧ X = X1))) 0 0 (g_A V) := by
  refine g_met (by decide) (Nat.le_of_ble_eq_true rfl) ?_
  intro p e s m below meth c hx hb hr hml hown hts hlocks hE hG ls hl
  have hl : lv_has ls 2 [(0, .ref (g_ad V 5)), (1, .int (b))] := hl
  have hown : s.vm.findClass R_Message = some m.cls := hown
  refine lv_aload_n hx hb d_Message_add_0 rfl (lv_at hl 0 rfl) ?_
  refine g_get (ci := 2) (v := .int (X.2.2 2)) (C := R_Message) (T := F_Message) (N := 2) hx hb hts (fun w h => List.mem_cons_of_mem _ (in_Message w h)) hown hE hG 5 (by decide) rfl rfl 1 (by decide) (hts _ (List.mem_cons_of_mem _ kw_56)) (fun _ h9 => h9) rfl d_Message_add_1 ?_
  refine g_topi (y := nI (n)) (hT) ?_
  refine lv_bipush (v := nI (24)) hx hb d_Message_add_4 (by decide) ?_
  refine lv_icmp_lt (tgt := 11) hx hb d_Message_add_6 (by decide) (fun c6 => ?_) (fun c6 => ?_)
  · have c6 := (g_lt (x := n) (y := 24) (by omega) (by omega)).mp c6
    refine lv_aload_n hx hb d_Message_add_11 rfl (lv_at hl 0 rfl) ?_
    refine g_get (ci := 2) (v := .ref (g_ad V 18)) (C := R_Message) (T := F_Message) (N := 2) hx hb hts (fun w h => List.mem_cons_of_mem _ (in_Message w h)) hown hE hG 5 (by decide) rfl rfl 0 (by decide) (hts _ (List.mem_cons_of_mem _ kw_55)) (fun _ h9 => h9) rfl d_Message_add_12 ?_
    refine lv_aload_n hx hb d_Message_add_15 rfl (lv_at hl 0 rfl) ?_
    refine g_get (ci := 2) (v := .int (X.2.2 2)) (C := R_Message) (T := F_Message) (N := 2) hx hb hts (fun w h => List.mem_cons_of_mem _ (in_Message w h)) hown hE hG 5 (by decide) rfl rfl 1 (by decide) (hts _ (List.mem_cons_of_mem _ kw_56)) (fun _ h9 => h9) rfl d_Message_add_16 ?_
    refine g_topi (y := nI (n)) (hT) ?_
    refine lv_iload_n hx hb d_Message_add_19 rfl (lv_at hl 1 rfl) ?_
    refine g_iast (x := b) hx hb hE hG 18 (by decide) (n) (rfl) (show _ < 24 by omega) d_Message_add_20 (fun H locs hG => ?_)
    refine lv_aload_n hx hb d_Message_add_21 rfl (lv_at hl 0 rfl) ?_
    refine lv_dup hx hb d_Message_add_22 rfl ?_
    refine g_get (ci := 2) (v := .int ((uI X 18 (upd (X.1 18) n b)).2.2 2)) (C := R_Message) (T := F_Message) (N := 2) hx hb hts (fun w h => List.mem_cons_of_mem _ (in_Message w h)) hown hE hG 5 (by decide) rfl rfl 1 (by decide) (hts _ (List.mem_cons_of_mem _ kw_56)) (fun _ h9 => h9) rfl d_Message_add_23 ?_
    refine g_topi (y := nI (n)) (hT) ?_
    refine lv_iconst (v := nI (1)) hx hb d_Message_add_26 (by decide) ?_
    refine lv_iadd hx hb d_Message_add_27 ?_
    refine g_topi (y := nI (n + 1)) (nI_add _ _) ?_
    refine g_put (ci := 2) (v := nI (n + 1)) (ty := .int) (C := R_Message) (T := F_Message) (N := 2) hx hb hts (fun w h => List.mem_cons_of_mem _ (in_Message w h)) t_Message t_Message_ok n_Message hown hE hG 2 (by decide) rfl rfl 1 (by decide) (hts _ (List.mem_cons_of_mem _ kw_56)) (fun _ h9 => h9) rfl (by decide +kernel) (rfl) rfl (Nat.le_of_ble_eq_true rfl) rfl d_Message_add_28 (fun H locs hG => ?_)
    refine lv_iconst (v := nI (1)) hx hb d_Message_add_31 (by decide) ?_
    exact g_zret hx hb hr hlocks hE hG (by decide) (⟨fun _ => ⟨rfl, uI_s X 18 (upd (X.1 18) n b), uF_s _ _ _, fr_f (fr_i (fr_rf X _ _ _) _ (by decide)) _ (by decide)⟩, fun q => absurd c6 q⟩) d_Message_add_32
  · have c6 := (g_ltN (x := n) (y := 24) (by omega) (by omega)).mp c6
    refine lv_iconst (v := nI (0)) hx hb d_Message_add_9 (by decide) ?_
    exact g_zret hx hb hr hlocks hE hG (by decide) (⟨fun q => absurd q (by omega), fun _ => ⟨rfl, rfl⟩⟩) d_Message_add_10

set_option maxHeartbeats 4000000 in
set_option maxRecDepth 100000 in
theorem c_clear (l : Launch) (V : Ev) (X : Mm)  : Met l y_Message_clear (Cond.code y_Message_clear b_Message_clear 1 none :: WA) ({ frames := 0, cells := 0, slots := 0, locals := 0 } : Room) (g_Pc V X [.ref (g_ad V 5)]) (g_Qv V (fun X1 : Mm => X1.2.2 2 = nI 0 ∧ fr X X1 [] [] [2])) 0 0 (g_A V) := by
  refine g_met (by decide) (Nat.le_of_ble_eq_true rfl) ?_
  intro p e s m below meth c hx hb hr hml hown hts hlocks hE hG ls hl
  have hl : lv_has ls 1 [(0, .ref (g_ad V 5))] := hl
  have hown : s.vm.findClass R_Message = some m.cls := hown
  refine lv_aload_n hx hb d_Message_clear_0 rfl (lv_at hl 0 rfl) ?_
  refine lv_iconst (v := nI (0)) hx hb d_Message_clear_1 (by decide) ?_
  refine g_put (ci := 2) (v := nI (0)) (ty := .int) (C := R_Message) (T := F_Message) (N := 2) hx hb hts (fun w h => List.mem_cons_of_mem _ (in_Message w h)) t_Message t_Message_ok n_Message hown hE hG 2 (by decide) rfl rfl 1 (by decide) (hts _ (List.mem_cons_of_mem _ kw_56)) (fun _ h9 => h9) rfl (by decide +kernel) (rfl) rfl (Nat.le_of_ble_eq_true rfl) rfl d_Message_clear_2 (fun H locs hG => ?_)
  exact g_vret hx hb hr hlocks hE hG (⟨uF_s _ _ _, fr_f (fr_rf X _ _ _) _ (by decide)⟩) d_Message_clear_5

set_option maxHeartbeats 4000000 in
set_option maxRecDepth 100000 in
theorem c_feed (l : Launch) (V : Ev) (X : Mm) (g : Nat → Int32) (k n : Nat) (hn : n ≤ 24) (hk : k + n ≤ 135) (hL : X.2.1 2 = absN g k) (hT : X.2.2 1 = nI k) (hM : X.2.2 2 = nI n) (hg : ∀ j, j < n → X.1 18 j = g (k + j)) : Met l y_Message_feed (Cond.code y_Message_feed b_Message_feed 2 none :: WA) ({ frames := 3, cells := 0, slots := 0, locals := 66 } : Room) (g_Pc V X [.ref (g_ad V 5), .ref (g_ad V 1)]) (g_Qv V (fun X1 : Mm => X1.2.1 2 = absN g (k + n) ∧ X1.2.2 1 = nI (k + n) ∧ fr X X1 [] [2] [1])) 0 0 (g_A V) := by
  refine g_met (by decide) (Nat.le_of_ble_eq_true rfl) ?_
  intro p e s m below meth c hx hb hr hml hown hts hlocks hE hG ls hl
  have hl : lv_has ls 2 [(0, .ref (g_ad V 5)), (1, .ref (g_ad V 1))] := hl
  have hown : s.vm.findClass R_Message = some m.cls := hown
  refine lv_aload_n hx hb d_Message_feed_0 rfl (lv_at hl 1 rfl) ?_
  refine lv_aload_n hx hb d_Message_feed_1 rfl (lv_at hl 0 rfl) ?_
  refine g_get (ci := 2) (v := .ref (g_ad V 18)) (C := R_Message) (T := F_Message) (N := 2) hx hb hts (fun w h => List.mem_cons_of_mem _ (in_Message w h)) hown hE hG 5 (by decide) rfl rfl 0 (by decide) (hts _ (List.mem_cons_of_mem _ kw_55)) (fun _ h9 => h9) rfl d_Message_feed_2 ?_
  refine lv_aload_n hx hb d_Message_feed_5 rfl (lv_at hl 0 rfl) ?_
  refine g_get (ci := 2) (v := .int (X.2.2 2)) (C := R_Message) (T := F_Message) (N := 2) hx hb hts (fun w h => List.mem_cons_of_mem _ (in_Message w h)) hown hE hG 5 (by decide) rfl rfl 1 (by decide) (hts _ (List.mem_cons_of_mem _ kw_56)) (fun _ h9 => h9) rfl d_Message_feed_6 ?_
  refine g_topi (y := nI (n)) (hM) ?_
  refine g_callv (va_runV (As := [.ref (g_ad V 18), .int (nI (n))]) (rest := []) ⟨hx, hb, hml, hown, hts⟩ (c_takeFirst l V X 18 (by decide) g k n hn hk hL hT hg) (cwV 2 hts (g_goodV kw_283 kw_369 kw_281 kw_282 kw_2) rfl rfl rfl (by decide +kernel) ⟨Nat.le_of_ble_eq_true rfl, Nat.le_of_ble_eq_true rfl⟩) (g_preV (k0 := 1) (ci := 1) hE hG (by decide) rfl rfl) rfl rfl hl.1 rfl (lv_room (Nat.le_of_ble_eq_true rfl)) d_Message_feed_9 ⟨Nat.le_refl 0, Nat.le_refl 0⟩) hG (fun X2 H locs q2 hG => ?_)
  exact g_vret hx hb hr hlocks hE hG (q2) d_Message_feed_12
