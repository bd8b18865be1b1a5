theorem hw1_eq (h : Nat → Int32) : hwN h 0 (0, fun _ => nI 0) 16 = hw1 h := rfl
theorem hw2_eq (h : Nat → Int32) : hwN h 16 (hw1 h) 16 = hw2 h := rfl
theorem hw1_le (h : Nat → Int32) : (hw1 h).1 ≤ 12 := by
  rw [← hw1_eq]
  exact hwN_le h 0 (0, fun _ => nI 0) (show 0 ≤ 12 by decide) 16
theorem hw2_le (h : Nat → Int32) : (hw2 h).1 ≤ 12 := by
  rw [← hw2_eq]
  exact hwN_le h 16 (hw1 h) (hw1_le h) 16
theorem hw2_z (h : Nat → Int32) : ∀ j, (hw2 h).1 ≤ j → (hw2 h).2 j = nI 0 := by
  rw [← hw2_eq]
  refine hwN_z h 16 (hw1 h) ?_ 16
  rw [← hw1_eq]
  exact hwN_z h 0 (0, fun _ => nI 0) (fun _ _ => rfl) 16
theorem sig_eq {se s0 z h : Nat → Int32} (hB : ∀ j, j < 62 → isB (s0 j)) {j : Nat} (hj : j < 62) : sigP se z h j = upd (upd (seg (hw2 h).2 (pkN (segI se s0 8) (zwP z) 8 10 32) 48 12) 60 (nI (hw1 h).1)) 61 (nI (hw2 h).1) j := by
  unfold sigP
  by_cases h61 : j = 61
  · subst h61
    rw [pk_us, if_neg (by decide), if_neg (by decide), if_neg (by decide), if_neg (by decide)]
  · rw [pk_un h61]
    by_cases h60 : j = 60
    · subst h60
      rw [pk_us, if_neg (by decide), if_neg (by decide), if_neg (by decide), if_pos rfl]
    · rw [pk_un h60]
      by_cases h8 : j < 8
      · rw [if_pos h8, seg_out _ _ (by omega), pkN_out _ _ 8 10 40 (by omega) 32 (by decide), ← segI_e _ _ h8]
      · rw [if_neg h8]
        by_cases h48 : j < 48
        · rw [if_pos h48, seg_out _ _ (by omega)]
          obtain ⟨i, rfl⟩ : ∃ i, j = 8 + i := ⟨j - 8, by omega⟩
          exact pc_eq (L := 40) (fun i hi => by rw [segI_ge _ _ (by omega)]; exact hB _ (by omega)) (by decide) (by omega)
        · rw [if_neg h48, if_pos (by omega)]
          obtain ⟨i, rfl⟩ : ∃ i, j = 48 + i := ⟨j - 48, by omega⟩
          rw [seg_in _ _ (by omega), show 48 + i - 48 = i by omega]
set_option maxHeartbeats 4000000 in
set_option maxRecDepth 100000 in
theorem c_writePlaces (l : Launch) (V : Ev) (X : Mm) (pf : Nat) (hpf : pf ≤ 16) (s0 : Nat × (Nat → Int32)) (h0 : s0.1 ≤ 12) (M0 : Nat → Int32) (hR : X.1 20 = seg s0.2 M0 48 s0.1) : Met l y_Signing_writePlaces (Cond.code y_Signing_writePlaces b_Signing_writePlaces 6 (some .int) :: WA) ({ frames := 0, cells := 0, slots := 0, locals := 0 } : Room) (g_Pc V X [.ref (g_ad V 7), .ref (g_ad V 20), .int (nI (s0.1)), .int (nI (pf))]) (g_Qi V (fun (r : Int32) (X1 : Mm) => r = nI (hwN (X.1 41) pf s0 16).1 ∧ X1.1 20 = seg (hwN (X.1 41) pf s0 16).2 M0 48 (hwN (X.1 41) pf s0 16).1 ∧ fr X X1 [20] [] [])) 0 0 (g_A V) := by
  refine g_met (by decide) (Nat.le_of_ble_eq_true rfl) ?_
  intro p e s m below meth c hx hb hr hml hown hts hlocks hE hG ls hl
  have hl : lv_has ls 6 [(0, .ref (g_ad V 7)), (1, .ref (g_ad V 20)), (2, .int (nI (s0.1))), (3, .int (nI (pf)))] := hl
  have hown : s.vm.findClass R_Signing = some m.cls := hown
  refine lv_iload_n hx hb d_Signing_writePlaces_0 rfl (lv_at hl 2 rfl) ?_
  refine lv_istore (lv' := [(4, .int (nI (s0.1))), (0, .ref (g_ad V 7)), (1, .ref (g_ad V 20)), (2, .int (nI (s0.1))), (3, .int (nI (pf)))]) hx hb d_Signing_writePlaces_1 hl (by decide) rfl (fun ls hl => ?_)
  refine lv_iconst (v := nI (0)) hx hb d_Signing_writePlaces_3 (by decide) ?_
  refine lv_istore (lv' := [(5, .int (nI (0))), (4, .int (nI (s0.1))), (0, .ref (g_ad V 7)), (1, .ref (g_ad V 20)), (2, .int (nI (s0.1))), (3, .int (nI (pf)))]) hx hb d_Signing_writePlaces_4 hl (by decide) rfl (fun ls hl => ?_)
  have K6 : ∀ (n t : Nat), t + n = 16 → ∀ (X1 : Mm) (H : Heap) (locs : List Loc), ∀ (ls : Array Slot), (fr X X1 [20] [] []) → (X1.1 20 = seg (hwN (X.1 41) pf s0 t).2 M0 48 (hwN (X.1 41) pf s0 t).1) → g_st V X1 s.heap H locs → lv_has ls 6 [(0, .ref (g_ad V 7)), (1, .ref (g_ad V 20)), (3, .int (nI (pf))), (4, .int (nI ((hwN (X.1 41) pf s0 t).1))), (5, .int (nI (t)))] → W p l e ({ frames := 0, cells := 0, slots := 0, locals := 0 } : Room) s m ([.ref (g_ad V 7), .ref (g_ad V 20), .int (nI (s0.1)), .int (nI (pf))] : List Value).toArray below meth c H locs 0 0 (MQ below (g_Qi V (fun (r : Int32) (X1 : Mm) => r = nI (hwN (X.1 41) pf s0 16).1 ∧ X1.1 20 = seg (hwN (X.1 41) pf s0 16).2 M0 48 (hwN (X.1 41) pf s0 16).1 ∧ fr X X1 [20] [] [])) ([.ref (g_ad V 7), .ref (g_ad V 20), .int (nI (s0.1)), .int (nI (pf))] : List Value).toArray s 0 0 (g_A V)) (F0 m 6 ls []) := by
    intro n
    induction n with
    | zero =>
      intro t hin6 X1 H locs ls hF hC hG hl
      have hi6 : 16 = t := by omega
      subst hi6
      refine lv_iload hx hb d_Signing_writePlaces_6 (lv_at hl 4 rfl) ?_
      refine lv_bipush (v := nI (16)) hx hb d_Signing_writePlaces_8 (by decide) ?_
      refine lv_icmp_ge (tgt := 51) hx hb d_Signing_writePlaces_10 (by decide) (fun _ => ?_) (fun q => absurd ((g_geN (x := 16) (y := 16) (by omega) (by omega)).mp q) (by omega))
      refine lv_iload hx hb d_Signing_writePlaces_51 (lv_at hl 3 rfl) ?_
      exact g_iret hx hb hr hlocks hE hG (⟨rfl, hC, hF⟩) d_Signing_writePlaces_53
    | succ n ih6 =>
      intro t hin6 X1 H locs ls hF hC hG hl
      have hi6 : t < 16 := by omega
      have hle := hwN_le (X.1 41) pf s0 h0 t
      refine lv_iload hx hb d_Signing_writePlaces_6 (lv_at hl 4 rfl) ?_
      refine lv_bipush (v := nI (16)) hx hb d_Signing_writePlaces_8 (by decide) ?_
      refine lv_icmp_ge (tgt := 51) hx hb d_Signing_writePlaces_10 (by decide) (fun q => absurd ((g_ge (x := t) (y := 16) (by omega) (by omega)).mp q) (by omega)) (fun _ => ?_)
      refine lv_iload hx hb d_Signing_writePlaces_13 (lv_at hl 3 rfl) ?_
      refine lv_bipush (v := nI (12)) hx hb d_Signing_writePlaces_15 (by decide) ?_
      refine lv_icmp_ge (tgt := 51) hx hb d_Signing_writePlaces_17 (by decide) (fun c17 => ?_) (fun c17 => ?_)
      · have c17 := (g_ge (x := (hwN (X.1 41) pf s0 t).1) (y := 12) (by omega) (by omega)).mp c17
        have e16 : hwN (X.1 41) pf s0 16 = (hwN (X.1 41) pf s0 t) := by
          rw [show 16 = t + (16 - t) by omega]
          exact hwN_full (by omega) _
        refine lv_iload hx hb d_Signing_writePlaces_51 (lv_at hl 3 rfl) ?_
        exact g_iret hx hb hr hlocks hE hG (⟨by rw [e16], by rw [e16]; exact hC, hF⟩) d_Signing_writePlaces_53
      · have c17 := (g_geN (x := (hwN (X.1 41) pf s0 t).1) (y := 12) (by omega) (by omega)).mp c17
        refine lv_aload_n hx hb d_Signing_writePlaces_20 rfl (lv_at hl 0 rfl) ?_
        refine g_get (ci := 4) (v := .ref (g_ad V 41)) (C := R_Signing) (T := F_Signing) (N := 9) hx hb hts (fun w h => List.mem_cons_of_mem _ (in_Signing w h)) hown hE hG 7 (by decide) rfl rfl 8 (by decide) (hts _ (List.mem_cons_of_mem _ kw_135)) (fun _ h9 => h9) rfl d_Signing_writePlaces_21 ?_
        refine lv_iload_n hx hb d_Signing_writePlaces_24 rfl (lv_at hl 2 rfl) ?_
        refine lv_iload hx hb d_Signing_writePlaces_25 (lv_at hl 4 rfl) ?_
        refine lv_iadd hx hb d_Signing_writePlaces_27 ?_
        refine g_topi (y := nI (pf + t)) (nI_add _ _) ?_
        refine g_iald hx hb hE hG 41 (by decide) (pf + t) (rfl) (show _ < 32 by omega) (v := X.1 41 (pf + t)) (congrFun (hF.1 41 (by decide)) _) d_Signing_writePlaces_28 ?_
        refine lv_iconst (v := nI (1)) hx hb d_Signing_writePlaces_29 (by decide) ?_
        refine lv_icmp_ne (tgt := 45) hx hb d_Signing_writePlaces_30 (by decide) (fun c30 => ?_) (fun c30 => ?_)
        · have e1 : hwN (X.1 41) pf s0 (t + 1) = (hwN (X.1 41) pf s0 t) := hwN_n (fun q => absurd q.2 c30)
          refine lv_iinc (v := nI (t + 1)) (lv' := [(5, .int (nI (t + 1))), (0, .ref (g_ad V 7)), (1, .ref (g_ad V 20)), (3, .int (nI (pf))), (4, .int (nI ((hwN (X.1 41) pf s0 t).1)))]) hx hb d_Signing_writePlaces_45 hl (k := 4) rfl (g_inc _) (by decide) rfl (fun ls hl => ?_)
          refine lv_goto (tgt := 6) hx hb d_Signing_writePlaces_48 (by decide) ?_
          exact ih6 (t + 1) (by omega) X1 _ _ ls hF (by rw [e1]; exact hC) hG (by rw [e1]; exact lv_sub hl [1, 2, 3, 4, 0] rfl)
        · have e1 := hwN_y (h := X.1 41) (pf := pf) (s0 := s0) (p := t) (by omega) c30
          refine lv_aload_n hx hb d_Signing_writePlaces_33 rfl (lv_at hl 1 rfl) ?_
          refine lv_bipush (v := nI (48)) hx hb d_Signing_writePlaces_34 (by decide) ?_
          refine lv_iload hx hb d_Signing_writePlaces_36 (lv_at hl 3 rfl) ?_
          refine lv_iadd hx hb d_Signing_writePlaces_38 ?_
          refine g_topi (y := nI (48 + ((hwN (X.1 41) pf s0 t).1))) (nI_add _ _) ?_
          refine lv_iload hx hb d_Signing_writePlaces_39 (lv_at hl 4 rfl) ?_
          refine g_iast (x := nI (t)) hx hb hE hG 20 (by decide) (48 + ((hwN (X.1 41) pf s0 t).1)) (rfl) (show _ < 62 by omega) d_Signing_writePlaces_41 (fun H locs hG => ?_)
          refine lv_iinc (v := nI ((hwN (X.1 41) pf s0 t).1 + 1)) (lv' := [(4, .int (nI ((hwN (X.1 41) pf s0 t).1 + 1))), (0, .ref (g_ad V 7)), (1, .ref (g_ad V 20)), (3, .int (nI (pf))), (5, .int (nI (t)))]) hx hb d_Signing_writePlaces_42 hl (k := 3) rfl (g_inc _) (by decide) rfl (fun ls hl => ?_)
          refine lv_iinc (v := nI (t + 1)) (lv' := [(5, .int (nI (t + 1))), (4, .int (nI ((hwN (X.1 41) pf s0 t).1 + 1))), (0, .ref (g_ad V 7)), (1, .ref (g_ad V 20)), (3, .int (nI (pf)))]) hx hb d_Signing_writePlaces_45 hl (k := 4) rfl (g_inc _) (by decide) rfl (fun ls hl => ?_)
          refine lv_goto (tgt := 6) hx hb d_Signing_writePlaces_48 (by decide) ?_
          exact ih6 (t + 1) (by omega) (uI X1 20 (upd (X1.1 20) (48 + ((hwN (X.1 41) pf s0 t).1)) (nI (t)))) _ _ ls (fr_i hF _ (by decide)) (by rw [uI_s, hC, e1]; exact seg_u _ _ _ _ _) hG (by rw [e1]; exact lv_sub hl [2, 3, 4, 1, 0] rfl)
  exact K6 (16 - 0) 0 (by omega) X _ _ ls (fr_rf X _ _ _) hR hG (lv_sub hl [2, 3, 5, 1, 0] rfl)

set_option maxHeartbeats 4000000 in
set_option maxRecDepth 100000 in
theorem c_writeHints (l : Launch) (V : Ev) (X : Mm)  : Met l y_Signing_writeHints (Cond.code y_Signing_writeHints b_Signing_writeHints 4 none :: WA) ({ frames := 1, cells := 0, slots := 0, locals := 25 } : Room) (g_Pc V X [.ref (g_ad V 7), .ref (g_ad V 20)]) (g_Qv V (fun X1 : Mm => X1.1 20 = upd (upd (seg (hw2 (X.1 41)).2 (X.1 20) 48 12) 60 (nI (hw1 (X.1 41)).1)) 61 (nI (hw2 (X.1 41)).1) ∧ fr X X1 [20] [] [])) 0 0 (g_A V) := by
  refine g_met (by decide) (Nat.le_of_ble_eq_true rfl) ?_
  intro p e s m below meth c hx hb hr hml hown hts hlocks hE hG ls hl
  have hl : lv_has ls 4 [(0, .ref (g_ad V 7)), (1, .ref (g_ad V 20))] := hl
  have hown : s.vm.findClass R_Signing = some m.cls := hown
  refine lv_aload_n hx hb d_Signing_writeHints_0 rfl (lv_at hl 0 rfl) ?_
  refine lv_aload_n hx hb d_Signing_writeHints_1 rfl (lv_at hl 1 rfl) ?_
  refine lv_iconst (v := nI (0)) hx hb d_Signing_writeHints_2 (by decide) ?_
  refine lv_iconst (v := nI (0)) hx hb d_Signing_writeHints_3 (by decide) ?_
  refine g_calli (va_runV (As := [.ref (g_ad V 20), .int (nI (0)), .int (nI (0))]) (rest := []) ⟨hx, hb, hml, hown, hts⟩ (c_writePlaces l V X 0 (by decide) (0, fun _ => nI 0) (by decide) (X.1 20) (seg_0 _ _ _).symm) (cwV 3 hts (g_goodV kw_469 kw_466 kw_468 kp_10 kw_5) rfl rfl rfl (by decide +kernel) ⟨Nat.le_of_ble_eq_true rfl, Nat.le_of_ble_eq_true rfl⟩) (g_preV (k0 := 7) (ci := 4) hE hG (by decide) rfl rfl) rfl rfl hl.1 rfl (lv_room (Nat.le_of_ble_eq_true rfl)) d_Signing_writeHints_4 ⟨Nat.le_refl 0, Nat.le_refl 0⟩) hG (fun r1 X2 H locs q2 hG => ?_)
  rw [hw1_eq] at q2
  have l1 := hw1_le (X.1 41)
  refine g_topi (y := nI ((hw1 (X.1 41)).1)) (q2.1) ?_
  refine lv_istore_n (lv' := [(2, .int (nI ((hw1 (X.1 41)).1))), (0, .ref (g_ad V 7)), (1, .ref (g_ad V 20))]) hx hb d_Signing_writeHints_7 rfl hl (by decide) rfl (fun ls hl => ?_)
  refine lv_aload_n hx hb d_Signing_writeHints_8 rfl (lv_at hl 1 rfl) ?_
  refine lv_aload_n hx hb d_Signing_writeHints_9 rfl (lv_at hl 2 rfl) ?_
  refine lv_iload_n hx hb d_Signing_writeHints_10 rfl (lv_at hl 0 rfl) ?_
  refine lv_bipush (v := nI (16)) hx hb d_Signing_writeHints_11 (by decide) ?_
  refine g_calli (va_runV (As := [.ref (g_ad V 20), .int (nI ((hw1 (X.1 41)).1)), .int (nI (16))]) (rest := []) ⟨hx, hb, hml, hown, hts⟩ (c_writePlaces l V X2 16 (by decide) (hw1 (X.1 41)) l1 (X.1 20) q2.2.1) (cwV 3 hts (g_goodV kw_469 kw_466 kw_468 kp_10 kw_5) rfl rfl rfl (by decide +kernel) ⟨Nat.le_of_ble_eq_true rfl, Nat.le_of_ble_eq_true rfl⟩) (g_preV (k0 := 7) (ci := 4) hE hG (by decide) rfl rfl) rfl rfl hl.1 rfl (lv_room (Nat.le_of_ble_eq_true rfl)) d_Signing_writeHints_13 ⟨Nat.le_refl 0, Nat.le_refl 0⟩) hG (fun r2 X3 H locs q3 hG => ?_)
  have e41 : X2.1 41 = X.1 41 := q2.2.2.1 41 (by decide)
  rw [e41, hw2_eq] at q3
  have l2 := hw2_le (X.1 41)
  refine g_topi (y := nI ((hw2 (X.1 41)).1)) (q3.1) ?_
  refine lv_istore_n (lv' := [(3, .int (nI ((hw2 (X.1 41)).1))), (2, .int (nI ((hw1 (X.1 41)).1))), (0, .ref (g_ad V 7)), (1, .ref (g_ad V 20))]) hx hb d_Signing_writeHints_16 rfl hl (by decide) rfl (fun ls hl => ?_)
  refine lv_aload_n hx hb d_Signing_writeHints_17 rfl (lv_at hl 3 rfl) ?_
  refine lv_bipush (v := nI (48)) hx hb d_Signing_writeHints_18 (by decide) ?_
  refine lv_iload_n hx hb d_Signing_writeHints_20 rfl (lv_at hl 0 rfl) ?_
  refine lv_bipush (v := nI (12)) hx hb d_Signing_writeHints_21 (by decide) ?_
  refine g_callv (va_runSN (As := [.ref (g_ad V 20), .int (nI (48)), .int (nI ((hw2 (X.1 41)).1)), .int (nI (12))]) (rest := []) ⟨hx, hb, hml, hown, hts⟩ (c_clearRest l V X3 20 (by decide) 48 (hw2 (X.1 41)).1 12 l2 (by decide) (hw2 (X.1 41)).2 (X.1 20) q3.2.1 (hw2_z (X.1 41))) ⟨va_cnB 4 hts (g_good kw_292) rfl rfl rfl (hE.2.1 _ nm_Signing_180) (hts _ (List.mem_cons_of_mem _ kw_1)) (by decide +kernel) ⟨Nat.le_of_ble_eq_true rfl, Nat.le_of_ble_eq_true rfl⟩, hts _ (List.mem_cons_of_mem _ kw_291), trivial⟩ (g_preS hE hG) rfl rfl hl.1 rfl (lv_room (Nat.le_of_ble_eq_true rfl)) d_Signing_writeHints_23 ⟨Nat.le_refl 0, Nat.le_refl 0⟩) hG (fun X4 H locs q4 hG => ?_)
  refine lv_aload_n hx hb d_Signing_writeHints_26 rfl (lv_at hl 3 rfl) ?_
  refine lv_bipush (v := nI (60)) hx hb d_Signing_writeHints_27 (by decide) ?_
  refine lv_iload_n hx hb d_Signing_writeHints_29 rfl (lv_at hl 1 rfl) ?_
  refine g_iast (x := nI ((hw1 (X.1 41)).1)) hx hb hE hG 20 (by decide) (60) (rfl) (show _ < 62 by omega) d_Signing_writeHints_30 (fun H locs hG => ?_)
  refine lv_aload_n hx hb d_Signing_writeHints_31 rfl (lv_at hl 3 rfl) ?_
  refine lv_bipush (v := nI (61)) hx hb d_Signing_writeHints_32 (by decide) ?_
  refine lv_iload_n hx hb d_Signing_writeHints_34 rfl (lv_at hl 0 rfl) ?_
  refine g_iast (x := nI ((hw2 (X.1 41)).1)) hx hb hE hG 20 (by decide) (61) (rfl) (show _ < 62 by omega) d_Signing_writeHints_35 (fun H locs hG => ?_)
  exact g_vret hx hb hr hlocks hE hG (⟨by rw [uI_s, uI_s, q4.1], fr_i (fr_i (fr_tr2 (fr_tr2 (fr_mono q2.2.2 (a' := [20]) (by decide) (by decide) (by decide)) q3.2.2 (by decide) (by decide) (by decide)) q4.2 (by decide) (by decide) (by decide)) _ (by decide)) _ (by decide)⟩) d_Signing_writeHints_36

set_option maxHeartbeats 4000000 in
set_option maxRecDepth 100000 in
theorem c_writeTo (l : Launch) (V : Ev) (X : Mm) (hB : ∀ j, j < 62 → isB (X.1 20 j)) : Met l y_Signing_writeTo (Cond.code y_Signing_writeTo b_Signing_writeTo 3 none :: WA) ({ frames := 2, cells := 0, slots := 0, locals := 60 } : Room) (g_Pc V X [.ref (g_ad V 7), .ref (g_ad V 20)]) (g_Qv V (fun X1 : Mm => X1.1 20 = sigP (X.1 33) (X.1 38) (X.1 41) ∧ fr X X1 [20] [] [])) 0 0 (g_A V) := by
  refine g_met (by decide) (Nat.le_of_ble_eq_true rfl) ?_
  intro p e s m below meth c hx hb hr hml hown hts hlocks hE hG ls hl
  have hl : lv_has ls 3 [(0, .ref (g_ad V 7)), (1, .ref (g_ad V 20))] := hl
  have hown : s.vm.findClass R_Signing = some m.cls := hown
  refine lv_aload_n hx hb d_Signing_writeTo_0 rfl (lv_at hl 0 rfl) ?_
  refine g_get (ci := 4) (v := .ref (g_ad V 8)) (C := R_Signing) (T := F_Signing) (N := 9) hx hb hts (fun w h => List.mem_cons_of_mem _ (in_Signing w h)) hown hE hG 7 (by decide) rfl rfl 0 (by decide) (hts _ (List.mem_cons_of_mem _ kw_127)) (fun _ h9 => h9) rfl d_Signing_writeTo_1 ?_
  refine g_getN (ci := 5) (v := .ref (g_ad V 33)) (C := R_Transcript) (T := F_Transcript) (N := 3) hx hb hts (fun w h => List.mem_cons_of_mem _ (in_Transcript w h)) hown hE hG 8 (by decide) rfl rfl 2 (by decide) (nf_Signing_103) (fun _ h9 => h9) rfl d_Signing_writeTo_4 ?_
  refine lv_iconst (v := nI (0)) hx hb d_Signing_writeTo_7 (by decide) ?_
  refine lv_aload_n hx hb d_Signing_writeTo_8 rfl (lv_at hl 1 rfl) ?_
  refine lv_iconst (v := nI (0)) hx hb d_Signing_writeTo_9 (by decide) ?_
  refine lv_bipush (v := nI (8)) hx hb d_Signing_writeTo_10 (by decide) ?_
  refine g_copy hx hb (hml.trans hl.1.symm) hown (hts _ (List.mem_cons_of_mem _ kw_376)) (hts _ (List.mem_cons_of_mem _ kw_272)) (hts _ (List.mem_cons_of_mem _ kw_271)) (hts _ (List.mem_cons_of_mem _ kw_11)) hE hG 33 20 (by decide) (by decide) (sp := 0) (dp := 0) (n := 8) (by decide) (by decide) (Nat.le_of_ble_eq_true rfl) (Nat.le_of_ble_eq_true rfl) d_Signing_writeTo_12 (fun H locs hG => ?_)
  rw [cpy_segI] at hG
  refine lv_iconst (v := nI (0)) hx hb d_Signing_writeTo_15 (by decide) ?_
  refine lv_istore_n (lv' := [(2, .int (nI (0))), (0, .ref (g_ad V 7)), (1, .ref (g_ad V 20))]) hx hb d_Signing_writeTo_16 rfl hl (by decide) rfl (fun ls hl => ?_)
  have K17 : ∀ (n i : Nat), i + n = 32 → ∀ (X1 : Mm) (H : Heap) (locs : List Loc), ∀ (ls : Array Slot), (fr X X1 [20] [] []) → (X1.1 20 = pkN (segI (X.1 33) (X.1 20) 8) (zwP (X.1 38)) 8 10 i) → g_st V X1 s.heap H locs → lv_has ls 3 [(0, .ref (g_ad V 7)), (1, .ref (g_ad V 20)), (2, .int (nI (i)))] → W p l e ({ frames := 2, cells := 0, slots := 0, locals := 60 } : Room) s m ([.ref (g_ad V 7), .ref (g_ad V 20)] : List Value).toArray below meth c H locs 0 0 (MQ below (g_Qv V (fun X1 : Mm => X1.1 20 = sigP (X.1 33) (X.1 38) (X.1 41) ∧ fr X X1 [20] [] [])) ([.ref (g_ad V 7), .ref (g_ad V 20)] : List Value).toArray s 0 0 (g_A V)) (F0 m 17 ls []) := by
    intro n
    induction n with
    | zero =>
      intro i hin17 X1 H locs ls hF hC hG hl
      have hi17 : 32 = i := by omega
      subst hi17
      refine lv_iload_n hx hb d_Signing_writeTo_17 rfl (lv_at hl 2 rfl) ?_
      refine lv_bipush (v := nI (32)) hx hb d_Signing_writeTo_18 (by decide) ?_
      refine lv_icmp_ge (tgt := 52) hx hb d_Signing_writeTo_20 (by decide) (fun _ => ?_) (fun q => absurd ((g_geN (x := 32) (y := 32) (by omega) (by omega)).mp q) (by omega))
      refine lv_aload_n hx hb d_Signing_writeTo_52 rfl (lv_at hl 0 rfl) ?_
      refine lv_aload_n hx hb d_Signing_writeTo_53 rfl (lv_at hl 1 rfl) ?_
      refine g_callv (va_runV (As := [.ref (g_ad V 20)]) (rest := []) ⟨hx, hb, hml, hown, hts⟩ (c_writeHints l V X1 ) (cwV 1 hts (g_goodV kw_465 kw_462 kw_464 kp_9 kw_5) rfl rfl rfl (by decide +kernel) ⟨Nat.le_of_ble_eq_true rfl, Nat.le_of_ble_eq_true rfl⟩) (g_preV (k0 := 7) (ci := 4) hE hG (by decide) rfl rfl) rfl rfl hl.1 rfl (lv_room (Nat.le_of_ble_eq_true rfl)) d_Signing_writeTo_54 ⟨Nat.le_refl 0, Nat.le_refl 0⟩) hG (fun X3 H locs q3 hG => ?_)
      have e41 : X1.1 41 = X.1 41 := hF.1 41 (by decide)
      have q31 := q3.1
      rw [e41, hC] at q31
      have hG := g_xi hG 20 (by decide) (sigP (X.1 33) (X.1 38) (X.1 41)) (fun j hj => by rw [q31]; exact sig_eq hB hj)
      exact g_vret hx hb hr hlocks hE hG (⟨uI_s _ _ _, fr_i (fr_tr hF q3.2) _ (by decide)⟩) d_Signing_writeTo_57
    | succ n ih17 =>
      intro i hin17 X1 H locs ls hF hC hG hl
      have hi17 : i < 32 := by omega
      refine lv_iload_n hx hb d_Signing_writeTo_17 rfl (lv_at hl 2 rfl) ?_
      refine lv_bipush (v := nI (32)) hx hb d_Signing_writeTo_18 (by decide) ?_
      refine lv_icmp_ge (tgt := 52) hx hb d_Signing_writeTo_20 (by decide) (fun q => absurd ((g_ge (x := i) (y := 32) (by omega) (by omega)).mp q) (by omega)) (fun _ => ?_)
      refine lv_aload_n hx hb d_Signing_writeTo_23 rfl (lv_at hl 1 rfl) ?_
      refine lv_bipush (v := nI (8)) hx hb d_Signing_writeTo_24 (by decide) ?_
      refine lv_iload_n hx hb d_Signing_writeTo_26 rfl (lv_at hl 2 rfl) ?_
      refine lv_bipush (v := nI (10)) hx hb d_Signing_writeTo_27 (by decide) ?_
      refine lv_sipush (v := nI (512)) hx hb d_Signing_writeTo_29 (by decide) ?_
      refine lv_aload_n hx hb d_Signing_writeTo_32 rfl (lv_at hl 0 rfl) ?_
      refine g_get (ci := 4) (v := .ref (g_ad V 38)) (C := R_Signing) (T := F_Signing) (N := 9) hx hb hts (fun w h => List.mem_cons_of_mem _ (in_Signing w h)) hown hE hG 7 (by decide) rfl rfl 5 (by decide) (hts _ (List.mem_cons_of_mem _ kw_132)) (fun _ h9 => h9) rfl d_Signing_writeTo_33 ?_
      refine lv_iload_n hx hb d_Signing_writeTo_36 rfl (lv_at hl 2 rfl) ?_
      refine g_iald hx hb hE hG 38 (by decide) (i) (rfl) (show _ < 32 by omega) (v := X.1 38 i) (congrFun (hF.1 38 (by decide)) _) d_Signing_writeTo_37 ?_
      refine lv_i2l (v := (X.1 38 i).toInt64) hx hb d_Signing_writeTo_38 rfl ?_
      refine g_callpi (va_runS (As := [.long ((X.1 38 i).toInt64)]) (rest := [.int (nI (512)), .int (nI (10)), .int (nI (i)), .int (nI (8)), .ref (g_ad V 20)]) ⟨hx, hb, hml, hown, hts⟩ (c_centered l (X.1 38 i).toInt64) (va_cwS 1 hts (g_goodS kw_430 kw_460 kw_429 kw_13) rfl rfl rfl (by decide +kernel) ⟨Nat.le_of_ble_eq_true rfl, Nat.le_of_ble_eq_true rfl⟩) ⟨fun _ _ _ _ q => q, fun _ _ _ => rfl⟩ rfl rfl hl.1 rfl (lv_room (Nat.le_of_ble_eq_true rfl)) d_Signing_writeTo_39 ⟨Nat.le_refl 0, Nat.le_refl 0⟩) (fun r5 q1 => ?_)
      refine g_topi (y := cenP (redP (X.1 38 i).toInt64)) (q1) ?_
      refine lv_isub hx hb d_Signing_writeTo_42 ?_
      refine g_topi (y := zwP (X.1 38) i) (rfl) ?_
      refine g_callv (va_runS (As := [.ref (g_ad V 20), .int (nI (8)), .int (nI (i)), .int (nI (10)), .int (zwP (X.1 38) i)]) (rest := []) ⟨hx, hb, hml, hown, hts⟩ (c_write l V X1 20 (by decide) 8 i 10 (zwP (X.1 38) i) (by omega) (by show 8 * 8 + i * 10 + 10 ≤ 8 * 62; omega)) (va_cwS 5 hts (g_goodS kw_322 kw_461 kw_321 kw_15) rfl rfl rfl (by decide +kernel) ⟨Nat.le_of_ble_eq_true rfl, Nat.le_of_ble_eq_true rfl⟩) (g_preS hE hG) rfl rfl hl.1 rfl (lv_room (Nat.le_of_ble_eq_true rfl)) d_Signing_writeTo_43 ⟨Nat.le_refl 0, Nat.le_refl 0⟩) hG (fun X2 H locs q2 hG => ?_)
      refine lv_iinc (v := nI (i + 1)) (lv' := [(2, .int (nI (i + 1))), (0, .ref (g_ad V 7)), (1, .ref (g_ad V 20))]) hx hb d_Signing_writeTo_46 hl (k := 2) rfl (g_inc _) (by decide) rfl (fun ls hl => ?_)
      refine lv_goto (tgt := 17) hx hb d_Signing_writeTo_49 (by decide) ?_
      exact ih17 (i + 1) (by omega) X2 _ _ ls (fr_tr hF q2.2) (by rw [q2.1, hC]; rfl) hG (lv_sub hl [1, 2, 0] rfl)
  exact K17 (32 - 0) 0 (by omega) (uI X 20 (segI (X.1 33) (X.1 20) 8)) _ _ ls (fr_i (fr_rf X _ _ _) _ (by decide)) (uI_s _ _ _) hG (lv_sub hl [1, 2, 0] rfl)
