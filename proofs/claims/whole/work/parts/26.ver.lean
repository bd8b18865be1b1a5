set_option maxHeartbeats 4000000 in
set_option maxRecDepth 100000 in
theorem c_readZ (l : Launch) (V : Ev) (X : Mm)  : Met l y_Verifying_readZ (Cond.code y_Verifying_readZ b_Verifying_readZ 3 none :: WA) ({ frames := 1, cells := 0, slots := 0, locals := 26 } : Room) (g_Pc V X [.ref (g_ad V 9), .ref (g_ad V 20)]) (g_Qv V (fun X1 : Mm => X1.1 48 = rzP (X.1 20) ∧ fr X X1 [48] [] [])) 0 0 (g_A V) := by
  refine g_met (by decide) (Nat.le_of_ble_eq_true rfl) ?_
  intro p e s m below meth c hx hb hr hml hown hts hlocks hE hG ls hl
  have hl : lv_has ls 3 [(0, .ref (g_ad V 9)), (1, .ref (g_ad V 20))] := hl
  have hown : s.vm.findClass R_Verifying = some m.cls := hown
  refine lv_iconst (v := nI (0)) hx hb d_Verifying_readZ_0 (by decide) ?_
  refine lv_istore_n (lv' := [(2, .int (nI (0))), (0, .ref (g_ad V 9)), (1, .ref (g_ad V 20))]) hx hb d_Verifying_readZ_1 rfl hl (by decide) rfl (fun ls hl => ?_)
  have K2 : ∀ (n i : Nat), i + n = 32 → ∀ (X1 : Mm) (H : Heap) (locs : List Loc), ∀ (ls : Array Slot), (fr X X1 [48] [] []) → (X1.1 48 = segI (rzP (X.1 20)) (X.1 48) i) → g_st V X1 s.heap H locs → lv_has ls 3 [(0, .ref (g_ad V 9)), (1, .ref (g_ad V 20)), (2, .int (nI (i)))] → W p l e ({ frames := 1, cells := 0, slots := 0, locals := 26 } : Room) s m ([.ref (g_ad V 9), .ref (g_ad V 20)] : List Value).toArray below meth c H locs 0 0 (MQ below (g_Qv V (fun X1 : Mm => X1.1 48 = rzP (X.1 20) ∧ fr X X1 [48] [] [])) ([.ref (g_ad V 9), .ref (g_ad V 20)] : List Value).toArray s 0 0 (g_A V)) (F0 m 2 ls []) := by
    intro n
    induction n with
    | zero =>
      intro i hin2 X1 H locs ls hF hC hG hl
      have hi2 : 32 = i := by omega
      subst hi2
      refine lv_iload_n hx hb d_Verifying_readZ_2 rfl (lv_at hl 2 rfl) ?_
      refine lv_bipush (v := nI (32)) hx hb d_Verifying_readZ_3 (by decide) ?_
      refine lv_icmp_ge (tgt := 33) hx hb d_Verifying_readZ_5 (by decide) (fun _ => ?_) (fun q => absurd ((g_geN (x := 32) (y := 32) (by omega) (by omega)).mp q) (by omega))
      have hG := g_xi hG 48 (by decide) (rzP (X.1 20)) (fun j hj => by rw [hC]; exact segI_e _ _ hj)
      exact g_vret hx hb hr hlocks hE hG (⟨uI_s _ _ _, fr_i hF _ (by decide)⟩) d_Verifying_readZ_33
    | succ n ih2 =>
      intro i hin2 X1 H locs ls hF hC hG hl
      have hi2 : i < 32 := by omega
      refine lv_iload_n hx hb d_Verifying_readZ_2 rfl (lv_at hl 2 rfl) ?_
      refine lv_bipush (v := nI (32)) hx hb d_Verifying_readZ_3 (by decide) ?_
      refine lv_icmp_ge (tgt := 33) hx hb d_Verifying_readZ_5 (by decide) (fun q => absurd ((g_ge (x := i) (y := 32) (by omega) (by omega)).mp q) (by omega)) (fun _ => ?_)
      refine lv_aload_n hx hb d_Verifying_readZ_8 rfl (lv_at hl 0 rfl) ?_
      refine g_get (ci := 6) (v := .ref (g_ad V 48)) (C := R_Verifying) (T := F_Verifying) (N := 9) hx hb hts (fun w h => List.mem_cons_of_mem _ (in_Verifying w h)) hown hE hG 9 (by decide) rfl rfl 4 (by decide) (hts _ (List.mem_cons_of_mem _ kw_167)) (fun _ h9 => h9) rfl d_Verifying_readZ_9 ?_
      refine lv_iload_n hx hb d_Verifying_readZ_12 rfl (lv_at hl 2 rfl) ?_
      refine lv_sipush (v := nI (512)) hx hb d_Verifying_readZ_13 (by decide) ?_
      refine lv_aload_n hx hb d_Verifying_readZ_16 rfl (lv_at hl 1 rfl) ?_
      refine lv_bipush (v := nI (8)) hx hb d_Verifying_readZ_17 (by decide) ?_
      refine lv_iload_n hx hb d_Verifying_readZ_19 rfl (lv_at hl 2 rfl) ?_
      refine lv_bipush (v := nI (10)) hx hb d_Verifying_readZ_20 (by decide) ?_
      refine g_calli (va_runS (As := [.ref (g_ad V 20), .int (nI (8)), .int (nI (i)), .int (nI (10))]) (rest := [.int (nI (512)), .int (nI (i)), .ref (g_ad V 48)]) ⟨hx, hb, hml, hown, hts⟩ (c_read l V X1 20 (by decide) 8 i 10 (by omega) (by show 8 * 8 + i * 10 + 10 ≤ 8 * 62; omega)) (va_cwS 4 hts (g_goodS kw_389 kw_483 kw_388 kw_15) rfl rfl rfl (by decide +kernel) ⟨Nat.le_of_ble_eq_true rfl, Nat.le_of_ble_eq_true rfl⟩) (g_preS hE hG) rfl rfl hl.1 rfl (lv_room (Nat.le_of_ble_eq_true rfl)) d_Verifying_readZ_22 ⟨Nat.le_refl 0, Nat.le_refl 0⟩) hG (fun r3 X1 H locs q0 hG => ?_)
      obtain ⟨q0, rfl⟩ := q0
      refine g_topi (y := rdN (X.1 20) 8 (i * 10) 10) (by rw [q0, hF.1 20 (by decide)]) ?_
      refine lv_isub hx hb d_Verifying_readZ_25 ?_
      refine g_topi (y := rzP (X.1 20) i) (rfl) ?_
      refine g_iast (x := rzP (X.1 20) i) hx hb hE hG 48 (by decide) (i) (rfl) (show _ < 32 by omega) d_Verifying_readZ_26 (fun H locs hG => ?_)
      refine lv_iinc (v := nI (i + 1)) (lv' := [(2, .int (nI (i + 1))), (0, .ref (g_ad V 9)), (1, .ref (g_ad V 20))]) hx hb d_Verifying_readZ_27 hl (k := 2) rfl (g_inc _) (by decide) rfl (fun ls hl => ?_)
      refine lv_goto (tgt := 2) hx hb d_Verifying_readZ_30 (by decide) ?_
      exact ih2 (i + 1) (by omega) (uI X1 48 (upd (X1.1 48) i (rzP (X.1 20) i))) _ _ ls (fr_i hF _ (by decide)) (by rw [uI_s, hC]; exact segI_s (rzP (X.1 20)) _ _) hG (lv_sub hl [1, 2, 0] rfl)
  exact K2 (32 - 0) 0 (by omega) X _ _ ls (fr_rf X _ _ _) (segI_0 _ _).symm hG (lv_sub hl [1, 2, 0] rfl)

set_option maxHeartbeats 4000000 in
set_option maxRecDepth 100000 in
theorem c_readT1 (l : Launch) (V : Ev) (X : Mm)  : Met l y_Verifying_readT1 (Cond.code y_Verifying_readT1 b_Verifying_readT1 3 none :: WA) ({ frames := 1, cells := 0, slots := 0, locals := 26 } : Room) (g_Pc V X [.ref (g_ad V 9), .ref (g_ad V 19)]) (g_Qv V (fun X1 : Mm => X1.1 47 = rtP (X.1 19) ∧ fr X X1 [47] [] [])) 0 0 (g_A V) := by
  refine g_met (by decide) (Nat.le_of_ble_eq_true rfl) ?_
  intro p e s m below meth c hx hb hr hml hown hts hlocks hE hG ls hl
  have hl : lv_has ls 3 [(0, .ref (g_ad V 9)), (1, .ref (g_ad V 19))] := hl
  have hown : s.vm.findClass R_Verifying = some m.cls := hown
  refine lv_iconst (v := nI (0)) hx hb d_Verifying_readT1_0 (by decide) ?_
  refine lv_istore_n (lv' := [(2, .int (nI (0))), (0, .ref (g_ad V 9)), (1, .ref (g_ad V 19))]) hx hb d_Verifying_readT1_1 rfl hl (by decide) rfl (fun ls hl => ?_)
  have K2 : ∀ (n i : Nat), i + n = 32 → ∀ (X1 : Mm) (H : Heap) (locs : List Loc), ∀ (ls : Array Slot), (fr X X1 [47] [] []) → (X1.1 47 = segI (rtP (X.1 19)) (X.1 47) i) → g_st V X1 s.heap H locs → lv_has ls 3 [(0, .ref (g_ad V 9)), (1, .ref (g_ad V 19)), (2, .int (nI (i)))] → W p l e ({ frames := 1, cells := 0, slots := 0, locals := 26 } : Room) s m ([.ref (g_ad V 9), .ref (g_ad V 19)] : List Value).toArray below meth c H locs 0 0 (MQ below (g_Qv V (fun X1 : Mm => X1.1 47 = rtP (X.1 19) ∧ fr X X1 [47] [] [])) ([.ref (g_ad V 9), .ref (g_ad V 19)] : List Value).toArray s 0 0 (g_A V)) (F0 m 2 ls []) := by
    intro n
    induction n with
    | zero =>
      intro i hin2 X1 H locs ls hF hC hG hl
      have hi2 : 32 = i := by omega
      subst hi2
      refine lv_iload_n hx hb d_Verifying_readT1_2 rfl (lv_at hl 2 rfl) ?_
      refine lv_bipush (v := nI (32)) hx hb d_Verifying_readT1_3 (by decide) ?_
      refine lv_icmp_ge (tgt := 37) hx hb d_Verifying_readT1_5 (by decide) (fun _ => ?_) (fun q => absurd ((g_geN (x := 32) (y := 32) (by omega) (by omega)).mp q) (by omega))
      have hG := g_xi hG 47 (by decide) (rtP (X.1 19)) (fun j hj => by rw [hC]; exact segI_e _ _ hj)
      exact g_vret hx hb hr hlocks hE hG (⟨uI_s _ _ _, fr_i hF _ (by decide)⟩) d_Verifying_readT1_37
    | succ n ih2 =>
      intro i hin2 X1 H locs ls hF hC hG hl
      have hi2 : i < 32 := by omega
      refine lv_iload_n hx hb d_Verifying_readT1_2 rfl (lv_at hl 2 rfl) ?_
      refine lv_bipush (v := nI (32)) hx hb d_Verifying_readT1_3 (by decide) ?_
      refine lv_icmp_ge (tgt := 37) hx hb d_Verifying_readT1_5 (by decide) (fun q => absurd ((g_ge (x := i) (y := 32) (by omega) (by omega)).mp q) (by omega)) (fun _ => ?_)
      refine lv_aload_n hx hb d_Verifying_readT1_8 rfl (lv_at hl 0 rfl) ?_
      refine g_get (ci := 6) (v := .ref (g_ad V 47)) (C := R_Verifying) (T := F_Verifying) (N := 9) hx hb hts (fun w h => List.mem_cons_of_mem _ (in_Verifying w h)) hown hE hG 9 (by decide) rfl rfl 3 (by decide) (hts _ (List.mem_cons_of_mem _ kw_166)) (fun _ h9 => h9) rfl d_Verifying_readT1_9 ?_
      refine lv_iload_n hx hb d_Verifying_readT1_12 rfl (lv_at hl 2 rfl) ?_
      refine lv_sipush (v := nI (256)) hx hb d_Verifying_readT1_13 (by decide) ?_
      refine lv_aload_n hx hb d_Verifying_readT1_16 rfl (lv_at hl 1 rfl) ?_
      refine lv_bipush (v := nI (8)) hx hb d_Verifying_readT1_17 (by decide) ?_
      refine lv_iload_n hx hb d_Verifying_readT1_19 rfl (lv_at hl 2 rfl) ?_
      refine lv_bipush (v := nI (15)) hx hb d_Verifying_readT1_20 (by decide) ?_
      refine g_calli (va_runS (As := [.ref (g_ad V 19), .int (nI (8)), .int (nI (i)), .int (nI (15))]) (rest := [.int (nI (256)), .int (nI (i)), .ref (g_ad V 47)]) ⟨hx, hb, hml, hown, hts⟩ (c_read l V X1 19 (by decide) 8 i 15 (by omega) (by show 8 * 8 + i * 15 + 15 ≤ 8 * 68; omega)) (va_cwS 4 hts (g_goodS kw_389 kw_483 kw_388 kw_15) rfl rfl rfl (by decide +kernel) ⟨Nat.le_of_ble_eq_true rfl, Nat.le_of_ble_eq_true rfl⟩) (g_preS hE hG) rfl rfl hl.1 rfl (lv_room (Nat.le_of_ble_eq_true rfl)) d_Verifying_readT1_22 ⟨Nat.le_refl 0, Nat.le_refl 0⟩) hG (fun r3 X1 H locs q0 hG => ?_)
      obtain ⟨q0, rfl⟩ := q0
      refine g_topi (y := rdN (X.1 19) 8 (i * 15) 15) (by rw [q0, hF.1 19 (by decide)]) ?_
      refine lv_imul hx hb d_Verifying_readT1_25 ?_
      refine lv_i2l (v := ((nI (256)) * (rdN (X.1 19) 8 (i * 15) 15)).toInt64) hx hb d_Verifying_readT1_26 rfl ?_
      refine g_callpi (va_runS (As := [.long (((nI (256)) * (rdN (X.1 19) 8 (i * 15) 15)).toInt64)]) (rest := [.int (nI (i)), .ref (g_ad V 47)]) ⟨hx, hb, hml, hown, hts⟩ (c_reduce l (nI 256 * rdN (X.1 19) 8 (i * 15) 15).toInt64) (va_cwS 1 hts (g_goodS kw_311 kw_505 kw_310 kw_13) rfl rfl rfl (by decide +kernel) ⟨Nat.le_of_ble_eq_true rfl, Nat.le_of_ble_eq_true rfl⟩) ⟨fun _ _ _ _ q => q, fun _ _ _ => rfl⟩ rfl rfl hl.1 rfl (lv_room (Nat.le_of_ble_eq_true rfl)) d_Verifying_readT1_27 ⟨Nat.le_refl 0, Nat.le_refl 0⟩) (fun r5 q1 => ?_)
      refine g_topi (y := rtP (X.1 19) i) (q1) ?_
      refine g_iast (x := rtP (X.1 19) i) hx hb hE hG 47 (by decide) (i) (rfl) (show _ < 32 by omega) d_Verifying_readT1_30 (fun H locs hG => ?_)
      refine lv_iinc (v := nI (i + 1)) (lv' := [(2, .int (nI (i + 1))), (0, .ref (g_ad V 9)), (1, .ref (g_ad V 19))]) hx hb d_Verifying_readT1_31 hl (k := 2) rfl (g_inc _) (by decide) rfl (fun ls hl => ?_)
      refine lv_goto (tgt := 2) hx hb d_Verifying_readT1_34 (by decide) ?_
      exact ih2 (i + 1) (by omega) (uI X1 47 (upd (X1.1 47) i (rtP (X.1 19) i))) _ _ ls (fr_i hF _ (by decide)) (by rw [uI_s, hC]; exact segI_s (rtP (X.1 19)) _ _) hG (lv_sub hl [1, 2, 0] rfl)
  exact K2 (32 - 0) 0 (by omega) X _ _ ls (fr_rf X _ _ _) (segI_0 _ _).symm hG (lv_sub hl [1, 2, 0] rfl)

set_option maxHeartbeats 4000000 in
set_option maxRecDepth 100000 in
theorem c_readPlaces (l : Launch) (V : Ev) (X : Mm) (fm d pf to : Nat) (hto : to = fm + d) (hd : fm + d ≤ 12) (hpf : pf ≤ 16) (sg : Nat → Nat) (hsg : ∀ j, j < 62 → X.1 20 j = nI (sg j)) (hsb : ∀ j, j < 62 → sg j < 256) : Met l y_Verifying_readPlaces (Cond.code y_Verifying_readPlaces b_Verifying_readPlaces 8 (some .boolean) :: WA) ({ frames := 0, cells := 0, slots := 0, locals := 0 } : Room) (g_Pc V X [.ref (g_ad V 9), .ref (g_ad V 20), .int (nI (fm)), .int (nI (to)), .int (nI (pf))]) (g_Qi V (fun (r : Int32) (X1 : Mm) => (okP sg fm d → r = nI 1 ∧ X1.1 50 = rpN (X.1 50) sg pf fm d) ∧ (¬ okP sg fm d → r = nI 0) ∧ fr X X1 [50] [] [])) 0 0 (g_A V) := by
  refine g_met (by decide) (Nat.le_of_ble_eq_true rfl) ?_
  intro p e s m below meth c hx hb hr hml hown hts hlocks hE hG ls hl
  have hl : lv_has ls 8 [(0, .ref (g_ad V 9)), (1, .ref (g_ad V 20)), (2, .int (nI (fm))), (3, .int (nI (to))), (4, .int (nI (pf)))] := hl
  have hown : s.vm.findClass R_Verifying = some m.cls := hown
  refine lv_iconst (v := -1) hx hb d_Verifying_readPlaces_0 (by decide) ?_
  refine lv_istore (lv' := [(5, .int (-1)), (0, .ref (g_ad V 9)), (1, .ref (g_ad V 20)), (2, .int (nI (fm))), (3, .int (nI (to))), (4, .int (nI (pf)))]) hx hb d_Verifying_readPlaces_1 hl (by decide) rfl (fun ls hl => ?_)
  refine lv_iload_n hx hb d_Verifying_readPlaces_3 rfl (lv_at hl 3 rfl) ?_
  refine lv_istore (lv' := [(6, .int (nI (fm))), (5, .int (-1)), (0, .ref (g_ad V 9)), (1, .ref (g_ad V 20)), (2, .int (nI (fm))), (3, .int (nI (to))), (4, .int (nI (pf)))]) hx hb d_Verifying_readPlaces_4 hl (by decide) rfl (fun ls hl => ?_)
  have K6 : ∀ (n i : Nat), i + n = d → ∀ (X1 : Mm) (H : Heap) (locs : List Loc), ∀ (ls : Array Slot), (fr X X1 [50] [] []) → (okP sg fm i) → (X1.1 50 = rpN (X.1 50) sg pf fm i) → g_st V X1 s.heap H locs → lv_has ls 8 [(0, .ref (g_ad V 9)), (1, .ref (g_ad V 20)), (3, .int (nI (to))), (4, .int (nI (pf))), (5, .int (bfP sg fm i)), (6, .int (nI (fm + i)))] → W p l e ({ frames := 0, cells := 0, slots := 0, locals := 0 } : Room) s m ([.ref (g_ad V 9), .ref (g_ad V 20), .int (nI (fm)), .int (nI (to)), .int (nI (pf))] : List Value).toArray below meth c H locs 0 0 (MQ below (g_Qi V (fun (r : Int32) (X1 : Mm) => (okP sg fm d → r = nI 1 ∧ X1.1 50 = rpN (X.1 50) sg pf fm d) ∧ (¬ okP sg fm d → r = nI 0) ∧ fr X X1 [50] [] [])) ([.ref (g_ad V 9), .ref (g_ad V 20), .int (nI (fm)), .int (nI (to)), .int (nI (pf))] : List Value).toArray s 0 0 (g_A V)) (F0 m 6 ls []) := by
    intro n
    induction n with
    | zero =>
      intro i hin6 X1 H locs ls hF hO hC hG hl
      have hi6 : d = i := by omega
      subst hi6
      refine lv_iload hx hb d_Verifying_readPlaces_6 (lv_at hl 5 rfl) ?_
      refine lv_iload_n hx hb d_Verifying_readPlaces_8 rfl (lv_at hl 2 rfl) ?_
      refine lv_icmp_ge (tgt := 58) hx hb d_Verifying_readPlaces_9 (by decide) (fun _ => ?_) (fun q => absurd ((g_geN (x := fm + d) (y := to) (by omega) (by omega)).mp q) (by omega))
      refine lv_iconst (v := nI (1)) hx hb d_Verifying_readPlaces_58 (by decide) ?_
      exact g_zret hx hb hr hlocks hE hG (by decide) (⟨fun _ => ⟨rfl, hC⟩, fun z => absurd hO z, hF⟩) d_Verifying_readPlaces_59
    | succ n ih6 =>
      intro i hin6 X1 H locs ls hF hO hC hG hl
      have hi6 : i < d := by omega
      have hb1 := hsb (48 + fm + i) (by omega)
      have hb2 := hsb (48 + fm + i - 1) (by omega)
      refine lv_iload hx hb d_Verifying_readPlaces_6 (lv_at hl 5 rfl) ?_
      refine lv_iload_n hx hb d_Verifying_readPlaces_8 rfl (lv_at hl 2 rfl) ?_
      refine lv_icmp_ge (tgt := 58) hx hb d_Verifying_readPlaces_9 (by decide) (fun q => absurd ((g_ge (x := fm + i) (y := to) (by omega) (by omega)).mp q) (by omega)) (fun _ => ?_)
      refine lv_aload_n hx hb d_Verifying_readPlaces_12 rfl (lv_at hl 1 rfl) ?_
      refine lv_bipush (v := nI (48)) hx hb d_Verifying_readPlaces_13 (by decide) ?_
      refine lv_iload hx hb d_Verifying_readPlaces_15 (lv_at hl 5 rfl) ?_
      refine lv_iadd hx hb d_Verifying_readPlaces_17 ?_
      refine g_topi (y := nI (48 + (fm + i))) (nI_add _ _) ?_
      refine g_iald hx hb hE hG 20 (by decide) (48 + (fm + i)) (rfl) (show _ < 62 by omega) (v := nI (sg (48 + fm + i))) ((congrFun (hF.1 20 (by decide)) _).trans (by rw [← Nat.add_assoc]; exact hsg _ (by omega))) d_Verifying_readPlaces_18 ?_
      refine g_topi (y := nI (sg (48 + fm + i))) (rfl) ?_
      refine lv_istore (lv' := [(7, .int (nI (sg (48 + fm + i)))), (0, .ref (g_ad V 9)), (1, .ref (g_ad V 20)), (3, .int (nI (to))), (4, .int (nI (pf))), (5, .int (bfP sg fm i)), (6, .int (nI (fm + i)))]) hx hb d_Verifying_readPlaces_19 hl (by decide) rfl (fun ls hl => ?_)
      refine lv_iload hx hb d_Verifying_readPlaces_21 (lv_at hl 0 rfl) ?_
      refine lv_iload hx hb d_Verifying_readPlaces_23 (lv_at hl 5 rfl) ?_
      refine lv_icmp_le (tgt := 35) hx hb d_Verifying_readPlaces_25 (by decide) (fun c25 => ?_) (fun c25 => ?_)
      · refine lv_iconst (v := nI (0)) hx hb d_Verifying_readPlaces_35 (by decide) ?_
        exact g_zret hx hb hr hlocks hE hG (by decide) (⟨fun z => absurd (z i (by omega)).2 ((bf_le hb1 hb2).mp c25), fun _ => rfl, hF⟩) d_Verifying_readPlaces_36
      · refine lv_iload hx hb d_Verifying_readPlaces_28 (lv_at hl 0 rfl) ?_
        refine lv_bipush (v := nI (16)) hx hb d_Verifying_readPlaces_30 (by decide) ?_
        refine lv_icmp_lt (tgt := 37) hx hb d_Verifying_readPlaces_32 (by decide) (fun c32 => ?_) (fun c32 => ?_)
        · have c32 := (g_lt (x := sg (48 + fm + i)) (y := 16) (by omega) (by omega)).mp c32
          refine lv_aload_n hx hb d_Verifying_readPlaces_37 rfl (lv_at hl 1 rfl) ?_
          refine g_get (ci := 6) (v := .ref (g_ad V 50)) (C := R_Verifying) (T := F_Verifying) (N := 9) hx hb hts (fun w h => List.mem_cons_of_mem _ (in_Verifying w h)) hown hE hG 9 (by decide) rfl rfl 6 (by decide) (hts _ (List.mem_cons_of_mem _ kw_169)) (fun _ h9 => h9) rfl d_Verifying_readPlaces_38 ?_
          refine lv_iload hx hb d_Verifying_readPlaces_41 (lv_at hl 4 rfl) ?_
          refine lv_iload hx hb d_Verifying_readPlaces_43 (lv_at hl 0 rfl) ?_
          refine lv_iadd hx hb d_Verifying_readPlaces_45 ?_
          refine g_topi (y := nI (pf + (sg (48 + fm + i)))) (nI_add _ _) ?_
          refine lv_iconst (v := nI (1)) hx hb d_Verifying_readPlaces_46 (by decide) ?_
          refine g_iast (x := nI (1)) hx hb hE hG 50 (by decide) (pf + (sg (48 + fm + i))) (rfl) (show _ < 32 by omega) d_Verifying_readPlaces_47 (fun H locs hG => ?_)
          refine lv_iload hx hb d_Verifying_readPlaces_48 (lv_at hl 0 rfl) ?_
          refine lv_istore (lv' := [(5, .int (nI (sg (48 + fm + i)))), (7, .int (nI (sg (48 + fm + i)))), (0, .ref (g_ad V 9)), (1, .ref (g_ad V 20)), (3, .int (nI (to))), (4, .int (nI (pf))), (6, .int (nI (fm + i)))]) hx hb d_Verifying_readPlaces_50 hl (by decide) rfl (fun ls hl => ?_)
          refine lv_iinc (v := nI (fm + (i + 1))) (lv' := [(6, .int (nI (fm + (i + 1)))), (5, .int (nI (sg (48 + fm + i)))), (7, .int (nI (sg (48 + fm + i)))), (0, .ref (g_ad V 9)), (1, .ref (g_ad V 20)), (3, .int (nI (to))), (4, .int (nI (pf)))]) hx hb d_Verifying_readPlaces_52 hl (k := 6) rfl (g_inc _) (by decide) rfl (fun ls hl => ?_)
          refine lv_goto (tgt := 6) hx hb d_Verifying_readPlaces_55 (by decide) ?_
          exact ih6 (i + 1) (by omega) (uI X1 50 (upd (X1.1 50) (pf + (sg (48 + fm + i))) (nI (1)))) _ _ ls (fr_i hF _ (by decide)) (lt_s hO ⟨c32, Classical.byContradiction fun z => c25 ((bf_le hb1 hb2).mpr z)⟩) (by rw [uI_s, hC]; rfl) hG (by rw [show bfP sg fm (i + 1) = nI (sg (48 + fm + i)) from if_neg (Nat.succ_ne_zero i)]; exact lv_sub hl [3, 4, 5, 6, 1, 0] rfl)
        · have c32 := (g_ltN (x := sg (48 + fm + i)) (y := 16) (by omega) (by omega)).mp c32
          refine lv_iconst (v := nI (0)) hx hb d_Verifying_readPlaces_35 (by decide) ?_
          exact g_zret hx hb hr hlocks hE hG (by decide) (⟨fun z => absurd (z i (by omega)).1 (by omega), fun _ => rfl, hF⟩) d_Verifying_readPlaces_36
  exact K6 (d - 0) 0 (by omega) X _ _ ls (fr_rf X _ _ _) (fun k hk => absurd hk (Nat.not_lt_zero k)) rfl hG (lv_sub hl [2, 3, 5, 6, 1, 0] rfl)

set_option maxHeartbeats 4000000 in
set_option maxRecDepth 100000 in
theorem c_isZeroBehind (l : Launch) (V : Ev) (X : Mm) (cnt : Nat) (hc : cnt ≤ 12) (sg : Nat → Nat) (hsg : ∀ j, j < 62 → X.1 20 j = nI (sg j)) (hsb : ∀ j, j < 62 → sg j < 256) : Met l y_Verifying_isZeroBehind (Cond.code y_Verifying_isZeroBehind b_Verifying_isZeroBehind 3 (some .boolean) :: WA) ({ frames := 0, cells := 0, slots := 0, locals := 0 } : Room) (g_Pc V X [.ref (g_ad V 20), .int (nI (cnt))]) (g_Qi V (fun (r : Int32) (X1 : Mm) => (((∀ k, cnt ≤ k → k < 12 → sg (48 + k) = 0) → r = nI 1) ∧ (¬ (∀ k, cnt ≤ k → k < 12 → sg (48 + k) = 0) → r = nI 0)) ∧ X = X1)) 0 0 (g_A V) := by
  refine g_met (by decide) (Nat.le_of_ble_eq_true rfl) ?_
  intro p e s m below meth c hx hb hr hml hown hts hlocks hE hG ls hl
  have hl : lv_has ls 3 [(0, .ref (g_ad V 20)), (1, .int (nI (cnt)))] := hl
  have hown : s.vm.findClass R_Verifying = some m.cls := hown
  refine lv_iload_n hx hb d_Verifying_isZeroBehind_0 rfl (lv_at hl 1 rfl) ?_
  refine lv_istore_n (lv' := [(2, .int (nI (cnt))), (0, .ref (g_ad V 20)), (1, .int (nI (cnt)))]) hx hb d_Verifying_isZeroBehind_1 rfl hl (by decide) rfl (fun ls hl => ?_)
  have K2 : ∀ (n i : Nat), i + n = 12 → ∀ (ls : Array Slot), (cnt ≤ i) → (∀ k, cnt ≤ k → k < i → sg (48 + k) = 0) → lv_has ls 3 [(0, .ref (g_ad V 20)), (2, .int (nI (i)))] → W p l e ({ frames := 0, cells := 0, slots := 0, locals := 0 } : Room) s m ([.ref (g_ad V 20), .int (nI (cnt))] : List Value).toArray below meth c s.heap [] 0 0 (MQ below (g_Qi V (fun (r : Int32) (X1 : Mm) => (((∀ k, cnt ≤ k → k < 12 → sg (48 + k) = 0) → r = nI 1) ∧ (¬ (∀ k, cnt ≤ k → k < 12 → sg (48 + k) = 0) → r = nI 0)) ∧ X = X1)) ([.ref (g_ad V 20), .int (nI (cnt))] : List Value).toArray s 0 0 (g_A V)) (F0 m 2 ls []) := by
    intro n
    induction n with
    | zero =>
      intro i hin2 ls hci hA hl
      have hi2 : 12 = i := by omega
      subst hi2
      refine lv_iload_n hx hb d_Verifying_isZeroBehind_2 rfl (lv_at hl 1 rfl) ?_
      refine lv_bipush (v := nI (12)) hx hb d_Verifying_isZeroBehind_3 (by decide) ?_
      refine lv_icmp_ge (tgt := 25) hx hb d_Verifying_isZeroBehind_5 (by decide) (fun _ => ?_) (fun q => absurd ((g_geN (x := 12) (y := 12) (by omega) (by omega)).mp q) (by omega))
      refine lv_iconst (v := nI (1)) hx hb d_Verifying_isZeroBehind_25 (by decide) ?_
      exact g_zret hx hb hr hlocks hE hG (by decide) (⟨⟨fun _ => rfl, fun z => absurd hA z⟩, rfl⟩) d_Verifying_isZeroBehind_26
    | succ n ih2 =>
      intro i hin2 ls hci hA hl
      have hi2 : i < 12 := by omega
      have hb1 := hsb (48 + i) (by omega)
      refine lv_iload_n hx hb d_Verifying_isZeroBehind_2 rfl (lv_at hl 1 rfl) ?_
      refine lv_bipush (v := nI (12)) hx hb d_Verifying_isZeroBehind_3 (by decide) ?_
      refine lv_icmp_ge (tgt := 25) hx hb d_Verifying_isZeroBehind_5 (by decide) (fun q => absurd ((g_ge (x := i) (y := 12) (by omega) (by omega)).mp q) (by omega)) (fun _ => ?_)
      refine lv_aload_n hx hb d_Verifying_isZeroBehind_8 rfl (lv_at hl 0 rfl) ?_
      refine lv_bipush (v := nI (48)) hx hb d_Verifying_isZeroBehind_9 (by decide) ?_
      refine lv_iload_n hx hb d_Verifying_isZeroBehind_11 rfl (lv_at hl 1 rfl) ?_
      refine lv_iadd hx hb d_Verifying_isZeroBehind_12 ?_
      refine g_topi (y := nI (48 + i)) (nI_add _ _) ?_
      refine g_iald hx hb hE hG 20 (by decide) (48 + i) (rfl) (show _ < 62 by omega) (v := nI (sg (48 + i))) (hsg _ (by omega)) d_Verifying_isZeroBehind_13 ?_
      refine g_topi (y := nI (sg (48 + i))) (rfl) ?_
      refine lv_if_eq (tgt := 19) hx hb d_Verifying_isZeroBehind_14 (by decide) (fun c14 => ?_) (fun c14 => ?_)
      · have c14 := (g_eq (x := sg (48 + i)) (y := 0) (by omega) (by omega)).mp c14
        refine lv_iinc (v := nI (i + 1)) (lv' := [(2, .int (nI (i + 1))), (0, .ref (g_ad V 20))]) hx hb d_Verifying_isZeroBehind_19 hl (k := 1) rfl (g_inc _) (by decide) rfl (fun ls hl => ?_)
        refine lv_goto (tgt := 2) hx hb d_Verifying_isZeroBehind_22 (by decide) ?_
        exact ih2 (i + 1) (by omega) ls (by omega) (fun k h1 h2 => by by_cases e : k = i; exact (by rw [e]; exact c14); exact hA k h1 (by omega)) (lv_sub hl [1, 0] rfl)
      · have c14 := (g_eqN (x := sg (48 + i)) (y := 0) (by omega) (by omega)).mp c14
        refine lv_iconst (v := nI (0)) hx hb d_Verifying_isZeroBehind_17 (by decide) ?_
        exact g_zret hx hb hr hlocks hE hG (by decide) (⟨⟨fun z => absurd (z i hci (by omega)) c14, fun _ => rfl⟩, rfl⟩) d_Verifying_isZeroBehind_18
  exact K2 (12 - cnt) cnt (by omega) ls (Nat.le_refl _) (fun k h1 h2 => absurd h1 (by omega)) (lv_sub hl [1, 0] rfl)

set_option maxHeartbeats 4000000 in
set_option maxRecDepth 100000 in
theorem c_readHints (l : Launch) (V : Ev) (X : Mm) (sg : Nat → Nat) (hsg : ∀ j, j < 62 → X.1 20 j = nI (sg j)) (hsb : ∀ j, j < 62 → sg j < 256) : Met l y_Verifying_readHints (Cond.code y_Verifying_readHints b_Verifying_readHints 4 (some .boolean) :: WA) ({ frames := 1, cells := 0, slots := 0, locals := 27 } : Room) (g_Pc V X [.ref (g_ad V 9), .ref (g_ad V 20)]) (g_Qi V (fun (r : Int32) (X1 : Mm) => (hOK sg → r = nI 1 ∧ X1.1 50 = hRD sg) ∧ (¬ hOK sg → r = nI 0) ∧ fr X X1 [50] [] [])) 0 0 (g_A V) := by
  refine g_met (by decide) (Nat.le_of_ble_eq_true rfl) ?_
  intro p e s m below meth c hx hb hr hml hown hts hlocks hE hG ls hl
  have hl : lv_has ls 4 [(0, .ref (g_ad V 9)), (1, .ref (g_ad V 20))] := hl
  have hown : s.vm.findClass R_Verifying = some m.cls := hown
  have h60 := hsb 60 (by decide)
  have h61 := hsb 61 (by decide)
  refine lv_aload_n hx hb d_Verifying_readHints_0 rfl (lv_at hl 1 rfl) ?_
  refine lv_bipush (v := nI (60)) hx hb d_Verifying_readHints_1 (by decide) ?_
  refine g_iald hx hb hE hG 20 (by decide) (60) (rfl) (show _ < 62 by omega) (v := nI (sg 60)) (hsg 60 (by decide)) d_Verifying_readHints_3 ?_
  refine g_topi (y := nI (sg 60)) (rfl) ?_
  refine lv_istore_n (lv' := [(2, .int (nI (sg 60))), (0, .ref (g_ad V 9)), (1, .ref (g_ad V 20))]) hx hb d_Verifying_readHints_4 rfl hl (by decide) rfl (fun ls hl => ?_)
  refine lv_aload_n hx hb d_Verifying_readHints_5 rfl (lv_at hl 2 rfl) ?_
  refine lv_bipush (v := nI (61)) hx hb d_Verifying_readHints_6 (by decide) ?_
  refine g_iald hx hb hE hG 20 (by decide) (61) (rfl) (show _ < 62 by omega) (v := nI (sg 61)) (hsg 61 (by decide)) d_Verifying_readHints_8 ?_
  refine g_topi (y := nI (sg 61)) (rfl) ?_
  refine lv_istore_n (lv' := [(3, .int (nI (sg 61))), (2, .int (nI (sg 60))), (0, .ref (g_ad V 9)), (1, .ref (g_ad V 20))]) hx hb d_Verifying_readHints_9 rfl hl (by decide) rfl (fun ls hl => ?_)
  refine lv_iload_n hx hb d_Verifying_readHints_10 rfl (lv_at hl 1 rfl) ?_
  refine lv_iload_n hx hb d_Verifying_readHints_11 rfl (lv_at hl 0 rfl) ?_
  refine lv_icmp_gt (tgt := 21) hx hb d_Verifying_readHints_12 (by decide) (fun c12 => ?_) (fun c12 => ?_)
  · have c12 := (g_gt (x := sg 60) (y := sg 61) (by omega) (by omega)).mp c12
    refine lv_iconst (v := nI (0)) hx hb d_Verifying_readHints_21 (by decide) ?_
    exact g_zret hx hb hr hlocks hE hG (by decide) (⟨fun z => absurd z.1 (by omega), fun _ => rfl, fr_rf X _ _ _⟩) d_Verifying_readHints_22
  · have c12 := (g_gtN (x := sg 60) (y := sg 61) (by omega) (by omega)).mp c12
    refine lv_iload_n hx hb d_Verifying_readHints_15 rfl (lv_at hl 0 rfl) ?_
    refine lv_bipush (v := nI (12)) hx hb d_Verifying_readHints_16 (by decide) ?_
    refine lv_icmp_le (tgt := 23) hx hb d_Verifying_readHints_18 (by decide) (fun c18 => ?_) (fun c18 => ?_)
    · have c18 := (g_le (x := sg 61) (y := 12) (by omega) (by omega)).mp c18
      refine lv_aload_n hx hb d_Verifying_readHints_23 rfl (lv_at hl 2 rfl) ?_
      refine g_get (ci := 6) (v := .ref (g_ad V 50)) (C := R_Verifying) (T := F_Verifying) (N := 9) hx hb hts (fun w h => List.mem_cons_of_mem _ (in_Verifying w h)) hown hE hG 9 (by decide) rfl rfl 6 (by decide) (hts _ (List.mem_cons_of_mem _ kw_169)) (fun _ h9 => h9) rfl d_Verifying_readHints_24 ?_
      refine lv_iconst (v := nI (0)) hx hb d_Verifying_readHints_27 (by decide) ?_
      refine g_callv (va_runS (As := [.ref (g_ad V 50), .int (nI (0))]) (rest := []) ⟨hx, hb, hml, hown, hts⟩ (c_fillI l V X 50 (by decide) (nI 0)) (va_cwS 2 hts (g_goodS kw_416 kw_488 kw_415 kw_9) rfl rfl rfl (by decide +kernel) ⟨Nat.le_of_ble_eq_true rfl, Nat.le_of_ble_eq_true rfl⟩) (g_preS hE hG) rfl rfl hl.1 rfl (lv_room (Nat.le_of_ble_eq_true rfl)) d_Verifying_readHints_28 ⟨Nat.le_refl 0, Nat.le_refl 0⟩) hG (fun X2 H locs q2 hG => ?_)
      obtain ⟨d, hd⟩ : ∃ d, sg 61 = sg 60 + d := ⟨sg 61 - sg 60, by omega⟩
      have dd : sg 61 - sg 60 = d := by omega
      refine lv_aload_n hx hb d_Verifying_readHints_31 rfl (lv_at hl 2 rfl) ?_
      refine lv_aload_n hx hb d_Verifying_readHints_32 rfl (lv_at hl 3 rfl) ?_
      refine lv_iconst (v := nI (0)) hx hb d_Verifying_readHints_33 (by decide) ?_
      refine lv_iload_n hx hb d_Verifying_readHints_34 rfl (lv_at hl 1 rfl) ?_
      refine lv_iconst (v := nI (0)) hx hb d_Verifying_readHints_35 (by decide) ?_
      refine g_calli (va_runV (As := [.ref (g_ad V 20), .int (nI (0)), .int (nI (sg 60)), .int (nI (0))]) (rest := []) ⟨hx, hb, hml, hown, hts⟩ (c_readPlaces l V X2 0 (sg 60) 0 (sg 60) (by omega) (by omega) (by decide) sg (fun j hj => by rw [q2.2.1 20 (by decide)]; exact hsg j hj) hsb) (cwV 4 hts (g_goodV kw_492 kw_489 kw_491 kp_13 kw_7) rfl rfl rfl (by decide +kernel) ⟨Nat.le_of_ble_eq_true rfl, Nat.le_of_ble_eq_true rfl⟩) (g_preV (k0 := 9) (ci := 6) hE hG (by decide) rfl rfl) rfl rfl hl.1 rfl (lv_room (Nat.le_of_ble_eq_true rfl)) d_Verifying_readHints_36 ⟨Nat.le_refl 0, Nat.le_refl 0⟩) hG (fun ra X3 H locs q3 hG => ?_)
      refine lv_if_eq (tgt := 66) hx hb d_Verifying_readHints_39 (by decide) (fun c39 => ?_) (fun c39 => ?_)
      · have n1 : ¬ okP sg 0 (sg 60) := fun z => by rw [(q3.1 z).1] at c39; exact absurd c39 (by decide)
        refine lv_iconst (v := nI (0)) hx hb d_Verifying_readHints_66 (by decide) ?_
        exact g_zret hx hb hr hlocks hE hG (by decide) (⟨fun z => absurd z.2.2.1 n1, fun _ => rfl, fr_tr q2.2 q3.2.2⟩) d_Verifying_readHints_67
      · have n1 : okP sg 0 (sg 60) := Classical.byContradiction fun z => c39 (q3.2.1 z)
        refine lv_aload_n hx hb d_Verifying_readHints_42 rfl (lv_at hl 2 rfl) ?_
        refine lv_aload_n hx hb d_Verifying_readHints_43 rfl (lv_at hl 3 rfl) ?_
        refine lv_iload_n hx hb d_Verifying_readHints_44 rfl (lv_at hl 1 rfl) ?_
        refine lv_iload_n hx hb d_Verifying_readHints_45 rfl (lv_at hl 0 rfl) ?_
        refine lv_bipush (v := nI (16)) hx hb d_Verifying_readHints_46 (by decide) ?_
        refine g_calli (va_runV (As := [.ref (g_ad V 20), .int (nI (sg 60)), .int (nI (sg 61)), .int (nI (16))]) (rest := []) ⟨hx, hb, hml, hown, hts⟩ (c_readPlaces l V X3 (sg 60) d 16 (sg 61) (by omega) (by omega) (by decide) sg (fun j hj => by rw [q3.2.2.1 20 (by decide), q2.2.1 20 (by decide)]; exact hsg j hj) hsb) (cwV 4 hts (g_goodV kw_492 kw_489 kw_491 kp_13 kw_7) rfl rfl rfl (by decide +kernel) ⟨Nat.le_of_ble_eq_true rfl, Nat.le_of_ble_eq_true rfl⟩) (g_preV (k0 := 9) (ci := 6) hE hG (by decide) rfl rfl) rfl rfl hl.1 rfl (lv_room (Nat.le_of_ble_eq_true rfl)) d_Verifying_readHints_48 ⟨Nat.le_refl 0, Nat.le_refl 0⟩) hG (fun rb X4 H locs q4 hG => ?_)
        refine lv_if_eq (tgt := 66) hx hb d_Verifying_readHints_51 (by decide) (fun c51 => ?_) (fun c51 => ?_)
        · have n2 : ¬ okP sg (sg 60) d := fun z => by rw [(q4.1 z).1] at c51; exact absurd c51 (by decide)
          refine lv_iconst (v := nI (0)) hx hb d_Verifying_readHints_66 (by decide) ?_
          exact g_zret hx hb hr hlocks hE hG (by decide) (⟨fun z => absurd (dd ▸ z.2.2.2.1) n2, fun _ => rfl, fr_tr (fr_tr q2.2 q3.2.2) q4.2.2⟩) d_Verifying_readHints_67
        · have n2 : okP sg (sg 60) d := Classical.byContradiction fun z => c51 (q4.2.1 z)
          refine lv_aload_n hx hb d_Verifying_readHints_54 rfl (lv_at hl 3 rfl) ?_
          refine lv_iload_n hx hb d_Verifying_readHints_55 rfl (lv_at hl 0 rfl) ?_
          refine g_calli (va_runS (As := [.ref (g_ad V 20), .int (nI (sg 61))]) (rest := []) ⟨hx, hb, hml, hown, hts⟩ (c_isZeroBehind l V X4 (sg 61) (by omega) sg (fun j hj => by rw [q4.2.2.1 20 (by decide), q3.2.2.1 20 (by decide), q2.2.1 20 (by decide)]; exact hsg j hj) hsb) (va_cwS 2 hts (g_goodS kw_495 kw_493 kw_494 kw_7) rfl rfl rfl (by decide +kernel) ⟨Nat.le_of_ble_eq_true rfl, Nat.le_of_ble_eq_true rfl⟩) (g_preS hE hG) rfl rfl hl.1 rfl (lv_room (Nat.le_of_ble_eq_true rfl)) d_Verifying_readHints_56 ⟨Nat.le_refl 0, Nat.le_refl 0⟩) hG (fun rc X10 H locs q5 hG => ?_)
          obtain ⟨q5, rfl⟩ := q5
          refine lv_if_eq (tgt := 66) hx hb d_Verifying_readHints_59 (by decide) (fun c59 => ?_) (fun c59 => ?_)
          · have n3 : ¬ ∀ k, sg 61 ≤ k → k < 12 → sg (48 + k) = 0 := fun z => by rw [q5.1 z] at c59; exact absurd c59 (by decide)
            refine lv_iconst (v := nI (0)) hx hb d_Verifying_readHints_66 (by decide) ?_
            exact g_zret hx hb hr hlocks hE hG (by decide) (⟨fun z => absurd z.2.2.2.2 n3, fun _ => rfl, fr_tr (fr_tr q2.2 q3.2.2) q4.2.2⟩) d_Verifying_readHints_67
          · have n3 : ∀ k, sg 61 ≤ k → k < 12 → sg (48 + k) = 0 := Classical.byContradiction fun z => c59 (q5.2 z)
            refine lv_iconst (v := nI (1)) hx hb d_Verifying_readHints_62 (by decide) ?_
            refine lv_goto (tgt := 67) hx hb d_Verifying_readHints_63 (by decide) ?_
            exact g_zret hx hb hr hlocks hE hG (by decide) (⟨fun _ => ⟨rfl, by unfold hRD; rw [dd, (q4.1 n2).2, (q3.1 n1).2, q2.1]⟩, fun z => absurd ⟨by omega, by omega, n1, by rw [dd]; exact n2, n3⟩ z, fr_tr (fr_tr q2.2 q3.2.2) q4.2.2⟩) d_Verifying_readHints_67
    · have c18 := (g_leN (x := sg 61) (y := 12) (by omega) (by omega)).mp c18
      refine lv_iconst (v := nI (0)) hx hb d_Verifying_readHints_21 (by decide) ?_
      exact g_zret hx hb hr hlocks hE hG (by decide) (⟨fun z => absurd z.2.1 (by omega), fun _ => rfl, fr_rf X _ _ _⟩) d_Verifying_readHints_22

set_option maxHeartbeats 4000000 in
set_option maxRecDepth 100000 in
theorem c_correctAll (l : Launch) (V : Ev) (X : Mm) (hB : ∀ j, j < 48 → isB (X.1 43 j)) : Met l y_Verifying_correctAll (Cond.code y_Verifying_correctAll b_Verifying_correctAll 3 none :: WA) ({ frames := 3, cells := 0, slots := 0, locals := 65 } : Room) (g_Pc V X [.ref (g_ad V 9)]) (g_Qv V (fun X1 : Mm => X1.1 43 = pcP (crP (X.1 50) (X.1 46) (X.1 48) (X.1 49) (X.1 47)) 0 12 32 ∧ fr X X1 [43, 51, 52] [] [])) 0 0 (g_A V) := by
  refine g_met (by decide) (Nat.le_of_ble_eq_true rfl) ?_
  intro p e s m below meth c hx hb hr hml hown hts hlocks hE hG ls hl
  have hl : lv_has ls 3 [(0, .ref (g_ad V 9))] := hl
  have hown : s.vm.findClass R_Verifying = some m.cls := hown
  refine lv_aload_n hx hb d_Verifying_correctAll_0 rfl (lv_at hl 0 rfl) ?_
  refine g_get (ci := 6) (v := .ref (g_ad V 46)) (C := R_Verifying) (T := F_Verifying) (N := 9) hx hb hts (fun w h => List.mem_cons_of_mem _ (in_Verifying w h)) hown hE hG 9 (by decide) rfl rfl 2 (by decide) (hts _ (List.mem_cons_of_mem _ kw_165)) (fun _ h9 => h9) rfl d_Verifying_correctAll_1 ?_
  refine lv_aload_n hx hb d_Verifying_correctAll_4 rfl (lv_at hl 0 rfl) ?_
  refine g_get (ci := 6) (v := .ref (g_ad V 48)) (C := R_Verifying) (T := F_Verifying) (N := 9) hx hb hts (fun w h => List.mem_cons_of_mem _ (in_Verifying w h)) hown hE hG 9 (by decide) rfl rfl 4 (by decide) (hts _ (List.mem_cons_of_mem _ kw_167)) (fun _ h9 => h9) rfl d_Verifying_correctAll_5 ?_
  refine lv_aload_n hx hb d_Verifying_correctAll_8 rfl (lv_at hl 0 rfl) ?_
  refine g_get (ci := 6) (v := .ref (g_ad V 51)) (C := R_Verifying) (T := F_Verifying) (N := 9) hx hb hts (fun w h => List.mem_cons_of_mem _ (in_Verifying w h)) hown hE hG 9 (by decide) rfl rfl 7 (by decide) (hts _ (List.mem_cons_of_mem _ kw_170)) (fun _ h9 => h9) rfl d_Verifying_correctAll_9 ?_
  refine g_callv (va_runS (As := [.ref (g_ad V 46), .ref (g_ad V 48), .ref (g_ad V 51)]) (rest := []) ⟨hx, hb, hml, hown, hts⟩ (c_applyMatrix l V X 46 (by decide) rfl 48 (by decide) rfl 51 (by decide) rfl (by decide) (by decide)) (va_cwS 3 hts (g_goodS kw_305 kw_510 kw_304 kw_13) rfl rfl rfl (by decide +kernel) ⟨Nat.le_of_ble_eq_true rfl, Nat.le_of_ble_eq_true rfl⟩) (g_preS hE hG) rfl rfl hl.1 rfl (lv_room (Nat.le_of_ble_eq_true rfl)) d_Verifying_correctAll_12 ⟨Nat.le_refl 0, Nat.le_refl 0⟩) hG (fun Xa H locs qa hG => ?_)
  refine lv_aload_n hx hb d_Verifying_correctAll_15 rfl (lv_at hl 0 rfl) ?_
  refine g_get (ci := 6) (v := .ref (g_ad V 49)) (C := R_Verifying) (T := F_Verifying) (N := 9) hx hb hts (fun w h => List.mem_cons_of_mem _ (in_Verifying w h)) hown hE hG 9 (by decide) rfl rfl 5 (by decide) (hts _ (List.mem_cons_of_mem _ kw_168)) (fun _ h9 => h9) rfl d_Verifying_correctAll_16 ?_
  refine lv_aload_n hx hb d_Verifying_correctAll_19 rfl (lv_at hl 0 rfl) ?_
  refine g_get (ci := 6) (v := .ref (g_ad V 47)) (C := R_Verifying) (T := F_Verifying) (N := 9) hx hb hts (fun w h => List.mem_cons_of_mem _ (in_Verifying w h)) hown hE hG 9 (by decide) rfl rfl 3 (by decide) (hts _ (List.mem_cons_of_mem _ kw_166)) (fun _ h9 => h9) rfl d_Verifying_correctAll_20 ?_
  refine lv_aload_n hx hb d_Verifying_correctAll_23 rfl (lv_at hl 0 rfl) ?_
  refine g_get (ci := 6) (v := .ref (g_ad V 52)) (C := R_Verifying) (T := F_Verifying) (N := 9) hx hb hts (fun w h => List.mem_cons_of_mem _ (in_Verifying w h)) hown hE hG 9 (by decide) rfl rfl 8 (by decide) (hts _ (List.mem_cons_of_mem _ kw_171)) (fun _ h9 => h9) rfl d_Verifying_correctAll_24 ?_
  refine g_callv (va_runS (As := [.ref (g_ad V 49), .ref (g_ad V 47), .ref (g_ad V 52)]) (rest := []) ⟨hx, hb, hml, hown, hts⟩ (c_applyPolynomial l V Xa 49 (by decide) rfl 47 (by decide) rfl 52 (by decide) rfl (by decide) (by decide)) (va_cwS 3 hts (g_goodS kw_423 kw_511 kw_422 kw_13) rfl rfl rfl (by decide +kernel) ⟨Nat.le_of_ble_eq_true rfl, Nat.le_of_ble_eq_true rfl⟩) (g_preS hE hG) rfl rfl hl.1 rfl (lv_room (Nat.le_of_ble_eq_true rfl)) d_Verifying_correctAll_27 ⟨Nat.le_refl 0, Nat.le_refl 0⟩) hG (fun Xb H locs qb hG => ?_)
  refine lv_iconst (v := nI (0)) hx hb d_Verifying_correctAll_30 (by decide) ?_
  refine lv_istore_n (lv' := [(1, .int (nI (0))), (0, .ref (g_ad V 9))]) hx hb d_Verifying_correctAll_31 rfl hl (by decide) rfl (fun ls hl => ?_)
  have K32 : ∀ (n i : Nat), i + n = 32 → ∀ (X1 : Mm) (H : Heap) (locs : List Loc), ∀ (ls : Array Slot), (fr X X1 [43, 51, 52] [] []) → (X1.1 51 = mmP (X.1 46) (X.1 48)) → (X1.1 52 = mpP (X.1 49) (X.1 47)) → (X1.1 43 = pkN (X.1 43) (crP (X.1 50) (X.1 46) (X.1 48) (X.1 49) (X.1 47)) 0 12 i) → g_st V X1 s.heap H locs → lv_has ls 3 [(0, .ref (g_ad V 9)), (1, .int (nI (i)))] → W p l e ({ frames := 3, cells := 0, slots := 0, locals := 65 } : Room) s m ([.ref (g_ad V 9)] : List Value).toArray below meth c H locs 0 0 (MQ below (g_Qv V (fun X1 : Mm => X1.1 43 = pcP (crP (X.1 50) (X.1 46) (X.1 48) (X.1 49) (X.1 47)) 0 12 32 ∧ fr X X1 [43, 51, 52] [] [])) ([.ref (g_ad V 9)] : List Value).toArray s 0 0 (g_A V)) (F0 m 32 ls []) := by
    intro n
    induction n with
    | zero =>
      intro i hin32 X1 H locs ls hF h51 h52 hC hG hl
      have hi32 : 32 = i := by omega
      subst hi32
      refine lv_iload_n hx hb d_Verifying_correctAll_32 rfl (lv_at hl 1 rfl) ?_
      refine lv_bipush (v := nI (32)) hx hb d_Verifying_correctAll_33 (by decide) ?_
      refine lv_icmp_ge (tgt := 80) hx hb d_Verifying_correctAll_35 (by decide) (fun _ => ?_) (fun q => absurd ((g_geN (x := 32) (y := 32) (by omega) (by omega)).mp q) (by omega))
      have hG := g_xi hG 43 (by decide) (pcP (crP (X.1 50) (X.1 46) (X.1 48) (X.1 49) (X.1 47)) 0 12 32) (fun j hj => by rw [hC]; exact pc_eq0 hB (by decide) hj)
      exact g_vret hx hb hr hlocks hE hG (⟨uI_s _ _ _, fr_i hF _ (by decide)⟩) d_Verifying_correctAll_80
    | succ n ih32 =>
      intro i hin32 X1 H locs ls hF h51 h52 hC hG hl
      have hi32 : i < 32 := by omega
      refine lv_iload_n hx hb d_Verifying_correctAll_32 rfl (lv_at hl 1 rfl) ?_
      refine lv_bipush (v := nI (32)) hx hb d_Verifying_correctAll_33 (by decide) ?_
      refine lv_icmp_ge (tgt := 80) hx hb d_Verifying_correctAll_35 (by decide) (fun q => absurd ((g_ge (x := i) (y := 32) (by omega) (by omega)).mp q) (by omega)) (fun _ => ?_)
      refine lv_aload_n hx hb d_Verifying_correctAll_38 rfl (lv_at hl 0 rfl) ?_
      refine g_get (ci := 6) (v := .ref (g_ad V 51)) (C := R_Verifying) (T := F_Verifying) (N := 9) hx hb hts (fun w h => List.mem_cons_of_mem _ (in_Verifying w h)) hown hE hG 9 (by decide) rfl rfl 7 (by decide) (hts _ (List.mem_cons_of_mem _ kw_170)) (fun _ h9 => h9) rfl d_Verifying_correctAll_39 ?_
      refine lv_iload_n hx hb d_Verifying_correctAll_42 rfl (lv_at hl 1 rfl) ?_
      refine g_iald hx hb hE hG 51 (by decide) (i) (rfl) (show _ < 32 by omega) (v := mmP (X.1 46) (X.1 48) i) (congrFun h51 _) d_Verifying_correctAll_43 ?_
      refine lv_aload_n hx hb d_Verifying_correctAll_44 rfl (lv_at hl 0 rfl) ?_
      refine g_get (ci := 6) (v := .ref (g_ad V 52)) (C := R_Verifying) (T := F_Verifying) (N := 9) hx hb hts (fun w h => List.mem_cons_of_mem _ (in_Verifying w h)) hown hE hG 9 (by decide) rfl rfl 8 (by decide) (hts _ (List.mem_cons_of_mem _ kw_171)) (fun _ h9 => h9) rfl d_Verifying_correctAll_45 ?_
      refine lv_iload_n hx hb d_Verifying_correctAll_48 rfl (lv_at hl 1 rfl) ?_
      refine g_iald hx hb hE hG 52 (by decide) (i) (rfl) (show _ < 32 by omega) (v := mpP (X.1 49) (X.1 47) i) (congrFun h52 _) d_Verifying_correctAll_49 ?_
      refine lv_isub hx hb d_Verifying_correctAll_50 ?_
      refine lv_i2l (v := ((mmP (X.1 46) (X.1 48) i) - (mpP (X.1 49) (X.1 47) i)).toInt64) hx hb d_Verifying_correctAll_51 rfl ?_
      refine g_callpi (va_runS (As := [.long (((mmP (X.1 46) (X.1 48) i) - (mpP (X.1 49) (X.1 47) i)).toInt64)]) (rest := []) ⟨hx, hb, hml, hown, hts⟩ (c_reduce l (mmP (X.1 46) (X.1 48) i - mpP (X.1 49) (X.1 47) i).toInt64) (va_cwS 1 hts (g_goodS kw_311 kw_505 kw_310 kw_13) rfl rfl rfl (by decide +kernel) ⟨Nat.le_of_ble_eq_true rfl, Nat.le_of_ble_eq_true rfl⟩) ⟨fun _ _ _ _ q => q, fun _ _ _ => rfl⟩ rfl rfl hl.1 rfl (lv_room (Nat.le_of_ble_eq_true rfl)) d_Verifying_correctAll_52 ⟨Nat.le_refl 0, Nat.le_refl 0⟩) (fun r8 q1 => ?_)
      refine g_topi (y := redP (mmP (X.1 46) (X.1 48) i - mpP (X.1 49) (X.1 47) i).toInt64) (q1) ?_
      refine lv_istore_n (lv' := [(2, .int (redP (mmP (X.1 46) (X.1 48) i - mpP (X.1 49) (X.1 47) i).toInt64)), (0, .ref (g_ad V 9)), (1, .int (nI (i)))]) hx hb d_Verifying_correctAll_55 rfl hl (by decide) rfl (fun ls hl => ?_)
      refine lv_aload_n hx hb d_Verifying_correctAll_56 rfl (lv_at hl 1 rfl) ?_
      refine g_get (ci := 6) (v := .ref (g_ad V 10)) (C := R_Verifying) (T := F_Verifying) (N := 9) hx hb hts (fun w h => List.mem_cons_of_mem _ (in_Verifying w h)) hown hE hG 9 (by decide) rfl rfl 0 (by decide) (hts _ (List.mem_cons_of_mem _ kw_163)) (fun _ h9 => h9) rfl d_Verifying_correctAll_57 ?_
      refine lv_iload_n hx hb d_Verifying_correctAll_60 rfl (lv_at hl 2 rfl) ?_
      refine lv_aload_n hx hb d_Verifying_correctAll_61 rfl (lv_at hl 1 rfl) ?_
      refine g_get (ci := 6) (v := .ref (g_ad V 50)) (C := R_Verifying) (T := F_Verifying) (N := 9) hx hb hts (fun w h => List.mem_cons_of_mem _ (in_Verifying w h)) hown hE hG 9 (by decide) rfl rfl 6 (by decide) (hts _ (List.mem_cons_of_mem _ kw_169)) (fun _ h9 => h9) rfl d_Verifying_correctAll_62 ?_
      refine lv_iload_n hx hb d_Verifying_correctAll_65 rfl (lv_at hl 2 rfl) ?_
      refine g_iald hx hb hE hG 50 (by decide) (i) (rfl) (show _ < 32 by omega) (v := X.1 50 i) (congrFun (hF.1 50 (by decide)) _) d_Verifying_correctAll_66 ?_
      refine lv_iload_n hx hb d_Verifying_correctAll_67 rfl (lv_at hl 0 rfl) ?_
      refine g_callpi (va_runS (As := [.int (X.1 50 i), .int (redP (mmP (X.1 46) (X.1 48) i - mpP (X.1 49) (X.1 47) i).toInt64)]) (rest := [.int (nI (i)), .ref (g_ad V 10)]) ⟨hx, hb, hml, hown, hts⟩ (c_correctedBy l (X.1 50 i) (redP (mmP (X.1 46) (X.1 48) i - mpP (X.1 49) (X.1 47) i).toInt64)) (va_cwS 2 hts (g_goodS kw_514 kw_512 kw_513 kw_14) rfl rfl rfl (by decide +kernel) ⟨Nat.le_of_ble_eq_true rfl, Nat.le_of_ble_eq_true rfl⟩) ⟨fun _ _ _ _ q => q, fun _ _ _ => rfl⟩ rfl rfl hl.1 rfl (lv_room (Nat.le_of_ble_eq_true rfl)) d_Verifying_correctAll_68 ⟨Nat.le_refl 0, Nat.le_refl 0⟩) (fun r10 q2 => ?_)
      refine g_topi (y := crP (X.1 50) (X.1 46) (X.1 48) (X.1 49) (X.1 47) i) (q2) ?_
      refine g_callv (va_runV (As := [.int (nI (i)), .int (crP (X.1 50) (X.1 46) (X.1 48) (X.1 49) (X.1 47) i)]) (rest := []) ⟨hx, hb, hml, hown, hts⟩ (c_setHigh_10 l V X1 i ((crP (X.1 50) (X.1 46) (X.1 48) (X.1 49) (X.1 47)) i) (by omega)) (cwV 2 hts (g_goodV kw_402 kw_516 kw_400 kw_401 kw_6) rfl rfl rfl (by decide +kernel) ⟨Nat.le_of_ble_eq_true rfl, Nat.le_of_ble_eq_true rfl⟩) (g_preV (k0 := 10) (ci := 5) hE hG (by decide) rfl rfl) rfl rfl hl.1 rfl (lv_room (Nat.le_of_ble_eq_true rfl)) d_Verifying_correctAll_71 ⟨Nat.le_refl 0, Nat.le_refl 0⟩) hG (fun X2 H locs q3 hG => ?_)
      refine lv_iinc (v := nI (i + 1)) (lv' := [(1, .int (nI (i + 1))), (2, .int (redP (mmP (X.1 46) (X.1 48) i - mpP (X.1 49) (X.1 47) i).toInt64)), (0, .ref (g_ad V 9))]) hx hb d_Verifying_correctAll_74 hl (k := 2) rfl (g_inc _) (by decide) rfl (fun ls hl => ?_)
      refine lv_goto (tgt := 32) hx hb d_Verifying_correctAll_77 (by decide) ?_
      exact ih32 (i + 1) (by omega) X2 _ _ ls (fr_tr2 hF q3.2 (by decide) (by decide) (by decide)) ((q3.2.1 51 (by decide)).trans h51) ((q3.2.1 52 (by decide)).trans h52) (by rw [q3.1, hC]; rfl) hG (lv_sub hl [2, 0] rfl)
  exact K32 (32 - 0) 0 (by omega) Xb _ _ ls (fr_tr2 (fr_mono qa.2 (a' := [43, 51, 52]) (by decide) (by decide) (by decide)) qb.2 (by decide) (by decide) (by decide)) ((qb.2.1 51 (by decide)).trans qa.1) (by rw [qb.1, qa.2.1 49 (by decide), qa.2.1 47 (by decide)]) (by rw [qb.2.1 43 (by decide), qa.2.1 43 (by decide)]; rfl) hG (lv_sub hl [1, 0] rfl)

set_option maxHeartbeats 4000000 in
set_option maxRecDepth 100000 in
theorem c_holds (l : Launch) (V : Ev) (X : Mm) (n : Nat) (hn : n ≤ 24) (hM : X.2.2 2 = nI n) (sg : Nat → Nat) (hsg : ∀ j, j < 62 → X.1 20 j = nI (sg j)) (hsb : ∀ j, j < 62 → sg j < 256) (hB : ∀ j, j < 48 → isB (X.1 43 j)) : Met l y_Verifying_holds (Cond.code y_Verifying_holds b_Verifying_holds 5 (some .boolean) :: WA) ({ frames := 5, cells := 0, slots := 0, locals := 112 } : Room) (g_Pc V X [.ref (g_ad V 9), .ref (g_ad V 1), .ref (g_ad V 19), .ref (g_ad V 5), .ref (g_ad V 20)]) (g_Qi V (fun (r : Int32) (X1 : Mm) => ((hOK sg ∧ szN (rzP (X.1 20)) 32 < nI 504 ∧ ∀ j, j < 8 → (HS (apB (HS (apB (HS (X.1 19) 68) 8 (X.1 18)) (8 + n)) 16 (pcP (crP (hRD sg) (matP (X.1 19)) (rzP (X.1 20)) (blP (HS (X.1 20) 8)) (rtP (X.1 19))) 0 12 32)) 64) j = X.1 20 j) → r = nI 1) ∧ (¬ (hOK sg ∧ szN (rzP (X.1 20)) 32 < nI 504 ∧ ∀ j, j < 8 → (HS (apB (HS (apB (HS (X.1 19) 68) 8 (X.1 18)) (8 + n)) 16 (pcP (crP (hRD sg) (matP (X.1 19)) (rzP (X.1 20)) (blP (HS (X.1 20) 8)) (rtP (X.1 19))) 0 12 32)) 64) j = X.1 20 j) → r = nI 0) ∧ (∀ j, j < 48 → isB (X1.1 43 j)) ∧ fr X X1 [17, 42, 43, 44, 45, 46, 47, 48, 49, 50, 51, 52] [2, 3, 4] [1])) 0 0 (g_A V) := by
  refine g_met (by decide) (Nat.le_of_ble_eq_true rfl) ?_
  intro p e s m below meth c hx hb hr hml hown hts hlocks hE hG ls hl
  have hl : lv_has ls 5 [(0, .ref (g_ad V 9)), (1, .ref (g_ad V 1)), (2, .ref (g_ad V 19)), (3, .ref (g_ad V 5)), (4, .ref (g_ad V 20))] := hl
  have hown : s.vm.findClass R_Verifying = some m.cls := hown
  refine lv_aload_n hx hb d_Verifying_holds_0 rfl (lv_at hl 0 rfl) ?_
  refine lv_aload hx hb d_Verifying_holds_1 (lv_at hl 4 rfl) ?_
  refine g_callv (va_runV (As := [.ref (g_ad V 20)]) (rest := []) ⟨hx, hb, hml, hown, hts⟩ (c_readZ l V X ) (cwV 1 hts (g_goodV kw_482 kw_479 kw_481 kp_11 kw_7) rfl rfl rfl (by decide +kernel) ⟨Nat.le_of_ble_eq_true rfl, Nat.le_of_ble_eq_true rfl⟩) (g_preV (k0 := 9) (ci := 6) hE hG (by decide) rfl rfl) rfl rfl hl.1 rfl (lv_room (Nat.le_of_ble_eq_true rfl)) d_Verifying_holds_3 ⟨Nat.le_refl 0, Nat.le_refl 0⟩) hG (fun X2 H locs q2 hG => ?_)
  refine lv_aload_n hx hb d_Verifying_holds_6 rfl (lv_at hl 0 rfl) ?_
  refine lv_aload hx hb d_Verifying_holds_7 (lv_at hl 4 rfl) ?_
  refine g_calli (va_runV (As := [.ref (g_ad V 20)]) (rest := []) ⟨hx, hb, hml, hown, hts⟩ (c_readHints l V X2 sg (fun j hj => by rw [q2.2.1 20 (by decide)]; exact hsg j hj) hsb) (cwV 1 hts (g_goodV kw_487 kw_484 kw_486 kp_12 kw_7) rfl rfl rfl (by decide +kernel) ⟨Nat.le_of_ble_eq_true rfl, Nat.le_of_ble_eq_true rfl⟩) (g_preV (k0 := 9) (ci := 6) hE hG (by decide) rfl rfl) rfl rfl hl.1 rfl (lv_room (Nat.le_of_ble_eq_true rfl)) d_Verifying_holds_9 ⟨Nat.le_refl 0, Nat.le_refl 0⟩) hG (fun ra X3 H locs q3 hG => ?_)
  have f3 : fr X X3 [17, 42, 43, 44, 45, 46, 47, 48, 49, 50, 51, 52] [2, 3, 4] [1] := (fr_tr2 (fr_mono q2.2 (a' := [17, 42, 43, 44, 45, 46, 47, 48, 49, 50, 51, 52]) (b' := [2, 3, 4]) (c' := [1]) (by decide) (by decide) (by decide)) q3.2.2 (by decide) (by decide) (by decide))
  refine lv_if_eq (tgt := 28) hx hb d_Verifying_holds_12 (by decide) (fun c12 => ?_) (fun c12 => ?_)
  · have n1 : ¬ hOK sg := fun z => by rw [(q3.1 z).1] at c12; exact absurd c12 (by decide)
    refine lv_iconst (v := nI (0)) hx hb d_Verifying_holds_28 (by decide) ?_
    exact g_zret hx hb hr hlocks hE hG (by decide) (⟨fun z => absurd z.1 n1, fun _ => rfl, fun j hj => by rw [q3.2.2.1 43 (by decide), q2.2.1 43 (by decide)]; exact hB j hj, f3⟩) d_Verifying_holds_29
  · have n1 : hOK sg := Classical.byContradiction fun z => c12 (q3.2.1 z)
    refine lv_aload_n hx hb d_Verifying_holds_15 rfl (lv_at hl 0 rfl) ?_
    refine g_get (ci := 6) (v := .ref (g_ad V 48)) (C := R_Verifying) (T := F_Verifying) (N := 9) hx hb hts (fun w h => List.mem_cons_of_mem _ (in_Verifying w h)) hown hE hG 9 (by decide) rfl rfl 4 (by decide) (hts _ (List.mem_cons_of_mem _ kw_167)) (fun _ h9 => h9) rfl d_Verifying_holds_16 ?_
    refine g_calli (va_runS (As := [.ref (g_ad V 48)]) (rest := []) ⟨hx, hb, hml, hown, hts⟩ (c_size l V X3 48 (by decide) rfl) (va_cwS 1 hts (g_goodS kw_427 kw_496 kw_426 kw_13) rfl rfl rfl (by decide +kernel) ⟨Nat.le_of_ble_eq_true rfl, Nat.le_of_ble_eq_true rfl⟩) (g_preS hE hG) rfl rfl hl.1 rfl (lv_room (Nat.le_of_ble_eq_true rfl)) d_Verifying_holds_19 ⟨Nat.le_refl 0, Nat.le_refl 0⟩) hG (fun r9 X7 H locs r1 hG => ?_)
    obtain ⟨r1, rfl⟩ := r1
    refine g_topi (y := szN (rzP (X.1 20)) 32) (by rw [r1, q3.2.2.1 48 (by decide), q2.1]) ?_
    refine lv_sipush (v := nI (504)) hx hb d_Verifying_holds_22 (by decide) ?_
    refine lv_icmp_lt (tgt := 30) hx hb d_Verifying_holds_25 (by decide) (fun c25 => ?_) (fun c25 => ?_)
    · refine lv_aload_n hx hb d_Verifying_holds_30 rfl (lv_at hl 1 rfl) ?_
      refine lv_aload_n hx hb d_Verifying_holds_31 rfl (lv_at hl 2 rfl) ?_
      refine lv_aload_n hx hb d_Verifying_holds_32 rfl (lv_at hl 0 rfl) ?_
      refine g_get (ci := 6) (v := .ref (g_ad V 45)) (C := R_Verifying) (T := F_Verifying) (N := 9) hx hb hts (fun w h => List.mem_cons_of_mem _ (in_Verifying w h)) hown hE hG 9 (by decide) rfl rfl 1 (by decide) (hts _ (List.mem_cons_of_mem _ kw_164)) (fun _ h9 => h9) rfl d_Verifying_holds_33 ?_
      refine g_callv (va_runS (As := [.ref (g_ad V 1), .ref (g_ad V 19), .ref (g_ad V 45)]) (rest := []) ⟨hx, hb, hml, hown, hts⟩ (c_fillTrace_19 l V X3 ) (va_cwS 3 hts (g_goodS kw_325 kw_497 kw_324 kw_4) rfl rfl rfl (by decide +kernel) ⟨Nat.le_of_ble_eq_true rfl, Nat.le_of_ble_eq_true rfl⟩) (g_preS hE hG) rfl rfl hl.1 rfl (lv_room (Nat.le_of_ble_eq_true rfl)) d_Verifying_holds_36 ⟨Nat.le_refl 0, Nat.le_refl 0⟩) hG (fun X4 H locs q4 hG => ?_)
      refine lv_aload_n hx hb d_Verifying_holds_39 rfl (lv_at hl 0 rfl) ?_
      refine g_get (ci := 6) (v := .ref (g_ad V 10)) (C := R_Verifying) (T := F_Verifying) (N := 9) hx hb hts (fun w h => List.mem_cons_of_mem _ (in_Verifying w h)) hown hE hG 9 (by decide) rfl rfl 0 (by decide) (hts _ (List.mem_cons_of_mem _ kw_163)) (fun _ h9 => h9) rfl d_Verifying_holds_40 ?_
      refine lv_aload_n hx hb d_Verifying_holds_43 rfl (lv_at hl 1 rfl) ?_
      refine lv_aload_n hx hb d_Verifying_holds_44 rfl (lv_at hl 0 rfl) ?_
      refine g_get (ci := 6) (v := .ref (g_ad V 45)) (C := R_Verifying) (T := F_Verifying) (N := 9) hx hb hts (fun w h => List.mem_cons_of_mem _ (in_Verifying w h)) hown hE hG 9 (by decide) rfl rfl 1 (by decide) (hts _ (List.mem_cons_of_mem _ kw_164)) (fun _ h9 => h9) rfl d_Verifying_holds_45 ?_
      refine lv_aload_n hx hb d_Verifying_holds_48 rfl (lv_at hl 3 rfl) ?_
      refine g_callv (va_runV (As := [.ref (g_ad V 1), .ref (g_ad V 45), .ref (g_ad V 5)]) (rest := []) ⟨hx, hb, hml, hown, hts⟩ (c_tr_open_10 l V X4 n hn (by rw [q4.2.2.2 2 (by decide), f3.2.2 2 (by decide)]; exact hM)) (cwV 3 hts (g_goodV kw_362 kw_498 kw_360 kw_361 kw_6) rfl rfl rfl (by decide +kernel) ⟨Nat.le_of_ble_eq_true rfl, Nat.le_of_ble_eq_true rfl⟩) (g_preV (k0 := 10) (ci := 5) hE hG (by decide) rfl rfl) rfl rfl hl.1 rfl (lv_room (Nat.le_of_ble_eq_true rfl)) d_Verifying_holds_49 ⟨Nat.le_refl 0, Nat.le_refl 0⟩) hG (fun X5 H locs q5 hG => ?_)
      refine lv_aload_n hx hb d_Verifying_holds_52 rfl (lv_at hl 1 rfl) ?_
      refine lv_aload_n hx hb d_Verifying_holds_53 rfl (lv_at hl 2 rfl) ?_
      refine lv_aload_n hx hb d_Verifying_holds_54 rfl (lv_at hl 0 rfl) ?_
      refine g_get (ci := 6) (v := .ref (g_ad V 46)) (C := R_Verifying) (T := F_Verifying) (N := 9) hx hb hts (fun w h => List.mem_cons_of_mem _ (in_Verifying w h)) hown hE hG 9 (by decide) rfl rfl 2 (by decide) (hts _ (List.mem_cons_of_mem _ kw_165)) (fun _ h9 => h9) rfl d_Verifying_holds_55 ?_
      refine g_callv (va_runS (As := [.ref (g_ad V 1), .ref (g_ad V 19), .ref (g_ad V 46)]) (rest := []) ⟨hx, hb, hml, hown, hts⟩ (c_fillMatrix_19 l V X5 ) (va_cwS 3 hts (g_goodS kw_275 kw_499 kw_274 kw_12) rfl rfl rfl (by decide +kernel) ⟨Nat.le_of_ble_eq_true rfl, Nat.le_of_ble_eq_true rfl⟩) (g_preS hE hG) rfl rfl hl.1 rfl (lv_room (Nat.le_of_ble_eq_true rfl)) d_Verifying_holds_58 ⟨Nat.le_refl 0, Nat.le_refl 0⟩) hG (fun X6 H locs q6 hG => ?_)
      refine lv_aload_n hx hb d_Verifying_holds_61 rfl (lv_at hl 1 rfl) ?_
      refine lv_aload hx hb d_Verifying_holds_62 (lv_at hl 4 rfl) ?_
      refine lv_aload_n hx hb d_Verifying_holds_64 rfl (lv_at hl 0 rfl) ?_
      refine g_get (ci := 6) (v := .ref (g_ad V 49)) (C := R_Verifying) (T := F_Verifying) (N := 9) hx hb hts (fun w h => List.mem_cons_of_mem _ (in_Verifying w h)) hown hE hG 9 (by decide) rfl rfl 5 (by decide) (hts _ (List.mem_cons_of_mem _ kw_168)) (fun _ h9 => h9) rfl d_Verifying_holds_65 ?_
      refine g_callv (va_runS (As := [.ref (g_ad V 1), .ref (g_ad V 20), .ref (g_ad V 49)]) (rest := []) ⟨hx, hb, hml, hown, hts⟩ (c_fillBall_49 l V X6 ) (va_cwS 3 hts (g_goodS kw_410 kw_500 kw_409 kw_12) rfl rfl rfl (by decide +kernel) ⟨Nat.le_of_ble_eq_true rfl, Nat.le_of_ble_eq_true rfl⟩) (g_preS hE hG) rfl rfl hl.1 rfl (lv_room (Nat.le_of_ble_eq_true rfl)) d_Verifying_holds_68 ⟨Nat.le_refl 0, Nat.le_refl 0⟩) hG (fun X7 H locs q7 hG => ?_)
      refine lv_aload_n hx hb d_Verifying_holds_71 rfl (lv_at hl 0 rfl) ?_
      refine lv_aload_n hx hb d_Verifying_holds_72 rfl (lv_at hl 2 rfl) ?_
      refine g_callv (va_runV (As := [.ref (g_ad V 19)]) (rest := []) ⟨hx, hb, hml, hown, hts⟩ (c_readT1 l V X7 ) (cwV 1 hts (g_goodV kw_504 kw_501 kw_503 kp_14 kw_7) rfl rfl rfl (by decide +kernel) ⟨Nat.le_of_ble_eq_true rfl, Nat.le_of_ble_eq_true rfl⟩) (g_preV (k0 := 9) (ci := 6) hE hG (by decide) rfl rfl) rfl rfl hl.1 rfl (lv_room (Nat.le_of_ble_eq_true rfl)) d_Verifying_holds_73 ⟨Nat.le_refl 0, Nat.le_refl 0⟩) hG (fun X8 H locs q8 hG => ?_)
      refine lv_aload_n hx hb d_Verifying_holds_76 rfl (lv_at hl 0 rfl) ?_
      refine g_callv (va_runV (As := []) (rest := []) ⟨hx, hb, hml, hown, hts⟩ (c_correctAll l V X8 (fun j hj => by rw [q8.2.1 43 (by decide), q7.2.1 43 (by decide), q6.2.1 43 (by decide), q5.2.1 43 (by decide), q4.2.1 43 (by decide), q3.2.2.1 43 (by decide), q2.2.1 43 (by decide)]; exact hB j hj)) (cwV 0 hts (g_goodV kw_509 kw_506 kw_508 kp_15 kw_7) rfl rfl rfl (by decide +kernel) ⟨Nat.le_of_ble_eq_true rfl, Nat.le_of_ble_eq_true rfl⟩) (g_preV (k0 := 9) (ci := 6) hE hG (by decide) rfl rfl) rfl rfl hl.1 rfl (lv_room (Nat.le_of_ble_eq_true rfl)) d_Verifying_holds_77 ⟨Nat.le_refl 0, Nat.le_refl 0⟩) hG (fun X9 H locs q9 hG => ?_)
      have f9 : fr X X9 [17, 42, 43, 44, 45, 46, 47, 48, 49, 50, 51, 52] [2, 3, 4] [1] := (fr_tr2 (fr_tr2 (fr_tr2 (fr_tr2 (fr_tr2 (fr_tr2 f3 q4.2 (by decide) (by decide) (by decide)) q5.2 (by decide) (by decide) (by decide)) q6.2 (by decide) (by decide) (by decide)) q7.2 (by decide) (by decide) (by decide)) q8.2 (by decide) (by decide) (by decide)) q9.2 (by decide) (by decide) (by decide))
      have t45 : X4.1 45 = HS (X.1 19) 68 := by rw [q4.1, f3.1 19 (by decide)]
      have m42 : X5.1 42 = (HS (apB (HS (X.1 19) 68) 8 (X.1 18)) (8 + n)) := by rw [q5.1, t45, q4.2.1 18 (by decide), f3.1 18 (by decide)]
      have a46 : X6.1 46 = matP (X.1 19) := by rw [q6.1, q5.2.1 19 (by decide), q4.2.1 19 (by decide), f3.1 19 (by decide)]
      have c49 : X7.1 49 = blP (HS (X.1 20) 8) := by rw [q7.1, q6.2.1 20 (by decide), q5.2.1 20 (by decide), q4.2.1 20 (by decide), f3.1 20 (by decide)]
      have t47 : X8.1 47 = rtP (X.1 19) := by rw [q8.1, q7.2.1 19 (by decide), q6.2.1 19 (by decide), q5.2.1 19 (by decide), q4.2.1 19 (by decide), f3.1 19 (by decide)]
      have h50 : X8.1 50 = hRD sg := by rw [q8.2.1 50 (by decide), q7.2.1 50 (by decide), q6.2.1 50 (by decide), q5.2.1 50 (by decide), q4.2.1 50 (by decide), (q3.1 n1).2]
      have z48 : X8.1 48 = rzP (X.1 20) := by rw [q8.2.1 48 (by decide), q7.2.1 48 (by decide), q6.2.1 48 (by decide), q5.2.1 48 (by decide), q4.2.1 48 (by decide), q3.2.2.1 48 (by decide), q2.1]
      have g46 : X8.1 46 = matP (X.1 19) := by rw [q8.2.1 46 (by decide), q7.2.1 46 (by decide), a46]
      have g49 : X8.1 49 = blP (HS (X.1 20) 8) := by rw [q8.2.1 49 (by decide), c49]
      have h43 : X9.1 43 = (pcP (crP (hRD sg) (matP (X.1 19)) (rzP (X.1 20)) (blP (HS (X.1 20) 8)) (rtP (X.1 19))) 0 12 32) := by rw [q9.1, h50, g46, z48, g49, t47]
      have h42 : X9.1 42 = (HS (apB (HS (X.1 19) 68) 8 (X.1 18)) (8 + n)) := by rw [q9.2.1 42 (by decide), q8.2.1 42 (by decide), q7.2.1 42 (by decide), q6.2.1 42 (by decide), m42]
      refine lv_aload_n hx hb d_Verifying_holds_80 rfl (lv_at hl 0 rfl) ?_
      refine g_get (ci := 6) (v := .ref (g_ad V 10)) (C := R_Verifying) (T := F_Verifying) (N := 9) hx hb hts (fun w h => List.mem_cons_of_mem _ (in_Verifying w h)) hown hE hG 9 (by decide) rfl rfl 0 (by decide) (hts _ (List.mem_cons_of_mem _ kw_163)) (fun _ h9 => h9) rfl d_Verifying_holds_81 ?_
      refine lv_aload_n hx hb d_Verifying_holds_84 rfl (lv_at hl 1 rfl) ?_
      refine g_callv (va_runV (As := [.ref (g_ad V 1)]) (rest := []) ⟨hx, hb, hml, hown, hts⟩ (c_tr_close_10 l V X9 ) (cwV 1 hts (g_goodV kw_407 kw_517 kw_405 kw_406 kw_6) rfl rfl rfl (by decide +kernel) ⟨Nat.le_of_ble_eq_true rfl, Nat.le_of_ble_eq_true rfl⟩) (g_preV (k0 := 10) (ci := 5) hE hG (by decide) rfl rfl) rfl rfl hl.1 rfl (lv_room (Nat.le_of_ble_eq_true rfl)) d_Verifying_holds_85 ⟨Nat.le_refl 0, Nat.le_refl 0⟩) hG (fun XA H locs qA hG => ?_)
      have s44 : XA.1 44 = (HS (apB (HS (apB (HS (X.1 19) 68) 8 (X.1 18)) (8 + n)) 16 (pcP (crP (hRD sg) (matP (X.1 19)) (rzP (X.1 20)) (blP (HS (X.1 20) 8)) (rtP (X.1 19))) 0 12 32)) 64) := by rw [qA.1, h42, h43]
      have s20 : XA.1 20 = X.1 20 := by rw [qA.2.1 20 (by decide), f9.1 20 (by decide)]
      refine lv_aload_n hx hb d_Verifying_holds_88 rfl (lv_at hl 0 rfl) ?_
      refine g_get (ci := 6) (v := .ref (g_ad V 10)) (C := R_Verifying) (T := F_Verifying) (N := 9) hx hb hts (fun w h => List.mem_cons_of_mem _ (in_Verifying w h)) hown hE hG 9 (by decide) rfl rfl 0 (by decide) (hts _ (List.mem_cons_of_mem _ kw_163)) (fun _ h9 => h9) rfl d_Verifying_holds_89 ?_
      refine lv_aload hx hb d_Verifying_holds_92 (lv_at hl 4 rfl) ?_
      refine g_calli (va_runV (As := [.ref (g_ad V 20)]) (rest := []) ⟨hx, hb, hml, hown, hts⟩ (c_hasSealOf l V XA ) (cwV 1 hts (g_goodV kw_521 kw_518 kw_519 kw_520 kw_6) rfl rfl rfl (by decide +kernel) ⟨Nat.le_of_ble_eq_true rfl, Nat.le_of_ble_eq_true rfl⟩) (g_preV (k0 := 10) (ci := 5) hE hG (by decide) rfl rfl) rfl rfl hl.1 rfl (lv_room (Nat.le_of_ble_eq_true rfl)) d_Verifying_holds_94 ⟨Nat.le_refl 0, Nat.le_refl 0⟩) hG (fun rz X31 H locs qz hG => ?_)
      obtain ⟨qz, rfl⟩ := qz
      rw [s44, s20] at qz
      exact g_zret hx hb hr hlocks hE hG (by rcases qz with ⟨e, _⟩ | ⟨e, _⟩ <;> rw [e] <;> decide) (⟨fun z => by
          rcases qz with ⟨e, _⟩ | ⟨_, j, hj, hn⟩
          · exact e
          · exact absurd (z.2.2 j hj) hn, fun z => by
          rcases qz with ⟨_, h⟩ | ⟨e, _⟩
          · exact absurd ⟨n1, c25, h⟩ z
          · exact e, fun j hj => by rw [qA.2.1 43 (by decide), h43, ← Nat.zero_add j]; exact pc_isB _ (L := 48) (by decide) hj, (fr_tr2 f9 qA.2 (by decide) (by decide) (by decide))⟩) d_Verifying_holds_97
    · refine lv_iconst (v := nI (0)) hx hb d_Verifying_holds_28 (by decide) ?_
      exact g_zret hx hb hr hlocks hE hG (by decide) (⟨fun z => absurd z.2.1 c25, fun _ => rfl, fun j hj => by rw [q3.2.2.1 43 (by decide), q2.2.1 43 (by decide)]; exact hB j hj, f3⟩) d_Verifying_holds_29
