set_option maxHeartbeats 4000000 in
set_option maxRecDepth 100000 in
theorem c_S_sign (l : Launch) (V : Ev) (X : Mm) (w : Int64) (tr : Int32) (n : Nat) (hn : n ≤ 24) (hM : X.2.2 2 = nI n) (hB : ∀ j, j < 48 → isB (X.1 32 j)) (hS : ∀ j, j < 62 → isB (X.1 20 j)) : Met l y_SVS_sign (Cond.code y_SVS_sign b_SVS_sign 5 (some .int) :: WA) ({ frames := 6, cells := 0, slots := 0, locals := 135 } : Room) (g_Pc V X [.ref (g_ad V 0), .long (w), .int (tr)]) (g_Qi V (fun (r : Int32) (X1 : Mm) => (¬ (¬ X.2.2 0 = nI 0 ∧ nI 1 ≤ tr ∧ tr ≤ nI 30) → r = -1 ∧ X = X1) ∧ ((¬ X.2.2 0 = nI 0 ∧ nI 1 ≤ tr ∧ tr ≤ nI 30) → ∃ T, T ≤ 30 ∧ tr = nI T ∧ ((∃ k, k < T ∧ tOK (sMU (X.1 25) (X.1 18) n) (X.1 26) (sNU (X.1 24) w (sMU (X.1 25) (X.1 18) n)) (X.1 27) (X.1 28) (X.1 29) (k + 1) ∧ (∀ j, j < k → ¬ tOK (sMU (X.1 25) (X.1 18) n) (X.1 26) (sNU (X.1 24) w (sMU (X.1 25) (X.1 18) n)) (X.1 27) (X.1 28) (X.1 29) (j + 1)) ∧ r = nI (k + 1) ∧ X1.1 20 = tSG (sMU (X.1 25) (X.1 18) n) (X.1 26) (sNU (X.1 24) w (sMU (X.1 25) (X.1 18) n)) (X.1 27) (X.1 28) (X.1 29) (k + 1)) ∨ ((∀ j, j < T → ¬ tOK (sMU (X.1 25) (X.1 18) n) (X.1 26) (sNU (X.1 24) w (sMU (X.1 25) (X.1 18) n)) (X.1 27) (X.1 28) (X.1 29) (j + 1)) ∧ r = -2 ∧ X1.1 20 = X.1 20)) ∧ (∀ j, j < 48 → isB (X1.1 32 j)) ∧ fr X X1 [17, 20, 31, 32, 33, 34, 35, 36, 37, 38, 39, 40, 41] [2, 3, 4] [1]))) 0 0 (g_A V) := by
  refine g_met (by decide) (Nat.le_of_ble_eq_true rfl) ?_
  intro p e s m below meth c hx hb hr hml hown hts hlocks hE hG ls hl
  have hl : lv_has ls 5 [(0, .ref (g_ad V 0)), (1, .long (w)), (3, .int (tr))] := hl
  have hown : s.vm.findClass R_SVS = some m.cls := hown
  refine lv_aload_n hx hb d_SVS_sign_0 rfl (lv_at hl 0 rfl) ?_
  refine g_get (ci := 0) (v := .int (X.2.2 0)) (C := R_SVS) (T := F_SVS) (N := 9) hx hb hts (fun w h => List.mem_cons_of_mem _ (in_SVS w h)) hown hE hG 0 (by decide) rfl rfl 8 (by decide) (hts _ (List.mem_cons_of_mem _ kw_199)) (fun _ h9 => h9) rfl d_SVS_sign_1 ?_
  refine lv_if_eq (tgt := 18) hx hb d_SVS_sign_4 (by decide) (fun c4 => ?_) (fun c4 => ?_)
  · refine lv_iconst (v := -1) hx hb d_SVS_sign_18 (by decide) ?_
    exact g_iret hx hb hr hlocks hE hG (⟨fun _ => ⟨rfl, rfl⟩, fun z => absurd c4 z.1⟩) d_SVS_sign_19
  · refine lv_iload_n hx hb d_SVS_sign_7 rfl (lv_at hl 2 rfl) ?_
    refine lv_iconst (v := nI (1)) hx hb d_SVS_sign_8 (by decide) ?_
    refine lv_icmp_lt (tgt := 18) hx hb d_SVS_sign_9 (by decide) (fun c9 => ?_) (fun c9 => ?_)
    · refine lv_iconst (v := -1) hx hb d_SVS_sign_18 (by decide) ?_
      exact g_iret hx hb hr hlocks hE hG (⟨fun _ => ⟨rfl, rfl⟩, fun z => absurd c9 (Int32.not_lt.mpr z.2.1)⟩) d_SVS_sign_19
    · refine lv_iload_n hx hb d_SVS_sign_12 rfl (lv_at hl 2 rfl) ?_
      refine lv_bipush (v := nI (30)) hx hb d_SVS_sign_13 (by decide) ?_
      refine lv_icmp_le (tgt := 20) hx hb d_SVS_sign_15 (by decide) (fun c15 => ?_) (fun c15 => ?_)
      · have ok : (¬ X.2.2 0 = nI 0 ∧ nI 1 ≤ tr ∧ tr ≤ nI 30) := ⟨c4, Int32.not_lt.mp c9, c15⟩
        obtain ⟨T, hT, eT⟩ := nI_of2 (n := 30) (by decide) (Int32.not_lt.mpr (Int32.le_trans (by decide) ok.2.1)) ok.2.2
        have hT1 : 1 ≤ T := (nI_leI (by decide) (by omega)).mp (eT ▸ ok.2.1)
        have hl : lv_has ls 5 [(0, .ref (g_ad V 0)), (1, .long (w)), (3, .int (nI (T)))] := by rw [← eT]; exact hl
        refine lv_aload_n hx hb d_SVS_sign_20 rfl (lv_at hl 0 rfl) ?_
        refine g_get (ci := 0) (v := .ref (g_ad V 7)) (C := R_SVS) (T := F_SVS) (N := 9) hx hb hts (fun w h => List.mem_cons_of_mem _ (in_SVS w h)) hown hE hG 0 (by decide) rfl rfl 3 (by decide) (hts _ (List.mem_cons_of_mem _ kw_194)) (fun _ h9 => h9) rfl d_SVS_sign_21 ?_
        refine lv_aload_n hx hb d_SVS_sign_24 rfl (lv_at hl 0 rfl) ?_
        refine g_get (ci := 0) (v := .ref (g_ad V 1)) (C := R_SVS) (T := F_SVS) (N := 9) hx hb hts (fun w h => List.mem_cons_of_mem _ (in_SVS w h)) hown hE hG 0 (by decide) rfl rfl 0 (by decide) (hts _ (List.mem_cons_of_mem _ kw_191)) (fun _ h9 => h9) rfl d_SVS_sign_25 ?_
        refine lv_aload_n hx hb d_SVS_sign_28 rfl (lv_at hl 0 rfl) ?_
        refine g_get (ci := 0) (v := .ref (g_ad V 6)) (C := R_SVS) (T := F_SVS) (N := 9) hx hb hts (fun w h => List.mem_cons_of_mem _ (in_SVS w h)) hown hE hG 0 (by decide) rfl rfl 2 (by decide) (hts _ (List.mem_cons_of_mem _ kw_193)) (fun _ h9 => h9) rfl d_SVS_sign_29 ?_
        refine lv_aload_n hx hb d_SVS_sign_32 rfl (lv_at hl 0 rfl) ?_
        refine g_get (ci := 0) (v := .ref (g_ad V 5)) (C := R_SVS) (T := F_SVS) (N := 9) hx hb hts (fun w h => List.mem_cons_of_mem _ (in_SVS w h)) hown hE hG 0 (by decide) rfl rfl 1 (by decide) (hts _ (List.mem_cons_of_mem _ kw_192)) (fun _ h9 => h9) rfl d_SVS_sign_33 ?_
        refine lv_lload_n hx hb d_SVS_sign_36 rfl (lv_at hl 1 rfl) ?_
        refine g_callv (va_runV (As := [.ref (g_ad V 1), .ref (g_ad V 6), .ref (g_ad V 5), .long (w)]) (rest := []) ⟨hx, hb, hml, hown, hts⟩ (c_sg_open l V X w n hn hM) (cwV 4 hts (g_goodV kw_358 kw_355 kw_356 kw_357 kw_5) rfl rfl rfl (by decide +kernel) ⟨Nat.le_of_ble_eq_true rfl, Nat.le_of_ble_eq_true rfl⟩) (g_preV (k0 := 7) (ci := 4) hE hG (by decide) rfl rfl) rfl rfl hl.1 rfl (lv_room (Nat.le_of_ble_eq_true rfl)) d_SVS_sign_37 ⟨Nat.le_refl 0, Nat.le_refl 0⟩) hG (fun X2 H locs q2 hG => ?_)
        refine lv_iconst (v := nI (1)) hx hb d_SVS_sign_40 (by decide) ?_
        refine lv_istore (lv' := [(4, .int (nI (1))), (0, .ref (g_ad V 0)), (1, .long (w)), (3, .int (nI (T)))]) hx hb d_SVS_sign_41 hl (by decide) rfl (fun ls hl => ?_)
        have K43 : ∀ (fu i : Nat), i + fu = T → ∀ (X1 : Mm) (H : Heap) (locs : List Loc), ∀ (ls : Array Slot), (fr X X1 [17, 31, 32, 33, 34, 35, 36, 37, 38, 39, 40, 41] [2, 3, 4] [1]) → (X1.1 31 = (sMU (X.1 25) (X.1 18) n)) → (X1.1 34 = (sNU (X.1 24) w (sMU (X.1 25) (X.1 18) n))) → (∀ j, j < 48 → isB (X1.1 32 j)) → (∀ j, j < i → ¬ tOK (sMU (X.1 25) (X.1 18) n) (X.1 26) (sNU (X.1 24) w (sMU (X.1 25) (X.1 18) n)) (X.1 27) (X.1 28) (X.1 29) (j + 1)) → g_st V X1 s.heap H locs → lv_has ls 5 [(0, .ref (g_ad V 0)), (3, .int (nI (T))), (4, .int (nI (i + 1)))] → W p l e ({ frames := 6, cells := 0, slots := 0, locals := 135 } : Room) s m ([.ref (g_ad V 0), .long (w), .int (tr)] : List Value).toArray below meth c H locs 0 0 (MQ below (g_Qi V (fun (r : Int32) (X1 : Mm) => (¬ (¬ X.2.2 0 = nI 0 ∧ nI 1 ≤ tr ∧ tr ≤ nI 30) → r = -1 ∧ X = X1) ∧ ((¬ X.2.2 0 = nI 0 ∧ nI 1 ≤ tr ∧ tr ≤ nI 30) → ∃ T, T ≤ 30 ∧ tr = nI T ∧ ((∃ k, k < T ∧ tOK (sMU (X.1 25) (X.1 18) n) (X.1 26) (sNU (X.1 24) w (sMU (X.1 25) (X.1 18) n)) (X.1 27) (X.1 28) (X.1 29) (k + 1) ∧ (∀ j, j < k → ¬ tOK (sMU (X.1 25) (X.1 18) n) (X.1 26) (sNU (X.1 24) w (sMU (X.1 25) (X.1 18) n)) (X.1 27) (X.1 28) (X.1 29) (j + 1)) ∧ r = nI (k + 1) ∧ X1.1 20 = tSG (sMU (X.1 25) (X.1 18) n) (X.1 26) (sNU (X.1 24) w (sMU (X.1 25) (X.1 18) n)) (X.1 27) (X.1 28) (X.1 29) (k + 1)) ∨ ((∀ j, j < T → ¬ tOK (sMU (X.1 25) (X.1 18) n) (X.1 26) (sNU (X.1 24) w (sMU (X.1 25) (X.1 18) n)) (X.1 27) (X.1 28) (X.1 29) (j + 1)) ∧ r = -2 ∧ X1.1 20 = X.1 20)) ∧ (∀ j, j < 48 → isB (X1.1 32 j)) ∧ fr X X1 [17, 20, 31, 32, 33, 34, 35, 36, 37, 38, 39, 40, 41] [2, 3, 4] [1]))) ([.ref (g_ad V 0), .long (w), .int (tr)] : List Value).toArray s 0 0 (g_A V)) (F0 m 43 ls []) := by
          intro fu
          induction fu with
          | zero =>
            intro i hin43 X1 H locs ls hF m31 m34 hB1 hN hG hl
            have hi43 : T = i := by omega
            subst hi43
            refine lv_iload hx hb d_SVS_sign_43 (lv_at hl 2 rfl) ?_
            refine lv_iload_n hx hb d_SVS_sign_45 rfl (lv_at hl 1 rfl) ?_
            refine lv_icmp_gt (tgt := 89) hx hb d_SVS_sign_46 (by decide) (fun _ => ?_) (fun q => absurd ((g_gtN (x := T + 1) (y := T) (by omega) (by omega)).mp q) (by omega))
            refine lv_bipush (v := -2) hx hb d_SVS_sign_89 (by decide) ?_
            exact g_iret hx hb hr hlocks hE hG (⟨fun z => absurd ok z, fun _ => ⟨T, hT, eT, Or.inr ⟨hN, rfl, hF.1 20 (by decide)⟩, hB1, (fr_mono hF (a' := [17, 20, 31, 32, 33, 34, 35, 36, 37, 38, 39, 40, 41]) (b' := [2, 3, 4]) (c' := [1]) (by decide) (by decide) (by decide))⟩⟩) d_SVS_sign_91
          | succ fu ih43 =>
            intro i hin43 X1 H locs ls hF m31 m34 hB1 hN hG hl
            have hi43 : i < T := by omega
            refine lv_iload hx hb d_SVS_sign_43 (lv_at hl 2 rfl) ?_
            refine lv_iload_n hx hb d_SVS_sign_45 rfl (lv_at hl 1 rfl) ?_
            refine lv_icmp_gt (tgt := 89) hx hb d_SVS_sign_46 (by decide) (fun q => absurd ((g_gt (x := i + 1) (y := T) (by omega) (by omega)).mp q) (by omega)) (fun _ => ?_)
            refine lv_aload_n hx hb d_SVS_sign_49 rfl (lv_at hl 0 rfl) ?_
            refine g_get (ci := 0) (v := .ref (g_ad V 7)) (C := R_SVS) (T := F_SVS) (N := 9) hx hb hts (fun w h => List.mem_cons_of_mem _ (in_SVS w h)) hown hE hG 0 (by decide) rfl rfl 3 (by decide) (hts _ (List.mem_cons_of_mem _ kw_194)) (fun _ h9 => h9) rfl d_SVS_sign_50 ?_
            refine lv_aload_n hx hb d_SVS_sign_53 rfl (lv_at hl 0 rfl) ?_
            refine g_get (ci := 0) (v := .ref (g_ad V 1)) (C := R_SVS) (T := F_SVS) (N := 9) hx hb hts (fun w h => List.mem_cons_of_mem _ (in_SVS w h)) hown hE hG 0 (by decide) rfl rfl 0 (by decide) (hts _ (List.mem_cons_of_mem _ kw_191)) (fun _ h9 => h9) rfl d_SVS_sign_54 ?_
            refine lv_aload_n hx hb d_SVS_sign_57 rfl (lv_at hl 0 rfl) ?_
            refine g_get (ci := 0) (v := .ref (g_ad V 6)) (C := R_SVS) (T := F_SVS) (N := 9) hx hb hts (fun w h => List.mem_cons_of_mem _ (in_SVS w h)) hown hE hG 0 (by decide) rfl rfl 2 (by decide) (hts _ (List.mem_cons_of_mem _ kw_193)) (fun _ h9 => h9) rfl d_SVS_sign_58 ?_
            refine lv_iload hx hb d_SVS_sign_61 (lv_at hl 2 rfl) ?_
            refine g_calli (va_runV (As := [.ref (g_ad V 1), .ref (g_ad V 6), .int (nI (i + 1))]) (rest := []) ⟨hx, hb, hml, hown, hts⟩ (c_trySucceeds l V X1 (i + 1) (by omega) hB1) (cwV 3 hts (g_goodV kw_380 kw_377 kw_378 kw_379 kw_5) rfl rfl rfl (by decide +kernel) ⟨Nat.le_of_ble_eq_true rfl, Nat.le_of_ble_eq_true rfl⟩) (g_preV (k0 := 7) (ci := 4) hE hG (by decide) rfl rfl) rfl rfl hl.1 rfl (lv_room (Nat.le_of_ble_eq_true rfl)) d_SVS_sign_63 ⟨Nat.le_refl 0, Nat.le_refl 0⟩) hG (fun ra X3 H locs q3 hG => ?_)
            rw [m31, m34, hF.1 26 (by decide), hF.1 27 (by decide), hF.1 28 (by decide), hF.1 29 (by decide)] at q3
            refine lv_if_eq (tgt := 83) hx hb d_SVS_sign_66 (by decide) (fun c66 => ?_) (fun c66 => ?_)
            · have b32 : ∀ j, j < 48 → isB (X3.1 32 j) := fun j hj => by rw [q3.2.2.1, ← Nat.zero_add j]; exact pc_isB _ (L := 48) (by decide) hj
              have n1 : ¬ tOK (sMU (X.1 25) (X.1 18) n) (X.1 26) (sNU (X.1 24) w (sMU (X.1 25) (X.1 18) n)) (X.1 27) (X.1 28) (X.1 29) (i + 1) := fun z => by rw [(q3.1 z).1] at c66; exact absurd c66 (by decide)
              refine lv_iinc (v := nI (i + 1 + 1)) (lv' := [(4, .int (nI (i + 1 + 1))), (0, .ref (g_ad V 0)), (3, .int (nI (T)))]) hx hb d_SVS_sign_83 hl (k := 2) rfl (g_inc _) (by decide) rfl (fun ls hl => ?_)
              refine lv_goto (tgt := 43) hx hb d_SVS_sign_86 (by decide) ?_
              exact ih43 (i + 1) (by omega) X3 _ _ ls (fr_tr2 hF q3.2.2.2 (by decide) (by decide) (by decide)) ((q3.2.2.2.1 31 (by decide)).trans m31) ((q3.2.2.2.1 34 (by decide)).trans m34) b32 (lt_s hN n1) hG (lv_sub hl [1, 2, 0] rfl)
            · have b32 : ∀ j, j < 48 → isB (X3.1 32 j) := fun j hj => by rw [q3.2.2.1, ← Nat.zero_add j]; exact pc_isB _ (L := 48) (by decide) hj
              have n1 : tOK (sMU (X.1 25) (X.1 18) n) (X.1 26) (sNU (X.1 24) w (sMU (X.1 25) (X.1 18) n)) (X.1 27) (X.1 28) (X.1 29) (i + 1) := Classical.byContradiction fun z => c66 (q3.2.1 z)
              refine lv_aload_n hx hb d_SVS_sign_69 rfl (lv_at hl 0 rfl) ?_
              refine g_get (ci := 0) (v := .ref (g_ad V 7)) (C := R_SVS) (T := F_SVS) (N := 9) hx hb hts (fun w h => List.mem_cons_of_mem _ (in_SVS w h)) hown hE hG 0 (by decide) rfl rfl 3 (by decide) (hts _ (List.mem_cons_of_mem _ kw_194)) (fun _ h9 => h9) rfl d_SVS_sign_70 ?_
              refine lv_aload_n hx hb d_SVS_sign_73 rfl (lv_at hl 0 rfl) ?_
              refine g_get (ci := 0) (v := .ref (g_ad V 20)) (C := R_SVS) (T := F_SVS) (N := 9) hx hb hts (fun w h => List.mem_cons_of_mem _ (in_SVS w h)) hown hE hG 0 (by decide) rfl rfl 6 (by decide) (hts _ (List.mem_cons_of_mem _ kw_197)) (fun _ h9 => h9) rfl d_SVS_sign_74 ?_
              refine g_callv (va_runV (As := [.ref (g_ad V 20)]) (rest := []) ⟨hx, hb, hml, hown, hts⟩ (c_writeTo l V X3 (fun j hj => by rw [q3.2.2.2.1 20 (by decide), hF.1 20 (by decide)]; exact hS j hj)) (cwV 1 hts (g_goodV kw_459 kw_456 kw_457 kw_458 kw_5) rfl rfl rfl (by decide +kernel) ⟨Nat.le_of_ble_eq_true rfl, Nat.le_of_ble_eq_true rfl⟩) (g_preV (k0 := 7) (ci := 4) hE hG (by decide) rfl rfl) rfl rfl hl.1 rfl (lv_room (Nat.le_of_ble_eq_true rfl)) d_SVS_sign_77 ⟨Nat.le_refl 0, Nat.le_refl 0⟩) hG (fun X4 H locs q4 hG => ?_)
              refine lv_iload hx hb d_SVS_sign_80 (lv_at hl 2 rfl) ?_
              exact g_iret hx hb hr hlocks hE hG (⟨fun z => absurd ok z, fun _ => ⟨T, hT, eT, Or.inl ⟨i, by omega, n1, hN, rfl, by rw [q4.1, (q3.1 n1).2.1, (q3.1 n1).2.2.1, (q3.1 n1).2.2.2]; rfl⟩, fun j hj => by rw [q4.2.1 32 (by decide)]; exact b32 j hj, (fr_tr2 (fr_tr2 (fr_mono hF (a' := [17, 20, 31, 32, 33, 34, 35, 36, 37, 38, 39, 40, 41]) (b' := [2, 3, 4]) (c' := [1]) (by decide) (by decide) (by decide)) q3.2.2.2 (by decide) (by decide) (by decide)) q4.2 (by decide) (by decide) (by decide))⟩⟩) d_SVS_sign_82
        exact K43 (T - 0) 0 (by omega) X2 _ _ ls (fr_mono q2.2.2 (a' := [17, 31, 32, 33, 34, 35, 36, 37, 38, 39, 40, 41]) (b' := [2, 3, 4]) (c' := [1]) (by decide) (by decide) (by decide)) q2.1 q2.2.1 (fun j hj => by rw [q2.2.2.1 32 (by decide)]; exact hB j hj) (fun j hj => absurd hj (Nat.not_lt_zero j)) hG (lv_sub hl [1, 3, 0] rfl)
      · refine lv_iconst (v := -1) hx hb d_SVS_sign_18 (by decide) ?_
        exact g_iret hx hb hr hlocks hE hG (⟨fun _ => ⟨rfl, rfl⟩, fun z => absurd z.2.2 c15⟩) d_SVS_sign_19
