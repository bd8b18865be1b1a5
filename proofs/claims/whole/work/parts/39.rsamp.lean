set_option maxHeartbeats 4000000 in
set_option maxRecDepth 100000 in
theorem c_m_uniform (l : Launch) (V : Ev) (X : Mm) (kt : Nat) (hkt : 17 ≤ kt ∧ kt < 80) (hne : (55 : Nat) ≠ kt) (fm : Nat) (hfm : fm + 16 ≤ g_len kt) (g : Nat → Int32) (k : Nat) (hk : k ≤ 135) (hT : X.2.2 3 = nI k) (hI : ∀ j, j < k → X.1 54 j = g j) (hTu : X.1 53 = rotT) (hEx : X.2.1 12 = rcT) : Met l y_Md_uniform (Cond.code y_Md_uniform b_Md_uniform 6 none :: WA) ({ frames := 3, cells := 0, slots := 0, locals := 68 } : Room) (g_Pc V X [.ref (g_ad V 11), .ref (g_ad V kt), .int (nI (fm))]) (g_Qv V (fun X1 : Mm => X1.1 kt = seg (unP (HS g k)) (X.1 kt) fm 16 ∧ X1.1 55 = HS g k ∧ X1.2.2 3 = nI 0 ∧ fr X X1 [55, kt] [13, 14, 15] [3])) 0 0 (g_A V) := by
  refine g_met (by decide) (Nat.le_of_ble_eq_true rfl) ?_
  intro p e s m below meth c hx hb hr hml hown hts hlocks hE hG ls hl
  have hl : lv_has ls 6 [(0, .ref (g_ad V 11)), (1, .ref (g_ad V kt)), (2, .int (nI (fm)))] := hl
  have hown : s.vm.findClass R_Md = some m.cls := hown
  have hlen := g_len_le kt
  refine lv_aload_n hx hb d_Md_uniform_0 rfl (lv_at hl 0 rfl) ?_
  refine g_callv (va_runV (As := []) (rest := []) ⟨hx, hb, hml, hown, hts⟩ (c_m_stream l V X g k hk hT hI hTu hEx) (cwV 0 hts (g_goodV kw_714 kw_711 kw_713 kp_18 kw_8) rfl rfl rfl (by decide +kernel) ⟨Nat.le_of_ble_eq_true rfl, Nat.le_of_ble_eq_true rfl⟩) (g_preV (k0 := 11) (ci := 7) hE hG (by decide) rfl rfl) rfl rfl hl.1 rfl (lv_room (Nat.le_of_ble_eq_true rfl)) d_Md_uniform_1 ⟨Nat.le_refl 0, Nat.le_refl 0⟩) hG (fun X0 H locs q0 hG => ?_)
  refine lv_iconst (v := nI (0)) hx hb d_Md_uniform_4 (by decide) ?_
  refine lv_istore_n (lv' := [(3, .int (nI (0))), (0, .ref (g_ad V 11)), (1, .ref (g_ad V kt)), (2, .int (nI (fm)))]) hx hb d_Md_uniform_5 rfl hl (by decide) rfl (fun ls hl => ?_)
  refine lv_iconst (v := nI (0)) hx hb d_Md_uniform_6 (by decide) ?_
  refine lv_istore (lv' := [(4, .int (nI (0))), (3, .int (nI (0))), (0, .ref (g_ad V 11)), (1, .ref (g_ad V kt)), (2, .int (nI (fm)))]) hx hb d_Md_uniform_7 hl (by decide) rfl (fun ls hl => ?_)
  have K9 : ∀ (fu z : Nat), z + fu = 16 → ∀ (X1 : Mm) (H : Heap) (locs : List Loc), ∀ (ls : Array Slot), (fr X X1 [55, kt] [13, 14, 15] [3]) → (X1.1 55 = HS g k) → (X1.2.2 3 = nI 0) → (X1.1 kt = seg (fun _ => 0) (X.1 kt) fm z) → g_st V X1 s.heap H locs → lv_has ls 6 [(0, .ref (g_ad V 11)), (1, .ref (g_ad V kt)), (2, .int (nI (fm))), (3, .int (nI (0))), (4, .int (nI (z)))] → W p l e ({ frames := 3, cells := 0, slots := 0, locals := 68 } : Room) s m ([.ref (g_ad V 11), .ref (g_ad V kt), .int (nI (fm))] : List Value).toArray below meth c H locs 0 0 (MQ below (g_Qv V (fun X1 : Mm => X1.1 kt = seg (unP (HS g k)) (X.1 kt) fm 16 ∧ X1.1 55 = HS g k ∧ X1.2.2 3 = nI 0 ∧ fr X X1 [55, kt] [13, 14, 15] [3])) ([.ref (g_ad V 11), .ref (g_ad V kt), .int (nI (fm))] : List Value).toArray s 0 0 (g_A V)) (F0 m 9 ls []) := by
    intro fu
    induction fu with
    | zero =>
      intro z hin9 X1 H locs ls hF h55 h3 hC hG hl
      have hi9 : 16 = z := by omega
      subst hi9
      refine lv_iload hx hb d_Md_uniform_9 (lv_at hl 4 rfl) ?_
      refine lv_bipush (v := nI (16)) hx hb d_Md_uniform_11 (by decide) ?_
      refine lv_icmp_ge (tgt := 29) hx hb d_Md_uniform_13 (by decide) (fun _ => ?_) (fun q => absurd ((g_geN (x := 16) (y := 16) (by omega) (by omega)).mp q) (by omega))
      refine lv_iconst (v := nI (0)) hx hb d_Md_uniform_29 (by decide) ?_
      refine lv_istore (lv' := [(4, .int (nI (0))), (0, .ref (g_ad V 11)), (1, .ref (g_ad V kt)), (2, .int (nI (fm))), (3, .int (nI (0)))]) hx hb d_Md_uniform_30 hl (by decide) rfl (fun ls hl => ?_)
      have K32 : ∀ (fu i : Nat), i + fu = 45 → ∀ (X2 : Mm) (H : Heap) (locs : List Loc), ∀ (ls : Array Slot), (fr X X2 [55, kt] [13, 14, 15] [3]) → (X2.1 55 = HS g k) → (X2.2.2 3 = nI 0) → (X2.1 kt = seg (selN (unO (HS g k)) (unN (HS g k)) i).2 (X.1 kt) fm 16) → g_st V X2 s.heap H locs → lv_has ls 6 [(0, .ref (g_ad V 11)), (1, .ref (g_ad V kt)), (2, .int (nI (fm))), (3, .int (nI ((selN (unO (HS g k)) (unN (HS g k)) i).1))), (4, .int (nI (i)))] → W p l e ({ frames := 3, cells := 0, slots := 0, locals := 68 } : Room) s m ([.ref (g_ad V 11), .ref (g_ad V kt), .int (nI (fm))] : List Value).toArray below meth c H locs 0 0 (MQ below (g_Qv V (fun X1 : Mm => X1.1 kt = seg (unP (HS g k)) (X.1 kt) fm 16 ∧ X1.1 55 = HS g k ∧ X1.2.2 3 = nI 0 ∧ fr X X1 [55, kt] [13, 14, 15] [3])) ([.ref (g_ad V 11), .ref (g_ad V kt), .int (nI (fm))] : List Value).toArray s 0 0 (g_A V)) (F0 m 32 ls []) := by
        intro fu
        induction fu with
        | zero =>
          intro i hin32 X2 H locs ls hF2 i55 i3 hC2 hG hl
          have hi32 : 45 = i := by omega
          subst hi32
          have e45 : selN (unO (HS g k)) (unN (HS g k)) 45 = selN (unO (HS g k)) (unN (HS g k)) 45 := rfl
          refine lv_iload hx hb d_Md_uniform_32 (lv_at hl 4 rfl) ?_
          refine lv_bipush (v := nI (45)) hx hb d_Md_uniform_34 (by decide) ?_
          refine lv_icmp_ge (tgt := 114) hx hb d_Md_uniform_36 (by decide) (fun _ => ?_) (fun q => absurd ((g_geN (x := 45) (y := 45) (by omega) (by omega)).mp q) (by omega))
          exact g_vret hx hb hr hlocks hE hG (⟨by rw [hC2]; unfold unP; rw [e45], i55, i3, hF2⟩) d_Md_uniform_114
        | succ fu ih32 =>
          intro i hin32 X2 H locs ls hF2 i55 i3 hC2 hG hl
          have hi32 : i < 45 := by omega
          have hle := selN_le (unO (HS g k)) (unN (HS g k)) i
          refine lv_iload hx hb d_Md_uniform_32 (lv_at hl 4 rfl) ?_
          refine lv_bipush (v := nI (45)) hx hb d_Md_uniform_34 (by decide) ?_
          refine lv_icmp_ge (tgt := 114) hx hb d_Md_uniform_36 (by decide) (fun q => absurd ((g_ge (x := i) (y := 45) (by omega) (by omega)).mp q) (by omega)) (fun _ => ?_)
          refine lv_iload_n hx hb d_Md_uniform_39 rfl (lv_at hl 3 rfl) ?_
          refine lv_bipush (v := nI (16)) hx hb d_Md_uniform_40 (by decide) ?_
          refine lv_icmp_ge (tgt := 114) hx hb d_Md_uniform_42 (by decide) (fun c42 => ?_) (fun c42 => ?_)
          · have c42 := (g_ge (x := (selN (unO (HS g k)) (unN (HS g k)) i).1) (y := 16) (by omega) (by omega)).mp c42
            have e45 : selN (unO (HS g k)) (unN (HS g k)) 45 = (selN (unO (HS g k)) (unN (HS g k)) i) := by
              rw [show 45 = i + (45 - i) by omega]
              exact selN_full (by omega) _
            exact g_vret hx hb hr hlocks hE hG (⟨by rw [hC2]; unfold unP; rw [e45], i55, i3, hF2⟩) d_Md_uniform_114
          · have c42 := (g_geN (x := (selN (unO (HS g k)) (unN (HS g k)) i).1) (y := 16) (by omega) (by omega)).mp c42
            refine lv_aload_n hx hb d_Md_uniform_45 rfl (lv_at hl 0 rfl) ?_
            refine g_get (ci := 7) (v := .ref (g_ad V 55)) (C := R_Md) (T := F_Md) (N := 35) hx hb hts (fun w h => List.mem_cons_of_mem _ (in_Md w h)) hown hE hG 11 (by decide) rfl rfl 7 (by decide) (hts _ (List.mem_cons_of_mem _ kw_599)) (fun _ h9 => h9) rfl d_Md_uniform_46 ?_
            refine lv_iconst (v := nI (3)) hx hb d_Md_uniform_49 (by decide) ?_
            refine lv_iload hx hb d_Md_uniform_50 (lv_at hl 4 rfl) ?_
            refine lv_imul hx hb d_Md_uniform_52 ?_
            refine g_topi (y := nI (3 * i)) (pk_mul _ _) ?_
            refine g_iald hx hb hE hG 55 (by decide) (3 * i) (rfl) (show _ < 136 by omega) (v := HS g k (3 * i)) (congrFun i55 _) d_Md_uniform_53 ?_
            refine lv_sipush (v := nI (256)) hx hb d_Md_uniform_54 (by decide) ?_
            refine lv_aload_n hx hb d_Md_uniform_57 rfl (lv_at hl 0 rfl) ?_
            refine g_get (ci := 7) (v := .ref (g_ad V 55)) (C := R_Md) (T := F_Md) (N := 35) hx hb hts (fun w h => List.mem_cons_of_mem _ (in_Md w h)) hown hE hG 11 (by decide) rfl rfl 7 (by decide) (hts _ (List.mem_cons_of_mem _ kw_599)) (fun _ h9 => h9) rfl d_Md_uniform_58 ?_
            refine lv_iconst (v := nI (3)) hx hb d_Md_uniform_61 (by decide) ?_
            refine lv_iload hx hb d_Md_uniform_62 (lv_at hl 4 rfl) ?_
            refine lv_imul hx hb d_Md_uniform_64 ?_
            refine g_topi (y := nI (3 * i)) (pk_mul _ _) ?_
            refine lv_iconst (v := nI (1)) hx hb d_Md_uniform_65 (by decide) ?_
            refine lv_iadd hx hb d_Md_uniform_66 ?_
            refine g_topi (y := nI ((3 * i) + 1)) (nI_add _ _) ?_
            refine g_iald hx hb hE hG 55 (by decide) ((3 * i) + 1) (rfl) (show _ < 136 by omega) (v := HS g k (3 * i + 1)) (congrFun i55 _) d_Md_uniform_67 ?_
            refine lv_imul hx hb d_Md_uniform_68 ?_
            refine lv_iadd hx hb d_Md_uniform_69 ?_
            refine lv_ldc (v := nI (65536)) hx hb hown (hts _ (List.mem_cons_of_mem _ kw_743)) d_Md_uniform_70 ?_
            refine lv_aload_n hx hb d_Md_uniform_72 rfl (lv_at hl 0 rfl) ?_
            refine g_get (ci := 7) (v := .ref (g_ad V 55)) (C := R_Md) (T := F_Md) (N := 35) hx hb hts (fun w h => List.mem_cons_of_mem _ (in_Md w h)) hown hE hG 11 (by decide) rfl rfl 7 (by decide) (hts _ (List.mem_cons_of_mem _ kw_599)) (fun _ h9 => h9) rfl d_Md_uniform_73 ?_
            refine lv_iconst (v := nI (3)) hx hb d_Md_uniform_76 (by decide) ?_
            refine lv_iload hx hb d_Md_uniform_77 (lv_at hl 4 rfl) ?_
            refine lv_imul hx hb d_Md_uniform_79 ?_
            refine g_topi (y := nI (3 * i)) (pk_mul _ _) ?_
            refine lv_iconst (v := nI (2)) hx hb d_Md_uniform_80 (by decide) ?_
            refine lv_iadd hx hb d_Md_uniform_81 ?_
            refine g_topi (y := nI ((3 * i) + 2)) (nI_add _ _) ?_
            refine g_iald hx hb hE hG 55 (by decide) ((3 * i) + 2) (rfl) (show _ < 136 by omega) (v := HS g k (3 * i + 2)) (congrFun i55 _) d_Md_uniform_82 ?_
            refine lv_sipush (v := nI (128)) hx hb d_Md_uniform_83 (by decide) ?_
            refine lv_irem hx hb d_Md_uniform_86 (by decide) ?_
            refine lv_imul hx hb d_Md_uniform_87 ?_
            refine lv_iadd hx hb d_Md_uniform_88 ?_
            refine g_topi (y := unN (HS g k) i) (un_eq (HS_isB _ _ _) (HS_isB _ _ _) (HS_isB _ _ _)) ?_
            refine lv_istore (lv' := [(5, .int (unN (HS g k) i)), (0, .ref (g_ad V 11)), (1, .ref (g_ad V kt)), (2, .int (nI (fm))), (3, .int (nI ((selN (unO (HS g k)) (unN (HS g k)) i).1))), (4, .int (nI (i)))]) hx hb d_Md_uniform_89 hl (by decide) rfl (fun ls hl => ?_)
            refine lv_iload hx hb d_Md_uniform_91 (lv_at hl 0 rfl) ?_
            refine lv_ldc (v := nI (8380417)) hx hb hown (hts _ (List.mem_cons_of_mem _ kw_744)) d_Md_uniform_93 ?_
            refine lv_icmp_ge (tgt := 108) hx hb d_Md_uniform_95 (by decide) (fun c95 => ?_) (fun c95 => ?_)
            · have e1 : selN (unO (HS g k)) (unN (HS g k)) (i + 1) = (selN (unO (HS g k)) (unN (HS g k)) i) := selN_n (fun q => absurd (of_decide_eq_true q.2) (Int32.not_lt.mpr c95))
              refine lv_iinc (v := nI (i + 1)) (lv' := [(4, .int (nI (i + 1))), (5, .int (unN (HS g k) i)), (0, .ref (g_ad V 11)), (1, .ref (g_ad V kt)), (2, .int (nI (fm))), (3, .int (nI ((selN (unO (HS g k)) (unN (HS g k)) i).1)))]) hx hb d_Md_uniform_108 hl (k := 5) rfl (g_inc _) (by decide) rfl (fun ls hl => ?_)
              refine lv_goto (tgt := 32) hx hb d_Md_uniform_111 (by decide) ?_
              exact ih32 (i + 1) (by omega) X2 _ _ ls hF2 i55 i3 (by rw [e1]; exact hC2) hG (by rw [e1]; exact lv_sub hl [2, 3, 4, 5, 0] rfl)
            · have e1 := selN_y (ok := unO (HS g k)) (val := unN (HS g k)) (i := i) (by omega) (decide_eq_true (Int32.not_le.mp c95))
              refine lv_aload_n hx hb d_Md_uniform_98 rfl (lv_at hl 2 rfl) ?_
              refine lv_iload_n hx hb d_Md_uniform_99 rfl (lv_at hl 3 rfl) ?_
              refine lv_iload_n hx hb d_Md_uniform_100 rfl (lv_at hl 4 rfl) ?_
              refine lv_iadd hx hb d_Md_uniform_101 ?_
              refine g_topi (y := nI (fm + ((selN (unO (HS g k)) (unN (HS g k)) i).1))) (nI_add _ _) ?_
              refine lv_iload hx hb d_Md_uniform_102 (lv_at hl 0 rfl) ?_
              refine g_iast (x := unN (HS g k) i) hx hb hE hG kt (by omega) (fm + ((selN (unO (HS g k)) (unN (HS g k)) i).1)) (rfl) (by omega) d_Md_uniform_104 (fun H locs hG => ?_)
              refine lv_iinc (v := nI ((selN (unO (HS g k)) (unN (HS g k)) i).1 + 1)) (lv' := [(3, .int (nI ((selN (unO (HS g k)) (unN (HS g k)) i).1 + 1))), (5, .int (unN (HS g k) i)), (0, .ref (g_ad V 11)), (1, .ref (g_ad V kt)), (2, .int (nI (fm))), (4, .int (nI (i)))]) hx hb d_Md_uniform_105 hl (k := 4) rfl (g_inc _) (by decide) rfl (fun ls hl => ?_)
              refine lv_iinc (v := nI (i + 1)) (lv' := [(4, .int (nI (i + 1))), (3, .int (nI ((selN (unO (HS g k)) (unN (HS g k)) i).1 + 1))), (5, .int (unN (HS g k) i)), (0, .ref (g_ad V 11)), (1, .ref (g_ad V kt)), (2, .int (nI (fm)))]) hx hb d_Md_uniform_108 hl (k := 5) rfl (g_inc _) (by decide) rfl (fun ls hl => ?_)
              refine lv_goto (tgt := 32) hx hb d_Md_uniform_111 (by decide) ?_
              exact ih32 (i + 1) (by omega) (uI X2 kt (upd (X2.1 kt) (fm + ((selN (unO (HS g k)) (unN (HS g k)) i).1)) (unN (HS g k) i))) _ _ ls (fr_i hF2 _ (List.mem_cons_of_mem _ List.mem_cons_self)) ((uI_n _ _ hne).trans i55) i3 (by rw [uI_s, hC2, e1]; exact seg_w _ _ _ _ (by omega)) hG (by rw [e1]; exact lv_sub hl [3, 4, 5, 1, 0] rfl)
      exact K32 (45 - 0) 0 (by omega) X1 _ _ ls hF h55 h3 hC hG (lv_sub hl [1, 2, 3, 4, 0] rfl)
    | succ fu ih9 =>
      intro z hin9 X1 H locs ls hF h55 h3 hC hG hl
      have hi9 : z < 16 := by omega
      refine lv_iload hx hb d_Md_uniform_9 (lv_at hl 4 rfl) ?_
      refine lv_bipush (v := nI (16)) hx hb d_Md_uniform_11 (by decide) ?_
      refine lv_icmp_ge (tgt := 29) hx hb d_Md_uniform_13 (by decide) (fun q => absurd ((g_ge (x := z) (y := 16) (by omega) (by omega)).mp q) (by omega)) (fun _ => ?_)
      refine lv_aload_n hx hb d_Md_uniform_16 rfl (lv_at hl 1 rfl) ?_
      refine lv_iload_n hx hb d_Md_uniform_17 rfl (lv_at hl 2 rfl) ?_
      refine lv_iload hx hb d_Md_uniform_18 (lv_at hl 4 rfl) ?_
      refine lv_iadd hx hb d_Md_uniform_20 ?_
      refine g_topi (y := nI (fm + z)) (nI_add _ _) ?_
      refine lv_iconst (v := nI (0)) hx hb d_Md_uniform_21 (by decide) ?_
      refine g_iast (x := nI (0)) hx hb hE hG kt (by omega) (fm + z) (rfl) (by omega) d_Md_uniform_22 (fun H locs hG => ?_)
      refine lv_iinc (v := nI (z + 1)) (lv' := [(4, .int (nI (z + 1))), (0, .ref (g_ad V 11)), (1, .ref (g_ad V kt)), (2, .int (nI (fm))), (3, .int (nI (0)))]) hx hb d_Md_uniform_23 hl (k := 4) rfl (g_inc _) (by decide) rfl (fun ls hl => ?_)
      refine lv_goto (tgt := 9) hx hb d_Md_uniform_26 (by decide) ?_
      exact ih9 (z + 1) (by omega) (uI X1 kt (upd (X1.1 kt) (fm + z) (nI (0)))) _ _ ls (fr_i hF _ (List.mem_cons_of_mem _ List.mem_cons_self)) ((uI_n _ _ hne).trans h55) h3 (by rw [uI_s, hC]; exact seg_s (fun _ => 0) _ _ _) hG (lv_sub hl [1, 2, 3, 4, 0] rfl)
  exact K9 (16 - 0) 0 (by omega) X0 _ _ ls (fr_mono q0.2.2 (a' := [55, kt]) (fun a q => List.mem_cons.mpr (Or.inl (List.mem_singleton.mp q))) (by decide) (by decide)) q0.1 q0.2.1 ((q0.2.2.1 kt (ni_1 (Ne.symm hne))).trans (seg_0 _ _ _).symm) hG (lv_sub hl [2, 3, 4, 1, 0] rfl)

set_option maxHeartbeats 4000000 in
set_option maxRecDepth 100000 in
theorem c_m_small (l : Launch) (V : Ev) (X : Mm) (kt : Nat) (hkt : 17 ≤ kt ∧ kt < 80) (hne : (55 : Nat) ≠ kt) (fm : Nat) (hfm : fm + 16 ≤ g_len kt) (g : Nat → Int32) (k : Nat) (hk : k ≤ 135) (hT : X.2.2 3 = nI k) (hI : ∀ j, j < k → X.1 54 j = g j) (hTu : X.1 53 = rotT) (hEx : X.2.1 12 = rcT) : Met l y_Md_small (Cond.code y_Md_small b_Md_small 6 none :: WA) ({ frames := 3, cells := 0, slots := 0, locals := 68 } : Room) (g_Pc V X [.ref (g_ad V 11), .ref (g_ad V kt), .int (nI (fm))]) (g_Qv V (fun X1 : Mm => X1.1 kt = seg (rdF (smP (HS g k))) (X.1 kt) fm 16 ∧ X1.1 55 = HS g k ∧ X1.2.2 3 = nI 0 ∧ fr X X1 [55, kt] [13, 14, 15] [3])) 0 0 (g_A V) := by
  refine g_met (by decide) (Nat.le_of_ble_eq_true rfl) ?_
  intro p e s m below meth c hx hb hr hml hown hts hlocks hE hG ls hl
  have hl : lv_has ls 6 [(0, .ref (g_ad V 11)), (1, .ref (g_ad V kt)), (2, .int (nI (fm)))] := hl
  have hown : s.vm.findClass R_Md = some m.cls := hown
  have hlen := g_len_le kt
  refine lv_aload_n hx hb d_Md_small_0 rfl (lv_at hl 0 rfl) ?_
  refine g_callv (va_runV (As := []) (rest := []) ⟨hx, hb, hml, hown, hts⟩ (c_m_stream l V X g k hk hT hI hTu hEx) (cwV 0 hts (g_goodV kw_714 kw_711 kw_713 kp_18 kw_8) rfl rfl rfl (by decide +kernel) ⟨Nat.le_of_ble_eq_true rfl, Nat.le_of_ble_eq_true rfl⟩) (g_preV (k0 := 11) (ci := 7) hE hG (by decide) rfl rfl) rfl rfl hl.1 rfl (lv_room (Nat.le_of_ble_eq_true rfl)) d_Md_small_1 ⟨Nat.le_refl 0, Nat.le_refl 0⟩) hG (fun X0 H locs q0 hG => ?_)
  refine lv_iconst (v := nI (0)) hx hb d_Md_small_4 (by decide) ?_
  refine lv_istore_n (lv' := [(3, .int (nI (0))), (0, .ref (g_ad V 11)), (1, .ref (g_ad V kt)), (2, .int (nI (fm)))]) hx hb d_Md_small_5 rfl hl (by decide) rfl (fun ls hl => ?_)
  refine lv_iconst (v := nI (0)) hx hb d_Md_small_6 (by decide) ?_
  refine lv_istore (lv' := [(4, .int (nI (0))), (3, .int (nI (0))), (0, .ref (g_ad V 11)), (1, .ref (g_ad V kt)), (2, .int (nI (fm)))]) hx hb d_Md_small_7 hl (by decide) rfl (fun ls hl => ?_)
  have K9 : ∀ (fu z : Nat), z + fu = 16 → ∀ (X1 : Mm) (H : Heap) (locs : List Loc), ∀ (ls : Array Slot), (fr X X1 [55, kt] [13, 14, 15] [3]) → (X1.1 55 = HS g k) → (X1.2.2 3 = nI 0) → (X1.1 kt = seg (fun _ => 0) (X.1 kt) fm z) → g_st V X1 s.heap H locs → lv_has ls 6 [(0, .ref (g_ad V 11)), (1, .ref (g_ad V kt)), (2, .int (nI (fm))), (3, .int (nI (0))), (4, .int (nI (z)))] → W p l e ({ frames := 3, cells := 0, slots := 0, locals := 68 } : Room) s m ([.ref (g_ad V 11), .ref (g_ad V kt), .int (nI (fm))] : List Value).toArray below meth c H locs 0 0 (MQ below (g_Qv V (fun X1 : Mm => X1.1 kt = seg (rdF (smP (HS g k))) (X.1 kt) fm 16 ∧ X1.1 55 = HS g k ∧ X1.2.2 3 = nI 0 ∧ fr X X1 [55, kt] [13, 14, 15] [3])) ([.ref (g_ad V 11), .ref (g_ad V kt), .int (nI (fm))] : List Value).toArray s 0 0 (g_A V)) (F0 m 9 ls []) := by
    intro fu
    induction fu with
    | zero =>
      intro z hin9 X1 H locs ls hF h55 h3 hC hG hl
      have hi9 : 16 = z := by omega
      subst hi9
      refine lv_iload hx hb d_Md_small_9 (lv_at hl 4 rfl) ?_
      refine lv_bipush (v := nI (16)) hx hb d_Md_small_11 (by decide) ?_
      refine lv_icmp_ge (tgt := 29) hx hb d_Md_small_13 (by decide) (fun _ => ?_) (fun q => absurd ((g_geN (x := 16) (y := 16) (by omega) (by omega)).mp q) (by omega))
      refine lv_iconst (v := nI (0)) hx hb d_Md_small_29 (by decide) ?_
      refine lv_istore (lv' := [(4, .int (nI (0))), (0, .ref (g_ad V 11)), (1, .ref (g_ad V kt)), (2, .int (nI (fm))), (3, .int (nI (0)))]) hx hb d_Md_small_30 hl (by decide) rfl (fun ls hl => ?_)
      have K32 : ∀ (fu i : Nat), i + fu = 128 → ∀ (X2 : Mm) (H : Heap) (locs : List Loc), ∀ (ls : Array Slot), (fr X X2 [55, kt] [13, 14, 15] [3]) → (X2.1 55 = HS g k) → (X2.2.2 3 = nI 0) → (X2.1 kt = seg (selN (smO (HS g k)) (fun t => redP (smV (HS g k) t).toInt64) i).2 (X.1 kt) fm 16) → g_st V X2 s.heap H locs → lv_has ls 6 [(0, .ref (g_ad V 11)), (1, .ref (g_ad V kt)), (2, .int (nI (fm))), (3, .int (nI ((selN (smO (HS g k)) (fun t => redP (smV (HS g k) t).toInt64) i).1))), (4, .int (nI (i)))] → W p l e ({ frames := 3, cells := 0, slots := 0, locals := 68 } : Room) s m ([.ref (g_ad V 11), .ref (g_ad V kt), .int (nI (fm))] : List Value).toArray below meth c H locs 0 0 (MQ below (g_Qv V (fun X1 : Mm => X1.1 kt = seg (rdF (smP (HS g k))) (X.1 kt) fm 16 ∧ X1.1 55 = HS g k ∧ X1.2.2 3 = nI 0 ∧ fr X X1 [55, kt] [13, 14, 15] [3])) ([.ref (g_ad V 11), .ref (g_ad V kt), .int (nI (fm))] : List Value).toArray s 0 0 (g_A V)) (F0 m 32 ls []) := by
        intro fu
        induction fu with
        | zero =>
          intro i hin32 X2 H locs ls hF2 i55 i3 hC2 hG hl
          have hi32 : 128 = i := by omega
          subst hi32
          have e45 : selN (smO (HS g k)) (fun t => redP (smV (HS g k) t).toInt64) 128 = selN (smO (HS g k)) (fun t => redP (smV (HS g k) t).toInt64) 128 := rfl
          refine lv_iload hx hb d_Md_small_32 (lv_at hl 4 rfl) ?_
          refine lv_sipush (v := nI (128)) hx hb d_Md_small_34 (by decide) ?_
          refine lv_icmp_ge (tgt := 113) hx hb d_Md_small_37 (by decide) (fun _ => ?_) (fun q => absurd ((g_geN (x := 128) (y := 128) (by omega) (by omega)).mp q) (by omega))
          exact g_vret hx hb hr hlocks hE hG (⟨by rw [hC2]; unfold smP; rw [← e45, selN_map], i55, i3, hF2⟩) d_Md_small_113
        | succ fu ih32 =>
          intro i hin32 X2 H locs ls hF2 i55 i3 hC2 hG hl
          have hi32 : i < 128 := by omega
          have hle := selN_le (smO (HS g k)) (fun t => redP (smV (HS g k) t).toInt64) i
          refine lv_iload hx hb d_Md_small_32 (lv_at hl 4 rfl) ?_
          refine lv_sipush (v := nI (128)) hx hb d_Md_small_34 (by decide) ?_
          refine lv_icmp_ge (tgt := 113) hx hb d_Md_small_37 (by decide) (fun q => absurd ((g_ge (x := i) (y := 128) (by omega) (by omega)).mp q) (by omega)) (fun _ => ?_)
          refine lv_iload_n hx hb d_Md_small_40 rfl (lv_at hl 3 rfl) ?_
          refine lv_bipush (v := nI (16)) hx hb d_Md_small_41 (by decide) ?_
          refine lv_icmp_ge (tgt := 113) hx hb d_Md_small_43 (by decide) (fun c43 => ?_) (fun c43 => ?_)
          · have c43 := (g_ge (x := (selN (smO (HS g k)) (fun t => redP (smV (HS g k) t).toInt64) i).1) (y := 16) (by omega) (by omega)).mp c43
            have e45 : selN (smO (HS g k)) (fun t => redP (smV (HS g k) t).toInt64) 128 = (selN (smO (HS g k)) (fun t => redP (smV (HS g k) t).toInt64) i) := by
              rw [show 128 = i + (128 - i) by omega]
              exact selN_full (by omega) _
            exact g_vret hx hb hr hlocks hE hG (⟨by rw [hC2]; unfold smP; rw [← e45, selN_map], i55, i3, hF2⟩) d_Md_small_113
          · have c43 := (g_geN (x := (selN (smO (HS g k)) (fun t => redP (smV (HS g k) t).toInt64) i).1) (y := 16) (by omega) (by omega)).mp c43
            refine lv_iload hx hb d_Md_small_46 (lv_at hl 4 rfl) ?_
            refine lv_iconst (v := nI (2)) hx hb d_Md_small_48 (by decide) ?_
            refine lv_irem hx hb d_Md_small_49 (by decide) ?_
            refine g_topi (y := nI (i % 2)) (pk_rem (by omega) (by omega) (by omega)) ?_
            refine lv_if_ne (tgt := 68) hx hb d_Md_small_50 (by decide) (fun c50 => ?_) (fun c50 => ?_)
            · have c50 := (g_ne (x := i % 2) (y := 0) (by omega) (by omega)).mp c50
              refine lv_aload_n hx hb d_Md_small_68 rfl (lv_at hl 0 rfl) ?_
              refine g_get (ci := 7) (v := .ref (g_ad V 55)) (C := R_Md) (T := F_Md) (N := 35) hx hb hts (fun w h => List.mem_cons_of_mem _ (in_Md w h)) hown hE hG 11 (by decide) rfl rfl 7 (by decide) (hts _ (List.mem_cons_of_mem _ kw_599)) (fun _ h9 => h9) rfl d_Md_small_69 ?_
              refine lv_iload hx hb d_Md_small_72 (lv_at hl 4 rfl) ?_
              refine lv_iconst (v := nI (2)) hx hb d_Md_small_74 (by decide) ?_
              refine lv_idiv hx hb d_Md_small_75 (by decide) ?_
              refine g_topi (y := nI (i / 2)) (pk_div (by omega) (by omega) (by omega)) ?_
              refine g_iald hx hb hE hG 55 (by decide) (i / 2) (rfl) (show _ < 136 by omega) (v := HS g k (i / 2)) (congrFun i55 _) d_Md_small_76 ?_
              refine lv_bipush (v := nI (16)) hx hb d_Md_small_77 (by decide) ?_
              refine lv_idiv hx hb d_Md_small_79 (by decide) ?_
              refine g_topi (y := smN (HS g k) i) (by unfold smN; rw [show i % 2 = 1 by omega]; exact sm_o (HS_isB _ _ _)) ?_
              refine lv_istore (lv' := [(5, .int (smN (HS g k) i)), (0, .ref (g_ad V 11)), (1, .ref (g_ad V kt)), (2, .int (nI (fm))), (3, .int (nI ((selN (smO (HS g k)) (fun t => redP (smV (HS g k) t).toInt64) i).1))), (4, .int (nI (i)))]) hx hb d_Md_small_80 hl (by decide) rfl (fun ls hl => ?_)
              refine lv_iload hx hb d_Md_small_82 (lv_at hl 0 rfl) ?_
              refine lv_bipush (v := nI (15)) hx hb d_Md_small_84 (by decide) ?_
              refine lv_icmp_ge (tgt := 107) hx hb d_Md_small_86 (by decide) (fun c86 => ?_) (fun c86 => ?_)
              · have e1 : selN (smO (HS g k)) (fun t => redP (smV (HS g k) t).toInt64) (i + 1) = (selN (smO (HS g k)) (fun t => redP (smV (HS g k) t).toInt64) i) := selN_n (fun q => absurd ((sm_15 _ _).mpr (of_decide_eq_true q.2)) (Int32.not_lt.mpr c86))
                refine lv_iinc (v := nI (i + 1)) (lv' := [(4, .int (nI (i + 1))), (5, .int (smN (HS g k) i)), (0, .ref (g_ad V 11)), (1, .ref (g_ad V kt)), (2, .int (nI (fm))), (3, .int (nI ((selN (smO (HS g k)) (fun t => redP (smV (HS g k) t).toInt64) i).1)))]) hx hb d_Md_small_107 hl (k := 5) rfl (g_inc _) (by decide) rfl (fun ls hl => ?_)
                refine lv_goto (tgt := 32) hx hb d_Md_small_110 (by decide) ?_
                exact ih32 (i + 1) (by omega) X2 _ _ ls hF2 i55 i3 (by rw [e1]; exact hC2) hG (by rw [e1]; exact lv_sub hl [2, 3, 4, 5, 0] rfl)
              · have e1 := selN_y (ok := smO (HS g k)) (val := (fun t => redP (smV (HS g k) t).toInt64)) (i := i) (by omega) (decide_eq_true ((sm_15 _ _).mp (Int32.not_le.mp c86)))
                refine lv_aload_n hx hb d_Md_small_89 rfl (lv_at hl 2 rfl) ?_
                refine lv_iload_n hx hb d_Md_small_90 rfl (lv_at hl 3 rfl) ?_
                refine lv_iload_n hx hb d_Md_small_91 rfl (lv_at hl 4 rfl) ?_
                refine lv_iadd hx hb d_Md_small_92 ?_
                refine g_topi (y := nI (fm + ((selN (smO (HS g k)) (fun t => redP (smV (HS g k) t).toInt64) i).1))) (nI_add _ _) ?_
                refine lv_iconst (v := nI (2)) hx hb d_Md_small_93 (by decide) ?_
                refine lv_iload hx hb d_Md_small_94 (lv_at hl 0 rfl) ?_
                refine lv_iconst (v := nI (5)) hx hb d_Md_small_96 (by decide) ?_
                refine lv_irem hx hb d_Md_small_97 (by decide) ?_
                refine lv_isub hx hb d_Md_small_98 ?_
                refine g_topi (y := smV (HS g k) i) (rfl) ?_
                refine lv_i2l (v := (smV (HS g k) i).toInt64) hx hb d_Md_small_99 rfl ?_
                refine g_callpi (va_runS (As := [.long ((smV (HS g k) i).toInt64)]) (rest := [.int (nI (fm + ((selN (smO (HS g k)) (fun t => redP (smV (HS g k) t).toInt64) i).1))), .ref (g_ad V kt)]) ⟨hx, hb, hml, hown, hts⟩ (c_m_mod l (smV (HS g k) i).toInt64) (va_cwS 1 hts (g_goodS kw_751 kw_749 kw_750 kw_8) rfl rfl rfl (by decide +kernel) ⟨Nat.le_of_ble_eq_true rfl, Nat.le_of_ble_eq_true rfl⟩) ⟨fun _ _ _ _ q => q, fun _ _ _ => rfl⟩ rfl rfl hl.1 rfl (lv_room (Nat.le_of_ble_eq_true rfl)) d_Md_small_100 ⟨Nat.le_refl 0, Nat.le_refl 0⟩) (fun r5 q5 => ?_)
                refine g_topi (y := redP (smV (HS g k) i).toInt64) (q5) ?_
                refine g_iast (x := redP (smV (HS g k) i).toInt64) hx hb hE hG kt (by omega) (fm + ((selN (smO (HS g k)) (fun t => redP (smV (HS g k) t).toInt64) i).1)) (rfl) (by omega) d_Md_small_103 (fun H locs hG => ?_)
                refine lv_iinc (v := nI ((selN (smO (HS g k)) (fun t => redP (smV (HS g k) t).toInt64) i).1 + 1)) (lv' := [(3, .int (nI ((selN (smO (HS g k)) (fun t => redP (smV (HS g k) t).toInt64) i).1 + 1))), (5, .int (smN (HS g k) i)), (0, .ref (g_ad V 11)), (1, .ref (g_ad V kt)), (2, .int (nI (fm))), (4, .int (nI (i)))]) hx hb d_Md_small_104 hl (k := 4) rfl (g_inc _) (by decide) rfl (fun ls hl => ?_)
                refine lv_iinc (v := nI (i + 1)) (lv' := [(4, .int (nI (i + 1))), (3, .int (nI ((selN (smO (HS g k)) (fun t => redP (smV (HS g k) t).toInt64) i).1 + 1))), (5, .int (smN (HS g k) i)), (0, .ref (g_ad V 11)), (1, .ref (g_ad V kt)), (2, .int (nI (fm)))]) hx hb d_Md_small_107 hl (k := 5) rfl (g_inc _) (by decide) rfl (fun ls hl => ?_)
                refine lv_goto (tgt := 32) hx hb d_Md_small_110 (by decide) ?_
                exact ih32 (i + 1) (by omega) (uI X2 kt (upd (X2.1 kt) (fm + ((selN (smO (HS g k)) (fun t => redP (smV (HS g k) t).toInt64) i).1)) (redP (smV (HS g k) i).toInt64))) _ _ ls (fr_i hF2 _ (List.mem_cons_of_mem _ List.mem_cons_self)) ((uI_n _ _ hne).trans i55) i3 (by rw [uI_s, hC2, e1]; exact seg_w _ _ _ _ (by omega)) hG (by rw [e1]; exact lv_sub hl [3, 4, 5, 1, 0] rfl)
            · have c50 := (g_neN (x := i % 2) (y := 0) (by omega) (by omega)).mp c50
              refine lv_aload_n hx hb d_Md_small_53 rfl (lv_at hl 0 rfl) ?_
              refine g_get (ci := 7) (v := .ref (g_ad V 55)) (C := R_Md) (T := F_Md) (N := 35) hx hb hts (fun w h => List.mem_cons_of_mem _ (in_Md w h)) hown hE hG 11 (by decide) rfl rfl 7 (by decide) (hts _ (List.mem_cons_of_mem _ kw_599)) (fun _ h9 => h9) rfl d_Md_small_54 ?_
              refine lv_iload hx hb d_Md_small_57 (lv_at hl 4 rfl) ?_
              refine lv_iconst (v := nI (2)) hx hb d_Md_small_59 (by decide) ?_
              refine lv_idiv hx hb d_Md_small_60 (by decide) ?_
              refine g_topi (y := nI (i / 2)) (pk_div (by omega) (by omega) (by omega)) ?_
              refine g_iald hx hb hE hG 55 (by decide) (i / 2) (rfl) (show _ < 136 by omega) (v := HS g k (i / 2)) (congrFun i55 _) d_Md_small_61 ?_
              refine lv_bipush (v := nI (16)) hx hb d_Md_small_62 (by decide) ?_
              refine lv_irem hx hb d_Md_small_64 (by decide) ?_
              refine g_topi (y := smN (HS g k) i) (by unfold smN; rw [show i % 2 = 0 by omega]; exact sm_e (HS_isB _ _ _)) ?_
              refine lv_goto (tgt := 80) hx hb d_Md_small_65 (by decide) ?_
              refine lv_istore (lv' := [(5, .int (smN (HS g k) i)), (0, .ref (g_ad V 11)), (1, .ref (g_ad V kt)), (2, .int (nI (fm))), (3, .int (nI ((selN (smO (HS g k)) (fun t => redP (smV (HS g k) t).toInt64) i).1))), (4, .int (nI (i)))]) hx hb d_Md_small_80 hl (by decide) rfl (fun ls hl => ?_)
              refine lv_iload hx hb d_Md_small_82 (lv_at hl 0 rfl) ?_
              refine lv_bipush (v := nI (15)) hx hb d_Md_small_84 (by decide) ?_
              refine lv_icmp_ge (tgt := 107) hx hb d_Md_small_86 (by decide) (fun c86 => ?_) (fun c86 => ?_)
              · have e1 : selN (smO (HS g k)) (fun t => redP (smV (HS g k) t).toInt64) (i + 1) = (selN (smO (HS g k)) (fun t => redP (smV (HS g k) t).toInt64) i) := selN_n (fun q => absurd ((sm_15 _ _).mpr (of_decide_eq_true q.2)) (Int32.not_lt.mpr c86))
                refine lv_iinc (v := nI (i + 1)) (lv' := [(4, .int (nI (i + 1))), (5, .int (smN (HS g k) i)), (0, .ref (g_ad V 11)), (1, .ref (g_ad V kt)), (2, .int (nI (fm))), (3, .int (nI ((selN (smO (HS g k)) (fun t => redP (smV (HS g k) t).toInt64) i).1)))]) hx hb d_Md_small_107 hl (k := 5) rfl (g_inc _) (by decide) rfl (fun ls hl => ?_)
                refine lv_goto (tgt := 32) hx hb d_Md_small_110 (by decide) ?_
                exact ih32 (i + 1) (by omega) X2 _ _ ls hF2 i55 i3 (by rw [e1]; exact hC2) hG (by rw [e1]; exact lv_sub hl [2, 3, 4, 5, 0] rfl)
              · have e1 := selN_y (ok := smO (HS g k)) (val := (fun t => redP (smV (HS g k) t).toInt64)) (i := i) (by omega) (decide_eq_true ((sm_15 _ _).mp (Int32.not_le.mp c86)))
                refine lv_aload_n hx hb d_Md_small_89 rfl (lv_at hl 2 rfl) ?_
                refine lv_iload_n hx hb d_Md_small_90 rfl (lv_at hl 3 rfl) ?_
                refine lv_iload_n hx hb d_Md_small_91 rfl (lv_at hl 4 rfl) ?_
                refine lv_iadd hx hb d_Md_small_92 ?_
                refine g_topi (y := nI (fm + ((selN (smO (HS g k)) (fun t => redP (smV (HS g k) t).toInt64) i).1))) (nI_add _ _) ?_
                refine lv_iconst (v := nI (2)) hx hb d_Md_small_93 (by decide) ?_
                refine lv_iload hx hb d_Md_small_94 (lv_at hl 0 rfl) ?_
                refine lv_iconst (v := nI (5)) hx hb d_Md_small_96 (by decide) ?_
                refine lv_irem hx hb d_Md_small_97 (by decide) ?_
                refine lv_isub hx hb d_Md_small_98 ?_
                refine g_topi (y := smV (HS g k) i) (rfl) ?_
                refine lv_i2l (v := (smV (HS g k) i).toInt64) hx hb d_Md_small_99 rfl ?_
                refine g_callpi (va_runS (As := [.long ((smV (HS g k) i).toInt64)]) (rest := [.int (nI (fm + ((selN (smO (HS g k)) (fun t => redP (smV (HS g k) t).toInt64) i).1))), .ref (g_ad V kt)]) ⟨hx, hb, hml, hown, hts⟩ (c_m_mod l (smV (HS g k) i).toInt64) (va_cwS 1 hts (g_goodS kw_751 kw_749 kw_750 kw_8) rfl rfl rfl (by decide +kernel) ⟨Nat.le_of_ble_eq_true rfl, Nat.le_of_ble_eq_true rfl⟩) ⟨fun _ _ _ _ q => q, fun _ _ _ => rfl⟩ rfl rfl hl.1 rfl (lv_room (Nat.le_of_ble_eq_true rfl)) d_Md_small_100 ⟨Nat.le_refl 0, Nat.le_refl 0⟩) (fun r7 q5 => ?_)
                refine g_topi (y := redP (smV (HS g k) i).toInt64) (q5) ?_
                refine g_iast (x := redP (smV (HS g k) i).toInt64) hx hb hE hG kt (by omega) (fm + ((selN (smO (HS g k)) (fun t => redP (smV (HS g k) t).toInt64) i).1)) (rfl) (by omega) d_Md_small_103 (fun H locs hG => ?_)
                refine lv_iinc (v := nI ((selN (smO (HS g k)) (fun t => redP (smV (HS g k) t).toInt64) i).1 + 1)) (lv' := [(3, .int (nI ((selN (smO (HS g k)) (fun t => redP (smV (HS g k) t).toInt64) i).1 + 1))), (5, .int (smN (HS g k) i)), (0, .ref (g_ad V 11)), (1, .ref (g_ad V kt)), (2, .int (nI (fm))), (4, .int (nI (i)))]) hx hb d_Md_small_104 hl (k := 4) rfl (g_inc _) (by decide) rfl (fun ls hl => ?_)
                refine lv_iinc (v := nI (i + 1)) (lv' := [(4, .int (nI (i + 1))), (3, .int (nI ((selN (smO (HS g k)) (fun t => redP (smV (HS g k) t).toInt64) i).1 + 1))), (5, .int (smN (HS g k) i)), (0, .ref (g_ad V 11)), (1, .ref (g_ad V kt)), (2, .int (nI (fm)))]) hx hb d_Md_small_107 hl (k := 5) rfl (g_inc _) (by decide) rfl (fun ls hl => ?_)
                refine lv_goto (tgt := 32) hx hb d_Md_small_110 (by decide) ?_
                exact ih32 (i + 1) (by omega) (uI X2 kt (upd (X2.1 kt) (fm + ((selN (smO (HS g k)) (fun t => redP (smV (HS g k) t).toInt64) i).1)) (redP (smV (HS g k) i).toInt64))) _ _ ls (fr_i hF2 _ (List.mem_cons_of_mem _ List.mem_cons_self)) ((uI_n _ _ hne).trans i55) i3 (by rw [uI_s, hC2, e1]; exact seg_w _ _ _ _ (by omega)) hG (by rw [e1]; exact lv_sub hl [3, 4, 5, 1, 0] rfl)
      exact K32 (128 - 0) 0 (by omega) X1 _ _ ls hF h55 h3 hC hG (lv_sub hl [1, 2, 3, 4, 0] rfl)
    | succ fu ih9 =>
      intro z hin9 X1 H locs ls hF h55 h3 hC hG hl
      have hi9 : z < 16 := by omega
      refine lv_iload hx hb d_Md_small_9 (lv_at hl 4 rfl) ?_
      refine lv_bipush (v := nI (16)) hx hb d_Md_small_11 (by decide) ?_
      refine lv_icmp_ge (tgt := 29) hx hb d_Md_small_13 (by decide) (fun q => absurd ((g_ge (x := z) (y := 16) (by omega) (by omega)).mp q) (by omega)) (fun _ => ?_)
      refine lv_aload_n hx hb d_Md_small_16 rfl (lv_at hl 1 rfl) ?_
      refine lv_iload_n hx hb d_Md_small_17 rfl (lv_at hl 2 rfl) ?_
      refine lv_iload hx hb d_Md_small_18 (lv_at hl 4 rfl) ?_
      refine lv_iadd hx hb d_Md_small_20 ?_
      refine g_topi (y := nI (fm + z)) (nI_add _ _) ?_
      refine lv_iconst (v := nI (0)) hx hb d_Md_small_21 (by decide) ?_
      refine g_iast (x := nI (0)) hx hb hE hG kt (by omega) (fm + z) (rfl) (by omega) d_Md_small_22 (fun H locs hG => ?_)
      refine lv_iinc (v := nI (z + 1)) (lv' := [(4, .int (nI (z + 1))), (0, .ref (g_ad V 11)), (1, .ref (g_ad V kt)), (2, .int (nI (fm))), (3, .int (nI (0)))]) hx hb d_Md_small_23 hl (k := 4) rfl (g_inc _) (by decide) rfl (fun ls hl => ?_)
      refine lv_goto (tgt := 9) hx hb d_Md_small_26 (by decide) ?_
      exact ih9 (z + 1) (by omega) (uI X1 kt (upd (X1.1 kt) (fm + z) (nI (0)))) _ _ ls (fr_i hF _ (List.mem_cons_of_mem _ List.mem_cons_self)) ((uI_n _ _ hne).trans h55) h3 (by rw [uI_s, hC]; exact seg_s (fun _ => 0) _ _ _) hG (lv_sub hl [1, 2, 3, 4, 0] rfl)
  exact K9 (16 - 0) 0 (by omega) X0 _ _ ls (fr_mono q0.2.2 (a' := [55, kt]) (fun a q => List.mem_cons.mpr (Or.inl (List.mem_singleton.mp q))) (by decide) (by decide)) q0.1 q0.2.1 ((q0.2.2.1 kt (ni_1 (Ne.symm hne))).trans (seg_0 _ _ _).symm) hG (lv_sub hl [2, 3, 4, 1, 0] rfl)

set_option maxHeartbeats 4000000 in
set_option maxRecDepth 100000 in
theorem c_m_wide (l : Launch) (V : Ev) (X : Mm) (kt : Nat) (hkt : 17 ≤ kt ∧ kt < 80) (hne : (55 : Nat) ≠ kt) (fm : Nat) (hfm : fm + 16 ≤ g_len kt) (g : Nat → Int32) (k : Nat) (hk : k ≤ 135) (hT : X.2.2 3 = nI k) (hI : ∀ j, j < k → X.1 54 j = g j) (hTu : X.1 53 = rotT) (hEx : X.2.1 12 = rcT) : Met l y_Md_wide (Cond.code y_Md_wide b_Md_wide 4 none :: WA) ({ frames := 3, cells := 0, slots := 0, locals := 68 } : Room) (g_Pc V X [.ref (g_ad V 11), .ref (g_ad V kt), .int (nI (fm))]) (g_Qv V (fun X1 : Mm => X1.1 kt = seg (rdF (wdP (HS g k))) (X.1 kt) fm 16 ∧ X1.1 55 = HS g k ∧ X1.2.2 3 = nI 0 ∧ fr X X1 [55, kt] [13, 14, 15] [3])) 0 0 (g_A V) := by
  refine g_met (by decide) (Nat.le_of_ble_eq_true rfl) ?_
  intro p e s m below meth c hx hb hr hml hown hts hlocks hE hG ls hl
  have hl : lv_has ls 4 [(0, .ref (g_ad V 11)), (1, .ref (g_ad V kt)), (2, .int (nI (fm)))] := hl
  have hown : s.vm.findClass R_Md = some m.cls := hown
  have hlen := g_len_le kt
  refine lv_aload_n hx hb d_Md_wide_0 rfl (lv_at hl 0 rfl) ?_
  refine g_callv (va_runV (As := []) (rest := []) ⟨hx, hb, hml, hown, hts⟩ (c_m_stream l V X g k hk hT hI hTu hEx) (cwV 0 hts (g_goodV kw_714 kw_711 kw_713 kp_18 kw_8) rfl rfl rfl (by decide +kernel) ⟨Nat.le_of_ble_eq_true rfl, Nat.le_of_ble_eq_true rfl⟩) (g_preV (k0 := 11) (ci := 7) hE hG (by decide) rfl rfl) rfl rfl hl.1 rfl (lv_room (Nat.le_of_ble_eq_true rfl)) d_Md_wide_1 ⟨Nat.le_refl 0, Nat.le_refl 0⟩) hG (fun X0 H locs q0 hG => ?_)
  refine lv_iconst (v := nI (0)) hx hb d_Md_wide_4 (by decide) ?_
  refine lv_istore_n (lv' := [(3, .int (nI (0))), (0, .ref (g_ad V 11)), (1, .ref (g_ad V kt)), (2, .int (nI (fm)))]) hx hb d_Md_wide_5 rfl hl (by decide) rfl (fun ls hl => ?_)
  have K6 : ∀ (fu i : Nat), i + fu = 16 → ∀ (X1 : Mm) (H : Heap) (locs : List Loc), ∀ (ls : Array Slot), (fr X X1 [55, kt] [13, 14, 15] [3]) → (X1.1 55 = HS g k) → (X1.2.2 3 = nI 0) → (X1.1 kt = seg (rdF (wdP (HS g k))) (X.1 kt) fm i) → g_st V X1 s.heap H locs → lv_has ls 4 [(0, .ref (g_ad V 11)), (1, .ref (g_ad V kt)), (2, .int (nI (fm))), (3, .int (nI (i)))] → W p l e ({ frames := 3, cells := 0, slots := 0, locals := 68 } : Room) s m ([.ref (g_ad V 11), .ref (g_ad V kt), .int (nI (fm))] : List Value).toArray below meth c H locs 0 0 (MQ below (g_Qv V (fun X1 : Mm => X1.1 kt = seg (rdF (wdP (HS g k))) (X.1 kt) fm 16 ∧ X1.1 55 = HS g k ∧ X1.2.2 3 = nI 0 ∧ fr X X1 [55, kt] [13, 14, 15] [3])) ([.ref (g_ad V 11), .ref (g_ad V kt), .int (nI (fm))] : List Value).toArray s 0 0 (g_A V)) (F0 m 6 ls []) := by
    intro fu
    induction fu with
    | zero =>
      intro i hin6 X1 H locs ls hF h55 h3 hC hG hl
      have hi6 : 16 = i := by omega
      subst hi6
      refine lv_iload_n hx hb d_Md_wide_6 rfl (lv_at hl 3 rfl) ?_
      refine lv_bipush (v := nI (16)) hx hb d_Md_wide_7 (by decide) ?_
      refine lv_icmp_ge (tgt := 46) hx hb d_Md_wide_9 (by decide) (fun _ => ?_) (fun q => absurd ((g_geN (x := 16) (y := 16) (by omega) (by omega)).mp q) (by omega))
      exact g_vret hx hb hr hlocks hE hG (⟨hC, h55, h3, hF⟩) d_Md_wide_46
    | succ fu ih6 =>
      intro i hin6 X1 H locs ls hF h55 h3 hC hG hl
      have hi6 : i < 16 := by omega
      refine lv_iload_n hx hb d_Md_wide_6 rfl (lv_at hl 3 rfl) ?_
      refine lv_bipush (v := nI (16)) hx hb d_Md_wide_7 (by decide) ?_
      refine lv_icmp_ge (tgt := 46) hx hb d_Md_wide_9 (by decide) (fun q => absurd ((g_ge (x := i) (y := 16) (by omega) (by omega)).mp q) (by omega)) (fun _ => ?_)
      refine lv_aload_n hx hb d_Md_wide_12 rfl (lv_at hl 1 rfl) ?_
      refine lv_iload_n hx hb d_Md_wide_13 rfl (lv_at hl 2 rfl) ?_
      refine lv_iload_n hx hb d_Md_wide_14 rfl (lv_at hl 3 rfl) ?_
      refine lv_iadd hx hb d_Md_wide_15 ?_
      refine g_topi (y := nI (fm + i)) (nI_add _ _) ?_
      refine lv_sipush (v := nI (512)) hx hb d_Md_wide_16 (by decide) ?_
      refine lv_aload_n hx hb d_Md_wide_19 rfl (lv_at hl 0 rfl) ?_
      refine lv_aload_n hx hb d_Md_wide_20 rfl (lv_at hl 0 rfl) ?_
      refine g_get (ci := 7) (v := .ref (g_ad V 55)) (C := R_Md) (T := F_Md) (N := 35) hx hb hts (fun w h => List.mem_cons_of_mem _ (in_Md w h)) hown hE hG 11 (by decide) rfl rfl 7 (by decide) (hts _ (List.mem_cons_of_mem _ kw_599)) (fun _ h9 => h9) rfl d_Md_wide_21 ?_
      refine lv_iconst (v := nI (0)) hx hb d_Md_wide_24 (by decide) ?_
      refine lv_bipush (v := nI (10)) hx hb d_Md_wide_25 (by decide) ?_
      refine lv_iload_n hx hb d_Md_wide_27 rfl (lv_at hl 3 rfl) ?_
      refine lv_imul hx hb d_Md_wide_28 ?_
      refine g_topi (y := nI (10 * i)) (pk_mul _ _) ?_
      refine lv_bipush (v := nI (10)) hx hb d_Md_wide_29 (by decide) ?_
      refine g_calli (va_runV (As := [.ref (g_ad V 55), .int (nI (0)), .int (nI (10 * i)), .int (nI (10))]) (rest := [.int (nI (512)), .int (nI (fm + i)), .ref (g_ad V kt)]) ⟨hx, hb, hml, hown, hts⟩ (c_m_bits l V X1 55 (by decide) 0 (10 * i) 10 (by decide) (by show 8 * 0 + 10 * i + 10 ≤ 8 * 136; omega)) (cwV 4 hts (g_goodV kw_795 kw_792 kw_794 kp_32 kw_8) rfl rfl rfl (by decide +kernel) ⟨Nat.le_of_ble_eq_true rfl, Nat.le_of_ble_eq_true rfl⟩) (g_preV (k0 := 11) (ci := 7) hE hG (by decide) rfl rfl) rfl rfl hl.1 rfl (lv_room (Nat.le_of_ble_eq_true rfl)) d_Md_wide_31 ⟨Nat.le_refl 0, Nat.le_refl 0⟩) hG (fun r6 X4 H locs q1 hG => ?_)
      obtain ⟨q1, rfl⟩ := q1
      refine g_topi (y := rdN (HS g k) 0 (i * 10) 10) (by rw [q1, h55, Nat.mul_comm 10 i]) ?_
      refine lv_isub hx hb d_Md_wide_34 ?_
      refine g_topi (y := wdP (HS g k) i) (rfl) ?_
      refine lv_i2l (v := (wdP (HS g k) i).toInt64) hx hb d_Md_wide_35 rfl ?_
      refine g_callpi (va_runS (As := [.long ((wdP (HS g k) i).toInt64)]) (rest := [.int (nI (fm + i)), .ref (g_ad V kt)]) ⟨hx, hb, hml, hown, hts⟩ (c_m_mod l (wdP (HS g k) i).toInt64) (va_cwS 1 hts (g_goodS kw_751 kw_749 kw_750 kw_8) rfl rfl rfl (by decide +kernel) ⟨Nat.le_of_ble_eq_true rfl, Nat.le_of_ble_eq_true rfl⟩) ⟨fun _ _ _ _ q => q, fun _ _ _ => rfl⟩ rfl rfl hl.1 rfl (lv_room (Nat.le_of_ble_eq_true rfl)) d_Md_wide_36 ⟨Nat.le_refl 0, Nat.le_refl 0⟩) (fun r8 q2 => ?_)
      refine g_topi (y := rdF (wdP (HS g k)) i) (q2) ?_
      refine g_iast (x := rdF (wdP (HS g k)) i) hx hb hE hG kt (by omega) (fm + i) (rfl) (by omega) d_Md_wide_39 (fun H locs hG => ?_)
      refine lv_iinc (v := nI (i + 1)) (lv' := [(3, .int (nI (i + 1))), (0, .ref (g_ad V 11)), (1, .ref (g_ad V kt)), (2, .int (nI (fm)))]) hx hb d_Md_wide_40 hl (k := 3) rfl (g_inc _) (by decide) rfl (fun ls hl => ?_)
      refine lv_goto (tgt := 6) hx hb d_Md_wide_43 (by decide) ?_
      exact ih6 (i + 1) (by omega) (uI X1 kt (upd (X1.1 kt) (fm + i) (rdF (wdP (HS g k)) i))) _ _ ls (fr_i hF _ (List.mem_cons_of_mem _ List.mem_cons_self)) ((uI_n _ _ hne).trans h55) h3 (by rw [uI_s, hC]; exact seg_s (rdF (wdP (HS g k))) _ _ _) hG (lv_sub hl [1, 2, 3, 0] rfl)
  exact K6 (16 - 0) 0 (by omega) X0 _ _ ls (fr_mono q0.2.2 (a' := [55, kt]) (fun a q => List.mem_cons.mpr (Or.inl (List.mem_singleton.mp q))) (by decide) (by decide)) q0.1 q0.2.1 ((q0.2.2.1 kt (ni_1 (Ne.symm hne))).trans (seg_0 _ _ _).symm) hG (lv_sub hl [1, 2, 3, 0] rfl)

set_option maxHeartbeats 4000000 in
set_option maxRecDepth 100000 in
theorem c_m_ballOf (l : Launch) (V : Ev) (X : Mm) (kb : Nat) (hkb : 17 ≤ kb ∧ kb < 80) (hne : kb ≠ 54) (hlb : 8 ≤ g_len kb) (hT : X.2.2 3 = nI 0) (hTu : X.1 53 = rotT) (hEx : X.2.1 12 = rcT) : Met l y_Md_ballOf (Cond.code y_Md_ballOf b_Md_ballOf 5 none :: WA) ({ frames := 3, cells := 0, slots := 0, locals := 68 } : Room) (g_Pc V X [.ref (g_ad V 11), .ref (g_ad V kb)]) (g_Qv V (fun X1 : Mm => X1.1 77 = blP (HS (X.1 kb) 8) ∧ X1.2.2 3 = nI 0 ∧ fr X X1 [54, 55, 77] [13, 14, 15] [3])) 0 0 (g_A V) := by
  refine g_met (by decide) (Nat.le_of_ble_eq_true rfl) ?_
  intro p e s m below meth c hx hb hr hml hown hts hlocks hE hG ls hl
  have hl : lv_has ls 5 [(0, .ref (g_ad V 11)), (1, .ref (g_ad V kb))] := hl
  have hown : s.vm.findClass R_Md = some m.cls := hown
  refine lv_aload_n hx hb d_Md_ballOf_0 rfl (lv_at hl 0 rfl) ?_
  refine lv_aload_n hx hb d_Md_ballOf_1 rfl (lv_at hl 1 rfl) ?_
  refine lv_iconst (v := nI (0)) hx hb d_Md_ballOf_2 (by decide) ?_
  refine lv_bipush (v := nI (8)) hx hb d_Md_ballOf_3 (by decide) ?_
  refine g_callv (va_runV (As := [.ref (g_ad V kb), .int (nI (0)), .int (nI (8))]) (rest := []) ⟨hx, hb, hml, hown, hts⟩ (c_m_feedAll l V X kb hkb hne 0 8 (by omega) (X.1 kb) 0 (by decide) hT (fun j hj => absurd hj (Nat.not_lt_zero j)) (fun j hj => rfl)) (cwV 3 hts (g_goodV kw_738 kw_735 kw_737 kp_23 kw_8) rfl rfl rfl (by decide +kernel) ⟨Nat.le_of_ble_eq_true rfl, Nat.le_of_ble_eq_true rfl⟩) (g_preV (k0 := 11) (ci := 7) hE hG (by decide) rfl rfl) rfl rfl hl.1 rfl (lv_room (Nat.le_of_ble_eq_true rfl)) d_Md_ballOf_5 ⟨Nat.le_refl 0, Nat.le_refl 0⟩) hG (fun Xf H locs qf hG => ?_)
  refine lv_aload_n hx hb d_Md_ballOf_8 rfl (lv_at hl 0 rfl) ?_
  refine g_callv (va_runV (As := []) (rest := []) ⟨hx, hb, hml, hown, hts⟩ (c_m_stream l V Xf (X.1 kb) (0 + 8) (by decide) qf.1 qf.2.1 ((qf.2.2.1 53 (by decide)).trans hTu) ((qf.2.2.2.1 12 (fun q => by cases q)).trans hEx)) (cwV 0 hts (g_goodV kw_714 kw_711 kw_713 kp_18 kw_8) rfl rfl rfl (by decide +kernel) ⟨Nat.le_of_ble_eq_true rfl, Nat.le_of_ble_eq_true rfl⟩) (g_preV (k0 := 11) (ci := 7) hE hG (by decide) rfl rfl) rfl rfl hl.1 rfl (lv_room (Nat.le_of_ble_eq_true rfl)) d_Md_ballOf_9 ⟨Nat.le_refl 0, Nat.le_refl 0⟩) hG (fun X0 H locs q0 hG => ?_)
  have f0 : fr X X0 [54, 55, 77] [13, 14, 15] [3] := (fr_tr2 (fr_mono qf.2.2 (a' := [54, 55, 77]) (b' := [13, 14, 15]) (c' := [3]) (by decide) (by decide) (by decide)) q0.2.2 (by decide) (by decide) (by decide))
  refine lv_iconst (v := nI (0)) hx hb d_Md_ballOf_12 (by decide) ?_
  refine lv_istore_n (lv' := [(2, .int (nI (0))), (0, .ref (g_ad V 11)), (1, .ref (g_ad V kb))]) hx hb d_Md_ballOf_13 rfl hl (by decide) rfl (fun ls hl => ?_)
  have K14 : ∀ (fu z : Nat), z + fu = 16 → ∀ (X1 : Mm) (H : Heap) (locs : List Loc), ∀ (ls : Array Slot), (fr X X1 [54, 55, 77] [13, 14, 15] [3]) → (X1.1 55 = (HS (X.1 kb) 8)) → (X1.2.2 3 = nI 0) → (X1.1 77 = segI (fun _ => nI 0) (X.1 77) z) → g_st V X1 s.heap H locs → lv_has ls 5 [(0, .ref (g_ad V 11)), (1, .ref (g_ad V kb)), (2, .int (nI (z)))] → W p l e ({ frames := 3, cells := 0, slots := 0, locals := 68 } : Room) s m ([.ref (g_ad V 11), .ref (g_ad V kb)] : List Value).toArray below meth c H locs 0 0 (MQ below (g_Qv V (fun X1 : Mm => X1.1 77 = blP (HS (X.1 kb) 8) ∧ X1.2.2 3 = nI 0 ∧ fr X X1 [54, 55, 77] [13, 14, 15] [3])) ([.ref (g_ad V 11), .ref (g_ad V kb)] : List Value).toArray s 0 0 (g_A V)) (F0 m 14 ls []) := by
    intro fu
    induction fu with
    | zero =>
      intro z hin14 X1 H locs ls hF h55 h3 hC hG hl
      have hi14 : 16 = z := by omega
      subst hi14
      refine lv_iload_n hx hb d_Md_ballOf_14 rfl (lv_at hl 2 rfl) ?_
      refine lv_bipush (v := nI (16)) hx hb d_Md_ballOf_15 (by decide) ?_
      refine lv_icmp_ge (tgt := 33) hx hb d_Md_ballOf_17 (by decide) (fun _ => ?_) (fun q => absurd ((g_geN (x := 16) (y := 16) (by omega) (by omega)).mp q) (by omega))
      have hG := g_xi hG 77 (by decide) (fun _ => nI 0) (fun j hj => by rw [hC]; exact segI_e (fun _ => nI 0) _ hj)
      refine lv_iconst (v := nI (1)) hx hb d_Md_ballOf_33 (by decide) ?_
      refine lv_istore_n (lv' := [(2, .int (nI (1))), (0, .ref (g_ad V 11)), (1, .ref (g_ad V kb))]) hx hb d_Md_ballOf_34 rfl hl (by decide) rfl (fun ls hl => ?_)
      refine lv_bipush (v := nI (12)) hx hb d_Md_ballOf_35 (by decide) ?_
      refine lv_istore_n (lv' := [(3, .int (nI (12))), (2, .int (nI (1))), (0, .ref (g_ad V 11)), (1, .ref (g_ad V kb))]) hx hb d_Md_ballOf_37 rfl hl (by decide) rfl (fun ls hl => ?_)
      have K38 : ∀ (fu t : Nat), t + fu = 4 → ∀ (X2 : Mm) (H : Heap) (locs : List Loc), ∀ (ls : Array Slot), (fr X X2 [54, 55, 77] [13, 14, 15] [3]) → (X2.1 55 = (HS (X.1 kb) 8)) → (X2.2.2 3 = nI 0) → (X2.1 77 = (blN (HS (X.1 kb) 8) t).2) → g_st V X2 s.heap H locs → lv_has ls 5 [(0, .ref (g_ad V 11)), (2, .int (nI ((blN (HS (X.1 kb) 8) t).1))), (3, .int (nI (12 + t)))] → W p l e ({ frames := 3, cells := 0, slots := 0, locals := 68 } : Room) s m ([.ref (g_ad V 11), .ref (g_ad V kb)] : List Value).toArray below meth c H locs 0 0 (MQ below (g_Qv V (fun X1 : Mm => X1.1 77 = blP (HS (X.1 kb) 8) ∧ X1.2.2 3 = nI 0 ∧ fr X X1 [54, 55, 77] [13, 14, 15] [3])) ([.ref (g_ad V 11), .ref (g_ad V kb)] : List Value).toArray s 0 0 (g_A V)) (F0 m 38 ls []) := by
        intro fu
        induction fu with
        | zero =>
          intro t hin38 X2 H locs ls hF2 es i3 hC2 hG hl
          have hi38 : 4 = t := by omega
          subst hi38
          refine lv_iload_n hx hb d_Md_ballOf_38 rfl (lv_at hl 2 rfl) ?_
          refine lv_bipush (v := nI (16)) hx hb d_Md_ballOf_39 (by decide) ?_
          refine lv_icmp_ge (tgt := 141) hx hb d_Md_ballOf_41 (by decide) (fun _ => ?_) (fun q => absurd ((g_geN (x := 12 + 4) (y := 16) (by omega) (by omega)).mp q) (by omega))
          exact g_vret hx hb hr hlocks hE hG (⟨hC2, i3, hF2⟩) d_Md_ballOf_141
        | succ fu ih38 =>
          intro t hin38 X2 H locs ls hF2 es i3 hC2 hG hl
          have hi38 : t < 4 := by omega
          have hbl := blN_le (HS (X.1 kb) 8) t
          refine lv_iload_n hx hb d_Md_ballOf_38 rfl (lv_at hl 2 rfl) ?_
          refine lv_bipush (v := nI (16)) hx hb d_Md_ballOf_39 (by decide) ?_
          refine lv_icmp_ge (tgt := 141) hx hb d_Md_ballOf_41 (by decide) (fun q => absurd ((g_ge (x := 12 + t) (y := 16) (by omega) (by omega)).mp q) (by omega)) (fun _ => ?_)
          have K69 : ∀ (q : Nat), ∀ (ls : Array Slot), (q = (sk (HS (X.1 kb) 8) (12 + t) (blN (HS (X.1 kb) 8) t).1)) → (q ≤ 40) → lv_has ls 5 [(0, .ref (g_ad V 11)), (2, .int (nI (q))), (3, .int (nI (12 + t)))] → W p l e ({ frames := 3, cells := 0, slots := 0, locals := 68 } : Room) s m ([.ref (g_ad V 11), .ref (g_ad V kb)] : List Value).toArray below meth c H locs 0 0 (MQ below (g_Qv V (fun X1 : Mm => X1.1 77 = blP (HS (X.1 kb) 8) ∧ X1.2.2 3 = nI 0 ∧ fr X X1 [54, 55, 77] [13, 14, 15] [3])) ([.ref (g_ad V 11), .ref (g_ad V kb)] : List Value).toArray s 0 0 (g_A V)) (F0 m 69 ls []) := by
            intro q ls hq hq4 hl
            have hj4 := lo4_lt ((HS (X.1 kb) 8) q)
            refine lv_iload_n hx hb d_Md_ballOf_69 rfl (lv_at hl 1 rfl) ?_
            refine lv_bipush (v := nI (33)) hx hb d_Md_ballOf_70 (by decide) ?_
            refine lv_icmp_ge (tgt := 87) hx hb d_Md_ballOf_72 (by decide) (fun c72 => ?_) (fun c72 => ?_)
            · have c72 := (g_ge (x := q) (y := 33) (by omega) (by omega)).mp c72
              refine lv_iconst (v := nI (0)) hx hb d_Md_ballOf_87 (by decide) ?_
              refine lv_istore (lv' := [(4, .int (nI (0))), (0, .ref (g_ad V 11)), (2, .int (nI (q))), (3, .int (nI (12 + t)))]) hx hb d_Md_ballOf_88 hl (by decide) rfl (fun ls hl => ?_)
              refine lv_iinc (v := nI (q + 1)) (lv' := [(2, .int (nI (q + 1))), (4, .int (nI (0))), (0, .ref (g_ad V 11)), (3, .int (nI (12 + t)))]) hx hb d_Md_ballOf_90 hl (k := 2) rfl (g_inc _) (by decide) rfl (fun ls hl => ?_)
              refine lv_aload_n hx hb d_Md_ballOf_93 rfl (lv_at hl 2 rfl) ?_
              refine g_get (ci := 7) (v := .ref (g_ad V 77)) (C := R_Md) (T := F_Md) (N := 35) hx hb hts (fun w h => List.mem_cons_of_mem _ (in_Md w h)) hown hE hG 11 (by decide) rfl rfl 31 (by decide) (hts _ (List.mem_cons_of_mem _ kw_623)) (fun _ h9 => h9) rfl d_Md_ballOf_94 ?_
              refine lv_iload_n hx hb d_Md_ballOf_97 rfl (lv_at hl 3 rfl) ?_
              refine lv_aload_n hx hb d_Md_ballOf_98 rfl (lv_at hl 2 rfl) ?_
              refine g_get (ci := 7) (v := .ref (g_ad V 77)) (C := R_Md) (T := F_Md) (N := 35) hx hb hts (fun w h => List.mem_cons_of_mem _ (in_Md w h)) hown hE hG 11 (by decide) rfl rfl 31 (by decide) (hts _ (List.mem_cons_of_mem _ kw_623)) (fun _ h9 => h9) rfl d_Md_ballOf_99 ?_
              refine lv_iload hx hb d_Md_ballOf_102 (lv_at hl 1 rfl) ?_
              refine g_iald hx hb hE hG 77 (by decide) (0) (rfl) (show _ < 16 by omega) (v := X2.1 77 0) (rfl) d_Md_ballOf_104 ?_
              refine g_iast (x := X2.1 77 0) hx hb hE hG 77 (by decide) (12 + t) (rfl) (show _ < 16 by omega) d_Md_ballOf_105 (fun H locs hG => ?_)
              refine lv_aload_n hx hb d_Md_ballOf_106 rfl (lv_at hl 2 rfl) ?_
              refine g_get (ci := 7) (v := .ref (g_ad V 77)) (C := R_Md) (T := F_Md) (N := 35) hx hb hts (fun w h => List.mem_cons_of_mem _ (in_Md w h)) hown hE hG 11 (by decide) rfl rfl 31 (by decide) (hts _ (List.mem_cons_of_mem _ kw_623)) (fun _ h9 => h9) rfl d_Md_ballOf_107 ?_
              refine lv_iload hx hb d_Md_ballOf_110 (lv_at hl 1 rfl) ?_
              refine lv_aload_n hx hb d_Md_ballOf_112 rfl (lv_at hl 2 rfl) ?_
              refine g_get (ci := 7) (v := .ref (g_ad V 55)) (C := R_Md) (T := F_Md) (N := 35) hx hb hts (fun w h => List.mem_cons_of_mem _ (in_Md w h)) hown hE hG 11 (by decide) rfl rfl 7 (by decide) (hts _ (List.mem_cons_of_mem _ kw_599)) (fun _ h9 => h9) rfl d_Md_ballOf_113 ?_
              refine lv_iconst (v := nI (0)) hx hb d_Md_ballOf_116 (by decide) ?_
              refine g_iald hx hb hE hG 55 (by decide) (0) (rfl) (show _ < 136 by omega) (v := (HS (X.1 kb) 8) 0) ((congrFun (uI_n _ _ (by decide)) 0).trans (congrFun es _)) d_Md_ballOf_117 ?_
              refine lv_iload_n hx hb d_Md_ballOf_118 rfl (lv_at hl 3 rfl) ?_
              refine lv_bipush (v := nI (12)) hx hb d_Md_ballOf_119 (by decide) ?_
              refine lv_isub hx hb d_Md_ballOf_121 ?_
              refine g_topi (y := nI ((12 + t) - 12)) (pk_sub (by omega)) ?_
              refine g_topi (y := nI (t)) (congrArg nI (by omega)) ?_
              refine lv_ishr hx hb d_Md_ballOf_122 ?_
              refine lv_iconst (v := nI (1)) hx hb d_Md_ballOf_123 (by decide) ?_
              refine lv_iand hx hb d_Md_ballOf_124 ?_
              refine lv_iconst (v := nI (1)) hx hb d_Md_ballOf_125 (by decide) ?_
              refine lv_icmp_ne (tgt := 133) hx hb d_Md_ballOf_126 (by decide) (fun c126 => ?_) (fun c126 => ?_)
              · refine lv_iconst (v := nI (1)) hx hb d_Md_ballOf_133 (by decide) ?_
                refine g_iast (x := nI (1)) hx hb hE hG 77 (by decide) (0) (rfl) (show _ < 16 by omega) d_Md_ballOf_134 (fun H locs hG => ?_)
                refine lv_iinc (v := nI (12 + (t + 1))) (lv' := [(3, .int (nI (12 + (t + 1)))), (2, .int (nI (q + 1))), (4, .int (nI (0))), (0, .ref (g_ad V 11))]) hx hb d_Md_ballOf_135 hl (k := 3) rfl (g_inc _) (by decide) rfl (fun ls hl => ?_)
                refine lv_goto (tgt := 38) hx hb d_Md_ballOf_138 (by decide) ?_
                have e1 : blN (HS (X.1 kb) 8) (t + 1) = (sk (HS (X.1 kb) 8) (12 + t) (blN (HS (X.1 kb) 8) t).1 + 1, upd (upd (blN (HS (X.1 kb) 8) t).2 (12 + t) ((blN (HS (X.1 kb) 8) t).2 (jB (HS (X.1 kb) 8) (sk (HS (X.1 kb) 8) (12 + t) (blN (HS (X.1 kb) 8) t).1)))) (jB (HS (X.1 kb) 8) (sk (HS (X.1 kb) 8) (12 + t) (blN (HS (X.1 kb) 8) t).1)) (sgB (HS (X.1 kb) 8) t)) := rfl
                rw [← hq] at e1
                exact ih38 (t + 1) (by omega) (uI (uI X2 77 (upd (X2.1 77) (12 + t) (X2.1 77 0))) 77 (upd ((uI X2 77 (upd (X2.1 77) (12 + t) (X2.1 77 0))).1 77) 0 (nI (1)))) _ _ ls (fr_i (fr_i hF2 _ (by decide)) _ (by decide)) ((uI_n _ _ (by decide)).trans ((uI_n _ _ (by decide)).trans es)) i3 (by rw [e1, uI_s, uI_s, hC2]; unfold jB sgB; rw [if_neg (show ¬ q < 33 by omega), if_neg c126]) hG (by rw [e1]; exact lv_sub hl [3, 1, 0] rfl)
              · refine lv_iconst (v := -1) hx hb d_Md_ballOf_129 (by decide) ?_
                refine lv_goto (tgt := 134) hx hb d_Md_ballOf_130 (by decide) ?_
                refine g_iast (x := -1) hx hb hE hG 77 (by decide) (0) (rfl) (show _ < 16 by omega) d_Md_ballOf_134 (fun H locs hG => ?_)
                refine lv_iinc (v := nI (12 + (t + 1))) (lv' := [(3, .int (nI (12 + (t + 1)))), (2, .int (nI (q + 1))), (4, .int (nI (0))), (0, .ref (g_ad V 11))]) hx hb d_Md_ballOf_135 hl (k := 3) rfl (g_inc _) (by decide) rfl (fun ls hl => ?_)
                refine lv_goto (tgt := 38) hx hb d_Md_ballOf_138 (by decide) ?_
                have e1 : blN (HS (X.1 kb) 8) (t + 1) = (sk (HS (X.1 kb) 8) (12 + t) (blN (HS (X.1 kb) 8) t).1 + 1, upd (upd (blN (HS (X.1 kb) 8) t).2 (12 + t) ((blN (HS (X.1 kb) 8) t).2 (jB (HS (X.1 kb) 8) (sk (HS (X.1 kb) 8) (12 + t) (blN (HS (X.1 kb) 8) t).1)))) (jB (HS (X.1 kb) 8) (sk (HS (X.1 kb) 8) (12 + t) (blN (HS (X.1 kb) 8) t).1)) (sgB (HS (X.1 kb) 8) t)) := rfl
                rw [← hq] at e1
                exact ih38 (t + 1) (by omega) (uI (uI X2 77 (upd (X2.1 77) (12 + t) (X2.1 77 0))) 77 (upd ((uI X2 77 (upd (X2.1 77) (12 + t) (X2.1 77 0))).1 77) 0 (-1))) _ _ ls (fr_i (fr_i hF2 _ (by decide)) _ (by decide)) ((uI_n _ _ (by decide)).trans ((uI_n _ _ (by decide)).trans es)) i3 (by rw [e1, uI_s, uI_s, hC2]; unfold jB sgB; rw [if_neg (show ¬ q < 33 by omega), if_pos c126]) hG (by rw [e1]; exact lv_sub hl [3, 1, 0] rfl)
            · have c72 := (g_geN (x := q) (y := 33) (by omega) (by omega)).mp c72
              refine lv_aload_n hx hb d_Md_ballOf_75 rfl (lv_at hl 0 rfl) ?_
              refine g_get (ci := 7) (v := .ref (g_ad V 55)) (C := R_Md) (T := F_Md) (N := 35) hx hb hts (fun w h => List.mem_cons_of_mem _ (in_Md w h)) hown hE hG 11 (by decide) rfl rfl 7 (by decide) (hts _ (List.mem_cons_of_mem _ kw_599)) (fun _ h9 => h9) rfl d_Md_ballOf_76 ?_
              refine lv_iload_n hx hb d_Md_ballOf_79 rfl (lv_at hl 1 rfl) ?_
              refine g_iald hx hb hE hG 55 (by decide) (q) (rfl) (show _ < 136 by omega) (v := (HS (X.1 kb) 8) q) (congrFun es _) d_Md_ballOf_80 ?_
              refine lv_bipush (v := nI (16)) hx hb d_Md_ballOf_81 (by decide) ?_
              refine lv_irem hx hb d_Md_ballOf_83 (by decide) ?_
              refine g_topi (y := nI (lo4 ((HS (X.1 kb) 8) q))) (lo4_rem (HS_isB _ _ _)) ?_
              refine lv_goto (tgt := 88) hx hb d_Md_ballOf_84 (by decide) ?_
              refine lv_istore (lv' := [(4, .int (nI (lo4 ((HS (X.1 kb) 8) q)))), (0, .ref (g_ad V 11)), (2, .int (nI (q))), (3, .int (nI (12 + t)))]) hx hb d_Md_ballOf_88 hl (by decide) rfl (fun ls hl => ?_)
              refine lv_iinc (v := nI (q + 1)) (lv' := [(2, .int (nI (q + 1))), (4, .int (nI (lo4 ((HS (X.1 kb) 8) q)))), (0, .ref (g_ad V 11)), (3, .int (nI (12 + t)))]) hx hb d_Md_ballOf_90 hl (k := 2) rfl (g_inc _) (by decide) rfl (fun ls hl => ?_)
              refine lv_aload_n hx hb d_Md_ballOf_93 rfl (lv_at hl 2 rfl) ?_
              refine g_get (ci := 7) (v := .ref (g_ad V 77)) (C := R_Md) (T := F_Md) (N := 35) hx hb hts (fun w h => List.mem_cons_of_mem _ (in_Md w h)) hown hE hG 11 (by decide) rfl rfl 31 (by decide) (hts _ (List.mem_cons_of_mem _ kw_623)) (fun _ h9 => h9) rfl d_Md_ballOf_94 ?_
              refine lv_iload_n hx hb d_Md_ballOf_97 rfl (lv_at hl 3 rfl) ?_
              refine lv_aload_n hx hb d_Md_ballOf_98 rfl (lv_at hl 2 rfl) ?_
              refine g_get (ci := 7) (v := .ref (g_ad V 77)) (C := R_Md) (T := F_Md) (N := 35) hx hb hts (fun w h => List.mem_cons_of_mem _ (in_Md w h)) hown hE hG 11 (by decide) rfl rfl 31 (by decide) (hts _ (List.mem_cons_of_mem _ kw_623)) (fun _ h9 => h9) rfl d_Md_ballOf_99 ?_
              refine lv_iload hx hb d_Md_ballOf_102 (lv_at hl 1 rfl) ?_
              refine g_iald hx hb hE hG 77 (by decide) (lo4 ((HS (X.1 kb) 8) q)) (rfl) (show _ < 16 by omega) (v := X2.1 77 (lo4 ((HS (X.1 kb) 8) q))) (rfl) d_Md_ballOf_104 ?_
              refine g_iast (x := X2.1 77 (lo4 ((HS (X.1 kb) 8) q))) hx hb hE hG 77 (by decide) (12 + t) (rfl) (show _ < 16 by omega) d_Md_ballOf_105 (fun H locs hG => ?_)
              refine lv_aload_n hx hb d_Md_ballOf_106 rfl (lv_at hl 2 rfl) ?_
              refine g_get (ci := 7) (v := .ref (g_ad V 77)) (C := R_Md) (T := F_Md) (N := 35) hx hb hts (fun w h => List.mem_cons_of_mem _ (in_Md w h)) hown hE hG 11 (by decide) rfl rfl 31 (by decide) (hts _ (List.mem_cons_of_mem _ kw_623)) (fun _ h9 => h9) rfl d_Md_ballOf_107 ?_
              refine lv_iload hx hb d_Md_ballOf_110 (lv_at hl 1 rfl) ?_
              refine lv_aload_n hx hb d_Md_ballOf_112 rfl (lv_at hl 2 rfl) ?_
              refine g_get (ci := 7) (v := .ref (g_ad V 55)) (C := R_Md) (T := F_Md) (N := 35) hx hb hts (fun w h => List.mem_cons_of_mem _ (in_Md w h)) hown hE hG 11 (by decide) rfl rfl 7 (by decide) (hts _ (List.mem_cons_of_mem _ kw_599)) (fun _ h9 => h9) rfl d_Md_ballOf_113 ?_
              refine lv_iconst (v := nI (0)) hx hb d_Md_ballOf_116 (by decide) ?_
              refine g_iald hx hb hE hG 55 (by decide) (0) (rfl) (show _ < 136 by omega) (v := (HS (X.1 kb) 8) 0) ((congrFun (uI_n _ _ (by decide)) 0).trans (congrFun es _)) d_Md_ballOf_117 ?_
              refine lv_iload_n hx hb d_Md_ballOf_118 rfl (lv_at hl 3 rfl) ?_
              refine lv_bipush (v := nI (12)) hx hb d_Md_ballOf_119 (by decide) ?_
              refine lv_isub hx hb d_Md_ballOf_121 ?_
              refine g_topi (y := nI ((12 + t) - 12)) (pk_sub (by omega)) ?_
              refine g_topi (y := nI (t)) (congrArg nI (by omega)) ?_
              refine lv_ishr hx hb d_Md_ballOf_122 ?_
              refine lv_iconst (v := nI (1)) hx hb d_Md_ballOf_123 (by decide) ?_
              refine lv_iand hx hb d_Md_ballOf_124 ?_
              refine lv_iconst (v := nI (1)) hx hb d_Md_ballOf_125 (by decide) ?_
              refine lv_icmp_ne (tgt := 133) hx hb d_Md_ballOf_126 (by decide) (fun c126 => ?_) (fun c126 => ?_)
              · refine lv_iconst (v := nI (1)) hx hb d_Md_ballOf_133 (by decide) ?_
                refine g_iast (x := nI (1)) hx hb hE hG 77 (by decide) (lo4 ((HS (X.1 kb) 8) q)) (rfl) (show _ < 16 by omega) d_Md_ballOf_134 (fun H locs hG => ?_)
                refine lv_iinc (v := nI (12 + (t + 1))) (lv' := [(3, .int (nI (12 + (t + 1)))), (2, .int (nI (q + 1))), (4, .int (nI (lo4 ((HS (X.1 kb) 8) q)))), (0, .ref (g_ad V 11))]) hx hb d_Md_ballOf_135 hl (k := 3) rfl (g_inc _) (by decide) rfl (fun ls hl => ?_)
                refine lv_goto (tgt := 38) hx hb d_Md_ballOf_138 (by decide) ?_
                have e1 : blN (HS (X.1 kb) 8) (t + 1) = (sk (HS (X.1 kb) 8) (12 + t) (blN (HS (X.1 kb) 8) t).1 + 1, upd (upd (blN (HS (X.1 kb) 8) t).2 (12 + t) ((blN (HS (X.1 kb) 8) t).2 (jB (HS (X.1 kb) 8) (sk (HS (X.1 kb) 8) (12 + t) (blN (HS (X.1 kb) 8) t).1)))) (jB (HS (X.1 kb) 8) (sk (HS (X.1 kb) 8) (12 + t) (blN (HS (X.1 kb) 8) t).1)) (sgB (HS (X.1 kb) 8) t)) := rfl
                rw [← hq] at e1
                exact ih38 (t + 1) (by omega) (uI (uI X2 77 (upd (X2.1 77) (12 + t) (X2.1 77 (lo4 ((HS (X.1 kb) 8) q))))) 77 (upd ((uI X2 77 (upd (X2.1 77) (12 + t) (X2.1 77 (lo4 ((HS (X.1 kb) 8) q))))).1 77) (lo4 ((HS (X.1 kb) 8) q)) (nI (1)))) _ _ ls (fr_i (fr_i hF2 _ (by decide)) _ (by decide)) ((uI_n _ _ (by decide)).trans ((uI_n _ _ (by decide)).trans es)) i3 (by rw [e1, uI_s, uI_s, hC2]; unfold jB sgB; rw [if_pos (show q < 33 by omega), if_neg c126]) hG (by rw [e1]; exact lv_sub hl [3, 1, 0] rfl)
              · refine lv_iconst (v := -1) hx hb d_Md_ballOf_129 (by decide) ?_
                refine lv_goto (tgt := 134) hx hb d_Md_ballOf_130 (by decide) ?_
                refine g_iast (x := -1) hx hb hE hG 77 (by decide) (lo4 ((HS (X.1 kb) 8) q)) (rfl) (show _ < 16 by omega) d_Md_ballOf_134 (fun H locs hG => ?_)
                refine lv_iinc (v := nI (12 + (t + 1))) (lv' := [(3, .int (nI (12 + (t + 1)))), (2, .int (nI (q + 1))), (4, .int (nI (lo4 ((HS (X.1 kb) 8) q)))), (0, .ref (g_ad V 11))]) hx hb d_Md_ballOf_135 hl (k := 3) rfl (g_inc _) (by decide) rfl (fun ls hl => ?_)
                refine lv_goto (tgt := 38) hx hb d_Md_ballOf_138 (by decide) ?_
                have e1 : blN (HS (X.1 kb) 8) (t + 1) = (sk (HS (X.1 kb) 8) (12 + t) (blN (HS (X.1 kb) 8) t).1 + 1, upd (upd (blN (HS (X.1 kb) 8) t).2 (12 + t) ((blN (HS (X.1 kb) 8) t).2 (jB (HS (X.1 kb) 8) (sk (HS (X.1 kb) 8) (12 + t) (blN (HS (X.1 kb) 8) t).1)))) (jB (HS (X.1 kb) 8) (sk (HS (X.1 kb) 8) (12 + t) (blN (HS (X.1 kb) 8) t).1)) (sgB (HS (X.1 kb) 8) t)) := rfl
                rw [← hq] at e1
                exact ih38 (t + 1) (by omega) (uI (uI X2 77 (upd (X2.1 77) (12 + t) (X2.1 77 (lo4 ((HS (X.1 kb) 8) q))))) 77 (upd ((uI X2 77 (upd (X2.1 77) (12 + t) (X2.1 77 (lo4 ((HS (X.1 kb) 8) q))))).1 77) (lo4 ((HS (X.1 kb) 8) q)) (-1))) _ _ ls (fr_i (fr_i hF2 _ (by decide)) _ (by decide)) ((uI_n _ _ (by decide)).trans ((uI_n _ _ (by decide)).trans es)) i3 (by rw [e1, uI_s, uI_s, hC2]; unfold jB sgB; rw [if_pos (show q < 33 by omega), if_pos c126]) hG (by rw [e1]; exact lv_sub hl [3, 1, 0] rfl)
          have K44 : ∀ (fu q : Nat), q + fu = 40 → ∀ (ls : Array Slot), (sk (HS (X.1 kb) 8) (12 + t) q = (sk (HS (X.1 kb) 8) (12 + t) (blN (HS (X.1 kb) 8) t).1)) → lv_has ls 5 [(0, .ref (g_ad V 11)), (2, .int (nI (q))), (3, .int (nI (12 + t)))] → W p l e ({ frames := 3, cells := 0, slots := 0, locals := 68 } : Room) s m ([.ref (g_ad V 11), .ref (g_ad V kb)] : List Value).toArray below meth c H locs 0 0 (MQ below (g_Qv V (fun X1 : Mm => X1.1 77 = blP (HS (X.1 kb) 8) ∧ X1.2.2 3 = nI 0 ∧ fr X X1 [54, 55, 77] [13, 14, 15] [3])) ([.ref (g_ad V 11), .ref (g_ad V kb)] : List Value).toArray s 0 0 (g_A V)) (F0 m 44 ls []) := by
            intro fu
            induction fu with
            | zero =>
              intro q hin44 ls hs hl
              have hi44 : 40 = q := by omega
              subst hi44
              refine lv_iload_n hx hb d_Md_ballOf_44 rfl (lv_at hl 1 rfl) ?_
              refine lv_bipush (v := nI (33)) hx hb d_Md_ballOf_45 (by decide) ?_
              refine lv_icmp_ge (tgt := 69) hx hb d_Md_ballOf_47 (by decide) (fun _ => ?_) (fun q => absurd ((g_geN (x := 40) (y := 33) (by omega) (by omega)).mp q) (by omega))
              exact K69 40 ls ((sk_out (by omega)).symm.trans hs) (by omega) (lv_sub hl [0, 1, 2] rfl)
            | succ fu ih44 =>
              intro q hin44 ls hs hl
              have hi44 : q < 40 := by omega
              have hj4 := lo4_lt ((HS (X.1 kb) 8) q)
              refine lv_iload_n hx hb d_Md_ballOf_44 rfl (lv_at hl 1 rfl) ?_
              refine lv_bipush (v := nI (33)) hx hb d_Md_ballOf_45 (by decide) ?_
              refine lv_icmp_ge (tgt := 69) hx hb d_Md_ballOf_47 (by decide) (fun c47 => ?_) (fun c47 => ?_)
              · have c47 := (g_ge (x := q) (y := 33) (by omega) (by omega)).mp c47
                exact K69 q ls ((sk_out (fun z => absurd z.1 (by omega))).symm.trans hs) (by omega) (lv_sub hl [0, 1, 2] rfl)
              · have c47 := (g_geN (x := q) (y := 33) (by omega) (by omega)).mp c47
                refine lv_aload_n hx hb d_Md_ballOf_50 rfl (lv_at hl 0 rfl) ?_
                refine g_get (ci := 7) (v := .ref (g_ad V 55)) (C := R_Md) (T := F_Md) (N := 35) hx hb hts (fun w h => List.mem_cons_of_mem _ (in_Md w h)) hown hE hG 11 (by decide) rfl rfl 7 (by decide) (hts _ (List.mem_cons_of_mem _ kw_599)) (fun _ h9 => h9) rfl d_Md_ballOf_51 ?_
                refine lv_iload_n hx hb d_Md_ballOf_54 rfl (lv_at hl 1 rfl) ?_
                refine g_iald hx hb hE hG 55 (by decide) (q) (rfl) (show _ < 136 by omega) (v := (HS (X.1 kb) 8) q) (congrFun es _) d_Md_ballOf_55 ?_
                refine lv_bipush (v := nI (16)) hx hb d_Md_ballOf_56 (by decide) ?_
                refine lv_irem hx hb d_Md_ballOf_58 (by decide) ?_
                refine g_topi (y := nI (lo4 ((HS (X.1 kb) 8) q))) (lo4_rem (HS_isB _ _ _)) ?_
                refine lv_iload_n hx hb d_Md_ballOf_59 rfl (lv_at hl 2 rfl) ?_
                refine lv_icmp_le (tgt := 69) hx hb d_Md_ballOf_60 (by decide) (fun c60 => ?_) (fun c60 => ?_)
                · have c60 := (g_le (x := lo4 ((HS (X.1 kb) 8) q)) (y := 12 + t) (by omega) (by omega)).mp c60
                  exact K69 q ls ((sk_out (fun z => absurd z.2 (by omega))).symm.trans hs) (by omega) (lv_sub hl [0, 1, 2] rfl)
                · have c60 := (g_leN (x := lo4 ((HS (X.1 kb) 8) q)) (y := 12 + t) (by omega) (by omega)).mp c60
                  refine lv_iinc (v := nI (q + 1)) (lv' := [(2, .int (nI (q + 1))), (0, .ref (g_ad V 11)), (3, .int (nI (12 + t)))]) hx hb d_Md_ballOf_63 hl (k := 1) rfl (g_inc _) (by decide) rfl (fun ls hl => ?_)
                  refine lv_goto (tgt := 44) hx hb d_Md_ballOf_66 (by decide) ?_
                  exact ih44 (q + 1) (by omega) ls ((sk_go c47 c60).symm.trans hs) (lv_sub hl [1, 0, 2] rfl)
          exact K44 (40 - (blN (HS (X.1 kb) 8) t).1) (blN (HS (X.1 kb) 8) t).1 (by omega) ls rfl (lv_sub hl [0, 1, 2] rfl)
      exact K38 (4 - 0) 0 (by omega) (uI X1 77 (fun _ => nI 0)) _ _ ls (fr_i hF _ (by decide)) ((uI_n _ _ (by decide)).trans h55) h3 (uI_s _ _ _) hG (lv_sub hl [2, 1, 0] rfl)
    | succ fu ih14 =>
      intro z hin14 X1 H locs ls hF h55 h3 hC hG hl
      have hi14 : z < 16 := by omega
      refine lv_iload_n hx hb d_Md_ballOf_14 rfl (lv_at hl 2 rfl) ?_
      refine lv_bipush (v := nI (16)) hx hb d_Md_ballOf_15 (by decide) ?_
      refine lv_icmp_ge (tgt := 33) hx hb d_Md_ballOf_17 (by decide) (fun q => absurd ((g_ge (x := z) (y := 16) (by omega) (by omega)).mp q) (by omega)) (fun _ => ?_)
      refine lv_aload_n hx hb d_Md_ballOf_20 rfl (lv_at hl 0 rfl) ?_
      refine g_get (ci := 7) (v := .ref (g_ad V 77)) (C := R_Md) (T := F_Md) (N := 35) hx hb hts (fun w h => List.mem_cons_of_mem _ (in_Md w h)) hown hE hG 11 (by decide) rfl rfl 31 (by decide) (hts _ (List.mem_cons_of_mem _ kw_623)) (fun _ h9 => h9) rfl d_Md_ballOf_21 ?_
      refine lv_iload_n hx hb d_Md_ballOf_24 rfl (lv_at hl 2 rfl) ?_
      refine lv_iconst (v := nI (0)) hx hb d_Md_ballOf_25 (by decide) ?_
      refine g_iast (x := nI (0)) hx hb hE hG 77 (by decide) (z) (rfl) (show _ < 16 by omega) d_Md_ballOf_26 (fun H locs hG => ?_)
      refine lv_iinc (v := nI (z + 1)) (lv' := [(2, .int (nI (z + 1))), (0, .ref (g_ad V 11)), (1, .ref (g_ad V kb))]) hx hb d_Md_ballOf_27 hl (k := 2) rfl (g_inc _) (by decide) rfl (fun ls hl => ?_)
      refine lv_goto (tgt := 14) hx hb d_Md_ballOf_30 (by decide) ?_
      exact ih14 (z + 1) (by omega) (uI X1 77 (upd (X1.1 77) z (nI (0)))) _ _ ls (fr_i hF _ (by decide)) ((uI_n _ _ (by decide)).trans h55) h3 (by rw [uI_s, hC]; exact segI_s (fun _ => nI 0) _ _) hG (lv_sub hl [1, 2, 0] rfl)
  have f0z : X0.1 77 = X.1 77 := by rw [q0.2.2.1 77 (by decide), qf.2.2.1 77 (by decide)]
  exact K14 (16 - 0) 0 (by omega) X0 _ _ ls f0 q0.1 q0.2.1 ((f0z).trans (segI_0 _ _).symm) hG (lv_sub hl [1, 2, 0] rfl)

set_option maxHeartbeats 4000000 in
set_option maxRecDepth 100000 in
theorem c_m_expand_56 (l : Launch) (V : Ev) (X : Mm) (hT : X.2.2 3 = nI 0) (hTu : X.1 53 = rotT) (hEx : X.2.1 12 = rcT) : Met l y_Md_expand (Cond.code y_Md_expand b_Md_expand 4 none :: WA) ({ frames := 4, cells := 0, slots := 0, locals := 93 } : Room) (g_Pc V X [.ref (g_ad V 11), .ref (g_ad V 56), .ref (g_ad V 60)]) (g_Qv V (fun X1 : Mm => X1.1 60 = matP (X.1 56) ∧ X1.2.2 3 = nI 0 ∧ fr X X1 [54, 55, 60] [13, 14, 15] [3])) 0 0 (g_A V) := by
  refine g_met (by decide) (Nat.le_of_ble_eq_true rfl) ?_
  intro p e s m below meth c hx hb hr hml hown hts hlocks hE hG ls hl
  have hl : lv_has ls 4 [(0, .ref (g_ad V 11)), (1, .ref (g_ad V 56)), (2, .ref (g_ad V 60))] := hl
  have hown : s.vm.findClass R_Md = some m.cls := hown
  refine lv_iconst (v := nI (0)) hx hb d_Md_expand_0 (by decide) ?_
  refine lv_istore_n (lv' := [(3, .int (nI (0))), (0, .ref (g_ad V 11)), (1, .ref (g_ad V 56)), (2, .ref (g_ad V 60))]) hx hb d_Md_expand_1 rfl hl (by decide) rfl (fun ls hl => ?_)
  have K2 : ∀ (fu i : Nat), i + fu = 4 → ∀ (X1 : Mm) (H : Heap) (locs : List Loc), ∀ (ls : Array Slot), (fr X X1 [54, 55, 60] [13, 14, 15] [3]) → (X1.2.2 3 = nI 0) → (X1.1 60 = segI (matP (X.1 56)) (X.1 60) (16 * i)) → g_st V X1 s.heap H locs → lv_has ls 4 [(0, .ref (g_ad V 11)), (1, .ref (g_ad V 56)), (2, .ref (g_ad V 60)), (3, .int (nI (i)))] → W p l e ({ frames := 4, cells := 0, slots := 0, locals := 93 } : Room) s m ([.ref (g_ad V 11), .ref (g_ad V 56), .ref (g_ad V 60)] : List Value).toArray below meth c H locs 0 0 (MQ below (g_Qv V (fun X1 : Mm => X1.1 60 = matP (X.1 56) ∧ X1.2.2 3 = nI 0 ∧ fr X X1 [54, 55, 60] [13, 14, 15] [3])) ([.ref (g_ad V 11), .ref (g_ad V 56), .ref (g_ad V 60)] : List Value).toArray s 0 0 (g_A V)) (F0 m 2 ls []) := by
    intro fu
    induction fu with
    | zero =>
      intro i hin2 X1 H locs ls hF h3 hC hG hl
      have hi2 : 4 = i := by omega
      subst hi2
      refine lv_iload_n hx hb d_Md_expand_2 rfl (lv_at hl 3 rfl) ?_
      refine lv_iconst (v := nI (4)) hx hb d_Md_expand_3 (by decide) ?_
      refine lv_icmp_ge (tgt := 35) hx hb d_Md_expand_4 (by decide) (fun _ => ?_) (fun q => absurd ((g_geN (x := 4) (y := 4) (by omega) (by omega)).mp q) (by omega))
      have hG := g_xi hG 60 (by decide) (matP (X.1 56)) (fun j hj => by rw [hC]; exact segI_e _ _ hj)
      exact g_vret hx hb hr hlocks hE hG (⟨uI_s _ _ _, h3, fr_i hF _ (by decide)⟩) d_Md_expand_35
    | succ fu ih2 =>
      intro i hin2 X1 H locs ls hF h3 hC hG hl
      have hi2 : i < 4 := by omega
      refine lv_iload_n hx hb d_Md_expand_2 rfl (lv_at hl 3 rfl) ?_
      refine lv_iconst (v := nI (4)) hx hb d_Md_expand_3 (by decide) ?_
      refine lv_icmp_ge (tgt := 35) hx hb d_Md_expand_4 (by decide) (fun q => absurd ((g_ge (x := i) (y := 4) (by omega) (by omega)).mp q) (by omega)) (fun _ => ?_)
      refine lv_aload_n hx hb d_Md_expand_7 rfl (lv_at hl 0 rfl) ?_
      refine lv_aload_n hx hb d_Md_expand_8 rfl (lv_at hl 1 rfl) ?_
      refine lv_iconst (v := nI (0)) hx hb d_Md_expand_9 (by decide) ?_
      refine lv_bipush (v := nI (8)) hx hb d_Md_expand_10 (by decide) ?_
      refine g_callv (va_runV (As := [.ref (g_ad V 56), .int (nI (0)), .int (nI (8))]) (rest := []) ⟨hx, hb, hml, hown, hts⟩ (c_m_feedAll l V X1 56 (by decide) (by decide) 0 8 (by decide) (ctB (X.1 56) 8 (nI i)) 0 (by decide) h3 (fun j hj => absurd hj (Nat.not_lt_zero j)) (fun j hj => by rw [hF.1 56 (by decide), Nat.zero_add]; exact (ctB_lo _ _ hj).symm)) (cwV 3 hts (g_goodV kw_738 kw_735 kw_737 kp_23 kw_8) rfl rfl rfl (by decide +kernel) ⟨Nat.le_of_ble_eq_true rfl, Nat.le_of_ble_eq_true rfl⟩) (g_preV (k0 := 11) (ci := 7) hE hG (by decide) rfl rfl) rfl rfl hl.1 rfl (lv_room (Nat.le_of_ble_eq_true rfl)) d_Md_expand_12 ⟨Nat.le_refl 0, Nat.le_refl 0⟩) hG (fun Xf H locs qf hG => ?_)
      refine lv_aload_n hx hb d_Md_expand_15 rfl (lv_at hl 0 rfl) ?_
      refine lv_iload_n hx hb d_Md_expand_16 rfl (lv_at hl 3 rfl) ?_
      refine g_topi (y := ctB (X.1 56) 8 (nI i) (0 + 8)) ((ctB_hi _ _ _).symm) ?_
      refine g_callv (va_runV (As := [.int (ctB (X.1 56) 8 (nI i) (0 + 8))]) (rest := []) ⟨hx, hb, hml, hown, hts⟩ (c_m_feed l V Xf (ctB (X.1 56) 8 (nI i)) (0 + 8) (by decide) qf.1 qf.2.1) (cwV 1 hts (g_goodV kw_710 kw_707 kw_709 kp_17 kw_8) rfl rfl rfl (by decide +kernel) ⟨Nat.le_of_ble_eq_true rfl, Nat.le_of_ble_eq_true rfl⟩) (g_preV (k0 := 11) (ci := 7) hE hG (by decide) rfl rfl) rfl rfl hl.1 rfl (lv_room (Nat.le_of_ble_eq_true rfl)) d_Md_expand_17 ⟨Nat.le_refl 0, Nat.le_refl 0⟩) hG (fun Xg H locs qg hG => ?_)
      refine lv_aload_n hx hb d_Md_expand_20 rfl (lv_at hl 0 rfl) ?_
      refine lv_aload_n hx hb d_Md_expand_21 rfl (lv_at hl 2 rfl) ?_
      refine lv_bipush (v := nI (16)) hx hb d_Md_expand_22 (by decide) ?_
      refine lv_iload_n hx hb d_Md_expand_24 rfl (lv_at hl 3 rfl) ?_
      refine lv_imul hx hb d_Md_expand_25 ?_
      refine g_topi (y := nI (16 * i)) (pk_mul _ _) ?_
      refine g_callv (va_runV (As := [.ref (g_ad V 60), .int (nI (16 * i))]) (rest := []) ⟨hx, hb, hml, hown, hts⟩ (c_m_uniform l V Xg 60 (by decide) (by decide) (16 * i) (by show 16 * i + 16 ≤ 64; omega) (ctB (X.1 56) 8 (nI i)) (0 + 8 + 1) (by decide) qg.1 qg.2.1 ((qg.2.2.1 53 (by decide)).trans ((qf.2.2.1 53 (by decide)).trans ((hF.1 53 (by decide)).trans hTu))) ((qg.2.2.2.1 12 (fun q => by cases q)).trans ((qf.2.2.2.1 12 (fun q => by cases q)).trans ((hF.2.1 12 (by decide)).trans hEx)))) (cwV 2 hts (g_goodV kw_742 kw_739 kw_741 kp_24 kw_8) rfl rfl rfl (by decide +kernel) ⟨Nat.le_of_ble_eq_true rfl, Nat.le_of_ble_eq_true rfl⟩) (g_preV (k0 := 11) (ci := 7) hE hG (by decide) rfl rfl) rfl rfl hl.1 rfl (lv_room (Nat.le_of_ble_eq_true rfl)) d_Md_expand_26 ⟨Nat.le_refl 0, Nat.le_refl 0⟩) hG (fun Xu H locs qu hG => ?_)
      refine lv_iinc (v := nI (i + 1)) (lv' := [(3, .int (nI (i + 1))), (0, .ref (g_ad V 11)), (1, .ref (g_ad V 56)), (2, .ref (g_ad V 60))]) hx hb d_Md_expand_29 hl (k := 3) rfl (g_inc _) (by decide) rfl (fun ls hl => ?_)
      refine lv_goto (tgt := 2) hx hb d_Md_expand_32 (by decide) ?_
      exact ih2 (i + 1) (by omega) Xu _ _ ls (fr_tr2 (fr_tr2 (fr_tr2 hF qf.2.2 (by decide) (by decide) (by decide)) qg.2.2 (by decide) (by decide) (by decide)) qu.2.2.2 (by decide) (by decide) (by decide)) qu.2.2.1 (by rw [qu.1, qg.2.2.1 60 (by decide), qf.2.2.1 60 (by decide), hC, show 16 * (i + 1) = 16 * i + 16 by omega]; exact seg_segI (fun j hj => matP_at _ hj)) hG (lv_sub hl [1, 2, 3, 0] rfl)
  exact K2 (4 - 0) 0 (by omega) X _ _ ls (fr_rf X _ _ _) hT (segI_0 _ _).symm hG (lv_sub hl [1, 2, 3, 0] rfl)

set_option maxHeartbeats 4000000 in
set_option maxRecDepth 100000 in
theorem c_m_expand_67 (l : Launch) (V : Ev) (X : Mm) (hT : X.2.2 3 = nI 0) (hTu : X.1 53 = rotT) (hEx : X.2.1 12 = rcT) : Met l y_Md_expand (Cond.code y_Md_expand b_Md_expand 4 none :: WA) ({ frames := 4, cells := 0, slots := 0, locals := 93 } : Room) (g_Pc V X [.ref (g_ad V 11), .ref (g_ad V 67), .ref (g_ad V 61)]) (g_Qv V (fun X1 : Mm => X1.1 61 = matP (X.1 67) ∧ X1.2.2 3 = nI 0 ∧ fr X X1 [54, 55, 61] [13, 14, 15] [3])) 0 0 (g_A V) := by
  refine g_met (by decide) (Nat.le_of_ble_eq_true rfl) ?_
  intro p e s m below meth c hx hb hr hml hown hts hlocks hE hG ls hl
  have hl : lv_has ls 4 [(0, .ref (g_ad V 11)), (1, .ref (g_ad V 67)), (2, .ref (g_ad V 61))] := hl
  have hown : s.vm.findClass R_Md = some m.cls := hown
  refine lv_iconst (v := nI (0)) hx hb d_Md_expand_0 (by decide) ?_
  refine lv_istore_n (lv' := [(3, .int (nI (0))), (0, .ref (g_ad V 11)), (1, .ref (g_ad V 67)), (2, .ref (g_ad V 61))]) hx hb d_Md_expand_1 rfl hl (by decide) rfl (fun ls hl => ?_)
  have K2 : ∀ (fu i : Nat), i + fu = 4 → ∀ (X1 : Mm) (H : Heap) (locs : List Loc), ∀ (ls : Array Slot), (fr X X1 [54, 55, 61] [13, 14, 15] [3]) → (X1.2.2 3 = nI 0) → (X1.1 61 = segI (matP (X.1 67)) (X.1 61) (16 * i)) → g_st V X1 s.heap H locs → lv_has ls 4 [(0, .ref (g_ad V 11)), (1, .ref (g_ad V 67)), (2, .ref (g_ad V 61)), (3, .int (nI (i)))] → W p l e ({ frames := 4, cells := 0, slots := 0, locals := 93 } : Room) s m ([.ref (g_ad V 11), .ref (g_ad V 67), .ref (g_ad V 61)] : List Value).toArray below meth c H locs 0 0 (MQ below (g_Qv V (fun X1 : Mm => X1.1 61 = matP (X.1 67) ∧ X1.2.2 3 = nI 0 ∧ fr X X1 [54, 55, 61] [13, 14, 15] [3])) ([.ref (g_ad V 11), .ref (g_ad V 67), .ref (g_ad V 61)] : List Value).toArray s 0 0 (g_A V)) (F0 m 2 ls []) := by
    intro fu
    induction fu with
    | zero =>
      intro i hin2 X1 H locs ls hF h3 hC hG hl
      have hi2 : 4 = i := by omega
      subst hi2
      refine lv_iload_n hx hb d_Md_expand_2 rfl (lv_at hl 3 rfl) ?_
      refine lv_iconst (v := nI (4)) hx hb d_Md_expand_3 (by decide) ?_
      refine lv_icmp_ge (tgt := 35) hx hb d_Md_expand_4 (by decide) (fun _ => ?_) (fun q => absurd ((g_geN (x := 4) (y := 4) (by omega) (by omega)).mp q) (by omega))
      have hG := g_xi hG 61 (by decide) (matP (X.1 67)) (fun j hj => by rw [hC]; exact segI_e _ _ hj)
      exact g_vret hx hb hr hlocks hE hG (⟨uI_s _ _ _, h3, fr_i hF _ (by decide)⟩) d_Md_expand_35
    | succ fu ih2 =>
      intro i hin2 X1 H locs ls hF h3 hC hG hl
      have hi2 : i < 4 := by omega
      refine lv_iload_n hx hb d_Md_expand_2 rfl (lv_at hl 3 rfl) ?_
      refine lv_iconst (v := nI (4)) hx hb d_Md_expand_3 (by decide) ?_
      refine lv_icmp_ge (tgt := 35) hx hb d_Md_expand_4 (by decide) (fun q => absurd ((g_ge (x := i) (y := 4) (by omega) (by omega)).mp q) (by omega)) (fun _ => ?_)
      refine lv_aload_n hx hb d_Md_expand_7 rfl (lv_at hl 0 rfl) ?_
      refine lv_aload_n hx hb d_Md_expand_8 rfl (lv_at hl 1 rfl) ?_
      refine lv_iconst (v := nI (0)) hx hb d_Md_expand_9 (by decide) ?_
      refine lv_bipush (v := nI (8)) hx hb d_Md_expand_10 (by decide) ?_
      refine g_callv (va_runV (As := [.ref (g_ad V 67), .int (nI (0)), .int (nI (8))]) (rest := []) ⟨hx, hb, hml, hown, hts⟩ (c_m_feedAll l V X1 67 (by decide) (by decide) 0 8 (by decide) (ctB (X.1 67) 8 (nI i)) 0 (by decide) h3 (fun j hj => absurd hj (Nat.not_lt_zero j)) (fun j hj => by rw [hF.1 67 (by decide), Nat.zero_add]; exact (ctB_lo _ _ hj).symm)) (cwV 3 hts (g_goodV kw_738 kw_735 kw_737 kp_23 kw_8) rfl rfl rfl (by decide +kernel) ⟨Nat.le_of_ble_eq_true rfl, Nat.le_of_ble_eq_true rfl⟩) (g_preV (k0 := 11) (ci := 7) hE hG (by decide) rfl rfl) rfl rfl hl.1 rfl (lv_room (Nat.le_of_ble_eq_true rfl)) d_Md_expand_12 ⟨Nat.le_refl 0, Nat.le_refl 0⟩) hG (fun Xf H locs qf hG => ?_)
      refine lv_aload_n hx hb d_Md_expand_15 rfl (lv_at hl 0 rfl) ?_
      refine lv_iload_n hx hb d_Md_expand_16 rfl (lv_at hl 3 rfl) ?_
      refine g_topi (y := ctB (X.1 67) 8 (nI i) (0 + 8)) ((ctB_hi _ _ _).symm) ?_
      refine g_callv (va_runV (As := [.int (ctB (X.1 67) 8 (nI i) (0 + 8))]) (rest := []) ⟨hx, hb, hml, hown, hts⟩ (c_m_feed l V Xf (ctB (X.1 67) 8 (nI i)) (0 + 8) (by decide) qf.1 qf.2.1) (cwV 1 hts (g_goodV kw_710 kw_707 kw_709 kp_17 kw_8) rfl rfl rfl (by decide +kernel) ⟨Nat.le_of_ble_eq_true rfl, Nat.le_of_ble_eq_true rfl⟩) (g_preV (k0 := 11) (ci := 7) hE hG (by decide) rfl rfl) rfl rfl hl.1 rfl (lv_room (Nat.le_of_ble_eq_true rfl)) d_Md_expand_17 ⟨Nat.le_refl 0, Nat.le_refl 0⟩) hG (fun Xg H locs qg hG => ?_)
      refine lv_aload_n hx hb d_Md_expand_20 rfl (lv_at hl 0 rfl) ?_
      refine lv_aload_n hx hb d_Md_expand_21 rfl (lv_at hl 2 rfl) ?_
      refine lv_bipush (v := nI (16)) hx hb d_Md_expand_22 (by decide) ?_
      refine lv_iload_n hx hb d_Md_expand_24 rfl (lv_at hl 3 rfl) ?_
      refine lv_imul hx hb d_Md_expand_25 ?_
      refine g_topi (y := nI (16 * i)) (pk_mul _ _) ?_
      refine g_callv (va_runV (As := [.ref (g_ad V 61), .int (nI (16 * i))]) (rest := []) ⟨hx, hb, hml, hown, hts⟩ (c_m_uniform l V Xg 61 (by decide) (by decide) (16 * i) (by show 16 * i + 16 ≤ 64; omega) (ctB (X.1 67) 8 (nI i)) (0 + 8 + 1) (by decide) qg.1 qg.2.1 ((qg.2.2.1 53 (by decide)).trans ((qf.2.2.1 53 (by decide)).trans ((hF.1 53 (by decide)).trans hTu))) ((qg.2.2.2.1 12 (fun q => by cases q)).trans ((qf.2.2.2.1 12 (fun q => by cases q)).trans ((hF.2.1 12 (by decide)).trans hEx)))) (cwV 2 hts (g_goodV kw_742 kw_739 kw_741 kp_24 kw_8) rfl rfl rfl (by decide +kernel) ⟨Nat.le_of_ble_eq_true rfl, Nat.le_of_ble_eq_true rfl⟩) (g_preV (k0 := 11) (ci := 7) hE hG (by decide) rfl rfl) rfl rfl hl.1 rfl (lv_room (Nat.le_of_ble_eq_true rfl)) d_Md_expand_26 ⟨Nat.le_refl 0, Nat.le_refl 0⟩) hG (fun Xu H locs qu hG => ?_)
      refine lv_iinc (v := nI (i + 1)) (lv' := [(3, .int (nI (i + 1))), (0, .ref (g_ad V 11)), (1, .ref (g_ad V 67)), (2, .ref (g_ad V 61))]) hx hb d_Md_expand_29 hl (k := 3) rfl (g_inc _) (by decide) rfl (fun ls hl => ?_)
      refine lv_goto (tgt := 2) hx hb d_Md_expand_32 (by decide) ?_
      exact ih2 (i + 1) (by omega) Xu _ _ ls (fr_tr2 (fr_tr2 (fr_tr2 hF qf.2.2 (by decide) (by decide) (by decide)) qg.2.2 (by decide) (by decide) (by decide)) qu.2.2.2 (by decide) (by decide) (by decide)) qu.2.2.1 (by rw [qu.1, qg.2.2.1 61 (by decide), qf.2.2.1 61 (by decide), hC, show 16 * (i + 1) = 16 * i + 16 by omega]; exact seg_segI (fun j hj => matP_at _ hj)) hG (lv_sub hl [1, 2, 3, 0] rfl)
  exact K2 (4 - 0) 0 (by omega) X _ _ ls (fr_rf X _ _ _) hT (segI_0 _ _).symm hG (lv_sub hl [1, 2, 3, 0] rfl)

set_option maxHeartbeats 4000000 in
set_option maxRecDepth 100000 in
theorem c_m_sealing (l : Launch) (V : Ev) (X : Mm) (hT : X.2.2 3 = nI 0) (hTu : X.1 53 = rotT) (hEx : X.2.1 12 = rcT) : Met l y_Md_sealing (Cond.code y_Md_sealing b_Md_sealing 1 none :: WA) ({ frames := 3, cells := 0, slots := 0, locals := 68 } : Room) (g_Pc V X [.ref (g_ad V 11)]) (g_Qv V (fun X1 : Mm => X1.1 55 = HS (apB (X.1 69) 16 (X.1 79)) 64 ∧ X1.2.2 3 = nI 0 ∧ fr X X1 [54, 55] [13, 14, 15] [3])) 0 0 (g_A V) := by
  refine g_met (by decide) (Nat.le_of_ble_eq_true rfl) ?_
  intro p e s m below meth c hx hb hr hml hown hts hlocks hE hG ls hl
  have hl : lv_has ls 1 [(0, .ref (g_ad V 11))] := hl
  have hown : s.vm.findClass R_Md = some m.cls := hown
  refine lv_aload_n hx hb d_Md_sealing_0 rfl (lv_at hl 0 rfl) ?_
  refine lv_aload_n hx hb d_Md_sealing_1 rfl (lv_at hl 0 rfl) ?_
  refine g_get (ci := 7) (v := .ref (g_ad V 69)) (C := R_Md) (T := F_Md) (N := 35) hx hb hts (fun w h => List.mem_cons_of_mem _ (in_Md w h)) hown hE hG 11 (by decide) rfl rfl 23 (by decide) (hts _ (List.mem_cons_of_mem _ kw_615)) (fun _ h9 => h9) rfl d_Md_sealing_2 ?_
  refine lv_iconst (v := nI (0)) hx hb d_Md_sealing_5 (by decide) ?_
  refine lv_bipush (v := nI (16)) hx hb d_Md_sealing_6 (by decide) ?_
  refine g_callv (va_runV (As := [.ref (g_ad V 69), .int (nI (0)), .int (nI (16))]) (rest := []) ⟨hx, hb, hml, hown, hts⟩ (c_m_feedAll l V X 69 (by decide) (by decide) 0 16 (by decide) (apB (X.1 69) 16 (X.1 79)) 0 (by decide) hT (fun j hj => absurd hj (Nat.not_lt_zero j)) (fun j hj => by rw [Nat.zero_add]; exact (apB_lo _ _ hj).symm)) (cwV 3 hts (g_goodV kw_738 kw_735 kw_737 kp_23 kw_8) rfl rfl rfl (by decide +kernel) ⟨Nat.le_of_ble_eq_true rfl, Nat.le_of_ble_eq_true rfl⟩) (g_preV (k0 := 11) (ci := 7) hE hG (by decide) rfl rfl) rfl rfl hl.1 rfl (lv_room (Nat.le_of_ble_eq_true rfl)) d_Md_sealing_8 ⟨Nat.le_refl 0, Nat.le_refl 0⟩) hG (fun Xf H locs qf hG => ?_)
  refine lv_aload_n hx hb d_Md_sealing_11 rfl (lv_at hl 0 rfl) ?_
  refine lv_aload_n hx hb d_Md_sealing_12 rfl (lv_at hl 0 rfl) ?_
  refine g_get (ci := 7) (v := .ref (g_ad V 79)) (C := R_Md) (T := F_Md) (N := 35) hx hb hts (fun w h => List.mem_cons_of_mem _ (in_Md w h)) hown hE hG 11 (by decide) rfl rfl 33 (by decide) (hts _ (List.mem_cons_of_mem _ kw_625)) (fun _ h9 => h9) rfl d_Md_sealing_13 ?_
  refine lv_iconst (v := nI (0)) hx hb d_Md_sealing_16 (by decide) ?_
  refine lv_bipush (v := nI (48)) hx hb d_Md_sealing_17 (by decide) ?_
  refine g_callv (va_runV (As := [.ref (g_ad V 79), .int (nI (0)), .int (nI (48))]) (rest := []) ⟨hx, hb, hml, hown, hts⟩ (c_m_feedAll l V Xf 79 (by decide) (by decide) 0 48 (by decide) (apB (X.1 69) 16 (X.1 79)) (0 + 16) (by decide) qf.1 qf.2.1 (fun j hj => by rw [qf.2.2.1 79 (by decide), Nat.zero_add, Nat.zero_add]; exact (apB_hi _ _ _ _).symm)) (cwV 3 hts (g_goodV kw_738 kw_735 kw_737 kp_23 kw_8) rfl rfl rfl (by decide +kernel) ⟨Nat.le_of_ble_eq_true rfl, Nat.le_of_ble_eq_true rfl⟩) (g_preV (k0 := 11) (ci := 7) hE hG (by decide) rfl rfl) rfl rfl hl.1 rfl (lv_room (Nat.le_of_ble_eq_true rfl)) d_Md_sealing_19 ⟨Nat.le_refl 0, Nat.le_refl 0⟩) hG (fun Xg H locs qg hG => ?_)
  refine lv_aload_n hx hb d_Md_sealing_22 rfl (lv_at hl 0 rfl) ?_
  refine g_callv (va_runV (As := []) (rest := []) ⟨hx, hb, hml, hown, hts⟩ (c_m_stream l V Xg (apB (X.1 69) 16 (X.1 79)) (0 + 16 + 48) (by decide) qg.1 qg.2.1 ((qg.2.2.1 53 (by decide)).trans ((qf.2.2.1 53 (by decide)).trans hTu)) ((qg.2.2.2.1 12 (fun q => by cases q)).trans ((qf.2.2.2.1 12 (fun q => by cases q)).trans hEx))) (cwV 0 hts (g_goodV kw_714 kw_711 kw_713 kp_18 kw_8) rfl rfl rfl (by decide +kernel) ⟨Nat.le_of_ble_eq_true rfl, Nat.le_of_ble_eq_true rfl⟩) (g_preV (k0 := 11) (ci := 7) hE hG (by decide) rfl rfl) rfl rfl hl.1 rfl (lv_room (Nat.le_of_ble_eq_true rfl)) d_Md_sealing_23 ⟨Nat.le_refl 0, Nat.le_refl 0⟩) hG (fun X0 H locs q0 hG => ?_)
  exact g_vret hx hb hr hlocks hE hG (⟨q0.1, q0.2.1, (fr_tr2 (fr_tr2 (fr_mono qf.2.2 (a' := [54, 55]) (b' := [13, 14, 15]) (c' := [3]) (by decide) (by decide) (by decide)) qg.2.2 (by decide) (by decide) (by decide)) q0.2.2 (by decide) (by decide) (by decide))⟩) d_Md_sealing_26
