set_option maxHeartbeats 4000000 in
set_option maxRecDepth 100000 in
theorem c_m_write (l : Launch) (V : Ev) (X : Mm) (hz : ∀ j, 0 ≤ (X.1 74 j).toInt ∧ (X.1 74 j).toInt < 8380417) (hc : (hxN (X.1 78) 32).1 ≤ 12) : Met l y_Md_write (Cond.code y_Md_write b_Md_write 3 none :: WA) ({ frames := 1, cells := 0, slots := 0, locals := 28 } : Room) (g_Pc V X [.ref (g_ad V 11)]) (g_Qv V (fun X1 : Mm => X1.1 68 = sigP (X.1 71) (X.1 74) (X.1 78) ∧ fr X X1 [68] [] [])) 0 0 (g_A V) := by
  refine g_met (by decide) (Nat.le_of_ble_eq_true rfl) ?_
  intro p e s m below meth c hx hb hr hml hown hts hlocks hE hG ls hl
  have hl : lv_has ls 3 [(0, .ref (g_ad V 11))] := hl
  have hown : s.vm.findClass R_Md = some m.cls := hown
  refine lv_iconst (v := nI (0)) hx hb d_Md_write_0 (by decide) ?_
  refine lv_istore_n (lv' := [(1, .int (nI (0))), (0, .ref (g_ad V 11))]) hx hb d_Md_write_1 rfl hl (by decide) rfl (fun ls hl => ?_)
  have K2 : ∀ (fu i : Nat), i + fu = 62 → ∀ (X1 : Mm) (H : Heap) (locs : List Loc), ∀ (ls : Array Slot), (fr X X1 [68] [] []) → (X1.1 68 = segI (w0P (X.1 71)) (X.1 68) i) → g_st V X1 s.heap H locs → lv_has ls 3 [(0, .ref (g_ad V 11)), (1, .int (nI (i)))] → W p l e ({ frames := 1, cells := 0, slots := 0, locals := 28 } : Room) s m ([.ref (g_ad V 11)] : List Value).toArray below meth c H locs 0 0 (MQ below (g_Qv V (fun X1 : Mm => X1.1 68 = sigP (X.1 71) (X.1 74) (X.1 78) ∧ fr X X1 [68] [] [])) ([.ref (g_ad V 11)] : List Value).toArray s 0 0 (g_A V)) (F0 m 2 ls []) := by
    intro fu
    induction fu with
    | zero =>
      intro i hin2 X1 H locs ls hF hC hG hl
      have hi2 : 62 = i := by omega
      subst hi2
      refine lv_iload_n hx hb d_Md_write_2 rfl (lv_at hl 1 rfl) ?_
      refine lv_bipush (v := nI (62)) hx hb d_Md_write_3 (by decide) ?_
      refine lv_icmp_ge (tgt := 36) hx hb d_Md_write_5 (by decide) (fun _ => ?_) (fun q => absurd ((g_geN (x := 62) (y := 62) (by omega) (by omega)).mp q) (by omega))
      have hG := g_xi hG 68 (by decide) (w0P (X.1 71)) (fun j hj => by rw [hC]; exact segI_e _ _ hj)
      refine lv_iconst (v := nI (0)) hx hb d_Md_write_36 (by decide) ?_
      refine lv_istore_n (lv' := [(1, .int (nI (0))), (0, .ref (g_ad V 11))]) hx hb d_Md_write_37 rfl hl (by decide) rfl (fun ls hl => ?_)
      have K38 : ∀ (fu i : Nat), i + fu = 32 → ∀ (X2 : Mm) (H : Heap) (locs : List Loc), ∀ (ls : Array Slot), (fr X X2 [68] [] []) → (X2.1 68 = pkN (w0P (X.1 71)) (zwP (X.1 74)) 8 10 i) → g_st V X2 s.heap H locs → lv_has ls 3 [(0, .ref (g_ad V 11)), (1, .int (nI (i)))] → W p l e ({ frames := 1, cells := 0, slots := 0, locals := 28 } : Room) s m ([.ref (g_ad V 11)] : List Value).toArray below meth c H locs 0 0 (MQ below (g_Qv V (fun X1 : Mm => X1.1 68 = sigP (X.1 71) (X.1 74) (X.1 78) ∧ fr X X1 [68] [] [])) ([.ref (g_ad V 11)] : List Value).toArray s 0 0 (g_A V)) (F0 m 38 ls []) := by
        intro fu
        induction fu with
        | zero =>
          intro i hin38 X2 H locs ls hF2 hC2 hG hl
          have hi38 : 32 = i := by omega
          subst hi38
          refine lv_iload_n hx hb d_Md_write_38 rfl (lv_at hl 1 rfl) ?_
          refine lv_bipush (v := nI (32)) hx hb d_Md_write_39 (by decide) ?_
          refine lv_icmp_ge (tgt := 79) hx hb d_Md_write_41 (by decide) (fun _ => ?_) (fun q => absurd ((g_geN (x := 32) (y := 32) (by omega) (by omega)).mp q) (by omega))
          refine lv_iconst (v := nI (0)) hx hb d_Md_write_79 (by decide) ?_
          refine lv_istore_n (lv' := [(1, .int (nI (0))), (0, .ref (g_ad V 11))]) hx hb d_Md_write_80 rfl hl (by decide) rfl (fun ls hl => ?_)
          refine lv_iconst (v := nI (0)) hx hb d_Md_write_81 (by decide) ?_
          refine lv_istore_n (lv' := [(2, .int (nI (0))), (1, .int (nI (0))), (0, .ref (g_ad V 11))]) hx hb d_Md_write_82 rfl hl (by decide) rfl (fun ls hl => ?_)
          have K83 : ∀ (fu i : Nat), i + fu = 32 → ∀ (X3 : Mm) (H : Heap) (locs : List Loc), ∀ (ls : Array Slot), (fr X X3 [68] [] []) → (X3.1 68 = upd (seg (hxN (X.1 78) i).2 (pkN (w0P (X.1 71)) (zwP (X.1 74)) 8 10 32) 48 (hxN (X.1 78) i).1) 60 (nI (hxN (X.1 78) (min i 16)).1)) → g_st V X3 s.heap H locs → lv_has ls 3 [(0, .ref (g_ad V 11)), (1, .int (nI ((hxN (X.1 78) i).1))), (2, .int (nI (i)))] → W p l e ({ frames := 1, cells := 0, slots := 0, locals := 28 } : Room) s m ([.ref (g_ad V 11)] : List Value).toArray below meth c H locs 0 0 (MQ below (g_Qv V (fun X1 : Mm => X1.1 68 = sigP (X.1 71) (X.1 74) (X.1 78) ∧ fr X X1 [68] [] [])) ([.ref (g_ad V 11)] : List Value).toArray s 0 0 (g_A V)) (F0 m 83 ls []) := by
            intro fu
            induction fu with
            | zero =>
              intro i hin83 X3 H locs ls hF3 hC3 hG hl
              have hi83 : 32 = i := by omega
              subst hi83
              refine lv_iload_n hx hb d_Md_write_83 rfl (lv_at hl 2 rfl) ?_
              refine lv_bipush (v := nI (32)) hx hb d_Md_write_84 (by decide) ?_
              refine lv_icmp_ge (tgt := 145) hx hb d_Md_write_86 (by decide) (fun _ => ?_) (fun q => absurd ((g_geN (x := 32) (y := 32) (by omega) (by omega)).mp q) (by omega))
              refine lv_aload_n hx hb d_Md_write_145 rfl (lv_at hl 0 rfl) ?_
              refine g_get (ci := 7) (v := .ref (g_ad V 68)) (C := R_Md) (T := F_Md) (N := 35) hx hb hts (fun w h => List.mem_cons_of_mem _ (in_Md w h)) hown hE hG 11 (by decide) rfl rfl 22 (by decide) (hts _ (List.mem_cons_of_mem _ kw_614)) (fun _ h9 => h9) rfl d_Md_write_146 ?_
              refine lv_bipush (v := nI (61)) hx hb d_Md_write_149 (by decide) ?_
              refine lv_iload_n hx hb d_Md_write_151 rfl (lv_at hl 1 rfl) ?_
              refine g_iast (x := nI ((hxN (X.1 78) 32).1)) hx hb hE hG 68 (by decide) (61) (rfl) (show _ < 62 by omega) d_Md_write_152 (fun H locs hG => ?_)
              have hG := g_xi hG 68 (by decide) (sigP (X.1 71) (X.1 74) (X.1 78)) (fun j hj => by rw [uI_s, hC3]; exact sig_eq2 hc hj)
              exact g_vret hx hb hr hlocks hE hG (⟨uI_s _ _ _, fr_i (fr_i hF3 _ (by decide)) _ (by decide)⟩) d_Md_write_153
            | succ fu ih83 =>
              intro i hin83 X3 H locs ls hF3 hC3 hG hl
              have hi83 : i < 32 := by omega
              have hle := hxN_le (X.1 78) hc (show i ≤ 32 by omega)
              refine lv_iload_n hx hb d_Md_write_83 rfl (lv_at hl 2 rfl) ?_
              refine lv_bipush (v := nI (32)) hx hb d_Md_write_84 (by decide) ?_
              refine lv_icmp_ge (tgt := 145) hx hb d_Md_write_86 (by decide) (fun q => absurd ((g_ge (x := i) (y := 32) (by omega) (by omega)).mp q) (by omega)) (fun _ => ?_)
              refine lv_aload_n hx hb d_Md_write_89 rfl (lv_at hl 0 rfl) ?_
              refine g_get (ci := 7) (v := .ref (g_ad V 78)) (C := R_Md) (T := F_Md) (N := 35) hx hb hts (fun w h => List.mem_cons_of_mem _ (in_Md w h)) hown hE hG 11 (by decide) rfl rfl 32 (by decide) (hts _ (List.mem_cons_of_mem _ kw_624)) (fun _ h9 => h9) rfl d_Md_write_90 ?_
              refine lv_iload_n hx hb d_Md_write_93 rfl (lv_at hl 2 rfl) ?_
              refine g_iald hx hb hE hG 78 (by decide) (i) (rfl) (show _ < 32 by omega) (v := X.1 78 i) (congrFun (hF3.1 78 (by decide)) _) d_Md_write_94 ?_
              refine lv_iconst (v := nI (1)) hx hb d_Md_write_95 (by decide) ?_
              refine lv_icmp_ne (tgt := 139) hx hb d_Md_write_96 (by decide) (fun c96 => ?_) (fun c96 => ?_)
              · have e1 : hxN (X.1 78) (i + 1) = (hxN (X.1 78) i) := hxN_n c96
                refine lv_iinc (v := nI (i + 1)) (lv' := [(2, .int (nI (i + 1))), (0, .ref (g_ad V 11)), (1, .int (nI ((hxN (X.1 78) i).1)))]) hx hb d_Md_write_139 hl (k := 2) rfl (g_inc _) (by decide) rfl (fun ls hl => ?_)
                refine lv_goto (tgt := 83) hx hb d_Md_write_142 (by decide) ?_
                exact ih83 (i + 1) (by omega) X3 _ _ ls hF3 (by rw [e1, hC3]; congr 3; by_cases h16 : i < 16; exact (by rw [show min (i + 1) 16 = i + 1 by omega, show min i 16 = i by omega, e1]); exact (by rw [show min (i + 1) 16 = min i 16 by omega])) hG (by rw [e1]; exact lv_sub hl [1, 2, 0] rfl)
              · have e1 := hxN_y (h := X.1 78) (i := i) c96
                have hlt := hxN_lt (X.1 78) hc (show i < 32 by omega) c96
                refine lv_aload_n hx hb d_Md_write_99 rfl (lv_at hl 0 rfl) ?_
                refine g_get (ci := 7) (v := .ref (g_ad V 68)) (C := R_Md) (T := F_Md) (N := 35) hx hb hts (fun w h => List.mem_cons_of_mem _ (in_Md w h)) hown hE hG 11 (by decide) rfl rfl 22 (by decide) (hts _ (List.mem_cons_of_mem _ kw_614)) (fun _ h9 => h9) rfl d_Md_write_100 ?_
                refine lv_bipush (v := nI (48)) hx hb d_Md_write_103 (by decide) ?_
                refine lv_iload_n hx hb d_Md_write_105 rfl (lv_at hl 1 rfl) ?_
                refine lv_iadd hx hb d_Md_write_106 ?_
                refine g_topi (y := nI (48 + ((hxN (X.1 78) i).1))) (nI_add _ _) ?_
                refine lv_iload_n hx hb d_Md_write_107 rfl (lv_at hl 2 rfl) ?_
                refine lv_bipush (v := nI (16)) hx hb d_Md_write_108 (by decide) ?_
                refine lv_irem hx hb d_Md_write_110 (by decide) ?_
                refine g_topi (y := nI (i % 16)) (pk_rem (by omega) (by omega) (by omega)) ?_
                refine g_iast (x := nI (i % 16)) hx hb hE hG 68 (by decide) (48 + ((hxN (X.1 78) i).1)) (rfl) (show _ < 62 by omega) d_Md_write_111 (fun H locs hG => ?_)
                refine lv_iinc (v := nI ((hxN (X.1 78) i).1 + 1)) (lv' := [(1, .int (nI ((hxN (X.1 78) i).1 + 1))), (0, .ref (g_ad V 11)), (2, .int (nI (i)))]) hx hb d_Md_write_112 hl (k := 1) rfl (g_inc _) (by decide) rfl (fun ls hl => ?_)
                refine lv_aload_n hx hb d_Md_write_115 rfl (lv_at hl 1 rfl) ?_
                refine g_get (ci := 7) (v := .ref (g_ad V 68)) (C := R_Md) (T := F_Md) (N := 35) hx hb hts (fun w h => List.mem_cons_of_mem _ (in_Md w h)) hown hE hG 11 (by decide) rfl rfl 22 (by decide) (hts _ (List.mem_cons_of_mem _ kw_614)) (fun _ h9 => h9) rfl d_Md_write_116 ?_
                refine lv_bipush (v := nI (60)) hx hb d_Md_write_119 (by decide) ?_
                refine lv_iload_n hx hb d_Md_write_121 rfl (lv_at hl 2 rfl) ?_
                refine lv_bipush (v := nI (16)) hx hb d_Md_write_122 (by decide) ?_
                refine lv_icmp_ge (tgt := 131) hx hb d_Md_write_124 (by decide) (fun c124 => ?_) (fun c124 => ?_)
                · have c124 := (g_ge (x := i) (y := 16) (by omega) (by omega)).mp c124
                  refine lv_aload_n hx hb d_Md_write_131 rfl (lv_at hl 1 rfl) ?_
                  refine g_get (ci := 7) (v := .ref (g_ad V 68)) (C := R_Md) (T := F_Md) (N := 35) hx hb hts (fun w h => List.mem_cons_of_mem _ (in_Md w h)) hown hE hG 11 (by decide) rfl rfl 22 (by decide) (hts _ (List.mem_cons_of_mem _ kw_614)) (fun _ h9 => h9) rfl d_Md_write_132 ?_
                  refine lv_bipush (v := nI (60)) hx hb d_Md_write_135 (by decide) ?_
                  refine g_iald hx hb hE hG 68 (by decide) (60) (rfl) (show _ < 62 by omega) (v := nI (hxN (X.1 78) (min i 16)).1) (by rw [uI_s, hC3, pk_un (by omega), pk_us]) d_Md_write_137 ?_
                  refine g_iast (x := nI (hxN (X.1 78) (min i 16)).1) hx hb hE hG 68 (by decide) (60) (rfl) (show _ < 62 by omega) d_Md_write_138 (fun H locs hG => ?_)
                  refine lv_iinc (v := nI (i + 1)) (lv' := [(2, .int (nI (i + 1))), (1, .int (nI ((hxN (X.1 78) i).1 + 1))), (0, .ref (g_ad V 11))]) hx hb d_Md_write_139 hl (k := 2) rfl (g_inc _) (by decide) rfl (fun ls hl => ?_)
                  refine lv_goto (tgt := 83) hx hb d_Md_write_142 (by decide) ?_
                  exact ih83 (i + 1) (by omega) (uI (uI X3 68 (upd (X3.1 68) (48 + ((hxN (X.1 78) i).1)) (nI (i % 16)))) 68 (upd ((uI X3 68 (upd (X3.1 68) (48 + ((hxN (X.1 78) i).1)) (nI (i % 16)))).1 68) 60 (nI (hxN (X.1 78) (min i 16)).1))) _ _ ls (fr_i (fr_i hF3 _ (by decide)) _ (by decide)) (by rw [uI_s, uI_s, hC3, upd_comm _ _ _ (show (60 : Nat) ≠ 48 + (hxN (X.1 78) i).1 by omega), upd_upd, seg_u, e1, show min (i + 1) 16 = min i 16 by omega]) hG (by rw [e1]; exact lv_sub hl [2, 1, 0] rfl)
                · have c124 := (g_geN (x := i) (y := 16) (by omega) (by omega)).mp c124
                  refine lv_iload_n hx hb d_Md_write_127 rfl (lv_at hl 0 rfl) ?_
                  refine lv_goto (tgt := 138) hx hb d_Md_write_128 (by decide) ?_
                  refine g_iast (x := nI ((hxN (X.1 78) i).1 + 1)) hx hb hE hG 68 (by decide) (60) (rfl) (show _ < 62 by omega) d_Md_write_138 (fun H locs hG => ?_)
                  refine lv_iinc (v := nI (i + 1)) (lv' := [(2, .int (nI (i + 1))), (1, .int (nI ((hxN (X.1 78) i).1 + 1))), (0, .ref (g_ad V 11))]) hx hb d_Md_write_139 hl (k := 2) rfl (g_inc _) (by decide) rfl (fun ls hl => ?_)
                  refine lv_goto (tgt := 83) hx hb d_Md_write_142 (by decide) ?_
                  exact ih83 (i + 1) (by omega) (uI (uI X3 68 (upd (X3.1 68) (48 + ((hxN (X.1 78) i).1)) (nI (i % 16)))) 68 (upd ((uI X3 68 (upd (X3.1 68) (48 + ((hxN (X.1 78) i).1)) (nI (i % 16)))).1 68) 60 (nI ((hxN (X.1 78) i).1 + 1)))) _ _ ls (fr_i (fr_i hF3 _ (by decide)) _ (by decide)) (by rw [uI_s, uI_s, hC3, upd_comm _ _ _ (show (60 : Nat) ≠ 48 + (hxN (X.1 78) i).1 by omega), upd_upd, seg_u, e1, show min (i + 1) 16 = i + 1 by omega, e1]) hG (by rw [e1]; exact lv_sub hl [2, 1, 0] rfl)
          exact K83 (32 - 0) 0 (by omega) X2 _ _ ls hF2 (by rw [hC2]; show _ = upd (seg _ _ 48 0) 60 (nI 0); rw [seg_0]; exact (upd_self _ 60 (by rw [pkN_out _ _ 8 10 40 (by omega) 32 (by decide)]; rfl)).symm) hG (lv_sub hl [2, 1, 0] rfl)
        | succ fu ih38 =>
          intro i hin38 X2 H locs ls hF2 hC2 hG hl
          have hi38 : i < 32 := by omega
          refine lv_iload_n hx hb d_Md_write_38 rfl (lv_at hl 1 rfl) ?_
          refine lv_bipush (v := nI (32)) hx hb d_Md_write_39 (by decide) ?_
          refine lv_icmp_ge (tgt := 79) hx hb d_Md_write_41 (by decide) (fun q => absurd ((g_ge (x := i) (y := 32) (by omega) (by omega)).mp q) (by omega)) (fun _ => ?_)
          refine lv_aload_n hx hb d_Md_write_44 rfl (lv_at hl 0 rfl) ?_
          refine lv_aload_n hx hb d_Md_write_45 rfl (lv_at hl 0 rfl) ?_
          refine g_get (ci := 7) (v := .ref (g_ad V 68)) (C := R_Md) (T := F_Md) (N := 35) hx hb hts (fun w h => List.mem_cons_of_mem _ (in_Md w h)) hown hE hG 11 (by decide) rfl rfl 22 (by decide) (hts _ (List.mem_cons_of_mem _ kw_614)) (fun _ h9 => h9) rfl d_Md_write_46 ?_
          refine lv_bipush (v := nI (8)) hx hb d_Md_write_49 (by decide) ?_
          refine lv_bipush (v := nI (10)) hx hb d_Md_write_51 (by decide) ?_
          refine lv_iload_n hx hb d_Md_write_53 rfl (lv_at hl 1 rfl) ?_
          refine lv_imul hx hb d_Md_write_54 ?_
          refine g_topi (y := nI (10 * i)) (pk_mul _ _) ?_
          refine lv_bipush (v := nI (10)) hx hb d_Md_write_55 (by decide) ?_
          refine lv_sipush (v := nI (512)) hx hb d_Md_write_57 (by decide) ?_
          refine lv_aload_n hx hb d_Md_write_60 rfl (lv_at hl 0 rfl) ?_
          refine g_get (ci := 7) (v := .ref (g_ad V 74)) (C := R_Md) (T := F_Md) (N := 35) hx hb hts (fun w h => List.mem_cons_of_mem _ (in_Md w h)) hown hE hG 11 (by decide) rfl rfl 28 (by decide) (hts _ (List.mem_cons_of_mem _ kw_620)) (fun _ h9 => h9) rfl d_Md_write_61 ?_
          refine lv_iload_n hx hb d_Md_write_64 rfl (lv_at hl 1 rfl) ?_
          refine g_iald hx hb hE hG 74 (by decide) (i) (rfl) (show _ < 32 by omega) (v := X.1 74 i) (congrFun (hF2.1 74 (by decide)) _) d_Md_write_65 ?_
          refine g_callpi (va_runS (As := [.int (X.1 74 i)]) (rest := [.int (nI (512)), .int (nI (10)), .int (nI (10 * i)), .int (nI (8)), .ref (g_ad V 68), .ref (g_ad V 11)]) ⟨hx, hb, hml, hown, hts⟩ (c_m_centred l (X.1 74 i)) (va_cwS 1 hts (g_goodS kw_821 kw_819 kw_820 kw_8) rfl rfl rfl (by decide +kernel) ⟨Nat.le_of_ble_eq_true rfl, Nat.le_of_ble_eq_true rfl⟩) ⟨fun _ _ _ _ q => q, fun _ _ _ => rfl⟩ rfl rfl hl.1 rfl (lv_room (Nat.le_of_ble_eq_true rfl)) d_Md_write_66 ⟨Nat.le_refl 0, Nat.le_refl 0⟩) (fun r2 q1 => ?_)
          refine g_topi (y := cenP (X.1 74 i)) (q1) ?_
          refine lv_isub hx hb d_Md_write_69 ?_
          refine g_topi (y := zwP (X.1 74) i) (by unfold zwP; rw [redP_id (hz i)]) ?_
          refine g_callv (va_runV (As := [.ref (g_ad V 68), .int (nI (8)), .int (nI (10 * i)), .int (nI (10)), .int (zwP (X.1 74) i)]) (rest := []) ⟨hx, hb, hml, hown, hts⟩ (c_m_pack l V X2 68 (by decide) 8 (10 * i) 10 (zwP (X.1 74) i) (by decide) (by show 8 * 8 + 10 * i + 10 ≤ 8 * 62; omega)) (cwV 5 hts (g_goodV kw_771 kw_768 kw_770 kp_29 kw_8) rfl rfl rfl (by decide +kernel) ⟨Nat.le_of_ble_eq_true rfl, Nat.le_of_ble_eq_true rfl⟩) (g_preV (k0 := 11) (ci := 7) hE hG (by decide) rfl rfl) rfl rfl hl.1 rfl (lv_room (Nat.le_of_ble_eq_true rfl)) d_Md_write_70 ⟨Nat.le_refl 0, Nat.le_refl 0⟩) hG (fun Xp H locs qp hG => ?_)
          refine lv_iinc (v := nI (i + 1)) (lv' := [(1, .int (nI (i + 1))), (0, .ref (g_ad V 11))]) hx hb d_Md_write_73 hl (k := 1) rfl (g_inc _) (by decide) rfl (fun ls hl => ?_)
          refine lv_goto (tgt := 38) hx hb d_Md_write_76 (by decide) ?_
          exact ih38 (i + 1) (by omega) Xp _ _ ls (fr_tr hF2 qp.2) (by rw [qp.1, hC2, Nat.mul_comm 10 i]; rfl) hG (lv_sub hl [1, 0] rfl)
      exact K38 (32 - 0) 0 (by omega) (uI X1 68 (w0P (X.1 71))) _ _ ls (fr_i hF _ (by decide)) (uI_s _ _ _) hG (lv_sub hl [1, 0] rfl)
    | succ fu ih2 =>
      intro i hin2 X1 H locs ls hF hC hG hl
      have hi2 : i < 62 := by omega
      refine lv_iload_n hx hb d_Md_write_2 rfl (lv_at hl 1 rfl) ?_
      refine lv_bipush (v := nI (62)) hx hb d_Md_write_3 (by decide) ?_
      refine lv_icmp_ge (tgt := 36) hx hb d_Md_write_5 (by decide) (fun q => absurd ((g_ge (x := i) (y := 62) (by omega) (by omega)).mp q) (by omega)) (fun _ => ?_)
      refine lv_aload_n hx hb d_Md_write_8 rfl (lv_at hl 0 rfl) ?_
      refine g_get (ci := 7) (v := .ref (g_ad V 68)) (C := R_Md) (T := F_Md) (N := 35) hx hb hts (fun w h => List.mem_cons_of_mem _ (in_Md w h)) hown hE hG 11 (by decide) rfl rfl 22 (by decide) (hts _ (List.mem_cons_of_mem _ kw_614)) (fun _ h9 => h9) rfl d_Md_write_9 ?_
      refine lv_iload_n hx hb d_Md_write_12 rfl (lv_at hl 1 rfl) ?_
      refine lv_iload_n hx hb d_Md_write_13 rfl (lv_at hl 1 rfl) ?_
      refine lv_bipush (v := nI (8)) hx hb d_Md_write_14 (by decide) ?_
      refine lv_icmp_ge (tgt := 28) hx hb d_Md_write_16 (by decide) (fun c16 => ?_) (fun c16 => ?_)
      · have c16 := (g_ge (x := i) (y := 8) (by omega) (by omega)).mp c16
        refine lv_iconst (v := nI (0)) hx hb d_Md_write_28 (by decide) ?_
        refine g_iast (x := nI (0)) hx hb hE hG 68 (by decide) (i) (rfl) (show _ < 62 by omega) d_Md_write_29 (fun H locs hG => ?_)
        refine lv_iinc (v := nI (i + 1)) (lv' := [(1, .int (nI (i + 1))), (0, .ref (g_ad V 11))]) hx hb d_Md_write_30 hl (k := 1) rfl (g_inc _) (by decide) rfl (fun ls hl => ?_)
        refine lv_goto (tgt := 2) hx hb d_Md_write_33 (by decide) ?_
        exact ih2 (i + 1) (by omega) (uI X1 68 (upd (X1.1 68) i (nI (0)))) _ _ ls (fr_i hF _ (by decide)) (by rw [uI_s, hC, show nI 0 = w0P (X.1 71) i from (if_neg (by omega)).symm]; exact segI_s _ _ _) hG (lv_sub hl [1, 0] rfl)
      · have c16 := (g_geN (x := i) (y := 8) (by omega) (by omega)).mp c16
        refine lv_aload_n hx hb d_Md_write_19 rfl (lv_at hl 0 rfl) ?_
        refine g_get (ci := 7) (v := .ref (g_ad V 71)) (C := R_Md) (T := F_Md) (N := 35) hx hb hts (fun w h => List.mem_cons_of_mem _ (in_Md w h)) hown hE hG 11 (by decide) rfl rfl 25 (by decide) (hts _ (List.mem_cons_of_mem _ kw_617)) (fun _ h9 => h9) rfl d_Md_write_20 ?_
        refine lv_iload_n hx hb d_Md_write_23 rfl (lv_at hl 1 rfl) ?_
        refine g_iald hx hb hE hG 71 (by decide) (i) (rfl) (show _ < 8 by omega) (v := X.1 71 i) (congrFun (hF.1 71 (by decide)) _) d_Md_write_24 ?_
        refine lv_goto (tgt := 29) hx hb d_Md_write_25 (by decide) ?_
        refine g_iast (x := X.1 71 i) hx hb hE hG 68 (by decide) (i) (rfl) (show _ < 62 by omega) d_Md_write_29 (fun H locs hG => ?_)
        refine lv_iinc (v := nI (i + 1)) (lv' := [(1, .int (nI (i + 1))), (0, .ref (g_ad V 11))]) hx hb d_Md_write_30 hl (k := 1) rfl (g_inc _) (by decide) rfl (fun ls hl => ?_)
        refine lv_goto (tgt := 2) hx hb d_Md_write_33 (by decide) ?_
        exact ih2 (i + 1) (by omega) (uI X1 68 (upd (X1.1 68) i (X.1 71 i))) _ _ ls (fr_i hF _ (by decide)) (by rw [uI_s, hC, show X.1 71 i = w0P (X.1 71) i from (if_pos (by omega)).symm]; exact segI_s _ _ _) hG (lv_sub hl [1, 0] rfl)
  exact K2 (62 - 0) 0 (by omega) X _ _ ls (fr_rf X _ _ _) (segI_0 _ _).symm hG (lv_sub hl [1, 0] rfl)

set_option maxHeartbeats 4000000 in
set_option maxRecDepth 100000 in
theorem c_M_sign (l : Launch) (V : Ev) (X : Mm) (w : Int64) (tr : Int32) (n : Nat) (hn : n ≤ 24) (hM : X.2.2 5 = nI n) (hT : X.2.2 3 = nI 0) (hTu : X.1 53 = rotT) (hEx : X.2.1 12 = rcT) (hB : ∀ j, j < 48 → isB (X.1 79 j)) (S E T : Nat → Int32) (hK : ¬ X.2.2 4 = nI 0 → bqn 64 (X.1 60) ∧ bqn 32 S ∧ bqn 32 E ∧ bqn 32 T ∧ X.1 62 = rdF S ∧ X.1 63 = rdF E ∧ X.1 64 = rdF T) : Met l y_Md_sign (Cond.code y_Md_sign b_Md_sign 5 (some .int) :: WA) ({ frames := 5, cells := 0, slots := 0, locals := 116 } : Room) (g_Pc V X [.ref (g_ad V 11), .long (w), .int (tr)]) (g_Qi V (fun (r : Int32) (X1 : Mm) => (¬ (¬ X.2.2 4 = nI 0 ∧ nI 1 ≤ tr ∧ tr ≤ nI 30) → r = -1 ∧ X = X1) ∧ ((¬ X.2.2 4 = nI 0 ∧ nI 1 ≤ tr ∧ tr ≤ nI 30) → ∃ T0, T0 ≤ 30 ∧ tr = nI T0 ∧ ((∃ k, k < T0 ∧ tOK (sMU (X.1 59) (X.1 66) n) (X.1 60) (sNU (X.1 58) w (sMU (X.1 59) (X.1 66) n)) S E T (k + 1) ∧ (∀ j, j < k → ¬ tOK (sMU (X.1 59) (X.1 66) n) (X.1 60) (sNU (X.1 58) w (sMU (X.1 59) (X.1 66) n)) S E T (j + 1)) ∧ r = nI (k + 1) ∧ X1.1 68 = tSG (sMU (X.1 59) (X.1 66) n) (X.1 60) (sNU (X.1 58) w (sMU (X.1 59) (X.1 66) n)) S E T (k + 1)) ∨ ((∀ j, j < T0 → ¬ tOK (sMU (X.1 59) (X.1 66) n) (X.1 60) (sNU (X.1 58) w (sMU (X.1 59) (X.1 66) n)) S E T (j + 1)) ∧ r = -2 ∧ X1.1 68 = X.1 68)) ∧ (∀ j, j < 48 → isB (X1.1 79 j)) ∧ X1.2.2 3 = nI 0 ∧ fr X X1 [54, 55, 68, 69, 70, 71, 72, 73, 74, 75, 76, 77, 78, 79] [13, 14, 15, 16] [3]))) 0 0 (g_A V) := by
  refine g_met (by decide) (Nat.le_of_ble_eq_true rfl) ?_
  intro p e s m below meth c hx hb hr hml hown hts hlocks hE hG ls hl
  have hl : lv_has ls 5 [(0, .ref (g_ad V 11)), (1, .long (w)), (3, .int (tr))] := hl
  have hown : s.vm.findClass R_Md = some m.cls := hown
  refine lv_aload_n hx hb d_Md_sign_0 rfl (lv_at hl 0 rfl) ?_
  refine g_get (ci := 7) (v := .int (X.2.2 4)) (C := R_Md) (T := F_Md) (N := 35) hx hb hts (fun w h => List.mem_cons_of_mem _ (in_Md w h)) hown hE hG 11 (by decide) rfl rfl 8 (by decide) (hts _ (List.mem_cons_of_mem _ kw_600)) (fun _ h9 => h9) rfl d_Md_sign_1 ?_
  refine lv_if_eq (tgt := 18) hx hb d_Md_sign_4 (by decide) (fun c4 => ?_) (fun c4 => ?_)
  · refine lv_iconst (v := -1) hx hb d_Md_sign_18 (by decide) ?_
    exact g_iret hx hb hr hlocks hE hG (⟨fun _ => ⟨rfl, rfl⟩, fun z => absurd c4 z.1⟩) d_Md_sign_19
  · refine lv_iload_n hx hb d_Md_sign_7 rfl (lv_at hl 2 rfl) ?_
    refine lv_iconst (v := nI (1)) hx hb d_Md_sign_8 (by decide) ?_
    refine lv_icmp_lt (tgt := 18) hx hb d_Md_sign_9 (by decide) (fun c9 => ?_) (fun c9 => ?_)
    · refine lv_iconst (v := -1) hx hb d_Md_sign_18 (by decide) ?_
      exact g_iret hx hb hr hlocks hE hG (⟨fun _ => ⟨rfl, rfl⟩, fun z => absurd c9 (Int32.not_lt.mpr z.2.1)⟩) d_Md_sign_19
    · refine lv_iload_n hx hb d_Md_sign_12 rfl (lv_at hl 2 rfl) ?_
      refine lv_bipush (v := nI (30)) hx hb d_Md_sign_13 (by decide) ?_
      refine lv_icmp_le (tgt := 20) hx hb d_Md_sign_15 (by decide) (fun c15 => ?_) (fun c15 => ?_)
      · have ok : (¬ X.2.2 4 = nI 0 ∧ nI 1 ≤ tr ∧ tr ≤ nI 30) := ⟨c4, Int32.not_lt.mp c9, c15⟩
        obtain ⟨T0, hT0, eT⟩ := nI_of2 (n := 30) (by decide) (Int32.not_lt.mpr (Int32.le_trans (by decide) ok.2.1)) ok.2.2
        have hT1 : 1 ≤ T0 := (nI_leI (by decide) (by omega)).mp (eT ▸ ok.2.1)
        obtain ⟨hA, hS, hEb, hTb, h62, h63, h64⟩ := hK c4
        have hl : lv_has ls 5 [(0, .ref (g_ad V 11)), (1, .long (w)), (3, .int (nI (T0)))] := by rw [← eT]; exact hl
        refine lv_aload_n hx hb d_Md_sign_20 rfl (lv_at hl 0 rfl) ?_
        refine lv_aload_n hx hb d_Md_sign_21 rfl (lv_at hl 0 rfl) ?_
        refine g_get (ci := 7) (v := .ref (g_ad V 59)) (C := R_Md) (T := F_Md) (N := 35) hx hb hts (fun w h => List.mem_cons_of_mem _ (in_Md w h)) hown hE hG 11 (by decide) rfl rfl 12 (by decide) (hts _ (List.mem_cons_of_mem _ kw_604)) (fun _ h9 => h9) rfl d_Md_sign_22 ?_
        refine lv_iconst (v := nI (0)) hx hb d_Md_sign_25 (by decide) ?_
        refine lv_bipush (v := nI (8)) hx hb d_Md_sign_26 (by decide) ?_
        refine g_callv (va_runV (As := [.ref (g_ad V 59), .int (nI (0)), .int (nI (8))]) (rest := []) ⟨hx, hb, hml, hown, hts⟩ (c_m_feedAll l V X 59 (by decide) (by decide) 0 8 (by decide) (apB (X.1 59) 8 (X.1 66)) 0 (by decide) hT (fun j hj => absurd hj (Nat.not_lt_zero j)) (fun j hj => by rw [Nat.zero_add]; exact (apB_lo _ _ hj).symm)) (cwV 3 hts (g_goodV kw_738 kw_735 kw_737 kp_23 kw_8) rfl rfl rfl (by decide +kernel) ⟨Nat.le_of_ble_eq_true rfl, Nat.le_of_ble_eq_true rfl⟩) (g_preV (k0 := 11) (ci := 7) hE hG (by decide) rfl rfl) rfl rfl hl.1 rfl (lv_room (Nat.le_of_ble_eq_true rfl)) d_Md_sign_28 ⟨Nat.le_refl 0, Nat.le_refl 0⟩) hG (fun Xa H locs qa hG => ?_)
        refine lv_aload_n hx hb d_Md_sign_31 rfl (lv_at hl 0 rfl) ?_
        refine lv_aload_n hx hb d_Md_sign_32 rfl (lv_at hl 0 rfl) ?_
        refine g_get (ci := 7) (v := .ref (g_ad V 66)) (C := R_Md) (T := F_Md) (N := 35) hx hb hts (fun w h => List.mem_cons_of_mem _ (in_Md w h)) hown hE hG 11 (by decide) rfl rfl 20 (by decide) (hts _ (List.mem_cons_of_mem _ kw_612)) (fun _ h9 => h9) rfl d_Md_sign_33 ?_
        refine lv_iconst (v := nI (0)) hx hb d_Md_sign_36 (by decide) ?_
        refine lv_aload_n hx hb d_Md_sign_37 rfl (lv_at hl 0 rfl) ?_
        refine g_get (ci := 7) (v := .int (Xa.2.2 5)) (C := R_Md) (T := F_Md) (N := 35) hx hb hts (fun w h => List.mem_cons_of_mem _ (in_Md w h)) hown hE hG 11 (by decide) rfl rfl 19 (by decide) (hts _ (List.mem_cons_of_mem _ kw_611)) (fun _ h9 => h9) rfl d_Md_sign_38 ?_
        refine g_topi (y := nI (n)) ((qa.2.2.2.2 5 (by decide)).trans hM) ?_
        refine g_callv (va_runV (As := [.ref (g_ad V 66), .int (nI (0)), .int (nI (n))]) (rest := []) ⟨hx, hb, hml, hown, hts⟩ (c_m_feedAll l V Xa 66 (by decide) (by decide) 0 n (by show 0 + n ≤ 24; omega) (apB (X.1 59) 8 (X.1 66)) (0 + 8) (by omega) qa.1 qa.2.1 (fun j hj => by rw [qa.2.2.1 66 (by decide), Nat.zero_add, Nat.zero_add]; exact (apB_hi _ _ _ _).symm)) (cwV 3 hts (g_goodV kw_738 kw_735 kw_737 kp_23 kw_8) rfl rfl rfl (by decide +kernel) ⟨Nat.le_of_ble_eq_true rfl, Nat.le_of_ble_eq_true rfl⟩) (g_preV (k0 := 11) (ci := 7) hE hG (by decide) rfl rfl) rfl rfl hl.1 rfl (lv_room (Nat.le_of_ble_eq_true rfl)) d_Md_sign_41 ⟨Nat.le_refl 0, Nat.le_refl 0⟩) hG (fun Xb H locs qb hG => ?_)
        have fb : fr X Xb [54, 55, 69, 70, 71, 72, 73, 74, 75, 76, 77, 78, 79] [13, 14, 15, 16] [3] := (fr_tr2 (fr_mono qa.2.2 (a' := [54, 55, 69, 70, 71, 72, 73, 74, 75, 76, 77, 78, 79]) (b' := [13, 14, 15, 16]) (c' := [3]) (by decide) (by decide) (by decide)) qb.2.2 (by decide) (by decide) (by decide))
        refine lv_aload_n hx hb d_Md_sign_44 rfl (lv_at hl 0 rfl) ?_
        refine g_callv (va_runV (As := []) (rest := []) ⟨hx, hb, hml, hown, hts⟩ (c_m_stream l V Xb (apB (X.1 59) 8 (X.1 66)) (0 + 8 + n) (by omega) qb.1 qb.2.1 ((fb.1 53 (by decide)).trans hTu) ((fb.2.1 12 (by decide)).trans hEx)) (cwV 0 hts (g_goodV kw_714 kw_711 kw_713 kp_18 kw_8) rfl rfl rfl (by decide +kernel) ⟨Nat.le_of_ble_eq_true rfl, Nat.le_of_ble_eq_true rfl⟩) (g_preV (k0 := 11) (ci := 7) hE hG (by decide) rfl rfl) rfl rfl hl.1 rfl (lv_room (Nat.le_of_ble_eq_true rfl)) d_Md_sign_45 ⟨Nat.le_refl 0, Nat.le_refl 0⟩) hG (fun Xc H locs qc hG => ?_)
        have fc : fr X Xc [54, 55, 69, 70, 71, 72, 73, 74, 75, 76, 77, 78, 79] [13, 14, 15, 16] [3] := (fr_tr2 fb qc.2.2 (by decide) (by decide) (by decide))
        refine lv_aload_n hx hb d_Md_sign_48 rfl (lv_at hl 0 rfl) ?_
        refine lv_aload_n hx hb d_Md_sign_49 rfl (lv_at hl 0 rfl) ?_
        refine g_get (ci := 7) (v := .ref (g_ad V 69)) (C := R_Md) (T := F_Md) (N := 35) hx hb hts (fun w h => List.mem_cons_of_mem _ (in_Md w h)) hown hE hG 11 (by decide) rfl rfl 23 (by decide) (hts _ (List.mem_cons_of_mem _ kw_615)) (fun _ h9 => h9) rfl d_Md_sign_50 ?_
        refine lv_iconst (v := nI (0)) hx hb d_Md_sign_53 (by decide) ?_
        refine lv_bipush (v := nI (16)) hx hb d_Md_sign_54 (by decide) ?_
        refine g_callv (va_runV (As := [.ref (g_ad V 69), .int (nI (0)), .int (nI (16))]) (rest := []) ⟨hx, hb, hml, hown, hts⟩ (c_m_takeC l V Xc 69 (by decide) (by decide) 0 16 rfl (by decide)) (cwV 3 hts (g_goodV kw_730 kw_727 kw_729 kp_21 kw_8) rfl rfl rfl (by decide +kernel) ⟨Nat.le_of_ble_eq_true rfl, Nat.le_of_ble_eq_true rfl⟩) (g_preV (k0 := 11) (ci := 7) hE hG (by decide) rfl rfl) rfl rfl hl.1 rfl (lv_room (Nat.le_of_ble_eq_true rfl)) d_Md_sign_56 ⟨Nat.le_refl 0, Nat.le_refl 0⟩) hG (fun Xd H locs qd hG => ?_)
        have fd : fr X Xd [54, 55, 69, 70, 71, 72, 73, 74, 75, 76, 77, 78, 79] [13, 14, 15, 16] [3] := (fr_tr2 fc qd.2 (by decide) (by decide) (by decide))
        have d69 : Xd.1 69 = (sMU (X.1 59) (X.1 66) n) := by rw [qd.1, qc.1, shI_0, Nat.zero_add]; rfl
        refine lv_aload_n hx hb d_Md_sign_59 rfl (lv_at hl 0 rfl) ?_
        refine lv_aload_n hx hb d_Md_sign_60 rfl (lv_at hl 0 rfl) ?_
        refine g_get (ci := 7) (v := .ref (g_ad V 58)) (C := R_Md) (T := F_Md) (N := 35) hx hb hts (fun w h => List.mem_cons_of_mem _ (in_Md w h)) hown hE hG 11 (by decide) rfl rfl 11 (by decide) (hts _ (List.mem_cons_of_mem _ kw_603)) (fun _ h9 => h9) rfl d_Md_sign_61 ?_
        refine lv_iconst (v := nI (0)) hx hb d_Md_sign_64 (by decide) ?_
        refine lv_bipush (v := nI (8)) hx hb d_Md_sign_65 (by decide) ?_
        refine g_callv (va_runV (As := [.ref (g_ad V 58), .int (nI (0)), .int (nI (8))]) (rest := []) ⟨hx, hb, hml, hown, hts⟩ (c_m_feedAll l V Xd 58 (by decide) (by decide) 0 8 (by decide) (apB (X.1 58) 8 (apB (lgB w) 8 (sMU (X.1 59) (X.1 66) n))) 0 (by decide) ((qd.2.2.2 3 (fun q => by cases q)).trans qc.2.1) (fun j hj => absurd hj (Nat.not_lt_zero j)) (fun j hj => by rw [fd.1 58 (by decide), Nat.zero_add]; exact (apB_lo _ _ hj).symm)) (cwV 3 hts (g_goodV kw_738 kw_735 kw_737 kp_23 kw_8) rfl rfl rfl (by decide +kernel) ⟨Nat.le_of_ble_eq_true rfl, Nat.le_of_ble_eq_true rfl⟩) (g_preV (k0 := 11) (ci := 7) hE hG (by decide) rfl rfl) rfl rfl hl.1 rfl (lv_room (Nat.le_of_ble_eq_true rfl)) d_Md_sign_67 ⟨Nat.le_refl 0, Nat.le_refl 0⟩) hG (fun Xe H locs qe hG => ?_)
        refine lv_aload_n hx hb d_Md_sign_70 rfl (lv_at hl 0 rfl) ?_
        refine lv_lload_n hx hb d_Md_sign_71 rfl (lv_at hl 1 rfl) ?_
        refine g_callv (va_runV (As := [.long (w)]) (rest := []) ⟨hx, hb, hml, hown, hts⟩ (c_m_feedLong l V Xe w (apB (X.1 58) 8 (apB (lgB w) 8 (sMU (X.1 59) (X.1 66) n))) (0 + 8) (by decide) qe.1 qe.2.1 (fun j hj => by rw [Nat.zero_add, apB_hi]; exact (apB_lo _ _ hj).symm)) (cwV 1 hts (g_goodV kw_705 kw_702 kw_704 kp_16 kw_8) rfl rfl rfl (by decide +kernel) ⟨Nat.le_of_ble_eq_true rfl, Nat.le_of_ble_eq_true rfl⟩) (g_preV (k0 := 11) (ci := 7) hE hG (by decide) rfl rfl) rfl rfl hl.1 rfl (lv_room (Nat.le_of_ble_eq_true rfl)) d_Md_sign_72 ⟨Nat.le_refl 0, Nat.le_refl 0⟩) hG (fun Xf H locs qf hG => ?_)
        refine lv_aload_n hx hb d_Md_sign_75 rfl (lv_at hl 0 rfl) ?_
        refine lv_aload_n hx hb d_Md_sign_76 rfl (lv_at hl 0 rfl) ?_
        refine g_get (ci := 7) (v := .ref (g_ad V 69)) (C := R_Md) (T := F_Md) (N := 35) hx hb hts (fun w h => List.mem_cons_of_mem _ (in_Md w h)) hown hE hG 11 (by decide) rfl rfl 23 (by decide) (hts _ (List.mem_cons_of_mem _ kw_615)) (fun _ h9 => h9) rfl d_Md_sign_77 ?_
        refine lv_iconst (v := nI (0)) hx hb d_Md_sign_80 (by decide) ?_
        refine lv_bipush (v := nI (16)) hx hb d_Md_sign_81 (by decide) ?_
        refine g_callv (va_runV (As := [.ref (g_ad V 69), .int (nI (0)), .int (nI (16))]) (rest := []) ⟨hx, hb, hml, hown, hts⟩ (c_m_feedAll l V Xf 69 (by decide) (by decide) 0 16 (by decide) (apB (X.1 58) 8 (apB (lgB w) 8 (sMU (X.1 59) (X.1 66) n))) (0 + 8 + 8) (by decide) qf.1 qf.2.1 (fun j hj => by rw [qf.2.2.1 69 (by decide), qe.2.2.1 69 (by decide), d69, Nat.zero_add, Nat.zero_add, Nat.add_assoc, apB_hi, apB_hi])) (cwV 3 hts (g_goodV kw_738 kw_735 kw_737 kp_23 kw_8) rfl rfl rfl (by decide +kernel) ⟨Nat.le_of_ble_eq_true rfl, Nat.le_of_ble_eq_true rfl⟩) (g_preV (k0 := 11) (ci := 7) hE hG (by decide) rfl rfl) rfl rfl hl.1 rfl (lv_room (Nat.le_of_ble_eq_true rfl)) d_Md_sign_83 ⟨Nat.le_refl 0, Nat.le_refl 0⟩) hG (fun Xg H locs qg hG => ?_)
        have fg : fr X Xg [54, 55, 69, 70, 71, 72, 73, 74, 75, 76, 77, 78, 79] [13, 14, 15, 16] [3] := (fr_tr2 (fr_tr2 (fr_tr2 fd qe.2.2 (by decide) (by decide) (by decide)) qf.2.2 (by decide) (by decide) (by decide)) qg.2.2 (by decide) (by decide) (by decide))
        refine lv_aload_n hx hb d_Md_sign_86 rfl (lv_at hl 0 rfl) ?_
        refine g_callv (va_runV (As := []) (rest := []) ⟨hx, hb, hml, hown, hts⟩ (c_m_stream l V Xg (apB (X.1 58) 8 (apB (lgB w) 8 (sMU (X.1 59) (X.1 66) n))) (0 + 8 + 8 + 16) (by decide) qg.1 qg.2.1 ((fg.1 53 (by decide)).trans hTu) ((fg.2.1 12 (by decide)).trans hEx)) (cwV 0 hts (g_goodV kw_714 kw_711 kw_713 kp_18 kw_8) rfl rfl rfl (by decide +kernel) ⟨Nat.le_of_ble_eq_true rfl, Nat.le_of_ble_eq_true rfl⟩) (g_preV (k0 := 11) (ci := 7) hE hG (by decide) rfl rfl) rfl rfl hl.1 rfl (lv_room (Nat.le_of_ble_eq_true rfl)) d_Md_sign_87 ⟨Nat.le_refl 0, Nat.le_refl 0⟩) hG (fun Xh H locs qh hG => ?_)
        have fh : fr X Xh [54, 55, 69, 70, 71, 72, 73, 74, 75, 76, 77, 78, 79] [13, 14, 15, 16] [3] := (fr_tr2 fg qh.2.2 (by decide) (by decide) (by decide))
        refine lv_aload_n hx hb d_Md_sign_90 rfl (lv_at hl 0 rfl) ?_
        refine lv_aload_n hx hb d_Md_sign_91 rfl (lv_at hl 0 rfl) ?_
        refine g_get (ci := 7) (v := .ref (g_ad V 70)) (C := R_Md) (T := F_Md) (N := 35) hx hb hts (fun w h => List.mem_cons_of_mem _ (in_Md w h)) hown hE hG 11 (by decide) rfl rfl 24 (by decide) (hts _ (List.mem_cons_of_mem _ kw_616)) (fun _ h9 => h9) rfl d_Md_sign_92 ?_
        refine lv_iconst (v := nI (0)) hx hb d_Md_sign_95 (by decide) ?_
        refine lv_bipush (v := nI (16)) hx hb d_Md_sign_96 (by decide) ?_
        refine g_callv (va_runV (As := [.ref (g_ad V 70), .int (nI (0)), .int (nI (16))]) (rest := []) ⟨hx, hb, hml, hown, hts⟩ (c_m_takeC l V Xh 70 (by decide) (by decide) 0 16 rfl (by decide)) (cwV 3 hts (g_goodV kw_730 kw_727 kw_729 kp_21 kw_8) rfl rfl rfl (by decide +kernel) ⟨Nat.le_of_ble_eq_true rfl, Nat.le_of_ble_eq_true rfl⟩) (g_preV (k0 := 11) (ci := 7) hE hG (by decide) rfl rfl) rfl rfl hl.1 rfl (lv_room (Nat.le_of_ble_eq_true rfl)) d_Md_sign_98 ⟨Nat.le_refl 0, Nat.le_refl 0⟩) hG (fun Xi H locs qi hG => ?_)
        have fi : fr X Xi [54, 55, 69, 70, 71, 72, 73, 74, 75, 76, 77, 78, 79] [13, 14, 15, 16] [3] := (fr_tr2 fh qi.2 (by decide) (by decide) (by decide))
        have i70 : Xi.1 70 = (sNU (X.1 58) w (sMU (X.1 59) (X.1 66) n)) := by rw [qi.1, qh.1, shI_0]; rfl
        have i69 : Xi.1 69 = (sMU (X.1 59) (X.1 66) n) := by rw [qi.2.1 69 (by decide), qh.2.2.1 69 (by decide), qg.2.2.1 69 (by decide), qf.2.2.1 69 (by decide), qe.2.2.1 69 (by decide), d69]
        have i79 : ∀ j, j < 48 → isB (Xi.1 79 j) := fun j hj => by rw [qi.2.1 79 (by decide), qh.2.2.1 79 (by decide), qg.2.2.1 79 (by decide), qf.2.2.1 79 (by decide), qe.2.2.1 79 (by decide), qd.2.1 79 (by decide), qc.2.2.1 79 (by decide), qb.2.2.1 79 (by decide), qa.2.2.1 79 (by decide)]; exact hB j hj
        refine lv_iconst (v := nI (1)) hx hb d_Md_sign_101 (by decide) ?_
        refine lv_istore (lv' := [(4, .int (nI (1))), (0, .ref (g_ad V 11)), (1, .long (w)), (3, .int (nI (T0)))]) hx hb d_Md_sign_102 hl (by decide) rfl (fun ls hl => ?_)
        have K104 : ∀ (fu i : Nat), i + fu = T0 → ∀ (X1 : Mm) (H : Heap) (locs : List Loc), ∀ (ls : Array Slot), (fr X X1 [54, 55, 69, 70, 71, 72, 73, 74, 75, 76, 77, 78, 79] [13, 14, 15, 16] [3]) → (X1.1 69 = (sMU (X.1 59) (X.1 66) n)) → (X1.1 70 = (sNU (X.1 58) w (sMU (X.1 59) (X.1 66) n))) → (X1.2.2 3 = nI 0) → (∀ j, j < 48 → isB (X1.1 79 j)) → (∀ j, j < i → ¬ tOK (sMU (X.1 59) (X.1 66) n) (X.1 60) (sNU (X.1 58) w (sMU (X.1 59) (X.1 66) n)) S E T (j + 1)) → g_st V X1 s.heap H locs → lv_has ls 5 [(0, .ref (g_ad V 11)), (3, .int (nI (T0))), (4, .int (nI (i + 1)))] → W p l e ({ frames := 5, cells := 0, slots := 0, locals := 116 } : Room) s m ([.ref (g_ad V 11), .long (w), .int (tr)] : List Value).toArray below meth c H locs 0 0 (MQ below (g_Qi V (fun (r : Int32) (X1 : Mm) => (¬ (¬ X.2.2 4 = nI 0 ∧ nI 1 ≤ tr ∧ tr ≤ nI 30) → r = -1 ∧ X = X1) ∧ ((¬ X.2.2 4 = nI 0 ∧ nI 1 ≤ tr ∧ tr ≤ nI 30) → ∃ T0, T0 ≤ 30 ∧ tr = nI T0 ∧ ((∃ k, k < T0 ∧ tOK (sMU (X.1 59) (X.1 66) n) (X.1 60) (sNU (X.1 58) w (sMU (X.1 59) (X.1 66) n)) S E T (k + 1) ∧ (∀ j, j < k → ¬ tOK (sMU (X.1 59) (X.1 66) n) (X.1 60) (sNU (X.1 58) w (sMU (X.1 59) (X.1 66) n)) S E T (j + 1)) ∧ r = nI (k + 1) ∧ X1.1 68 = tSG (sMU (X.1 59) (X.1 66) n) (X.1 60) (sNU (X.1 58) w (sMU (X.1 59) (X.1 66) n)) S E T (k + 1)) ∨ ((∀ j, j < T0 → ¬ tOK (sMU (X.1 59) (X.1 66) n) (X.1 60) (sNU (X.1 58) w (sMU (X.1 59) (X.1 66) n)) S E T (j + 1)) ∧ r = -2 ∧ X1.1 68 = X.1 68)) ∧ (∀ j, j < 48 → isB (X1.1 79 j)) ∧ X1.2.2 3 = nI 0 ∧ fr X X1 [54, 55, 68, 69, 70, 71, 72, 73, 74, 75, 76, 77, 78, 79] [13, 14, 15, 16] [3]))) ([.ref (g_ad V 11), .long (w), .int (tr)] : List Value).toArray s 0 0 (g_A V)) (F0 m 104 ls []) := by
          intro fu
          induction fu with
          | zero =>
            intro i hin104 X1 H locs ls hF m69 m70 l3 lB hN hG hl
            have hi104 : T0 = i := by omega
            subst hi104
            refine lv_iload hx hb d_Md_sign_104 (lv_at hl 2 rfl) ?_
            refine lv_iload_n hx hb d_Md_sign_106 rfl (lv_at hl 1 rfl) ?_
            refine lv_icmp_gt (tgt := 132) hx hb d_Md_sign_107 (by decide) (fun _ => ?_) (fun q => absurd ((g_gtN (x := T0 + 1) (y := T0) (by omega) (by omega)).mp q) (by omega))
            refine lv_bipush (v := -2) hx hb d_Md_sign_132 (by decide) ?_
            exact g_iret hx hb hr hlocks hE hG (⟨fun z => absurd ok z, fun _ => ⟨T0, hT0, eT, Or.inr ⟨hN, rfl, hF.1 68 (by decide)⟩, lB, l3, (fr_mono hF (a' := [54, 55, 68, 69, 70, 71, 72, 73, 74, 75, 76, 77, 78, 79]) (b' := [13, 14, 15, 16]) (c' := [3]) (by decide) (by decide) (by decide))⟩⟩) d_Md_sign_134
          | succ fu ih104 =>
            intro i hin104 X1 H locs ls hF m69 m70 l3 lB hN hG hl
            have hi104 : i < T0 := by omega
            refine lv_iload hx hb d_Md_sign_104 (lv_at hl 2 rfl) ?_
            refine lv_iload_n hx hb d_Md_sign_106 rfl (lv_at hl 1 rfl) ?_
            refine lv_icmp_gt (tgt := 132) hx hb d_Md_sign_107 (by decide) (fun q => absurd ((g_gt (x := i + 1) (y := T0) (by omega) (by omega)).mp q) (by omega)) (fun _ => ?_)
            refine lv_aload_n hx hb d_Md_sign_110 rfl (lv_at hl 0 rfl) ?_
            refine lv_iload hx hb d_Md_sign_111 (lv_at hl 2 rfl) ?_
            refine g_calli (va_runV (As := [.int (nI (i + 1))]) (rest := []) ⟨hx, hb, hml, hown, hts⟩ (c_m_attempt l V X1 (i + 1) (by omega) l3 ((hF.1 53 (by decide)).trans hTu) ((hF.2.1 12 (by decide)).trans hEx) lB S E T (by rw [hF.1 60 (by decide)]; exact hA) hS hEb hTb ((hF.1 62 (by decide)).trans h62) ((hF.1 63 (by decide)).trans h63) ((hF.1 64 (by decide)).trans h64)) (cwV 1 hts (g_goodV kw_787 kw_784 kw_786 kp_30 kw_8) rfl rfl rfl (by decide +kernel) ⟨Nat.le_of_ble_eq_true rfl, Nat.le_of_ble_eq_true rfl⟩) (g_preV (k0 := 11) (ci := 7) hE hG (by decide) rfl rfl) rfl rfl hl.1 rfl (lv_room (Nat.le_of_ble_eq_true rfl)) d_Md_sign_113 ⟨Nat.le_refl 0, Nat.le_refl 0⟩) hG (fun ra X3 H locs q3 hG => ?_)
            rw [m69, m70, hF.1 60 (by decide)] at q3
            refine lv_if_eq (tgt := 126) hx hb d_Md_sign_116 (by decide) (fun c116 => ?_) (fun c116 => ?_)
            · have n1 : ¬ tOK (sMU (X.1 59) (X.1 66) n) (X.1 60) (sNU (X.1 58) w (sMU (X.1 59) (X.1 66) n)) S E T (i + 1) := fun z => by rw [(q3.1 z).1] at c116; exact absurd c116 (by decide)
              refine lv_iinc (v := nI (i + 1 + 1)) (lv' := [(4, .int (nI (i + 1 + 1))), (0, .ref (g_ad V 11)), (3, .int (nI (T0)))]) hx hb d_Md_sign_126 hl (k := 2) rfl (g_inc _) (by decide) rfl (fun ls hl => ?_)
              refine lv_goto (tgt := 104) hx hb d_Md_sign_129 (by decide) ?_
              exact ih104 (i + 1) (by omega) X3 _ _ ls (fr_tr2 hF q3.2.2.2.2 (by decide) (by decide) (by decide)) ((q3.2.2.2.2.1 69 (by decide)).trans m69) ((q3.2.2.2.2.1 70 (by decide)).trans m70) q3.2.2.2.1 q3.2.2.1 (lt_s hN n1) hG (lv_sub hl [1, 2, 0] rfl)
            · have n1 : tOK (sMU (X.1 59) (X.1 66) n) (X.1 60) (sNU (X.1 58) w (sMU (X.1 59) (X.1 66) n)) S E T (i + 1) := Classical.byContradiction fun z => c116 (q3.2.1 z)
              refine lv_aload_n hx hb d_Md_sign_119 rfl (lv_at hl 0 rfl) ?_
              refine g_callv (va_runV (As := []) (rest := []) ⟨hx, hb, hml, hown, hts⟩ (c_m_write l V X3 (fun j => by rw [(q3.1 n1).2.2.1]; exact zP_in _ _ _ j) (by rw [(q3.1 n1).2.2.2]; exact ct_le (hnP_01 _ _) n1.2.2.2)) (cwV 0 hts (g_goodV kw_832 kw_829 kw_831 kp_37 kw_8) rfl rfl rfl (by decide +kernel) ⟨Nat.le_of_ble_eq_true rfl, Nat.le_of_ble_eq_true rfl⟩) (g_preV (k0 := 11) (ci := 7) hE hG (by decide) rfl rfl) rfl rfl hl.1 rfl (lv_room (Nat.le_of_ble_eq_true rfl)) d_Md_sign_120 ⟨Nat.le_refl 0, Nat.le_refl 0⟩) hG (fun X4 H locs q4 hG => ?_)
              refine lv_iload hx hb d_Md_sign_123 (lv_at hl 2 rfl) ?_
              exact g_iret hx hb hr hlocks hE hG (⟨fun z => absurd ok z, fun _ => ⟨T0, hT0, eT, Or.inl ⟨i, by omega, n1, hN, rfl, by rw [q4.1, (q3.1 n1).2.1, (q3.1 n1).2.2.1, (q3.1 n1).2.2.2]; rfl⟩, fun j hj => by rw [q4.2.1 79 (by decide)]; exact q3.2.2.1 j hj, (q4.2.2.2 3 (fun q => by cases q)).trans q3.2.2.2.1, (fr_tr2 (fr_mono (fr_tr2 hF q3.2.2.2.2 (by decide) (by decide) (by decide)) (a' := [54, 55, 68, 69, 70, 71, 72, 73, 74, 75, 76, 77, 78, 79]) (b' := [13, 14, 15, 16]) (c' := [3]) (by decide) (by decide) (by decide)) q4.2 (by decide) (by decide) (by decide))⟩⟩) d_Md_sign_125
        exact K104 (T0 - 0) 0 (by omega) Xi _ _ ls fi i69 i70 ((qi.2.2.2 3 (fun q => by cases q)).trans qh.2.1) i79 (fun j hj => absurd hj (Nat.not_lt_zero j)) hG (lv_sub hl [1, 3, 0] rfl)
      · refine lv_iconst (v := -1) hx hb d_Md_sign_18 (by decide) ?_
        exact g_iret hx hb hr hlocks hE hG (⟨fun _ => ⟨rfl, rfl⟩, fun z => absurd z.2.2 c15⟩) d_Md_sign_19
