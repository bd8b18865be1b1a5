set_option maxHeartbeats 4000000 in
set_option maxRecDepth 100000 in
theorem c_m_readHints (l : Launch) (V : Ev) (X : Mm) (sg : Nat → Nat) (hsg : ∀ j, j < 62 → X.1 68 j = nI (sg j)) (hsb : ∀ j, j < 62 → sg j < 256) : Met l y_Md_readHints (Cond.code y_Md_readHints b_Md_readHints 6 (some .boolean) :: WA) ({ frames := 0, cells := 0, slots := 0, locals := 0 } : Room) (g_Pc V X [.ref (g_ad V 11)]) (g_Qi V (fun (r : Int32) (X1 : Mm) => (hOK sg → r = nI 1 ∧ X1.1 78 = hRD sg) ∧ (¬ hOK sg → r = nI 0) ∧ fr X X1 [78] [] [])) 0 0 (g_A V) := by
  refine g_met (by decide) (Nat.le_of_ble_eq_true rfl) ?_
  intro p e s m below meth c hx hb hr hml hown hts hlocks hE hG ls hl
  have hl : lv_has ls 6 [(0, .ref (g_ad V 11))] := hl
  have hown : s.vm.findClass R_Md = some m.cls := hown
  have h60 := hsb 60 (by decide)
  have h61 := hsb 61 (by decide)
  refine lv_aload_n hx hb d_Md_readHints_0 rfl (lv_at hl 0 rfl) ?_
  refine g_get (ci := 7) (v := .ref (g_ad V 68)) (C := R_Md) (T := F_Md) (N := 35) hx hb hts (fun w h => List.mem_cons_of_mem _ (in_Md w h)) hown hE hG 11 (by decide) rfl rfl 22 (by decide) (hts _ (List.mem_cons_of_mem _ kw_614)) (fun _ h9 => h9) rfl d_Md_readHints_1 ?_
  refine lv_bipush (v := nI (60)) hx hb d_Md_readHints_4 (by decide) ?_
  refine g_iald hx hb hE hG 68 (by decide) (60) (rfl) (show _ < 62 by omega) (v := nI (sg 60)) (hsg 60 (by decide)) d_Md_readHints_6 ?_
  refine g_topi (y := nI (sg 60)) (rfl) ?_
  refine lv_istore_n (lv' := [(1, .int (nI (sg 60))), (0, .ref (g_ad V 11))]) hx hb d_Md_readHints_7 rfl hl (by decide) rfl (fun ls hl => ?_)
  refine lv_aload_n hx hb d_Md_readHints_8 rfl (lv_at hl 1 rfl) ?_
  refine g_get (ci := 7) (v := .ref (g_ad V 68)) (C := R_Md) (T := F_Md) (N := 35) hx hb hts (fun w h => List.mem_cons_of_mem _ (in_Md w h)) hown hE hG 11 (by decide) rfl rfl 22 (by decide) (hts _ (List.mem_cons_of_mem _ kw_614)) (fun _ h9 => h9) rfl d_Md_readHints_9 ?_
  refine lv_bipush (v := nI (61)) hx hb d_Md_readHints_12 (by decide) ?_
  refine g_iald hx hb hE hG 68 (by decide) (61) (rfl) (show _ < 62 by omega) (v := nI (sg 61)) (hsg 61 (by decide)) d_Md_readHints_14 ?_
  refine g_topi (y := nI (sg 61)) (rfl) ?_
  refine lv_istore_n (lv' := [(2, .int (nI (sg 61))), (1, .int (nI (sg 60))), (0, .ref (g_ad V 11))]) hx hb d_Md_readHints_15 rfl hl (by decide) rfl (fun ls hl => ?_)
  refine lv_iload_n hx hb d_Md_readHints_16 rfl (lv_at hl 1 rfl) ?_
  refine lv_iload_n hx hb d_Md_readHints_17 rfl (lv_at hl 0 rfl) ?_
  refine lv_icmp_gt (tgt := 27) hx hb d_Md_readHints_18 (by decide) (fun c18 => ?_) (fun c18 => ?_)
  · have c18 := (g_gt (x := sg 60) (y := sg 61) (by omega) (by omega)).mp c18
    refine lv_iconst (v := nI (0)) hx hb d_Md_readHints_27 (by decide) ?_
    exact g_zret hx hb hr hlocks hE hG (by decide) (⟨fun z => absurd z.1 (by omega), fun _ => rfl, fr_rf X _ _ _⟩) d_Md_readHints_28
  · have c18 := (g_gtN (x := sg 60) (y := sg 61) (by omega) (by omega)).mp c18
    refine lv_iload_n hx hb d_Md_readHints_21 rfl (lv_at hl 0 rfl) ?_
    refine lv_bipush (v := nI (12)) hx hb d_Md_readHints_22 (by decide) ?_
    refine lv_icmp_le (tgt := 29) hx hb d_Md_readHints_24 (by decide) (fun c24 => ?_) (fun c24 => ?_)
    · have c24 := (g_le (x := sg 61) (y := 12) (by omega) (by omega)).mp c24
      refine lv_iconst (v := nI (0)) hx hb d_Md_readHints_29 (by decide) ?_
      refine lv_istore_n (lv' := [(3, .int (nI (0))), (2, .int (nI (sg 61))), (1, .int (nI (sg 60))), (0, .ref (g_ad V 11))]) hx hb d_Md_readHints_30 rfl hl (by decide) rfl (fun ls hl => ?_)
      have K31 : ∀ (fu z : Nat), z + fu = 32 → ∀ (X1 : Mm) (H : Heap) (locs : List Loc), ∀ (ls : Array Slot), (fr X X1 [78] [] []) → (X1.1 78 = segI (fun _ => nI 0) (X.1 78) z) → g_st V X1 s.heap H locs → lv_has ls 6 [(0, .ref (g_ad V 11)), (1, .int (nI (sg 60))), (2, .int (nI (sg 61))), (3, .int (nI (z)))] → W p l e ({ frames := 0, cells := 0, slots := 0, locals := 0 } : Room) s m ([.ref (g_ad V 11)] : List Value).toArray below meth c H locs 0 0 (MQ below (g_Qi V (fun (r : Int32) (X1 : Mm) => (hOK sg → r = nI 1 ∧ X1.1 78 = hRD sg) ∧ (¬ hOK sg → r = nI 0) ∧ fr X X1 [78] [] [])) ([.ref (g_ad V 11)] : List Value).toArray s 0 0 (g_A V)) (F0 m 31 ls []) := by
        intro fu
        induction fu with
        | zero =>
          intro z hin31 X1 H locs ls hF hC hG hl
          have hi31 : 32 = z := by omega
          subst hi31
          refine lv_iload_n hx hb d_Md_readHints_31 rfl (lv_at hl 3 rfl) ?_
          refine lv_bipush (v := nI (32)) hx hb d_Md_readHints_32 (by decide) ?_
          refine lv_icmp_ge (tgt := 50) hx hb d_Md_readHints_34 (by decide) (fun _ => ?_) (fun q => absurd ((g_geN (x := 32) (y := 32) (by omega) (by omega)).mp q) (by omega))
          have hG := g_xi hG 78 (by decide) (fun _ => nI 0) (fun j hj => by rw [hC]; exact segI_e (fun _ => nI 0) _ hj)
          refine lv_iconst (v := nI (0)) hx hb d_Md_readHints_50 (by decide) ?_
          refine lv_istore_n (lv' := [(3, .int (nI (0))), (0, .ref (g_ad V 11)), (1, .int (nI (sg 60))), (2, .int (nI (sg 61)))]) hx hb d_Md_readHints_51 rfl hl (by decide) rfl (fun ls hl => ?_)
          have K52 : ∀ (fu i : Nat), i + fu = 12 → ∀ (X2 : Mm) (H : Heap) (locs : List Loc), ∀ (ls : Array Slot), (fr X X2 [78] [] []) → (okR sg i) → (X2.1 78 = hrN sg i) → g_st V X2 s.heap H locs → lv_has ls 6 [(0, .ref (g_ad V 11)), (1, .int (nI (sg 60))), (2, .int (nI (sg 61))), (3, .int (nI (i)))] → W p l e ({ frames := 0, cells := 0, slots := 0, locals := 0 } : Room) s m ([.ref (g_ad V 11)] : List Value).toArray below meth c H locs 0 0 (MQ below (g_Qi V (fun (r : Int32) (X1 : Mm) => (hOK sg → r = nI 1 ∧ X1.1 78 = hRD sg) ∧ (¬ hOK sg → r = nI 0) ∧ fr X X1 [78] [] [])) ([.ref (g_ad V 11)] : List Value).toArray s 0 0 (g_A V)) (F0 m 52 ls []) := by
            intro fu
            induction fu with
            | zero =>
              intro i hin52 X2 H locs ls hF2 hO hC2 hG hl
              have hi52 : 12 = i := by omega
              subst hi52
              refine lv_iload_n hx hb d_Md_readHints_52 rfl (lv_at hl 3 rfl) ?_
              refine lv_bipush (v := nI (12)) hx hb d_Md_readHints_53 (by decide) ?_
              refine lv_icmp_ge (tgt := 152) hx hb d_Md_readHints_55 (by decide) (fun _ => ?_) (fun q => absurd ((g_geN (x := 12) (y := 12) (by omega) (by omega)).mp q) (by omega))
              refine lv_iconst (v := nI (1)) hx hb d_Md_readHints_152 (by decide) ?_
              exact g_zret hx hb hr hlocks hE hG (by decide) (⟨fun _ => ⟨rfl, hC2.trans (hr_12 (by omega) (by omega))⟩, fun z => absurd ((ok_R (by omega) (by omega)).mpr hO) z, hF2⟩) d_Md_readHints_153
            | succ fu ih52 =>
              intro i hin52 X2 H locs ls hF2 hO hC2 hG hl
              have hi52 : i < 12 := by omega
              have hb1 := hsb (48 + i) (by omega)
              have hb2 := hsb (47 + i) (by omega)
              refine lv_iload_n hx hb d_Md_readHints_52 rfl (lv_at hl 3 rfl) ?_
              refine lv_bipush (v := nI (12)) hx hb d_Md_readHints_53 (by decide) ?_
              refine lv_icmp_ge (tgt := 152) hx hb d_Md_readHints_55 (by decide) (fun q => absurd ((g_ge (x := i) (y := 12) (by omega) (by omega)).mp q) (by omega)) (fun _ => ?_)
              refine lv_aload_n hx hb d_Md_readHints_58 rfl (lv_at hl 0 rfl) ?_
              refine g_get (ci := 7) (v := .ref (g_ad V 68)) (C := R_Md) (T := F_Md) (N := 35) hx hb hts (fun w h => List.mem_cons_of_mem _ (in_Md w h)) hown hE hG 11 (by decide) rfl rfl 22 (by decide) (hts _ (List.mem_cons_of_mem _ kw_614)) (fun _ h9 => h9) rfl d_Md_readHints_59 ?_
              refine lv_bipush (v := nI (48)) hx hb d_Md_readHints_62 (by decide) ?_
              refine lv_iload_n hx hb d_Md_readHints_64 rfl (lv_at hl 3 rfl) ?_
              refine lv_iadd hx hb d_Md_readHints_65 ?_
              refine g_topi (y := nI (48 + i)) (nI_add _ _) ?_
              refine g_iald hx hb hE hG 68 (by decide) (48 + i) (rfl) (show _ < 62 by omega) (v := nI (sg (48 + i))) ((congrFun (hF2.1 68 (by decide)) _).trans (hsg _ (by omega))) d_Md_readHints_66 ?_
              refine g_topi (y := nI (sg (48 + i))) (rfl) ?_
              refine lv_istore (lv' := [(4, .int (nI (sg (48 + i)))), (0, .ref (g_ad V 11)), (1, .int (nI (sg 60))), (2, .int (nI (sg 61))), (3, .int (nI (i)))]) hx hb d_Md_readHints_67 hl (by decide) rfl (fun ls hl => ?_)
              refine lv_iload_n hx hb d_Md_readHints_69 rfl (lv_at hl 4 rfl) ?_
              refine lv_iload_n hx hb d_Md_readHints_70 rfl (lv_at hl 3 rfl) ?_
              refine lv_icmp_lt (tgt := 81) hx hb d_Md_readHints_71 (by decide) (fun c71 => ?_) (fun c71 => ?_)
              · have c71 := (g_lt (x := i) (y := sg 61) (by omega) (by omega)).mp c71
                refine lv_iload_n hx hb d_Md_readHints_81 rfl (lv_at hl 4 rfl) ?_
                refine lv_if_eq (tgt := 104) hx hb d_Md_readHints_82 (by decide) (fun c82 => ?_) (fun c82 => ?_)
                · have c82 := (g_eq (x := i) (y := 0) (by omega) (by omega)).mp c82
                  refine lv_iconst (v := nI (1)) hx hb d_Md_readHints_104 (by decide) ?_
                  refine lv_goto (tgt := 109) hx hb d_Md_readHints_105 (by decide) ?_
                  refine lv_istore (lv' := [(5, .int (nI (1))), (4, .int (nI (sg (48 + i)))), (0, .ref (g_ad V 11)), (1, .int (nI (sg 60))), (2, .int (nI (sg 61))), (3, .int (nI (i)))]) hx hb d_Md_readHints_109 hl (by decide) rfl (fun ls hl => ?_)
                  refine lv_iload hx hb d_Md_readHints_111 (lv_at hl 1 rfl) ?_
                  refine lv_bipush (v := nI (15)) hx hb d_Md_readHints_113 (by decide) ?_
                  refine lv_icmp_gt (tgt := 123) hx hb d_Md_readHints_115 (by decide) (fun c115 => ?_) (fun c115 => ?_)
                  · have c115 := (g_gt (x := sg (48 + i)) (y := 15) (by omega) (by omega)).mp c115
                    refine lv_iconst (v := nI (0)) hx hb d_Md_readHints_123 (by decide) ?_
                    exact g_zret hx hb hr hlocks hE hG (by decide) (⟨fun z => absurd (((ok_R (by omega) (by omega)).mp z i (by omega)).2 (by omega)) (fun w => by exact absurd w.1 (by omega)), fun _ => rfl, hF2⟩) d_Md_readHints_124
                  · have c115 := (g_gtN (x := sg (48 + i)) (y := 15) (by omega) (by omega)).mp c115
                    refine lv_iload hx hb d_Md_readHints_118 (lv_at hl 0 rfl) ?_
                    refine lv_if_ne (tgt := 125) hx hb d_Md_readHints_120 (by decide) (fun _ => ?_) (fun q => absurd ((g_neN (x := 1) (y := 0) (by omega) (by omega)).mp q) (by omega))
                    refine lv_aload_n hx hb d_Md_readHints_125 rfl (lv_at hl 2 rfl) ?_
                    refine g_get (ci := 7) (v := .ref (g_ad V 78)) (C := R_Md) (T := F_Md) (N := 35) hx hb hts (fun w h => List.mem_cons_of_mem _ (in_Md w h)) hown hE hG 11 (by decide) rfl rfl 32 (by decide) (hts _ (List.mem_cons_of_mem _ kw_624)) (fun _ h9 => h9) rfl d_Md_readHints_126 ?_
                    refine lv_iload_n hx hb d_Md_readHints_129 rfl (lv_at hl 5 rfl) ?_
                    refine lv_iload_n hx hb d_Md_readHints_130 rfl (lv_at hl 3 rfl) ?_
                    refine lv_icmp_ge (tgt := 139) hx hb d_Md_readHints_131 (by decide) (fun c131 => ?_) (fun c131 => ?_)
                    · have c131 := (g_ge (x := i) (y := sg 60) (by omega) (by omega)).mp c131
                      refine lv_bipush (v := nI (16)) hx hb d_Md_readHints_139 (by decide) ?_
                      refine lv_iload hx hb d_Md_readHints_141 (lv_at hl 1 rfl) ?_
                      refine lv_iadd hx hb d_Md_readHints_143 ?_
                      refine g_topi (y := nI (16 + (sg (48 + i)))) (nI_add _ _) ?_
                      refine lv_iconst (v := nI (1)) hx hb d_Md_readHints_144 (by decide) ?_
                      refine g_iast (x := nI (1)) hx hb hE hG 78 (by decide) (16 + (sg (48 + i))) (rfl) (show _ < 32 by omega) d_Md_readHints_145 (fun H locs hG => ?_)
                      refine lv_iinc (v := nI (i + 1)) (lv' := [(3, .int (nI (i + 1))), (5, .int (nI (1))), (4, .int (nI (sg (48 + i)))), (0, .ref (g_ad V 11)), (1, .int (nI (sg 60))), (2, .int (nI (sg 61)))]) hx hb d_Md_readHints_146 hl (k := 5) rfl (g_inc _) (by decide) rfl (fun ls hl => ?_)
                      refine lv_goto (tgt := 52) hx hb d_Md_readHints_149 (by decide) ?_
                      exact ih52 (i + 1) (by omega) (uI X2 78 (upd (X2.1 78) (16 + (sg (48 + i))) (nI (1)))) _ _ ls (fr_i hF2 _ (by decide)) (lt_s hO ⟨fun q => absurd q (by omega), fun _ => ⟨by omega, Or.inl c82⟩⟩) (by rw [uI_s, hC2]; show _ = (if _ then _ else _); rw [if_pos (show i < sg 61 by omega), if_neg (show ¬ i < sg 60 by omega)]) hG (lv_sub hl [3, 4, 5, 0] rfl)
                    · have c131 := (g_geN (x := i) (y := sg 60) (by omega) (by omega)).mp c131
                      refine lv_iload hx hb d_Md_readHints_134 (lv_at hl 1 rfl) ?_
                      refine lv_goto (tgt := 144) hx hb d_Md_readHints_136 (by decide) ?_
                      refine lv_iconst (v := nI (1)) hx hb d_Md_readHints_144 (by decide) ?_
                      refine g_iast (x := nI (1)) hx hb hE hG 78 (by decide) (sg (48 + i)) (rfl) (show _ < 32 by omega) d_Md_readHints_145 (fun H locs hG => ?_)
                      refine lv_iinc (v := nI (i + 1)) (lv' := [(3, .int (nI (i + 1))), (5, .int (nI (1))), (4, .int (nI (sg (48 + i)))), (0, .ref (g_ad V 11)), (1, .int (nI (sg 60))), (2, .int (nI (sg 61)))]) hx hb d_Md_readHints_146 hl (k := 5) rfl (g_inc _) (by decide) rfl (fun ls hl => ?_)
                      refine lv_goto (tgt := 52) hx hb d_Md_readHints_149 (by decide) ?_
                      exact ih52 (i + 1) (by omega) (uI X2 78 (upd (X2.1 78) (sg (48 + i)) (nI (1)))) _ _ ls (fr_i hF2 _ (by decide)) (lt_s hO ⟨fun q => absurd q (by omega), fun _ => ⟨by omega, Or.inl c82⟩⟩) (by rw [uI_s, hC2]; show _ = (if _ then _ else _); rw [if_pos (show i < sg 61 by omega), if_pos (show i < sg 60 by omega)]) hG (lv_sub hl [3, 4, 5, 0] rfl)
                · have c82 := (g_eqN (x := i) (y := 0) (by omega) (by omega)).mp c82
                  refine lv_iload_n hx hb d_Md_readHints_85 rfl (lv_at hl 4 rfl) ?_
                  refine lv_iload_n hx hb d_Md_readHints_86 rfl (lv_at hl 2 rfl) ?_
                  refine lv_icmp_eq (tgt := 104) hx hb d_Md_readHints_87 (by decide) (fun c87 => ?_) (fun c87 => ?_)
                  · have c87 := (g_eq (x := i) (y := sg 60) (by omega) (by omega)).mp c87
                    refine lv_iconst (v := nI (1)) hx hb d_Md_readHints_104 (by decide) ?_
                    refine lv_goto (tgt := 109) hx hb d_Md_readHints_105 (by decide) ?_
                    refine lv_istore (lv' := [(5, .int (nI (1))), (4, .int (nI (sg (48 + i)))), (0, .ref (g_ad V 11)), (1, .int (nI (sg 60))), (2, .int (nI (sg 61))), (3, .int (nI (i)))]) hx hb d_Md_readHints_109 hl (by decide) rfl (fun ls hl => ?_)
                    refine lv_iload hx hb d_Md_readHints_111 (lv_at hl 1 rfl) ?_
                    refine lv_bipush (v := nI (15)) hx hb d_Md_readHints_113 (by decide) ?_
                    refine lv_icmp_gt (tgt := 123) hx hb d_Md_readHints_115 (by decide) (fun c115 => ?_) (fun c115 => ?_)
                    · have c115 := (g_gt (x := sg (48 + i)) (y := 15) (by omega) (by omega)).mp c115
                      refine lv_iconst (v := nI (0)) hx hb d_Md_readHints_123 (by decide) ?_
                      exact g_zret hx hb hr hlocks hE hG (by decide) (⟨fun z => absurd (((ok_R (by omega) (by omega)).mp z i (by omega)).2 (by omega)) (fun w => by exact absurd w.1 (by omega)), fun _ => rfl, hF2⟩) d_Md_readHints_124
                    · have c115 := (g_gtN (x := sg (48 + i)) (y := 15) (by omega) (by omega)).mp c115
                      refine lv_iload hx hb d_Md_readHints_118 (lv_at hl 0 rfl) ?_
                      refine lv_if_ne (tgt := 125) hx hb d_Md_readHints_120 (by decide) (fun _ => ?_) (fun q => absurd ((g_neN (x := 1) (y := 0) (by omega) (by omega)).mp q) (by omega))
                      refine lv_aload_n hx hb d_Md_readHints_125 rfl (lv_at hl 2 rfl) ?_
                      refine g_get (ci := 7) (v := .ref (g_ad V 78)) (C := R_Md) (T := F_Md) (N := 35) hx hb hts (fun w h => List.mem_cons_of_mem _ (in_Md w h)) hown hE hG 11 (by decide) rfl rfl 32 (by decide) (hts _ (List.mem_cons_of_mem _ kw_624)) (fun _ h9 => h9) rfl d_Md_readHints_126 ?_
                      refine lv_iload_n hx hb d_Md_readHints_129 rfl (lv_at hl 5 rfl) ?_
                      refine lv_iload_n hx hb d_Md_readHints_130 rfl (lv_at hl 3 rfl) ?_
                      refine lv_icmp_ge (tgt := 139) hx hb d_Md_readHints_131 (by decide) (fun c131 => ?_) (fun c131 => ?_)
                      · have c131 := (g_ge (x := i) (y := sg 60) (by omega) (by omega)).mp c131
                        refine lv_bipush (v := nI (16)) hx hb d_Md_readHints_139 (by decide) ?_
                        refine lv_iload hx hb d_Md_readHints_141 (lv_at hl 1 rfl) ?_
                        refine lv_iadd hx hb d_Md_readHints_143 ?_
                        refine g_topi (y := nI (16 + (sg (48 + i)))) (nI_add _ _) ?_
                        refine lv_iconst (v := nI (1)) hx hb d_Md_readHints_144 (by decide) ?_
                        refine g_iast (x := nI (1)) hx hb hE hG 78 (by decide) (16 + (sg (48 + i))) (rfl) (show _ < 32 by omega) d_Md_readHints_145 (fun H locs hG => ?_)
                        refine lv_iinc (v := nI (i + 1)) (lv' := [(3, .int (nI (i + 1))), (5, .int (nI (1))), (4, .int (nI (sg (48 + i)))), (0, .ref (g_ad V 11)), (1, .int (nI (sg 60))), (2, .int (nI (sg 61)))]) hx hb d_Md_readHints_146 hl (k := 5) rfl (g_inc _) (by decide) rfl (fun ls hl => ?_)
                        refine lv_goto (tgt := 52) hx hb d_Md_readHints_149 (by decide) ?_
                        exact ih52 (i + 1) (by omega) (uI X2 78 (upd (X2.1 78) (16 + (sg (48 + i))) (nI (1)))) _ _ ls (fr_i hF2 _ (by decide)) (lt_s hO ⟨fun q => absurd q (by omega), fun _ => ⟨by omega, Or.inr (Or.inl c87)⟩⟩) (by rw [uI_s, hC2]; show _ = (if _ then _ else _); rw [if_pos (show i < sg 61 by omega), if_neg (show ¬ i < sg 60 by omega)]) hG (lv_sub hl [3, 4, 5, 0] rfl)
                      · have c131 := (g_geN (x := i) (y := sg 60) (by omega) (by omega)).mp c131
                        refine lv_iload hx hb d_Md_readHints_134 (lv_at hl 1 rfl) ?_
                        refine lv_goto (tgt := 144) hx hb d_Md_readHints_136 (by decide) ?_
                        refine lv_iconst (v := nI (1)) hx hb d_Md_readHints_144 (by decide) ?_
                        refine g_iast (x := nI (1)) hx hb hE hG 78 (by decide) (sg (48 + i)) (rfl) (show _ < 32 by omega) d_Md_readHints_145 (fun H locs hG => ?_)
                        refine lv_iinc (v := nI (i + 1)) (lv' := [(3, .int (nI (i + 1))), (5, .int (nI (1))), (4, .int (nI (sg (48 + i)))), (0, .ref (g_ad V 11)), (1, .int (nI (sg 60))), (2, .int (nI (sg 61)))]) hx hb d_Md_readHints_146 hl (k := 5) rfl (g_inc _) (by decide) rfl (fun ls hl => ?_)
                        refine lv_goto (tgt := 52) hx hb d_Md_readHints_149 (by decide) ?_
                        exact ih52 (i + 1) (by omega) (uI X2 78 (upd (X2.1 78) (sg (48 + i)) (nI (1)))) _ _ ls (fr_i hF2 _ (by decide)) (lt_s hO ⟨fun q => absurd q (by omega), fun _ => ⟨by omega, Or.inr (Or.inl c87)⟩⟩) (by rw [uI_s, hC2]; show _ = (if _ then _ else _); rw [if_pos (show i < sg 61 by omega), if_pos (show i < sg 60 by omega)]) hG (lv_sub hl [3, 4, 5, 0] rfl)
                  · have c87 := (g_eqN (x := i) (y := sg 60) (by omega) (by omega)).mp c87
                    refine lv_iload hx hb d_Md_readHints_90 (lv_at hl 0 rfl) ?_
                    refine lv_aload_n hx hb d_Md_readHints_92 rfl (lv_at hl 1 rfl) ?_
                    refine g_get (ci := 7) (v := .ref (g_ad V 68)) (C := R_Md) (T := F_Md) (N := 35) hx hb hts (fun w h => List.mem_cons_of_mem _ (in_Md w h)) hown hE hG 11 (by decide) rfl rfl 22 (by decide) (hts _ (List.mem_cons_of_mem _ kw_614)) (fun _ h9 => h9) rfl d_Md_readHints_93 ?_
                    refine lv_bipush (v := nI (47)) hx hb d_Md_readHints_96 (by decide) ?_
                    refine lv_iload_n hx hb d_Md_readHints_98 rfl (lv_at hl 4 rfl) ?_
                    refine lv_iadd hx hb d_Md_readHints_99 ?_
                    refine g_topi (y := nI (47 + i)) (nI_add _ _) ?_
                    refine g_iald hx hb hE hG 68 (by decide) (47 + i) (rfl) (show _ < 62 by omega) (v := nI (sg (47 + i))) ((congrFun (hF2.1 68 (by decide)) _).trans (hsg _ (by omega))) d_Md_readHints_100 ?_
                    refine g_topi (y := nI (sg (47 + i))) (rfl) ?_
                    refine lv_icmp_le (tgt := 108) hx hb d_Md_readHints_101 (by decide) (fun c101 => ?_) (fun c101 => ?_)
                    · have c101 := (g_le (x := sg (48 + i)) (y := sg (47 + i)) (by omega) (by omega)).mp c101
                      refine lv_iconst (v := nI (0)) hx hb d_Md_readHints_108 (by decide) ?_
                      refine lv_istore (lv' := [(5, .int (nI (0))), (4, .int (nI (sg (48 + i)))), (0, .ref (g_ad V 11)), (1, .int (nI (sg 60))), (2, .int (nI (sg 61))), (3, .int (nI (i)))]) hx hb d_Md_readHints_109 hl (by decide) rfl (fun ls hl => ?_)
                      refine lv_iload hx hb d_Md_readHints_111 (lv_at hl 1 rfl) ?_
                      refine lv_bipush (v := nI (15)) hx hb d_Md_readHints_113 (by decide) ?_
                      refine lv_icmp_gt (tgt := 123) hx hb d_Md_readHints_115 (by decide) (fun c115 => ?_) (fun c115 => ?_)
                      · have c115 := (g_gt (x := sg (48 + i)) (y := 15) (by omega) (by omega)).mp c115
                        refine lv_iconst (v := nI (0)) hx hb d_Md_readHints_123 (by decide) ?_
                        exact g_zret hx hb hr hlocks hE hG (by decide) (⟨fun z => absurd (((ok_R (by omega) (by omega)).mp z i (by omega)).2 (by omega)) (fun w => by exact absurd w.1 (by omega)), fun _ => rfl, hF2⟩) d_Md_readHints_124
                      · have c115 := (g_gtN (x := sg (48 + i)) (y := 15) (by omega) (by omega)).mp c115
                        refine lv_iload hx hb d_Md_readHints_118 (lv_at hl 0 rfl) ?_
                        refine lv_if_ne (tgt := 125) hx hb d_Md_readHints_120 (by decide) (fun q => absurd ((g_ne (x := 0) (y := 0) (by omega) (by omega)).mp q) (by omega)) (fun _ => ?_)
                        refine lv_iconst (v := nI (0)) hx hb d_Md_readHints_123 (by decide) ?_
                        exact g_zret hx hb hr hlocks hE hG (by decide) (⟨fun z => absurd (((ok_R (by omega) (by omega)).mp z i (by omega)).2 (by omega)) (fun w => by rcases w.2 with e | e | e <;> omega), fun _ => rfl, hF2⟩) d_Md_readHints_124
                    · have c101 := (g_leN (x := sg (48 + i)) (y := sg (47 + i)) (by omega) (by omega)).mp c101
                      refine lv_iconst (v := nI (1)) hx hb d_Md_readHints_104 (by decide) ?_
                      refine lv_goto (tgt := 109) hx hb d_Md_readHints_105 (by decide) ?_
                      refine lv_istore (lv' := [(5, .int (nI (1))), (4, .int (nI (sg (48 + i)))), (0, .ref (g_ad V 11)), (1, .int (nI (sg 60))), (2, .int (nI (sg 61))), (3, .int (nI (i)))]) hx hb d_Md_readHints_109 hl (by decide) rfl (fun ls hl => ?_)
                      refine lv_iload hx hb d_Md_readHints_111 (lv_at hl 1 rfl) ?_
                      refine lv_bipush (v := nI (15)) hx hb d_Md_readHints_113 (by decide) ?_
                      refine lv_icmp_gt (tgt := 123) hx hb d_Md_readHints_115 (by decide) (fun c115 => ?_) (fun c115 => ?_)
                      · have c115 := (g_gt (x := sg (48 + i)) (y := 15) (by omega) (by omega)).mp c115
                        refine lv_iconst (v := nI (0)) hx hb d_Md_readHints_123 (by decide) ?_
                        exact g_zret hx hb hr hlocks hE hG (by decide) (⟨fun z => absurd (((ok_R (by omega) (by omega)).mp z i (by omega)).2 (by omega)) (fun w => by exact absurd w.1 (by omega)), fun _ => rfl, hF2⟩) d_Md_readHints_124
                      · have c115 := (g_gtN (x := sg (48 + i)) (y := 15) (by omega) (by omega)).mp c115
                        refine lv_iload hx hb d_Md_readHints_118 (lv_at hl 0 rfl) ?_
                        refine lv_if_ne (tgt := 125) hx hb d_Md_readHints_120 (by decide) (fun _ => ?_) (fun q => absurd ((g_neN (x := 1) (y := 0) (by omega) (by omega)).mp q) (by omega))
                        refine lv_aload_n hx hb d_Md_readHints_125 rfl (lv_at hl 2 rfl) ?_
                        refine g_get (ci := 7) (v := .ref (g_ad V 78)) (C := R_Md) (T := F_Md) (N := 35) hx hb hts (fun w h => List.mem_cons_of_mem _ (in_Md w h)) hown hE hG 11 (by decide) rfl rfl 32 (by decide) (hts _ (List.mem_cons_of_mem _ kw_624)) (fun _ h9 => h9) rfl d_Md_readHints_126 ?_
                        refine lv_iload_n hx hb d_Md_readHints_129 rfl (lv_at hl 5 rfl) ?_
                        refine lv_iload_n hx hb d_Md_readHints_130 rfl (lv_at hl 3 rfl) ?_
                        refine lv_icmp_ge (tgt := 139) hx hb d_Md_readHints_131 (by decide) (fun c131 => ?_) (fun c131 => ?_)
                        · have c131 := (g_ge (x := i) (y := sg 60) (by omega) (by omega)).mp c131
                          refine lv_bipush (v := nI (16)) hx hb d_Md_readHints_139 (by decide) ?_
                          refine lv_iload hx hb d_Md_readHints_141 (lv_at hl 1 rfl) ?_
                          refine lv_iadd hx hb d_Md_readHints_143 ?_
                          refine g_topi (y := nI (16 + (sg (48 + i)))) (nI_add _ _) ?_
                          refine lv_iconst (v := nI (1)) hx hb d_Md_readHints_144 (by decide) ?_
                          refine g_iast (x := nI (1)) hx hb hE hG 78 (by decide) (16 + (sg (48 + i))) (rfl) (show _ < 32 by omega) d_Md_readHints_145 (fun H locs hG => ?_)
                          refine lv_iinc (v := nI (i + 1)) (lv' := [(3, .int (nI (i + 1))), (5, .int (nI (1))), (4, .int (nI (sg (48 + i)))), (0, .ref (g_ad V 11)), (1, .int (nI (sg 60))), (2, .int (nI (sg 61)))]) hx hb d_Md_readHints_146 hl (k := 5) rfl (g_inc _) (by decide) rfl (fun ls hl => ?_)
                          refine lv_goto (tgt := 52) hx hb d_Md_readHints_149 (by decide) ?_
                          exact ih52 (i + 1) (by omega) (uI X2 78 (upd (X2.1 78) (16 + (sg (48 + i))) (nI (1)))) _ _ ls (fr_i hF2 _ (by decide)) (lt_s hO ⟨fun q => absurd q (by omega), fun _ => ⟨by omega, Or.inr (Or.inr c101)⟩⟩) (by rw [uI_s, hC2]; show _ = (if _ then _ else _); rw [if_pos (show i < sg 61 by omega), if_neg (show ¬ i < sg 60 by omega)]) hG (lv_sub hl [3, 4, 5, 0] rfl)
                        · have c131 := (g_geN (x := i) (y := sg 60) (by omega) (by omega)).mp c131
                          refine lv_iload hx hb d_Md_readHints_134 (lv_at hl 1 rfl) ?_
                          refine lv_goto (tgt := 144) hx hb d_Md_readHints_136 (by decide) ?_
                          refine lv_iconst (v := nI (1)) hx hb d_Md_readHints_144 (by decide) ?_
                          refine g_iast (x := nI (1)) hx hb hE hG 78 (by decide) (sg (48 + i)) (rfl) (show _ < 32 by omega) d_Md_readHints_145 (fun H locs hG => ?_)
                          refine lv_iinc (v := nI (i + 1)) (lv' := [(3, .int (nI (i + 1))), (5, .int (nI (1))), (4, .int (nI (sg (48 + i)))), (0, .ref (g_ad V 11)), (1, .int (nI (sg 60))), (2, .int (nI (sg 61)))]) hx hb d_Md_readHints_146 hl (k := 5) rfl (g_inc _) (by decide) rfl (fun ls hl => ?_)
                          refine lv_goto (tgt := 52) hx hb d_Md_readHints_149 (by decide) ?_
                          exact ih52 (i + 1) (by omega) (uI X2 78 (upd (X2.1 78) (sg (48 + i)) (nI (1)))) _ _ ls (fr_i hF2 _ (by decide)) (lt_s hO ⟨fun q => absurd q (by omega), fun _ => ⟨by omega, Or.inr (Or.inr c101)⟩⟩) (by rw [uI_s, hC2]; show _ = (if _ then _ else _); rw [if_pos (show i < sg 61 by omega), if_pos (show i < sg 60 by omega)]) hG (lv_sub hl [3, 4, 5, 0] rfl)
              · have c71 := (g_ltN (x := i) (y := sg 61) (by omega) (by omega)).mp c71
                refine lv_iload hx hb d_Md_readHints_74 (lv_at hl 0 rfl) ?_
                refine lv_if_eq (tgt := 146) hx hb d_Md_readHints_76 (by decide) (fun c76 => ?_) (fun c76 => ?_)
                · have c76 := (g_eq (x := sg (48 + i)) (y := 0) (by omega) (by omega)).mp c76
                  refine lv_iinc (v := nI (i + 1)) (lv' := [(3, .int (nI (i + 1))), (4, .int (nI (sg (48 + i)))), (0, .ref (g_ad V 11)), (1, .int (nI (sg 60))), (2, .int (nI (sg 61)))]) hx hb d_Md_readHints_146 hl (k := 4) rfl (g_inc _) (by decide) rfl (fun ls hl => ?_)
                  refine lv_goto (tgt := 52) hx hb d_Md_readHints_149 (by decide) ?_
                  exact ih52 (i + 1) (by omega) X2 _ _ ls hF2 (lt_s hO ⟨fun _ => c76, fun q => absurd q (by omega)⟩) (by rw [hC2]; show _ = (if _ then _ else _); rw [if_neg (by omega)]) hG (lv_sub hl [2, 3, 4, 0] rfl)
                · have c76 := (g_eqN (x := sg (48 + i)) (y := 0) (by omega) (by omega)).mp c76
                  refine lv_iconst (v := nI (0)) hx hb d_Md_readHints_79 (by decide) ?_
                  exact g_zret hx hb hr hlocks hE hG (by decide) (⟨fun z => absurd (((ok_R (by omega) (by omega)).mp z i (by omega)).1 (by omega)) c76, fun _ => rfl, hF2⟩) d_Md_readHints_80
          exact K52 (12 - 0) 0 (by omega) (uI X1 78 (fun _ => nI 0)) _ _ ls (fr_i hF _ (by decide)) (fun k hk => absurd hk (Nat.not_lt_zero k)) (uI_s _ _ _) hG (lv_sub hl [1, 2, 3, 0] rfl)
        | succ fu ih31 =>
          intro z hin31 X1 H locs ls hF hC hG hl
          have hi31 : z < 32 := by omega
          refine lv_iload_n hx hb d_Md_readHints_31 rfl (lv_at hl 3 rfl) ?_
          refine lv_bipush (v := nI (32)) hx hb d_Md_readHints_32 (by decide) ?_
          refine lv_icmp_ge (tgt := 50) hx hb d_Md_readHints_34 (by decide) (fun q => absurd ((g_ge (x := z) (y := 32) (by omega) (by omega)).mp q) (by omega)) (fun _ => ?_)
          refine lv_aload_n hx hb d_Md_readHints_37 rfl (lv_at hl 0 rfl) ?_
          refine g_get (ci := 7) (v := .ref (g_ad V 78)) (C := R_Md) (T := F_Md) (N := 35) hx hb hts (fun w h => List.mem_cons_of_mem _ (in_Md w h)) hown hE hG 11 (by decide) rfl rfl 32 (by decide) (hts _ (List.mem_cons_of_mem _ kw_624)) (fun _ h9 => h9) rfl d_Md_readHints_38 ?_
          refine lv_iload_n hx hb d_Md_readHints_41 rfl (lv_at hl 3 rfl) ?_
          refine lv_iconst (v := nI (0)) hx hb d_Md_readHints_42 (by decide) ?_
          refine g_iast (x := nI (0)) hx hb hE hG 78 (by decide) (z) (rfl) (show _ < 32 by omega) d_Md_readHints_43 (fun H locs hG => ?_)
          refine lv_iinc (v := nI (z + 1)) (lv' := [(3, .int (nI (z + 1))), (0, .ref (g_ad V 11)), (1, .int (nI (sg 60))), (2, .int (nI (sg 61)))]) hx hb d_Md_readHints_44 hl (k := 3) rfl (g_inc _) (by decide) rfl (fun ls hl => ?_)
          refine lv_goto (tgt := 31) hx hb d_Md_readHints_47 (by decide) ?_
          exact ih31 (z + 1) (by omega) (uI X1 78 (upd (X1.1 78) z (nI (0)))) _ _ ls (fr_i hF _ (by decide)) (by rw [uI_s, hC]; exact segI_s (fun _ => nI 0) _ _) hG (lv_sub hl [1, 2, 3, 0] rfl)
      exact K31 (32 - 0) 0 (by omega) X _ _ ls (fr_rf X _ _ _) (segI_0 _ _).symm hG (lv_sub hl [3, 2, 1, 0] rfl)
    · have c24 := (g_leN (x := sg 61) (y := 12) (by omega) (by omega)).mp c24
      refine lv_iconst (v := nI (0)) hx hb d_Md_readHints_27 (by decide) ?_
      exact g_zret hx hb hr hlocks hE hG (by decide) (⟨fun z => absurd z.2.1 (by omega), fun _ => rfl, fr_rf X _ _ _⟩) d_Md_readHints_28

set_option maxHeartbeats 4000000 in
set_option maxRecDepth 100000 in
theorem c_M_verify (l : Launch) (V : Ev) (X : Mm) (n : Nat) (hn : n ≤ 24) (hM : X.2.2 5 = nI n) (hT : X.2.2 3 = nI 0) (hTu : X.1 53 = rotT) (hEx : X.2.1 12 = rcT) (sg : Nat → Nat) (hsg : ∀ j, j < 62 → X.1 68 j = nI (sg j)) (hsb : ∀ j, j < 62 → sg j < 256) (hB : ∀ j, j < 48 → isB (X.1 79 j)) : Met l y_Md_verify (Cond.code y_Md_verify b_Md_verify 2 (some .boolean) :: WA) ({ frames := 5, cells := 0, slots := 0, locals := 116 } : Room) (g_Pc V X [.ref (g_ad V 11)]) (g_Qi V (fun (r : Int32) (X1 : Mm) => (vOK (X.1 67) (X.1 66) (X.1 68) sg n → r = nI 1) ∧ (¬ vOK (X.1 67) (X.1 66) (X.1 68) sg n → r = nI 0) ∧ (∀ j, j < 48 → isB (X1.1 79 j)) ∧ X1.2.2 3 = nI 0 ∧ fr X X1 [54, 55, 61, 65, 69, 70, 73, 74, 75, 77, 78, 79] [13, 14, 15, 16] [3])) 0 0 (g_A V) := by
  refine g_met (by decide) (Nat.le_of_ble_eq_true rfl) ?_
  intro p e s m below meth c hx hb hr hml hown hts hlocks hE hG ls hl
  have hl : lv_has ls 2 [(0, .ref (g_ad V 11))] := hl
  have hown : s.vm.findClass R_Md = some m.cls := hown
  refine lv_aload_n hx hb d_Md_verify_0 rfl (lv_at hl 0 rfl) ?_
  refine g_calli (va_runV (As := []) (rest := []) ⟨hx, hb, hml, hown, hts⟩ (c_m_readHints l V X sg hsg hsb) (cwV 0 hts (g_goodV kw_840 kw_837 kw_839 kp_38 kw_8) rfl rfl rfl (by decide +kernel) ⟨Nat.le_of_ble_eq_true rfl, Nat.le_of_ble_eq_true rfl⟩) (g_preV (k0 := 11) (ci := 7) hE hG (by decide) rfl rfl) rfl rfl hl.1 rfl (lv_room (Nat.le_of_ble_eq_true rfl)) d_Md_verify_1 ⟨Nat.le_refl 0, Nat.le_refl 0⟩) hG (fun ra Xa H locs qa hG => ?_)
  have fa : fr X Xa [54, 55, 61, 65, 69, 70, 73, 74, 75, 77, 78, 79] [13, 14, 15, 16] [3] := (fr_mono qa.2.2 (a' := [54, 55, 61, 65, 69, 70, 73, 74, 75, 77, 78, 79]) (b' := [13, 14, 15, 16]) (c' := [3]) (by decide) (by decide) (by decide))
  refine lv_if_ne (tgt := 9) hx hb d_Md_verify_4 (by decide) (fun c4 => ?_) (fun c4 => ?_)
  · have n1 : hOK sg := Classical.byContradiction fun z => c4 (qa.2.1 z)
    refine lv_iconst (v := nI (0)) hx hb d_Md_verify_9 (by decide) ?_
    refine lv_istore_n (lv' := [(1, .int (nI (0))), (0, .ref (g_ad V 11))]) hx hb d_Md_verify_10 rfl hl (by decide) rfl (fun ls hl => ?_)
    have K11 : ∀ (fu i : Nat), i + fu = 32 → ∀ (X1 : Mm) (H : Heap) (locs : List Loc), ∀ (ls : Array Slot), (fr X X1 [54, 55, 61, 65, 69, 70, 73, 74, 75, 77, 78, 79] [13, 14, 15, 16] [3]) → (X1.2.2 3 = nI 0) → (X1.1 78 = hRD sg) → (X1.1 79 = X.1 79) → (X1.1 74 = segI (rdF (rzP (X.1 68))) (X.1 74) i) → (X1.1 65 = segI (rdF (rtP (X.1 67))) (X.1 65) i) → g_st V X1 s.heap H locs → lv_has ls 2 [(0, .ref (g_ad V 11)), (1, .int (nI (i)))] → W p l e ({ frames := 5, cells := 0, slots := 0, locals := 116 } : Room) s m ([.ref (g_ad V 11)] : List Value).toArray below meth c H locs 0 0 (MQ below (g_Qi V (fun (r : Int32) (X1 : Mm) => (vOK (X.1 67) (X.1 66) (X.1 68) sg n → r = nI 1) ∧ (¬ vOK (X.1 67) (X.1 66) (X.1 68) sg n → r = nI 0) ∧ (∀ j, j < 48 → isB (X1.1 79 j)) ∧ X1.2.2 3 = nI 0 ∧ fr X X1 [54, 55, 61, 65, 69, 70, 73, 74, 75, 77, 78, 79] [13, 14, 15, 16] [3])) ([.ref (g_ad V 11)] : List Value).toArray s 0 0 (g_A V)) (F0 m 11 ls []) := by
      intro fu
      induction fu with
      | zero =>
        intro i hin11 X1 H locs ls hF h3 h78 h79 h74 h65 hG hl
        have hi11 : 32 = i := by omega
        subst hi11
        refine lv_iload_n hx hb d_Md_verify_11 rfl (lv_at hl 1 rfl) ?_
        refine lv_bipush (v := nI (32)) hx hb d_Md_verify_12 (by decide) ?_
        refine lv_icmp_ge (tgt := 83) hx hb d_Md_verify_14 (by decide) (fun _ => ?_) (fun q => absurd ((g_geN (x := 32) (y := 32) (by omega) (by omega)).mp q) (by omega))
        have hG := g_xi hG 74 (by decide) (rdF (rzP (X.1 68))) (fun j hj => by rw [h74]; exact segI_e _ _ hj)
        have hG := g_xi hG 65 (by decide) (rdF (rtP (X.1 67))) (fun j hj => by rw [uI_n _ _ (show (65 : Nat) ≠ 74 by decide), h65]; exact segI_e _ _ hj)
        obtain ⟨XY, eXY⟩ : ∃ z, z = uI (uI X1 74 (rdF (rzP (X.1 68)))) 65 (rdF (rtP (X.1 67))) := ⟨_, rfl⟩
        rw [← eXY] at hG
        have fy : fr X XY [54, 55, 61, 65, 69, 70, 73, 74, 75, 77, 78, 79] [13, 14, 15, 16] [3] := by rw [eXY]; exact fr_i (fr_i hF _ (by decide)) _ (by decide)
        have y3 : XY.2.2 3 = nI 0 := by rw [eXY]; exact h3
        have y74 : XY.1 74 = rdF (rzP (X.1 68)) := by rw [eXY]; rfl
        have y65 : XY.1 65 = rdF (rtP (X.1 67)) := by rw [eXY]; rfl
        have y78 : XY.1 78 = hRD sg := by rw [eXY]; exact h78
        have y79 : XY.1 79 = X.1 79 := by rw [eXY]; exact h79
        have ez := sz_wr (rzP (X.1 68)) (l := 504) (by decide) (by decide)
        have hG := hG
        refine lv_aload_n hx hb d_Md_verify_83 rfl (lv_at hl 0 rfl) ?_
        refine lv_aload_n hx hb d_Md_verify_84 rfl (lv_at hl 0 rfl) ?_
        refine g_get (ci := 7) (v := .ref (g_ad V 74)) (C := R_Md) (T := F_Md) (N := 35) hx hb hts (fun w h => List.mem_cons_of_mem _ (in_Md w h)) hown hE hG 11 (by decide) rfl rfl 28 (by decide) (hts _ (List.mem_cons_of_mem _ kw_620)) (fun _ h9 => h9) rfl d_Md_verify_85 ?_
        refine lv_sipush (v := nI (504)) hx hb d_Md_verify_88 (by decide) ?_
        refine g_calli (va_runV (As := [.ref (g_ad V 74), .int (nI (504))]) (rest := []) ⟨hx, hb, hml, hown, hts⟩ (c_m_wider l V XY 74 (by decide) rfl 504) (cwV 2 hts (g_goodV kw_818 kw_815 kw_817 kp_36 kw_8) rfl rfl rfl (by decide +kernel) ⟨Nat.le_of_ble_eq_true rfl, Nat.le_of_ble_eq_true rfl⟩) (g_preV (k0 := 11) (ci := 7) hE hG (by decide) rfl rfl) rfl rfl hl.1 rfl (lv_room (Nat.le_of_ble_eq_true rfl)) d_Md_verify_91 ⟨Nat.le_refl 0, Nat.le_refl 0⟩) hG (fun r6 X4 H locs r1 hG => ?_)
        obtain ⟨r1, rfl⟩ := r1
        refine g_topi (y := wrP (rdF (rzP (X.1 68))) (nI 504) 32) (by rw [r1, y74]) ?_
        refine lv_if_eq (tgt := 99) hx hb d_Md_verify_94 (by decide) (fun c94 => ?_) (fun c94 => ?_)
        · refine lv_aload_n hx hb d_Md_verify_99 rfl (lv_at hl 0 rfl) ?_
          refine lv_aload_n hx hb d_Md_verify_100 rfl (lv_at hl 0 rfl) ?_
          refine g_get (ci := 7) (v := .ref (g_ad V 67)) (C := R_Md) (T := F_Md) (N := 35) hx hb hts (fun w h => List.mem_cons_of_mem _ (in_Md w h)) hown hE hG 11 (by decide) rfl rfl 21 (by decide) (hts _ (List.mem_cons_of_mem _ kw_613)) (fun _ h9 => h9) rfl d_Md_verify_101 ?_
          refine lv_iconst (v := nI (0)) hx hb d_Md_verify_104 (by decide) ?_
          refine lv_bipush (v := nI (68)) hx hb d_Md_verify_105 (by decide) ?_
          refine g_callv (va_runV (As := [.ref (g_ad V 67), .int (nI (0)), .int (nI (68))]) (rest := []) ⟨hx, hb, hml, hown, hts⟩ (c_m_feedAll l V XY 67 (by decide) (by decide) 0 68 (by decide) (X.1 67) 0 (by decide) y3 (fun j hj => absurd hj (Nat.not_lt_zero j)) (fun j hj => by rw [fy.1 67 (by decide)])) (cwV 3 hts (g_goodV kw_738 kw_735 kw_737 kp_23 kw_8) rfl rfl rfl (by decide +kernel) ⟨Nat.le_of_ble_eq_true rfl, Nat.le_of_ble_eq_true rfl⟩) (g_preV (k0 := 11) (ci := 7) hE hG (by decide) rfl rfl) rfl rfl hl.1 rfl (lv_room (Nat.le_of_ble_eq_true rfl)) d_Md_verify_107 ⟨Nat.le_refl 0, Nat.le_refl 0⟩) hG (fun Xb H locs qb hG => ?_)
          have fb : fr X Xb [54, 55, 61, 65, 69, 70, 73, 74, 75, 77, 78, 79] [13, 14, 15, 16] [3] := (fr_tr2 fy qb.2.2 (by decide) (by decide) (by decide))
          refine lv_aload_n hx hb d_Md_verify_110 rfl (lv_at hl 0 rfl) ?_
          refine g_callv (va_runV (As := []) (rest := []) ⟨hx, hb, hml, hown, hts⟩ (c_m_stream l V Xb (X.1 67) (0 + 68) (by decide) qb.1 qb.2.1 ((fb.1 53 (by decide)).trans hTu) ((fb.2.1 12 (by decide)).trans hEx)) (cwV 0 hts (g_goodV kw_714 kw_711 kw_713 kp_18 kw_8) rfl rfl rfl (by decide +kernel) ⟨Nat.le_of_ble_eq_true rfl, Nat.le_of_ble_eq_true rfl⟩) (g_preV (k0 := 11) (ci := 7) hE hG (by decide) rfl rfl) rfl rfl hl.1 rfl (lv_room (Nat.le_of_ble_eq_true rfl)) d_Md_verify_111 ⟨Nat.le_refl 0, Nat.le_refl 0⟩) hG (fun Xc H locs qc hG => ?_)
          have fc : fr X Xc [54, 55, 61, 65, 69, 70, 73, 74, 75, 77, 78, 79] [13, 14, 15, 16] [3] := (fr_tr2 fb qc.2.2 (by decide) (by decide) (by decide))
          refine lv_aload_n hx hb d_Md_verify_114 rfl (lv_at hl 0 rfl) ?_
          refine lv_aload_n hx hb d_Md_verify_115 rfl (lv_at hl 0 rfl) ?_
          refine g_get (ci := 7) (v := .ref (g_ad V 70)) (C := R_Md) (T := F_Md) (N := 35) hx hb hts (fun w h => List.mem_cons_of_mem _ (in_Md w h)) hown hE hG 11 (by decide) rfl rfl 24 (by decide) (hts _ (List.mem_cons_of_mem _ kw_616)) (fun _ h9 => h9) rfl d_Md_verify_116 ?_
          refine lv_iconst (v := nI (0)) hx hb d_Md_verify_119 (by decide) ?_
          refine lv_bipush (v := nI (8)) hx hb d_Md_verify_120 (by decide) ?_
          refine g_callv (va_runV (As := [.ref (g_ad V 70), .int (nI (0)), .int (nI (8))]) (rest := []) ⟨hx, hb, hml, hown, hts⟩ (c_m_take l V Xc 70 (by decide) (by decide) 0 8 (by decide) (by decide)) (cwV 3 hts (g_goodV kw_730 kw_727 kw_729 kp_21 kw_8) rfl rfl rfl (by decide +kernel) ⟨Nat.le_of_ble_eq_true rfl, Nat.le_of_ble_eq_true rfl⟩) (g_preV (k0 := 11) (ci := 7) hE hG (by decide) rfl rfl) rfl rfl hl.1 rfl (lv_room (Nat.le_of_ble_eq_true rfl)) d_Md_verify_122 ⟨Nat.le_refl 0, Nat.le_refl 0⟩) hG (fun Xd H locs qd hG => ?_)
          have fd : fr X Xd [54, 55, 61, 65, 69, 70, 73, 74, 75, 77, 78, 79] [13, 14, 15, 16] [3] := (fr_tr2 fc qd.2 (by decide) (by decide) (by decide))
          refine lv_aload_n hx hb d_Md_verify_125 rfl (lv_at hl 0 rfl) ?_
          refine lv_aload_n hx hb d_Md_verify_126 rfl (lv_at hl 0 rfl) ?_
          refine g_get (ci := 7) (v := .ref (g_ad V 70)) (C := R_Md) (T := F_Md) (N := 35) hx hb hts (fun w h => List.mem_cons_of_mem _ (in_Md w h)) hown hE hG 11 (by decide) rfl rfl 24 (by decide) (hts _ (List.mem_cons_of_mem _ kw_616)) (fun _ h9 => h9) rfl d_Md_verify_127 ?_
          refine lv_iconst (v := nI (0)) hx hb d_Md_verify_130 (by decide) ?_
          refine lv_bipush (v := nI (8)) hx hb d_Md_verify_131 (by decide) ?_
          refine g_callv (va_runV (As := [.ref (g_ad V 70), .int (nI (0)), .int (nI (8))]) (rest := []) ⟨hx, hb, hml, hown, hts⟩ (c_m_feedAll l V Xd 70 (by decide) (by decide) 0 8 (by decide) (apB (HS (X.1 67) 68) 8 (X.1 66)) 0 (by decide) ((qd.2.2.2 3 (fun q => by cases q)).trans qc.2.1) (fun j hj => absurd hj (Nat.not_lt_zero j)) (fun j hj => by rw [Nat.zero_add, qd.1, qc.1, ← segI_e _ _ hj, shI_0]; exact (apB_lo _ _ hj).symm)) (cwV 3 hts (g_goodV kw_738 kw_735 kw_737 kp_23 kw_8) rfl rfl rfl (by decide +kernel) ⟨Nat.le_of_ble_eq_true rfl, Nat.le_of_ble_eq_true rfl⟩) (g_preV (k0 := 11) (ci := 7) hE hG (by decide) rfl rfl) rfl rfl hl.1 rfl (lv_room (Nat.le_of_ble_eq_true rfl)) d_Md_verify_133 ⟨Nat.le_refl 0, Nat.le_refl 0⟩) hG (fun Xe H locs qe hG => ?_)
          refine lv_aload_n hx hb d_Md_verify_136 rfl (lv_at hl 0 rfl) ?_
          refine lv_aload_n hx hb d_Md_verify_137 rfl (lv_at hl 0 rfl) ?_
          refine g_get (ci := 7) (v := .ref (g_ad V 66)) (C := R_Md) (T := F_Md) (N := 35) hx hb hts (fun w h => List.mem_cons_of_mem _ (in_Md w h)) hown hE hG 11 (by decide) rfl rfl 20 (by decide) (hts _ (List.mem_cons_of_mem _ kw_612)) (fun _ h9 => h9) rfl d_Md_verify_138 ?_
          refine lv_iconst (v := nI (0)) hx hb d_Md_verify_141 (by decide) ?_
          refine lv_aload_n hx hb d_Md_verify_142 rfl (lv_at hl 0 rfl) ?_
          refine g_get (ci := 7) (v := .int (Xe.2.2 5)) (C := R_Md) (T := F_Md) (N := 35) hx hb hts (fun w h => List.mem_cons_of_mem _ (in_Md w h)) hown hE hG 11 (by decide) rfl rfl 19 (by decide) (hts _ (List.mem_cons_of_mem _ kw_611)) (fun _ h9 => h9) rfl d_Md_verify_143 ?_
          refine g_topi (y := nI (n)) ((qe.2.2.2.2 5 (by decide)).trans ((fd.2.2 5 (by decide)).trans hM)) ?_
          refine g_callv (va_runV (As := [.ref (g_ad V 66), .int (nI (0)), .int (nI (n))]) (rest := []) ⟨hx, hb, hml, hown, hts⟩ (c_m_feedAll l V Xe 66 (by decide) (by decide) 0 n (by show 0 + n ≤ 24; omega) (apB (HS (X.1 67) 68) 8 (X.1 66)) (0 + 8) (by omega) qe.1 qe.2.1 (fun j hj => by rw [qe.2.2.1 66 (by decide), fd.1 66 (by decide), Nat.zero_add, Nat.zero_add]; exact (apB_hi _ _ _ _).symm)) (cwV 3 hts (g_goodV kw_738 kw_735 kw_737 kp_23 kw_8) rfl rfl rfl (by decide +kernel) ⟨Nat.le_of_ble_eq_true rfl, Nat.le_of_ble_eq_true rfl⟩) (g_preV (k0 := 11) (ci := 7) hE hG (by decide) rfl rfl) rfl rfl hl.1 rfl (lv_room (Nat.le_of_ble_eq_true rfl)) d_Md_verify_146 ⟨Nat.le_refl 0, Nat.le_refl 0⟩) hG (fun Xf H locs qf hG => ?_)
          have ff : fr X Xf [54, 55, 61, 65, 69, 70, 73, 74, 75, 77, 78, 79] [13, 14, 15, 16] [3] := (fr_tr2 (fr_tr2 fd qe.2.2 (by decide) (by decide) (by decide)) qf.2.2 (by decide) (by decide) (by decide))
          refine lv_aload_n hx hb d_Md_verify_149 rfl (lv_at hl 0 rfl) ?_
          refine g_callv (va_runV (As := []) (rest := []) ⟨hx, hb, hml, hown, hts⟩ (c_m_stream l V Xf (apB (HS (X.1 67) 68) 8 (X.1 66)) (0 + 8 + n) (by omega) qf.1 qf.2.1 ((ff.1 53 (by decide)).trans hTu) ((ff.2.1 12 (by decide)).trans hEx)) (cwV 0 hts (g_goodV kw_714 kw_711 kw_713 kp_18 kw_8) rfl rfl rfl (by decide +kernel) ⟨Nat.le_of_ble_eq_true rfl, Nat.le_of_ble_eq_true rfl⟩) (g_preV (k0 := 11) (ci := 7) hE hG (by decide) rfl rfl) rfl rfl hl.1 rfl (lv_room (Nat.le_of_ble_eq_true rfl)) d_Md_verify_150 ⟨Nat.le_refl 0, Nat.le_refl 0⟩) hG (fun Xg H locs qg hG => ?_)
          have fg : fr X Xg [54, 55, 61, 65, 69, 70, 73, 74, 75, 77, 78, 79] [13, 14, 15, 16] [3] := (fr_tr2 ff qg.2.2 (by decide) (by decide) (by decide))
          refine lv_aload_n hx hb d_Md_verify_153 rfl (lv_at hl 0 rfl) ?_
          refine lv_aload_n hx hb d_Md_verify_154 rfl (lv_at hl 0 rfl) ?_
          refine g_get (ci := 7) (v := .ref (g_ad V 69)) (C := R_Md) (T := F_Md) (N := 35) hx hb hts (fun w h => List.mem_cons_of_mem _ (in_Md w h)) hown hE hG 11 (by decide) rfl rfl 23 (by decide) (hts _ (List.mem_cons_of_mem _ kw_615)) (fun _ h9 => h9) rfl d_Md_verify_155 ?_
          refine lv_iconst (v := nI (0)) hx hb d_Md_verify_158 (by decide) ?_
          refine lv_bipush (v := nI (16)) hx hb d_Md_verify_159 (by decide) ?_
          refine g_callv (va_runV (As := [.ref (g_ad V 69), .int (nI (0)), .int (nI (16))]) (rest := []) ⟨hx, hb, hml, hown, hts⟩ (c_m_takeC l V Xg 69 (by decide) (by decide) 0 16 rfl (by decide)) (cwV 3 hts (g_goodV kw_730 kw_727 kw_729 kp_21 kw_8) rfl rfl rfl (by decide +kernel) ⟨Nat.le_of_ble_eq_true rfl, Nat.le_of_ble_eq_true rfl⟩) (g_preV (k0 := 11) (ci := 7) hE hG (by decide) rfl rfl) rfl rfl hl.1 rfl (lv_room (Nat.le_of_ble_eq_true rfl)) d_Md_verify_161 ⟨Nat.le_refl 0, Nat.le_refl 0⟩) hG (fun Xh H locs qh hG => ?_)
          have fh : fr X Xh [54, 55, 61, 65, 69, 70, 73, 74, 75, 77, 78, 79] [13, 14, 15, 16] [3] := (fr_tr2 fg qh.2 (by decide) (by decide) (by decide))
          have h69 : Xh.1 69 = (sMU (HS (X.1 67) 68) (X.1 66) n) := by rw [qh.1, qg.1, shI_0, Nat.zero_add]; rfl
          refine lv_aload_n hx hb d_Md_verify_164 rfl (lv_at hl 0 rfl) ?_
          refine lv_aload_n hx hb d_Md_verify_165 rfl (lv_at hl 0 rfl) ?_
          refine g_get (ci := 7) (v := .ref (g_ad V 67)) (C := R_Md) (T := F_Md) (N := 35) hx hb hts (fun w h => List.mem_cons_of_mem _ (in_Md w h)) hown hE hG 11 (by decide) rfl rfl 21 (by decide) (hts _ (List.mem_cons_of_mem _ kw_613)) (fun _ h9 => h9) rfl d_Md_verify_166 ?_
          refine lv_aload_n hx hb d_Md_verify_169 rfl (lv_at hl 0 rfl) ?_
          refine g_get (ci := 7) (v := .ref (g_ad V 61)) (C := R_Md) (T := F_Md) (N := 35) hx hb hts (fun w h => List.mem_cons_of_mem _ (in_Md w h)) hown hE hG 11 (by decide) rfl rfl 14 (by decide) (hts _ (List.mem_cons_of_mem _ kw_606)) (fun _ h9 => h9) rfl d_Md_verify_170 ?_
          refine g_callv (va_runV (As := [.ref (g_ad V 67), .ref (g_ad V 61)]) (rest := []) ⟨hx, hb, hml, hown, hts⟩ (c_m_expand_67 l V Xh ((qh.2.2.2 3 (fun q => by cases q)).trans qg.2.1) ((fh.1 53 (by decide)).trans hTu) ((fh.2.1 12 (by decide)).trans hEx)) (cwV 2 hts (g_goodV kw_734 kw_731 kw_733 kp_22 kw_8) rfl rfl rfl (by decide +kernel) ⟨Nat.le_of_ble_eq_true rfl, Nat.le_of_ble_eq_true rfl⟩) (g_preV (k0 := 11) (ci := 7) hE hG (by decide) rfl rfl) rfl rfl hl.1 rfl (lv_room (Nat.le_of_ble_eq_true rfl)) d_Md_verify_173 ⟨Nat.le_refl 0, Nat.le_refl 0⟩) hG (fun Xi H locs qi hG => ?_)
          have fi : fr X Xi [54, 55, 61, 65, 69, 70, 73, 74, 75, 77, 78, 79] [13, 14, 15, 16] [3] := (fr_tr2 fh qi.2.2 (by decide) (by decide) (by decide))
          have i61 : Xi.1 61 = matP (X.1 67) := by rw [qi.1, fh.1 67 (by decide)]
          have i74 : Xi.1 74 = rdF (rzP (X.1 68)) := by rw [qi.2.2.1 74 (by decide), qh.2.1 74 (by decide), qg.2.2.1 74 (by decide), qf.2.2.1 74 (by decide), qe.2.2.1 74 (by decide), qd.2.1 74 (by decide), qc.2.2.1 74 (by decide), qb.2.2.1 74 (by decide), y74]
          have i65 : Xi.1 65 = rdF (rtP (X.1 67)) := by rw [qi.2.2.1 65 (by decide), qh.2.1 65 (by decide), qg.2.2.1 65 (by decide), qf.2.2.1 65 (by decide), qe.2.2.1 65 (by decide), qd.2.1 65 (by decide), qc.2.2.1 65 (by decide), qb.2.2.1 65 (by decide), y65]
          have i78 : Xi.1 78 = hRD sg := by rw [qi.2.2.1 78 (by decide), qh.2.1 78 (by decide), qg.2.2.1 78 (by decide), qf.2.2.1 78 (by decide), qe.2.2.1 78 (by decide), qd.2.1 78 (by decide), qc.2.2.1 78 (by decide), qb.2.2.1 78 (by decide), y78]
          have i79 : Xi.1 79 = X.1 79 := by rw [qi.2.2.1 79 (by decide), qh.2.1 79 (by decide), qg.2.2.1 79 (by decide), qf.2.2.1 79 (by decide), qe.2.2.1 79 (by decide), qd.2.1 79 (by decide), qc.2.2.1 79 (by decide), qb.2.2.1 79 (by decide), y79]
          refine lv_aload_n hx hb d_Md_verify_176 rfl (lv_at hl 0 rfl) ?_
          refine lv_aload_n hx hb d_Md_verify_177 rfl (lv_at hl 0 rfl) ?_
          refine g_get (ci := 7) (v := .ref (g_ad V 61)) (C := R_Md) (T := F_Md) (N := 35) hx hb hts (fun w h => List.mem_cons_of_mem _ (in_Md w h)) hown hE hG 11 (by decide) rfl rfl 14 (by decide) (hts _ (List.mem_cons_of_mem _ kw_606)) (fun _ h9 => h9) rfl d_Md_verify_178 ?_
          refine lv_aload_n hx hb d_Md_verify_181 rfl (lv_at hl 0 rfl) ?_
          refine g_get (ci := 7) (v := .ref (g_ad V 74)) (C := R_Md) (T := F_Md) (N := 35) hx hb hts (fun w h => List.mem_cons_of_mem _ (in_Md w h)) hown hE hG 11 (by decide) rfl rfl 28 (by decide) (hts _ (List.mem_cons_of_mem _ kw_620)) (fun _ h9 => h9) rfl d_Md_verify_182 ?_
          refine lv_aload_n hx hb d_Md_verify_185 rfl (lv_at hl 0 rfl) ?_
          refine g_get (ci := 7) (v := .ref (g_ad V 73)) (C := R_Md) (T := F_Md) (N := 35) hx hb hts (fun w h => List.mem_cons_of_mem _ (in_Md w h)) hown hE hG 11 (by decide) rfl rfl 27 (by decide) (hts _ (List.mem_cons_of_mem _ kw_619)) (fun _ h9 => h9) rfl d_Md_verify_186 ?_
          refine g_callv (va_runV (As := [.ref (g_ad V 61), .ref (g_ad V 74), .ref (g_ad V 73)]) (rest := []) ⟨hx, hb, hml, hown, hts⟩ (c_m_apply l V Xi 61 (by decide) rfl 74 (by decide) rfl 73 (by decide) rfl (by decide) (by decide)) (cwV 3 hts (g_goodV kw_756 kw_753 kw_755 kp_26 kw_8) rfl rfl rfl (by decide +kernel) ⟨Nat.le_of_ble_eq_true rfl, Nat.le_of_ble_eq_true rfl⟩) (g_preV (k0 := 11) (ci := 7) hE hG (by decide) rfl rfl) rfl rfl hl.1 rfl (lv_room (Nat.le_of_ble_eq_true rfl)) d_Md_verify_189 ⟨Nat.le_refl 0, Nat.le_refl 0⟩) hG (fun Xj H locs qj hG => ?_)
          have jm : Xj.1 73 = maP (matP (X.1 67)) (rdF (rzP (X.1 68))) := by rw [qj.1, i61, i74]
          have hG := g_xi hG 73 (by decide) (mmP (matP (X.1 67)) (rzP (X.1 68))) (fun j hj => by rw [jm]; exact (ma_mm (matP_in _) (bqn_y (rzP_in _) 32) (show j < 32 from hj)).symm)
          obtain ⟨XJ, eXJ⟩ : ∃ z, z = uI Xj 73 (mmP (matP (X.1 67)) (rzP (X.1 68))) := ⟨_, rfl⟩
          rw [← eXJ] at hG
          have fJ : fr X XJ [54, 55, 61, 65, 69, 70, 73, 74, 75, 77, 78, 79] [13, 14, 15, 16] [3] := by rw [eXJ]; exact fr_i (fr_tr2 fi qj.2 (by decide) (by decide) (by decide)) _ (by decide)
          have oJ : ∀ c, c ≠ 73 → XJ.1 c = Xi.1 c := fun c hc => by rw [eXJ, uI_n _ _ hc]; exact qj.2.1 c (ni_1 hc)
          have J73 : XJ.1 73 = (mmP (matP (X.1 67)) (rzP (X.1 68))) := by rw [eXJ]; exact uI_s _ _ _
          have J3 : XJ.2.2 3 = nI 0 := by rw [eXJ]; exact (qj.2.2.2 3 (fun q => by cases q)).trans qi.2.1
          have hG := hG
          refine lv_aload_n hx hb d_Md_verify_192 rfl (lv_at hl 0 rfl) ?_
          refine lv_aload_n hx hb d_Md_verify_193 rfl (lv_at hl 0 rfl) ?_
          refine g_get (ci := 7) (v := .ref (g_ad V 68)) (C := R_Md) (T := F_Md) (N := 35) hx hb hts (fun w h => List.mem_cons_of_mem _ (in_Md w h)) hown hE hG 11 (by decide) rfl rfl 22 (by decide) (hts _ (List.mem_cons_of_mem _ kw_614)) (fun _ h9 => h9) rfl d_Md_verify_194 ?_
          refine g_callv (va_runV (As := [.ref (g_ad V 68)]) (rest := []) ⟨hx, hb, hml, hown, hts⟩ (c_m_ballOf l V XJ 68 (by decide) (by decide) (by decide) J3 ((fJ.1 53 (by decide)).trans hTu) ((fJ.2.1 12 (by decide)).trans hEx)) (cwV 1 hts (g_goodV kw_810 kw_807 kw_809 kp_34 kw_8) rfl rfl rfl (by decide +kernel) ⟨Nat.le_of_ble_eq_true rfl, Nat.le_of_ble_eq_true rfl⟩) (g_preV (k0 := 11) (ci := 7) hE hG (by decide) rfl rfl) rfl rfl hl.1 rfl (lv_room (Nat.le_of_ble_eq_true rfl)) d_Md_verify_197 ⟨Nat.le_refl 0, Nat.le_refl 0⟩) hG (fun Xk H locs qk hG => ?_)
          have fk : fr X Xk [54, 55, 61, 65, 69, 70, 73, 74, 75, 77, 78, 79] [13, 14, 15, 16] [3] := (fr_tr2 fJ qk.2.2 (by decide) (by decide) (by decide))
          have k77 : Xk.1 77 = (blP (HS (X.1 68) 8)) := by rw [qk.1, fJ.1 68 (by decide)]
          refine lv_aload_n hx hb d_Md_verify_200 rfl (lv_at hl 0 rfl) ?_
          refine lv_aload_n hx hb d_Md_verify_201 rfl (lv_at hl 0 rfl) ?_
          refine g_get (ci := 7) (v := .ref (g_ad V 65)) (C := R_Md) (T := F_Md) (N := 35) hx hb hts (fun w h => List.mem_cons_of_mem _ (in_Md w h)) hown hE hG 11 (by decide) rfl rfl 18 (by decide) (hts _ (List.mem_cons_of_mem _ kw_610)) (fun _ h9 => h9) rfl d_Md_verify_202 ?_
          refine lv_iconst (v := -1) hx hb d_Md_verify_205 (by decide) ?_
          refine lv_aload_n hx hb d_Md_verify_206 rfl (lv_at hl 0 rfl) ?_
          refine g_get (ci := 7) (v := .ref (g_ad V 73)) (C := R_Md) (T := F_Md) (N := 35) hx hb hts (fun w h => List.mem_cons_of_mem _ (in_Md w h)) hown hE hG 11 (by decide) rfl rfl 27 (by decide) (hts _ (List.mem_cons_of_mem _ kw_619)) (fun _ h9 => h9) rfl d_Md_verify_207 ?_
          refine lv_aload_n hx hb d_Md_verify_210 rfl (lv_at hl 0 rfl) ?_
          refine g_get (ci := 7) (v := .ref (g_ad V 75)) (C := R_Md) (T := F_Md) (N := 35) hx hb hts (fun w h => List.mem_cons_of_mem _ (in_Md w h)) hown hE hG 11 (by decide) rfl rfl 29 (by decide) (hts _ (List.mem_cons_of_mem _ kw_621)) (fun _ h9 => h9) rfl d_Md_verify_211 ?_
          refine g_callv (va_runV (As := [.ref (g_ad V 65), .int (-1), .ref (g_ad V 73), .ref (g_ad V 75)]) (rest := []) ⟨hx, hb, hml, hown, hts⟩ (c_m_shift l V Xk 65 (by decide) rfl (-1) 73 (by decide) rfl 75 (by decide) rfl (by decide) (by decide) (by decide)) (cwV 4 hts (g_goodV kw_814 kw_811 kw_813 kp_35 kw_8) rfl rfl rfl (by decide +kernel) ⟨Nat.le_of_ble_eq_true rfl, Nat.le_of_ble_eq_true rfl⟩) (g_preV (k0 := 11) (ci := 7) hE hG (by decide) rfl rfl) rfl rfl hl.1 rfl (lv_room (Nat.le_of_ble_eq_true rfl)) d_Md_verify_214 ⟨Nat.le_refl 0, Nat.le_refl 0⟩) hG (fun Xl H locs ql hG => ?_)
          have lm : Xl.1 75 = shP (blP (HS (X.1 68) 8)) (rdF (rtP (X.1 67))) (-1) (mmP (matP (X.1 67)) (rzP (X.1 68))) := by rw [ql.1, k77, qk.2.2.1 65 (by decide), oJ 65 (by decide), i65, qk.2.2.1 73 (by decide), J73]
          have hG := g_xi hG 75 (by decide) (uP (mmP (matP (X.1 67)) (rzP (X.1 68))) (blP (HS (X.1 68) 8)) (rtP (X.1 67))) (fun j hj => by rw [lm]; exact (u_eq (blP_in _) (rtP_in _) (mmP_in _ _) (show j < 32 from hj)).symm)
          obtain ⟨XL, eXL⟩ : ∃ z, z = uI Xl 75 (uP (mmP (matP (X.1 67)) (rzP (X.1 68))) (blP (HS (X.1 68) 8)) (rtP (X.1 67))) := ⟨_, rfl⟩
          rw [← eXL] at hG
          have fL : fr X XL [54, 55, 61, 65, 69, 70, 73, 74, 75, 77, 78, 79] [13, 14, 15, 16] [3] := by rw [eXL]; exact fr_i (fr_tr2 fk ql.2 (by decide) (by decide) (by decide)) _ (by decide)
          have oL : ∀ c, c ≠ 75 → XL.1 c = Xk.1 c := fun c hc => by rw [eXL, uI_n _ _ hc]; exact ql.2.1 c (ni_1 hc)
          have L75 : XL.1 75 = (uP (mmP (matP (X.1 67)) (rzP (X.1 68))) (blP (HS (X.1 68) 8)) (rtP (X.1 67))) := by rw [eXL]; exact uI_s _ _ _
          have L3 : XL.2.2 3 = nI 0 := by rw [eXL]; exact (ql.2.2.2 3 (fun q => by cases q)).trans qk.2.1
          have L78 : XL.1 78 = hRD sg := by rw [oL 78 (by decide), qk.2.2.1 78 (by decide), oJ 78 (by decide), i78]
          have L79 : XL.1 79 = X.1 79 := by rw [oL 79 (by decide), qk.2.2.1 79 (by decide), oJ 79 (by decide), i79]
          have L69 : XL.1 69 = (sMU (HS (X.1 67) 68) (X.1 66) n) := by rw [oL 69 (by decide), qk.2.2.1 69 (by decide), oJ 69 (by decide), qi.2.2.1 69 (by decide), h69]
          have hG := hG
          refine lv_iconst (v := nI (0)) hx hb d_Md_verify_217 (by decide) ?_
          refine lv_istore_n (lv' := [(1, .int (nI (0))), (0, .ref (g_ad V 11))]) hx hb d_Md_verify_218 rfl hl (by decide) rfl (fun ls hl => ?_)
          have K219 : ∀ (fu i : Nat), i + fu = 32 → ∀ (X2 : Mm) (H : Heap) (locs : List Loc), ∀ (ls : Array Slot), (fr X X2 [54, 55, 61, 65, 69, 70, 73, 74, 75, 77, 78, 79] [13, 14, 15, 16] [3]) → (X2.2.2 3 = nI 0) → (X2.1 75 = (uP (mmP (matP (X.1 67)) (rzP (X.1 68))) (blP (HS (X.1 68) 8)) (rtP (X.1 67)))) → (X2.1 78 = hRD sg) → (X2.1 69 = (sMU (HS (X.1 67) 68) (X.1 66) n)) → (X2.1 79 = pkN (X.1 79) (crP (hRD sg) (matP (X.1 67)) (rzP (X.1 68)) (blP (HS (X.1 68) 8)) (rtP (X.1 67))) 0 12 i) → g_st V X2 s.heap H locs → lv_has ls 2 [(0, .ref (g_ad V 11)), (1, .int (nI (i)))] → W p l e ({ frames := 5, cells := 0, slots := 0, locals := 116 } : Room) s m ([.ref (g_ad V 11)] : List Value).toArray below meth c H locs 0 0 (MQ below (g_Qi V (fun (r : Int32) (X1 : Mm) => (vOK (X.1 67) (X.1 66) (X.1 68) sg n → r = nI 1) ∧ (¬ vOK (X.1 67) (X.1 66) (X.1 68) sg n → r = nI 0) ∧ (∀ j, j < 48 → isB (X1.1 79 j)) ∧ X1.2.2 3 = nI 0 ∧ fr X X1 [54, 55, 61, 65, 69, 70, 73, 74, 75, 77, 78, 79] [13, 14, 15, 16] [3])) ([.ref (g_ad V 11)] : List Value).toArray s 0 0 (g_A V)) (F0 m 219 ls []) := by
            intro fu
            induction fu with
            | zero =>
              intro i hin219 X2 H locs ls hF2 m3 m75 m78 m69 m79 hG hl
              have hi219 : 32 = i := by omega
              subst hi219
              refine lv_iload_n hx hb d_Md_verify_219 rfl (lv_at hl 1 rfl) ?_
              refine lv_bipush (v := nI (32)) hx hb d_Md_verify_220 (by decide) ?_
              refine lv_icmp_ge (tgt := 261) hx hb d_Md_verify_222 (by decide) (fun _ => ?_) (fun q => absurd ((g_geN (x := 32) (y := 32) (by omega) (by omega)).mp q) (by omega))
              have hG := g_xi hG 79 (by decide) (segI (pcP (crP (hRD sg) (matP (X.1 67)) (rzP (X.1 68)) (blP (HS (X.1 68) 8)) (rtP (X.1 67))) 0 12 32) (X.1 79) 48) (fun j hj => by
                    by_cases h48 : j < 48
                    · rw [← segI_e _ _ h48, m79]; exact pc_eq0 hB (by decide) h48
                    · rw [segI_ge _ _ (by omega), m79, pkN_out _ _ 0 12 48 (by omega) 32 (by decide)])
              obtain ⟨XB, eXB⟩ : ∃ z, z = uI X2 79 (segI (pcP (crP (hRD sg) (matP (X.1 67)) (rzP (X.1 68)) (blP (HS (X.1 68) 8)) (rtP (X.1 67))) 0 12 32) (X.1 79) 48) := ⟨_, rfl⟩
              rw [← eXB] at hG
              have fB : fr X XB [54, 55, 61, 65, 69, 70, 73, 74, 75, 77, 78, 79] [13, 14, 15, 16] [3] := by rw [eXB]; exact fr_i hF2 _ (by decide)
              have b3 : XB.2.2 3 = nI 0 := by rw [eXB]; exact m3
              have b69 : XB.1 69 = (sMU (HS (X.1 67) 68) (X.1 66) n) := by rw [eXB]; exact m69
              have b79 : XB.1 79 = segI (pcP (crP (hRD sg) (matP (X.1 67)) (rzP (X.1 68)) (blP (HS (X.1 68) 8)) (rtP (X.1 67))) 0 12 32) (X.1 79) 48 := by rw [eXB]; rfl
              have hG := hG
              refine lv_aload_n hx hb d_Md_verify_261 rfl (lv_at hl 0 rfl) ?_
              refine g_callv (va_runV (As := []) (rest := []) ⟨hx, hb, hml, hown, hts⟩ (c_m_sealing l V XB b3 ((fB.1 53 (by decide)).trans hTu) ((fB.2.1 12 (by decide)).trans hEx)) (cwV 0 hts (g_goodV kw_806 kw_803 kw_805 kp_33 kw_8) rfl rfl rfl (by decide +kernel) ⟨Nat.le_of_ble_eq_true rfl, Nat.le_of_ble_eq_true rfl⟩) (g_preV (k0 := 11) (ci := 7) hE hG (by decide) rfl rfl) rfl rfl hl.1 rfl (lv_room (Nat.le_of_ble_eq_true rfl)) d_Md_verify_262 ⟨Nat.le_refl 0, Nat.le_refl 0⟩) hG (fun Xs H locs qs hG => ?_)
              have fs : fr X Xs [54, 55, 61, 65, 69, 70, 73, 74, 75, 77, 78, 79] [13, 14, 15, 16] [3] := (fr_tr2 fB qs.2.2 (by decide) (by decide) (by decide))
              have s55 : Xs.1 55 = vSE (X.1 67) (X.1 66) (X.1 68) sg n := by rw [qs.1, b69, b79]; exact HS_seg _ _ _
              have s79 : ∀ j, j < 48 → isB (Xs.1 79 j) := fun j hj => by rw [qs.2.2.1 79 (by decide), b79, ← segI_e _ _ hj, ← Nat.zero_add j]; exact pc_isB _ (L := 48) (by decide) hj
              refine lv_iconst (v := nI (0)) hx hb d_Md_verify_265 (by decide) ?_
              refine lv_istore_n (lv' := [(1, .int (nI (0))), (0, .ref (g_ad V 11))]) hx hb d_Md_verify_266 rfl hl (by decide) rfl (fun ls hl => ?_)
              have K267 : ∀ (fu i : Nat), i + fu = 8 → ∀ (ls : Array Slot), (∀ j, j < i → vSE (X.1 67) (X.1 66) (X.1 68) sg n j = (X.1 68) j) → lv_has ls 2 [(0, .ref (g_ad V 11)), (1, .int (nI (i)))] → W p l e ({ frames := 5, cells := 0, slots := 0, locals := 116 } : Room) s m ([.ref (g_ad V 11)] : List Value).toArray below meth c H locs 0 0 (MQ below (g_Qi V (fun (r : Int32) (X1 : Mm) => (vOK (X.1 67) (X.1 66) (X.1 68) sg n → r = nI 1) ∧ (¬ vOK (X.1 67) (X.1 66) (X.1 68) sg n → r = nI 0) ∧ (∀ j, j < 48 → isB (X1.1 79 j)) ∧ X1.2.2 3 = nI 0 ∧ fr X X1 [54, 55, 61, 65, 69, 70, 73, 74, 75, 77, 78, 79] [13, 14, 15, 16] [3])) ([.ref (g_ad V 11)] : List Value).toArray s 0 0 (g_A V)) (F0 m 267 ls []) := by
                intro fu
                induction fu with
                | zero =>
                  intro i hin267 ls hQ hl
                  have hi267 : 8 = i := by omega
                  subst hi267
                  refine lv_iload_n hx hb d_Md_verify_267 rfl (lv_at hl 1 rfl) ?_
                  refine lv_bipush (v := nI (8)) hx hb d_Md_verify_268 (by decide) ?_
                  refine lv_icmp_ge (tgt := 296) hx hb d_Md_verify_270 (by decide) (fun _ => ?_) (fun q => absurd ((g_geN (x := 8) (y := 8) (by omega) (by omega)).mp q) (by omega))
                  refine lv_iconst (v := nI (1)) hx hb d_Md_verify_296 (by decide) ?_
                  exact g_zret hx hb hr hlocks hE hG (by decide) (⟨fun _ => rfl, fun z => absurd ⟨n1, ez.mpr c94, hQ⟩ z, s79, qs.2.1, fs⟩) d_Md_verify_297
                | succ fu ih267 =>
                  intro i hin267 ls hQ hl
                  have hi267 : i < 8 := by omega
                  refine lv_iload_n hx hb d_Md_verify_267 rfl (lv_at hl 1 rfl) ?_
                  refine lv_bipush (v := nI (8)) hx hb d_Md_verify_268 (by decide) ?_
                  refine lv_icmp_ge (tgt := 296) hx hb d_Md_verify_270 (by decide) (fun q => absurd ((g_ge (x := i) (y := 8) (by omega) (by omega)).mp q) (by omega)) (fun _ => ?_)
                  refine lv_aload_n hx hb d_Md_verify_273 rfl (lv_at hl 0 rfl) ?_
                  refine g_get (ci := 7) (v := .ref (g_ad V 55)) (C := R_Md) (T := F_Md) (N := 35) hx hb hts (fun w h => List.mem_cons_of_mem _ (in_Md w h)) hown hE hG 11 (by decide) rfl rfl 7 (by decide) (hts _ (List.mem_cons_of_mem _ kw_599)) (fun _ h9 => h9) rfl d_Md_verify_274 ?_
                  refine lv_iload_n hx hb d_Md_verify_277 rfl (lv_at hl 1 rfl) ?_
                  refine g_iald hx hb hE hG 55 (by decide) (i) (rfl) (show _ < 136 by omega) (v := vSE (X.1 67) (X.1 66) (X.1 68) sg n i) (congrFun s55 _) d_Md_verify_278 ?_
                  refine lv_aload_n hx hb d_Md_verify_279 rfl (lv_at hl 0 rfl) ?_
                  refine g_get (ci := 7) (v := .ref (g_ad V 68)) (C := R_Md) (T := F_Md) (N := 35) hx hb hts (fun w h => List.mem_cons_of_mem _ (in_Md w h)) hown hE hG 11 (by decide) rfl rfl 22 (by decide) (hts _ (List.mem_cons_of_mem _ kw_614)) (fun _ h9 => h9) rfl d_Md_verify_280 ?_
                  refine lv_iload_n hx hb d_Md_verify_283 rfl (lv_at hl 1 rfl) ?_
                  refine g_iald hx hb hE hG 68 (by decide) (i) (rfl) (show _ < 62 by omega) (v := (X.1 68) i) (congrFun (fs.1 68 (by decide)) _) d_Md_verify_284 ?_
                  refine lv_icmp_eq (tgt := 290) hx hb d_Md_verify_285 (by decide) (fun c285 => ?_) (fun c285 => ?_)
                  · refine lv_iinc (v := nI (i + 1)) (lv' := [(1, .int (nI (i + 1))), (0, .ref (g_ad V 11))]) hx hb d_Md_verify_290 hl (k := 1) rfl (g_inc _) (by decide) rfl (fun ls hl => ?_)
                    refine lv_goto (tgt := 267) hx hb d_Md_verify_293 (by decide) ?_
                    exact ih267 (i + 1) (by omega) ls (lt_s hQ c285) (lv_sub hl [1, 0] rfl)
                  · refine lv_iconst (v := nI (0)) hx hb d_Md_verify_288 (by decide) ?_
                    exact g_zret hx hb hr hlocks hE hG (by decide) (⟨fun z => absurd (z.2.2 i (by omega)) c285, fun _ => rfl, s79, qs.2.1, fs⟩) d_Md_verify_289
              exact K267 (8 - 0) 0 (by omega) ls lt_0 (lv_sub hl [1, 0] rfl)
            | succ fu ih219 =>
              intro i hin219 X2 H locs ls hF2 m3 m75 m78 m69 m79 hG hl
              have hi219 : i < 32 := by omega
              refine lv_iload_n hx hb d_Md_verify_219 rfl (lv_at hl 1 rfl) ?_
              refine lv_bipush (v := nI (32)) hx hb d_Md_verify_220 (by decide) ?_
              refine lv_icmp_ge (tgt := 261) hx hb d_Md_verify_222 (by decide) (fun q => absurd ((g_ge (x := i) (y := 32) (by omega) (by omega)).mp q) (by omega)) (fun _ => ?_)
              refine lv_aload_n hx hb d_Md_verify_225 rfl (lv_at hl 0 rfl) ?_
              refine lv_aload_n hx hb d_Md_verify_226 rfl (lv_at hl 0 rfl) ?_
              refine g_get (ci := 7) (v := .ref (g_ad V 79)) (C := R_Md) (T := F_Md) (N := 35) hx hb hts (fun w h => List.mem_cons_of_mem _ (in_Md w h)) hown hE hG 11 (by decide) rfl rfl 33 (by decide) (hts _ (List.mem_cons_of_mem _ kw_625)) (fun _ h9 => h9) rfl d_Md_verify_227 ?_
              refine lv_iconst (v := nI (0)) hx hb d_Md_verify_230 (by decide) ?_
              refine lv_bipush (v := nI (12)) hx hb d_Md_verify_231 (by decide) ?_
              refine lv_iload_n hx hb d_Md_verify_233 rfl (lv_at hl 1 rfl) ?_
              refine lv_imul hx hb d_Md_verify_234 ?_
              refine g_topi (y := nI (12 * i)) (pk_mul _ _) ?_
              refine lv_bipush (v := nI (12)) hx hb d_Md_verify_235 (by decide) ?_
              refine lv_aload_n hx hb d_Md_verify_237 rfl (lv_at hl 0 rfl) ?_
              refine g_get (ci := 7) (v := .ref (g_ad V 78)) (C := R_Md) (T := F_Md) (N := 35) hx hb hts (fun w h => List.mem_cons_of_mem _ (in_Md w h)) hown hE hG 11 (by decide) rfl rfl 32 (by decide) (hts _ (List.mem_cons_of_mem _ kw_624)) (fun _ h9 => h9) rfl d_Md_verify_238 ?_
              refine lv_iload_n hx hb d_Md_verify_241 rfl (lv_at hl 1 rfl) ?_
              refine g_iald hx hb hE hG 78 (by decide) (i) (rfl) (show _ < 32 by omega) (v := hRD sg i) (congrFun m78 _) d_Md_verify_242 ?_
              refine lv_aload_n hx hb d_Md_verify_243 rfl (lv_at hl 0 rfl) ?_
              refine g_get (ci := 7) (v := .ref (g_ad V 75)) (C := R_Md) (T := F_Md) (N := 35) hx hb hts (fun w h => List.mem_cons_of_mem _ (in_Md w h)) hown hE hG 11 (by decide) rfl rfl 29 (by decide) (hts _ (List.mem_cons_of_mem _ kw_621)) (fun _ h9 => h9) rfl d_Md_verify_244 ?_
              refine lv_iload_n hx hb d_Md_verify_247 rfl (lv_at hl 1 rfl) ?_
              refine g_iald hx hb hE hG 75 (by decide) (i) (rfl) (show _ < 32 by omega) (v := (uP (mmP (matP (X.1 67)) (rzP (X.1 68))) (blP (HS (X.1 68) 8)) (rtP (X.1 67))) i) (congrFun m75 _) d_Md_verify_248 ?_
              refine g_callpi (va_runS (As := [.int (hRD sg i), .int ((uP (mmP (matP (X.1 67)) (rzP (X.1 68))) (blP (HS (X.1 68) 8)) (rtP (X.1 67))) i)]) (rest := [.int (nI (12)), .int (nI (12 * i)), .int (nI (0)), .ref (g_ad V 79), .ref (g_ad V 11)]) ⟨hx, hb, hml, hown, hts⟩ (c_m_correctedBy l (hRD sg i) ((uP (mmP (matP (X.1 67)) (rzP (X.1 68))) (blP (HS (X.1 68) 8)) (rtP (X.1 67))) i)) (va_cwS 2 hts (g_goodS kw_844 kw_842 kw_843 kw_8) rfl rfl rfl (by decide +kernel) ⟨Nat.le_of_ble_eq_true rfl, Nat.le_of_ble_eq_true rfl⟩) ⟨fun _ _ _ _ q => q, fun _ _ _ => rfl⟩ rfl rfl hl.1 rfl (lv_room (Nat.le_of_ble_eq_true rfl)) d_Md_verify_249 ⟨Nat.le_refl 0, Nat.le_refl 0⟩) (fun r44 q5 => ?_)
              refine g_topi (y := (crP (hRD sg) (matP (X.1 67)) (rzP (X.1 68)) (blP (HS (X.1 68) 8)) (rtP (X.1 67))) i) (q5) ?_
              refine g_callv (va_runV (As := [.ref (g_ad V 79), .int (nI (0)), .int (nI (12 * i)), .int (nI (12)), .int ((crP (hRD sg) (matP (X.1 67)) (rzP (X.1 68)) (blP (HS (X.1 68) 8)) (rtP (X.1 67))) i)]) (rest := []) ⟨hx, hb, hml, hown, hts⟩ (c_m_pack l V X2 79 (by decide) 0 (12 * i) 12 ((crP (hRD sg) (matP (X.1 67)) (rzP (X.1 68)) (blP (HS (X.1 68) 8)) (rtP (X.1 67))) i) (by decide) (by show 8 * 0 + 12 * i + 12 ≤ 8 * 60; omega)) (cwV 5 hts (g_goodV kw_771 kw_768 kw_770 kp_29 kw_8) rfl rfl rfl (by decide +kernel) ⟨Nat.le_of_ble_eq_true rfl, Nat.le_of_ble_eq_true rfl⟩) (g_preV (k0 := 11) (ci := 7) hE hG (by decide) rfl rfl) rfl rfl hl.1 rfl (lv_room (Nat.le_of_ble_eq_true rfl)) d_Md_verify_252 ⟨Nat.le_refl 0, Nat.le_refl 0⟩) hG (fun Xp H locs qp hG => ?_)
              refine lv_iinc (v := nI (i + 1)) (lv' := [(1, .int (nI (i + 1))), (0, .ref (g_ad V 11))]) hx hb d_Md_verify_255 hl (k := 1) rfl (g_inc _) (by decide) rfl (fun ls hl => ?_)
              refine lv_goto (tgt := 219) hx hb d_Md_verify_258 (by decide) ?_
              exact ih219 (i + 1) (by omega) Xp _ _ ls (fr_tr2 hF2 qp.2 (by decide) (by decide) (by decide)) ((qp.2.2.2 3 (fun q => by cases q)).trans m3) ((qp.2.1 75 (by decide)).trans m75) ((qp.2.1 78 (by decide)).trans m78) ((qp.2.1 69 (by decide)).trans m69) (by rw [qp.1, m79, Nat.mul_comm 12 i]; rfl) hG (lv_sub hl [1, 0] rfl)
          exact K219 (32 - 0) 0 (by omega) XL _ _ ls fL L3 L75 L78 L69 L79 hG (lv_sub hl [1, 0] rfl)
        · refine lv_iconst (v := nI (0)) hx hb d_Md_verify_97 (by decide) ?_
          exact g_zret hx hb hr hlocks hE hG (by decide) (⟨fun z => absurd (ez.mp z.2.1) c94, fun _ => rfl, fun j hj => by rw [y79]; exact hB j hj, y3, fy⟩) d_Md_verify_98
      | succ fu ih11 =>
        intro i hin11 X1 H locs ls hF h3 h78 h79 h74 h65 hG hl
        have hi11 : i < 32 := by omega
        refine lv_iload_n hx hb d_Md_verify_11 rfl (lv_at hl 1 rfl) ?_
        refine lv_bipush (v := nI (32)) hx hb d_Md_verify_12 (by decide) ?_
        refine lv_icmp_ge (tgt := 83) hx hb d_Md_verify_14 (by decide) (fun q => absurd ((g_ge (x := i) (y := 32) (by omega) (by omega)).mp q) (by omega)) (fun _ => ?_)
        refine lv_aload_n hx hb d_Md_verify_17 rfl (lv_at hl 0 rfl) ?_
        refine g_get (ci := 7) (v := .ref (g_ad V 74)) (C := R_Md) (T := F_Md) (N := 35) hx hb hts (fun w h => List.mem_cons_of_mem _ (in_Md w h)) hown hE hG 11 (by decide) rfl rfl 28 (by decide) (hts _ (List.mem_cons_of_mem _ kw_620)) (fun _ h9 => h9) rfl d_Md_verify_18 ?_
        refine lv_iload_n hx hb d_Md_verify_21 rfl (lv_at hl 1 rfl) ?_
        refine lv_sipush (v := nI (512)) hx hb d_Md_verify_22 (by decide) ?_
        refine lv_aload_n hx hb d_Md_verify_25 rfl (lv_at hl 0 rfl) ?_
        refine lv_aload_n hx hb d_Md_verify_26 rfl (lv_at hl 0 rfl) ?_
        refine g_get (ci := 7) (v := .ref (g_ad V 68)) (C := R_Md) (T := F_Md) (N := 35) hx hb hts (fun w h => List.mem_cons_of_mem _ (in_Md w h)) hown hE hG 11 (by decide) rfl rfl 22 (by decide) (hts _ (List.mem_cons_of_mem _ kw_614)) (fun _ h9 => h9) rfl d_Md_verify_27 ?_
        refine lv_bipush (v := nI (8)) hx hb d_Md_verify_30 (by decide) ?_
        refine lv_bipush (v := nI (10)) hx hb d_Md_verify_32 (by decide) ?_
        refine lv_iload_n hx hb d_Md_verify_34 rfl (lv_at hl 1 rfl) ?_
        refine lv_imul hx hb d_Md_verify_35 ?_
        refine g_topi (y := nI (10 * i)) (pk_mul _ _) ?_
        refine lv_bipush (v := nI (10)) hx hb d_Md_verify_36 (by decide) ?_
        refine g_calli (va_runV (As := [.ref (g_ad V 68), .int (nI (8)), .int (nI (10 * i)), .int (nI (10))]) (rest := [.int (nI (512)), .int (nI (i)), .ref (g_ad V 74)]) ⟨hx, hb, hml, hown, hts⟩ (c_m_bits l V X1 68 (by decide) 8 (10 * i) 10 (by decide) (by show 8 * 8 + 10 * i + 10 ≤ 8 * 62; omega)) (cwV 4 hts (g_goodV kw_795 kw_792 kw_794 kp_32 kw_8) rfl rfl rfl (by decide +kernel) ⟨Nat.le_of_ble_eq_true rfl, Nat.le_of_ble_eq_true rfl⟩) (g_preV (k0 := 11) (ci := 7) hE hG (by decide) rfl rfl) rfl rfl hl.1 rfl (lv_room (Nat.le_of_ble_eq_true rfl)) d_Md_verify_38 ⟨Nat.le_refl 0, Nat.le_refl 0⟩) hG (fun r50 X48 H locs q1 hG => ?_)
        obtain ⟨q1, rfl⟩ := q1
        refine g_topi (y := rdN (X.1 68) 8 (i * 10) 10) (by rw [q1, hF.1 68 (by decide), Nat.mul_comm 10 i]) ?_
        refine lv_isub hx hb d_Md_verify_41 ?_
        refine g_topi (y := (rzP (X.1 68)) i) (rfl) ?_
        refine lv_i2l (v := ((rzP (X.1 68)) i).toInt64) hx hb d_Md_verify_42 rfl ?_
        refine g_callpi (va_runS (As := [.long (((rzP (X.1 68)) i).toInt64)]) (rest := [.int (nI (i)), .ref (g_ad V 74)]) ⟨hx, hb, hml, hown, hts⟩ (c_m_mod l ((rzP (X.1 68)) i).toInt64) (va_cwS 1 hts (g_goodS kw_751 kw_749 kw_750 kw_8) rfl rfl rfl (by decide +kernel) ⟨Nat.le_of_ble_eq_true rfl, Nat.le_of_ble_eq_true rfl⟩) ⟨fun _ _ _ _ q => q, fun _ _ _ => rfl⟩ rfl rfl hl.1 rfl (lv_room (Nat.le_of_ble_eq_true rfl)) d_Md_verify_43 ⟨Nat.le_refl 0, Nat.le_refl 0⟩) (fun r52 q2 => ?_)
        refine g_topi (y := rdF (rzP (X.1 68)) i) (q2) ?_
        refine g_iast (x := rdF (rzP (X.1 68)) i) hx hb hE hG 74 (by decide) (i) (rfl) (show _ < 32 by omega) d_Md_verify_46 (fun H locs hG => ?_)
        refine lv_aload_n hx hb d_Md_verify_47 rfl (lv_at hl 0 rfl) ?_
        refine g_get (ci := 7) (v := .ref (g_ad V 65)) (C := R_Md) (T := F_Md) (N := 35) hx hb hts (fun w h => List.mem_cons_of_mem _ (in_Md w h)) hown hE hG 11 (by decide) rfl rfl 18 (by decide) (hts _ (List.mem_cons_of_mem _ kw_610)) (fun _ h9 => h9) rfl d_Md_verify_48 ?_
        refine lv_iload_n hx hb d_Md_verify_51 rfl (lv_at hl 1 rfl) ?_
        refine lv_ldc2 (v := 256) hx hb hown (hts _ (List.mem_cons_of_mem _ kw_841)) d_Md_verify_52 ?_
        refine lv_aload_n hx hb d_Md_verify_55 rfl (lv_at hl 0 rfl) ?_
        refine lv_aload_n hx hb d_Md_verify_56 rfl (lv_at hl 0 rfl) ?_
        refine g_get (ci := 7) (v := .ref (g_ad V 67)) (C := R_Md) (T := F_Md) (N := 35) hx hb hts (fun w h => List.mem_cons_of_mem _ (in_Md w h)) hown hE hG 11 (by decide) rfl rfl 21 (by decide) (hts _ (List.mem_cons_of_mem _ kw_613)) (fun _ h9 => h9) rfl d_Md_verify_57 ?_
        refine lv_bipush (v := nI (8)) hx hb d_Md_verify_60 (by decide) ?_
        refine lv_bipush (v := nI (15)) hx hb d_Md_verify_62 (by decide) ?_
        refine lv_iload_n hx hb d_Md_verify_64 rfl (lv_at hl 1 rfl) ?_
        refine lv_imul hx hb d_Md_verify_65 ?_
        refine g_topi (y := nI (15 * i)) (pk_mul _ _) ?_
        refine lv_bipush (v := nI (15)) hx hb d_Md_verify_66 (by decide) ?_
        refine g_calli (va_runV (As := [.ref (g_ad V 67), .int (nI (8)), .int (nI (15 * i)), .int (nI (15))]) (rest := [.long (256), .int (nI (i)), .ref (g_ad V 65)]) ⟨hx, hb, hml, hown, hts⟩ (c_m_bits l V (uI X1 74 (upd (X1.1 74) i (rdF (rzP (X.1 68)) i))) 67 (by decide) 8 (15 * i) 15 (by decide) (by show 8 * 8 + 15 * i + 15 ≤ 8 * 68; omega)) (cwV 4 hts (g_goodV kw_795 kw_792 kw_794 kp_32 kw_8) rfl rfl rfl (by decide +kernel) ⟨Nat.le_of_ble_eq_true rfl, Nat.le_of_ble_eq_true rfl⟩) (g_preV (k0 := 11) (ci := 7) hE hG (by decide) rfl rfl) rfl rfl hl.1 rfl (lv_room (Nat.le_of_ble_eq_true rfl)) d_Md_verify_68 ⟨Nat.le_refl 0, Nat.le_refl 0⟩) hG (fun r55 X53 H locs q3 hG => ?_)
        obtain ⟨q3, rfl⟩ := q3
        refine g_topi (y := rdN (X.1 67) 8 (i * 15) 15) (by rw [q3, uI_n _ _ (show (67 : Nat) ≠ 74 by decide), hF.1 67 (by decide), Nat.mul_comm 15 i]) ?_
        refine lv_i2l (v := (rdN (X.1 67) 8 (i * 15) 15).toInt64) hx hb d_Md_verify_71 rfl ?_
        refine lv_lmul hx hb d_Md_verify_72 ?_
        refine g_callpi (va_runS (As := [.long (256 * ((rdN (X.1 67) 8 (i * 15) 15).toInt64))]) (rest := [.int (nI (i)), .ref (g_ad V 65)]) ⟨hx, hb, hml, hown, hts⟩ (c_m_mod l (256 * (rdN (X.1 67) 8 (i * 15) 15).toInt64)) (va_cwS 1 hts (g_goodS kw_751 kw_749 kw_750 kw_8) rfl rfl rfl (by decide +kernel) ⟨Nat.le_of_ble_eq_true rfl, Nat.le_of_ble_eq_true rfl⟩) ⟨fun _ _ _ _ q => q, fun _ _ _ => rfl⟩ rfl rfl hl.1 rfl (lv_room (Nat.le_of_ble_eq_true rfl)) d_Md_verify_73 ⟨Nat.le_refl 0, Nat.le_refl 0⟩) (fun r57 q4 => ?_)
        refine g_topi (y := rdF (rtP (X.1 67)) i) (q4.trans (rt_eq _ _)) ?_
        refine g_iast (x := rdF (rtP (X.1 67)) i) hx hb hE hG 65 (by decide) (i) (rfl) (show _ < 32 by omega) d_Md_verify_76 (fun H locs hG => ?_)
        refine lv_iinc (v := nI (i + 1)) (lv' := [(1, .int (nI (i + 1))), (0, .ref (g_ad V 11))]) hx hb d_Md_verify_77 hl (k := 1) rfl (g_inc _) (by decide) rfl (fun ls hl => ?_)
        refine lv_goto (tgt := 11) hx hb d_Md_verify_80 (by decide) ?_
        exact ih11 (i + 1) (by omega) (uI (uI X1 74 (upd (X1.1 74) i (rdF (rzP (X.1 68)) i))) 65 (upd ((uI X1 74 (upd (X1.1 74) i (rdF (rzP (X.1 68)) i))).1 65) i (rdF (rtP (X.1 67)) i))) _ _ ls (fr_i (fr_i hF _ (by decide)) _ (by decide)) h3 ((uI_n _ _ (by decide)).trans ((uI_n _ _ (by decide)).trans h78)) ((uI_n _ _ (by decide)).trans ((uI_n _ _ (by decide)).trans h79)) ((uI_n _ _ (by decide)).trans (by rw [uI_s, h74]; exact segI_s (rdF (rzP (X.1 68))) _ _)) (by rw [uI_s, uI_n _ _ (show (65 : Nat) ≠ 74 by decide), h65]; exact segI_s (rdF (rtP (X.1 67))) _ _) hG (lv_sub hl [1, 0] rfl)
    exact K11 (32 - 0) 0 (by omega) Xa _ _ ls fa ((qa.2.2.2.2 3 (fun q => by cases q)).trans hT) ((qa.1 n1).2) (qa.2.2.1 79 (by decide)) ((qa.2.2.1 74 (by decide)).trans (segI_0 _ _).symm) ((qa.2.2.1 65 (by decide)).trans (segI_0 _ _).symm) hG (lv_sub hl [1, 0] rfl)
  · have n1 : ¬ hOK sg := fun z => by rw [(qa.1 z).1] at c4; exact absurd c4 (by decide)
    refine lv_iconst (v := nI (0)) hx hb d_Md_verify_7 (by decide) ?_
    exact g_zret hx hb hr hlocks hE hG (by decide) (⟨fun z => absurd z.1 n1, fun _ => rfl, fun j hj => by rw [qa.2.2.1 79 (by decide)]; exact hB j hj, (qa.2.2.2.2 3 (fun q => by cases q)).trans hT, fa⟩) d_Md_verify_8
