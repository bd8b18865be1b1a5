set_option maxHeartbeats 4000000 in
set_option maxRecDepth 100000 in
theorem c_m_clear (l : Launch) (V : Ev) (X : Mm)  : Met l y_Md_clear (Cond.code y_Md_clear b_Md_clear 2 none :: WA) ({ frames := 0, cells := 0, slots := 0, locals := 0 } : Room) (g_Pc V X [.ref (g_ad V 11)]) (g_Qv V (fun X1 : Mm => X1.2.1 16 = z16 ∧ fr X X1 [] [16] [])) 0 0 (g_A V) := by
  refine g_met (by decide) (Nat.le_of_ble_eq_true rfl) ?_
  intro p e s m below meth c hx hb hr hml hown hts hlocks hE hG ls hl
  have hl : lv_has ls 2 [(0, .ref (g_ad V 11))] := hl
  have hown : s.vm.findClass R_Md = some m.cls := hown
  refine lv_iconst (v := nI (0)) hx hb d_Md_clear_0 (by decide) ?_
  refine lv_istore_n (lv' := [(1, .int (nI (0))), (0, .ref (g_ad V 11))]) hx hb d_Md_clear_1 rfl hl (by decide) rfl (fun ls hl => ?_)
  have K2 : ∀ (fu i : Nat), i + fu = 16 → ∀ (X1 : Mm) (H : Heap) (locs : List Loc), ∀ (ls : Array Slot), (fr X X1 [] [16] []) → (X1.2.1 16 = segL z16 (X.2.1 16) i) → g_st V X1 s.heap H locs → lv_has ls 2 [(0, .ref (g_ad V 11)), (1, .int (nI (i)))] → W p l e ({ frames := 0, cells := 0, slots := 0, locals := 0 } : Room) s m ([.ref (g_ad V 11)] : List Value).toArray below meth c H locs 0 0 (MQ below (g_Qv V (fun X1 : Mm => X1.2.1 16 = z16 ∧ fr X X1 [] [16] [])) ([.ref (g_ad V 11)] : List Value).toArray s 0 0 (g_A V)) (F0 m 2 ls []) := by
    intro fu
    induction fu with
    | zero =>
      intro i hin2 X1 H locs ls hF hC hG hl
      have hi2 : 16 = i := by omega
      subst hi2
      refine lv_iload_n hx hb d_Md_clear_2 rfl (lv_at hl 1 rfl) ?_
      refine lv_bipush (v := nI (16)) hx hb d_Md_clear_3 (by decide) ?_
      refine lv_icmp_ge (tgt := 21) hx hb d_Md_clear_5 (by decide) (fun _ => ?_) (fun q => absurd ((g_geN (x := 16) (y := 16) (by omega) (by omega)).mp q) (by omega))
      have hG := g_xl hG 16 rfl z16 (fun j hj => by rw [hC]; exact segL_e z16 _ hj)
      exact g_vret hx hb hr hlocks hE hG (⟨uL_s _ _ _, fr_l hF _ (by decide)⟩) d_Md_clear_21
    | succ fu ih2 =>
      intro i hin2 X1 H locs ls hF hC hG hl
      have hi2 : i < 16 := by omega
      refine lv_iload_n hx hb d_Md_clear_2 rfl (lv_at hl 1 rfl) ?_
      refine lv_bipush (v := nI (16)) hx hb d_Md_clear_3 (by decide) ?_
      refine lv_icmp_ge (tgt := 21) hx hb d_Md_clear_5 (by decide) (fun q => absurd ((g_ge (x := i) (y := 16) (by omega) (by omega)).mp q) (by omega)) (fun _ => ?_)
      refine lv_aload_n hx hb d_Md_clear_8 rfl (lv_at hl 0 rfl) ?_
      refine g_get (ci := 7) (v := .ref (g_ad V 16)) (C := R_Md) (T := F_Md) (N := 35) hx hb hts (fun w h => List.mem_cons_of_mem _ (in_Md w h)) hown hE hG 11 (by decide) rfl rfl 34 (by decide) (hts _ (List.mem_cons_of_mem _ kw_626)) (fun _ h9 => h9) rfl d_Md_clear_9 ?_
      refine lv_iload_n hx hb d_Md_clear_12 rfl (lv_at hl 1 rfl) ?_
      refine lv_lconst (v := 0) hx hb d_Md_clear_13 (by decide) ?_
      refine g_last (x := 0) hx hb hE hG 16 rfl (i) (rfl) (show _ < 16 by omega) d_Md_clear_14 (fun H locs hG => ?_)
      refine lv_iinc (v := nI (i + 1)) (lv' := [(1, .int (nI (i + 1))), (0, .ref (g_ad V 11))]) hx hb d_Md_clear_15 hl (k := 1) rfl (g_inc _) (by decide) rfl (fun ls hl => ?_)
      refine lv_goto (tgt := 2) hx hb d_Md_clear_18 (by decide) ?_
      exact ih2 (i + 1) (by omega) (uL X1 16 (vp_updL (X1.2.1 16) i 0)) _ _ ls (fr_l hF _ (by decide)) (by rw [uL_s, hC]; exact segL_s z16 _ _) hG (lv_sub hl [1, 0] rfl)
  exact K2 (16 - 0) 0 (by omega) X _ _ ls (fr_rf X _ _ _) (segL_0 _ _).symm hG (lv_sub hl [1, 0] rfl)

set_option maxHeartbeats 4000000 in
set_option maxRecDepth 100000 in
theorem c_m_add (l : Launch) (V : Ev) (X : Mm) (kf : Nat) (hkf : 17 ≤ kf ∧ kf < 80) (fo : Nat) (hfo : fo + 16 ≤ g_len kf) (kg : Nat) (hkg : 17 ≤ kg ∧ kg < 80) (go : Nat) (hgo : go + 16 ≤ g_len kg) (by_ : Int32) : Met l y_Md_add (Cond.code y_Md_add b_Md_add 11 none :: WA) ({ frames := 0, cells := 0, slots := 0, locals := 0 } : Room) (g_Pc V X [.ref (g_ad V 11), .ref (g_ad V kf), .int (nI (fo)), .ref (g_ad V kg), .int (nI (go)), .int (by_)]) (g_Qv V (fun X1 : Mm => X1.2.1 16 = aN (shI (X.1 kf) fo) (shI (X.1 kg) go) by_ (X.2.1 16) 16 ∧ fr X X1 [] [16] [])) 0 0 (g_A V) := by
  refine g_met (by decide) (Nat.le_of_ble_eq_true rfl) ?_
  intro p e s m below meth c hx hb hr hml hown hts hlocks hE hG ls hl
  have hl : lv_has ls 11 [(0, .ref (g_ad V 11)), (1, .ref (g_ad V kf)), (2, .int (nI (fo))), (3, .ref (g_ad V kg)), (4, .int (nI (go))), (5, .int (by_))] := hl
  have hown : s.vm.findClass R_Md = some m.cls := hown
  have hl1 := g_len_le kf
  have hl2 := g_len_le kg
  refine lv_iconst (v := nI (0)) hx hb d_Md_add_0 (by decide) ?_
  refine lv_istore (lv' := [(6, .int (nI (0))), (0, .ref (g_ad V 11)), (1, .ref (g_ad V kf)), (2, .int (nI (fo))), (3, .ref (g_ad V kg)), (4, .int (nI (go))), (5, .int (by_))]) hx hb d_Md_add_1 hl (by decide) rfl (fun ls hl => ?_)
  have K3 : ∀ (fu j : Nat), j + fu = 16 → ∀ (X1 : Mm) (H : Heap) (locs : List Loc), ∀ (ls : Array Slot), (fr X X1 [] [16] []) → (X1.2.1 16 = aN (shI (X.1 kf) fo) (shI (X.1 kg) go) by_ (X.2.1 16) j) → g_st V X1 s.heap H locs → lv_has ls 11 [(0, .ref (g_ad V 11)), (1, .ref (g_ad V kf)), (2, .int (nI (fo))), (3, .ref (g_ad V kg)), (4, .int (nI (go))), (5, .int (by_)), (6, .int (nI (j)))] → W p l e ({ frames := 0, cells := 0, slots := 0, locals := 0 } : Room) s m ([.ref (g_ad V 11), .ref (g_ad V kf), .int (nI (fo)), .ref (g_ad V kg), .int (nI (go)), .int (by_)] : List Value).toArray below meth c H locs 0 0 (MQ below (g_Qv V (fun X1 : Mm => X1.2.1 16 = aN (shI (X.1 kf) fo) (shI (X.1 kg) go) by_ (X.2.1 16) 16 ∧ fr X X1 [] [16] [])) ([.ref (g_ad V 11), .ref (g_ad V kf), .int (nI (fo)), .ref (g_ad V kg), .int (nI (go)), .int (by_)] : List Value).toArray s 0 0 (g_A V)) (F0 m 3 ls []) := by
    intro fu
    induction fu with
    | zero =>
      intro j hin3 X1 H locs ls hF hC hG hl
      have hi3 : 16 = j := by omega
      subst hi3
      refine lv_iload hx hb d_Md_add_3 (lv_at hl 6 rfl) ?_
      refine lv_bipush (v := nI (16)) hx hb d_Md_add_5 (by decide) ?_
      refine lv_icmp_ge (tgt := 108) hx hb d_Md_add_7 (by decide) (fun _ => ?_) (fun q => absurd ((g_geN (x := 16) (y := 16) (by omega) (by omega)).mp q) (by omega))
      exact g_vret hx hb hr hlocks hE hG (⟨hC, hF⟩) d_Md_add_108
    | succ fu ih3 =>
      intro j hin3 X1 H locs ls hF hC hG hl
      have hi3 : j < 16 := by omega
      refine lv_iload hx hb d_Md_add_3 (lv_at hl 6 rfl) ?_
      refine lv_bipush (v := nI (16)) hx hb d_Md_add_5 (by decide) ?_
      refine lv_icmp_ge (tgt := 108) hx hb d_Md_add_7 (by decide) (fun q => absurd ((g_ge (x := j) (y := 16) (by omega) (by omega)).mp q) (by omega)) (fun _ => ?_)
      refine lv_iconst (v := nI (0)) hx hb d_Md_add_10 (by decide) ?_
      refine lv_istore (lv' := [(7, .int (nI (0))), (0, .ref (g_ad V 11)), (1, .ref (g_ad V kf)), (2, .int (nI (fo))), (3, .ref (g_ad V kg)), (4, .int (nI (go))), (5, .int (by_)), (6, .int (nI (j)))]) hx hb d_Md_add_11 hl (by decide) rfl (fun ls hl => ?_)
      have K13 : ∀ (fu k : Nat), k + fu = 16 → ∀ (X2 : Mm) (H : Heap) (locs : List Loc), ∀ (ls : Array Slot), (fr X X2 [] [16] []) → (X2.2.1 16 = apN (shI (X.1 kf) fo) (shI (X.1 kg) go) by_ (aN (shI (X.1 kf) fo) (shI (X.1 kg) go) by_ (X.2.1 16) j) j k) → g_st V X2 s.heap H locs → lv_has ls 11 [(0, .ref (g_ad V 11)), (1, .ref (g_ad V kf)), (2, .int (nI (fo))), (3, .ref (g_ad V kg)), (4, .int (nI (go))), (5, .int (by_)), (6, .int (nI (j))), (7, .int (nI (k)))] → W p l e ({ frames := 0, cells := 0, slots := 0, locals := 0 } : Room) s m ([.ref (g_ad V 11), .ref (g_ad V kf), .int (nI (fo)), .ref (g_ad V kg), .int (nI (go)), .int (by_)] : List Value).toArray below meth c H locs 0 0 (MQ below (g_Qv V (fun X1 : Mm => X1.2.1 16 = aN (shI (X.1 kf) fo) (shI (X.1 kg) go) by_ (X.2.1 16) 16 ∧ fr X X1 [] [16] [])) ([.ref (g_ad V 11), .ref (g_ad V kf), .int (nI (fo)), .ref (g_ad V kg), .int (nI (go)), .int (by_)] : List Value).toArray s 0 0 (g_A V)) (F0 m 13 ls []) := by
        intro fu
        induction fu with
        | zero =>
          intro k hin13 X2 H locs ls hF2 hC2 hG hl
          have hi13 : 16 = k := by omega
          subst hi13
          refine lv_iload hx hb d_Md_add_13 (lv_at hl 7 rfl) ?_
          refine lv_bipush (v := nI (16)) hx hb d_Md_add_15 (by decide) ?_
          refine lv_icmp_ge (tgt := 102) hx hb d_Md_add_17 (by decide) (fun _ => ?_) (fun q => absurd ((g_geN (x := 16) (y := 16) (by omega) (by omega)).mp q) (by omega))
          refine lv_iinc (v := nI (j + 1)) (lv' := [(6, .int (nI (j + 1))), (0, .ref (g_ad V 11)), (1, .ref (g_ad V kf)), (2, .int (nI (fo))), (3, .ref (g_ad V kg)), (4, .int (nI (go))), (5, .int (by_)), (7, .int (nI (16)))]) hx hb d_Md_add_102 hl (k := 6) rfl (g_inc _) (by decide) rfl (fun ls hl => ?_)
          refine lv_goto (tgt := 3) hx hb d_Md_add_105 (by decide) ?_
          exact ih3 (j + 1) (by omega) X2 _ _ ls hF2 (hC2.trans rfl) hG (lv_sub hl [1, 2, 3, 4, 5, 6, 0] rfl)
        | succ fu ih13 =>
          intro k hin13 X2 H locs ls hF2 hC2 hG hl
          have hi13 : k < 16 := by omega
          refine lv_iload hx hb d_Md_add_13 (lv_at hl 7 rfl) ?_
          refine lv_bipush (v := nI (16)) hx hb d_Md_add_15 (by decide) ?_
          refine lv_icmp_ge (tgt := 102) hx hb d_Md_add_17 (by decide) (fun q => absurd ((g_ge (x := k) (y := 16) (by omega) (by omega)).mp q) (by omega)) (fun _ => ?_)
          refine lv_aload_n hx hb d_Md_add_20 rfl (lv_at hl 1 rfl) ?_
          refine lv_iload_n hx hb d_Md_add_21 rfl (lv_at hl 2 rfl) ?_
          refine lv_iload hx hb d_Md_add_22 (lv_at hl 6 rfl) ?_
          refine lv_iadd hx hb d_Md_add_24 ?_
          refine g_topi (y := nI (fo + j)) (nI_add _ _) ?_
          refine g_iald hx hb hE hG kf (by omega) (fo + j) (rfl) (by omega) (v := shI (X.1 kf) fo j) (congrFun (hF2.1 kf (fun q => by cases q)) _) d_Md_add_25 ?_
          refine lv_i2l (v := (shI (X.1 kf) fo j).toInt64) hx hb d_Md_add_26 rfl ?_
          refine lv_aload_n hx hb d_Md_add_27 rfl (lv_at hl 3 rfl) ?_
          refine lv_iload hx hb d_Md_add_28 (lv_at hl 4 rfl) ?_
          refine lv_iload hx hb d_Md_add_30 (lv_at hl 7 rfl) ?_
          refine lv_iadd hx hb d_Md_add_32 ?_
          refine g_topi (y := nI (go + k)) (nI_add _ _) ?_
          refine g_iald hx hb hE hG kg (by omega) (go + k) (rfl) (by omega) (v := shI (X.1 kg) go k) (congrFun (hF2.1 kg (fun q => by cases q)) _) d_Md_add_33 ?_
          refine lv_i2l (v := (shI (X.1 kg) go k).toInt64) hx hb d_Md_add_34 rfl ?_
          refine lv_lmul hx hb d_Md_add_35 ?_
          refine lv_ldc2 (v := 8380417) hx hb hown (hts _ (List.mem_cons_of_mem _ kw_752)) d_Md_add_36 ?_
          refine lv_lrem hx hb d_Md_add_39 (by decide) ?_
          refine lv_iload hx hb d_Md_add_40 (lv_at hl 5 rfl) ?_
          refine lv_i2l (v := by_.toInt64) hx hb d_Md_add_42 rfl ?_
          refine lv_lmul hx hb d_Md_add_43 ?_
          refine g_topl (y := xxP (shI (X.1 kf) fo) (shI (X.1 kg) go) by_ j k) (rfl) ?_
          refine lv_lstore (lv' := [(8, .long (xxP (shI (X.1 kf) fo) (shI (X.1 kg) go) by_ j k)), (0, .ref (g_ad V 11)), (1, .ref (g_ad V kf)), (2, .int (nI (fo))), (3, .ref (g_ad V kg)), (4, .int (nI (go))), (5, .int (by_)), (6, .int (nI (j))), (7, .int (nI (k)))]) hx hb d_Md_add_44 hl (by decide) rfl (fun ls hl => ?_)
          refine lv_iload hx hb d_Md_add_46 (lv_at hl 7 rfl) ?_
          refine lv_iload hx hb d_Md_add_48 (lv_at hl 8 rfl) ?_
          refine lv_iadd hx hb d_Md_add_50 ?_
          refine g_topi (y := nI (j + k)) (nI_add _ _) ?_
          refine lv_bipush (v := nI (16)) hx hb d_Md_add_51 (by decide) ?_
          refine lv_irem hx hb d_Md_add_53 (by decide) ?_
          refine g_topi (y := nI ((j + k) % 16)) (pk_rem (by omega) (by omega) (by omega)) ?_
          refine lv_istore (lv' := [(10, .int (nI ((j + k) % 16))), (8, .long (xxP (shI (X.1 kf) fo) (shI (X.1 kg) go) by_ j k)), (0, .ref (g_ad V 11)), (1, .ref (g_ad V kf)), (2, .int (nI (fo))), (3, .ref (g_ad V kg)), (4, .int (nI (go))), (5, .int (by_)), (6, .int (nI (j))), (7, .int (nI (k)))]) hx hb d_Md_add_54 hl (by decide) rfl (fun ls hl => ?_)
          refine lv_aload_n hx hb d_Md_add_56 rfl (lv_at hl 2 rfl) ?_
          refine g_get (ci := 7) (v := .ref (g_ad V 16)) (C := R_Md) (T := F_Md) (N := 35) hx hb hts (fun w h => List.mem_cons_of_mem _ (in_Md w h)) hown hE hG 11 (by decide) rfl rfl 34 (by decide) (hts _ (List.mem_cons_of_mem _ kw_626)) (fun _ h9 => h9) rfl d_Md_add_57 ?_
          refine lv_iload hx hb d_Md_add_60 (lv_at hl 0 rfl) ?_
          refine lv_iload hx hb d_Md_add_62 (lv_at hl 8 rfl) ?_
          refine lv_iload hx hb d_Md_add_64 (lv_at hl 9 rfl) ?_
          refine lv_iadd hx hb d_Md_add_66 ?_
          refine g_topi (y := nI (j + k)) (nI_add _ _) ?_
          refine lv_bipush (v := nI (16)) hx hb d_Md_add_67 (by decide) ?_
          refine lv_icmp_ge (tgt := 85) hx hb d_Md_add_69 (by decide) (fun c69 => ?_) (fun c69 => ?_)
          · have c69 := (g_ge (x := j + k) (y := 16) (by omega) (by omega)).mp c69
            refine lv_aload_n hx hb d_Md_add_85 rfl (lv_at hl 2 rfl) ?_
            refine g_get (ci := 7) (v := .ref (g_ad V 16)) (C := R_Md) (T := F_Md) (N := 35) hx hb hts (fun w h => List.mem_cons_of_mem _ (in_Md w h)) hown hE hG 11 (by decide) rfl rfl 34 (by decide) (hts _ (List.mem_cons_of_mem _ kw_626)) (fun _ h9 => h9) rfl d_Md_add_86 ?_
            refine lv_iload hx hb d_Md_add_89 (lv_at hl 0 rfl) ?_
            refine g_lald hx hb hE hG 16 rfl ((j + k) % 16) (rfl) (show _ < 16 by omega) (v := aN (shI (X.1 kf) fo) (shI (X.1 kg) go) by_ (X.2.1 16) j ((j + k) % 16)) ((congrFun hC2 _).trans (apN_ld _ _ _ _ (by omega) (by omega))) d_Md_add_91 ?_
            refine lv_lload hx hb d_Md_add_92 (lv_at hl 1 rfl) ?_
            refine lv_lsub hx hb d_Md_add_94 ?_
            refine g_last (x := (aN (shI (X.1 kf) fo) (shI (X.1 kg) go) by_ (X.2.1 16) j ((j + k) % 16)) - (xxP (shI (X.1 kf) fo) (shI (X.1 kg) go) by_ j k)) hx hb hE hG 16 rfl ((j + k) % 16) (rfl) (show _ < 16 by omega) d_Md_add_95 (fun H locs hG => ?_)
            refine lv_iinc (v := nI (k + 1)) (lv' := [(7, .int (nI (k + 1))), (10, .int (nI ((j + k) % 16))), (8, .long (xxP (shI (X.1 kf) fo) (shI (X.1 kg) go) by_ j k)), (0, .ref (g_ad V 11)), (1, .ref (g_ad V kf)), (2, .int (nI (fo))), (3, .ref (g_ad V kg)), (4, .int (nI (go))), (5, .int (by_)), (6, .int (nI (j)))]) hx hb d_Md_add_96 hl (k := 9) rfl (g_inc _) (by decide) rfl (fun ls hl => ?_)
            refine lv_goto (tgt := 13) hx hb d_Md_add_99 (by decide) ?_
            exact ih13 (k + 1) (by omega) (uL X2 16 (vp_updL (X2.2.1 16) ((j + k) % 16) ((aN (shI (X.1 kf) fo) (shI (X.1 kg) go) by_ (X.2.1 16) j ((j + k) % 16)) - (xxP (shI (X.1 kf) fo) (shI (X.1 kg) go) by_ j k)))) _ _ ls (fr_l hF2 _ (by decide)) (by rw [uL_s, hC2]; exact apN_hi _ _ _ _ (by omega) (by omega) (by omega)) hG (lv_sub hl [3, 4, 5, 6, 7, 8, 9, 0] rfl)
          · have c69 := (g_geN (x := j + k) (y := 16) (by omega) (by omega)).mp c69
            refine lv_aload_n hx hb d_Md_add_72 rfl (lv_at hl 2 rfl) ?_
            refine g_get (ci := 7) (v := .ref (g_ad V 16)) (C := R_Md) (T := F_Md) (N := 35) hx hb hts (fun w h => List.mem_cons_of_mem _ (in_Md w h)) hown hE hG 11 (by decide) rfl rfl 34 (by decide) (hts _ (List.mem_cons_of_mem _ kw_626)) (fun _ h9 => h9) rfl d_Md_add_73 ?_
            refine lv_iload hx hb d_Md_add_76 (lv_at hl 0 rfl) ?_
            refine g_lald hx hb hE hG 16 rfl ((j + k) % 16) (rfl) (show _ < 16 by omega) (v := aN (shI (X.1 kf) fo) (shI (X.1 kg) go) by_ (X.2.1 16) j ((j + k) % 16)) ((congrFun hC2 _).trans (apN_ld _ _ _ _ (by omega) (by omega))) d_Md_add_78 ?_
            refine lv_lload hx hb d_Md_add_79 (lv_at hl 1 rfl) ?_
            refine lv_ladd hx hb d_Md_add_81 ?_
            refine lv_goto (tgt := 95) hx hb d_Md_add_82 (by decide) ?_
            refine g_last (x := (aN (shI (X.1 kf) fo) (shI (X.1 kg) go) by_ (X.2.1 16) j ((j + k) % 16)) + (xxP (shI (X.1 kf) fo) (shI (X.1 kg) go) by_ j k)) hx hb hE hG 16 rfl ((j + k) % 16) (rfl) (show _ < 16 by omega) d_Md_add_95 (fun H locs hG => ?_)
            refine lv_iinc (v := nI (k + 1)) (lv' := [(7, .int (nI (k + 1))), (10, .int (nI ((j + k) % 16))), (8, .long (xxP (shI (X.1 kf) fo) (shI (X.1 kg) go) by_ j k)), (0, .ref (g_ad V 11)), (1, .ref (g_ad V kf)), (2, .int (nI (fo))), (3, .ref (g_ad V kg)), (4, .int (nI (go))), (5, .int (by_)), (6, .int (nI (j)))]) hx hb d_Md_add_96 hl (k := 9) rfl (g_inc _) (by decide) rfl (fun ls hl => ?_)
            refine lv_goto (tgt := 13) hx hb d_Md_add_99 (by decide) ?_
            exact ih13 (k + 1) (by omega) (uL X2 16 (vp_updL (X2.2.1 16) ((j + k) % 16) ((aN (shI (X.1 kf) fo) (shI (X.1 kg) go) by_ (X.2.1 16) j ((j + k) % 16)) + (xxP (shI (X.1 kf) fo) (shI (X.1 kg) go) by_ j k)))) _ _ ls (fr_l hF2 _ (by decide)) (by rw [uL_s, hC2]; exact apN_lo _ _ _ _ (by omega) (by omega) (by omega)) hG (lv_sub hl [3, 4, 5, 6, 7, 8, 9, 0] rfl)
      exact K13 (16 - 0) 0 (by omega) X1 _ _ ls hF (hC.trans (apN_0 _ _ _ _ _).symm) hG (lv_sub hl [1, 2, 3, 4, 5, 6, 7, 0] rfl)
  exact K3 (16 - 0) 0 (by omega) X _ _ ls (fr_rf X _ _ _) rfl hG (lv_sub hl [1, 2, 3, 4, 5, 6, 0] rfl)

set_option maxHeartbeats 4000000 in
set_option maxRecDepth 100000 in
theorem c_m_apply (l : Launch) (V : Ev) (X : Mm) (km : Nat) (hkm : 17 ≤ km ∧ km < 80) (hlm : g_len km = 64) (kx : Nat) (hkx : 17 ≤ kx ∧ kx < 80) (hlx : g_len kx = 32) (kt : Nat) (hkt : 17 ≤ kt ∧ kt < 80) (hlt : g_len kt = 32) (hmt : km ≠ kt) (hxt : kx ≠ kt) : Met l y_Md_apply (Cond.code y_Md_apply b_Md_apply 6 none :: WA) ({ frames := 1, cells := 0, slots := 0, locals := 30 } : Room) (g_Pc V X [.ref (g_ad V 11), .ref (g_ad V km), .ref (g_ad V kx), .ref (g_ad V kt)]) (g_Qv V (fun X1 : Mm => X1.1 kt = (maP (X.1 km) (X.1 kx)) ∧ fr X X1 [kt] [16] [])) 0 0 (g_A V) := by
  refine g_met (by decide) (Nat.le_of_ble_eq_true rfl) ?_
  intro p e s m below meth c hx hb hr hml hown hts hlocks hE hG ls hl
  have hl : lv_has ls 6 [(0, .ref (g_ad V 11)), (1, .ref (g_ad V km)), (2, .ref (g_ad V kx)), (3, .ref (g_ad V kt))] := hl
  have hown : s.vm.findClass R_Md = some m.cls := hown
  refine lv_iconst (v := nI (0)) hx hb d_Md_apply_0 (by decide) ?_
  refine lv_istore (lv' := [(4, .int (nI (0))), (0, .ref (g_ad V 11)), (1, .ref (g_ad V km)), (2, .ref (g_ad V kx)), (3, .ref (g_ad V kt))]) hx hb d_Md_apply_1 hl (by decide) rfl (fun ls hl => ?_)
  have K3 : ∀ (fu i : Nat), i + fu = 2 → ∀ (X1 : Mm) (H : Heap) (locs : List Loc), ∀ (ls : Array Slot), (fr X X1 [kt] [16] []) → (X1.1 kt = segI (maP (X.1 km) (X.1 kx)) (X.1 kt) (16 * i + 0)) → g_st V X1 s.heap H locs → lv_has ls 6 [(0, .ref (g_ad V 11)), (1, .ref (g_ad V km)), (2, .ref (g_ad V kx)), (3, .ref (g_ad V kt)), (4, .int (nI (i)))] → W p l e ({ frames := 1, cells := 0, slots := 0, locals := 30 } : Room) s m ([.ref (g_ad V 11), .ref (g_ad V km), .ref (g_ad V kx), .ref (g_ad V kt)] : List Value).toArray below meth c H locs 0 0 (MQ below (g_Qv V (fun X1 : Mm => X1.1 kt = (maP (X.1 km) (X.1 kx)) ∧ fr X X1 [kt] [16] [])) ([.ref (g_ad V 11), .ref (g_ad V km), .ref (g_ad V kx), .ref (g_ad V kt)] : List Value).toArray s 0 0 (g_A V)) (F0 m 3 ls []) := by
    intro fu
    induction fu with
    | zero =>
      intro i hin3 X1 H locs ls hF hC hG hl
      have hi3 : 2 = i := by omega
      subst hi3
      refine lv_iload hx hb d_Md_apply_3 (lv_at hl 4 rfl) ?_
      refine lv_iconst (v := nI (2)) hx hb d_Md_apply_5 (by decide) ?_
      refine lv_icmp_ge (tgt := 85) hx hb d_Md_apply_6 (by decide) (fun _ => ?_) (fun q => absurd ((g_geN (x := 2) (y := 2) (by omega) (by omega)).mp q) (by omega))
      have hG := g_xi hG kt hkt (maP (X.1 km) (X.1 kx)) (fun j hj => by rw [hC]; exact segI_e _ _ (by omega))
      exact g_vret hx hb hr hlocks hE hG (⟨uI_s _ _ _, fr_i hF _ List.mem_cons_self⟩) d_Md_apply_85
    | succ fu ih3 =>
      intro i hin3 X1 H locs ls hF hC hG hl
      have hi3 : i < 2 := by omega
      have em : X1.1 km = X.1 km := hF.1 km (ni_1 hmt)
      have ex : X1.1 kx = X.1 kx := hF.1 kx (ni_1 hxt)
      refine lv_iload hx hb d_Md_apply_3 (lv_at hl 4 rfl) ?_
      refine lv_iconst (v := nI (2)) hx hb d_Md_apply_5 (by decide) ?_
      refine lv_icmp_ge (tgt := 85) hx hb d_Md_apply_6 (by decide) (fun q => absurd ((g_ge (x := i) (y := 2) (by omega) (by omega)).mp q) (by omega)) (fun _ => ?_)
      refine lv_aload_n hx hb d_Md_apply_9 rfl (lv_at hl 0 rfl) ?_
      refine g_callv (va_runV (As := []) (rest := []) ⟨hx, hb, hml, hown, hts⟩ (c_m_clear l V X1 ) (cwV 0 hts (g_goodV kw_760 kw_757 kw_759 kp_27 kw_8) rfl rfl rfl (by decide +kernel) ⟨Nat.le_of_ble_eq_true rfl, Nat.le_of_ble_eq_true rfl⟩) (g_preV (k0 := 11) (ci := 7) hE hG (by decide) rfl rfl) rfl rfl hl.1 rfl (lv_room (Nat.le_of_ble_eq_true rfl)) d_Md_apply_10 ⟨Nat.le_refl 0, Nat.le_refl 0⟩) hG (fun X2 H locs q2 hG => ?_)
      refine lv_aload_n hx hb d_Md_apply_13 rfl (lv_at hl 0 rfl) ?_
      refine lv_aload_n hx hb d_Md_apply_14 rfl (lv_at hl 1 rfl) ?_
      refine lv_bipush (v := nI (32)) hx hb d_Md_apply_15 (by decide) ?_
      refine lv_iload hx hb d_Md_apply_17 (lv_at hl 4 rfl) ?_
      refine lv_imul hx hb d_Md_apply_19 ?_
      refine g_topi (y := nI (32 * i)) (pk_mul _ _) ?_
      refine lv_aload_n hx hb d_Md_apply_20 rfl (lv_at hl 2 rfl) ?_
      refine lv_iconst (v := nI (0)) hx hb d_Md_apply_21 (by decide) ?_
      refine lv_iconst (v := nI (1)) hx hb d_Md_apply_22 (by decide) ?_
      refine g_callv (va_runV (As := [.ref (g_ad V km), .int (nI (32 * i)), .ref (g_ad V kx), .int (nI (0)), .int (nI (1))]) (rest := []) ⟨hx, hb, hml, hown, hts⟩ (c_m_add l V X2 km hkm (32 * i) (by omega) kx hkx 0 (by omega) (nI 1)) (cwV 5 hts (g_goodV kw_764 kw_761 kw_763 kp_28 kw_8) rfl rfl rfl (by decide +kernel) ⟨Nat.le_of_ble_eq_true rfl, Nat.le_of_ble_eq_true rfl⟩) (g_preV (k0 := 11) (ci := 7) hE hG (by decide) rfl rfl) rfl rfl hl.1 rfl (lv_room (Nat.le_of_ble_eq_true rfl)) d_Md_apply_23 ⟨Nat.le_refl 0, Nat.le_refl 0⟩) hG (fun X3 H locs q3 hG => ?_)
      refine lv_aload_n hx hb d_Md_apply_26 rfl (lv_at hl 0 rfl) ?_
      refine lv_aload_n hx hb d_Md_apply_27 rfl (lv_at hl 1 rfl) ?_
      refine lv_bipush (v := nI (32)) hx hb d_Md_apply_28 (by decide) ?_
      refine lv_iload hx hb d_Md_apply_30 (lv_at hl 4 rfl) ?_
      refine lv_imul hx hb d_Md_apply_32 ?_
      refine g_topi (y := nI (32 * i)) (pk_mul _ _) ?_
      refine lv_bipush (v := nI (16)) hx hb d_Md_apply_33 (by decide) ?_
      refine lv_iadd hx hb d_Md_apply_35 ?_
      refine g_topi (y := nI ((32 * i) + 16)) (nI_add _ _) ?_
      refine lv_aload_n hx hb d_Md_apply_36 rfl (lv_at hl 2 rfl) ?_
      refine lv_bipush (v := nI (16)) hx hb d_Md_apply_37 (by decide) ?_
      refine lv_iconst (v := nI (1)) hx hb d_Md_apply_39 (by decide) ?_
      refine g_callv (va_runV (As := [.ref (g_ad V km), .int (nI ((32 * i) + 16)), .ref (g_ad V kx), .int (nI (16)), .int (nI (1))]) (rest := []) ⟨hx, hb, hml, hown, hts⟩ (c_m_add l V X3 km hkm (32 * i + 16) (by omega) kx hkx 16 (by omega) (nI 1)) (cwV 5 hts (g_goodV kw_764 kw_761 kw_763 kp_28 kw_8) rfl rfl rfl (by decide +kernel) ⟨Nat.le_of_ble_eq_true rfl, Nat.le_of_ble_eq_true rfl⟩) (g_preV (k0 := 11) (ci := 7) hE hG (by decide) rfl rfl) rfl rfl hl.1 rfl (lv_room (Nat.le_of_ble_eq_true rfl)) d_Md_apply_40 ⟨Nat.le_refl 0, Nat.le_refl 0⟩) hG (fun X4 H locs q4 hG => ?_)
      refine lv_iconst (v := nI (0)) hx hb d_Md_apply_43 (by decide) ?_
      refine lv_istore (lv' := [(5, .int (nI (0))), (0, .ref (g_ad V 11)), (1, .ref (g_ad V km)), (2, .ref (g_ad V kx)), (3, .ref (g_ad V kt)), (4, .int (nI (i)))]) hx hb d_Md_apply_44 hl (by decide) rfl (fun ls hl => ?_)
      have K46 : ∀ (fu k : Nat), k + fu = 16 → ∀ (X5 : Mm) (H : Heap) (locs : List Loc), ∀ (ls : Array Slot), (fr X X5 [kt] [16] []) → (X5.2.1 16 = aN (shI (X.1 km) (32 * i + 16)) (shI (X.1 kx) 16) (nI 1) (aN (shI (X.1 km) (32 * i)) (shI (X.1 kx) 0) (nI 1) z16 16) 16) → (X5.1 kt = segI (maP (X.1 km) (X.1 kx)) (X.1 kt) (16 * i + k)) → g_st V X5 s.heap H locs → lv_has ls 6 [(0, .ref (g_ad V 11)), (1, .ref (g_ad V km)), (2, .ref (g_ad V kx)), (3, .ref (g_ad V kt)), (4, .int (nI (i))), (5, .int (nI (k)))] → W p l e ({ frames := 1, cells := 0, slots := 0, locals := 30 } : Room) s m ([.ref (g_ad V 11), .ref (g_ad V km), .ref (g_ad V kx), .ref (g_ad V kt)] : List Value).toArray below meth c H locs 0 0 (MQ below (g_Qv V (fun X1 : Mm => X1.1 kt = (maP (X.1 km) (X.1 kx)) ∧ fr X X1 [kt] [16] [])) ([.ref (g_ad V 11), .ref (g_ad V km), .ref (g_ad V kx), .ref (g_ad V kt)] : List Value).toArray s 0 0 (g_A V)) (F0 m 46 ls []) := by
        intro fu
        induction fu with
        | zero =>
          intro k hin46 X5 H locs ls hF5 h16 hC5 hG hl
          have hi46 : 16 = k := by omega
          subst hi46
          refine lv_iload hx hb d_Md_apply_46 (lv_at hl 5 rfl) ?_
          refine lv_bipush (v := nI (16)) hx hb d_Md_apply_48 (by decide) ?_
          refine lv_icmp_ge (tgt := 79) hx hb d_Md_apply_50 (by decide) (fun _ => ?_) (fun q => absurd ((g_geN (x := 16) (y := 16) (by omega) (by omega)).mp q) (by omega))
          refine lv_iinc (v := nI (i + 1)) (lv' := [(4, .int (nI (i + 1))), (0, .ref (g_ad V 11)), (1, .ref (g_ad V km)), (2, .ref (g_ad V kx)), (3, .ref (g_ad V kt)), (5, .int (nI (16)))]) hx hb d_Md_apply_79 hl (k := 4) rfl (g_inc _) (by decide) rfl (fun ls hl => ?_)
          refine lv_goto (tgt := 3) hx hb d_Md_apply_82 (by decide) ?_
          exact ih3 (i + 1) (by omega) X5 _ _ ls hF5 (hC5.trans (congrArg (segI _ _) (by omega))) hG (lv_sub hl [1, 2, 3, 4, 0] rfl)
        | succ fu ih46 =>
          intro k hin46 X5 H locs ls hF5 h16 hC5 hG hl
          have hi46 : k < 16 := by omega
          refine lv_iload hx hb d_Md_apply_46 (lv_at hl 5 rfl) ?_
          refine lv_bipush (v := nI (16)) hx hb d_Md_apply_48 (by decide) ?_
          refine lv_icmp_ge (tgt := 79) hx hb d_Md_apply_50 (by decide) (fun q => absurd ((g_ge (x := k) (y := 16) (by omega) (by omega)).mp q) (by omega)) (fun _ => ?_)
          refine lv_aload_n hx hb d_Md_apply_53 rfl (lv_at hl 3 rfl) ?_
          refine lv_bipush (v := nI (16)) hx hb d_Md_apply_54 (by decide) ?_
          refine lv_iload hx hb d_Md_apply_56 (lv_at hl 4 rfl) ?_
          refine lv_imul hx hb d_Md_apply_58 ?_
          refine g_topi (y := nI (16 * i)) (pk_mul _ _) ?_
          refine lv_iload hx hb d_Md_apply_59 (lv_at hl 5 rfl) ?_
          refine lv_iadd hx hb d_Md_apply_61 ?_
          refine g_topi (y := nI ((16 * i) + k)) (nI_add _ _) ?_
          refine lv_aload_n hx hb d_Md_apply_62 rfl (lv_at hl 0 rfl) ?_
          refine g_get (ci := 7) (v := .ref (g_ad V 16)) (C := R_Md) (T := F_Md) (N := 35) hx hb hts (fun w h => List.mem_cons_of_mem _ (in_Md w h)) hown hE hG 11 (by decide) rfl rfl 34 (by decide) (hts _ (List.mem_cons_of_mem _ kw_626)) (fun _ h9 => h9) rfl d_Md_apply_63 ?_
          refine lv_iload hx hb d_Md_apply_66 (lv_at hl 5 rfl) ?_
          refine g_lald hx hb hE hG 16 rfl (k) (rfl) (show _ < 16 by omega) (v := aN (shI (X.1 km) (32 * i + 16)) (shI (X.1 kx) 16) (nI 1) (aN (shI (X.1 km) (32 * i)) (shI (X.1 kx) 0) (nI 1) z16 16) 16 k) (congrFun h16 _) d_Md_apply_68 ?_
          refine g_callpi (va_runS (As := [.long (aN (shI (X.1 km) (32 * i + 16)) (shI (X.1 kx) 16) (nI 1) (aN (shI (X.1 km) (32 * i)) (shI (X.1 kx) 0) (nI 1) z16 16) 16 k)]) (rest := [.int (nI ((16 * i) + k)), .ref (g_ad V kt)]) ⟨hx, hb, hml, hown, hts⟩ (c_m_mod l (aN (shI (X.1 km) (32 * i + 16)) (shI (X.1 kx) 16) (nI 1) (aN (shI (X.1 km) (32 * i)) (shI (X.1 kx) 0) (nI 1) z16 16) 16 k)) (va_cwS 1 hts (g_goodS kw_751 kw_749 kw_750 kw_8) rfl rfl rfl (by decide +kernel) ⟨Nat.le_of_ble_eq_true rfl, Nat.le_of_ble_eq_true rfl⟩) ⟨fun _ _ _ _ q => q, fun _ _ _ => rfl⟩ rfl rfl hl.1 rfl (lv_room (Nat.le_of_ble_eq_true rfl)) d_Md_apply_69 ⟨Nat.le_refl 0, Nat.le_refl 0⟩) (fun r11 q6 => ?_)
          refine g_topi (y := redP (aN (shI (X.1 km) (32 * i + 16)) (shI (X.1 kx) 16) (nI 1) (aN (shI (X.1 km) (32 * i)) (shI (X.1 kx) 0) (nI 1) z16 16) 16 k)) (q6) ?_
          refine g_iast (x := redP (aN (shI (X.1 km) (32 * i + 16)) (shI (X.1 kx) 16) (nI 1) (aN (shI (X.1 km) (32 * i)) (shI (X.1 kx) 0) (nI 1) z16 16) 16 k)) hx hb hE hG kt (by omega) ((16 * i) + k) (rfl) (by omega) d_Md_apply_72 (fun H locs hG => ?_)
          refine lv_iinc (v := nI (k + 1)) (lv' := [(5, .int (nI (k + 1))), (0, .ref (g_ad V 11)), (1, .ref (g_ad V km)), (2, .ref (g_ad V kx)), (3, .ref (g_ad V kt)), (4, .int (nI (i)))]) hx hb d_Md_apply_73 hl (k := 5) rfl (g_inc _) (by decide) rfl (fun ls hl => ?_)
          refine lv_goto (tgt := 46) hx hb d_Md_apply_76 (by decide) ?_
          exact ih46 (k + 1) (by omega) (uI X5 kt (upd (X5.1 kt) ((16 * i) + k) (redP (aN (shI (X.1 km) (32 * i + 16)) (shI (X.1 kx) 16) (nI 1) (aN (shI (X.1 km) (32 * i)) (shI (X.1 kx) 0) (nI 1) z16 16) 16 k)))) _ _ ls (fr_i hF5 _ List.mem_cons_self) h16 (by rw [uI_s, hC5, ← maP_at _ _ (show k < 16 by omega)]; exact segI_s _ _ _) hG (lv_sub hl [1, 2, 3, 4, 5, 0] rfl)
      exact K46 (16 - 0) 0 (by omega) X4 _ _ ls (fr_tr hF (fr_mono (fr_tr (fr_tr q2.2 q3.2) q4.2) (fun _ q => by cases q) (by decide) (by decide))) (by rw [q4.1, q3.1, q2.1, q3.2.1 km (fun q => by cases q), q3.2.1 kx (fun q => by cases q), q2.2.1 km (fun q => by cases q), q2.2.1 kx (fun q => by cases q), em, ex]) (by rw [q4.2.1 kt (fun q => by cases q), q3.2.1 kt (fun q => by cases q), q2.2.1 kt (fun q => by cases q), hC]) hG (lv_sub hl [1, 2, 3, 4, 5, 0] rfl)
  exact K3 (2 - 0) 0 (by omega) X _ _ ls (fr_rf X _ _ _) (segI_0 _ _).symm hG (lv_sub hl [1, 2, 3, 4, 0] rfl)

set_option maxHeartbeats 4000000 in
set_option maxRecDepth 100000 in
theorem c_m_shift (l : Launch) (V : Ev) (X : Mm) (kx : Nat) (hkx : 17 ≤ kx ∧ kx < 80) (hlx : g_len kx = 32) (by_ : Int32) (kb : Nat) (hkb : 17 ≤ kb ∧ kb < 80) (hlb : g_len kb = 32) (kt : Nat) (hkt : 17 ≤ kt ∧ kt < 80) (hlt : g_len kt = 32) (hbt : kb ≠ kt) (hxt : kx ≠ kt) (hct : (77 : Nat) ≠ kt) : Met l y_Md_shift (Cond.code y_Md_shift b_Md_shift 7 none :: WA) ({ frames := 1, cells := 0, slots := 0, locals := 30 } : Room) (g_Pc V X [.ref (g_ad V 11), .ref (g_ad V kx), .int (by_), .ref (g_ad V kb), .ref (g_ad V kt)]) (g_Qv V (fun X1 : Mm => X1.1 kt = (shP (X.1 77) (X.1 kx) by_ (X.1 kb)) ∧ fr X X1 [kt] [16] [])) 0 0 (g_A V) := by
  refine g_met (by decide) (Nat.le_of_ble_eq_true rfl) ?_
  intro p e s m below meth c hx hb hr hml hown hts hlocks hE hG ls hl
  have hl : lv_has ls 7 [(0, .ref (g_ad V 11)), (1, .ref (g_ad V kx)), (2, .int (by_)), (3, .ref (g_ad V kb)), (4, .ref (g_ad V kt))] := hl
  have hown : s.vm.findClass R_Md = some m.cls := hown
  refine lv_iconst (v := nI (0)) hx hb d_Md_shift_0 (by decide) ?_
  refine lv_istore (lv' := [(5, .int (nI (0))), (0, .ref (g_ad V 11)), (1, .ref (g_ad V kx)), (2, .int (by_)), (3, .ref (g_ad V kb)), (4, .ref (g_ad V kt))]) hx hb d_Md_shift_1 hl (by decide) rfl (fun ls hl => ?_)
  have K3 : ∀ (fu i : Nat), i + fu = 2 → ∀ (X1 : Mm) (H : Heap) (locs : List Loc), ∀ (ls : Array Slot), (fr X X1 [kt] [16] []) → (X1.1 kt = segI (shP (X.1 77) (X.1 kx) by_ (X.1 kb)) (X.1 kt) (16 * i + 0)) → g_st V X1 s.heap H locs → lv_has ls 7 [(0, .ref (g_ad V 11)), (1, .ref (g_ad V kx)), (2, .int (by_)), (3, .ref (g_ad V kb)), (4, .ref (g_ad V kt)), (5, .int (nI (i)))] → W p l e ({ frames := 1, cells := 0, slots := 0, locals := 30 } : Room) s m ([.ref (g_ad V 11), .ref (g_ad V kx), .int (by_), .ref (g_ad V kb), .ref (g_ad V kt)] : List Value).toArray below meth c H locs 0 0 (MQ below (g_Qv V (fun X1 : Mm => X1.1 kt = (shP (X.1 77) (X.1 kx) by_ (X.1 kb)) ∧ fr X X1 [kt] [16] [])) ([.ref (g_ad V 11), .ref (g_ad V kx), .int (by_), .ref (g_ad V kb), .ref (g_ad V kt)] : List Value).toArray s 0 0 (g_A V)) (F0 m 3 ls []) := by
    intro fu
    induction fu with
    | zero =>
      intro i hin3 X1 H locs ls hF hC hG hl
      have hi3 : 2 = i := by omega
      subst hi3
      refine lv_iload hx hb d_Md_shift_3 (lv_at hl 5 rfl) ?_
      refine lv_iconst (v := nI (2)) hx hb d_Md_shift_5 (by decide) ?_
      refine lv_icmp_ge (tgt := 84) hx hb d_Md_shift_6 (by decide) (fun _ => ?_) (fun q => absurd ((g_geN (x := 2) (y := 2) (by omega) (by omega)).mp q) (by omega))
      have hG := g_xi hG kt hkt (shP (X.1 77) (X.1 kx) by_ (X.1 kb)) (fun j hj => by rw [hC]; exact segI_e _ _ (by omega))
      exact g_vret hx hb hr hlocks hE hG (⟨uI_s _ _ _, fr_i hF _ List.mem_cons_self⟩) d_Md_shift_84
    | succ fu ih3 =>
      intro i hin3 X1 H locs ls hF hC hG hl
      have hi3 : i < 2 := by omega
      have em : X1.1 77 = X.1 77 := hF.1 77 (ni_1 hct)
      have ex : X1.1 kx = X.1 kx := hF.1 kx (ni_1 hxt)
      refine lv_iload hx hb d_Md_shift_3 (lv_at hl 5 rfl) ?_
      refine lv_iconst (v := nI (2)) hx hb d_Md_shift_5 (by decide) ?_
      refine lv_icmp_ge (tgt := 84) hx hb d_Md_shift_6 (by decide) (fun q => absurd ((g_ge (x := i) (y := 2) (by omega) (by omega)).mp q) (by omega)) (fun _ => ?_)
      refine lv_aload_n hx hb d_Md_shift_9 rfl (lv_at hl 0 rfl) ?_
      refine g_callv (va_runV (As := []) (rest := []) ⟨hx, hb, hml, hown, hts⟩ (c_m_clear l V X1 ) (cwV 0 hts (g_goodV kw_760 kw_757 kw_759 kp_27 kw_8) rfl rfl rfl (by decide +kernel) ⟨Nat.le_of_ble_eq_true rfl, Nat.le_of_ble_eq_true rfl⟩) (g_preV (k0 := 11) (ci := 7) hE hG (by decide) rfl rfl) rfl rfl hl.1 rfl (lv_room (Nat.le_of_ble_eq_true rfl)) d_Md_shift_10 ⟨Nat.le_refl 0, Nat.le_refl 0⟩) hG (fun X2 H locs q2 hG => ?_)
      refine lv_aload_n hx hb d_Md_shift_13 rfl (lv_at hl 0 rfl) ?_
      refine lv_aload_n hx hb d_Md_shift_14 rfl (lv_at hl 0 rfl) ?_
      refine g_get (ci := 7) (v := .ref (g_ad V 77)) (C := R_Md) (T := F_Md) (N := 35) hx hb hts (fun w h => List.mem_cons_of_mem _ (in_Md w h)) hown hE hG 11 (by decide) rfl rfl 31 (by decide) (hts _ (List.mem_cons_of_mem _ kw_623)) (fun _ h9 => h9) rfl d_Md_shift_15 ?_
      refine lv_iconst (v := nI (0)) hx hb d_Md_shift_18 (by decide) ?_
      refine lv_aload_n hx hb d_Md_shift_19 rfl (lv_at hl 1 rfl) ?_
      refine lv_bipush (v := nI (16)) hx hb d_Md_shift_20 (by decide) ?_
      refine lv_iload hx hb d_Md_shift_22 (lv_at hl 5 rfl) ?_
      refine lv_imul hx hb d_Md_shift_24 ?_
      refine g_topi (y := nI (16 * i)) (pk_mul _ _) ?_
      refine lv_iload_n hx hb d_Md_shift_25 rfl (lv_at hl 2 rfl) ?_
      refine g_callv (va_runV (As := [.ref (g_ad V 77), .int (nI (0)), .ref (g_ad V kx), .int (nI (16 * i)), .int (by_)]) (rest := []) ⟨hx, hb, hml, hown, hts⟩ (c_m_add l V X2 77 (by decide) 0 (by decide) kx hkx (16 * i) (by omega) by_) (cwV 5 hts (g_goodV kw_764 kw_761 kw_763 kp_28 kw_8) rfl rfl rfl (by decide +kernel) ⟨Nat.le_of_ble_eq_true rfl, Nat.le_of_ble_eq_true rfl⟩) (g_preV (k0 := 11) (ci := 7) hE hG (by decide) rfl rfl) rfl rfl hl.1 rfl (lv_room (Nat.le_of_ble_eq_true rfl)) d_Md_shift_26 ⟨Nat.le_refl 0, Nat.le_refl 0⟩) hG (fun X3 H locs q3 hG => ?_)
      refine lv_iconst (v := nI (0)) hx hb d_Md_shift_29 (by decide) ?_
      refine lv_istore (lv' := [(6, .int (nI (0))), (0, .ref (g_ad V 11)), (1, .ref (g_ad V kx)), (2, .int (by_)), (3, .ref (g_ad V kb)), (4, .ref (g_ad V kt)), (5, .int (nI (i)))]) hx hb d_Md_shift_30 hl (by decide) rfl (fun ls hl => ?_)
      have K32 : ∀ (fu k : Nat), k + fu = 16 → ∀ (X5 : Mm) (H : Heap) (locs : List Loc), ∀ (ls : Array Slot), (fr X X5 [kt] [16] []) → (X5.2.1 16 = aN (shI (X.1 77) 0) (shI (X.1 kx) (16 * i)) by_ z16 16) → (X5.1 kt = segI (shP (X.1 77) (X.1 kx) by_ (X.1 kb)) (X.1 kt) (16 * i + k)) → g_st V X5 s.heap H locs → lv_has ls 7 [(0, .ref (g_ad V 11)), (1, .ref (g_ad V kx)), (2, .int (by_)), (3, .ref (g_ad V kb)), (4, .ref (g_ad V kt)), (5, .int (nI (i))), (6, .int (nI (k)))] → W p l e ({ frames := 1, cells := 0, slots := 0, locals := 30 } : Room) s m ([.ref (g_ad V 11), .ref (g_ad V kx), .int (by_), .ref (g_ad V kb), .ref (g_ad V kt)] : List Value).toArray below meth c H locs 0 0 (MQ below (g_Qv V (fun X1 : Mm => X1.1 kt = (shP (X.1 77) (X.1 kx) by_ (X.1 kb)) ∧ fr X X1 [kt] [16] [])) ([.ref (g_ad V 11), .ref (g_ad V kx), .int (by_), .ref (g_ad V kb), .ref (g_ad V kt)] : List Value).toArray s 0 0 (g_A V)) (F0 m 32 ls []) := by
        intro fu
        induction fu with
        | zero =>
          intro k hin32 X5 H locs ls hF5 h16 hC5 hG hl
          have hi32 : 16 = k := by omega
          subst hi32
          refine lv_iload hx hb d_Md_shift_32 (lv_at hl 6 rfl) ?_
          refine lv_bipush (v := nI (16)) hx hb d_Md_shift_34 (by decide) ?_
          refine lv_icmp_ge (tgt := 78) hx hb d_Md_shift_36 (by decide) (fun _ => ?_) (fun q => absurd ((g_geN (x := 16) (y := 16) (by omega) (by omega)).mp q) (by omega))
          refine lv_iinc (v := nI (i + 1)) (lv' := [(5, .int (nI (i + 1))), (0, .ref (g_ad V 11)), (1, .ref (g_ad V kx)), (2, .int (by_)), (3, .ref (g_ad V kb)), (4, .ref (g_ad V kt)), (6, .int (nI (16)))]) hx hb d_Md_shift_78 hl (k := 5) rfl (g_inc _) (by decide) rfl (fun ls hl => ?_)
          refine lv_goto (tgt := 3) hx hb d_Md_shift_81 (by decide) ?_
          exact ih3 (i + 1) (by omega) X5 _ _ ls hF5 (hC5.trans (congrArg (segI _ _) (by omega))) hG (lv_sub hl [1, 2, 3, 4, 5, 0] rfl)
        | succ fu ih32 =>
          intro k hin32 X5 H locs ls hF5 h16 hC5 hG hl
          have hi32 : k < 16 := by omega
          refine lv_iload hx hb d_Md_shift_32 (lv_at hl 6 rfl) ?_
          refine lv_bipush (v := nI (16)) hx hb d_Md_shift_34 (by decide) ?_
          refine lv_icmp_ge (tgt := 78) hx hb d_Md_shift_36 (by decide) (fun q => absurd ((g_ge (x := k) (y := 16) (by omega) (by omega)).mp q) (by omega)) (fun _ => ?_)
          refine lv_aload hx hb d_Md_shift_39 (lv_at hl 4 rfl) ?_
          refine lv_bipush (v := nI (16)) hx hb d_Md_shift_41 (by decide) ?_
          refine lv_iload hx hb d_Md_shift_43 (lv_at hl 5 rfl) ?_
          refine lv_imul hx hb d_Md_shift_45 ?_
          refine g_topi (y := nI (16 * i)) (pk_mul _ _) ?_
          refine lv_iload hx hb d_Md_shift_46 (lv_at hl 6 rfl) ?_
          refine lv_iadd hx hb d_Md_shift_48 ?_
          refine g_topi (y := nI ((16 * i) + k)) (nI_add _ _) ?_
          refine lv_aload_n hx hb d_Md_shift_49 rfl (lv_at hl 3 rfl) ?_
          refine lv_bipush (v := nI (16)) hx hb d_Md_shift_50 (by decide) ?_
          refine lv_iload hx hb d_Md_shift_52 (lv_at hl 5 rfl) ?_
          refine lv_imul hx hb d_Md_shift_54 ?_
          refine g_topi (y := nI (16 * i)) (pk_mul _ _) ?_
          refine lv_iload hx hb d_Md_shift_55 (lv_at hl 6 rfl) ?_
          refine lv_iadd hx hb d_Md_shift_57 ?_
          refine g_topi (y := nI ((16 * i) + k)) (nI_add _ _) ?_
          refine g_iald hx hb hE hG kb (by omega) ((16 * i) + k) (rfl) (by omega) (v := X.1 kb (16 * i + k)) (congrFun (hF5.1 kb (ni_1 hbt)) _) d_Md_shift_58 ?_
          refine lv_i2l (v := (X.1 kb (16 * i + k)).toInt64) hx hb d_Md_shift_59 rfl ?_
          refine lv_aload_n hx hb d_Md_shift_60 rfl (lv_at hl 0 rfl) ?_
          refine g_get (ci := 7) (v := .ref (g_ad V 16)) (C := R_Md) (T := F_Md) (N := 35) hx hb hts (fun w h => List.mem_cons_of_mem _ (in_Md w h)) hown hE hG 11 (by decide) rfl rfl 34 (by decide) (hts _ (List.mem_cons_of_mem _ kw_626)) (fun _ h9 => h9) rfl d_Md_shift_61 ?_
          refine lv_iload hx hb d_Md_shift_64 (lv_at hl 6 rfl) ?_
          refine g_lald hx hb hE hG 16 rfl (k) (rfl) (show _ < 16 by omega) (v := aN (shI (X.1 77) 0) (shI (X.1 kx) (16 * i)) by_ z16 16 k) (congrFun h16 _) d_Md_shift_66 ?_
          refine lv_ladd hx hb d_Md_shift_67 ?_
          refine g_callpi (va_runS (As := [.long (((X.1 kb (16 * i + k)).toInt64) + (aN (shI (X.1 77) 0) (shI (X.1 kx) (16 * i)) by_ z16 16 k))]) (rest := [.int (nI ((16 * i) + k)), .ref (g_ad V kt)]) ⟨hx, hb, hml, hown, hts⟩ (c_m_mod l ((X.1 kb (16 * i + k)).toInt64 + aN (shI (X.1 77) 0) (shI (X.1 kx) (16 * i)) by_ z16 16 k)) (va_cwS 1 hts (g_goodS kw_751 kw_749 kw_750 kw_8) rfl rfl rfl (by decide +kernel) ⟨Nat.le_of_ble_eq_true rfl, Nat.le_of_ble_eq_true rfl⟩) ⟨fun _ _ _ _ q => q, fun _ _ _ => rfl⟩ rfl rfl hl.1 rfl (lv_room (Nat.le_of_ble_eq_true rfl)) d_Md_shift_68 ⟨Nat.le_refl 0, Nat.le_refl 0⟩) (fun r8 q6 => ?_)
          refine g_topi (y := redP ((X.1 kb (16 * i + k)).toInt64 + aN (shI (X.1 77) 0) (shI (X.1 kx) (16 * i)) by_ z16 16 k)) (q6) ?_
          refine g_iast (x := redP ((X.1 kb (16 * i + k)).toInt64 + aN (shI (X.1 77) 0) (shI (X.1 kx) (16 * i)) by_ z16 16 k)) hx hb hE hG kt (by omega) ((16 * i) + k) (rfl) (by omega) d_Md_shift_71 (fun H locs hG => ?_)
          refine lv_iinc (v := nI (k + 1)) (lv' := [(6, .int (nI (k + 1))), (0, .ref (g_ad V 11)), (1, .ref (g_ad V kx)), (2, .int (by_)), (3, .ref (g_ad V kb)), (4, .ref (g_ad V kt)), (5, .int (nI (i)))]) hx hb d_Md_shift_72 hl (k := 6) rfl (g_inc _) (by decide) rfl (fun ls hl => ?_)
          refine lv_goto (tgt := 32) hx hb d_Md_shift_75 (by decide) ?_
          exact ih32 (k + 1) (by omega) (uI X5 kt (upd (X5.1 kt) ((16 * i) + k) (redP ((X.1 kb (16 * i + k)).toInt64 + aN (shI (X.1 77) 0) (shI (X.1 kx) (16 * i)) by_ z16 16 k)))) _ _ ls (fr_i hF5 _ List.mem_cons_self) h16 (by rw [uI_s, hC5, ← shP_at _ _ _ _ (show k < 16 by omega)]; exact segI_s _ _ _) hG (lv_sub hl [1, 2, 3, 4, 5, 6, 0] rfl)
      exact K32 (16 - 0) 0 (by omega) X3 _ _ ls (fr_tr hF (fr_mono (fr_tr q2.2 q3.2) (fun _ q => by cases q) (by decide) (by decide))) (by rw [q3.1, q2.1, q2.2.1 77 (fun q => by cases q), q2.2.1 kx (fun q => by cases q), em, ex]) (by rw [q3.2.1 kt (fun q => by cases q), q2.2.1 kt (fun q => by cases q), hC]) hG (lv_sub hl [1, 2, 3, 4, 5, 6, 0] rfl)
  exact K3 (2 - 0) 0 (by omega) X _ _ ls (fr_rf X _ _ _) (segI_0 _ _).symm hG (lv_sub hl [1, 2, 3, 4, 5, 0] rfl)

set_option maxHeartbeats 4000000 in
set_option maxRecDepth 100000 in
theorem c_m_shiftA (l : Launch) (V : Ev) (X : Mm) (kx : Nat) (hkx : 17 ≤ kx ∧ kx < 80) (hlx : g_len kx = 32) (by_ : Int32) (kb : Nat) (hkb : 17 ≤ kb ∧ kb < 80) (hlb : g_len kb = 32) (hxt : kx ≠ kb) (hct : (77 : Nat) ≠ kb) : Met l y_Md_shift (Cond.code y_Md_shift b_Md_shift 7 none :: WA) ({ frames := 1, cells := 0, slots := 0, locals := 30 } : Room) (g_Pc V X [.ref (g_ad V 11), .ref (g_ad V kx), .int (by_), .ref (g_ad V kb), .ref (g_ad V kb)]) (g_Qv V (fun X1 : Mm => X1.1 kb = (shP (X.1 77) (X.1 kx) by_ (X.1 kb)) ∧ fr X X1 [kb] [16] [])) 0 0 (g_A V) := by
  refine g_met (by decide) (Nat.le_of_ble_eq_true rfl) ?_
  intro p e s m below meth c hx hb hr hml hown hts hlocks hE hG ls hl
  have hl : lv_has ls 7 [(0, .ref (g_ad V 11)), (1, .ref (g_ad V kx)), (2, .int (by_)), (3, .ref (g_ad V kb)), (4, .ref (g_ad V kb))] := hl
  have hown : s.vm.findClass R_Md = some m.cls := hown
  refine lv_iconst (v := nI (0)) hx hb d_Md_shift_0 (by decide) ?_
  refine lv_istore (lv' := [(5, .int (nI (0))), (0, .ref (g_ad V 11)), (1, .ref (g_ad V kx)), (2, .int (by_)), (3, .ref (g_ad V kb)), (4, .ref (g_ad V kb))]) hx hb d_Md_shift_1 hl (by decide) rfl (fun ls hl => ?_)
  have K3 : ∀ (fu i : Nat), i + fu = 2 → ∀ (X1 : Mm) (H : Heap) (locs : List Loc), ∀ (ls : Array Slot), (fr X X1 [kb] [16] []) → (X1.1 kb = segI (shP (X.1 77) (X.1 kx) by_ (X.1 kb)) (X.1 kb) (16 * i + 0)) → g_st V X1 s.heap H locs → lv_has ls 7 [(0, .ref (g_ad V 11)), (1, .ref (g_ad V kx)), (2, .int (by_)), (3, .ref (g_ad V kb)), (4, .ref (g_ad V kb)), (5, .int (nI (i)))] → W p l e ({ frames := 1, cells := 0, slots := 0, locals := 30 } : Room) s m ([.ref (g_ad V 11), .ref (g_ad V kx), .int (by_), .ref (g_ad V kb), .ref (g_ad V kb)] : List Value).toArray below meth c H locs 0 0 (MQ below (g_Qv V (fun X1 : Mm => X1.1 kb = (shP (X.1 77) (X.1 kx) by_ (X.1 kb)) ∧ fr X X1 [kb] [16] [])) ([.ref (g_ad V 11), .ref (g_ad V kx), .int (by_), .ref (g_ad V kb), .ref (g_ad V kb)] : List Value).toArray s 0 0 (g_A V)) (F0 m 3 ls []) := by
    intro fu
    induction fu with
    | zero =>
      intro i hin3 X1 H locs ls hF hC hG hl
      have hi3 : 2 = i := by omega
      subst hi3
      refine lv_iload hx hb d_Md_shift_3 (lv_at hl 5 rfl) ?_
      refine lv_iconst (v := nI (2)) hx hb d_Md_shift_5 (by decide) ?_
      refine lv_icmp_ge (tgt := 84) hx hb d_Md_shift_6 (by decide) (fun _ => ?_) (fun q => absurd ((g_geN (x := 2) (y := 2) (by omega) (by omega)).mp q) (by omega))
      have hG := g_xi hG kb hkb (shP (X.1 77) (X.1 kx) by_ (X.1 kb)) (fun j hj => by rw [hC]; exact segI_e _ _ (by omega))
      exact g_vret hx hb hr hlocks hE hG (⟨uI_s _ _ _, fr_i hF _ List.mem_cons_self⟩) d_Md_shift_84
    | succ fu ih3 =>
      intro i hin3 X1 H locs ls hF hC hG hl
      have hi3 : i < 2 := by omega
      have em : X1.1 77 = X.1 77 := hF.1 77 (ni_1 hct)
      have ex : X1.1 kx = X.1 kx := hF.1 kx (ni_1 hxt)
      refine lv_iload hx hb d_Md_shift_3 (lv_at hl 5 rfl) ?_
      refine lv_iconst (v := nI (2)) hx hb d_Md_shift_5 (by decide) ?_
      refine lv_icmp_ge (tgt := 84) hx hb d_Md_shift_6 (by decide) (fun q => absurd ((g_ge (x := i) (y := 2) (by omega) (by omega)).mp q) (by omega)) (fun _ => ?_)
      refine lv_aload_n hx hb d_Md_shift_9 rfl (lv_at hl 0 rfl) ?_
      refine g_callv (va_runV (As := []) (rest := []) ⟨hx, hb, hml, hown, hts⟩ (c_m_clear l V X1 ) (cwV 0 hts (g_goodV kw_760 kw_757 kw_759 kp_27 kw_8) rfl rfl rfl (by decide +kernel) ⟨Nat.le_of_ble_eq_true rfl, Nat.le_of_ble_eq_true rfl⟩) (g_preV (k0 := 11) (ci := 7) hE hG (by decide) rfl rfl) rfl rfl hl.1 rfl (lv_room (Nat.le_of_ble_eq_true rfl)) d_Md_shift_10 ⟨Nat.le_refl 0, Nat.le_refl 0⟩) hG (fun X2 H locs q2 hG => ?_)
      refine lv_aload_n hx hb d_Md_shift_13 rfl (lv_at hl 0 rfl) ?_
      refine lv_aload_n hx hb d_Md_shift_14 rfl (lv_at hl 0 rfl) ?_
      refine g_get (ci := 7) (v := .ref (g_ad V 77)) (C := R_Md) (T := F_Md) (N := 35) hx hb hts (fun w h => List.mem_cons_of_mem _ (in_Md w h)) hown hE hG 11 (by decide) rfl rfl 31 (by decide) (hts _ (List.mem_cons_of_mem _ kw_623)) (fun _ h9 => h9) rfl d_Md_shift_15 ?_
      refine lv_iconst (v := nI (0)) hx hb d_Md_shift_18 (by decide) ?_
      refine lv_aload_n hx hb d_Md_shift_19 rfl (lv_at hl 1 rfl) ?_
      refine lv_bipush (v := nI (16)) hx hb d_Md_shift_20 (by decide) ?_
      refine lv_iload hx hb d_Md_shift_22 (lv_at hl 5 rfl) ?_
      refine lv_imul hx hb d_Md_shift_24 ?_
      refine g_topi (y := nI (16 * i)) (pk_mul _ _) ?_
      refine lv_iload_n hx hb d_Md_shift_25 rfl (lv_at hl 2 rfl) ?_
      refine g_callv (va_runV (As := [.ref (g_ad V 77), .int (nI (0)), .ref (g_ad V kx), .int (nI (16 * i)), .int (by_)]) (rest := []) ⟨hx, hb, hml, hown, hts⟩ (c_m_add l V X2 77 (by decide) 0 (by decide) kx hkx (16 * i) (by omega) by_) (cwV 5 hts (g_goodV kw_764 kw_761 kw_763 kp_28 kw_8) rfl rfl rfl (by decide +kernel) ⟨Nat.le_of_ble_eq_true rfl, Nat.le_of_ble_eq_true rfl⟩) (g_preV (k0 := 11) (ci := 7) hE hG (by decide) rfl rfl) rfl rfl hl.1 rfl (lv_room (Nat.le_of_ble_eq_true rfl)) d_Md_shift_26 ⟨Nat.le_refl 0, Nat.le_refl 0⟩) hG (fun X3 H locs q3 hG => ?_)
      refine lv_iconst (v := nI (0)) hx hb d_Md_shift_29 (by decide) ?_
      refine lv_istore (lv' := [(6, .int (nI (0))), (0, .ref (g_ad V 11)), (1, .ref (g_ad V kx)), (2, .int (by_)), (3, .ref (g_ad V kb)), (4, .ref (g_ad V kb)), (5, .int (nI (i)))]) hx hb d_Md_shift_30 hl (by decide) rfl (fun ls hl => ?_)
      have K32 : ∀ (fu k : Nat), k + fu = 16 → ∀ (X5 : Mm) (H : Heap) (locs : List Loc), ∀ (ls : Array Slot), (fr X X5 [kb] [16] []) → (X5.2.1 16 = aN (shI (X.1 77) 0) (shI (X.1 kx) (16 * i)) by_ z16 16) → (X5.1 kb = segI (shP (X.1 77) (X.1 kx) by_ (X.1 kb)) (X.1 kb) (16 * i + k)) → g_st V X5 s.heap H locs → lv_has ls 7 [(0, .ref (g_ad V 11)), (1, .ref (g_ad V kx)), (2, .int (by_)), (3, .ref (g_ad V kb)), (4, .ref (g_ad V kb)), (5, .int (nI (i))), (6, .int (nI (k)))] → W p l e ({ frames := 1, cells := 0, slots := 0, locals := 30 } : Room) s m ([.ref (g_ad V 11), .ref (g_ad V kx), .int (by_), .ref (g_ad V kb), .ref (g_ad V kb)] : List Value).toArray below meth c H locs 0 0 (MQ below (g_Qv V (fun X1 : Mm => X1.1 kb = (shP (X.1 77) (X.1 kx) by_ (X.1 kb)) ∧ fr X X1 [kb] [16] [])) ([.ref (g_ad V 11), .ref (g_ad V kx), .int (by_), .ref (g_ad V kb), .ref (g_ad V kb)] : List Value).toArray s 0 0 (g_A V)) (F0 m 32 ls []) := by
        intro fu
        induction fu with
        | zero =>
          intro k hin32 X5 H locs ls hF5 h16 hC5 hG hl
          have hi32 : 16 = k := by omega
          subst hi32
          refine lv_iload hx hb d_Md_shift_32 (lv_at hl 6 rfl) ?_
          refine lv_bipush (v := nI (16)) hx hb d_Md_shift_34 (by decide) ?_
          refine lv_icmp_ge (tgt := 78) hx hb d_Md_shift_36 (by decide) (fun _ => ?_) (fun q => absurd ((g_geN (x := 16) (y := 16) (by omega) (by omega)).mp q) (by omega))
          refine lv_iinc (v := nI (i + 1)) (lv' := [(5, .int (nI (i + 1))), (0, .ref (g_ad V 11)), (1, .ref (g_ad V kx)), (2, .int (by_)), (3, .ref (g_ad V kb)), (4, .ref (g_ad V kb)), (6, .int (nI (16)))]) hx hb d_Md_shift_78 hl (k := 5) rfl (g_inc _) (by decide) rfl (fun ls hl => ?_)
          refine lv_goto (tgt := 3) hx hb d_Md_shift_81 (by decide) ?_
          exact ih3 (i + 1) (by omega) X5 _ _ ls hF5 (hC5.trans (congrArg (segI _ _) (by omega))) hG (lv_sub hl [1, 2, 3, 4, 5, 0] rfl)
        | succ fu ih32 =>
          intro k hin32 X5 H locs ls hF5 h16 hC5 hG hl
          have hi32 : k < 16 := by omega
          refine lv_iload hx hb d_Md_shift_32 (lv_at hl 6 rfl) ?_
          refine lv_bipush (v := nI (16)) hx hb d_Md_shift_34 (by decide) ?_
          refine lv_icmp_ge (tgt := 78) hx hb d_Md_shift_36 (by decide) (fun q => absurd ((g_ge (x := k) (y := 16) (by omega) (by omega)).mp q) (by omega)) (fun _ => ?_)
          refine lv_aload hx hb d_Md_shift_39 (lv_at hl 4 rfl) ?_
          refine lv_bipush (v := nI (16)) hx hb d_Md_shift_41 (by decide) ?_
          refine lv_iload hx hb d_Md_shift_43 (lv_at hl 5 rfl) ?_
          refine lv_imul hx hb d_Md_shift_45 ?_
          refine g_topi (y := nI (16 * i)) (pk_mul _ _) ?_
          refine lv_iload hx hb d_Md_shift_46 (lv_at hl 6 rfl) ?_
          refine lv_iadd hx hb d_Md_shift_48 ?_
          refine g_topi (y := nI ((16 * i) + k)) (nI_add _ _) ?_
          refine lv_aload_n hx hb d_Md_shift_49 rfl (lv_at hl 3 rfl) ?_
          refine lv_bipush (v := nI (16)) hx hb d_Md_shift_50 (by decide) ?_
          refine lv_iload hx hb d_Md_shift_52 (lv_at hl 5 rfl) ?_
          refine lv_imul hx hb d_Md_shift_54 ?_
          refine g_topi (y := nI (16 * i)) (pk_mul _ _) ?_
          refine lv_iload hx hb d_Md_shift_55 (lv_at hl 6 rfl) ?_
          refine lv_iadd hx hb d_Md_shift_57 ?_
          refine g_topi (y := nI ((16 * i) + k)) (nI_add _ _) ?_
          refine g_iald hx hb hE hG kb (by omega) ((16 * i) + k) (rfl) (by omega) (v := X.1 kb (16 * i + k)) ((congrFun hC5 _).trans (segI_ge _ _ (Nat.le_refl _))) d_Md_shift_58 ?_
          refine lv_i2l (v := (X.1 kb (16 * i + k)).toInt64) hx hb d_Md_shift_59 rfl ?_
          refine lv_aload_n hx hb d_Md_shift_60 rfl (lv_at hl 0 rfl) ?_
          refine g_get (ci := 7) (v := .ref (g_ad V 16)) (C := R_Md) (T := F_Md) (N := 35) hx hb hts (fun w h => List.mem_cons_of_mem _ (in_Md w h)) hown hE hG 11 (by decide) rfl rfl 34 (by decide) (hts _ (List.mem_cons_of_mem _ kw_626)) (fun _ h9 => h9) rfl d_Md_shift_61 ?_
          refine lv_iload hx hb d_Md_shift_64 (lv_at hl 6 rfl) ?_
          refine g_lald hx hb hE hG 16 rfl (k) (rfl) (show _ < 16 by omega) (v := aN (shI (X.1 77) 0) (shI (X.1 kx) (16 * i)) by_ z16 16 k) (congrFun h16 _) d_Md_shift_66 ?_
          refine lv_ladd hx hb d_Md_shift_67 ?_
          refine g_callpi (va_runS (As := [.long (((X.1 kb (16 * i + k)).toInt64) + (aN (shI (X.1 77) 0) (shI (X.1 kx) (16 * i)) by_ z16 16 k))]) (rest := [.int (nI ((16 * i) + k)), .ref (g_ad V kb)]) ⟨hx, hb, hml, hown, hts⟩ (c_m_mod l ((X.1 kb (16 * i + k)).toInt64 + aN (shI (X.1 77) 0) (shI (X.1 kx) (16 * i)) by_ z16 16 k)) (va_cwS 1 hts (g_goodS kw_751 kw_749 kw_750 kw_8) rfl rfl rfl (by decide +kernel) ⟨Nat.le_of_ble_eq_true rfl, Nat.le_of_ble_eq_true rfl⟩) ⟨fun _ _ _ _ q => q, fun _ _ _ => rfl⟩ rfl rfl hl.1 rfl (lv_room (Nat.le_of_ble_eq_true rfl)) d_Md_shift_68 ⟨Nat.le_refl 0, Nat.le_refl 0⟩) (fun r8 q6 => ?_)
          refine g_topi (y := redP ((X.1 kb (16 * i + k)).toInt64 + aN (shI (X.1 77) 0) (shI (X.1 kx) (16 * i)) by_ z16 16 k)) (q6) ?_
          refine g_iast (x := redP ((X.1 kb (16 * i + k)).toInt64 + aN (shI (X.1 77) 0) (shI (X.1 kx) (16 * i)) by_ z16 16 k)) hx hb hE hG kb (by omega) ((16 * i) + k) (rfl) (by omega) d_Md_shift_71 (fun H locs hG => ?_)
          refine lv_iinc (v := nI (k + 1)) (lv' := [(6, .int (nI (k + 1))), (0, .ref (g_ad V 11)), (1, .ref (g_ad V kx)), (2, .int (by_)), (3, .ref (g_ad V kb)), (4, .ref (g_ad V kb)), (5, .int (nI (i)))]) hx hb d_Md_shift_72 hl (k := 6) rfl (g_inc _) (by decide) rfl (fun ls hl => ?_)
          refine lv_goto (tgt := 32) hx hb d_Md_shift_75 (by decide) ?_
          exact ih32 (k + 1) (by omega) (uI X5 kb (upd (X5.1 kb) ((16 * i) + k) (redP ((X.1 kb (16 * i + k)).toInt64 + aN (shI (X.1 77) 0) (shI (X.1 kx) (16 * i)) by_ z16 16 k)))) _ _ ls (fr_i hF5 _ List.mem_cons_self) h16 (by rw [uI_s, hC5, ← shP_at _ _ _ _ (show k < 16 by omega)]; exact segI_s _ _ _) hG (lv_sub hl [1, 2, 3, 4, 5, 6, 0] rfl)
      exact K32 (16 - 0) 0 (by omega) X3 _ _ ls (fr_tr hF (fr_mono (fr_tr q2.2 q3.2) (fun _ q => by cases q) (by decide) (by decide))) (by rw [q3.1, q2.1, q2.2.1 77 (fun q => by cases q), q2.2.1 kx (fun q => by cases q), em, ex]) (by rw [q3.2.1 kb (fun q => by cases q), q2.2.1 kb (fun q => by cases q), hC]) hG (lv_sub hl [1, 2, 3, 4, 5, 6, 0] rfl)
  exact K3 (2 - 0) 0 (by omega) X _ _ ls (fr_rf X _ _ _) (segI_0 _ _).symm hG (lv_sub hl [1, 2, 3, 4, 5, 0] rfl)

set_option maxHeartbeats 4000000 in
set_option maxRecDepth 100000 in
theorem c_m_wider (l : Launch) (V : Ev) (X : Mm) (kx : Nat) (hkx : 17 ≤ kx ∧ kx < 80) (hlx : g_len kx = 32) (lm : Nat) : Met l y_Md_wider (Cond.code y_Md_wider b_Md_wider 6 (some .boolean) :: WA) ({ frames := 1, cells := 0, slots := 0, locals := 20 } : Room) (g_Pc V X [.ref (g_ad V 11), .ref (g_ad V kx), .int (nI (lm))]) (g_Qi V (fun (r : Int32) (X1 : Mm) => r = wrP (X.1 kx) (nI lm) 32 ∧ X = X1)) 0 0 (g_A V) := by
  refine g_met (by decide) (Nat.le_of_ble_eq_true rfl) ?_
  intro p e s m below meth c hx hb hr hml hown hts hlocks hE hG ls hl
  have hl : lv_has ls 6 [(0, .ref (g_ad V 11)), (1, .ref (g_ad V kx)), (2, .int (nI (lm)))] := hl
  have hown : s.vm.findClass R_Md = some m.cls := hown
  refine lv_iconst (v := nI (0)) hx hb d_Md_wider_0 (by decide) ?_
  refine lv_istore_n (lv' := [(3, .int (nI (0))), (0, .ref (g_ad V 11)), (1, .ref (g_ad V kx)), (2, .int (nI (lm)))]) hx hb d_Md_wider_1 rfl hl (by decide) rfl (fun ls hl => ?_)
  refine lv_iconst (v := nI (0)) hx hb d_Md_wider_2 (by decide) ?_
  refine lv_istore (lv' := [(4, .int (nI (0))), (3, .int (nI (0))), (0, .ref (g_ad V 11)), (1, .ref (g_ad V kx)), (2, .int (nI (lm)))]) hx hb d_Md_wider_3 hl (by decide) rfl (fun ls hl => ?_)
  have K5 : ∀ (fu i : Nat), i + fu = 32 → ∀ (ls : Array Slot), lv_has ls 6 [(0, .ref (g_ad V 11)), (1, .ref (g_ad V kx)), (2, .int (nI (lm))), (3, .int (wrP (X.1 kx) (nI lm) i)), (4, .int (nI (i)))] → W p l e ({ frames := 1, cells := 0, slots := 0, locals := 20 } : Room) s m ([.ref (g_ad V 11), .ref (g_ad V kx), .int (nI (lm))] : List Value).toArray below meth c s.heap [] 0 0 (MQ below (g_Qi V (fun (r : Int32) (X1 : Mm) => r = wrP (X.1 kx) (nI lm) 32 ∧ X = X1)) ([.ref (g_ad V 11), .ref (g_ad V kx), .int (nI (lm))] : List Value).toArray s 0 0 (g_A V)) (F0 m 5 ls []) := by
    intro fu
    induction fu with
    | zero =>
      intro i hin5 ls hl
      have hi5 : 32 = i := by omega
      subst hi5
      refine lv_iload hx hb d_Md_wider_5 (lv_at hl 4 rfl) ?_
      refine lv_bipush (v := nI (32)) hx hb d_Md_wider_7 (by decide) ?_
      refine lv_icmp_ge (tgt := 50) hx hb d_Md_wider_9 (by decide) (fun _ => ?_) (fun q => absurd ((g_geN (x := 32) (y := 32) (by omega) (by omega)).mp q) (by omega))
      refine lv_iload_n hx hb d_Md_wider_50 rfl (lv_at hl 3 rfl) ?_
      exact g_zret hx hb hr hlocks hE hG (wrP_01 _ _ 32) (⟨rfl, rfl⟩) d_Md_wider_51
    | succ fu ih5 =>
      intro i hin5 ls hl
      have hi5 : i < 32 := by omega
      refine lv_iload hx hb d_Md_wider_5 (lv_at hl 4 rfl) ?_
      refine lv_bipush (v := nI (32)) hx hb d_Md_wider_7 (by decide) ?_
      refine lv_icmp_ge (tgt := 50) hx hb d_Md_wider_9 (by decide) (fun q => absurd ((g_ge (x := i) (y := 32) (by omega) (by omega)).mp q) (by omega)) (fun _ => ?_)
      refine lv_aload_n hx hb d_Md_wider_12 rfl (lv_at hl 1 rfl) ?_
      refine lv_iload hx hb d_Md_wider_13 (lv_at hl 4 rfl) ?_
      refine g_iald hx hb hE hG kx (by omega) (i) (rfl) (by omega) (v := X.1 kx i) (rfl) d_Md_wider_15 ?_
      refine g_callpi (va_runS (As := [.int (X.1 kx i)]) (rest := []) ⟨hx, hb, hml, hown, hts⟩ (c_m_centred l (X.1 kx i)) (va_cwS 1 hts (g_goodS kw_821 kw_819 kw_820 kw_8) rfl rfl rfl (by decide +kernel) ⟨Nat.le_of_ble_eq_true rfl, Nat.le_of_ble_eq_true rfl⟩) ⟨fun _ _ _ _ q => q, fun _ _ _ => rfl⟩ rfl rfl hl.1 rfl (lv_room (Nat.le_of_ble_eq_true rfl)) d_Md_wider_16 ⟨Nat.le_refl 0, Nat.le_refl 0⟩) (fun r2 q1 => ?_)
      refine g_topi (y := cenP (X.1 kx i)) (q1) ?_
      refine lv_istore (lv' := [(5, .int (cenP (X.1 kx i))), (0, .ref (g_ad V 11)), (1, .ref (g_ad V kx)), (2, .int (nI (lm))), (3, .int (wrP (X.1 kx) (nI lm) i)), (4, .int (nI (i)))]) hx hb d_Md_wider_19 hl (by decide) rfl (fun ls hl => ?_)
      refine lv_iload_n hx hb d_Md_wider_21 rfl (lv_at hl 4 rfl) ?_
      refine lv_if_ne (tgt := 38) hx hb d_Md_wider_22 (by decide) (fun c22 => ?_) (fun c22 => ?_)
      · refine lv_iconst (v := nI (1)) hx hb d_Md_wider_38 (by decide) ?_
        refine g_topi (y := wrP (X.1 kx) (nI lm) (i + 1)) (wrP_y (Or.inl c22)) ?_
        refine lv_goto (tgt := 43) hx hb d_Md_wider_39 (by decide) ?_
        refine lv_istore_n (lv' := [(3, .int (wrP (X.1 kx) (nI lm) (i + 1))), (5, .int (cenP (X.1 kx i))), (0, .ref (g_ad V 11)), (1, .ref (g_ad V kx)), (2, .int (nI (lm))), (4, .int (nI (i)))]) hx hb d_Md_wider_43 rfl hl (by decide) rfl (fun ls hl => ?_)
        refine lv_iinc (v := nI (i + 1)) (lv' := [(4, .int (nI (i + 1))), (3, .int (wrP (X.1 kx) (nI lm) (i + 1))), (5, .int (cenP (X.1 kx i))), (0, .ref (g_ad V 11)), (1, .ref (g_ad V kx)), (2, .int (nI (lm)))]) hx hb d_Md_wider_44 hl (k := 5) rfl (g_inc _) (by decide) rfl (fun ls hl => ?_)
        refine lv_goto (tgt := 5) hx hb d_Md_wider_47 (by decide) ?_
        exact ih5 (i + 1) (by omega) ls (lv_sub hl [3, 4, 5, 1, 0] rfl)
      · refine lv_iload hx hb d_Md_wider_25 (lv_at hl 0 rfl) ?_
        refine lv_iload_n hx hb d_Md_wider_27 rfl (lv_at hl 3 rfl) ?_
        refine lv_icmp_ge (tgt := 38) hx hb d_Md_wider_28 (by decide) (fun c28 => ?_) (fun c28 => ?_)
        · refine lv_iconst (v := nI (1)) hx hb d_Md_wider_38 (by decide) ?_
          refine g_topi (y := wrP (X.1 kx) (nI lm) (i + 1)) (wrP_y (Or.inr (Or.inl c28))) ?_
          refine lv_goto (tgt := 43) hx hb d_Md_wider_39 (by decide) ?_
          refine lv_istore_n (lv' := [(3, .int (wrP (X.1 kx) (nI lm) (i + 1))), (5, .int (cenP (X.1 kx i))), (0, .ref (g_ad V 11)), (1, .ref (g_ad V kx)), (2, .int (nI (lm))), (4, .int (nI (i)))]) hx hb d_Md_wider_43 rfl hl (by decide) rfl (fun ls hl => ?_)
          refine lv_iinc (v := nI (i + 1)) (lv' := [(4, .int (nI (i + 1))), (3, .int (wrP (X.1 kx) (nI lm) (i + 1))), (5, .int (cenP (X.1 kx i))), (0, .ref (g_ad V 11)), (1, .ref (g_ad V kx)), (2, .int (nI (lm)))]) hx hb d_Md_wider_44 hl (k := 5) rfl (g_inc _) (by decide) rfl (fun ls hl => ?_)
          refine lv_goto (tgt := 5) hx hb d_Md_wider_47 (by decide) ?_
          exact ih5 (i + 1) (by omega) ls (lv_sub hl [3, 4, 5, 1, 0] rfl)
        · refine lv_iload hx hb d_Md_wider_31 (lv_at hl 0 rfl) ?_
          refine lv_iload_n hx hb d_Md_wider_33 rfl (lv_at hl 3 rfl) ?_
          refine lv_ineg hx hb d_Md_wider_34 ?_
          refine lv_icmp_gt (tgt := 42) hx hb d_Md_wider_35 (by decide) (fun c35 => ?_) (fun c35 => ?_)
          · refine lv_iconst (v := nI (0)) hx hb d_Md_wider_42 (by decide) ?_
            refine g_topi (y := wrP (X.1 kx) (nI lm) (i + 1)) (wrP_n (fun z => z.elim (fun z => z c22) (fun z => z.elim c28 (fun z => absurd c35 (Int32.not_lt.mpr z))))) ?_
            refine lv_istore_n (lv' := [(3, .int (wrP (X.1 kx) (nI lm) (i + 1))), (5, .int (cenP (X.1 kx i))), (0, .ref (g_ad V 11)), (1, .ref (g_ad V kx)), (2, .int (nI (lm))), (4, .int (nI (i)))]) hx hb d_Md_wider_43 rfl hl (by decide) rfl (fun ls hl => ?_)
            refine lv_iinc (v := nI (i + 1)) (lv' := [(4, .int (nI (i + 1))), (3, .int (wrP (X.1 kx) (nI lm) (i + 1))), (5, .int (cenP (X.1 kx i))), (0, .ref (g_ad V 11)), (1, .ref (g_ad V kx)), (2, .int (nI (lm)))]) hx hb d_Md_wider_44 hl (k := 5) rfl (g_inc _) (by decide) rfl (fun ls hl => ?_)
            refine lv_goto (tgt := 5) hx hb d_Md_wider_47 (by decide) ?_
            exact ih5 (i + 1) (by omega) ls (lv_sub hl [3, 4, 5, 1, 0] rfl)
          · refine lv_iconst (v := nI (1)) hx hb d_Md_wider_38 (by decide) ?_
            refine g_topi (y := wrP (X.1 kx) (nI lm) (i + 1)) (wrP_y (Or.inr (Or.inr (Int32.not_lt.mp c35)))) ?_
            refine lv_goto (tgt := 43) hx hb d_Md_wider_39 (by decide) ?_
            refine lv_istore_n (lv' := [(3, .int (wrP (X.1 kx) (nI lm) (i + 1))), (5, .int (cenP (X.1 kx i))), (0, .ref (g_ad V 11)), (1, .ref (g_ad V kx)), (2, .int (nI (lm))), (4, .int (nI (i)))]) hx hb d_Md_wider_43 rfl hl (by decide) rfl (fun ls hl => ?_)
            refine lv_iinc (v := nI (i + 1)) (lv' := [(4, .int (nI (i + 1))), (3, .int (wrP (X.1 kx) (nI lm) (i + 1))), (5, .int (cenP (X.1 kx i))), (0, .ref (g_ad V 11)), (1, .ref (g_ad V kx)), (2, .int (nI (lm)))]) hx hb d_Md_wider_44 hl (k := 5) rfl (g_inc _) (by decide) rfl (fun ls hl => ?_)
            refine lv_goto (tgt := 5) hx hb d_Md_wider_47 (by decide) ?_
            exact ih5 (i + 1) (by omega) ls (lv_sub hl [3, 4, 5, 1, 0] rfl)
  exact K5 (32 - 0) 0 (by omega) ls (lv_sub hl [2, 3, 4, 1, 0] rfl)
