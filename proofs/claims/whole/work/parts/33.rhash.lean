set_option maxHeartbeats 4000000 in
set_option maxRecDepth 100000 in
theorem c_m_rotate (l : Launch) (x : Int64) (r : Nat) (hr6 : r < 64) : Met l y_Md_rotate (Cond.code y_Md_rotate b_Md_rotate 3 (some .long) :: WA) ({ frames := 0, cells := 0, slots := 0, locals := 0 } : Room) (fun v _ => v = ([.long (x), .int (nI (r))] : List Value).toArray) (vp_Sl (fun a : Int64 => a = rotJ x (nI r))) 0 0 (fun _ => False) := by
  refine g_metp (by decide) (Nat.le_of_ble_eq_true rfl) ?_
  intro p e s m below meth c hx hb hr hml hown hts hlocks ls hl
  have hl : lv_has ls 3 [(0, .long (x)), (2, .int (nI (r)))] := hl
  have hown : s.vm.findClass R_Md = some m.cls := hown
  refine lv_iload_n hx hb d_Md_rotate_0 rfl (lv_at hl 1 rfl) ?_
  refine lv_if_ne (tgt := 8) hx hb d_Md_rotate_1 (by decide) (fun c1 => ?_) (fun c1 => ?_)
  · have c1 := (g_ne (x := r) (y := 0) (by omega) (by omega)).mp c1
    refine lv_lload_n hx hb d_Md_rotate_8 rfl (lv_at hl 0 rfl) ?_
    refine lv_iload_n hx hb d_Md_rotate_9 rfl (lv_at hl 1 rfl) ?_
    refine lv_lshl (v := x <<< ((nI (r)).toInt64 &&& 63)) hx hb d_Md_rotate_10 rfl ?_
    refine lv_lload_n hx hb d_Md_rotate_11 rfl (lv_at hl 0 rfl) ?_
    refine lv_bipush (v := nI (64)) hx hb d_Md_rotate_12 (by decide) ?_
    refine lv_iload_n hx hb d_Md_rotate_14 rfl (lv_at hl 1 rfl) ?_
    refine lv_isub hx hb d_Md_rotate_15 ?_
    refine lv_lushr (v := (x.toUInt64 >>> (((nI (64)) - (nI (r))).toInt64.toUInt64 &&& Int64.toUInt64 63)).toInt64) hx hb d_Md_rotate_16 rfl ?_
    refine lv_lor hx hb d_Md_rotate_17 ?_
    exact g_lretp hx hb hr hlocks (rotJ_r x hr6 c1) d_Md_rotate_18
  · have c1 := (g_neN (x := r) (y := 0) (by omega) (by omega)).mp c1
    refine lv_lload_n hx hb d_Md_rotate_4 rfl (lv_at hl 0 rfl) ?_
    refine lv_goto (tgt := 18) hx hb d_Md_rotate_5 (by decide) ?_
    exact g_lretp hx hb hr hlocks ((by rw [c1]; exact (rotJ_0 x).symm)) d_Md_rotate_18

set_option maxHeartbeats 4000000 in
set_option maxRecDepth 100000 in
theorem c_m_mix (l : Launch) (V : Ev) (X : Mm) (k : Nat) (b : Int32) (hk : k < 136) : Met l y_Md_mix (Cond.code y_Md_mix b_Md_mix 3 none :: WA) ({ frames := 0, cells := 0, slots := 0, locals := 0 } : Room) (g_Pc V X [.ref (g_ad V 11), .int (nI (k)), .int (b)]) (g_Qv V (fun X1 : Mm => X1.2.1 13 = mixB (X.2.1 13) k b ∧ fr X X1 [] [13] [])) 0 0 (g_A V) := by
  refine g_met (by decide) (Nat.le_of_ble_eq_true rfl) ?_
  intro p e s m below meth c hx hb hr hml hown hts hlocks hE hG ls hl
  have hl : lv_has ls 3 [(0, .ref (g_ad V 11)), (1, .int (nI (k))), (2, .int (b))] := hl
  have hown : s.vm.findClass R_Md = some m.cls := hown
  refine lv_aload_n hx hb d_Md_mix_0 rfl (lv_at hl 0 rfl) ?_
  refine g_get (ci := 7) (v := .ref (g_ad V 13)) (C := R_Md) (T := F_Md) (N := 35) hx hb hts (fun w h => List.mem_cons_of_mem _ (in_Md w h)) hown hE hG 11 (by decide) rfl rfl 2 (by decide) (hts _ (List.mem_cons_of_mem _ kw_594)) (fun _ h9 => h9) rfl d_Md_mix_1 ?_
  refine lv_iload_n hx hb d_Md_mix_4 rfl (lv_at hl 1 rfl) ?_
  refine lv_bipush (v := nI (8)) hx hb d_Md_mix_5 (by decide) ?_
  refine lv_idiv hx hb d_Md_mix_7 (by decide) ?_
  refine g_topi (y := nI (k / 8)) (pk_div (by omega) (by omega) (by omega)) ?_
  refine lv_aload_n hx hb d_Md_mix_8 rfl (lv_at hl 0 rfl) ?_
  refine g_get (ci := 7) (v := .ref (g_ad V 13)) (C := R_Md) (T := F_Md) (N := 35) hx hb hts (fun w h => List.mem_cons_of_mem _ (in_Md w h)) hown hE hG 11 (by decide) rfl rfl 2 (by decide) (hts _ (List.mem_cons_of_mem _ kw_594)) (fun _ h9 => h9) rfl d_Md_mix_9 ?_
  refine lv_iload_n hx hb d_Md_mix_12 rfl (lv_at hl 1 rfl) ?_
  refine lv_bipush (v := nI (8)) hx hb d_Md_mix_13 (by decide) ?_
  refine lv_idiv hx hb d_Md_mix_15 (by decide) ?_
  refine g_topi (y := nI (k / 8)) (pk_div (by omega) (by omega) (by omega)) ?_
  refine g_lald hx hb hE hG 13 rfl (k / 8) (rfl) (show _ < 25 by omega) (v := X.2.1 13 (k / 8)) (rfl) d_Md_mix_16 ?_
  refine lv_iload_n hx hb d_Md_mix_17 rfl (lv_at hl 2 rfl) ?_
  refine lv_i2l (v := b.toInt64) hx hb d_Md_mix_18 rfl ?_
  refine lv_bipush (v := nI (8)) hx hb d_Md_mix_19 (by decide) ?_
  refine lv_iload_n hx hb d_Md_mix_21 rfl (lv_at hl 1 rfl) ?_
  refine lv_bipush (v := nI (8)) hx hb d_Md_mix_22 (by decide) ?_
  refine lv_irem hx hb d_Md_mix_24 (by decide) ?_
  refine g_topi (y := nI (k % 8)) (pk_rem (by omega) (by omega) (by omega)) ?_
  refine lv_imul hx hb d_Md_mix_25 ?_
  refine g_topi (y := nI (8 * (k % 8))) (pk_mul _ _) ?_
  refine lv_lshl (v := b.toInt64 <<< ((nI (8 * (k % 8))).toInt64 &&& 63)) hx hb d_Md_mix_26 rfl ?_
  refine lv_lxor hx hb d_Md_mix_27 ?_
  refine g_last (x := (X.2.1 13 (k / 8)) ^^^ (b.toInt64 <<< ((nI (8 * (k % 8))).toInt64 &&& 63))) hx hb hE hG 13 rfl (k / 8) (rfl) (show _ < 25 by omega) d_Md_mix_28 (fun H locs hG => ?_)
  exact g_vret hx hb hr hlocks hE hG (⟨uL_s _ _ _, fr_l (fr_rf X _ _ _) _ (by decide)⟩) d_Md_mix_29

set_option maxHeartbeats 4000000 in
set_option maxRecDepth 100000 in
theorem c_m_round (l : Launch) (V : Ev) (X : Mm) (r : Nat) (hr : r < 24) (hTu : X.1 53 = rotT) (hEx : X.2.1 12 = rcT) : Met l y_Md_round (Cond.code y_Md_round b_Md_round 6 none :: WA) ({ frames := 1, cells := 0, slots := 0, locals := 22 } : Room) (g_Pc V X [.ref (g_ad V 11), .int (nI (r))]) (g_Qv V (fun X1 : Mm => X1.2.1 13 = rndP r (X.2.1 13) ∧ fr X X1 [] [13, 14, 15] [])) 0 0 (g_A V) := by
  refine g_met (by decide) (Nat.le_of_ble_eq_true rfl) ?_
  intro p e s m below meth c hx hb hr hml hown hts hlocks hE hG ls hl
  have hl : lv_has ls 6 [(0, .ref (g_ad V 11)), (1, .int (nI (r)))] := hl
  have hown : s.vm.findClass R_Md = some m.cls := hown
  refine lv_iconst (v := nI (0)) hx hb d_Md_round_0 (by decide) ?_
  refine lv_istore_n (lv' := [(2, .int (nI (0))), (0, .ref (g_ad V 11)), (1, .int (nI (r)))]) hx hb d_Md_round_1 rfl hl (by decide) rfl (fun ls hl => ?_)
  have K2 : ∀ (fu a : Nat), a + fu = 5 → ∀ (X1 : Mm) (H : Heap) (locs : List Loc), ∀ (ls : Array Slot), (fr X X1 [] [15] []) → (X1.2.1 15 = segL (colP (X.2.1 13)) (X.2.1 15) a) → g_st V X1 s.heap H locs → lv_has ls 6 [(0, .ref (g_ad V 11)), (1, .int (nI (r))), (2, .int (nI (a)))] → W p l e ({ frames := 1, cells := 0, slots := 0, locals := 22 } : Room) s m ([.ref (g_ad V 11), .int (nI (r))] : List Value).toArray below meth c H locs 0 0 (MQ below (g_Qv V (fun X1 : Mm => X1.2.1 13 = rndP r (X.2.1 13) ∧ fr X X1 [] [13, 14, 15] [])) ([.ref (g_ad V 11), .int (nI (r))] : List Value).toArray s 0 0 (g_A V)) (F0 m 2 ls []) := by
    intro fu
    induction fu with
    | zero =>
      intro a hin2 X1 H locs ls hF hC hG hl
      have hi2 : 5 = a := by omega
      subst hi2
      refine lv_iload_n hx hb d_Md_round_2 rfl (lv_at hl 2 rfl) ?_
      refine lv_iconst (v := nI (5)) hx hb d_Md_round_3 (by decide) ?_
      refine lv_icmp_ge (tgt := 56) hx hb d_Md_round_4 (by decide) (fun _ => ?_) (fun q => absurd ((g_geN (x := 5) (y := 5) (by omega) (by omega)).mp q) (by omega))
      have hG := g_xl hG 15 rfl (colP (X.2.1 13)) (fun j hj => by rw [hC]; exact segL_e _ _ hj)
      refine lv_iconst (v := nI (0)) hx hb d_Md_round_56 (by decide) ?_
      refine lv_istore_n (lv' := [(2, .int (nI (0))), (0, .ref (g_ad V 11)), (1, .int (nI (r)))]) hx hb d_Md_round_57 rfl hl (by decide) rfl (fun ls hl => ?_)
      have K58 : ∀ (fu a : Nat), a + fu = 5 → ∀ (X3 : Mm) (H : Heap) (locs : List Loc), ∀ (ls : Array Slot), (fr X X3 [] [14, 15] []) → (X3.2.1 15 = colP (X.2.1 13)) → (X3.2.1 14 = mvR (theP (X.2.1 13)) (X.2.1 14) (a * 5 + 0)) → g_st V X3 s.heap H locs → lv_has ls 6 [(0, .ref (g_ad V 11)), (1, .int (nI (r))), (2, .int (nI (a)))] → W p l e ({ frames := 1, cells := 0, slots := 0, locals := 22 } : Room) s m ([.ref (g_ad V 11), .int (nI (r))] : List Value).toArray below meth c H locs 0 0 (MQ below (g_Qv V (fun X1 : Mm => X1.2.1 13 = rndP r (X.2.1 13) ∧ fr X X1 [] [13, 14, 15] [])) ([.ref (g_ad V 11), .int (nI (r))] : List Value).toArray s 0 0 (g_A V)) (F0 m 58 ls []) := by
        intro fu
        induction fu with
        | zero =>
          intro a hin58 X3 H locs ls hF3 h15 h14 hG hl
          have hi58 : 5 = a := by omega
          subst hi58
          refine lv_iload_n hx hb d_Md_round_58 rfl (lv_at hl 2 rfl) ?_
          refine lv_iconst (v := nI (5)) hx hb d_Md_round_59 (by decide) ?_
          refine lv_icmp_ge (tgt := 153) hx hb d_Md_round_60 (by decide) (fun _ => ?_) (fun q => absurd ((g_geN (x := 5) (y := 5) (by omega) (by omega)).mp q) (by omega))
          have hG := g_xl hG 14 rfl (movP (theP (X.2.1 13))) (fun j hj => by rw [h14]; exact mvR_e _ _ hj)
          refine lv_iconst (v := nI (0)) hx hb d_Md_round_153 (by decide) ?_
          refine lv_istore_n (lv' := [(2, .int (nI (0))), (0, .ref (g_ad V 11)), (1, .int (nI (r)))]) hx hb d_Md_round_154 rfl hl (by decide) rfl (fun ls hl => ?_)
          have K155 : ∀ (fu a : Nat), a + fu = 5 → ∀ (X5 : Mm) (H : Heap) (locs : List Loc), ∀ (ls : Array Slot), (fr X X5 [] [13, 14, 15] []) → (X5.2.1 14 = movP (theP (X.2.1 13))) → (X5.2.1 13 = chR (chiP (movP (theP (X.2.1 13)))) (X.2.1 13) (a * 5 + 0)) → g_st V X5 s.heap H locs → lv_has ls 6 [(0, .ref (g_ad V 11)), (1, .int (nI (r))), (2, .int (nI (a)))] → W p l e ({ frames := 1, cells := 0, slots := 0, locals := 22 } : Room) s m ([.ref (g_ad V 11), .int (nI (r))] : List Value).toArray below meth c H locs 0 0 (MQ below (g_Qv V (fun X1 : Mm => X1.2.1 13 = rndP r (X.2.1 13) ∧ fr X X1 [] [13, 14, 15] [])) ([.ref (g_ad V 11), .int (nI (r))] : List Value).toArray s 0 0 (g_A V)) (F0 m 155 ls []) := by
            intro fu
            induction fu with
            | zero =>
              intro a hin155 X5 H locs ls hF5 k14 k13 hG hl
              have hi155 : 5 = a := by omega
              subst hi155
              refine lv_iload_n hx hb d_Md_round_155 rfl (lv_at hl 2 rfl) ?_
              refine lv_iconst (v := nI (5)) hx hb d_Md_round_156 (by decide) ?_
              refine lv_icmp_ge (tgt := 233) hx hb d_Md_round_157 (by decide) (fun _ => ?_) (fun q => absurd ((g_geN (x := 5) (y := 5) (by omega) (by omega)).mp q) (by omega))
              have hG := g_xl hG 13 rfl (chiP (movP (theP (X.2.1 13)))) (fun j hj => by rw [k13]; exact chR_e _ _ hj)
              refine lv_aload_n hx hb d_Md_round_233 rfl (lv_at hl 0 rfl) ?_
              refine g_get (ci := 7) (v := .ref (g_ad V 13)) (C := R_Md) (T := F_Md) (N := 35) hx hb hts (fun w h => List.mem_cons_of_mem _ (in_Md w h)) hown hE hG 11 (by decide) rfl rfl 2 (by decide) (hts _ (List.mem_cons_of_mem _ kw_594)) (fun _ h9 => h9) rfl d_Md_round_234 ?_
              refine lv_iconst (v := nI (0)) hx hb d_Md_round_237 (by decide) ?_
              refine lv_aload_n hx hb d_Md_round_238 rfl (lv_at hl 0 rfl) ?_
              refine g_get (ci := 7) (v := .ref (g_ad V 13)) (C := R_Md) (T := F_Md) (N := 35) hx hb hts (fun w h => List.mem_cons_of_mem _ (in_Md w h)) hown hE hG 11 (by decide) rfl rfl 2 (by decide) (hts _ (List.mem_cons_of_mem _ kw_594)) (fun _ h9 => h9) rfl d_Md_round_239 ?_
              refine lv_iconst (v := nI (0)) hx hb d_Md_round_242 (by decide) ?_
              refine g_lald hx hb hE hG 13 rfl (0) (rfl) (show _ < 25 by omega) (v := chiP (movP (theP (X.2.1 13))) 0) (by rw [uL_s]) d_Md_round_243 ?_
              refine lv_aload_n hx hb d_Md_round_244 rfl (lv_at hl 0 rfl) ?_
              refine g_get (ci := 7) (v := .ref (g_ad V 12)) (C := R_Md) (T := F_Md) (N := 35) hx hb hts (fun w h => List.mem_cons_of_mem _ (in_Md w h)) hown hE hG 11 (by decide) rfl rfl 1 (by decide) (hts _ (List.mem_cons_of_mem _ kw_593)) (fun _ h9 => h9) rfl d_Md_round_245 ?_
              refine lv_iload_n hx hb d_Md_round_248 rfl (lv_at hl 1 rfl) ?_
              refine g_lald hx hb hE hG 12 rfl (r) (rfl) (show _ < 24 by omega) (v := rcT r) ((congrFun (uL_n _ _ (by decide)) r).trans ((congrFun (hF5.2.1 12 (by decide)) r).trans (congrFun hEx r))) d_Md_round_249 ?_
              refine lv_lxor hx hb d_Md_round_250 ?_
              refine g_last (x := (chiP (movP (theP (X.2.1 13))) 0) ^^^ (rcT r)) hx hb hE hG 13 rfl (0) (rfl) (show _ < 25 by omega) d_Md_round_251 (fun H locs hG => ?_)
              exact g_vret hx hb hr hlocks hE hG (⟨by rw [uL_s, uL_s]; rfl, fr_l (fr_l hF5 _ (by decide)) _ (by decide)⟩) d_Md_round_252
            | succ fu ih155 =>
              intro a hin155 X5 H locs ls hF5 k14 k13 hG hl
              have hi155 : a < 5 := by omega
              refine lv_iload_n hx hb d_Md_round_155 rfl (lv_at hl 2 rfl) ?_
              refine lv_iconst (v := nI (5)) hx hb d_Md_round_156 (by decide) ?_
              refine lv_icmp_ge (tgt := 233) hx hb d_Md_round_157 (by decide) (fun q => absurd ((g_ge (x := a) (y := 5) (by omega) (by omega)).mp q) (by omega)) (fun _ => ?_)
              refine lv_iconst (v := nI (0)) hx hb d_Md_round_160 (by decide) ?_
              refine lv_istore_n (lv' := [(3, .int (nI (0))), (0, .ref (g_ad V 11)), (1, .int (nI (r))), (2, .int (nI (a)))]) hx hb d_Md_round_161 rfl hl (by decide) rfl (fun ls hl => ?_)
              have K162 : ∀ (fu b : Nat), b + fu = 5 → ∀ (X6 : Mm) (H : Heap) (locs : List Loc), ∀ (ls : Array Slot), (fr X X6 [] [13, 14, 15] []) → (X6.2.1 14 = movP (theP (X.2.1 13))) → (X6.2.1 13 = chR (chiP (movP (theP (X.2.1 13)))) (X.2.1 13) (a * 5 + b)) → g_st V X6 s.heap H locs → lv_has ls 6 [(0, .ref (g_ad V 11)), (1, .int (nI (r))), (2, .int (nI (a))), (3, .int (nI (b)))] → W p l e ({ frames := 1, cells := 0, slots := 0, locals := 22 } : Room) s m ([.ref (g_ad V 11), .int (nI (r))] : List Value).toArray below meth c H locs 0 0 (MQ below (g_Qv V (fun X1 : Mm => X1.2.1 13 = rndP r (X.2.1 13) ∧ fr X X1 [] [13, 14, 15] [])) ([.ref (g_ad V 11), .int (nI (r))] : List Value).toArray s 0 0 (g_A V)) (F0 m 162 ls []) := by
                intro fu
                induction fu with
                | zero =>
                  intro b hin162 X6 H locs ls hF6 l14 l13 hG hl
                  have hi162 : 5 = b := by omega
                  subst hi162
                  refine lv_iload_n hx hb d_Md_round_162 rfl (lv_at hl 3 rfl) ?_
                  refine lv_iconst (v := nI (5)) hx hb d_Md_round_163 (by decide) ?_
                  refine lv_icmp_ge (tgt := 227) hx hb d_Md_round_164 (by decide) (fun _ => ?_) (fun q => absurd ((g_geN (x := 5) (y := 5) (by omega) (by omega)).mp q) (by omega))
                  refine lv_iinc (v := nI (a + 1)) (lv' := [(2, .int (nI (a + 1))), (0, .ref (g_ad V 11)), (1, .int (nI (r))), (3, .int (nI (5)))]) hx hb d_Md_round_227 hl (k := 2) rfl (g_inc _) (by decide) rfl (fun ls hl => ?_)
                  refine lv_goto (tgt := 155) hx hb d_Md_round_230 (by decide) ?_
                  exact ih155 (a + 1) (by omega) X6 _ _ ls hF6 l14 (l13.trans (congrArg (chR _ _) (by omega))) hG (lv_sub hl [1, 2, 0] rfl)
                | succ fu ih162 =>
                  intro b hin162 X6 H locs ls hF6 l14 l13 hG hl
                  have hi162 : b < 5 := by omega
                  refine lv_iload_n hx hb d_Md_round_162 rfl (lv_at hl 3 rfl) ?_
                  refine lv_iconst (v := nI (5)) hx hb d_Md_round_163 (by decide) ?_
                  refine lv_icmp_ge (tgt := 227) hx hb d_Md_round_164 (by decide) (fun q => absurd ((g_ge (x := b) (y := 5) (by omega) (by omega)).mp q) (by omega)) (fun _ => ?_)
                  refine lv_aload_n hx hb d_Md_round_167 rfl (lv_at hl 0 rfl) ?_
                  refine g_get (ci := 7) (v := .ref (g_ad V 13)) (C := R_Md) (T := F_Md) (N := 35) hx hb hts (fun w h => List.mem_cons_of_mem _ (in_Md w h)) hown hE hG 11 (by decide) rfl rfl 2 (by decide) (hts _ (List.mem_cons_of_mem _ kw_594)) (fun _ h9 => h9) rfl d_Md_round_168 ?_
                  refine lv_iload_n hx hb d_Md_round_171 rfl (lv_at hl 2 rfl) ?_
                  refine lv_iconst (v := nI (5)) hx hb d_Md_round_172 (by decide) ?_
                  refine lv_iload_n hx hb d_Md_round_173 rfl (lv_at hl 3 rfl) ?_
                  refine lv_imul hx hb d_Md_round_174 ?_
                  refine g_topi (y := nI (5 * b)) (pk_mul _ _) ?_
                  refine lv_iadd hx hb d_Md_round_175 ?_
                  refine g_topi (y := nI (a + (5 * b))) (nI_add _ _) ?_
                  refine lv_aload_n hx hb d_Md_round_176 rfl (lv_at hl 0 rfl) ?_
                  refine g_get (ci := 7) (v := .ref (g_ad V 14)) (C := R_Md) (T := F_Md) (N := 35) hx hb hts (fun w h => List.mem_cons_of_mem _ (in_Md w h)) hown hE hG 11 (by decide) rfl rfl 3 (by decide) (hts _ (List.mem_cons_of_mem _ kw_595)) (fun _ h9 => h9) rfl d_Md_round_177 ?_
                  refine lv_iload_n hx hb d_Md_round_180 rfl (lv_at hl 2 rfl) ?_
                  refine lv_iconst (v := nI (5)) hx hb d_Md_round_181 (by decide) ?_
                  refine lv_iload_n hx hb d_Md_round_182 rfl (lv_at hl 3 rfl) ?_
                  refine lv_imul hx hb d_Md_round_183 ?_
                  refine g_topi (y := nI (5 * b)) (pk_mul _ _) ?_
                  refine lv_iadd hx hb d_Md_round_184 ?_
                  refine g_topi (y := nI (a + (5 * b))) (nI_add _ _) ?_
                  refine g_lald hx hb hE hG 14 rfl (a + (5 * b)) (rfl) (show _ < 25 by omega) (v := movP (theP (X.2.1 13)) (a + 5 * b)) (congrFun l14 _) d_Md_round_185 ?_
                  refine lv_aload_n hx hb d_Md_round_186 rfl (lv_at hl 0 rfl) ?_
                  refine g_get (ci := 7) (v := .ref (g_ad V 14)) (C := R_Md) (T := F_Md) (N := 35) hx hb hts (fun w h => List.mem_cons_of_mem _ (in_Md w h)) hown hE hG 11 (by decide) rfl rfl 3 (by decide) (hts _ (List.mem_cons_of_mem _ kw_595)) (fun _ h9 => h9) rfl d_Md_round_187 ?_
                  refine lv_iload_n hx hb d_Md_round_190 rfl (lv_at hl 2 rfl) ?_
                  refine lv_iconst (v := nI (1)) hx hb d_Md_round_191 (by decide) ?_
                  refine lv_iadd hx hb d_Md_round_192 ?_
                  refine g_topi (y := nI (a + 1)) (nI_add _ _) ?_
                  refine lv_iconst (v := nI (5)) hx hb d_Md_round_193 (by decide) ?_
                  refine lv_irem hx hb d_Md_round_194 (by decide) ?_
                  refine g_topi (y := nI ((a + 1) % 5)) (pk_rem (by omega) (by omega) (by omega)) ?_
                  refine lv_iconst (v := nI (5)) hx hb d_Md_round_195 (by decide) ?_
                  refine lv_iload_n hx hb d_Md_round_196 rfl (lv_at hl 3 rfl) ?_
                  refine lv_imul hx hb d_Md_round_197 ?_
                  refine g_topi (y := nI (5 * b)) (pk_mul _ _) ?_
                  refine lv_iadd hx hb d_Md_round_198 ?_
                  refine g_topi (y := nI (((a + 1) % 5) + (5 * b))) (nI_add _ _) ?_
                  refine g_lald hx hb hE hG 14 rfl (((a + 1) % 5) + (5 * b)) (rfl) (show _ < 25 by omega) (v := movP (theP (X.2.1 13)) ((a + 1) % 5 + 5 * b)) (congrFun l14 _) d_Md_round_199 ?_
                  refine lv_ldc2 (v := -1) hx hb hown (hts _ (List.mem_cons_of_mem _ kw_726)) d_Md_round_200 ?_
                  refine lv_lxor hx hb d_Md_round_203 ?_
                  refine lv_aload_n hx hb d_Md_round_204 rfl (lv_at hl 0 rfl) ?_
                  refine g_get (ci := 7) (v := .ref (g_ad V 14)) (C := R_Md) (T := F_Md) (N := 35) hx hb hts (fun w h => List.mem_cons_of_mem _ (in_Md w h)) hown hE hG 11 (by decide) rfl rfl 3 (by decide) (hts _ (List.mem_cons_of_mem _ kw_595)) (fun _ h9 => h9) rfl d_Md_round_205 ?_
                  refine lv_iload_n hx hb d_Md_round_208 rfl (lv_at hl 2 rfl) ?_
                  refine lv_iconst (v := nI (2)) hx hb d_Md_round_209 (by decide) ?_
                  refine lv_iadd hx hb d_Md_round_210 ?_
                  refine g_topi (y := nI (a + 2)) (nI_add _ _) ?_
                  refine lv_iconst (v := nI (5)) hx hb d_Md_round_211 (by decide) ?_
                  refine lv_irem hx hb d_Md_round_212 (by decide) ?_
                  refine g_topi (y := nI ((a + 2) % 5)) (pk_rem (by omega) (by omega) (by omega)) ?_
                  refine lv_iconst (v := nI (5)) hx hb d_Md_round_213 (by decide) ?_
                  refine lv_iload_n hx hb d_Md_round_214 rfl (lv_at hl 3 rfl) ?_
                  refine lv_imul hx hb d_Md_round_215 ?_
                  refine g_topi (y := nI (5 * b)) (pk_mul _ _) ?_
                  refine lv_iadd hx hb d_Md_round_216 ?_
                  refine g_topi (y := nI (((a + 2) % 5) + (5 * b))) (nI_add _ _) ?_
                  refine g_lald hx hb hE hG 14 rfl (((a + 2) % 5) + (5 * b)) (rfl) (show _ < 25 by omega) (v := movP (theP (X.2.1 13)) ((a + 2) % 5 + 5 * b)) (congrFun l14 _) d_Md_round_217 ?_
                  refine lv_land hx hb d_Md_round_218 ?_
                  refine lv_lxor hx hb d_Md_round_219 ?_
                  refine g_last (x := (movP (theP (X.2.1 13)) (a + 5 * b)) ^^^ (((movP (theP (X.2.1 13)) ((a + 1) % 5 + 5 * b)) ^^^ (-1)) &&& (movP (theP (X.2.1 13)) ((a + 2) % 5 + 5 * b)))) hx hb hE hG 13 rfl (a + (5 * b)) (rfl) (show _ < 25 by omega) d_Md_round_220 (fun H locs hG => ?_)
                  refine lv_iinc (v := nI (b + 1)) (lv' := [(3, .int (nI (b + 1))), (0, .ref (g_ad V 11)), (1, .int (nI (r))), (2, .int (nI (a)))]) hx hb d_Md_round_221 hl (k := 3) rfl (g_inc _) (by decide) rfl (fun ls hl => ?_)
                  refine lv_goto (tgt := 162) hx hb d_Md_round_224 (by decide) ?_
                  exact ih162 (b + 1) (by omega) (uL X6 13 (vp_updL (X6.2.1 13) (a + (5 * b)) ((movP (theP (X.2.1 13)) (a + 5 * b)) ^^^ (((movP (theP (X.2.1 13)) ((a + 1) % 5 + 5 * b)) ^^^ (-1)) &&& (movP (theP (X.2.1 13)) ((a + 2) % 5 + 5 * b)))))) _ _ ls (fr_l hF6 _ (by decide)) ((uL_n _ _ (by decide)).trans l14) (by rw [uL_s, l13, ← chi_at2 _ (show a < 5 by omega)]; exact chR_s _ _ (by omega) (by omega)) hG (lv_sub hl [1, 2, 3, 0] rfl)
              exact K162 (5 - 0) 0 (by omega) X5 _ _ ls hF5 k14 k13 hG (lv_sub hl [1, 2, 3, 0] rfl)
          exact K155 (5 - 0) 0 (by omega) (uL X3 14 (movP (theP (X.2.1 13)))) _ _ ls (fr_l (fr_mono hF3 (b' := [13, 14, 15]) (by decide) (by decide) (by decide)) _ (by decide)) (uL_s _ _ _) ((uL_n _ _ (by decide)).trans ((hF3.2.1 13 (by decide)).trans (chR_0 _ _).symm)) hG (lv_sub hl [1, 2, 0] rfl)
        | succ fu ih58 =>
          intro a hin58 X3 H locs ls hF3 h15 h14 hG hl
          have hi58 : a < 5 := by omega
          refine lv_iload_n hx hb d_Md_round_58 rfl (lv_at hl 2 rfl) ?_
          refine lv_iconst (v := nI (5)) hx hb d_Md_round_59 (by decide) ?_
          refine lv_icmp_ge (tgt := 153) hx hb d_Md_round_60 (by decide) (fun q => absurd ((g_ge (x := a) (y := 5) (by omega) (by omega)).mp q) (by omega)) (fun _ => ?_)
          refine lv_iconst (v := nI (0)) hx hb d_Md_round_63 (by decide) ?_
          refine lv_istore_n (lv' := [(3, .int (nI (0))), (0, .ref (g_ad V 11)), (1, .int (nI (r))), (2, .int (nI (a)))]) hx hb d_Md_round_64 rfl hl (by decide) rfl (fun ls hl => ?_)
          have K65 : ∀ (fu b : Nat), b + fu = 5 → ∀ (X4 : Mm) (H : Heap) (locs : List Loc), ∀ (ls : Array Slot), (fr X X4 [] [14, 15] []) → (X4.2.1 15 = colP (X.2.1 13)) → (X4.2.1 14 = mvR (theP (X.2.1 13)) (X.2.1 14) (a * 5 + b)) → g_st V X4 s.heap H locs → lv_has ls 6 [(0, .ref (g_ad V 11)), (1, .int (nI (r))), (2, .int (nI (a))), (3, .int (nI (b)))] → W p l e ({ frames := 1, cells := 0, slots := 0, locals := 22 } : Room) s m ([.ref (g_ad V 11), .int (nI (r))] : List Value).toArray below meth c H locs 0 0 (MQ below (g_Qv V (fun X1 : Mm => X1.2.1 13 = rndP r (X.2.1 13) ∧ fr X X1 [] [13, 14, 15] [])) ([.ref (g_ad V 11), .int (nI (r))] : List Value).toArray s 0 0 (g_A V)) (F0 m 65 ls []) := by
            intro fu
            induction fu with
            | zero =>
              intro b hin65 X4 H locs ls hF4 i15 i14 hG hl
              have hi65 : 5 = b := by omega
              subst hi65
              refine lv_iload_n hx hb d_Md_round_65 rfl (lv_at hl 3 rfl) ?_
              refine lv_iconst (v := nI (5)) hx hb d_Md_round_66 (by decide) ?_
              refine lv_icmp_ge (tgt := 147) hx hb d_Md_round_67 (by decide) (fun _ => ?_) (fun q => absurd ((g_geN (x := 5) (y := 5) (by omega) (by omega)).mp q) (by omega))
              refine lv_iinc (v := nI (a + 1)) (lv' := [(2, .int (nI (a + 1))), (0, .ref (g_ad V 11)), (1, .int (nI (r))), (3, .int (nI (5)))]) hx hb d_Md_round_147 hl (k := 2) rfl (g_inc _) (by decide) rfl (fun ls hl => ?_)
              refine lv_goto (tgt := 58) hx hb d_Md_round_150 (by decide) ?_
              exact ih58 (a + 1) (by omega) X4 _ _ ls hF4 i15 (i14.trans (congrArg (mvR _ _) (by omega))) hG (lv_sub hl [1, 2, 0] rfl)
            | succ fu ih65 =>
              intro b hin65 X4 H locs ls hF4 i15 i14 hG hl
              have hi65 : b < 5 := by omega
              have hrt := rotN_lt (a + 5 * b) (by omega)
              refine lv_iload_n hx hb d_Md_round_65 rfl (lv_at hl 3 rfl) ?_
              refine lv_iconst (v := nI (5)) hx hb d_Md_round_66 (by decide) ?_
              refine lv_icmp_ge (tgt := 147) hx hb d_Md_round_67 (by decide) (fun q => absurd ((g_ge (x := b) (y := 5) (by omega) (by omega)).mp q) (by omega)) (fun _ => ?_)
              refine lv_aload_n hx hb d_Md_round_70 rfl (lv_at hl 0 rfl) ?_
              refine g_get (ci := 7) (v := .ref (g_ad V 13)) (C := R_Md) (T := F_Md) (N := 35) hx hb hts (fun w h => List.mem_cons_of_mem _ (in_Md w h)) hown hE hG 11 (by decide) rfl rfl 2 (by decide) (hts _ (List.mem_cons_of_mem _ kw_594)) (fun _ h9 => h9) rfl d_Md_round_71 ?_
              refine lv_iload_n hx hb d_Md_round_74 rfl (lv_at hl 2 rfl) ?_
              refine lv_iconst (v := nI (5)) hx hb d_Md_round_75 (by decide) ?_
              refine lv_iload_n hx hb d_Md_round_76 rfl (lv_at hl 3 rfl) ?_
              refine lv_imul hx hb d_Md_round_77 ?_
              refine g_topi (y := nI (5 * b)) (pk_mul _ _) ?_
              refine lv_iadd hx hb d_Md_round_78 ?_
              refine g_topi (y := nI (a + (5 * b))) (nI_add _ _) ?_
              refine g_lald hx hb hE hG 13 rfl (a + (5 * b)) (rfl) (show _ < 25 by omega) (v := X.2.1 13 (a + 5 * b)) (congrFun (hF4.2.1 13 (by decide)) _) d_Md_round_79 ?_
              refine lv_aload_n hx hb d_Md_round_80 rfl (lv_at hl 0 rfl) ?_
              refine g_get (ci := 7) (v := .ref (g_ad V 15)) (C := R_Md) (T := F_Md) (N := 35) hx hb hts (fun w h => List.mem_cons_of_mem _ (in_Md w h)) hown hE hG 11 (by decide) rfl rfl 4 (by decide) (hts _ (List.mem_cons_of_mem _ kw_596)) (fun _ h9 => h9) rfl d_Md_round_81 ?_
              refine lv_iload_n hx hb d_Md_round_84 rfl (lv_at hl 2 rfl) ?_
              refine lv_iconst (v := nI (4)) hx hb d_Md_round_85 (by decide) ?_
              refine lv_iadd hx hb d_Md_round_86 ?_
              refine g_topi (y := nI (a + 4)) (nI_add _ _) ?_
              refine lv_iconst (v := nI (5)) hx hb d_Md_round_87 (by decide) ?_
              refine lv_irem hx hb d_Md_round_88 (by decide) ?_
              refine g_topi (y := nI ((a + 4) % 5)) (pk_rem (by omega) (by omega) (by omega)) ?_
              refine g_lald hx hb hE hG 15 rfl ((a + 4) % 5) (rfl) (show _ < 5 by omega) (v := colP (X.2.1 13) ((a + 4) % 5)) (congrFun i15 _) d_Md_round_89 ?_
              refine lv_lxor hx hb d_Md_round_90 ?_
              refine lv_aload_n hx hb d_Md_round_91 rfl (lv_at hl 0 rfl) ?_
              refine g_get (ci := 7) (v := .ref (g_ad V 15)) (C := R_Md) (T := F_Md) (N := 35) hx hb hts (fun w h => List.mem_cons_of_mem _ (in_Md w h)) hown hE hG 11 (by decide) rfl rfl 4 (by decide) (hts _ (List.mem_cons_of_mem _ kw_596)) (fun _ h9 => h9) rfl d_Md_round_92 ?_
              refine lv_iload_n hx hb d_Md_round_95 rfl (lv_at hl 2 rfl) ?_
              refine lv_iconst (v := nI (1)) hx hb d_Md_round_96 (by decide) ?_
              refine lv_iadd hx hb d_Md_round_97 ?_
              refine g_topi (y := nI (a + 1)) (nI_add _ _) ?_
              refine lv_iconst (v := nI (5)) hx hb d_Md_round_98 (by decide) ?_
              refine lv_irem hx hb d_Md_round_99 (by decide) ?_
              refine g_topi (y := nI ((a + 1) % 5)) (pk_rem (by omega) (by omega) (by omega)) ?_
              refine g_lald hx hb hE hG 15 rfl ((a + 1) % 5) (rfl) (show _ < 5 by omega) (v := colP (X.2.1 13) ((a + 1) % 5)) (congrFun i15 _) d_Md_round_100 ?_
              refine lv_iconst (v := nI (1)) hx hb d_Md_round_101 (by decide) ?_
              refine g_callpl (va_runS (As := [.long (colP (X.2.1 13) ((a + 1) % 5)), .int (nI (1))]) (rest := [.long ((X.2.1 13 (a + 5 * b)) ^^^ (colP (X.2.1 13) ((a + 4) % 5)))]) ⟨hx, hb, hml, hown, hts⟩ (c_m_rotate l (colP (X.2.1 13) ((a + 1) % 5)) 1 (by decide)) (va_cwS 2 hts (g_goodS kw_725 kw_723 kw_724 kw_8) rfl rfl rfl (by decide +kernel) ⟨Nat.le_of_ble_eq_true rfl, Nat.le_of_ble_eq_true rfl⟩) ⟨fun _ _ _ _ q => q, fun _ _ _ => rfl⟩ rfl rfl hl.1 rfl (lv_room (Nat.le_of_ble_eq_true rfl)) d_Md_round_102 ⟨Nat.le_refl 0, Nat.le_refl 0⟩) (fun r2 q1 => ?_)
              refine g_topl (y := rotJ (colP (X.2.1 13) ((a + 1) % 5)) (nI 1)) (q1) ?_
              refine lv_lxor hx hb d_Md_round_105 ?_
              refine g_topl (y := theP (X.2.1 13) (a + 5 * b)) (the_at _) ?_
              refine lv_lstore (lv' := [(4, .long (theP (X.2.1 13) (a + 5 * b))), (0, .ref (g_ad V 11)), (1, .int (nI (r))), (2, .int (nI (a))), (3, .int (nI (b)))]) hx hb d_Md_round_106 hl (by decide) rfl (fun ls hl => ?_)
              refine lv_aload_n hx hb d_Md_round_108 rfl (lv_at hl 1 rfl) ?_
              refine g_get (ci := 7) (v := .ref (g_ad V 14)) (C := R_Md) (T := F_Md) (N := 35) hx hb hts (fun w h => List.mem_cons_of_mem _ (in_Md w h)) hown hE hG 11 (by decide) rfl rfl 3 (by decide) (hts _ (List.mem_cons_of_mem _ kw_595)) (fun _ h9 => h9) rfl d_Md_round_109 ?_
              refine lv_iload_n hx hb d_Md_round_112 rfl (lv_at hl 4 rfl) ?_
              refine lv_iconst (v := nI (5)) hx hb d_Md_round_113 (by decide) ?_
              refine lv_iconst (v := nI (2)) hx hb d_Md_round_114 (by decide) ?_
              refine lv_iload_n hx hb d_Md_round_115 rfl (lv_at hl 3 rfl) ?_
              refine lv_imul hx hb d_Md_round_116 ?_
              refine g_topi (y := nI (2 * a)) (pk_mul _ _) ?_
              refine lv_iconst (v := nI (3)) hx hb d_Md_round_117 (by decide) ?_
              refine lv_iload_n hx hb d_Md_round_118 rfl (lv_at hl 4 rfl) ?_
              refine lv_imul hx hb d_Md_round_119 ?_
              refine g_topi (y := nI (3 * b)) (pk_mul _ _) ?_
              refine lv_iadd hx hb d_Md_round_120 ?_
              refine g_topi (y := nI ((2 * a) + (3 * b))) (nI_add _ _) ?_
              refine lv_iconst (v := nI (5)) hx hb d_Md_round_121 (by decide) ?_
              refine lv_irem hx hb d_Md_round_122 (by decide) ?_
              refine g_topi (y := nI (((2 * a) + (3 * b)) % 5)) (pk_rem (by omega) (by omega) (by omega)) ?_
              refine lv_imul hx hb d_Md_round_123 ?_
              refine g_topi (y := nI (5 * (((2 * a) + (3 * b)) % 5))) (pk_mul _ _) ?_
              refine lv_iadd hx hb d_Md_round_124 ?_
              refine g_topi (y := nI (b + (5 * (((2 * a) + (3 * b)) % 5)))) (nI_add _ _) ?_
              refine lv_lload hx hb d_Md_round_125 (lv_at hl 0 rfl) ?_
              refine lv_aload_n hx hb d_Md_round_127 rfl (lv_at hl 1 rfl) ?_
              refine g_get (ci := 7) (v := .ref (g_ad V 53)) (C := R_Md) (T := F_Md) (N := 35) hx hb hts (fun w h => List.mem_cons_of_mem _ (in_Md w h)) hown hE hG 11 (by decide) rfl rfl 0 (by decide) (hts _ (List.mem_cons_of_mem _ kw_592)) (fun _ h9 => h9) rfl d_Md_round_128 ?_
              refine lv_iload_n hx hb d_Md_round_131 rfl (lv_at hl 3 rfl) ?_
              refine lv_iconst (v := nI (5)) hx hb d_Md_round_132 (by decide) ?_
              refine lv_iload_n hx hb d_Md_round_133 rfl (lv_at hl 4 rfl) ?_
              refine lv_imul hx hb d_Md_round_134 ?_
              refine g_topi (y := nI (5 * b)) (pk_mul _ _) ?_
              refine lv_iadd hx hb d_Md_round_135 ?_
              refine g_topi (y := nI (a + (5 * b))) (nI_add _ _) ?_
              refine g_iald hx hb hE hG 53 (by decide) (a + (5 * b)) (rfl) (show _ < 25 by omega) (v := rotT (a + 5 * b)) ((congrFun (hF4.1 53 (fun q => by cases q)) _).trans (congrFun hTu _)) d_Md_round_136 ?_
              refine g_topi (y := nI (rotN.getD (a + 5 * b) 0)) (rfl) ?_
              refine g_callpl (va_runS (As := [.long (theP (X.2.1 13) (a + 5 * b)), .int (nI (rotN.getD (a + 5 * b) 0))]) (rest := [.int (nI (b + (5 * (((2 * a) + (3 * b)) % 5)))), .ref (g_ad V 14)]) ⟨hx, hb, hml, hown, hts⟩ (c_m_rotate l (theP (X.2.1 13) (a + 5 * b)) (rotN.getD (a + 5 * b) 0) hrt) (va_cwS 2 hts (g_goodS kw_725 kw_723 kw_724 kw_8) rfl rfl rfl (by decide +kernel) ⟨Nat.le_of_ble_eq_true rfl, Nat.le_of_ble_eq_true rfl⟩) ⟨fun _ _ _ _ q => q, fun _ _ _ => rfl⟩ rfl rfl hl.1 rfl (lv_room (Nat.le_of_ble_eq_true rfl)) d_Md_round_137 ⟨Nat.le_refl 0, Nat.le_refl 0⟩) (fun r4 q2 => ?_)
              refine g_last (x := r4) hx hb hE hG 14 rfl (b + (5 * (((2 * a) + (3 * b)) % 5))) (rfl) (show _ < 25 by omega) d_Md_round_140 (fun H locs hG => ?_)
              refine lv_iinc (v := nI (b + 1)) (lv' := [(3, .int (nI (b + 1))), (4, .long (theP (X.2.1 13) (a + 5 * b))), (0, .ref (g_ad V 11)), (1, .int (nI (r))), (2, .int (nI (a)))]) hx hb d_Md_round_141 hl (k := 4) rfl (g_inc _) (by decide) rfl (fun ls hl => ?_)
              refine lv_goto (tgt := 65) hx hb d_Md_round_144 (by decide) ?_
              exact ih65 (b + 1) (by omega) (uL X4 14 (vp_updL (X4.2.1 14) (b + (5 * (((2 * a) + (3 * b)) % 5))) r4)) _ _ ls (fr_l hF4 _ (by decide)) ((uL_n _ _ (by decide)).trans i15) (by rw [uL_s, i14, q2]; exact mvR_s _ _ (by omega) (by omega)) hG (lv_sub hl [2, 3, 4, 0] rfl)
          exact K65 (5 - 0) 0 (by omega) X3 _ _ ls hF3 h15 h14 hG (lv_sub hl [1, 2, 3, 0] rfl)
      exact K58 (5 - 0) 0 (by omega) (uL X1 15 (colP (X.2.1 13))) _ _ ls (fr_l (fr_mono hF (b' := [14, 15]) (by decide) (by decide) (by decide)) _ (by decide)) (uL_s _ _ _) ((uL_n _ _ (by decide)).trans ((hF.2.1 14 (by decide)).trans (mvR_0 _ _).symm)) hG (lv_sub hl [1, 2, 0] rfl)
    | succ fu ih2 =>
      intro a hin2 X1 H locs ls hF hC hG hl
      have hi2 : a < 5 := by omega
      refine lv_iload_n hx hb d_Md_round_2 rfl (lv_at hl 2 rfl) ?_
      refine lv_iconst (v := nI (5)) hx hb d_Md_round_3 (by decide) ?_
      refine lv_icmp_ge (tgt := 56) hx hb d_Md_round_4 (by decide) (fun q => absurd ((g_ge (x := a) (y := 5) (by omega) (by omega)).mp q) (by omega)) (fun _ => ?_)
      refine lv_aload_n hx hb d_Md_round_7 rfl (lv_at hl 0 rfl) ?_
      refine g_get (ci := 7) (v := .ref (g_ad V 15)) (C := R_Md) (T := F_Md) (N := 35) hx hb hts (fun w h => List.mem_cons_of_mem _ (in_Md w h)) hown hE hG 11 (by decide) rfl rfl 4 (by decide) (hts _ (List.mem_cons_of_mem _ kw_596)) (fun _ h9 => h9) rfl d_Md_round_8 ?_
      refine lv_iload_n hx hb d_Md_round_11 rfl (lv_at hl 2 rfl) ?_
      refine lv_lconst (v := 0) hx hb d_Md_round_12 (by decide) ?_
      refine g_last (x := 0) hx hb hE hG 15 rfl (a) (rfl) (show _ < 5 by omega) d_Md_round_13 (fun H locs hG => ?_)
      refine lv_iconst (v := nI (0)) hx hb d_Md_round_14 (by decide) ?_
      refine lv_istore_n (lv' := [(3, .int (nI (0))), (0, .ref (g_ad V 11)), (1, .int (nI (r))), (2, .int (nI (a)))]) hx hb d_Md_round_15 rfl hl (by decide) rfl (fun ls hl => ?_)
      have K16 : ∀ (fu b : Nat), b + fu = 5 → ∀ (X2 : Mm) (H : Heap) (locs : List Loc), ∀ (ls : Array Slot), (fr X X2 [] [15] []) → (X2.2.1 15 = vp_updL (segL (colP (X.2.1 13)) (X.2.1 15) a) a (cR (X.2.1 13) a b)) → g_st V X2 s.heap H locs → lv_has ls 6 [(0, .ref (g_ad V 11)), (1, .int (nI (r))), (2, .int (nI (a))), (3, .int (nI (b)))] → W p l e ({ frames := 1, cells := 0, slots := 0, locals := 22 } : Room) s m ([.ref (g_ad V 11), .int (nI (r))] : List Value).toArray below meth c H locs 0 0 (MQ below (g_Qv V (fun X1 : Mm => X1.2.1 13 = rndP r (X.2.1 13) ∧ fr X X1 [] [13, 14, 15] [])) ([.ref (g_ad V 11), .int (nI (r))] : List Value).toArray s 0 0 (g_A V)) (F0 m 16 ls []) := by
        intro fu
        induction fu with
        | zero =>
          intro b hin16 X2 H locs ls hF2 hC2 hG hl
          have hi16 : 5 = b := by omega
          subst hi16
          refine lv_iload_n hx hb d_Md_round_16 rfl (lv_at hl 3 rfl) ?_
          refine lv_iconst (v := nI (5)) hx hb d_Md_round_17 (by decide) ?_
          refine lv_icmp_ge (tgt := 50) hx hb d_Md_round_18 (by decide) (fun _ => ?_) (fun q => absurd ((g_geN (x := 5) (y := 5) (by omega) (by omega)).mp q) (by omega))
          refine lv_iinc (v := nI (a + 1)) (lv' := [(2, .int (nI (a + 1))), (0, .ref (g_ad V 11)), (1, .int (nI (r))), (3, .int (nI (5)))]) hx hb d_Md_round_50 hl (k := 2) rfl (g_inc _) (by decide) rfl (fun ls hl => ?_)
          refine lv_goto (tgt := 2) hx hb d_Md_round_53 (by decide) ?_
          exact ih2 (a + 1) (by omega) X2 _ _ ls hF2 (by rw [hC2, cR_5]; exact segL_s (colP (X.2.1 13)) _ _) hG (lv_sub hl [1, 2, 0] rfl)
        | succ fu ih16 =>
          intro b hin16 X2 H locs ls hF2 hC2 hG hl
          have hi16 : b < 5 := by omega
          refine lv_iload_n hx hb d_Md_round_16 rfl (lv_at hl 3 rfl) ?_
          refine lv_iconst (v := nI (5)) hx hb d_Md_round_17 (by decide) ?_
          refine lv_icmp_ge (tgt := 50) hx hb d_Md_round_18 (by decide) (fun q => absurd ((g_ge (x := b) (y := 5) (by omega) (by omega)).mp q) (by omega)) (fun _ => ?_)
          refine lv_aload_n hx hb d_Md_round_21 rfl (lv_at hl 0 rfl) ?_
          refine g_get (ci := 7) (v := .ref (g_ad V 15)) (C := R_Md) (T := F_Md) (N := 35) hx hb hts (fun w h => List.mem_cons_of_mem _ (in_Md w h)) hown hE hG 11 (by decide) rfl rfl 4 (by decide) (hts _ (List.mem_cons_of_mem _ kw_596)) (fun _ h9 => h9) rfl d_Md_round_22 ?_
          refine lv_iload_n hx hb d_Md_round_25 rfl (lv_at hl 2 rfl) ?_
          refine lv_aload_n hx hb d_Md_round_26 rfl (lv_at hl 0 rfl) ?_
          refine g_get (ci := 7) (v := .ref (g_ad V 15)) (C := R_Md) (T := F_Md) (N := 35) hx hb hts (fun w h => List.mem_cons_of_mem _ (in_Md w h)) hown hE hG 11 (by decide) rfl rfl 4 (by decide) (hts _ (List.mem_cons_of_mem _ kw_596)) (fun _ h9 => h9) rfl d_Md_round_27 ?_
          refine lv_iload_n hx hb d_Md_round_30 rfl (lv_at hl 2 rfl) ?_
          refine g_lald hx hb hE hG 15 rfl (a) (rfl) (show _ < 5 by omega) (v := cR (X.2.1 13) a b) (by rw [hC2]; exact pk_uLs) d_Md_round_31 ?_
          refine lv_aload_n hx hb d_Md_round_32 rfl (lv_at hl 0 rfl) ?_
          refine g_get (ci := 7) (v := .ref (g_ad V 13)) (C := R_Md) (T := F_Md) (N := 35) hx hb hts (fun w h => List.mem_cons_of_mem _ (in_Md w h)) hown hE hG 11 (by decide) rfl rfl 2 (by decide) (hts _ (List.mem_cons_of_mem _ kw_594)) (fun _ h9 => h9) rfl d_Md_round_33 ?_
          refine lv_iload_n hx hb d_Md_round_36 rfl (lv_at hl 2 rfl) ?_
          refine lv_iconst (v := nI (5)) hx hb d_Md_round_37 (by decide) ?_
          refine lv_iload_n hx hb d_Md_round_38 rfl (lv_at hl 3 rfl) ?_
          refine lv_imul hx hb d_Md_round_39 ?_
          refine g_topi (y := nI (5 * b)) (pk_mul _ _) ?_
          refine lv_iadd hx hb d_Md_round_40 ?_
          refine g_topi (y := nI (a + (5 * b))) (nI_add _ _) ?_
          refine g_lald hx hb hE hG 13 rfl (a + (5 * b)) (rfl) (show _ < 25 by omega) (v := X.2.1 13 (a + 5 * b)) (congrFun (hF2.2.1 13 (by decide)) _) d_Md_round_41 ?_
          refine lv_lxor hx hb d_Md_round_42 ?_
          refine g_last (x := (cR (X.2.1 13) a b) ^^^ (X.2.1 13 (a + 5 * b))) hx hb hE hG 15 rfl (a) (rfl) (show _ < 5 by omega) d_Md_round_43 (fun H locs hG => ?_)
          refine lv_iinc (v := nI (b + 1)) (lv' := [(3, .int (nI (b + 1))), (0, .ref (g_ad V 11)), (1, .int (nI (r))), (2, .int (nI (a)))]) hx hb d_Md_round_44 hl (k := 3) rfl (g_inc _) (by decide) rfl (fun ls hl => ?_)
          refine lv_goto (tgt := 16) hx hb d_Md_round_47 (by decide) ?_
          exact ih16 (b + 1) (by omega) (uL X2 15 (vp_updL (X2.2.1 15) a ((cR (X.2.1 13) a b) ^^^ (X.2.1 13 (a + 5 * b))))) _ _ ls (fr_l hF2 _ (by decide)) (by rw [uL_s, hC2, updL_updL]; rfl) hG (lv_sub hl [1, 2, 3, 0] rfl)
      exact K16 (5 - 0) 0 (by omega) (uL X1 15 (vp_updL (X1.2.1 15) a 0)) _ _ ls (fr_l hF _ (by decide)) (by rw [uL_s, hC]; rfl) hG (lv_sub hl [1, 2, 3, 0] rfl)
  exact K2 (5 - 0) 0 (by omega) X _ _ ls (fr_rf X _ _ _) (segL_0 _ _).symm hG (lv_sub hl [1, 2, 0] rfl)

set_option maxHeartbeats 4000000 in
set_option maxRecDepth 100000 in
theorem c_m_feed (l : Launch) (V : Ev) (X : Mm) (g : Nat → Int32) (k : Nat) (hk : k < 135) (hT : X.2.2 3 = nI k) (hI : ∀ j, j < k → X.1 54 j = g j) : Met l y_Md_feed (Cond.code y_Md_feed b_Md_feed 2 none :: WA) ({ frames := 0, cells := 0, slots := 0, locals := 0 } : Room) (g_Pc V X [.ref (g_ad V 11), .int (g k)]) (g_Qv V (fun X1 : Mm => X1.2.2 3 = nI (k + 1) ∧ (∀ j, j < k + 1 → X1.1 54 j = g j) ∧ fr X X1 [54] [] [3])) 0 0 (g_A V) := by
  refine g_met (by decide) (Nat.le_of_ble_eq_true rfl) ?_
  intro p e s m below meth c hx hb hr hml hown hts hlocks hE hG ls hl
  have hl : lv_has ls 2 [(0, .ref (g_ad V 11)), (1, .int (g k))] := hl
  have hown : s.vm.findClass R_Md = some m.cls := hown
  refine lv_aload_n hx hb d_Md_feed_0 rfl (lv_at hl 0 rfl) ?_
  refine g_get (ci := 7) (v := .ref (g_ad V 54)) (C := R_Md) (T := F_Md) (N := 35) hx hb hts (fun w h => List.mem_cons_of_mem _ (in_Md w h)) hown hE hG 11 (by decide) rfl rfl 6 (by decide) (hts _ (List.mem_cons_of_mem _ kw_598)) (fun _ h9 => h9) rfl d_Md_feed_1 ?_
  refine lv_aload_n hx hb d_Md_feed_4 rfl (lv_at hl 0 rfl) ?_
  refine g_get (ci := 7) (v := .int (X.2.2 3)) (C := R_Md) (T := F_Md) (N := 35) hx hb hts (fun w h => List.mem_cons_of_mem _ (in_Md w h)) hown hE hG 11 (by decide) rfl rfl 5 (by decide) (hts _ (List.mem_cons_of_mem _ kw_597)) (fun _ h9 => h9) rfl d_Md_feed_5 ?_
  refine g_topi (y := nI (k)) (hT) ?_
  refine lv_iload_n hx hb d_Md_feed_8 rfl (lv_at hl 1 rfl) ?_
  refine g_iast (x := g k) hx hb hE hG 54 (by decide) (k) (rfl) (show _ < 135 by omega) d_Md_feed_9 (fun H locs hG => ?_)
  refine lv_aload_n hx hb d_Md_feed_10 rfl (lv_at hl 0 rfl) ?_
  refine lv_dup hx hb d_Md_feed_11 rfl ?_
  refine g_get (ci := 7) (v := .int ((uI X 54 (upd (X.1 54) k (g k))).2.2 3)) (C := R_Md) (T := F_Md) (N := 35) hx hb hts (fun w h => List.mem_cons_of_mem _ (in_Md w h)) hown hE hG 11 (by decide) rfl rfl 5 (by decide) (hts _ (List.mem_cons_of_mem _ kw_597)) (fun _ h9 => h9) rfl d_Md_feed_12 ?_
  refine g_topi (y := nI (k)) (hT) ?_
  refine lv_iconst (v := nI (1)) hx hb d_Md_feed_15 (by decide) ?_
  refine lv_iadd hx hb d_Md_feed_16 ?_
  refine g_topi (y := nI (k + 1)) (nI_add _ _) ?_
  refine g_put (ci := 7) (v := nI (k + 1)) (ty := .int) (C := R_Md) (T := F_Md) (N := 35) hx hb hts (fun w h => List.mem_cons_of_mem _ (in_Md w h)) t_Md t_Md_ok n_Md hown hE hG 3 (by decide) rfl rfl 5 (by decide) (hts _ (List.mem_cons_of_mem _ kw_597)) (fun _ h9 => h9) rfl (by decide +kernel) (rfl) rfl (Nat.le_of_ble_eq_true rfl) rfl d_Md_feed_17 (fun H locs hG => ?_)
  exact g_vret hx hb hr hlocks hE hG (⟨uF_s _ _ _, fun j hj => by
      show (uI X 54 (upd (X.1 54) k (g k))).1 54 j = g j
      rw [uI_s]
      by_cases e : j = k
      · rw [e, pk_us]
      · rw [pk_un e]; exact hI j (by omega), fr_f (fr_i (fr_rf X _ _ _) _ (by decide)) _ (by decide)⟩) d_Md_feed_20

set_option maxHeartbeats 4000000 in
set_option maxRecDepth 100000 in
theorem c_m_feedAll (l : Launch) (V : Ev) (X : Mm) (kb : Nat) (hkb : 17 ≤ kb ∧ kb < 80) (hne : kb ≠ 54) (fm cnt : Nat) (hc : fm + cnt ≤ g_len kb) (g : Nat → Int32) (k : Nat) (hk : k + cnt ≤ 135) (hT : X.2.2 3 = nI k) (hI : ∀ j, j < k → X.1 54 j = g j) (hg : ∀ j, j < cnt → X.1 kb (fm + j) = g (k + j)) : Met l y_Md_feedAll (Cond.code y_Md_feedAll b_Md_feedAll 5 none :: WA) ({ frames := 1, cells := 0, slots := 0, locals := 21 } : Room) (g_Pc V X [.ref (g_ad V 11), .ref (g_ad V kb), .int (nI (fm)), .int (nI (cnt))]) (g_Qv V (fun X1 : Mm => X1.2.2 3 = nI (k + cnt) ∧ (∀ j, j < k + cnt → X1.1 54 j = g j) ∧ fr X X1 [54] [] [3])) 0 0 (g_A V) := by
  refine g_met (by decide) (Nat.le_of_ble_eq_true rfl) ?_
  intro p e s m below meth c hx hb hr hml hown hts hlocks hE hG ls hl
  have hl : lv_has ls 5 [(0, .ref (g_ad V 11)), (1, .ref (g_ad V kb)), (2, .int (nI (fm))), (3, .int (nI (cnt)))] := hl
  have hown : s.vm.findClass R_Md = some m.cls := hown
  have hlen := g_len_le kb
  refine lv_iconst (v := nI (0)) hx hb d_Md_feedAll_0 (by decide) ?_
  refine lv_istore (lv' := [(4, .int (nI (0))), (0, .ref (g_ad V 11)), (1, .ref (g_ad V kb)), (2, .int (nI (fm))), (3, .int (nI (cnt)))]) hx hb d_Md_feedAll_1 hl (by decide) rfl (fun ls hl => ?_)
  have K3 : ∀ (fu i : Nat), i + fu = cnt → ∀ (X1 : Mm) (H : Heap) (locs : List Loc), ∀ (ls : Array Slot), (fr X X1 [54] [] [3]) → (X1.2.2 3 = nI (k + i)) → (∀ j, j < k + i → X1.1 54 j = g j) → g_st V X1 s.heap H locs → lv_has ls 5 [(0, .ref (g_ad V 11)), (1, .ref (g_ad V kb)), (2, .int (nI (fm))), (3, .int (nI (cnt))), (4, .int (nI (i)))] → W p l e ({ frames := 1, cells := 0, slots := 0, locals := 21 } : Room) s m ([.ref (g_ad V 11), .ref (g_ad V kb), .int (nI (fm)), .int (nI (cnt))] : List Value).toArray below meth c H locs 0 0 (MQ below (g_Qv V (fun X1 : Mm => X1.2.2 3 = nI (k + cnt) ∧ (∀ j, j < k + cnt → X1.1 54 j = g j) ∧ fr X X1 [54] [] [3])) ([.ref (g_ad V 11), .ref (g_ad V kb), .int (nI (fm)), .int (nI (cnt))] : List Value).toArray s 0 0 (g_A V)) (F0 m 3 ls []) := by
    intro fu
    induction fu with
    | zero =>
      intro i hin3 X1 H locs ls hF h1 h2 hG hl
      have hi3 : cnt = i := by omega
      subst hi3
      refine lv_iload hx hb d_Md_feedAll_3 (lv_at hl 4 rfl) ?_
      refine lv_iload_n hx hb d_Md_feedAll_5 rfl (lv_at hl 3 rfl) ?_
      refine lv_icmp_ge (tgt := 25) hx hb d_Md_feedAll_6 (by decide) (fun _ => ?_) (fun q => absurd ((g_geN (x := cnt) (y := cnt) (by omega) (by omega)).mp q) (by omega))
      exact g_vret hx hb hr hlocks hE hG (⟨h1, h2, hF⟩) d_Md_feedAll_25
    | succ fu ih3 =>
      intro i hin3 X1 H locs ls hF h1 h2 hG hl
      have hi3 : i < cnt := by omega
      refine lv_iload hx hb d_Md_feedAll_3 (lv_at hl 4 rfl) ?_
      refine lv_iload_n hx hb d_Md_feedAll_5 rfl (lv_at hl 3 rfl) ?_
      refine lv_icmp_ge (tgt := 25) hx hb d_Md_feedAll_6 (by decide) (fun q => absurd ((g_ge (x := i) (y := cnt) (by omega) (by omega)).mp q) (by omega)) (fun _ => ?_)
      refine lv_aload_n hx hb d_Md_feedAll_9 rfl (lv_at hl 0 rfl) ?_
      refine lv_aload_n hx hb d_Md_feedAll_10 rfl (lv_at hl 1 rfl) ?_
      refine lv_iload_n hx hb d_Md_feedAll_11 rfl (lv_at hl 2 rfl) ?_
      refine lv_iload hx hb d_Md_feedAll_12 (lv_at hl 4 rfl) ?_
      refine lv_iadd hx hb d_Md_feedAll_14 ?_
      refine g_topi (y := nI (fm + i)) (nI_add _ _) ?_
      refine g_iald hx hb hE hG kb (by omega) (fm + i) (rfl) (by omega) (v := g (k + i)) ((congrFun (hF.1 kb (ni_1 hne)) _).trans (hg i (by omega))) d_Md_feedAll_15 ?_
      refine g_callv (va_runV (As := [.int (g (k + i))]) (rest := []) ⟨hx, hb, hml, hown, hts⟩ (c_m_feed l V X1 g (k + i) (by omega) h1 h2) (cwV 1 hts (g_goodV kw_710 kw_707 kw_709 kp_17 kw_8) rfl rfl rfl (by decide +kernel) ⟨Nat.le_of_ble_eq_true rfl, Nat.le_of_ble_eq_true rfl⟩) (g_preV (k0 := 11) (ci := 7) hE hG (by decide) rfl rfl) rfl rfl hl.1 rfl (lv_room (Nat.le_of_ble_eq_true rfl)) d_Md_feedAll_16 ⟨Nat.le_refl 0, Nat.le_refl 0⟩) hG (fun X2 H locs q2 hG => ?_)
      refine lv_iinc (v := nI (i + 1)) (lv' := [(4, .int (nI (i + 1))), (0, .ref (g_ad V 11)), (1, .ref (g_ad V kb)), (2, .int (nI (fm))), (3, .int (nI (cnt)))]) hx hb d_Md_feedAll_19 hl (k := 4) rfl (g_inc _) (by decide) rfl (fun ls hl => ?_)
      refine lv_goto (tgt := 3) hx hb d_Md_feedAll_22 (by decide) ?_
      exact ih3 (i + 1) (by omega) X2 _ _ ls (fr_tr hF q2.2.2) q2.1 q2.2.1 hG (lv_sub hl [1, 2, 3, 4, 0] rfl)
  exact K3 (cnt - 0) 0 (by omega) X _ _ ls (fr_rf X _ _ _) hT hI hG (lv_sub hl [1, 2, 3, 4, 0] rfl)

set_option maxHeartbeats 4000000 in
set_option maxRecDepth 100000 in
theorem c_m_feedLong (l : Launch) (V : Ev) (X : Mm) (x : Int64) (g : Nat → Int32) (k : Nat) (hk : k + 8 ≤ 135) (hT : X.2.2 3 = nI k) (hI : ∀ j, j < k → X.1 54 j = g j) (hg : ∀ j, j < 8 → lgB x j = g (k + j)) : Met l y_Md_feedLong (Cond.code y_Md_feedLong b_Md_feedLong 4 none :: WA) ({ frames := 1, cells := 0, slots := 0, locals := 21 } : Room) (g_Pc V X [.ref (g_ad V 11), .long (x)]) (g_Qv V (fun X1 : Mm => X1.2.2 3 = nI (k + 8) ∧ (∀ j, j < k + 8 → X1.1 54 j = g j) ∧ fr X X1 [54] [] [3])) 0 0 (g_A V) := by
  refine g_met (by decide) (Nat.le_of_ble_eq_true rfl) ?_
  intro p e s m below meth c hx hb hr hml hown hts hlocks hE hG ls hl
  have hl : lv_has ls 4 [(0, .ref (g_ad V 11)), (1, .long (x))] := hl
  have hown : s.vm.findClass R_Md = some m.cls := hown
  refine lv_iconst (v := nI (0)) hx hb d_Md_feedLong_0 (by decide) ?_
  refine lv_istore_n (lv' := [(3, .int (nI (0))), (0, .ref (g_ad V 11)), (1, .long (x))]) hx hb d_Md_feedLong_1 rfl hl (by decide) rfl (fun ls hl => ?_)
  have K2 : ∀ (fu i : Nat), i + fu = 8 → ∀ (X1 : Mm) (H : Heap) (locs : List Loc), ∀ (ls : Array Slot), (fr X X1 [54] [] [3]) → (X1.2.2 3 = nI (k + i)) → (∀ j, j < k + i → X1.1 54 j = g j) → g_st V X1 s.heap H locs → lv_has ls 4 [(0, .ref (g_ad V 11)), (1, .long (x)), (3, .int (nI (i)))] → W p l e ({ frames := 1, cells := 0, slots := 0, locals := 21 } : Room) s m ([.ref (g_ad V 11), .long (x)] : List Value).toArray below meth c H locs 0 0 (MQ below (g_Qv V (fun X1 : Mm => X1.2.2 3 = nI (k + 8) ∧ (∀ j, j < k + 8 → X1.1 54 j = g j) ∧ fr X X1 [54] [] [3])) ([.ref (g_ad V 11), .long (x)] : List Value).toArray s 0 0 (g_A V)) (F0 m 2 ls []) := by
    intro fu
    induction fu with
    | zero =>
      intro i hin2 X1 H locs ls hF h1 h2 hG hl
      have hi2 : 8 = i := by omega
      subst hi2
      refine lv_iload_n hx hb d_Md_feedLong_2 rfl (lv_at hl 2 rfl) ?_
      refine lv_bipush (v := nI (8)) hx hb d_Md_feedLong_3 (by decide) ?_
      refine lv_icmp_ge (tgt := 29) hx hb d_Md_feedLong_5 (by decide) (fun _ => ?_) (fun q => absurd ((g_geN (x := 8) (y := 8) (by omega) (by omega)).mp q) (by omega))
      exact g_vret hx hb hr hlocks hE hG (⟨h1, h2, hF⟩) d_Md_feedLong_29
    | succ fu ih2 =>
      intro i hin2 X1 H locs ls hF h1 h2 hG hl
      have hi2 : i < 8 := by omega
      refine lv_iload_n hx hb d_Md_feedLong_2 rfl (lv_at hl 2 rfl) ?_
      refine lv_bipush (v := nI (8)) hx hb d_Md_feedLong_3 (by decide) ?_
      refine lv_icmp_ge (tgt := 29) hx hb d_Md_feedLong_5 (by decide) (fun q => absurd ((g_ge (x := i) (y := 8) (by omega) (by omega)).mp q) (by omega)) (fun _ => ?_)
      refine lv_aload_n hx hb d_Md_feedLong_8 rfl (lv_at hl 0 rfl) ?_
      refine lv_lload_n hx hb d_Md_feedLong_9 rfl (lv_at hl 1 rfl) ?_
      refine lv_bipush (v := nI (8)) hx hb d_Md_feedLong_10 (by decide) ?_
      refine lv_iload_n hx hb d_Md_feedLong_12 rfl (lv_at hl 2 rfl) ?_
      refine lv_imul hx hb d_Md_feedLong_13 ?_
      refine g_topi (y := nI (8 * i)) (pk_mul _ _) ?_
      refine lv_lshr (v := x >>> ((nI (8 * i)).toInt64 &&& 63)) hx hb d_Md_feedLong_14 rfl ?_
      refine lv_ldc2 (v := 255) hx hb hown (hts _ (List.mem_cons_of_mem _ kw_706)) d_Md_feedLong_15 ?_
      refine lv_land hx hb d_Md_feedLong_18 ?_
      refine lv_l2i (v := ((x >>> ((nI (8 * i)).toInt64 &&& 63)) &&& 255).toInt32) hx hb d_Md_feedLong_19 rfl ?_
      refine g_topi (y := g (k + i)) ((byte_eq x (by omega)).trans (hg i (by omega))) ?_
      refine g_callv (va_runV (As := [.int (g (k + i))]) (rest := []) ⟨hx, hb, hml, hown, hts⟩ (c_m_feed l V X1 g (k + i) (by omega) h1 h2) (cwV 1 hts (g_goodV kw_710 kw_707 kw_709 kp_17 kw_8) rfl rfl rfl (by decide +kernel) ⟨Nat.le_of_ble_eq_true rfl, Nat.le_of_ble_eq_true rfl⟩) (g_preV (k0 := 11) (ci := 7) hE hG (by decide) rfl rfl) rfl rfl hl.1 rfl (lv_room (Nat.le_of_ble_eq_true rfl)) d_Md_feedLong_20 ⟨Nat.le_refl 0, Nat.le_refl 0⟩) hG (fun X2 H locs q2 hG => ?_)
      refine lv_iinc (v := nI (i + 1)) (lv' := [(3, .int (nI (i + 1))), (0, .ref (g_ad V 11)), (1, .long (x))]) hx hb d_Md_feedLong_23 hl (k := 2) rfl (g_inc _) (by decide) rfl (fun ls hl => ?_)
      refine lv_goto (tgt := 2) hx hb d_Md_feedLong_26 (by decide) ?_
      exact ih2 (i + 1) (by omega) X2 _ _ ls (fr_tr hF q2.2.2) q2.1 q2.2.1 hG (lv_sub hl [1, 2, 0] rfl)
  exact K2 (8 - 0) 0 (by omega) X _ _ ls (fr_rf X _ _ _) hT hI hG (lv_sub hl [1, 2, 0] rfl)

set_option maxHeartbeats 4000000 in
set_option maxRecDepth 100000 in
theorem c_m_stream (l : Launch) (V : Ev) (X : Mm) (g : Nat → Int32) (k : Nat) (hk : k ≤ 135) (hT : X.2.2 3 = nI k) (hI : ∀ j, j < k → X.1 54 j = g j) (hTu : X.1 53 = rotT) (hEx : X.2.1 12 = rcT) : Met l y_Md_stream (Cond.code y_Md_stream b_Md_stream 2 none :: WA) ({ frames := 2, cells := 0, slots := 0, locals := 47 } : Room) (g_Pc V X [.ref (g_ad V 11)]) (g_Qv V (fun X1 : Mm => X1.1 55 = HS g k ∧ X1.2.2 3 = nI 0 ∧ fr X X1 [55] [13, 14, 15] [3])) 0 0 (g_A V) := by
  refine g_met (by decide) (Nat.le_of_ble_eq_true rfl) ?_
  intro p e s m below meth c hx hb hr hml hown hts hlocks hE hG ls hl
  have hl : lv_has ls 2 [(0, .ref (g_ad V 11))] := hl
  have hown : s.vm.findClass R_Md = some m.cls := hown
  refine lv_iconst (v := nI (0)) hx hb d_Md_stream_0 (by decide) ?_
  refine lv_istore_n (lv' := [(1, .int (nI (0))), (0, .ref (g_ad V 11))]) hx hb d_Md_stream_1 rfl hl (by decide) rfl (fun ls hl => ?_)
  have K2 : ∀ (fu i : Nat), i + fu = 25 → ∀ (X1 : Mm) (H : Heap) (locs : List Loc), ∀ (ls : Array Slot), (fr X X1 [55] [13, 14, 15] []) → (X1.2.1 13 = segL (fun _ => 0) (X.2.1 13) i) → g_st V X1 s.heap H locs → lv_has ls 2 [(0, .ref (g_ad V 11)), (1, .int (nI (i)))] → W p l e ({ frames := 2, cells := 0, slots := 0, locals := 47 } : Room) s m ([.ref (g_ad V 11)] : List Value).toArray below meth c H locs 0 0 (MQ below (g_Qv V (fun X1 : Mm => X1.1 55 = HS g k ∧ X1.2.2 3 = nI 0 ∧ fr X X1 [55] [13, 14, 15] [3])) ([.ref (g_ad V 11)] : List Value).toArray s 0 0 (g_A V)) (F0 m 2 ls []) := by
    intro fu
    induction fu with
    | zero =>
      intro i hin2 X1 H locs ls hF hC hG hl
      have hi2 : 25 = i := by omega
      subst hi2
      refine lv_iload_n hx hb d_Md_stream_2 rfl (lv_at hl 1 rfl) ?_
      refine lv_bipush (v := nI (25)) hx hb d_Md_stream_3 (by decide) ?_
      refine lv_icmp_ge (tgt := 21) hx hb d_Md_stream_5 (by decide) (fun _ => ?_) (fun q => absurd ((g_geN (x := 25) (y := 25) (by omega) (by omega)).mp q) (by omega))
      have hG := g_xl hG 13 rfl (fun _ => 0) (fun j hj => by rw [hC]; exact segL_e (fun _ => 0) _ hj)
      refine lv_iconst (v := nI (0)) hx hb d_Md_stream_21 (by decide) ?_
      refine lv_istore_n (lv' := [(1, .int (nI (0))), (0, .ref (g_ad V 11))]) hx hb d_Md_stream_22 rfl hl (by decide) rfl (fun ls hl => ?_)
      have K23 : ∀ (fu i : Nat), i + fu = k → ∀ (X2 : Mm) (H : Heap) (locs : List Loc), ∀ (ls : Array Slot), (fr X X2 [55] [13, 14, 15] []) → (X2.2.1 13 = absN g i) → g_st V X2 s.heap H locs → lv_has ls 2 [(0, .ref (g_ad V 11)), (1, .int (nI (i)))] → W p l e ({ frames := 2, cells := 0, slots := 0, locals := 47 } : Room) s m ([.ref (g_ad V 11)] : List Value).toArray below meth c H locs 0 0 (MQ below (g_Qv V (fun X1 : Mm => X1.1 55 = HS g k ∧ X1.2.2 3 = nI 0 ∧ fr X X1 [55] [13, 14, 15] [3])) ([.ref (g_ad V 11)] : List Value).toArray s 0 0 (g_A V)) (F0 m 23 ls []) := by
        intro fu
        induction fu with
        | zero =>
          intro i hin23 X2 H locs ls hF2 h13 hG hl
          have hi23 : k = i := by omega
          subst hi23
          refine lv_iload_n hx hb d_Md_stream_23 rfl (lv_at hl 1 rfl) ?_
          refine lv_aload_n hx hb d_Md_stream_24 rfl (lv_at hl 0 rfl) ?_
          refine g_get (ci := 7) (v := .int (X2.2.2 3)) (C := R_Md) (T := F_Md) (N := 35) hx hb hts (fun w h => List.mem_cons_of_mem _ (in_Md w h)) hown hE hG 11 (by decide) rfl rfl 5 (by decide) (hts _ (List.mem_cons_of_mem _ kw_597)) (fun _ h9 => h9) rfl d_Md_stream_25 ?_
          refine g_topi (y := nI (k)) ((hF2.2.2 3 (fun q => by cases q)).trans hT) ?_
          refine lv_icmp_ge (tgt := 48) hx hb d_Md_stream_28 (by decide) (fun _ => ?_) (fun q => absurd ((g_geN (x := k) (y := k) (by omega) (by omega)).mp q) (by omega))
          refine lv_aload_n hx hb d_Md_stream_48 rfl (lv_at hl 0 rfl) ?_
          refine lv_aload_n hx hb d_Md_stream_49 rfl (lv_at hl 0 rfl) ?_
          refine g_get (ci := 7) (v := .int (X2.2.2 3)) (C := R_Md) (T := F_Md) (N := 35) hx hb hts (fun w h => List.mem_cons_of_mem _ (in_Md w h)) hown hE hG 11 (by decide) rfl rfl 5 (by decide) (hts _ (List.mem_cons_of_mem _ kw_597)) (fun _ h9 => h9) rfl d_Md_stream_50 ?_
          refine g_topi (y := nI (k)) ((hF2.2.2 3 (fun q => by cases q)).trans hT) ?_
          refine lv_bipush (v := nI (31)) hx hb d_Md_stream_53 (by decide) ?_
          refine g_callv (va_runV (As := [.int (nI (k)), .int (nI (31))]) (rest := []) ⟨hx, hb, hml, hown, hts⟩ (c_m_mix l V X2 k (nI 31) (by omega)) (cwV 2 hts (g_goodV kw_718 kw_715 kw_717 kp_19 kw_8) rfl rfl rfl (by decide +kernel) ⟨Nat.le_of_ble_eq_true rfl, Nat.le_of_ble_eq_true rfl⟩) (g_preV (k0 := 11) (ci := 7) hE hG (by decide) rfl rfl) rfl rfl hl.1 rfl (lv_room (Nat.le_of_ble_eq_true rfl)) d_Md_stream_55 ⟨Nat.le_refl 0, Nat.le_refl 0⟩) hG (fun Xa H locs qa hG => ?_)
          refine lv_aload_n hx hb d_Md_stream_58 rfl (lv_at hl 0 rfl) ?_
          refine lv_sipush (v := nI (135)) hx hb d_Md_stream_59 (by decide) ?_
          refine lv_sipush (v := nI (128)) hx hb d_Md_stream_62 (by decide) ?_
          refine g_callv (va_runV (As := [.int (nI (135)), .int (nI (128))]) (rest := []) ⟨hx, hb, hml, hown, hts⟩ (c_m_mix l V Xa 135 (nI 128) (by decide)) (cwV 2 hts (g_goodV kw_718 kw_715 kw_717 kp_19 kw_8) rfl rfl rfl (by decide +kernel) ⟨Nat.le_of_ble_eq_true rfl, Nat.le_of_ble_eq_true rfl⟩) (g_preV (k0 := 11) (ci := 7) hE hG (by decide) rfl rfl) rfl rfl hl.1 rfl (lv_room (Nat.le_of_ble_eq_true rfl)) d_Md_stream_65 ⟨Nat.le_refl 0, Nat.le_refl 0⟩) hG (fun Xb H locs qb hG => ?_)
          refine lv_iconst (v := nI (0)) hx hb d_Md_stream_68 (by decide) ?_
          refine lv_istore_n (lv' := [(1, .int (nI (0))), (0, .ref (g_ad V 11))]) hx hb d_Md_stream_69 rfl hl (by decide) rfl (fun ls hl => ?_)
          have K70 : ∀ (fu i : Nat), i + fu = 24 → ∀ (X5 : Mm) (H : Heap) (locs : List Loc), ∀ (ls : Array Slot), (fr X X5 [55] [13, 14, 15] []) → (X5.2.1 13 = prmP (padP (absN g k) k) i) → g_st V X5 s.heap H locs → lv_has ls 2 [(0, .ref (g_ad V 11)), (1, .int (nI (i)))] → W p l e ({ frames := 2, cells := 0, slots := 0, locals := 47 } : Room) s m ([.ref (g_ad V 11)] : List Value).toArray below meth c H locs 0 0 (MQ below (g_Qv V (fun X1 : Mm => X1.1 55 = HS g k ∧ X1.2.2 3 = nI 0 ∧ fr X X1 [55] [13, 14, 15] [3])) ([.ref (g_ad V 11)] : List Value).toArray s 0 0 (g_A V)) (F0 m 70 ls []) := by
            intro fu
            induction fu with
            | zero =>
              intro i hin70 X5 H locs ls hF5 j13 hG hl
              have hi70 : 24 = i := by omega
              subst hi70
              refine lv_iload_n hx hb d_Md_stream_70 rfl (lv_at hl 1 rfl) ?_
              refine lv_bipush (v := nI (24)) hx hb d_Md_stream_71 (by decide) ?_
              refine lv_icmp_ge (tgt := 87) hx hb d_Md_stream_73 (by decide) (fun _ => ?_) (fun q => absurd ((g_geN (x := 24) (y := 24) (by omega) (by omega)).mp q) (by omega))
              refine lv_iconst (v := nI (0)) hx hb d_Md_stream_87 (by decide) ?_
              refine lv_istore_n (lv' := [(1, .int (nI (0))), (0, .ref (g_ad V 11))]) hx hb d_Md_stream_88 rfl hl (by decide) rfl (fun ls hl => ?_)
              have K89 : ∀ (fu i : Nat), i + fu = 136 → ∀ (X7 : Mm) (H : Heap) (locs : List Loc), ∀ (ls : Array Slot), (fr X X7 [55] [13, 14, 15] []) → (X7.2.1 13 = prmP (padP (absN g k) k) 24) → (X7.1 55 = segI (HS g k) (X5.1 55) i) → g_st V X7 s.heap H locs → lv_has ls 2 [(0, .ref (g_ad V 11)), (1, .int (nI (i)))] → W p l e ({ frames := 2, cells := 0, slots := 0, locals := 47 } : Room) s m ([.ref (g_ad V 11)] : List Value).toArray below meth c H locs 0 0 (MQ below (g_Qv V (fun X1 : Mm => X1.1 55 = HS g k ∧ X1.2.2 3 = nI 0 ∧ fr X X1 [55] [13, 14, 15] [3])) ([.ref (g_ad V 11)] : List Value).toArray s 0 0 (g_A V)) (F0 m 89 ls []) := by
                intro fu
                induction fu with
                | zero =>
                  intro i hin89 X7 H locs ls hF7 l13 l55 hG hl
                  have hi89 : 136 = i := by omega
                  subst hi89
                  refine lv_iload_n hx hb d_Md_stream_89 rfl (lv_at hl 1 rfl) ?_
                  refine lv_sipush (v := nI (136)) hx hb d_Md_stream_90 (by decide) ?_
                  refine lv_icmp_ge (tgt := 130) hx hb d_Md_stream_93 (by decide) (fun _ => ?_) (fun q => absurd ((g_geN (x := 136) (y := 136) (by omega) (by omega)).mp q) (by omega))
                  have hG := g_xi hG 55 (by decide) (HS g k) (fun j hj => by rw [l55]; exact segI_e _ _ hj)
                  refine lv_aload_n hx hb d_Md_stream_130 rfl (lv_at hl 0 rfl) ?_
                  refine lv_iconst (v := nI (0)) hx hb d_Md_stream_131 (by decide) ?_
                  refine g_put (ci := 7) (v := nI (0)) (ty := .int) (C := R_Md) (T := F_Md) (N := 35) hx hb hts (fun w h => List.mem_cons_of_mem _ (in_Md w h)) t_Md t_Md_ok n_Md hown hE hG 3 (by decide) rfl rfl 5 (by decide) (hts _ (List.mem_cons_of_mem _ kw_597)) (fun _ h9 => h9) rfl (by decide +kernel) (rfl) rfl (Nat.le_of_ble_eq_true rfl) rfl d_Md_stream_132 (fun H locs hG => ?_)
                  exact g_vret hx hb hr hlocks hE hG (⟨uI_s X7 55 (HS g k), uF_s _ _ _, fr_f (fr_i (fr_mono hF7 (c' := [3]) (by decide) (by decide) (by decide)) _ (by decide)) _ (by decide)⟩) d_Md_stream_135
                | succ fu ih89 =>
                  intro i hin89 X7 H locs ls hF7 l13 l55 hG hl
                  have hi89 : i < 136 := by omega
                  refine lv_iload_n hx hb d_Md_stream_89 rfl (lv_at hl 1 rfl) ?_
                  refine lv_sipush (v := nI (136)) hx hb d_Md_stream_90 (by decide) ?_
                  refine lv_icmp_ge (tgt := 130) hx hb d_Md_stream_93 (by decide) (fun q => absurd ((g_ge (x := i) (y := 136) (by omega) (by omega)).mp q) (by omega)) (fun _ => ?_)
                  refine lv_aload_n hx hb d_Md_stream_96 rfl (lv_at hl 0 rfl) ?_
                  refine g_get (ci := 7) (v := .ref (g_ad V 55)) (C := R_Md) (T := F_Md) (N := 35) hx hb hts (fun w h => List.mem_cons_of_mem _ (in_Md w h)) hown hE hG 11 (by decide) rfl rfl 7 (by decide) (hts _ (List.mem_cons_of_mem _ kw_599)) (fun _ h9 => h9) rfl d_Md_stream_97 ?_
                  refine lv_iload_n hx hb d_Md_stream_100 rfl (lv_at hl 1 rfl) ?_
                  refine lv_aload_n hx hb d_Md_stream_101 rfl (lv_at hl 0 rfl) ?_
                  refine g_get (ci := 7) (v := .ref (g_ad V 13)) (C := R_Md) (T := F_Md) (N := 35) hx hb hts (fun w h => List.mem_cons_of_mem _ (in_Md w h)) hown hE hG 11 (by decide) rfl rfl 2 (by decide) (hts _ (List.mem_cons_of_mem _ kw_594)) (fun _ h9 => h9) rfl d_Md_stream_102 ?_
                  refine lv_iload_n hx hb d_Md_stream_105 rfl (lv_at hl 1 rfl) ?_
                  refine lv_bipush (v := nI (8)) hx hb d_Md_stream_106 (by decide) ?_
                  refine lv_idiv hx hb d_Md_stream_108 (by decide) ?_
                  refine g_topi (y := nI (i / 8)) (pk_div (by omega) (by omega) (by omega)) ?_
                  refine g_lald hx hb hE hG 13 rfl (i / 8) (rfl) (show _ < 25 by omega) (v := prmP (padP (absN g k) k) 24 (i / 8)) (congrFun l13 _) d_Md_stream_109 ?_
                  refine lv_bipush (v := nI (8)) hx hb d_Md_stream_110 (by decide) ?_
                  refine lv_iload_n hx hb d_Md_stream_112 rfl (lv_at hl 1 rfl) ?_
                  refine lv_bipush (v := nI (8)) hx hb d_Md_stream_113 (by decide) ?_
                  refine lv_irem hx hb d_Md_stream_115 (by decide) ?_
                  refine g_topi (y := nI (i % 8)) (pk_rem (by omega) (by omega) (by omega)) ?_
                  refine lv_imul hx hb d_Md_stream_116 ?_
                  refine g_topi (y := nI (8 * (i % 8))) (pk_mul _ _) ?_
                  refine lv_lshr (v := (prmP (padP (absN g k) k) 24 (i / 8)) >>> ((nI (8 * (i % 8))).toInt64 &&& 63)) hx hb d_Md_stream_117 rfl ?_
                  refine lv_ldc2 (v := 255) hx hb hown (hts _ (List.mem_cons_of_mem _ kw_706)) d_Md_stream_118 ?_
                  refine lv_land hx hb d_Md_stream_121 ?_
                  refine lv_l2i (v := (((prmP (padP (absN g k) k) 24 (i / 8)) >>> ((nI (8 * (i % 8))).toInt64 &&& 63)) &&& 255).toInt32) hx hb d_Md_stream_122 rfl ?_
                  refine g_topi (y := HS g k i) (byte_eq _ (by omega)) ?_
                  refine g_iast (x := HS g k i) hx hb hE hG 55 (by decide) (i) (rfl) (show _ < 136 by omega) d_Md_stream_123 (fun H locs hG => ?_)
                  refine lv_iinc (v := nI (i + 1)) (lv' := [(1, .int (nI (i + 1))), (0, .ref (g_ad V 11))]) hx hb d_Md_stream_124 hl (k := 1) rfl (g_inc _) (by decide) rfl (fun ls hl => ?_)
                  refine lv_goto (tgt := 89) hx hb d_Md_stream_127 (by decide) ?_
                  exact ih89 (i + 1) (by omega) (uI X7 55 (upd (X7.1 55) i (HS g k i))) _ _ ls (fr_i hF7 _ (by decide)) l13 (by rw [uI_s, l55]; exact segI_s (HS g k) _ _) hG (lv_sub hl [1, 0] rfl)
              exact K89 (136 - 0) 0 (by omega) X5 _ _ ls hF5 j13 (segI_0 _ _).symm hG (lv_sub hl [1, 0] rfl)
            | succ fu ih70 =>
              intro i hin70 X5 H locs ls hF5 j13 hG hl
              have hi70 : i < 24 := by omega
              refine lv_iload_n hx hb d_Md_stream_70 rfl (lv_at hl 1 rfl) ?_
              refine lv_bipush (v := nI (24)) hx hb d_Md_stream_71 (by decide) ?_
              refine lv_icmp_ge (tgt := 87) hx hb d_Md_stream_73 (by decide) (fun q => absurd ((g_ge (x := i) (y := 24) (by omega) (by omega)).mp q) (by omega)) (fun _ => ?_)
              refine lv_aload_n hx hb d_Md_stream_76 rfl (lv_at hl 0 rfl) ?_
              refine lv_iload_n hx hb d_Md_stream_77 rfl (lv_at hl 1 rfl) ?_
              refine g_callv (va_runV (As := [.int (nI (i))]) (rest := []) ⟨hx, hb, hml, hown, hts⟩ (c_m_round l V X5 i (by omega) ((hF5.1 53 (by decide)).trans hTu) ((hF5.2.1 12 (by decide)).trans hEx)) (cwV 1 hts (g_goodV kw_722 kw_719 kw_721 kp_20 kw_8) rfl rfl rfl (by decide +kernel) ⟨Nat.le_of_ble_eq_true rfl, Nat.le_of_ble_eq_true rfl⟩) (g_preV (k0 := 11) (ci := 7) hE hG (by decide) rfl rfl) rfl rfl hl.1 rfl (lv_room (Nat.le_of_ble_eq_true rfl)) d_Md_stream_78 ⟨Nat.le_refl 0, Nat.le_refl 0⟩) hG (fun Xr H locs qr hG => ?_)
              refine lv_iinc (v := nI (i + 1)) (lv' := [(1, .int (nI (i + 1))), (0, .ref (g_ad V 11))]) hx hb d_Md_stream_81 hl (k := 1) rfl (g_inc _) (by decide) rfl (fun ls hl => ?_)
              refine lv_goto (tgt := 70) hx hb d_Md_stream_84 (by decide) ?_
              exact ih70 (i + 1) (by omega) Xr _ _ ls (fr_tr2 hF5 qr.2 (by decide) (by decide) (by decide)) (by rw [qr.1, j13]; rfl) hG (lv_sub hl [1, 0] rfl)
          exact K70 (24 - 0) 0 (by omega) Xb _ _ ls (fr_tr2 (fr_tr2 hF2 qa.2 (by decide) (by decide) (by decide)) qb.2 (by decide) (by decide) (by decide)) (by rw [qb.1, qa.1, h13]; rfl) hG (lv_sub hl [1, 0] rfl)
        | succ fu ih23 =>
          intro i hin23 X2 H locs ls hF2 h13 hG hl
          have hi23 : i < k := by omega
          refine lv_iload_n hx hb d_Md_stream_23 rfl (lv_at hl 1 rfl) ?_
          refine lv_aload_n hx hb d_Md_stream_24 rfl (lv_at hl 0 rfl) ?_
          refine g_get (ci := 7) (v := .int (X2.2.2 3)) (C := R_Md) (T := F_Md) (N := 35) hx hb hts (fun w h => List.mem_cons_of_mem _ (in_Md w h)) hown hE hG 11 (by decide) rfl rfl 5 (by decide) (hts _ (List.mem_cons_of_mem _ kw_597)) (fun _ h9 => h9) rfl d_Md_stream_25 ?_
          refine g_topi (y := nI (k)) ((hF2.2.2 3 (fun q => by cases q)).trans hT) ?_
          refine lv_icmp_ge (tgt := 48) hx hb d_Md_stream_28 (by decide) (fun q => absurd ((g_ge (x := i) (y := k) (by omega) (by omega)).mp q) (by omega)) (fun _ => ?_)
          refine lv_aload_n hx hb d_Md_stream_31 rfl (lv_at hl 0 rfl) ?_
          refine lv_iload_n hx hb d_Md_stream_32 rfl (lv_at hl 1 rfl) ?_
          refine lv_aload_n hx hb d_Md_stream_33 rfl (lv_at hl 0 rfl) ?_
          refine g_get (ci := 7) (v := .ref (g_ad V 54)) (C := R_Md) (T := F_Md) (N := 35) hx hb hts (fun w h => List.mem_cons_of_mem _ (in_Md w h)) hown hE hG 11 (by decide) rfl rfl 6 (by decide) (hts _ (List.mem_cons_of_mem _ kw_598)) (fun _ h9 => h9) rfl d_Md_stream_34 ?_
          refine lv_iload_n hx hb d_Md_stream_37 rfl (lv_at hl 1 rfl) ?_
          refine g_iald hx hb hE hG 54 (by decide) (i) (rfl) (show _ < 135 by omega) (v := g i) ((congrFun (hF2.1 54 (by decide)) i).trans (hI i (by omega))) d_Md_stream_38 ?_
          refine g_callv (va_runV (As := [.int (nI (i)), .int (g i)]) (rest := []) ⟨hx, hb, hml, hown, hts⟩ (c_m_mix l V X2 i (g i) (by omega)) (cwV 2 hts (g_goodV kw_718 kw_715 kw_717 kp_19 kw_8) rfl rfl rfl (by decide +kernel) ⟨Nat.le_of_ble_eq_true rfl, Nat.le_of_ble_eq_true rfl⟩) (g_preV (k0 := 11) (ci := 7) hE hG (by decide) rfl rfl) rfl rfl hl.1 rfl (lv_room (Nat.le_of_ble_eq_true rfl)) d_Md_stream_39 ⟨Nat.le_refl 0, Nat.le_refl 0⟩) hG (fun Xm H locs qm hG => ?_)
          refine lv_iinc (v := nI (i + 1)) (lv' := [(1, .int (nI (i + 1))), (0, .ref (g_ad V 11))]) hx hb d_Md_stream_42 hl (k := 1) rfl (g_inc _) (by decide) rfl (fun ls hl => ?_)
          refine lv_goto (tgt := 23) hx hb d_Md_stream_45 (by decide) ?_
          exact ih23 (i + 1) (by omega) Xm _ _ ls (fr_tr2 hF2 qm.2 (by decide) (by decide) (by decide)) (by rw [qm.1, h13]; rfl) hG (lv_sub hl [1, 0] rfl)
      exact K23 (k - 0) 0 (by omega) (uL X1 13 (fun _ => 0)) _ _ ls (fr_l hF _ (by decide)) (uL_s _ _ _) hG (lv_sub hl [1, 0] rfl)
    | succ fu ih2 =>
      intro i hin2 X1 H locs ls hF hC hG hl
      have hi2 : i < 25 := by omega
      refine lv_iload_n hx hb d_Md_stream_2 rfl (lv_at hl 1 rfl) ?_
      refine lv_bipush (v := nI (25)) hx hb d_Md_stream_3 (by decide) ?_
      refine lv_icmp_ge (tgt := 21) hx hb d_Md_stream_5 (by decide) (fun q => absurd ((g_ge (x := i) (y := 25) (by omega) (by omega)).mp q) (by omega)) (fun _ => ?_)
      refine lv_aload_n hx hb d_Md_stream_8 rfl (lv_at hl 0 rfl) ?_
      refine g_get (ci := 7) (v := .ref (g_ad V 13)) (C := R_Md) (T := F_Md) (N := 35) hx hb hts (fun w h => List.mem_cons_of_mem _ (in_Md w h)) hown hE hG 11 (by decide) rfl rfl 2 (by decide) (hts _ (List.mem_cons_of_mem _ kw_594)) (fun _ h9 => h9) rfl d_Md_stream_9 ?_
      refine lv_iload_n hx hb d_Md_stream_12 rfl (lv_at hl 1 rfl) ?_
      refine lv_lconst (v := 0) hx hb d_Md_stream_13 (by decide) ?_
      refine g_last (x := 0) hx hb hE hG 13 rfl (i) (rfl) (show _ < 25 by omega) d_Md_stream_14 (fun H locs hG => ?_)
      refine lv_iinc (v := nI (i + 1)) (lv' := [(1, .int (nI (i + 1))), (0, .ref (g_ad V 11))]) hx hb d_Md_stream_15 hl (k := 1) rfl (g_inc _) (by decide) rfl (fun ls hl => ?_)
      refine lv_goto (tgt := 2) hx hb d_Md_stream_18 (by decide) ?_
      exact ih2 (i + 1) (by omega) (uL X1 13 (vp_updL (X1.2.1 13) i 0)) _ _ ls (fr_l hF _ (by decide)) (by rw [uL_s, hC]; exact segL_s (fun _ => 0) _ _) hG (lv_sub hl [1, 0] rfl)
  exact K2 (25 - 0) 0 (by omega) X _ _ ls (fr_rf X _ _ _) (segL_0 _ _).symm hG (lv_sub hl [1, 0] rfl)

set_option maxHeartbeats 4000000 in
set_option maxRecDepth 100000 in
theorem c_m_take (l : Launch) (V : Ev) (X : Mm) (kt : Nat) (hkt : 17 ≤ kt ∧ kt < 80) (hne : (55 : Nat) ≠ kt) (fm cnt : Nat) (hc : cnt ≤ g_len kt) (hw : fm + cnt ≤ 136) : Met l y_Md_take (Cond.code y_Md_take b_Md_take 5 none :: WA) ({ frames := 0, cells := 0, slots := 0, locals := 0 } : Room) (g_Pc V X [.ref (g_ad V 11), .ref (g_ad V kt), .int (nI (fm)), .int (nI (cnt))]) (g_Qv V (fun X1 : Mm => X1.1 kt = segI (shI (X.1 55) fm) (X.1 kt) cnt ∧ fr X X1 [kt] [] [])) 0 0 (g_A V) := by
  refine g_met (by decide) (Nat.le_of_ble_eq_true rfl) ?_
  intro p e s m below meth c hx hb hr hml hown hts hlocks hE hG ls hl
  have hl : lv_has ls 5 [(0, .ref (g_ad V 11)), (1, .ref (g_ad V kt)), (2, .int (nI (fm))), (3, .int (nI (cnt)))] := hl
  have hown : s.vm.findClass R_Md = some m.cls := hown
  have hlen := g_len_le kt
  refine lv_iconst (v := nI (0)) hx hb d_Md_take_0 (by decide) ?_
  refine lv_istore (lv' := [(4, .int (nI (0))), (0, .ref (g_ad V 11)), (1, .ref (g_ad V kt)), (2, .int (nI (fm))), (3, .int (nI (cnt)))]) hx hb d_Md_take_1 hl (by decide) rfl (fun ls hl => ?_)
  have K3 : ∀ (fu i : Nat), i + fu = cnt → ∀ (X1 : Mm) (H : Heap) (locs : List Loc), ∀ (ls : Array Slot), (fr X X1 [kt] [] []) → (X1.1 kt = segI (shI (X.1 55) fm) (X.1 kt) i) → g_st V X1 s.heap H locs → lv_has ls 5 [(0, .ref (g_ad V 11)), (1, .ref (g_ad V kt)), (2, .int (nI (fm))), (3, .int (nI (cnt))), (4, .int (nI (i)))] → W p l e ({ frames := 0, cells := 0, slots := 0, locals := 0 } : Room) s m ([.ref (g_ad V 11), .ref (g_ad V kt), .int (nI (fm)), .int (nI (cnt))] : List Value).toArray below meth c H locs 0 0 (MQ below (g_Qv V (fun X1 : Mm => X1.1 kt = segI (shI (X.1 55) fm) (X.1 kt) cnt ∧ fr X X1 [kt] [] [])) ([.ref (g_ad V 11), .ref (g_ad V kt), .int (nI (fm)), .int (nI (cnt))] : List Value).toArray s 0 0 (g_A V)) (F0 m 3 ls []) := by
    intro fu
    induction fu with
    | zero =>
      intro i hin3 X1 H locs ls hF hC hG hl
      have hi3 : cnt = i := by omega
      subst hi3
      refine lv_iload hx hb d_Md_take_3 (lv_at hl 4 rfl) ?_
      refine lv_iload_n hx hb d_Md_take_5 rfl (lv_at hl 3 rfl) ?_
      refine lv_icmp_ge (tgt := 28) hx hb d_Md_take_6 (by decide) (fun _ => ?_) (fun q => absurd ((g_geN (x := cnt) (y := cnt) (by omega) (by omega)).mp q) (by omega))
      exact g_vret hx hb hr hlocks hE hG (⟨hC, hF⟩) d_Md_take_28
    | succ fu ih3 =>
      intro i hin3 X1 H locs ls hF hC hG hl
      have hi3 : i < cnt := by omega
      refine lv_iload hx hb d_Md_take_3 (lv_at hl 4 rfl) ?_
      refine lv_iload_n hx hb d_Md_take_5 rfl (lv_at hl 3 rfl) ?_
      refine lv_icmp_ge (tgt := 28) hx hb d_Md_take_6 (by decide) (fun q => absurd ((g_ge (x := i) (y := cnt) (by omega) (by omega)).mp q) (by omega)) (fun _ => ?_)
      refine lv_aload_n hx hb d_Md_take_9 rfl (lv_at hl 1 rfl) ?_
      refine lv_iload hx hb d_Md_take_10 (lv_at hl 4 rfl) ?_
      refine lv_aload_n hx hb d_Md_take_12 rfl (lv_at hl 0 rfl) ?_
      refine g_get (ci := 7) (v := .ref (g_ad V 55)) (C := R_Md) (T := F_Md) (N := 35) hx hb hts (fun w h => List.mem_cons_of_mem _ (in_Md w h)) hown hE hG 11 (by decide) rfl rfl 7 (by decide) (hts _ (List.mem_cons_of_mem _ kw_599)) (fun _ h9 => h9) rfl d_Md_take_13 ?_
      refine lv_iload_n hx hb d_Md_take_16 rfl (lv_at hl 2 rfl) ?_
      refine lv_iload hx hb d_Md_take_17 (lv_at hl 4 rfl) ?_
      refine lv_iadd hx hb d_Md_take_19 ?_
      refine g_topi (y := nI (fm + i)) (nI_add _ _) ?_
      refine g_iald hx hb hE hG 55 (by decide) (fm + i) (rfl) (show _ < 136 by omega) (v := shI (X.1 55) fm i) (congrFun (hF.1 55 (ni_1 hne)) _) d_Md_take_20 ?_
      refine g_iast (x := shI (X.1 55) fm i) hx hb hE hG kt (by omega) (i) (rfl) (by omega) d_Md_take_21 (fun H locs hG => ?_)
      refine lv_iinc (v := nI (i + 1)) (lv' := [(4, .int (nI (i + 1))), (0, .ref (g_ad V 11)), (1, .ref (g_ad V kt)), (2, .int (nI (fm))), (3, .int (nI (cnt)))]) hx hb d_Md_take_22 hl (k := 4) rfl (g_inc _) (by decide) rfl (fun ls hl => ?_)
      refine lv_goto (tgt := 3) hx hb d_Md_take_25 (by decide) ?_
      exact ih3 (i + 1) (by omega) (uI X1 kt (upd (X1.1 kt) i (shI (X.1 55) fm i))) _ _ ls (fr_i hF _ List.mem_cons_self) (by rw [uI_s, hC]; exact segI_s (shI (X.1 55) fm) _ _) hG (lv_sub hl [1, 2, 3, 4, 0] rfl)
  exact K3 (cnt - 0) 0 (by omega) X _ _ ls (fr_rf X _ _ _) (segI_0 _ _).symm hG (lv_sub hl [1, 2, 3, 4, 0] rfl)

set_option maxHeartbeats 4000000 in
set_option maxRecDepth 100000 in
theorem c_m_takeC (l : Launch) (V : Ev) (X : Mm) (kt : Nat) (hkt : 17 ≤ kt ∧ kt < 80) (hne : (55 : Nat) ≠ kt) (fm cnt : Nat) (hc : cnt = g_len kt) (hw : fm + cnt ≤ 136) : Met l y_Md_take (Cond.code y_Md_take b_Md_take 5 none :: WA) ({ frames := 0, cells := 0, slots := 0, locals := 0 } : Room) (g_Pc V X [.ref (g_ad V 11), .ref (g_ad V kt), .int (nI (fm)), .int (nI (cnt))]) (g_Qv V (fun X1 : Mm => X1.1 kt = shI (X.1 55) fm ∧ fr X X1 [kt] [] [])) 0 0 (g_A V) := by
  refine g_met (by decide) (Nat.le_of_ble_eq_true rfl) ?_
  intro p e s m below meth c hx hb hr hml hown hts hlocks hE hG ls hl
  have hl : lv_has ls 5 [(0, .ref (g_ad V 11)), (1, .ref (g_ad V kt)), (2, .int (nI (fm))), (3, .int (nI (cnt)))] := hl
  have hown : s.vm.findClass R_Md = some m.cls := hown
  have hlen := g_len_le kt
  refine lv_iconst (v := nI (0)) hx hb d_Md_take_0 (by decide) ?_
  refine lv_istore (lv' := [(4, .int (nI (0))), (0, .ref (g_ad V 11)), (1, .ref (g_ad V kt)), (2, .int (nI (fm))), (3, .int (nI (cnt)))]) hx hb d_Md_take_1 hl (by decide) rfl (fun ls hl => ?_)
  have K3 : ∀ (fu i : Nat), i + fu = cnt → ∀ (X1 : Mm) (H : Heap) (locs : List Loc), ∀ (ls : Array Slot), (fr X X1 [kt] [] []) → (X1.1 kt = segI (shI (X.1 55) fm) (X.1 kt) i) → g_st V X1 s.heap H locs → lv_has ls 5 [(0, .ref (g_ad V 11)), (1, .ref (g_ad V kt)), (2, .int (nI (fm))), (3, .int (nI (cnt))), (4, .int (nI (i)))] → W p l e ({ frames := 0, cells := 0, slots := 0, locals := 0 } : Room) s m ([.ref (g_ad V 11), .ref (g_ad V kt), .int (nI (fm)), .int (nI (cnt))] : List Value).toArray below meth c H locs 0 0 (MQ below (g_Qv V (fun X1 : Mm => X1.1 kt = shI (X.1 55) fm ∧ fr X X1 [kt] [] [])) ([.ref (g_ad V 11), .ref (g_ad V kt), .int (nI (fm)), .int (nI (cnt))] : List Value).toArray s 0 0 (g_A V)) (F0 m 3 ls []) := by
    intro fu
    induction fu with
    | zero =>
      intro i hin3 X1 H locs ls hF hC hG hl
      have hi3 : cnt = i := by omega
      subst hi3
      refine lv_iload hx hb d_Md_take_3 (lv_at hl 4 rfl) ?_
      refine lv_iload_n hx hb d_Md_take_5 rfl (lv_at hl 3 rfl) ?_
      refine lv_icmp_ge (tgt := 28) hx hb d_Md_take_6 (by decide) (fun _ => ?_) (fun q => absurd ((g_geN (x := cnt) (y := cnt) (by omega) (by omega)).mp q) (by omega))
      have hG := g_xi hG kt hkt (shI (X.1 55) fm) (fun j hj => by rw [hC]; exact segI_e _ _ (by omega))
      exact g_vret hx hb hr hlocks hE hG (⟨uI_s _ _ _, fr_i hF _ List.mem_cons_self⟩) d_Md_take_28
    | succ fu ih3 =>
      intro i hin3 X1 H locs ls hF hC hG hl
      have hi3 : i < cnt := by omega
      refine lv_iload hx hb d_Md_take_3 (lv_at hl 4 rfl) ?_
      refine lv_iload_n hx hb d_Md_take_5 rfl (lv_at hl 3 rfl) ?_
      refine lv_icmp_ge (tgt := 28) hx hb d_Md_take_6 (by decide) (fun q => absurd ((g_ge (x := i) (y := cnt) (by omega) (by omega)).mp q) (by omega)) (fun _ => ?_)
      refine lv_aload_n hx hb d_Md_take_9 rfl (lv_at hl 1 rfl) ?_
      refine lv_iload hx hb d_Md_take_10 (lv_at hl 4 rfl) ?_
      refine lv_aload_n hx hb d_Md_take_12 rfl (lv_at hl 0 rfl) ?_
      refine g_get (ci := 7) (v := .ref (g_ad V 55)) (C := R_Md) (T := F_Md) (N := 35) hx hb hts (fun w h => List.mem_cons_of_mem _ (in_Md w h)) hown hE hG 11 (by decide) rfl rfl 7 (by decide) (hts _ (List.mem_cons_of_mem _ kw_599)) (fun _ h9 => h9) rfl d_Md_take_13 ?_
      refine lv_iload_n hx hb d_Md_take_16 rfl (lv_at hl 2 rfl) ?_
      refine lv_iload hx hb d_Md_take_17 (lv_at hl 4 rfl) ?_
      refine lv_iadd hx hb d_Md_take_19 ?_
      refine g_topi (y := nI (fm + i)) (nI_add _ _) ?_
      refine g_iald hx hb hE hG 55 (by decide) (fm + i) (rfl) (show _ < 136 by omega) (v := shI (X.1 55) fm i) (congrFun (hF.1 55 (ni_1 hne)) _) d_Md_take_20 ?_
      refine g_iast (x := shI (X.1 55) fm i) hx hb hE hG kt (by omega) (i) (rfl) (by omega) d_Md_take_21 (fun H locs hG => ?_)
      refine lv_iinc (v := nI (i + 1)) (lv' := [(4, .int (nI (i + 1))), (0, .ref (g_ad V 11)), (1, .ref (g_ad V kt)), (2, .int (nI (fm))), (3, .int (nI (cnt)))]) hx hb d_Md_take_22 hl (k := 4) rfl (g_inc _) (by decide) rfl (fun ls hl => ?_)
      refine lv_goto (tgt := 3) hx hb d_Md_take_25 (by decide) ?_
      exact ih3 (i + 1) (by omega) (uI X1 kt (upd (X1.1 kt) i (shI (X.1 55) fm i))) _ _ ls (fr_i hF _ List.mem_cons_self) (by rw [uI_s, hC]; exact segI_s (shI (X.1 55) fm) _ _) hG (lv_sub hl [1, 2, 3, 4, 0] rfl)
  exact K3 (cnt - 0) 0 (by omega) X _ _ ls (fr_rf X _ _ _) (segI_0 _ _).symm hG (lv_sub hl [1, 2, 3, 4, 0] rfl)

set_option maxHeartbeats 4000000 in
set_option maxRecDepth 100000 in
theorem c_m_bits (l : Launch) (V : Ev) (X : Mm) (kb : Nat) (hkb : 17 ≤ kb ∧ kb < 80) (fm ap bt : Nat) (hbt : bt ≤ 31) (hw : 8 * fm + ap + bt ≤ 8 * g_len kb) : Met l y_Md_bits (Cond.code y_Md_bits b_Md_bits 7 (some .int) :: WA) ({ frames := 0, cells := 0, slots := 0, locals := 0 } : Room) (g_Pc V X [.ref (g_ad V 11), .ref (g_ad V kb), .int (nI (fm)), .int (nI (ap)), .int (nI (bt))]) (g_Qi V (fun (r : Int32) (X1 : Mm) => r = rdN (X.1 kb) fm ap bt ∧ X = X1)) 0 0 (g_A V) := by
  refine g_met (by decide) (Nat.le_of_ble_eq_true rfl) ?_
  intro p e s m below meth c hx hb hr hml hown hts hlocks hE hG ls hl
  have hl : lv_has ls 7 [(0, .ref (g_ad V 11)), (1, .ref (g_ad V kb)), (2, .int (nI (fm))), (3, .int (nI (ap))), (4, .int (nI (bt)))] := hl
  have hown : s.vm.findClass R_Md = some m.cls := hown
  have hlen := g_len_le kb
  refine lv_iconst (v := nI (0)) hx hb d_Md_bits_0 (by decide) ?_
  refine lv_istore (lv' := [(5, .int (nI (0))), (0, .ref (g_ad V 11)), (1, .ref (g_ad V kb)), (2, .int (nI (fm))), (3, .int (nI (ap))), (4, .int (nI (bt)))]) hx hb d_Md_bits_1 hl (by decide) rfl (fun ls hl => ?_)
  refine lv_iconst (v := nI (0)) hx hb d_Md_bits_3 (by decide) ?_
  refine lv_istore (lv' := [(6, .int (nI (0))), (5, .int (nI (0))), (0, .ref (g_ad V 11)), (1, .ref (g_ad V kb)), (2, .int (nI (fm))), (3, .int (nI (ap))), (4, .int (nI (bt)))]) hx hb d_Md_bits_4 hl (by decide) rfl (fun ls hl => ?_)
  have K6 : ∀ (fu i : Nat), i + fu = bt → ∀ (ls : Array Slot), lv_has ls 7 [(0, .ref (g_ad V 11)), (1, .ref (g_ad V kb)), (2, .int (nI (fm))), (3, .int (nI (ap))), (4, .int (nI (bt))), (5, .int (rdN (X.1 kb) fm ap i)), (6, .int (nI (i)))] → W p l e ({ frames := 0, cells := 0, slots := 0, locals := 0 } : Room) s m ([.ref (g_ad V 11), .ref (g_ad V kb), .int (nI (fm)), .int (nI (ap)), .int (nI (bt))] : List Value).toArray below meth c s.heap [] 0 0 (MQ below (g_Qi V (fun (r : Int32) (X1 : Mm) => r = rdN (X.1 kb) fm ap bt ∧ X = X1)) ([.ref (g_ad V 11), .ref (g_ad V kb), .int (nI (fm)), .int (nI (ap)), .int (nI (bt))] : List Value).toArray s 0 0 (g_A V)) (F0 m 6 ls []) := by
    intro fu
    induction fu with
    | zero =>
      intro i hin6 ls hl
      have hi6 : bt = i := by omega
      subst hi6
      refine lv_iload hx hb d_Md_bits_6 (lv_at hl 6 rfl) ?_
      refine lv_iload hx hb d_Md_bits_8 (lv_at hl 4 rfl) ?_
      refine lv_icmp_ge (tgt := 48) hx hb d_Md_bits_10 (by decide) (fun _ => ?_) (fun q => absurd ((g_geN (x := bt) (y := bt) (by omega) (by omega)).mp q) (by omega))
      refine lv_iload hx hb d_Md_bits_48 (lv_at hl 5 rfl) ?_
      exact g_iret hx hb hr hlocks hE hG (⟨rfl, rfl⟩) d_Md_bits_50
    | succ fu ih6 =>
      intro i hin6 ls hl
      have hi6 : i < bt := by omega
      refine lv_iload hx hb d_Md_bits_6 (lv_at hl 6 rfl) ?_
      refine lv_iload hx hb d_Md_bits_8 (lv_at hl 4 rfl) ?_
      refine lv_icmp_ge (tgt := 48) hx hb d_Md_bits_10 (by decide) (fun q => absurd ((g_ge (x := i) (y := bt) (by omega) (by omega)).mp q) (by omega)) (fun _ => ?_)
      refine lv_iload hx hb d_Md_bits_13 (lv_at hl 5 rfl) ?_
      refine lv_aload_n hx hb d_Md_bits_15 rfl (lv_at hl 1 rfl) ?_
      refine lv_iload_n hx hb d_Md_bits_16 rfl (lv_at hl 2 rfl) ?_
      refine lv_iload_n hx hb d_Md_bits_17 rfl (lv_at hl 3 rfl) ?_
      refine lv_iload hx hb d_Md_bits_18 (lv_at hl 6 rfl) ?_
      refine lv_iadd hx hb d_Md_bits_20 ?_
      refine g_topi (y := nI (ap + i)) (nI_add _ _) ?_
      refine lv_bipush (v := nI (8)) hx hb d_Md_bits_21 (by decide) ?_
      refine lv_idiv hx hb d_Md_bits_23 (by decide) ?_
      refine g_topi (y := nI ((ap + i) / 8)) (pk_div (by omega) (by omega) (by omega)) ?_
      refine lv_iadd hx hb d_Md_bits_24 ?_
      refine g_topi (y := nI (fm + ((ap + i) / 8))) (nI_add _ _) ?_
      refine g_iald hx hb hE hG kb (by omega) (fm + ((ap + i) / 8)) (rfl) (by omega) (v := X.1 kb (fm + ((ap + i) / 8))) (rfl) d_Md_bits_25 ?_
      refine lv_iload_n hx hb d_Md_bits_26 rfl (lv_at hl 3 rfl) ?_
      refine lv_iload hx hb d_Md_bits_27 (lv_at hl 6 rfl) ?_
      refine lv_iadd hx hb d_Md_bits_29 ?_
      refine g_topi (y := nI (ap + i)) (nI_add _ _) ?_
      refine lv_bipush (v := nI (8)) hx hb d_Md_bits_30 (by decide) ?_
      refine lv_irem hx hb d_Md_bits_32 (by decide) ?_
      refine g_topi (y := nI ((ap + i) % 8)) (pk_rem (by omega) (by omega) (by omega)) ?_
      refine lv_ishr hx hb d_Md_bits_33 ?_
      refine lv_iconst (v := nI (1)) hx hb d_Md_bits_34 (by decide) ?_
      refine lv_iand hx hb d_Md_bits_35 ?_
      refine lv_iload hx hb d_Md_bits_36 (lv_at hl 6 rfl) ?_
      refine lv_ishl hx hb d_Md_bits_38 ?_
      refine lv_ior hx hb d_Md_bits_39 ?_
      refine lv_istore (lv' := [(5, .int ((rdN (X.1 kb) fm ap i) ||| ((((X.1 kb (fm + ((ap + i) / 8))) >>> ((nI ((ap + i) % 8)) &&& 31)) &&& (nI (1))) <<< ((nI (i)) &&& 31)))), (0, .ref (g_ad V 11)), (1, .ref (g_ad V kb)), (2, .int (nI (fm))), (3, .int (nI (ap))), (4, .int (nI (bt))), (6, .int (nI (i)))]) hx hb d_Md_bits_40 hl (by decide) rfl (fun ls hl => ?_)
      refine lv_iinc (v := nI (i + 1)) (lv' := [(6, .int (nI (i + 1))), (5, .int ((rdN (X.1 kb) fm ap i) ||| ((((X.1 kb (fm + ((ap + i) / 8))) >>> ((nI ((ap + i) % 8)) &&& 31)) &&& (nI (1))) <<< ((nI (i)) &&& 31)))), (0, .ref (g_ad V 11)), (1, .ref (g_ad V kb)), (2, .int (nI (fm))), (3, .int (nI (ap))), (4, .int (nI (bt)))]) hx hb d_Md_bits_42 hl (k := 6) rfl (g_inc _) (by decide) rfl (fun ls hl => ?_)
      refine lv_goto (tgt := 6) hx hb d_Md_bits_45 (by decide) ?_
      exact ih6 (i + 1) (by omega) ls (lv_sub hl [2, 3, 4, 5, 6, 1, 0] rfl)
  exact K6 (bt - 0) 0 (by omega) ls (lv_sub hl [2, 3, 4, 5, 6, 1, 0] rfl)

set_option maxHeartbeats 4000000 in
set_option maxRecDepth 100000 in
theorem c_m_pack (l : Launch) (V : Ev) (X : Mm) (kb : Nat) (hkb : 17 ≤ kb ∧ kb < 80) (fm ap bt : Nat) (x : Int32) (hbt : bt ≤ 31) (hw : 8 * fm + ap + bt ≤ 8 * g_len kb) : Met l y_Md_pack (Cond.code y_Md_pack b_Md_pack 9 none :: WA) ({ frames := 0, cells := 0, slots := 0, locals := 0 } : Room) (g_Pc V X [.ref (g_ad V 11), .ref (g_ad V kb), .int (nI (fm)), .int (nI (ap)), .int (nI (bt)), .int (x)]) (g_Qv V (fun X1 : Mm => X1.1 kb = wrN (X.1 kb) fm ap x bt ∧ fr X X1 [kb] [] [])) 0 0 (g_A V) := by
  refine g_met (by decide) (Nat.le_of_ble_eq_true rfl) ?_
  intro p e s m below meth c hx hb hr hml hown hts hlocks hE hG ls hl
  have hl : lv_has ls 9 [(0, .ref (g_ad V 11)), (1, .ref (g_ad V kb)), (2, .int (nI (fm))), (3, .int (nI (ap))), (4, .int (nI (bt))), (5, .int (x))] := hl
  have hown : s.vm.findClass R_Md = some m.cls := hown
  have hlen := g_len_le kb
  refine lv_iconst (v := nI (0)) hx hb d_Md_pack_0 (by decide) ?_
  refine lv_istore (lv' := [(6, .int (nI (0))), (0, .ref (g_ad V 11)), (1, .ref (g_ad V kb)), (2, .int (nI (fm))), (3, .int (nI (ap))), (4, .int (nI (bt))), (5, .int (x))]) hx hb d_Md_pack_1 hl (by decide) rfl (fun ls hl => ?_)
  have K3 : ∀ (fu i : Nat), i + fu = bt → ∀ (X1 : Mm) (H : Heap) (locs : List Loc), ∀ (ls : Array Slot), (fr X X1 [kb] [] []) → (X1.1 kb = wrN (X.1 kb) fm ap x i) → g_st V X1 s.heap H locs → lv_has ls 9 [(0, .ref (g_ad V 11)), (1, .ref (g_ad V kb)), (2, .int (nI (fm))), (3, .int (nI (ap))), (4, .int (nI (bt))), (5, .int (x)), (6, .int (nI (i)))] → W p l e ({ frames := 0, cells := 0, slots := 0, locals := 0 } : Room) s m ([.ref (g_ad V 11), .ref (g_ad V kb), .int (nI (fm)), .int (nI (ap)), .int (nI (bt)), .int (x)] : List Value).toArray below meth c H locs 0 0 (MQ below (g_Qv V (fun X1 : Mm => X1.1 kb = wrN (X.1 kb) fm ap x bt ∧ fr X X1 [kb] [] [])) ([.ref (g_ad V 11), .ref (g_ad V kb), .int (nI (fm)), .int (nI (ap)), .int (nI (bt)), .int (x)] : List Value).toArray s 0 0 (g_A V)) (F0 m 3 ls []) := by
    intro fu
    induction fu with
    | zero =>
      intro i hin3 X1 H locs ls hF hC hG hl
      have hi3 : bt = i := by omega
      subst hi3
      refine lv_iload hx hb d_Md_pack_3 (lv_at hl 6 rfl) ?_
      refine lv_iload hx hb d_Md_pack_5 (lv_at hl 4 rfl) ?_
      refine lv_icmp_ge (tgt := 72) hx hb d_Md_pack_7 (by decide) (fun _ => ?_) (fun q => absurd ((g_geN (x := bt) (y := bt) (by omega) (by omega)).mp q) (by omega))
      exact g_vret hx hb hr hlocks hE hG (⟨hC, hF⟩) d_Md_pack_72
    | succ fu ih3 =>
      intro i hin3 X1 H locs ls hF hC hG hl
      have hi3 : i < bt := by omega
      refine lv_iload hx hb d_Md_pack_3 (lv_at hl 6 rfl) ?_
      refine lv_iload hx hb d_Md_pack_5 (lv_at hl 4 rfl) ?_
      refine lv_icmp_ge (tgt := 72) hx hb d_Md_pack_7 (by decide) (fun q => absurd ((g_ge (x := i) (y := bt) (by omega) (by omega)).mp q) (by omega)) (fun _ => ?_)
      refine lv_iload_n hx hb d_Md_pack_10 rfl (lv_at hl 2 rfl) ?_
      refine lv_iload_n hx hb d_Md_pack_11 rfl (lv_at hl 3 rfl) ?_
      refine lv_iload hx hb d_Md_pack_12 (lv_at hl 6 rfl) ?_
      refine lv_iadd hx hb d_Md_pack_14 ?_
      refine g_topi (y := nI (ap + i)) (nI_add _ _) ?_
      refine lv_bipush (v := nI (8)) hx hb d_Md_pack_15 (by decide) ?_
      refine lv_idiv hx hb d_Md_pack_17 (by decide) ?_
      refine g_topi (y := nI ((ap + i) / 8)) (pk_div (by omega) (by omega) (by omega)) ?_
      refine lv_iadd hx hb d_Md_pack_18 ?_
      refine g_topi (y := nI (fm + ((ap + i) / 8))) (nI_add _ _) ?_
      refine lv_istore (lv' := [(7, .int (nI (fm + ((ap + i) / 8)))), (0, .ref (g_ad V 11)), (1, .ref (g_ad V kb)), (2, .int (nI (fm))), (3, .int (nI (ap))), (4, .int (nI (bt))), (5, .int (x)), (6, .int (nI (i)))]) hx hb d_Md_pack_19 hl (by decide) rfl (fun ls hl => ?_)
      refine lv_iconst (v := nI (1)) hx hb d_Md_pack_21 (by decide) ?_
      refine lv_iload_n hx hb d_Md_pack_22 rfl (lv_at hl 4 rfl) ?_
      refine lv_iload hx hb d_Md_pack_23 (lv_at hl 7 rfl) ?_
      refine lv_iadd hx hb d_Md_pack_25 ?_
      refine g_topi (y := nI (ap + i)) (nI_add _ _) ?_
      refine lv_bipush (v := nI (8)) hx hb d_Md_pack_26 (by decide) ?_
      refine lv_irem hx hb d_Md_pack_28 (by decide) ?_
      refine g_topi (y := nI ((ap + i) % 8)) (pk_rem (by omega) (by omega) (by omega)) ?_
      refine lv_ishl hx hb d_Md_pack_29 ?_
      refine lv_istore (lv' := [(8, .int ((nI (1)) <<< ((nI ((ap + i) % 8)) &&& 31))), (7, .int (nI (fm + ((ap + i) / 8)))), (0, .ref (g_ad V 11)), (1, .ref (g_ad V kb)), (2, .int (nI (fm))), (3, .int (nI (ap))), (4, .int (nI (bt))), (5, .int (x)), (6, .int (nI (i)))]) hx hb d_Md_pack_30 hl (by decide) rfl (fun ls hl => ?_)
      refine lv_aload_n hx hb d_Md_pack_32 rfl (lv_at hl 3 rfl) ?_
      refine lv_iload hx hb d_Md_pack_33 (lv_at hl 1 rfl) ?_
      refine lv_iload hx hb d_Md_pack_35 (lv_at hl 7 rfl) ?_
      refine lv_iload hx hb d_Md_pack_37 (lv_at hl 8 rfl) ?_
      refine lv_ishr hx hb d_Md_pack_39 ?_
      refine lv_iconst (v := nI (1)) hx hb d_Md_pack_40 (by decide) ?_
      refine lv_iand hx hb d_Md_pack_41 ?_
      refine lv_iconst (v := nI (1)) hx hb d_Md_pack_42 (by decide) ?_
      refine lv_icmp_ne (tgt := 56) hx hb d_Md_pack_43 (by decide) (fun c43 => ?_) (fun c43 => ?_)
      · refine lv_aload_n hx hb d_Md_pack_56 rfl (lv_at hl 3 rfl) ?_
        refine lv_iload hx hb d_Md_pack_57 (lv_at hl 1 rfl) ?_
        refine g_iald hx hb hE hG kb (by omega) (fm + ((ap + i) / 8)) (rfl) (by omega) (v := X1.1 kb (fm + ((ap + i) / 8))) (rfl) d_Md_pack_59 ?_
        refine lv_iload hx hb d_Md_pack_60 (lv_at hl 0 rfl) ?_
        refine lv_iconst (v := -1) hx hb d_Md_pack_62 (by decide) ?_
        refine lv_ixor hx hb d_Md_pack_63 ?_
        refine lv_iand hx hb d_Md_pack_64 ?_
        refine g_iast (x := (X1.1 kb (fm + ((ap + i) / 8))) &&& (((nI (1)) <<< ((nI ((ap + i) % 8)) &&& 31)) ^^^ (-1))) hx hb hE hG kb (by omega) (fm + ((ap + i) / 8)) (rfl) (by omega) d_Md_pack_65 (fun H locs hG => ?_)
        refine lv_iinc (v := nI (i + 1)) (lv' := [(6, .int (nI (i + 1))), (8, .int ((nI (1)) <<< ((nI ((ap + i) % 8)) &&& 31))), (7, .int (nI (fm + ((ap + i) / 8)))), (0, .ref (g_ad V 11)), (1, .ref (g_ad V kb)), (2, .int (nI (fm))), (3, .int (nI (ap))), (4, .int (nI (bt))), (5, .int (x))]) hx hb d_Md_pack_66 hl (k := 8) rfl (g_inc _) (by decide) rfl (fun ls hl => ?_)
        refine lv_goto (tgt := 3) hx hb d_Md_pack_69 (by decide) ?_
        exact ih3 (i + 1) (by omega) (uI X1 kb (upd (X1.1 kb) (fm + ((ap + i) / 8)) ((X1.1 kb (fm + ((ap + i) / 8))) &&& (((nI (1)) <<< ((nI ((ap + i) % 8)) &&& 31)) ^^^ (-1))))) _ _ ls (fr_i hF _ List.mem_cons_self) (by rw [uI_s, hC]; exact wrN_n _ _ _ _ _ c43) hG (lv_sub hl [3, 4, 5, 6, 7, 8, 0] rfl)
      · refine lv_aload_n hx hb d_Md_pack_46 rfl (lv_at hl 3 rfl) ?_
        refine lv_iload hx hb d_Md_pack_47 (lv_at hl 1 rfl) ?_
        refine g_iald hx hb hE hG kb (by omega) (fm + ((ap + i) / 8)) (rfl) (by omega) (v := X1.1 kb (fm + ((ap + i) / 8))) (rfl) d_Md_pack_49 ?_
        refine lv_iload hx hb d_Md_pack_50 (lv_at hl 0 rfl) ?_
        refine lv_ior hx hb d_Md_pack_52 ?_
        refine lv_goto (tgt := 65) hx hb d_Md_pack_53 (by decide) ?_
        refine g_iast (x := (X1.1 kb (fm + ((ap + i) / 8))) ||| ((nI (1)) <<< ((nI ((ap + i) % 8)) &&& 31))) hx hb hE hG kb (by omega) (fm + ((ap + i) / 8)) (rfl) (by omega) d_Md_pack_65 (fun H locs hG => ?_)
        refine lv_iinc (v := nI (i + 1)) (lv' := [(6, .int (nI (i + 1))), (8, .int ((nI (1)) <<< ((nI ((ap + i) % 8)) &&& 31))), (7, .int (nI (fm + ((ap + i) / 8)))), (0, .ref (g_ad V 11)), (1, .ref (g_ad V kb)), (2, .int (nI (fm))), (3, .int (nI (ap))), (4, .int (nI (bt))), (5, .int (x))]) hx hb d_Md_pack_66 hl (k := 8) rfl (g_inc _) (by decide) rfl (fun ls hl => ?_)
        refine lv_goto (tgt := 3) hx hb d_Md_pack_69 (by decide) ?_
        exact ih3 (i + 1) (by omega) (uI X1 kb (upd (X1.1 kb) (fm + ((ap + i) / 8)) ((X1.1 kb (fm + ((ap + i) / 8))) ||| ((nI (1)) <<< ((nI ((ap + i) % 8)) &&& 31))))) _ _ ls (fr_i hF _ List.mem_cons_self) (by rw [uI_s, hC]; exact wrN_y _ _ _ _ _ c43) hG (lv_sub hl [3, 4, 5, 6, 7, 8, 0] rfl)
  exact K3 (bt - 0) 0 (by omega) X _ _ ls (fr_rf X _ _ _) rfl hG (lv_sub hl [1, 2, 3, 4, 5, 6, 0] rfl)

set_option maxHeartbeats 4000000 in
set_option maxRecDepth 100000 in
theorem c_m_mod (l : Launch) (x : Int64) : Met l y_Md_mod (Cond.code y_Md_mod b_Md_mod 4 (some .int) :: WA) ({ frames := 0, cells := 0, slots := 0, locals := 0 } : Room) (fun v _ => v = ([.long (x)] : List Value).toArray) (vp_Si (fun r : Int32 => r = redP x)) 0 0 (fun _ => False) := by
  refine g_metp (by decide) (Nat.le_of_ble_eq_true rfl) ?_
  intro p e s m below meth c hx hb hr hml hown hts hlocks ls hl
  have hl : lv_has ls 4 [(0, .long (x))] := hl
  have hown : s.vm.findClass R_Md = some m.cls := hown
  refine lv_lload_n hx hb d_Md_mod_0 rfl (lv_at hl 0 rfl) ?_
  refine lv_ldc2 (v := 8380417) hx hb hown (hts _ (List.mem_cons_of_mem _ kw_752)) d_Md_mod_1 ?_
  refine lv_lrem hx hb d_Md_mod_4 (by decide) ?_
  refine lv_lstore_n (lv' := [(2, .long (x - x / 8380417 * 8380417)), (0, .long (x))]) hx hb d_Md_mod_5 rfl hl (by decide) rfl (fun ls hl => ?_)
  refine lv_lload_n hx hb d_Md_mod_6 rfl (lv_at hl 0 rfl) ?_
  refine lv_lconst (v := 0) hx hb d_Md_mod_7 (by decide) ?_
  refine W.lcmp hx hb d_Md_mod_8 ?_
  refine lv_if_ge (tgt := 20) hx hb d_Md_mod_9 (by decide) (fun c9 => ?_) (fun c9 => ?_)
  · refine lv_lload_n hx hb d_Md_mod_20 rfl (lv_at hl 0 rfl) ?_
    refine lv_l2i (v := (x - x / 8380417 * 8380417).toInt32) hx hb d_Md_mod_21 rfl ?_
    exact g_iretp hx hb hr hlocks (by unfold redP; rw [if_neg (Int64.not_lt.mpr ((lg_cmp_ge _ _).mp c9))]) d_Md_mod_22
  · refine lv_lload_n hx hb d_Md_mod_12 rfl (lv_at hl 0 rfl) ?_
    refine lv_ldc2 (v := 8380417) hx hb hown (hts _ (List.mem_cons_of_mem _ kw_752)) d_Md_mod_13 ?_
    refine lv_ladd hx hb d_Md_mod_16 ?_
    refine lv_goto (tgt := 21) hx hb d_Md_mod_17 (by decide) ?_
    refine lv_l2i (v := ((x - x / 8380417 * 8380417) + 8380417).toInt32) hx hb d_Md_mod_21 rfl ?_
    exact g_iretp hx hb hr hlocks (by unfold redP; rw [if_pos (Int64.not_le.mp (fun q => c9 ((lg_cmp_ge _ _).mpr q)))]) d_Md_mod_22

set_option maxHeartbeats 4000000 in
set_option maxRecDepth 100000 in
theorem c_m_centred (l : Launch) (r : Int32) : Met l y_Md_centred (Cond.code y_Md_centred b_Md_centred 1 (some .int) :: WA) ({ frames := 0, cells := 0, slots := 0, locals := 0 } : Room) (fun v _ => v = ([.int (r)] : List Value).toArray) (vp_Si (fun a : Int32 => a = cenP r)) 0 0 (fun _ => False) := by
  refine g_metp (by decide) (Nat.le_of_ble_eq_true rfl) ?_
  intro p e s m below meth c hx hb hr hml hown hts hlocks ls hl
  have hl : lv_has ls 1 [(0, .int (r))] := hl
  have hown : s.vm.findClass R_Md = some m.cls := hown
  refine lv_iload_n hx hb d_Md_centred_0 rfl (lv_at hl 0 rfl) ?_
  refine lv_ldc (v := nI (4190208)) hx hb hown (hts _ (List.mem_cons_of_mem _ kw_822)) d_Md_centred_1 ?_
  refine lv_icmp_le (tgt := 13) hx hb d_Md_centred_3 (by decide) (fun c3 => ?_) (fun c3 => ?_)
  · refine lv_iload_n hx hb d_Md_centred_13 rfl (lv_at hl 0 rfl) ?_
    exact g_iretp hx hb hr hlocks (by unfold cenP; rw [if_neg (Int32.not_lt.mpr c3)]) d_Md_centred_14
  · refine lv_iload_n hx hb d_Md_centred_6 rfl (lv_at hl 0 rfl) ?_
    refine lv_ldc (v := nI (8380417)) hx hb hown (hts _ (List.mem_cons_of_mem _ kw_744)) d_Md_centred_7 ?_
    refine lv_isub hx hb d_Md_centred_9 ?_
    refine lv_goto (tgt := 14) hx hb d_Md_centred_10 (by decide) ?_
    exact g_iretp hx hb hr hlocks (by unfold cenP; rw [if_pos (Int32.not_le.mp c3)]) d_Md_centred_14

set_option maxHeartbeats 4000000 in
set_option maxRecDepth 100000 in
theorem c_m_part (l : Launch) (r : Int32) : Met l y_Md_part (Cond.code y_Md_part b_Md_part 2 (some .int) :: WA) ({ frames := 0, cells := 0, slots := 0, locals := 0 } : Room) (fun v _ => v = ([.int (r)] : List Value).toArray) (vp_Si (fun a : Int32 => a = rsP r (nI 2046))) 0 0 (fun _ => False) := by
  refine g_metp (by decide) (Nat.le_of_ble_eq_true rfl) ?_
  intro p e s m below meth c hx hb hr hml hown hts hlocks ls hl
  have hl : lv_has ls 2 [(0, .int (r))] := hl
  have hown : s.vm.findClass R_Md = some m.cls := hown
  refine lv_iload_n hx hb d_Md_part_0 rfl (lv_at hl 0 rfl) ?_
  refine lv_sipush (v := nI (2046)) hx hb d_Md_part_1 (by decide) ?_
  refine lv_irem hx hb d_Md_part_4 (by decide) ?_
  refine lv_istore_n (lv' := [(1, .int (r - r / (nI (2046)) * (nI (2046)))), (0, .int (r))]) hx hb d_Md_part_5 rfl hl (by decide) rfl (fun ls hl => ?_)
  refine lv_iload_n hx hb d_Md_part_6 rfl (lv_at hl 0 rfl) ?_
  refine lv_sipush (v := nI (1023)) hx hb d_Md_part_7 (by decide) ?_
  refine lv_icmp_le (tgt := 21) hx hb d_Md_part_10 (by decide) (fun c10 => ?_) (fun c10 => ?_)
  · refine lv_iload_n hx hb d_Md_part_21 rfl (lv_at hl 0 rfl) ?_
    exact g_iretp hx hb hr hlocks (by unfold rsP; rw [show nI 2046 / nI 2 = nI 1023 by decide, if_neg (Int32.not_lt.mpr c10)]) d_Md_part_22
  · refine lv_iload_n hx hb d_Md_part_13 rfl (lv_at hl 0 rfl) ?_
    refine lv_sipush (v := nI (2046)) hx hb d_Md_part_14 (by decide) ?_
    refine lv_isub hx hb d_Md_part_17 ?_
    refine lv_goto (tgt := 22) hx hb d_Md_part_18 (by decide) ?_
    exact g_iretp hx hb hr hlocks (by unfold rsP; rw [show nI 2046 / nI 2 = nI 1023 by decide, if_pos (Int32.not_le.mp c10)]) d_Md_part_22

set_option maxHeartbeats 4000000 in
set_option maxRecDepth 100000 in
theorem c_m_bottom (l : Launch) (r : Int32) : Met l y_Md_bottom (Cond.code y_Md_bottom b_Md_bottom 2 (some .int) :: WA) ({ frames := 0, cells := 0, slots := 0, locals := 0 } : Room) (fun v _ => v = ([.int (r)] : List Value).toArray) (vp_Si (fun a : Int32 => a = rsP r (nI 256))) 0 0 (fun _ => False) := by
  refine g_metp (by decide) (Nat.le_of_ble_eq_true rfl) ?_
  intro p e s m below meth c hx hb hr hml hown hts hlocks ls hl
  have hl : lv_has ls 2 [(0, .int (r))] := hl
  have hown : s.vm.findClass R_Md = some m.cls := hown
  refine lv_iload_n hx hb d_Md_bottom_0 rfl (lv_at hl 0 rfl) ?_
  refine lv_sipush (v := nI (256)) hx hb d_Md_bottom_1 (by decide) ?_
  refine lv_irem hx hb d_Md_bottom_4 (by decide) ?_
  refine lv_istore_n (lv' := [(1, .int (r - r / (nI (256)) * (nI (256)))), (0, .int (r))]) hx hb d_Md_bottom_5 rfl hl (by decide) rfl (fun ls hl => ?_)
  refine lv_iload_n hx hb d_Md_bottom_6 rfl (lv_at hl 0 rfl) ?_
  refine lv_sipush (v := nI (128)) hx hb d_Md_bottom_7 (by decide) ?_
  refine lv_icmp_le (tgt := 21) hx hb d_Md_bottom_10 (by decide) (fun c10 => ?_) (fun c10 => ?_)
  · refine lv_iload_n hx hb d_Md_bottom_21 rfl (lv_at hl 0 rfl) ?_
    exact g_iretp hx hb hr hlocks (by unfold rsP; rw [show nI 256 / nI 2 = nI 128 by decide, if_neg (Int32.not_lt.mpr c10)]) d_Md_bottom_22
  · refine lv_iload_n hx hb d_Md_bottom_13 rfl (lv_at hl 0 rfl) ?_
    refine lv_sipush (v := nI (256)) hx hb d_Md_bottom_14 (by decide) ?_
    refine lv_isub hx hb d_Md_bottom_17 ?_
    refine lv_goto (tgt := 22) hx hb d_Md_bottom_18 (by decide) ?_
    exact g_iretp hx hb hr hlocks (by unfold rsP; rw [show nI 256 / nI 2 = nI 128 by decide, if_pos (Int32.not_le.mp c10)]) d_Md_bottom_22

set_option maxHeartbeats 4000000 in
set_option maxRecDepth 100000 in
theorem c_m_highOf (l : Launch) (r : Int32) : Met l y_Md_highOf (Cond.code y_Md_highOf b_Md_highOf 1 (some .int) :: WA) ({ frames := 1, cells := 0, slots := 0, locals := 21 } : Room) (fun v _ => v = ([.int (r)] : List Value).toArray) (vp_Si (fun a : Int32 => a = hiP r)) 0 0 (fun _ => False) := by
  refine g_metp (by decide) (Nat.le_of_ble_eq_true rfl) ?_
  intro p e s m below meth c hx hb hr hml hown hts hlocks ls hl
  have hl : lv_has ls 1 [(0, .int (r))] := hl
  have hown : s.vm.findClass R_Md = some m.cls := hown
  refine lv_iload_n hx hb d_Md_highOf_0 rfl (lv_at hl 0 rfl) ?_
  refine lv_iload_n hx hb d_Md_highOf_1 rfl (lv_at hl 0 rfl) ?_
  refine g_callpi (va_runS (As := [.int (r)]) (rest := [.int (r)]) ⟨hx, hb, hml, hown, hts⟩ (c_m_part l r) (va_cwS 1 hts (g_goodS kw_801 kw_799 kw_800 kw_8) rfl rfl rfl (by decide +kernel) ⟨Nat.le_of_ble_eq_true rfl, Nat.le_of_ble_eq_true rfl⟩) ⟨fun _ _ _ _ q => q, fun _ _ _ => rfl⟩ rfl rfl hl.1 rfl (lv_room (Nat.le_of_ble_eq_true rfl)) d_Md_highOf_2 ⟨Nat.le_refl 0, Nat.le_refl 0⟩) (fun r2 q1 => ?_)
  refine g_topi (y := rsP r (nI 2046)) (q1) ?_
  refine lv_isub hx hb d_Md_highOf_5 ?_
  refine lv_ldc (v := nI (8380416)) hx hb hown (hts _ (List.mem_cons_of_mem _ kw_802)) d_Md_highOf_6 ?_
  refine lv_icmp_ne (tgt := 15) hx hb d_Md_highOf_8 (by decide) (fun c8 => ?_) (fun c8 => ?_)
  · refine lv_iload_n hx hb d_Md_highOf_15 rfl (lv_at hl 0 rfl) ?_
    refine lv_iload_n hx hb d_Md_highOf_16 rfl (lv_at hl 0 rfl) ?_
    refine g_callpi (va_runS (As := [.int (r)]) (rest := [.int (r)]) ⟨hx, hb, hml, hown, hts⟩ (c_m_part l r) (va_cwS 1 hts (g_goodS kw_801 kw_799 kw_800 kw_8) rfl rfl rfl (by decide +kernel) ⟨Nat.le_of_ble_eq_true rfl, Nat.le_of_ble_eq_true rfl⟩) ⟨fun _ _ _ _ q => q, fun _ _ _ => rfl⟩ rfl rfl hl.1 rfl (lv_room (Nat.le_of_ble_eq_true rfl)) d_Md_highOf_17 ⟨Nat.le_refl 0, Nat.le_refl 0⟩) (fun r4 q1 => ?_)
    refine g_topi (y := rsP r (nI 2046)) (q1) ?_
    refine lv_isub hx hb d_Md_highOf_20 ?_
    refine lv_sipush (v := nI (2046)) hx hb d_Md_highOf_21 (by decide) ?_
    refine lv_idiv hx hb d_Md_highOf_24 (by decide) ?_
    exact g_iretp hx hb hr hlocks (by unfold hiP; rw [if_neg c8]) d_Md_highOf_25
  · refine lv_iconst (v := nI (0)) hx hb d_Md_highOf_11 (by decide) ?_
    refine lv_goto (tgt := 25) hx hb d_Md_highOf_12 (by decide) ?_
    exact g_iretp hx hb hr hlocks (by unfold hiP; rw [if_pos c8]) d_Md_highOf_25

set_option maxHeartbeats 4000000 in
set_option maxRecDepth 100000 in
theorem c_m_lowOf (l : Launch) (r : Int32) : Met l y_Md_lowOf (Cond.code y_Md_lowOf b_Md_lowOf 1 (some .int) :: WA) ({ frames := 1, cells := 0, slots := 0, locals := 21 } : Room) (fun v _ => v = ([.int (r)] : List Value).toArray) (vp_Si (fun a : Int32 => a = loP r)) 0 0 (fun _ => False) := by
  refine g_metp (by decide) (Nat.le_of_ble_eq_true rfl) ?_
  intro p e s m below meth c hx hb hr hml hown hts hlocks ls hl
  have hl : lv_has ls 1 [(0, .int (r))] := hl
  have hown : s.vm.findClass R_Md = some m.cls := hown
  refine lv_iload_n hx hb d_Md_lowOf_0 rfl (lv_at hl 0 rfl) ?_
  refine lv_iload_n hx hb d_Md_lowOf_1 rfl (lv_at hl 0 rfl) ?_
  refine g_callpi (va_runS (As := [.int (r)]) (rest := [.int (r)]) ⟨hx, hb, hml, hown, hts⟩ (c_m_part l r) (va_cwS 1 hts (g_goodS kw_801 kw_799 kw_800 kw_8) rfl rfl rfl (by decide +kernel) ⟨Nat.le_of_ble_eq_true rfl, Nat.le_of_ble_eq_true rfl⟩) ⟨fun _ _ _ _ q => q, fun _ _ _ => rfl⟩ rfl rfl hl.1 rfl (lv_room (Nat.le_of_ble_eq_true rfl)) d_Md_lowOf_2 ⟨Nat.le_refl 0, Nat.le_refl 0⟩) (fun r2 q1 => ?_)
  refine g_topi (y := rsP r (nI 2046)) (q1) ?_
  refine lv_isub hx hb d_Md_lowOf_5 ?_
  refine lv_ldc (v := nI (8380416)) hx hb hown (hts _ (List.mem_cons_of_mem _ kw_802)) d_Md_lowOf_6 ?_
  refine lv_icmp_ne (tgt := 20) hx hb d_Md_lowOf_8 (by decide) (fun c8 => ?_) (fun c8 => ?_)
  · refine lv_iload_n hx hb d_Md_lowOf_20 rfl (lv_at hl 0 rfl) ?_
    refine g_callpi (va_runS (As := [.int (r)]) (rest := []) ⟨hx, hb, hml, hown, hts⟩ (c_m_part l r) (va_cwS 1 hts (g_goodS kw_801 kw_799 kw_800 kw_8) rfl rfl rfl (by decide +kernel) ⟨Nat.le_of_ble_eq_true rfl, Nat.le_of_ble_eq_true rfl⟩) ⟨fun _ _ _ _ q => q, fun _ _ _ => rfl⟩ rfl rfl hl.1 rfl (lv_room (Nat.le_of_ble_eq_true rfl)) d_Md_lowOf_21 ⟨Nat.le_refl 0, Nat.le_refl 0⟩) (fun r4 q1 => ?_)
    refine g_topi (y := rsP r (nI 2046)) (q1) ?_
    exact g_iretp hx hb hr hlocks (by unfold loP; rw [if_neg c8]) d_Md_lowOf_24
  · refine lv_iload_n hx hb d_Md_lowOf_11 rfl (lv_at hl 0 rfl) ?_
    refine g_callpi (va_runS (As := [.int (r)]) (rest := []) ⟨hx, hb, hml, hown, hts⟩ (c_m_part l r) (va_cwS 1 hts (g_goodS kw_801 kw_799 kw_800 kw_8) rfl rfl rfl (by decide +kernel) ⟨Nat.le_of_ble_eq_true rfl, Nat.le_of_ble_eq_true rfl⟩) ⟨fun _ _ _ _ q => q, fun _ _ _ => rfl⟩ rfl rfl hl.1 rfl (lv_room (Nat.le_of_ble_eq_true rfl)) d_Md_lowOf_12 ⟨Nat.le_refl 0, Nat.le_refl 0⟩) (fun r6 q1 => ?_)
    refine g_topi (y := rsP r (nI 2046)) (q1) ?_
    refine lv_iconst (v := nI (1)) hx hb d_Md_lowOf_15 (by decide) ?_
    refine lv_isub hx hb d_Md_lowOf_16 ?_
    refine lv_goto (tgt := 24) hx hb d_Md_lowOf_17 (by decide) ?_
    exact g_iretp hx hb hr hlocks (by unfold loP; rw [if_pos c8]) d_Md_lowOf_24

set_option maxHeartbeats 4000000 in
set_option maxRecDepth 100000 in
theorem c_m_hintOf (l : Launch) (z : Int64) (r : Int32) : Met l y_Md_hintOf (Cond.code y_Md_hintOf b_Md_hintOf 3 (some .int) :: WA) ({ frames := 2, cells := 0, slots := 0, locals := 41 } : Room) (fun v _ => v = ([.long (z), .int (r)] : List Value).toArray) (vp_Si (fun a : Int32 => a = hinP z r)) 0 0 (fun _ => False) := by
  refine g_metp (by decide) (Nat.le_of_ble_eq_true rfl) ?_
  intro p e s m below meth c hx hb hr hml hown hts hlocks ls hl
  have hl : lv_has ls 3 [(0, .long (z)), (2, .int (r))] := hl
  have hown : s.vm.findClass R_Md = some m.cls := hown
  refine lv_iload_n hx hb d_Md_hintOf_0 rfl (lv_at hl 1 rfl) ?_
  refine g_callpi (va_runS (As := [.int (r)]) (rest := []) ⟨hx, hb, hml, hown, hts⟩ (c_m_highOf l r) (va_cwS 1 hts (g_goodS kw_798 kw_796 kw_797 kw_8) rfl rfl rfl (by decide +kernel) ⟨Nat.le_of_ble_eq_true rfl, Nat.le_of_ble_eq_true rfl⟩) ⟨fun _ _ _ _ q => q, fun _ _ _ => rfl⟩ rfl rfl hl.1 rfl (lv_room (Nat.le_of_ble_eq_true rfl)) d_Md_hintOf_1 ⟨Nat.le_refl 0, Nat.le_refl 0⟩) (fun r1 q1 => ?_)
  refine g_topi (y := hiP r) (q1) ?_
  refine lv_iload_n hx hb d_Md_hintOf_4 rfl (lv_at hl 1 rfl) ?_
  refine lv_i2l (v := r.toInt64) hx hb d_Md_hintOf_5 rfl ?_
  refine lv_lload_n hx hb d_Md_hintOf_6 rfl (lv_at hl 0 rfl) ?_
  refine lv_ladd hx hb d_Md_hintOf_7 ?_
  refine g_callpi (va_runS (As := [.long (r.toInt64 + z)]) (rest := [.int (hiP r)]) ⟨hx, hb, hml, hown, hts⟩ (c_m_mod l (r.toInt64 + z)) (va_cwS 1 hts (g_goodS kw_751 kw_749 kw_750 kw_8) rfl rfl rfl (by decide +kernel) ⟨Nat.le_of_ble_eq_true rfl, Nat.le_of_ble_eq_true rfl⟩) ⟨fun _ _ _ _ q => q, fun _ _ _ => rfl⟩ rfl rfl hl.1 rfl (lv_room (Nat.le_of_ble_eq_true rfl)) d_Md_hintOf_8 ⟨Nat.le_refl 0, Nat.le_refl 0⟩) (fun r2 q2 => ?_)
  refine g_topi (y := redP (r.toInt64 + z)) (q2) ?_
  refine g_callpi (va_runS (As := [.int (redP (r.toInt64 + z))]) (rest := [.int (hiP r)]) ⟨hx, hb, hml, hown, hts⟩ (c_m_highOf l (redP (r.toInt64 + z))) (va_cwS 1 hts (g_goodS kw_798 kw_796 kw_797 kw_8) rfl rfl rfl (by decide +kernel) ⟨Nat.le_of_ble_eq_true rfl, Nat.le_of_ble_eq_true rfl⟩) ⟨fun _ _ _ _ q => q, fun _ _ _ => rfl⟩ rfl rfl hl.1 rfl (lv_room (Nat.le_of_ble_eq_true rfl)) d_Md_hintOf_11 ⟨Nat.le_refl 0, Nat.le_refl 0⟩) (fun r3 q3 => ?_)
  refine g_topi (y := hiP (redP (r.toInt64 + z))) (q3) ?_
  refine lv_icmp_ne (tgt := 21) hx hb d_Md_hintOf_14 (by decide) (fun c14 => ?_) (fun c14 => ?_)
  · refine lv_iconst (v := nI (1)) hx hb d_Md_hintOf_21 (by decide) ?_
    exact g_iretp hx hb hr hlocks (by unfold hinP; rw [if_neg c14]) d_Md_hintOf_22
  · refine lv_iconst (v := nI (0)) hx hb d_Md_hintOf_17 (by decide) ?_
    refine lv_goto (tgt := 22) hx hb d_Md_hintOf_18 (by decide) ?_
    exact g_iretp hx hb hr hlocks (by unfold hinP; rw [if_pos c14]) d_Md_hintOf_22

set_option maxHeartbeats 4000000 in
set_option maxRecDepth 100000 in
theorem c_m_correctedBy (l : Launch) (h r : Int32) : Met l y_Md_correctedBy (Cond.code y_Md_correctedBy b_Md_correctedBy 2 (some .int) :: WA) ({ frames := 2, cells := 0, slots := 0, locals := 41 } : Room) (fun v _ => v = ([.int (h), .int (r)] : List Value).toArray) (vp_Si (fun a : Int32 => a = corP h r)) 0 0 (fun _ => False) := by
  refine g_metp (by decide) (Nat.le_of_ble_eq_true rfl) ?_
  intro p e s m below meth c hx hb hr hml hown hts hlocks ls hl
  have hl : lv_has ls 2 [(0, .int (h)), (1, .int (r))] := hl
  have hown : s.vm.findClass R_Md = some m.cls := hown
  refine lv_iload_n hx hb d_Md_correctedBy_0 rfl (lv_at hl 0 rfl) ?_
  refine lv_if_ne (tgt := 11) hx hb d_Md_correctedBy_1 (by decide) (fun c1 => ?_) (fun c1 => ?_)
  · refine lv_iload_n hx hb d_Md_correctedBy_11 rfl (lv_at hl 1 rfl) ?_
    refine g_callpi (va_runS (As := [.int (r)]) (rest := []) ⟨hx, hb, hml, hown, hts⟩ (c_m_highOf l r) (va_cwS 1 hts (g_goodS kw_798 kw_796 kw_797 kw_8) rfl rfl rfl (by decide +kernel) ⟨Nat.le_of_ble_eq_true rfl, Nat.le_of_ble_eq_true rfl⟩) ⟨fun _ _ _ _ q => q, fun _ _ _ => rfl⟩ rfl rfl hl.1 rfl (lv_room (Nat.le_of_ble_eq_true rfl)) d_Md_correctedBy_12 ⟨Nat.le_refl 0, Nat.le_refl 0⟩) (fun r2 q2 => ?_)
    refine g_topi (y := hiP r) (q2) ?_
    refine lv_iload_n hx hb d_Md_correctedBy_15 rfl (lv_at hl 1 rfl) ?_
    refine g_callpi (va_runS (As := [.int (r)]) (rest := [.int (hiP r)]) ⟨hx, hb, hml, hown, hts⟩ (c_m_lowOf l r) (va_cwS 1 hts (g_goodS kw_825 kw_823 kw_824 kw_8) rfl rfl rfl (by decide +kernel) ⟨Nat.le_of_ble_eq_true rfl, Nat.le_of_ble_eq_true rfl⟩) ⟨fun _ _ _ _ q => q, fun _ _ _ => rfl⟩ rfl rfl hl.1 rfl (lv_room (Nat.le_of_ble_eq_true rfl)) d_Md_correctedBy_16 ⟨Nat.le_refl 0, Nat.le_refl 0⟩) (fun r1 q1 => ?_)
    refine g_topi (y := loP r) (q1) ?_
    refine lv_if_le (tgt := 26) hx hb d_Md_correctedBy_19 (by decide) (fun c19 => ?_) (fun c19 => ?_)
    · refine lv_sipush (v := nI (4095)) hx hb d_Md_correctedBy_26 (by decide) ?_
      refine lv_iadd hx hb d_Md_correctedBy_29 ?_
      refine lv_sipush (v := nI (4096)) hx hb d_Md_correctedBy_30 (by decide) ?_
      refine lv_irem hx hb d_Md_correctedBy_33 (by decide) ?_
      exact g_iretp hx hb hr hlocks (by unfold corP; rw [if_neg (show ¬ h = nI 0 from c1), if_neg (show ¬ nI 0 < loP r from Int32.not_lt.mpr c19)]) d_Md_correctedBy_34
    · refine lv_iconst (v := nI (1)) hx hb d_Md_correctedBy_22 (by decide) ?_
      refine lv_goto (tgt := 29) hx hb d_Md_correctedBy_23 (by decide) ?_
      refine lv_iadd hx hb d_Md_correctedBy_29 ?_
      refine lv_sipush (v := nI (4096)) hx hb d_Md_correctedBy_30 (by decide) ?_
      refine lv_irem hx hb d_Md_correctedBy_33 (by decide) ?_
      exact g_iretp hx hb hr hlocks (by unfold corP; rw [if_neg (show ¬ h = nI 0 from c1), if_pos (show nI 0 < loP r from Int32.not_le.mp c19)]) d_Md_correctedBy_34
  · refine lv_iload_n hx hb d_Md_correctedBy_4 rfl (lv_at hl 1 rfl) ?_
    refine g_callpi (va_runS (As := [.int (r)]) (rest := []) ⟨hx, hb, hml, hown, hts⟩ (c_m_highOf l r) (va_cwS 1 hts (g_goodS kw_798 kw_796 kw_797 kw_8) rfl rfl rfl (by decide +kernel) ⟨Nat.le_of_ble_eq_true rfl, Nat.le_of_ble_eq_true rfl⟩) ⟨fun _ _ _ _ q => q, fun _ _ _ => rfl⟩ rfl rfl hl.1 rfl (lv_room (Nat.le_of_ble_eq_true rfl)) d_Md_correctedBy_5 ⟨Nat.le_refl 0, Nat.le_refl 0⟩) (fun r1 q1 => ?_)
    refine lv_goto (tgt := 34) hx hb d_Md_correctedBy_8 (by decide) ?_
    exact g_iretp hx hb hr hlocks (by rw [q1]; unfold corP; rw [if_pos (show h = nI 0 from c1)]) d_Md_correctedBy_34
