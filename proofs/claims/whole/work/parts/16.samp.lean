set_option maxHeartbeats 4000000 in
set_option maxRecDepth 100000 in
theorem c_fillI (l : Launch) (V : Ev) (X : Mm) (kb : Nat) (hkb : 17 ≤ kb ∧ kb < 80) (v : Int32) : Met l y_Arrays_fill_II (Cond.code y_Arrays_fill_II b_Arrays_fill_II 4 none :: WA) ({ frames := 0, cells := 0, slots := 0, locals := 0 } : Room) (g_Pc V X [.ref (g_ad V kb), .int (v)]) (g_Qv V (fun X1 : Mm => X1.1 kb = (fun _ => v) ∧ fr X X1 [kb] [] [])) 0 0 (g_A V) := by
  refine g_met (by decide) (Nat.le_of_ble_eq_true rfl) ?_
  intro p e s m below meth c hx hb hr hml hown hts hlocks hE hG ls hl
  have hl : lv_has ls 4 [(0, .ref (g_ad V kb)), (1, .int (v))] := hl
  have hown : s.vm.findClass R_Arrays = some m.cls := hown
  have hlen := g_len_le kb
  refine lv_iconst (v := nI (0)) hx hb d_Arrays_fill_II_0 (by decide) ?_
  refine lv_istore_n (lv' := [(2, .int (nI (0))), (0, .ref (g_ad V kb)), (1, .int (v))]) hx hb d_Arrays_fill_II_1 rfl hl (by decide) rfl (fun ls hl => ?_)
  refine lv_aload_n hx hb d_Arrays_fill_II_2 rfl (lv_at hl 1 rfl) ?_
  refine g_ilen hx hb hE hG kb (by omega) (n := g_len kb) (rfl) d_Arrays_fill_II_3 ?_
  refine lv_istore_n (lv' := [(3, .int (nI (g_len kb))), (2, .int (nI (0))), (0, .ref (g_ad V kb)), (1, .int (v))]) hx hb d_Arrays_fill_II_4 rfl hl (by decide) rfl (fun ls hl => ?_)
  have K5 : ∀ (n i : Nat), i + n = g_len kb → ∀ (X1 : Mm) (H : Heap) (locs : List Loc), ∀ (ls : Array Slot), (fr X X1 [kb] [] []) → (X1.1 kb = segI (fun _ => v) (X.1 kb) i) → g_st V X1 s.heap H locs → lv_has ls 4 [(0, .ref (g_ad V kb)), (1, .int (v)), (2, .int (nI (i))), (3, .int (nI (g_len kb)))] → W p l e ({ frames := 0, cells := 0, slots := 0, locals := 0 } : Room) s m ([.ref (g_ad V kb), .int (v)] : List Value).toArray below meth c H locs 0 0 (MQ below (g_Qv V (fun X1 : Mm => X1.1 kb = (fun _ => v) ∧ fr X X1 [kb] [] [])) ([.ref (g_ad V kb), .int (v)] : List Value).toArray s 0 0 (g_A V)) (F0 m 5 ls []) := by
    intro n
    induction n with
    | zero =>
      intro i hin5 X1 H locs ls hF hC hG hl
      have hi5 : g_len kb = i := by omega
      subst hi5
      refine lv_iload_n hx hb d_Arrays_fill_II_5 rfl (lv_at hl 2 rfl) ?_
      refine lv_iload_n hx hb d_Arrays_fill_II_6 rfl (lv_at hl 3 rfl) ?_
      refine lv_icmp_ge (tgt := 20) hx hb d_Arrays_fill_II_7 (by decide) (fun _ => ?_) (fun q => absurd ((g_geN (x := (g_len kb)) (y := g_len kb) (by omega) (by omega)).mp q) (by omega))
      have hG := g_xi hG kb hkb (fun _ => v) (fun j hj => by rw [hC]; exact segI_e (fun _ => v) _ hj)
      exact g_vret hx hb hr hlocks hE hG (⟨uI_s _ _ _, fr_i hF _ List.mem_cons_self⟩) d_Arrays_fill_II_20
    | succ n ih5 =>
      intro i hin5 X1 H locs ls hF hC hG hl
      have hi5 : i < g_len kb := by omega
      refine lv_iload_n hx hb d_Arrays_fill_II_5 rfl (lv_at hl 2 rfl) ?_
      refine lv_iload_n hx hb d_Arrays_fill_II_6 rfl (lv_at hl 3 rfl) ?_
      refine lv_icmp_ge (tgt := 20) hx hb d_Arrays_fill_II_7 (by decide) (fun q => absurd ((g_ge (x := i) (y := g_len kb) (by omega) (by omega)).mp q) (by omega)) (fun _ => ?_)
      refine lv_aload_n hx hb d_Arrays_fill_II_10 rfl (lv_at hl 0 rfl) ?_
      refine lv_iload_n hx hb d_Arrays_fill_II_11 rfl (lv_at hl 2 rfl) ?_
      refine lv_iload_n hx hb d_Arrays_fill_II_12 rfl (lv_at hl 1 rfl) ?_
      refine g_iast (x := v) hx hb hE hG kb (by omega) (i) (rfl) (by omega) d_Arrays_fill_II_13 (fun H locs hG => ?_)
      refine lv_iinc (v := nI (i + 1)) (lv' := [(2, .int (nI (i + 1))), (0, .ref (g_ad V kb)), (1, .int (v)), (3, .int (nI (g_len kb)))]) hx hb d_Arrays_fill_II_14 hl (k := 2) rfl (g_inc _) (by decide) rfl (fun ls hl => ?_)
      refine lv_goto (tgt := 5) hx hb d_Arrays_fill_II_17 (by decide) ?_
      exact ih5 (i + 1) (by omega) (uI X1 kb (upd (X1.1 kb) i v)) _ _ ls (fr_i hF _ List.mem_cons_self) (by rw [uI_s, hC]; exact segI_s _ _ _) hG (lv_sub hl [1, 2, 0, 3] rfl)
  exact K5 (g_len kb - 0) 0 (by omega) X _ _ ls (fr_rf X _ _ _) (segI_0 _ _).symm hG (lv_sub hl [2, 3, 1, 0] rfl)

set_option maxHeartbeats 4000000 in
set_option maxRecDepth 100000 in
theorem c_streamOf (l : Launch) (V : Ev) (X : Mm) (kb : Nat) (hkb : 17 ≤ kb ∧ kb < 80) (cnt : Nat) (hc : cnt ≤ g_len kb) (hk : cnt + 1 ≤ 135) (b : Int32) : Met l y_Samples_streamOf (Cond.code y_Samples_streamOf b_Samples_streamOf 4 (some (.array .int)) :: WA) ({ frames := 3, cells := 0, slots := 0, locals := 66 } : Room) (g_Pc V X [.ref (g_ad V 1), .ref (g_ad V kb), .int (nI (cnt)), .int (b)]) (g_Qr V 17 (fun X1 : Mm => X1.1 17 = HS (ctB (X.1 kb) cnt b) (cnt + 1) ∧ fr X X1 [17] [2, 3, 4] [1])) 0 0 (g_A V) := by
  refine g_met (by decide) (Nat.le_of_ble_eq_true rfl) ?_
  intro p e s m below meth c hx hb hr hml hown hts hlocks hE hG ls hl
  have hl : lv_has ls 4 [(0, .ref (g_ad V 1)), (1, .ref (g_ad V kb)), (2, .int (nI (cnt))), (3, .int (b))] := hl
  have hown : s.vm.findClass R_Samples = some m.cls := hown
  refine lv_aload_n hx hb d_Samples_streamOf_0 rfl (lv_at hl 0 rfl) ?_
  refine g_callv (va_runV (As := []) (rest := []) ⟨hx, hb, hml, hown, hts⟩ (c_begin l V X ) (cwV 0 hts (g_goodV kw_230 kw_279 kw_228 kw_229 kw_2) rfl rfl rfl (by decide +kernel) ⟨Nat.le_of_ble_eq_true rfl, Nat.le_of_ble_eq_true rfl⟩) (g_preV (k0 := 1) (ci := 1) hE hG (by decide) rfl rfl) rfl rfl hl.1 rfl (lv_room (Nat.le_of_ble_eq_true rfl)) d_Samples_streamOf_1 ⟨Nat.le_refl 0, Nat.le_refl 0⟩) hG (fun X2 H locs q2 hG => ?_)
  refine lv_aload_n hx hb d_Samples_streamOf_4 rfl (lv_at hl 0 rfl) ?_
  refine lv_aload_n hx hb d_Samples_streamOf_5 rfl (lv_at hl 1 rfl) ?_
  refine lv_iload_n hx hb d_Samples_streamOf_6 rfl (lv_at hl 2 rfl) ?_
  refine g_callv (va_runV (As := [.ref (g_ad V kb), .int (nI (cnt))]) (rest := []) ⟨hx, hb, hml, hown, hts⟩ (c_takeFirst l V X2 kb hkb (ctB (X.1 kb) cnt b) 0 cnt hc (by omega) q2.1 q2.2.1 (fun j hj => by rw [q2.2.2.1 kb (fun q => by cases q), Nat.zero_add]; exact (ctB_lo _ _ hj).symm)) (cwV 2 hts (g_goodV kw_283 kw_280 kw_281 kw_282 kw_2) rfl rfl rfl (by decide +kernel) ⟨Nat.le_of_ble_eq_true rfl, Nat.le_of_ble_eq_true rfl⟩) (g_preV (k0 := 1) (ci := 1) hE hG (by decide) rfl rfl) rfl rfl hl.1 rfl (lv_room (Nat.le_of_ble_eq_true rfl)) d_Samples_streamOf_7 ⟨Nat.le_refl 0, Nat.le_refl 0⟩) hG (fun X3 H locs q3 hG => ?_)
  refine lv_aload_n hx hb d_Samples_streamOf_10 rfl (lv_at hl 0 rfl) ?_
  refine lv_iload_n hx hb d_Samples_streamOf_11 rfl (lv_at hl 3 rfl) ?_
  refine g_topi (y := ctB (X.1 kb) cnt b (0 + cnt)) (by rw [Nat.zero_add]; exact (ctB_hi _ _ _).symm) ?_
  refine g_callv (va_runV (As := [.int (ctB (X.1 kb) cnt b (0 + cnt))]) (rest := []) ⟨hx, hb, hml, hown, hts⟩ (c_take l V X3 (ctB (X.1 kb) cnt b) (0 + cnt) (by omega) q3.1 q3.2.1) (cwV 1 hts (g_goodV kw_241 kw_284 kw_239 kw_240 kw_2) rfl rfl rfl (by decide +kernel) ⟨Nat.le_of_ble_eq_true rfl, Nat.le_of_ble_eq_true rfl⟩) (g_preV (k0 := 1) (ci := 1) hE hG (by decide) rfl rfl) rfl rfl hl.1 rfl (lv_room (Nat.le_of_ble_eq_true rfl)) d_Samples_streamOf_12 ⟨Nat.le_refl 0, Nat.le_refl 0⟩) hG (fun X4 H locs q4 hG => ?_)
  refine lv_aload_n hx hb d_Samples_streamOf_15 rfl (lv_at hl 0 rfl) ?_
  refine g_callr (va_runV (As := []) (rest := []) ⟨hx, hb, hml, hown, hts⟩ (c_finish l V X4 (ctB (X.1 kb) cnt b) (0 + cnt + 1) (by omega) q4.1 q4.2.1) (cwV 0 hts (g_goodV kw_249 kw_285 kw_247 kw_248 kw_2) rfl rfl rfl (by decide +kernel) ⟨Nat.le_of_ble_eq_true rfl, Nat.le_of_ble_eq_true rfl⟩) (g_preV (k0 := 1) (ci := 1) hE hG (by decide) rfl rfl) rfl rfl hl.1 rfl (lv_room (Nat.le_of_ble_eq_true rfl)) d_Samples_streamOf_16 ⟨Nat.le_refl 0, Nat.le_refl 0⟩) hG (fun X5 H locs q5 hG => ?_)
  exact g_aret hx hb hr hlocks hE hG (⟨by rw [q5.1, Nat.zero_add], fr_tr2 (fr_tr2 (fr_tr2 (fr_mono q2.2.2 (a' := [17]) (b' := [2, 3, 4]) (c' := [1]) (by decide) (by decide) (by decide)) q3.2.2 (by decide) (by decide) (by decide)) q4.2.2 (by decide) (by decide) (by decide)) q5.2 (by decide) (by decide) (by decide)⟩) d_Samples_streamOf_19

set_option maxHeartbeats 4000000 in
set_option maxRecDepth 100000 in
theorem c_fillUniform (l : Launch) (V : Ev) (X : Mm) (kr : Nat) (hkr : 17 ≤ kr ∧ kr < 80) (hne : (17 : Nat) ≠ kr) (fm : Nat) (hfm : fm + 16 ≤ g_len kr) : Met l y_Samples_fillUniform (Cond.code y_Samples_fillUniform b_Samples_fillUniform 6 none :: WA) ({ frames := 1, cells := 0, slots := 0, locals := 24 } : Room) (g_Pc V X [.ref (g_ad V 17), .ref (g_ad V kr), .int (nI (fm))]) (g_Qv V (fun X1 : Mm => X1.1 kr = seg (unP (X.1 17)) (X.1 kr) fm 16 ∧ fr X X1 [kr] [] [])) 0 0 (g_A V) := by
  refine g_met (by decide) (Nat.le_of_ble_eq_true rfl) ?_
  intro p e s m below meth c hx hb hr hml hown hts hlocks hE hG ls hl
  have hl : lv_has ls 6 [(0, .ref (g_ad V 17)), (1, .ref (g_ad V kr)), (2, .int (nI (fm)))] := hl
  have hown : s.vm.findClass R_Samples = some m.cls := hown
  have hlen := g_len_le kr
  refine lv_iconst (v := nI (0)) hx hb d_Samples_fillUniform_0 (by decide) ?_
  refine lv_istore_n (lv' := [(3, .int (nI (0))), (0, .ref (g_ad V 17)), (1, .ref (g_ad V kr)), (2, .int (nI (fm)))]) hx hb d_Samples_fillUniform_1 rfl hl (by decide) rfl (fun ls hl => ?_)
  refine lv_iconst (v := nI (0)) hx hb d_Samples_fillUniform_2 (by decide) ?_
  refine lv_istore (lv' := [(4, .int (nI (0))), (3, .int (nI (0))), (0, .ref (g_ad V 17)), (1, .ref (g_ad V kr)), (2, .int (nI (fm)))]) hx hb d_Samples_fillUniform_3 hl (by decide) rfl (fun ls hl => ?_)
  have K5 : ∀ (n i : Nat), i + n = 45 → ∀ (X1 : Mm) (H : Heap) (locs : List Loc), ∀ (ls : Array Slot), (fr X X1 [kr] [] []) → (X1.1 kr = seg (selN (unO (X.1 17)) (unN (X.1 17)) i).2 (X.1 kr) fm (selN (unO (X.1 17)) (unN (X.1 17)) i).1) → g_st V X1 s.heap H locs → lv_has ls 6 [(0, .ref (g_ad V 17)), (1, .ref (g_ad V kr)), (2, .int (nI (fm))), (3, .int (nI ((selN (unO (X.1 17)) (unN (X.1 17)) i).1))), (4, .int (nI (3 * i)))] → W p l e ({ frames := 1, cells := 0, slots := 0, locals := 24 } : Room) s m ([.ref (g_ad V 17), .ref (g_ad V kr), .int (nI (fm))] : List Value).toArray below meth c H locs 0 0 (MQ below (g_Qv V (fun X1 : Mm => X1.1 kr = seg (unP (X.1 17)) (X.1 kr) fm 16 ∧ fr X X1 [kr] [] [])) ([.ref (g_ad V 17), .ref (g_ad V kr), .int (nI (fm))] : List Value).toArray s 0 0 (g_A V)) (F0 m 5 ls []) := by
    intro n
    induction n with
    | zero =>
      intro i hin5 X1 H locs ls hF hC hG hl
      have hi5 : 45 = i := by omega
      subst hi5
      have hle := selN_le (unO (X.1 17)) (unN (X.1 17)) 45
      have e45 : selN (unO (X.1 17)) (unN (X.1 17)) 45 = selN (unO (X.1 17)) (unN (X.1 17)) 45 := rfl
      refine lv_iload hx hb d_Samples_fillUniform_5 (lv_at hl 4 rfl) ?_
      refine lv_sipush (v := nI (135)) hx hb d_Samples_fillUniform_7 (by decide) ?_
      refine lv_icmp_ge (tgt := 71) hx hb d_Samples_fillUniform_10 (by decide) (fun _ => ?_) (fun q => absurd ((g_geN (x := 3 * 45) (y := 135) (by omega) (by omega)).mp q) (by omega))
      refine lv_aload_n hx hb d_Samples_fillUniform_71 rfl (lv_at hl 1 rfl) ?_
      refine lv_iload_n hx hb d_Samples_fillUniform_72 rfl (lv_at hl 2 rfl) ?_
      refine lv_iload_n hx hb d_Samples_fillUniform_73 rfl (lv_at hl 3 rfl) ?_
      refine lv_bipush (v := nI (16)) hx hb d_Samples_fillUniform_74 (by decide) ?_
      refine g_callv (va_runSN (As := [.ref (g_ad V kr), .int (nI (fm)), .int (nI ((selN (unO (X.1 17)) (unN (X.1 17)) 45).1)), .int (nI (16))]) (rest := []) ⟨hx, hb, hml, hown, hts⟩ (c_clearRest l V X1 kr hkr fm (selN (unO (X.1 17)) (unN (X.1 17)) 45).1 16 hle (by omega) (selN (unO (X.1 17)) (unN (X.1 17)) 45).2 (X.1 kr) hC (fun j hj => selN_z _ _ _ j hj)) ⟨va_cnB 4 hts (g_good kw_292) rfl rfl rfl (hE.2.1 _ nm_Samples_52) (hts _ (List.mem_cons_of_mem _ kw_1)) (by decide +kernel) ⟨Nat.le_of_ble_eq_true rfl, Nat.le_of_ble_eq_true rfl⟩, hts _ (List.mem_cons_of_mem _ kw_291), trivial⟩ (g_preS hE hG) rfl rfl hl.1 rfl (lv_room (Nat.le_of_ble_eq_true rfl)) d_Samples_fillUniform_76 ⟨Nat.le_refl 0, Nat.le_refl 0⟩) hG (fun X9 H locs q9 hG => ?_)
      exact g_vret hx hb hr hlocks hE hG (⟨by rw [q9.1]; unfold unP; rw [e45], fr_tr hF q9.2⟩) d_Samples_fillUniform_79
    | succ n ih5 =>
      intro i hin5 X1 H locs ls hF hC hG hl
      have hi5 : i < 45 := by omega
      have hle := selN_le (unO (X.1 17)) (unN (X.1 17)) i
      refine lv_iload hx hb d_Samples_fillUniform_5 (lv_at hl 4 rfl) ?_
      refine lv_sipush (v := nI (135)) hx hb d_Samples_fillUniform_7 (by decide) ?_
      refine lv_icmp_ge (tgt := 71) hx hb d_Samples_fillUniform_10 (by decide) (fun q => absurd ((g_ge (x := 3 * i) (y := 135) (by omega) (by omega)).mp q) (by omega)) (fun _ => ?_)
      refine lv_iload_n hx hb d_Samples_fillUniform_13 rfl (lv_at hl 3 rfl) ?_
      refine lv_bipush (v := nI (16)) hx hb d_Samples_fillUniform_14 (by decide) ?_
      refine lv_icmp_ge (tgt := 71) hx hb d_Samples_fillUniform_16 (by decide) (fun c16 => ?_) (fun c16 => ?_)
      · have c16 := (g_ge (x := (selN (unO (X.1 17)) (unN (X.1 17)) i).1) (y := 16) (by omega) (by omega)).mp c16
        have e45 : selN (unO (X.1 17)) (unN (X.1 17)) 45 = (selN (unO (X.1 17)) (unN (X.1 17)) i) := by
          rw [show 45 = i + (45 - i) by omega]
          exact selN_full (by omega) _
        refine lv_aload_n hx hb d_Samples_fillUniform_71 rfl (lv_at hl 1 rfl) ?_
        refine lv_iload_n hx hb d_Samples_fillUniform_72 rfl (lv_at hl 2 rfl) ?_
        refine lv_iload_n hx hb d_Samples_fillUniform_73 rfl (lv_at hl 3 rfl) ?_
        refine lv_bipush (v := nI (16)) hx hb d_Samples_fillUniform_74 (by decide) ?_
        refine g_callv (va_runSN (As := [.ref (g_ad V kr), .int (nI (fm)), .int (nI ((selN (unO (X.1 17)) (unN (X.1 17)) i).1)), .int (nI (16))]) (rest := []) ⟨hx, hb, hml, hown, hts⟩ (c_clearRest l V X1 kr hkr fm (selN (unO (X.1 17)) (unN (X.1 17)) i).1 16 hle (by omega) (selN (unO (X.1 17)) (unN (X.1 17)) i).2 (X.1 kr) hC (fun j hj => selN_z _ _ _ j hj)) ⟨va_cnB 4 hts (g_good kw_292) rfl rfl rfl (hE.2.1 _ nm_Samples_52) (hts _ (List.mem_cons_of_mem _ kw_1)) (by decide +kernel) ⟨Nat.le_of_ble_eq_true rfl, Nat.le_of_ble_eq_true rfl⟩, hts _ (List.mem_cons_of_mem _ kw_291), trivial⟩ (g_preS hE hG) rfl rfl hl.1 rfl (lv_room (Nat.le_of_ble_eq_true rfl)) d_Samples_fillUniform_76 ⟨Nat.le_refl 0, Nat.le_refl 0⟩) hG (fun X9 H locs q9 hG => ?_)
        exact g_vret hx hb hr hlocks hE hG (⟨by rw [q9.1]; unfold unP; rw [e45], fr_tr hF q9.2⟩) d_Samples_fillUniform_79
      · have c16 := (g_geN (x := (selN (unO (X.1 17)) (unN (X.1 17)) i).1) (y := 16) (by omega) (by omega)).mp c16
        refine lv_aload_n hx hb d_Samples_fillUniform_19 rfl (lv_at hl 0 rfl) ?_
        refine lv_iload hx hb d_Samples_fillUniform_20 (lv_at hl 4 rfl) ?_
        refine g_iald hx hb hE hG 17 (by decide) (3 * i) (rfl) (show _ < 136 by omega) (v := X.1 17 (3 * i)) (congrFun (hF.1 17 (ni_1 hne)) _) d_Samples_fillUniform_22 ?_
        refine lv_aload_n hx hb d_Samples_fillUniform_23 rfl (lv_at hl 0 rfl) ?_
        refine lv_iload hx hb d_Samples_fillUniform_24 (lv_at hl 4 rfl) ?_
        refine lv_iconst (v := nI (1)) hx hb d_Samples_fillUniform_26 (by decide) ?_
        refine lv_iadd hx hb d_Samples_fillUniform_27 ?_
        refine g_topi (y := nI ((3 * i) + 1)) (nI_add _ _) ?_
        refine g_iald hx hb hE hG 17 (by decide) ((3 * i) + 1) (rfl) (show _ < 136 by omega) (v := X.1 17 (3 * i + 1)) (congrFun (hF.1 17 (ni_1 hne)) _) d_Samples_fillUniform_28 ?_
        refine lv_bipush (v := nI (8)) hx hb d_Samples_fillUniform_29 (by decide) ?_
        refine lv_ishl hx hb d_Samples_fillUniform_31 ?_
        refine lv_ior hx hb d_Samples_fillUniform_32 ?_
        refine lv_aload_n hx hb d_Samples_fillUniform_33 rfl (lv_at hl 0 rfl) ?_
        refine lv_iload hx hb d_Samples_fillUniform_34 (lv_at hl 4 rfl) ?_
        refine lv_iconst (v := nI (2)) hx hb d_Samples_fillUniform_36 (by decide) ?_
        refine lv_iadd hx hb d_Samples_fillUniform_37 ?_
        refine g_topi (y := nI ((3 * i) + 2)) (nI_add _ _) ?_
        refine g_iald hx hb hE hG 17 (by decide) ((3 * i) + 2) (rfl) (show _ < 136 by omega) (v := X.1 17 (3 * i + 2)) (congrFun (hF.1 17 (ni_1 hne)) _) d_Samples_fillUniform_38 ?_
        refine lv_bipush (v := nI (127)) hx hb d_Samples_fillUniform_39 (by decide) ?_
        refine lv_iand hx hb d_Samples_fillUniform_41 ?_
        refine lv_bipush (v := nI (16)) hx hb d_Samples_fillUniform_42 (by decide) ?_
        refine lv_ishl hx hb d_Samples_fillUniform_44 ?_
        refine lv_ior hx hb d_Samples_fillUniform_45 ?_
        refine g_topi (y := unN (X.1 17) i) (rfl) ?_
        refine lv_istore (lv' := [(5, .int (unN (X.1 17) i)), (0, .ref (g_ad V 17)), (1, .ref (g_ad V kr)), (2, .int (nI (fm))), (3, .int (nI ((selN (unO (X.1 17)) (unN (X.1 17)) i).1))), (4, .int (nI (3 * i)))]) hx hb d_Samples_fillUniform_46 hl (by decide) rfl (fun ls hl => ?_)
        refine lv_iload hx hb d_Samples_fillUniform_48 (lv_at hl 0 rfl) ?_
        refine lv_ldc (v := nI (8380417)) hx hb hown (hts _ (List.mem_cons_of_mem _ kw_289)) d_Samples_fillUniform_50 ?_
        refine lv_icmp_ge (tgt := 65) hx hb d_Samples_fillUniform_52 (by decide) (fun c52 => ?_) (fun c52 => ?_)
        · have e1 : selN (unO (X.1 17)) (unN (X.1 17)) (i + 1) = (selN (unO (X.1 17)) (unN (X.1 17)) i) := selN_n (fun q => absurd (of_decide_eq_true q.2) (Int32.not_lt.mpr c52))
          refine lv_iinc (v := nI (3 * (i + 1))) (lv' := [(4, .int (nI (3 * (i + 1)))), (5, .int (unN (X.1 17) i)), (0, .ref (g_ad V 17)), (1, .ref (g_ad V kr)), (2, .int (nI (fm))), (3, .int (nI ((selN (unO (X.1 17)) (unN (X.1 17)) i).1)))]) hx hb d_Samples_fillUniform_65 hl (k := 5) rfl (by rw [Nat.mul_add]; exact nI_add (3 * i) 3) (by decide) rfl (fun ls hl => ?_)
          refine lv_goto (tgt := 5) hx hb d_Samples_fillUniform_68 (by decide) ?_
          exact ih5 (i + 1) (by omega) X1 _ _ ls hF (by rw [e1]; exact hC) hG (by rw [e1]; exact lv_sub hl [2, 3, 4, 5, 0] rfl)
        · have e1 := selN_y (ok := unO (X.1 17)) (val := unN (X.1 17)) (i := i) (by omega) (decide_eq_true (Int32.not_le.mp c52))
          refine lv_aload_n hx hb d_Samples_fillUniform_55 rfl (lv_at hl 2 rfl) ?_
          refine lv_iload_n hx hb d_Samples_fillUniform_56 rfl (lv_at hl 3 rfl) ?_
          refine lv_iload_n hx hb d_Samples_fillUniform_57 rfl (lv_at hl 4 rfl) ?_
          refine lv_iadd hx hb d_Samples_fillUniform_58 ?_
          refine g_topi (y := nI (fm + ((selN (unO (X.1 17)) (unN (X.1 17)) i).1))) (nI_add _ _) ?_
          refine lv_iload hx hb d_Samples_fillUniform_59 (lv_at hl 0 rfl) ?_
          refine g_iast (x := unN (X.1 17) i) hx hb hE hG kr (by omega) (fm + ((selN (unO (X.1 17)) (unN (X.1 17)) i).1)) (rfl) (by omega) d_Samples_fillUniform_61 (fun H locs hG => ?_)
          refine lv_iinc (v := nI ((selN (unO (X.1 17)) (unN (X.1 17)) i).1 + 1)) (lv' := [(3, .int (nI ((selN (unO (X.1 17)) (unN (X.1 17)) i).1 + 1))), (5, .int (unN (X.1 17) i)), (0, .ref (g_ad V 17)), (1, .ref (g_ad V kr)), (2, .int (nI (fm))), (4, .int (nI (3 * i)))]) hx hb d_Samples_fillUniform_62 hl (k := 4) rfl (g_inc _) (by decide) rfl (fun ls hl => ?_)
          refine lv_iinc (v := nI (3 * (i + 1))) (lv' := [(4, .int (nI (3 * (i + 1)))), (3, .int (nI ((selN (unO (X.1 17)) (unN (X.1 17)) i).1 + 1))), (5, .int (unN (X.1 17) i)), (0, .ref (g_ad V 17)), (1, .ref (g_ad V kr)), (2, .int (nI (fm)))]) hx hb d_Samples_fillUniform_65 hl (k := 5) rfl (by rw [Nat.mul_add]; exact nI_add (3 * i) 3) (by decide) rfl (fun ls hl => ?_)
          refine lv_goto (tgt := 5) hx hb d_Samples_fillUniform_68 (by decide) ?_
          exact ih5 (i + 1) (by omega) (uI X1 kr (upd (X1.1 kr) (fm + ((selN (unO (X.1 17)) (unN (X.1 17)) i).1)) (unN (X.1 17) i))) _ _ ls (fr_i hF _ List.mem_cons_self) (by rw [uI_s, hC, e1]; exact seg_u _ _ _ _ _) hG (by rw [e1]; exact lv_sub hl [3, 4, 5, 1, 0] rfl)
  exact K5 (45 - 0) 0 (by omega) X _ _ ls (fr_rf X _ _ _) (seg_0 _ _ _).symm hG (lv_sub hl [2, 3, 4, 1, 0] rfl)

set_option maxHeartbeats 4000000 in
set_option maxRecDepth 100000 in
theorem c_fillSmall (l : Launch) (V : Ev) (X : Mm) (kr : Nat) (hkr : 17 ≤ kr ∧ kr < 80) (hne : (17 : Nat) ≠ kr) (fm : Nat) (hfm : fm + 16 ≤ g_len kr) : Met l y_Samples_fillSmall (Cond.code y_Samples_fillSmall b_Samples_fillSmall 6 none :: WA) ({ frames := 1, cells := 0, slots := 0, locals := 24 } : Room) (g_Pc V X [.ref (g_ad V 17), .ref (g_ad V kr), .int (nI (fm))]) (g_Qv V (fun X1 : Mm => X1.1 kr = seg (smP (X.1 17)) (X.1 kr) fm 16 ∧ fr X X1 [kr] [] [])) 0 0 (g_A V) := by
  refine g_met (by decide) (Nat.le_of_ble_eq_true rfl) ?_
  intro p e s m below meth c hx hb hr hml hown hts hlocks hE hG ls hl
  have hl : lv_has ls 6 [(0, .ref (g_ad V 17)), (1, .ref (g_ad V kr)), (2, .int (nI (fm)))] := hl
  have hown : s.vm.findClass R_Samples = some m.cls := hown
  have hlen := g_len_le kr
  refine lv_iconst (v := nI (0)) hx hb d_Samples_fillSmall_0 (by decide) ?_
  refine lv_istore_n (lv' := [(3, .int (nI (0))), (0, .ref (g_ad V 17)), (1, .ref (g_ad V kr)), (2, .int (nI (fm)))]) hx hb d_Samples_fillSmall_1 rfl hl (by decide) rfl (fun ls hl => ?_)
  refine lv_iconst (v := nI (0)) hx hb d_Samples_fillSmall_2 (by decide) ?_
  refine lv_istore (lv' := [(4, .int (nI (0))), (3, .int (nI (0))), (0, .ref (g_ad V 17)), (1, .ref (g_ad V kr)), (2, .int (nI (fm)))]) hx hb d_Samples_fillSmall_3 hl (by decide) rfl (fun ls hl => ?_)
  have K5 : ∀ (n i : Nat), i + n = 128 → ∀ (X1 : Mm) (H : Heap) (locs : List Loc), ∀ (ls : Array Slot), (fr X X1 [kr] [] []) → (X1.1 kr = seg (selN (smO (X.1 17)) (smV (X.1 17)) i).2 (X.1 kr) fm (selN (smO (X.1 17)) (smV (X.1 17)) i).1) → g_st V X1 s.heap H locs → lv_has ls 6 [(0, .ref (g_ad V 17)), (1, .ref (g_ad V kr)), (2, .int (nI (fm))), (3, .int (nI ((selN (smO (X.1 17)) (smV (X.1 17)) i).1))), (4, .int (nI (i)))] → W p l e ({ frames := 1, cells := 0, slots := 0, locals := 24 } : Room) s m ([.ref (g_ad V 17), .ref (g_ad V kr), .int (nI (fm))] : List Value).toArray below meth c H locs 0 0 (MQ below (g_Qv V (fun X1 : Mm => X1.1 kr = seg (smP (X.1 17)) (X.1 kr) fm 16 ∧ fr X X1 [kr] [] [])) ([.ref (g_ad V 17), .ref (g_ad V kr), .int (nI (fm))] : List Value).toArray s 0 0 (g_A V)) (F0 m 5 ls []) := by
    intro n
    induction n with
    | zero =>
      intro i hin5 X1 H locs ls hF hC hG hl
      have hi5 : 128 = i := by omega
      subst hi5
      have hle := selN_le (smO (X.1 17)) (smV (X.1 17)) 128
      have e45 : selN (smO (X.1 17)) (smV (X.1 17)) 128 = selN (smO (X.1 17)) (smV (X.1 17)) 128 := rfl
      refine lv_iload hx hb d_Samples_fillSmall_5 (lv_at hl 4 rfl) ?_
      refine lv_sipush (v := nI (128)) hx hb d_Samples_fillSmall_7 (by decide) ?_
      refine lv_icmp_ge (tgt := 64) hx hb d_Samples_fillSmall_10 (by decide) (fun _ => ?_) (fun q => absurd ((g_geN (x := 128) (y := 128) (by omega) (by omega)).mp q) (by omega))
      refine lv_aload_n hx hb d_Samples_fillSmall_64 rfl (lv_at hl 1 rfl) ?_
      refine lv_iload_n hx hb d_Samples_fillSmall_65 rfl (lv_at hl 2 rfl) ?_
      refine lv_iload_n hx hb d_Samples_fillSmall_66 rfl (lv_at hl 3 rfl) ?_
      refine lv_bipush (v := nI (16)) hx hb d_Samples_fillSmall_67 (by decide) ?_
      refine g_callv (va_runSN (As := [.ref (g_ad V kr), .int (nI (fm)), .int (nI ((selN (smO (X.1 17)) (smV (X.1 17)) 128).1)), .int (nI (16))]) (rest := []) ⟨hx, hb, hml, hown, hts⟩ (c_clearRest l V X1 kr hkr fm (selN (smO (X.1 17)) (smV (X.1 17)) 128).1 16 hle (by omega) (selN (smO (X.1 17)) (smV (X.1 17)) 128).2 (X.1 kr) hC (fun j hj => selN_z _ _ _ j hj)) ⟨va_cnB 4 hts (g_good kw_292) rfl rfl rfl (hE.2.1 _ nm_Samples_52) (hts _ (List.mem_cons_of_mem _ kw_1)) (by decide +kernel) ⟨Nat.le_of_ble_eq_true rfl, Nat.le_of_ble_eq_true rfl⟩, hts _ (List.mem_cons_of_mem _ kw_291), trivial⟩ (g_preS hE hG) rfl rfl hl.1 rfl (lv_room (Nat.le_of_ble_eq_true rfl)) d_Samples_fillSmall_69 ⟨Nat.le_refl 0, Nat.le_refl 0⟩) hG (fun X9 H locs q9 hG => ?_)
      exact g_vret hx hb hr hlocks hE hG (⟨by rw [q9.1]; unfold smP; rw [e45], fr_tr hF q9.2⟩) d_Samples_fillSmall_72
    | succ n ih5 =>
      intro i hin5 X1 H locs ls hF hC hG hl
      have hi5 : i < 128 := by omega
      have hle := selN_le (smO (X.1 17)) (smV (X.1 17)) i
      refine lv_iload hx hb d_Samples_fillSmall_5 (lv_at hl 4 rfl) ?_
      refine lv_sipush (v := nI (128)) hx hb d_Samples_fillSmall_7 (by decide) ?_
      refine lv_icmp_ge (tgt := 64) hx hb d_Samples_fillSmall_10 (by decide) (fun q => absurd ((g_ge (x := i) (y := 128) (by omega) (by omega)).mp q) (by omega)) (fun _ => ?_)
      refine lv_iload_n hx hb d_Samples_fillSmall_13 rfl (lv_at hl 3 rfl) ?_
      refine lv_bipush (v := nI (16)) hx hb d_Samples_fillSmall_14 (by decide) ?_
      refine lv_icmp_ge (tgt := 64) hx hb d_Samples_fillSmall_16 (by decide) (fun c16 => ?_) (fun c16 => ?_)
      · have c16 := (g_ge (x := (selN (smO (X.1 17)) (smV (X.1 17)) i).1) (y := 16) (by omega) (by omega)).mp c16
        have e45 : selN (smO (X.1 17)) (smV (X.1 17)) 128 = (selN (smO (X.1 17)) (smV (X.1 17)) i) := by
          rw [show 128 = i + (128 - i) by omega]
          exact selN_full (by omega) _
        refine lv_aload_n hx hb d_Samples_fillSmall_64 rfl (lv_at hl 1 rfl) ?_
        refine lv_iload_n hx hb d_Samples_fillSmall_65 rfl (lv_at hl 2 rfl) ?_
        refine lv_iload_n hx hb d_Samples_fillSmall_66 rfl (lv_at hl 3 rfl) ?_
        refine lv_bipush (v := nI (16)) hx hb d_Samples_fillSmall_67 (by decide) ?_
        refine g_callv (va_runSN (As := [.ref (g_ad V kr), .int (nI (fm)), .int (nI ((selN (smO (X.1 17)) (smV (X.1 17)) i).1)), .int (nI (16))]) (rest := []) ⟨hx, hb, hml, hown, hts⟩ (c_clearRest l V X1 kr hkr fm (selN (smO (X.1 17)) (smV (X.1 17)) i).1 16 hle (by omega) (selN (smO (X.1 17)) (smV (X.1 17)) i).2 (X.1 kr) hC (fun j hj => selN_z _ _ _ j hj)) ⟨va_cnB 4 hts (g_good kw_292) rfl rfl rfl (hE.2.1 _ nm_Samples_52) (hts _ (List.mem_cons_of_mem _ kw_1)) (by decide +kernel) ⟨Nat.le_of_ble_eq_true rfl, Nat.le_of_ble_eq_true rfl⟩, hts _ (List.mem_cons_of_mem _ kw_291), trivial⟩ (g_preS hE hG) rfl rfl hl.1 rfl (lv_room (Nat.le_of_ble_eq_true rfl)) d_Samples_fillSmall_69 ⟨Nat.le_refl 0, Nat.le_refl 0⟩) hG (fun X9 H locs q9 hG => ?_)
        exact g_vret hx hb hr hlocks hE hG (⟨by rw [q9.1]; unfold smP; rw [e45], fr_tr hF q9.2⟩) d_Samples_fillSmall_72
      · have c16 := (g_geN (x := (selN (smO (X.1 17)) (smV (X.1 17)) i).1) (y := 16) (by omega) (by omega)).mp c16
        refine lv_aload_n hx hb d_Samples_fillSmall_19 rfl (lv_at hl 0 rfl) ?_
        refine lv_iload hx hb d_Samples_fillSmall_20 (lv_at hl 4 rfl) ?_
        refine lv_iconst (v := nI (2)) hx hb d_Samples_fillSmall_22 (by decide) ?_
        refine lv_idiv hx hb d_Samples_fillSmall_23 (by decide) ?_
        refine g_topi (y := nI (i / 2)) (pk_div (by omega) (by omega) (by omega)) ?_
        refine g_iald hx hb hE hG 17 (by decide) (i / 2) (rfl) (show _ < 136 by omega) (v := X.1 17 (i / 2)) (congrFun (hF.1 17 (ni_1 hne)) _) d_Samples_fillSmall_24 ?_
        refine lv_iconst (v := nI (4)) hx hb d_Samples_fillSmall_25 (by decide) ?_
        refine lv_iload hx hb d_Samples_fillSmall_26 (lv_at hl 4 rfl) ?_
        refine lv_iconst (v := nI (2)) hx hb d_Samples_fillSmall_28 (by decide) ?_
        refine lv_irem hx hb d_Samples_fillSmall_29 (by decide) ?_
        refine g_topi (y := nI (i % 2)) (pk_rem (by omega) (by omega) (by omega)) ?_
        refine lv_imul hx hb d_Samples_fillSmall_30 ?_
        refine g_topi (y := nI (4 * (i % 2))) (pk_mul _ _) ?_
        refine lv_ishr hx hb d_Samples_fillSmall_31 ?_
        refine lv_bipush (v := nI (15)) hx hb d_Samples_fillSmall_32 (by decide) ?_
        refine lv_iand hx hb d_Samples_fillSmall_34 ?_
        refine g_topi (y := smN (X.1 17) i) (rfl) ?_
        refine lv_istore (lv' := [(5, .int (smN (X.1 17) i)), (0, .ref (g_ad V 17)), (1, .ref (g_ad V kr)), (2, .int (nI (fm))), (3, .int (nI ((selN (smO (X.1 17)) (smV (X.1 17)) i).1))), (4, .int (nI (i)))]) hx hb d_Samples_fillSmall_35 hl (by decide) rfl (fun ls hl => ?_)
        refine lv_iload hx hb d_Samples_fillSmall_37 (lv_at hl 0 rfl) ?_
        refine lv_bipush (v := nI (15)) hx hb d_Samples_fillSmall_39 (by decide) ?_
        refine lv_icmp_eq (tgt := 58) hx hb d_Samples_fillSmall_41 (by decide) (fun c41 => ?_) (fun c41 => ?_)
        · have e1 : selN (smO (X.1 17)) (smV (X.1 17)) (i + 1) = (selN (smO (X.1 17)) (smV (X.1 17)) i) := selN_n (fun q => absurd c41 (of_decide_eq_true q.2))
          refine lv_iinc (v := nI (i + 1)) (lv' := [(4, .int (nI (i + 1))), (5, .int (smN (X.1 17) i)), (0, .ref (g_ad V 17)), (1, .ref (g_ad V kr)), (2, .int (nI (fm))), (3, .int (nI ((selN (smO (X.1 17)) (smV (X.1 17)) i).1)))]) hx hb d_Samples_fillSmall_58 hl (k := 5) rfl (g_inc _) (by decide) rfl (fun ls hl => ?_)
          refine lv_goto (tgt := 5) hx hb d_Samples_fillSmall_61 (by decide) ?_
          exact ih5 (i + 1) (by omega) X1 _ _ ls hF (by rw [e1]; exact hC) hG (by rw [e1]; exact lv_sub hl [2, 3, 4, 5, 0] rfl)
        · have e1 := selN_y (ok := smO (X.1 17)) (val := smV (X.1 17)) (i := i) (by omega) (decide_eq_true c41)
          refine lv_aload_n hx hb d_Samples_fillSmall_44 rfl (lv_at hl 2 rfl) ?_
          refine lv_iload_n hx hb d_Samples_fillSmall_45 rfl (lv_at hl 3 rfl) ?_
          refine lv_iload_n hx hb d_Samples_fillSmall_46 rfl (lv_at hl 4 rfl) ?_
          refine lv_iadd hx hb d_Samples_fillSmall_47 ?_
          refine g_topi (y := nI (fm + ((selN (smO (X.1 17)) (smV (X.1 17)) i).1))) (nI_add _ _) ?_
          refine lv_iconst (v := nI (2)) hx hb d_Samples_fillSmall_48 (by decide) ?_
          refine lv_iload hx hb d_Samples_fillSmall_49 (lv_at hl 0 rfl) ?_
          refine lv_iconst (v := nI (5)) hx hb d_Samples_fillSmall_51 (by decide) ?_
          refine lv_irem hx hb d_Samples_fillSmall_52 (by decide) ?_
          refine lv_isub hx hb d_Samples_fillSmall_53 ?_
          refine g_topi (y := smV (X.1 17) i) (rfl) ?_
          refine g_iast (x := smV (X.1 17) i) hx hb hE hG kr (by omega) (fm + ((selN (smO (X.1 17)) (smV (X.1 17)) i).1)) (rfl) (by omega) d_Samples_fillSmall_54 (fun H locs hG => ?_)
          refine lv_iinc (v := nI ((selN (smO (X.1 17)) (smV (X.1 17)) i).1 + 1)) (lv' := [(3, .int (nI ((selN (smO (X.1 17)) (smV (X.1 17)) i).1 + 1))), (5, .int (smN (X.1 17) i)), (0, .ref (g_ad V 17)), (1, .ref (g_ad V kr)), (2, .int (nI (fm))), (4, .int (nI (i)))]) hx hb d_Samples_fillSmall_55 hl (k := 4) rfl (g_inc _) (by decide) rfl (fun ls hl => ?_)
          refine lv_iinc (v := nI (i + 1)) (lv' := [(4, .int (nI (i + 1))), (3, .int (nI ((selN (smO (X.1 17)) (smV (X.1 17)) i).1 + 1))), (5, .int (smN (X.1 17) i)), (0, .ref (g_ad V 17)), (1, .ref (g_ad V kr)), (2, .int (nI (fm)))]) hx hb d_Samples_fillSmall_58 hl (k := 5) rfl (g_inc _) (by decide) rfl (fun ls hl => ?_)
          refine lv_goto (tgt := 5) hx hb d_Samples_fillSmall_61 (by decide) ?_
          exact ih5 (i + 1) (by omega) (uI X1 kr (upd (X1.1 kr) (fm + ((selN (smO (X.1 17)) (smV (X.1 17)) i).1)) (smV (X.1 17) i))) _ _ ls (fr_i hF _ List.mem_cons_self) (by rw [uI_s, hC, e1]; exact seg_u _ _ _ _ _) hG (by rw [e1]; exact lv_sub hl [3, 4, 5, 1, 0] rfl)
  exact K5 (128 - 0) 0 (by omega) X _ _ ls (fr_rf X _ _ _) (seg_0 _ _ _).symm hG (lv_sub hl [2, 3, 4, 1, 0] rfl)

set_option maxHeartbeats 4000000 in
set_option maxRecDepth 100000 in
theorem c_fillWide (l : Launch) (V : Ev) (X : Mm) (kr : Nat) (hkr : 17 ≤ kr ∧ kr < 80) (hne : (17 : Nat) ≠ kr) (fm : Nat) (hfm : fm + 16 ≤ g_len kr) : Met l y_Samples_fillWide (Cond.code y_Samples_fillWide b_Samples_fillWide 4 none :: WA) ({ frames := 1, cells := 0, slots := 0, locals := 26 } : Room) (g_Pc V X [.ref (g_ad V 17), .ref (g_ad V kr), .int (nI (fm))]) (g_Qv V (fun X1 : Mm => X1.1 kr = seg (wdP (X.1 17)) (X.1 kr) fm 16 ∧ fr X X1 [kr] [] [])) 0 0 (g_A V) := by
  refine g_met (by decide) (Nat.le_of_ble_eq_true rfl) ?_
  intro p e s m below meth c hx hb hr hml hown hts hlocks hE hG ls hl
  have hl : lv_has ls 4 [(0, .ref (g_ad V 17)), (1, .ref (g_ad V kr)), (2, .int (nI (fm)))] := hl
  have hown : s.vm.findClass R_Samples = some m.cls := hown
  have hlen := g_len_le kr
  refine lv_iconst (v := nI (0)) hx hb d_Samples_fillWide_0 (by decide) ?_
  refine lv_istore_n (lv' := [(3, .int (nI (0))), (0, .ref (g_ad V 17)), (1, .ref (g_ad V kr)), (2, .int (nI (fm)))]) hx hb d_Samples_fillWide_1 rfl hl (by decide) rfl (fun ls hl => ?_)
  have K2 : ∀ (n i : Nat), i + n = 16 → ∀ (X1 : Mm) (H : Heap) (locs : List Loc), ∀ (ls : Array Slot), (fr X X1 [kr] [] []) → (X1.1 kr = seg (wdP (X.1 17)) (X.1 kr) fm i) → g_st V X1 s.heap H locs → lv_has ls 4 [(0, .ref (g_ad V 17)), (1, .ref (g_ad V kr)), (2, .int (nI (fm))), (3, .int (nI (i)))] → W p l e ({ frames := 1, cells := 0, slots := 0, locals := 26 } : Room) s m ([.ref (g_ad V 17), .ref (g_ad V kr), .int (nI (fm))] : List Value).toArray below meth c H locs 0 0 (MQ below (g_Qv V (fun X1 : Mm => X1.1 kr = seg (wdP (X.1 17)) (X.1 kr) fm 16 ∧ fr X X1 [kr] [] [])) ([.ref (g_ad V 17), .ref (g_ad V kr), .int (nI (fm))] : List Value).toArray s 0 0 (g_A V)) (F0 m 2 ls []) := by
    intro n
    induction n with
    | zero =>
      intro i hin2 X1 H locs ls hF hC hG hl
      have hi2 : 16 = i := by omega
      subst hi2
      refine lv_iload_n hx hb d_Samples_fillWide_2 rfl (lv_at hl 3 rfl) ?_
      refine lv_bipush (v := nI (16)) hx hb d_Samples_fillWide_3 (by decide) ?_
      refine lv_icmp_ge (tgt := 31) hx hb d_Samples_fillWide_5 (by decide) (fun _ => ?_) (fun q => absurd ((g_geN (x := 16) (y := 16) (by omega) (by omega)).mp q) (by omega))
      exact g_vret hx hb hr hlocks hE hG (⟨hC, hF⟩) d_Samples_fillWide_31
    | succ n ih2 =>
      intro i hin2 X1 H locs ls hF hC hG hl
      have hi2 : i < 16 := by omega
      refine lv_iload_n hx hb d_Samples_fillWide_2 rfl (lv_at hl 3 rfl) ?_
      refine lv_bipush (v := nI (16)) hx hb d_Samples_fillWide_3 (by decide) ?_
      refine lv_icmp_ge (tgt := 31) hx hb d_Samples_fillWide_5 (by decide) (fun q => absurd ((g_ge (x := i) (y := 16) (by omega) (by omega)).mp q) (by omega)) (fun _ => ?_)
      refine lv_aload_n hx hb d_Samples_fillWide_8 rfl (lv_at hl 1 rfl) ?_
      refine lv_iload_n hx hb d_Samples_fillWide_9 rfl (lv_at hl 2 rfl) ?_
      refine lv_iload_n hx hb d_Samples_fillWide_10 rfl (lv_at hl 3 rfl) ?_
      refine lv_iadd hx hb d_Samples_fillWide_11 ?_
      refine g_topi (y := nI (fm + i)) (nI_add _ _) ?_
      refine lv_sipush (v := nI (512)) hx hb d_Samples_fillWide_12 (by decide) ?_
      refine lv_aload_n hx hb d_Samples_fillWide_15 rfl (lv_at hl 0 rfl) ?_
      refine lv_iconst (v := nI (0)) hx hb d_Samples_fillWide_16 (by decide) ?_
      refine lv_iload_n hx hb d_Samples_fillWide_17 rfl (lv_at hl 3 rfl) ?_
      refine lv_bipush (v := nI (10)) hx hb d_Samples_fillWide_18 (by decide) ?_
      refine g_calli (va_runS (As := [.ref (g_ad V 17), .int (nI (0)), .int (nI (i)), .int (nI (10))]) (rest := [.int (nI (512)), .int (nI (fm + i)), .ref (g_ad V kr)]) ⟨hx, hb, hml, hown, hts⟩ (c_read l V X1 17 (by decide) 0 i 10 (by omega) (by show 8 * 0 + i * 10 + 10 ≤ 8 * 136; omega)) (va_cwS 4 hts (g_goodS kw_389 kw_387 kw_388 kw_15) rfl rfl rfl (by decide +kernel) ⟨Nat.le_of_ble_eq_true rfl, Nat.le_of_ble_eq_true rfl⟩) (g_preS hE hG) rfl rfl hl.1 rfl (lv_room (Nat.le_of_ble_eq_true rfl)) d_Samples_fillWide_20 ⟨Nat.le_refl 0, Nat.le_refl 0⟩) hG (fun r3 X1 H locs q0 hG => ?_)
      obtain ⟨q0, rfl⟩ := q0
      refine g_topi (y := rdN (X.1 17) 0 (i * 10) 10) (by rw [q0, hF.1 17 (ni_1 hne)]) ?_
      refine lv_isub hx hb d_Samples_fillWide_23 ?_
      refine g_topi (y := wdP (X.1 17) i) (rfl) ?_
      refine g_iast (x := wdP (X.1 17) i) hx hb hE hG kr (by omega) (fm + i) (rfl) (by omega) d_Samples_fillWide_24 (fun H locs hG => ?_)
      refine lv_iinc (v := nI (i + 1)) (lv' := [(3, .int (nI (i + 1))), (0, .ref (g_ad V 17)), (1, .ref (g_ad V kr)), (2, .int (nI (fm)))]) hx hb d_Samples_fillWide_25 hl (k := 3) rfl (g_inc _) (by decide) rfl (fun ls hl => ?_)
      refine lv_goto (tgt := 2) hx hb d_Samples_fillWide_28 (by decide) ?_
      exact ih2 (i + 1) (by omega) (uI X1 kr (upd (X1.1 kr) (fm + i) (wdP (X.1 17) i))) _ _ ls (fr_i hF _ List.mem_cons_self) (by rw [uI_s, hC]; exact seg_s _ _ _ _) hG (lv_sub hl [1, 2, 3, 0] rfl)
  exact K2 (16 - 0) 0 (by omega) X _ _ ls (fr_rf X _ _ _) (seg_0 _ _ _).symm hG (lv_sub hl [1, 2, 3, 0] rfl)

set_option maxHeartbeats 4000000 in
set_option maxRecDepth 100000 in
theorem c_fillSigns (l : Launch) (V : Ev) (X : Mm) (kp : Nat) (hkp : 17 ≤ kp ∧ kp < 80) (hne : (17 : Nat) ≠ kp) (hlp : g_len kp = 16) : Met l y_Samples_fillSigns (Cond.code y_Samples_fillSigns b_Samples_fillSigns 5 none :: WA) ({ frames := 1, cells := 0, slots := 0, locals := 23 } : Room) (g_Pc V X [.ref (g_ad V 17), .ref (g_ad V kp)]) (g_Qv V (fun X1 : Mm => X1.1 kp = blP (X.1 17) ∧ fr X X1 [kp] [] [])) 0 0 (g_A V) := by
  refine g_met (by decide) (Nat.le_of_ble_eq_true rfl) ?_
  intro p e s m below meth c hx hb hr hml hown hts hlocks hE hG ls hl
  have hl : lv_has ls 5 [(0, .ref (g_ad V 17)), (1, .ref (g_ad V kp))] := hl
  have hown : s.vm.findClass R_Samples = some m.cls := hown
  refine lv_aload_n hx hb d_Samples_fillSigns_0 rfl (lv_at hl 1 rfl) ?_
  refine lv_iconst (v := nI (0)) hx hb d_Samples_fillSigns_1 (by decide) ?_
  refine g_callv (va_runS (As := [.ref (g_ad V kp), .int (nI (0))]) (rest := []) ⟨hx, hb, hml, hown, hts⟩ (c_fillI l V X kp hkp (nI 0)) (va_cwS 2 hts (g_goodS kw_416 kw_414 kw_415 kw_9) rfl rfl rfl (by decide +kernel) ⟨Nat.le_of_ble_eq_true rfl, Nat.le_of_ble_eq_true rfl⟩) (g_preS hE hG) rfl rfl hl.1 rfl (lv_room (Nat.le_of_ble_eq_true rfl)) d_Samples_fillSigns_2 ⟨Nat.le_refl 0, Nat.le_refl 0⟩) hG (fun X0 H locs q0 hG => ?_)
  refine lv_iconst (v := nI (1)) hx hb d_Samples_fillSigns_5 (by decide) ?_
  refine lv_istore_n (lv' := [(2, .int (nI (1))), (0, .ref (g_ad V 17)), (1, .ref (g_ad V kp))]) hx hb d_Samples_fillSigns_6 rfl hl (by decide) rfl (fun ls hl => ?_)
  refine lv_bipush (v := nI (12)) hx hb d_Samples_fillSigns_7 (by decide) ?_
  refine lv_istore_n (lv' := [(3, .int (nI (12))), (2, .int (nI (1))), (0, .ref (g_ad V 17)), (1, .ref (g_ad V kp))]) hx hb d_Samples_fillSigns_9 rfl hl (by decide) rfl (fun ls hl => ?_)
  have K10 : ∀ (n t : Nat), t + n = 4 → ∀ (X1 : Mm) (H : Heap) (locs : List Loc), ∀ (ls : Array Slot), (fr X X1 [kp] [] []) → (X1.1 kp = (blN (X.1 17) t).2) → g_st V X1 s.heap H locs → lv_has ls 5 [(0, .ref (g_ad V 17)), (1, .ref (g_ad V kp)), (2, .int (nI ((blN (X.1 17) t).1))), (3, .int (nI (12 + t)))] → W p l e ({ frames := 1, cells := 0, slots := 0, locals := 23 } : Room) s m ([.ref (g_ad V 17), .ref (g_ad V kp)] : List Value).toArray below meth c H locs 0 0 (MQ below (g_Qv V (fun X1 : Mm => X1.1 kp = blP (X.1 17) ∧ fr X X1 [kp] [] [])) ([.ref (g_ad V 17), .ref (g_ad V kp)] : List Value).toArray s 0 0 (g_A V)) (F0 m 10 ls []) := by
    intro n
    induction n with
    | zero =>
      intro t hin10 X1 H locs ls hF hC hG hl
      have hi10 : 4 = t := by omega
      subst hi10
      refine lv_iload_n hx hb d_Samples_fillSigns_10 rfl (lv_at hl 3 rfl) ?_
      refine lv_bipush (v := nI (16)) hx hb d_Samples_fillSigns_11 (by decide) ?_
      refine lv_icmp_ge (tgt := 95) hx hb d_Samples_fillSigns_13 (by decide) (fun _ => ?_) (fun q => absurd ((g_geN (x := 12 + 4) (y := 16) (by omega) (by omega)).mp q) (by omega))
      exact g_vret hx hb hr hlocks hE hG (⟨hC, hF⟩) d_Samples_fillSigns_95
    | succ n ih10 =>
      intro t hin10 X1 H locs ls hF hC hG hl
      have hi10 : t < 4 := by omega
      have hbl := blN_le (X.1 17) t
      have es : X1.1 17 = X.1 17 := hF.1 17 (ni_1 hne)
      refine lv_iload_n hx hb d_Samples_fillSigns_10 rfl (lv_at hl 3 rfl) ?_
      refine lv_bipush (v := nI (16)) hx hb d_Samples_fillSigns_11 (by decide) ?_
      refine lv_icmp_ge (tgt := 95) hx hb d_Samples_fillSigns_13 (by decide) (fun q => absurd ((g_ge (x := 12 + t) (y := 16) (by omega) (by omega)).mp q) (by omega)) (fun _ => ?_)
      have K38 : ∀ (q : Nat), ∀ (ls : Array Slot), (q = (sk (X.1 17) (12 + t) (blN (X.1 17) t).1)) → (q ≤ 40) → lv_has ls 5 [(0, .ref (g_ad V 17)), (1, .ref (g_ad V kp)), (2, .int (nI (q))), (3, .int (nI (12 + t)))] → W p l e ({ frames := 1, cells := 0, slots := 0, locals := 23 } : Room) s m ([.ref (g_ad V 17), .ref (g_ad V kp)] : List Value).toArray below meth c H locs 0 0 (MQ below (g_Qv V (fun X1 : Mm => X1.1 kp = blP (X.1 17) ∧ fr X X1 [kp] [] [])) ([.ref (g_ad V 17), .ref (g_ad V kp)] : List Value).toArray s 0 0 (g_A V)) (F0 m 38 ls []) := by
        intro q ls hq hq4 hl
        have hj4 := lo4_lt (X.1 17 q)
        refine lv_iload_n hx hb d_Samples_fillSigns_38 rfl (lv_at hl 2 rfl) ?_
        refine lv_bipush (v := nI (33)) hx hb d_Samples_fillSigns_39 (by decide) ?_
        refine lv_icmp_ge (tgt := 53) hx hb d_Samples_fillSigns_41 (by decide) (fun c41 => ?_) (fun c41 => ?_)
        · have c41 := (g_ge (x := q) (y := 33) (by omega) (by omega)).mp c41
          refine lv_iconst (v := nI (0)) hx hb d_Samples_fillSigns_53 (by decide) ?_
          refine lv_istore (lv' := [(4, .int (nI (0))), (0, .ref (g_ad V 17)), (1, .ref (g_ad V kp)), (2, .int (nI (q))), (3, .int (nI (12 + t)))]) hx hb d_Samples_fillSigns_54 hl (by decide) rfl (fun ls hl => ?_)
          refine lv_iinc (v := nI (q + 1)) (lv' := [(2, .int (nI (q + 1))), (4, .int (nI (0))), (0, .ref (g_ad V 17)), (1, .ref (g_ad V kp)), (3, .int (nI (12 + t)))]) hx hb d_Samples_fillSigns_56 hl (k := 3) rfl (g_inc _) (by decide) rfl (fun ls hl => ?_)
          refine lv_aload_n hx hb d_Samples_fillSigns_59 rfl (lv_at hl 3 rfl) ?_
          refine lv_iload_n hx hb d_Samples_fillSigns_60 rfl (lv_at hl 4 rfl) ?_
          refine lv_aload_n hx hb d_Samples_fillSigns_61 rfl (lv_at hl 3 rfl) ?_
          refine lv_iload hx hb d_Samples_fillSigns_62 (lv_at hl 1 rfl) ?_
          refine g_iald hx hb hE hG kp (by omega) (0) (rfl) (by omega) (v := X1.1 kp 0) (rfl) d_Samples_fillSigns_64 ?_
          refine g_iast (x := X1.1 kp 0) hx hb hE hG kp (by omega) (12 + t) (rfl) (by omega) d_Samples_fillSigns_65 (fun H locs hG => ?_)
          refine lv_aload_n hx hb d_Samples_fillSigns_66 rfl (lv_at hl 3 rfl) ?_
          refine lv_iload hx hb d_Samples_fillSigns_67 (lv_at hl 1 rfl) ?_
          refine lv_aload_n hx hb d_Samples_fillSigns_69 rfl (lv_at hl 2 rfl) ?_
          refine lv_iconst (v := nI (0)) hx hb d_Samples_fillSigns_70 (by decide) ?_
          refine g_iald hx hb hE hG 17 (by decide) (0) (rfl) (show _ < 136 by omega) (v := X.1 17 0) ((congrFun (uI_n _ _ hne) 0).trans (congrFun es _)) d_Samples_fillSigns_71 ?_
          refine lv_iload_n hx hb d_Samples_fillSigns_72 rfl (lv_at hl 4 rfl) ?_
          refine lv_bipush (v := nI (12)) hx hb d_Samples_fillSigns_73 (by decide) ?_
          refine lv_isub hx hb d_Samples_fillSigns_75 ?_
          refine g_topi (y := nI ((12 + t) - 12)) (pk_sub (by omega)) ?_
          refine g_topi (y := nI (t)) (congrArg nI (by omega)) ?_
          refine lv_ishr hx hb d_Samples_fillSigns_76 ?_
          refine lv_iconst (v := nI (1)) hx hb d_Samples_fillSigns_77 (by decide) ?_
          refine lv_iand hx hb d_Samples_fillSigns_78 ?_
          refine lv_iconst (v := nI (1)) hx hb d_Samples_fillSigns_79 (by decide) ?_
          refine lv_icmp_ne (tgt := 87) hx hb d_Samples_fillSigns_80 (by decide) (fun c80 => ?_) (fun c80 => ?_)
          · refine lv_iconst (v := nI (1)) hx hb d_Samples_fillSigns_87 (by decide) ?_
            refine g_iast (x := nI (1)) hx hb hE hG kp (by omega) (0) (rfl) (by omega) d_Samples_fillSigns_88 (fun H locs hG => ?_)
            refine lv_iinc (v := nI (12 + (t + 1))) (lv' := [(3, .int (nI (12 + (t + 1)))), (2, .int (nI (q + 1))), (4, .int (nI (0))), (0, .ref (g_ad V 17)), (1, .ref (g_ad V kp))]) hx hb d_Samples_fillSigns_89 hl (k := 4) rfl (g_inc _) (by decide) rfl (fun ls hl => ?_)
            refine lv_goto (tgt := 10) hx hb d_Samples_fillSigns_92 (by decide) ?_
            have e1 : blN (X.1 17) (t + 1) = (sk (X.1 17) (12 + t) (blN (X.1 17) t).1 + 1, upd (upd (blN (X.1 17) t).2 (12 + t) ((blN (X.1 17) t).2 (jB (X.1 17) (sk (X.1 17) (12 + t) (blN (X.1 17) t).1)))) (jB (X.1 17) (sk (X.1 17) (12 + t) (blN (X.1 17) t).1)) (sgB (X.1 17) t)) := rfl
            rw [← hq] at e1
            exact ih10 (t + 1) (by omega) (uI (uI X1 kp (upd (X1.1 kp) (12 + t) (X1.1 kp 0))) kp (upd ((uI X1 kp (upd (X1.1 kp) (12 + t) (X1.1 kp 0))).1 kp) 0 (nI (1)))) _ _ ls (fr_i (fr_i hF _ List.mem_cons_self) _ List.mem_cons_self) (by rw [e1, uI_s, uI_s, hC]; unfold jB sgB; rw [if_neg (show ¬ q < 33 by omega), if_neg c80]) hG (by rw [e1]; exact lv_sub hl [3, 4, 1, 0] rfl)
          · refine lv_iconst (v := -1) hx hb d_Samples_fillSigns_83 (by decide) ?_
            refine lv_goto (tgt := 88) hx hb d_Samples_fillSigns_84 (by decide) ?_
            refine g_iast (x := -1) hx hb hE hG kp (by omega) (0) (rfl) (by omega) d_Samples_fillSigns_88 (fun H locs hG => ?_)
            refine lv_iinc (v := nI (12 + (t + 1))) (lv' := [(3, .int (nI (12 + (t + 1)))), (2, .int (nI (q + 1))), (4, .int (nI (0))), (0, .ref (g_ad V 17)), (1, .ref (g_ad V kp))]) hx hb d_Samples_fillSigns_89 hl (k := 4) rfl (g_inc _) (by decide) rfl (fun ls hl => ?_)
            refine lv_goto (tgt := 10) hx hb d_Samples_fillSigns_92 (by decide) ?_
            have e1 : blN (X.1 17) (t + 1) = (sk (X.1 17) (12 + t) (blN (X.1 17) t).1 + 1, upd (upd (blN (X.1 17) t).2 (12 + t) ((blN (X.1 17) t).2 (jB (X.1 17) (sk (X.1 17) (12 + t) (blN (X.1 17) t).1)))) (jB (X.1 17) (sk (X.1 17) (12 + t) (blN (X.1 17) t).1)) (sgB (X.1 17) t)) := rfl
            rw [← hq] at e1
            exact ih10 (t + 1) (by omega) (uI (uI X1 kp (upd (X1.1 kp) (12 + t) (X1.1 kp 0))) kp (upd ((uI X1 kp (upd (X1.1 kp) (12 + t) (X1.1 kp 0))).1 kp) 0 (-1))) _ _ ls (fr_i (fr_i hF _ List.mem_cons_self) _ List.mem_cons_self) (by rw [e1, uI_s, uI_s, hC]; unfold jB sgB; rw [if_neg (show ¬ q < 33 by omega), if_pos c80]) hG (by rw [e1]; exact lv_sub hl [3, 4, 1, 0] rfl)
        · have c41 := (g_geN (x := q) (y := 33) (by omega) (by omega)).mp c41
          refine lv_aload_n hx hb d_Samples_fillSigns_44 rfl (lv_at hl 0 rfl) ?_
          refine lv_iload_n hx hb d_Samples_fillSigns_45 rfl (lv_at hl 2 rfl) ?_
          refine g_iald hx hb hE hG 17 (by decide) (q) (rfl) (show _ < 136 by omega) (v := X.1 17 q) (congrFun es _) d_Samples_fillSigns_46 ?_
          refine lv_bipush (v := nI (15)) hx hb d_Samples_fillSigns_47 (by decide) ?_
          refine lv_iand hx hb d_Samples_fillSigns_49 ?_
          refine g_topi (y := nI (lo4 (X.1 17 q))) (lo4_and _) ?_
          refine lv_goto (tgt := 54) hx hb d_Samples_fillSigns_50 (by decide) ?_
          refine lv_istore (lv' := [(4, .int (nI (lo4 (X.1 17 q)))), (0, .ref (g_ad V 17)), (1, .ref (g_ad V kp)), (2, .int (nI (q))), (3, .int (nI (12 + t)))]) hx hb d_Samples_fillSigns_54 hl (by decide) rfl (fun ls hl => ?_)
          refine lv_iinc (v := nI (q + 1)) (lv' := [(2, .int (nI (q + 1))), (4, .int (nI (lo4 (X.1 17 q)))), (0, .ref (g_ad V 17)), (1, .ref (g_ad V kp)), (3, .int (nI (12 + t)))]) hx hb d_Samples_fillSigns_56 hl (k := 3) rfl (g_inc _) (by decide) rfl (fun ls hl => ?_)
          refine lv_aload_n hx hb d_Samples_fillSigns_59 rfl (lv_at hl 3 rfl) ?_
          refine lv_iload_n hx hb d_Samples_fillSigns_60 rfl (lv_at hl 4 rfl) ?_
          refine lv_aload_n hx hb d_Samples_fillSigns_61 rfl (lv_at hl 3 rfl) ?_
          refine lv_iload hx hb d_Samples_fillSigns_62 (lv_at hl 1 rfl) ?_
          refine g_iald hx hb hE hG kp (by omega) (lo4 (X.1 17 q)) (rfl) (by omega) (v := X1.1 kp (lo4 (X.1 17 q))) (rfl) d_Samples_fillSigns_64 ?_
          refine g_iast (x := X1.1 kp (lo4 (X.1 17 q))) hx hb hE hG kp (by omega) (12 + t) (rfl) (by omega) d_Samples_fillSigns_65 (fun H locs hG => ?_)
          refine lv_aload_n hx hb d_Samples_fillSigns_66 rfl (lv_at hl 3 rfl) ?_
          refine lv_iload hx hb d_Samples_fillSigns_67 (lv_at hl 1 rfl) ?_
          refine lv_aload_n hx hb d_Samples_fillSigns_69 rfl (lv_at hl 2 rfl) ?_
          refine lv_iconst (v := nI (0)) hx hb d_Samples_fillSigns_70 (by decide) ?_
          refine g_iald hx hb hE hG 17 (by decide) (0) (rfl) (show _ < 136 by omega) (v := X.1 17 0) ((congrFun (uI_n _ _ hne) 0).trans (congrFun es _)) d_Samples_fillSigns_71 ?_
          refine lv_iload_n hx hb d_Samples_fillSigns_72 rfl (lv_at hl 4 rfl) ?_
          refine lv_bipush (v := nI (12)) hx hb d_Samples_fillSigns_73 (by decide) ?_
          refine lv_isub hx hb d_Samples_fillSigns_75 ?_
          refine g_topi (y := nI ((12 + t) - 12)) (pk_sub (by omega)) ?_
          refine g_topi (y := nI (t)) (congrArg nI (by omega)) ?_
          refine lv_ishr hx hb d_Samples_fillSigns_76 ?_
          refine lv_iconst (v := nI (1)) hx hb d_Samples_fillSigns_77 (by decide) ?_
          refine lv_iand hx hb d_Samples_fillSigns_78 ?_
          refine lv_iconst (v := nI (1)) hx hb d_Samples_fillSigns_79 (by decide) ?_
          refine lv_icmp_ne (tgt := 87) hx hb d_Samples_fillSigns_80 (by decide) (fun c80 => ?_) (fun c80 => ?_)
          · refine lv_iconst (v := nI (1)) hx hb d_Samples_fillSigns_87 (by decide) ?_
            refine g_iast (x := nI (1)) hx hb hE hG kp (by omega) (lo4 (X.1 17 q)) (rfl) (by omega) d_Samples_fillSigns_88 (fun H locs hG => ?_)
            refine lv_iinc (v := nI (12 + (t + 1))) (lv' := [(3, .int (nI (12 + (t + 1)))), (2, .int (nI (q + 1))), (4, .int (nI (lo4 (X.1 17 q)))), (0, .ref (g_ad V 17)), (1, .ref (g_ad V kp))]) hx hb d_Samples_fillSigns_89 hl (k := 4) rfl (g_inc _) (by decide) rfl (fun ls hl => ?_)
            refine lv_goto (tgt := 10) hx hb d_Samples_fillSigns_92 (by decide) ?_
            have e1 : blN (X.1 17) (t + 1) = (sk (X.1 17) (12 + t) (blN (X.1 17) t).1 + 1, upd (upd (blN (X.1 17) t).2 (12 + t) ((blN (X.1 17) t).2 (jB (X.1 17) (sk (X.1 17) (12 + t) (blN (X.1 17) t).1)))) (jB (X.1 17) (sk (X.1 17) (12 + t) (blN (X.1 17) t).1)) (sgB (X.1 17) t)) := rfl
            rw [← hq] at e1
            exact ih10 (t + 1) (by omega) (uI (uI X1 kp (upd (X1.1 kp) (12 + t) (X1.1 kp (lo4 (X.1 17 q))))) kp (upd ((uI X1 kp (upd (X1.1 kp) (12 + t) (X1.1 kp (lo4 (X.1 17 q))))).1 kp) (lo4 (X.1 17 q)) (nI (1)))) _ _ ls (fr_i (fr_i hF _ List.mem_cons_self) _ List.mem_cons_self) (by rw [e1, uI_s, uI_s, hC]; unfold jB sgB; rw [if_pos (show q < 33 by omega), if_neg c80]) hG (by rw [e1]; exact lv_sub hl [3, 4, 1, 0] rfl)
          · refine lv_iconst (v := -1) hx hb d_Samples_fillSigns_83 (by decide) ?_
            refine lv_goto (tgt := 88) hx hb d_Samples_fillSigns_84 (by decide) ?_
            refine g_iast (x := -1) hx hb hE hG kp (by omega) (lo4 (X.1 17 q)) (rfl) (by omega) d_Samples_fillSigns_88 (fun H locs hG => ?_)
            refine lv_iinc (v := nI (12 + (t + 1))) (lv' := [(3, .int (nI (12 + (t + 1)))), (2, .int (nI (q + 1))), (4, .int (nI (lo4 (X.1 17 q)))), (0, .ref (g_ad V 17)), (1, .ref (g_ad V kp))]) hx hb d_Samples_fillSigns_89 hl (k := 4) rfl (g_inc _) (by decide) rfl (fun ls hl => ?_)
            refine lv_goto (tgt := 10) hx hb d_Samples_fillSigns_92 (by decide) ?_
            have e1 : blN (X.1 17) (t + 1) = (sk (X.1 17) (12 + t) (blN (X.1 17) t).1 + 1, upd (upd (blN (X.1 17) t).2 (12 + t) ((blN (X.1 17) t).2 (jB (X.1 17) (sk (X.1 17) (12 + t) (blN (X.1 17) t).1)))) (jB (X.1 17) (sk (X.1 17) (12 + t) (blN (X.1 17) t).1)) (sgB (X.1 17) t)) := rfl
            rw [← hq] at e1
            exact ih10 (t + 1) (by omega) (uI (uI X1 kp (upd (X1.1 kp) (12 + t) (X1.1 kp (lo4 (X.1 17 q))))) kp (upd ((uI X1 kp (upd (X1.1 kp) (12 + t) (X1.1 kp (lo4 (X.1 17 q))))).1 kp) (lo4 (X.1 17 q)) (-1))) _ _ ls (fr_i (fr_i hF _ List.mem_cons_self) _ List.mem_cons_self) (by rw [e1, uI_s, uI_s, hC]; unfold jB sgB; rw [if_pos (show q < 33 by omega), if_pos c80]) hG (by rw [e1]; exact lv_sub hl [3, 4, 1, 0] rfl)
      have K16 : ∀ (n q : Nat), q + n = 40 → ∀ (ls : Array Slot), (sk (X.1 17) (12 + t) q = (sk (X.1 17) (12 + t) (blN (X.1 17) t).1)) → lv_has ls 5 [(0, .ref (g_ad V 17)), (1, .ref (g_ad V kp)), (2, .int (nI (q))), (3, .int (nI (12 + t)))] → W p l e ({ frames := 1, cells := 0, slots := 0, locals := 23 } : Room) s m ([.ref (g_ad V 17), .ref (g_ad V kp)] : List Value).toArray below meth c H locs 0 0 (MQ below (g_Qv V (fun X1 : Mm => X1.1 kp = blP (X.1 17) ∧ fr X X1 [kp] [] [])) ([.ref (g_ad V 17), .ref (g_ad V kp)] : List Value).toArray s 0 0 (g_A V)) (F0 m 16 ls []) := by
        intro n
        induction n with
        | zero =>
          intro q hin16 ls hs hl
          have hi16 : 40 = q := by omega
          subst hi16
          refine lv_iload_n hx hb d_Samples_fillSigns_16 rfl (lv_at hl 2 rfl) ?_
          refine lv_bipush (v := nI (33)) hx hb d_Samples_fillSigns_17 (by decide) ?_
          refine lv_icmp_ge (tgt := 38) hx hb d_Samples_fillSigns_19 (by decide) (fun _ => ?_) (fun q => absurd ((g_geN (x := 40) (y := 33) (by omega) (by omega)).mp q) (by omega))
          exact K38 40 ls ((sk_out (by omega)).symm.trans hs) (by omega) (lv_sub hl [0, 1, 2, 3] rfl)
        | succ n ih16 =>
          intro q hin16 ls hs hl
          have hi16 : q < 40 := by omega
          have hj4 := lo4_lt (X.1 17 q)
          refine lv_iload_n hx hb d_Samples_fillSigns_16 rfl (lv_at hl 2 rfl) ?_
          refine lv_bipush (v := nI (33)) hx hb d_Samples_fillSigns_17 (by decide) ?_
          refine lv_icmp_ge (tgt := 38) hx hb d_Samples_fillSigns_19 (by decide) (fun c19 => ?_) (fun c19 => ?_)
          · have c19 := (g_ge (x := q) (y := 33) (by omega) (by omega)).mp c19
            exact K38 q ls ((sk_out (fun z => absurd z.1 (by omega))).symm.trans hs) (by omega) (lv_sub hl [0, 1, 2, 3] rfl)
          · have c19 := (g_geN (x := q) (y := 33) (by omega) (by omega)).mp c19
            refine lv_aload_n hx hb d_Samples_fillSigns_22 rfl (lv_at hl 0 rfl) ?_
            refine lv_iload_n hx hb d_Samples_fillSigns_23 rfl (lv_at hl 2 rfl) ?_
            refine g_iald hx hb hE hG 17 (by decide) (q) (rfl) (show _ < 136 by omega) (v := X.1 17 q) (congrFun es _) d_Samples_fillSigns_24 ?_
            refine lv_bipush (v := nI (15)) hx hb d_Samples_fillSigns_25 (by decide) ?_
            refine lv_iand hx hb d_Samples_fillSigns_27 ?_
            refine g_topi (y := nI (lo4 (X.1 17 q))) (lo4_and _) ?_
            refine lv_iload_n hx hb d_Samples_fillSigns_28 rfl (lv_at hl 3 rfl) ?_
            refine lv_icmp_le (tgt := 38) hx hb d_Samples_fillSigns_29 (by decide) (fun c29 => ?_) (fun c29 => ?_)
            · have c29 := (g_le (x := lo4 (X.1 17 q)) (y := 12 + t) (by omega) (by omega)).mp c29
              exact K38 q ls ((sk_out (fun z => absurd z.2 (by omega))).symm.trans hs) (by omega) (lv_sub hl [0, 1, 2, 3] rfl)
            · have c29 := (g_leN (x := lo4 (X.1 17 q)) (y := 12 + t) (by omega) (by omega)).mp c29
              refine lv_iinc (v := nI (q + 1)) (lv' := [(2, .int (nI (q + 1))), (0, .ref (g_ad V 17)), (1, .ref (g_ad V kp)), (3, .int (nI (12 + t)))]) hx hb d_Samples_fillSigns_32 hl (k := 2) rfl (g_inc _) (by decide) rfl (fun ls hl => ?_)
              refine lv_goto (tgt := 16) hx hb d_Samples_fillSigns_35 (by decide) ?_
              exact ih16 (q + 1) (by omega) ls ((sk_go c19 c29).symm.trans hs) (lv_sub hl [1, 2, 0, 3] rfl)
      exact K16 (40 - (blN (X.1 17) t).1) (blN (X.1 17) t).1 (by omega) ls rfl (lv_sub hl [0, 1, 2, 3] rfl)
  exact K10 (4 - 0) 0 (by omega) X0 _ _ ls q0.2 q0.1 hG (lv_sub hl [2, 3, 1, 0] rfl)
