/-- byte i of a long -/
def lgB (x : Int64) (i : Nat) : Int32 := ((x.toUInt64 >>> ((nI (8 * i)).toInt64.toUInt64 &&& Int64.toUInt64 63)).toInt64).toInt32 &&& nI 255
theorem chi_at (M : Nat → Int64) {a b : Nat} (ha : a < 5) : chiP M (5 * b + a) = M (5 * b + a) ^^^ ((M (5 * b + (a + 1) % 5) ^^^ (-1)) &&& M (5 * b + (a + 2) % 5)) := by
  unfold chiP
  rw [show (5 * b + a) / 5 = b by omega, show (5 * b + a) % 5 = a by omega]
set_option maxHeartbeats 4000000 in
set_option maxRecDepth 100000 in
theorem c_fillJ (l : Launch) (V : Ev) (X : Mm) (v : Int64) : Met l y_Arrays_fill_JJ (Cond.code y_Arrays_fill_JJ b_Arrays_fill_JJ 5 none :: WA) ({ frames := 0, cells := 0, slots := 0, locals := 0 } : Room) (g_Pc V X [.ref (g_ad V 2), .long (v)]) (g_Qv V (fun X1 : Mm => X1.2.1 2 = (fun _ => v) ∧ fr X X1 [] [2] [])) 0 0 (g_A V) := by
  refine g_met (by decide) (Nat.le_of_ble_eq_true rfl) ?_
  intro p e s m below meth c hx hb hr hml hown hts hlocks hE hG ls hl
  have hl : lv_has ls 5 [(0, .ref (g_ad V 2)), (1, .long (v))] := hl
  have hown : s.vm.findClass R_Arrays = some m.cls := hown
  refine lv_iconst (v := nI (0)) hx hb d_Arrays_fill_JJ_0 (by decide) ?_
  refine lv_istore_n (lv' := [(3, .int (nI (0))), (0, .ref (g_ad V 2)), (1, .long (v))]) hx hb d_Arrays_fill_JJ_1 rfl hl (by decide) rfl (fun ls hl => ?_)
  refine lv_aload_n hx hb d_Arrays_fill_JJ_2 rfl (lv_at hl 1 rfl) ?_
  refine g_llen hx hb hE hG 2 rfl (n := 25) (rfl) d_Arrays_fill_JJ_3 ?_
  refine lv_istore (lv' := [(4, .int (nI (25))), (3, .int (nI (0))), (0, .ref (g_ad V 2)), (1, .long (v))]) hx hb d_Arrays_fill_JJ_4 hl (by decide) rfl (fun ls hl => ?_)
  have K6 : ∀ (n i : Nat), i + n = 25 → ∀ (X1 : Mm) (H : Heap) (locs : List Loc), ∀ (ls : Array Slot), (fr X X1 [] [2] []) → (X1.2.1 2 = segL (fun _ => v) (X.2.1 2) i) → g_st V X1 s.heap H locs → lv_has ls 5 [(0, .ref (g_ad V 2)), (1, .long (v)), (3, .int (nI (i))), (4, .int (nI (25)))] → W p l e ({ frames := 0, cells := 0, slots := 0, locals := 0 } : Room) s m ([.ref (g_ad V 2), .long (v)] : List Value).toArray below meth c H locs 0 0 (MQ below (g_Qv V (fun X1 : Mm => X1.2.1 2 = (fun _ => v) ∧ fr X X1 [] [2] [])) ([.ref (g_ad V 2), .long (v)] : List Value).toArray s 0 0 (g_A V)) (F0 m 6 ls []) := by
    intro n
    induction n with
    | zero =>
      intro i hin6 X1 H locs ls hF hC hG hl
      have hi6 : 25 = i := by omega
      subst hi6
      refine lv_iload_n hx hb d_Arrays_fill_JJ_6 rfl (lv_at hl 2 rfl) ?_
      refine lv_iload hx hb d_Arrays_fill_JJ_7 (lv_at hl 3 rfl) ?_
      refine lv_icmp_ge (tgt := 22) hx hb d_Arrays_fill_JJ_9 (by decide) (fun _ => ?_) (fun q => absurd ((g_geN (x := 25) (y := 25) (by omega) (by omega)).mp q) (by omega))
      have hG := g_xl hG 2 rfl (fun _ => v) (fun j hj => by rw [hC]; exact segL_e (fun _ => v) _ hj)
      exact g_vret hx hb hr hlocks hE hG (⟨uL_s _ _ _, fr_l hF _ (by decide)⟩) d_Arrays_fill_JJ_22
    | succ n ih6 =>
      intro i hin6 X1 H locs ls hF hC hG hl
      have hi6 : i < 25 := by omega
      refine lv_iload_n hx hb d_Arrays_fill_JJ_6 rfl (lv_at hl 2 rfl) ?_
      refine lv_iload hx hb d_Arrays_fill_JJ_7 (lv_at hl 3 rfl) ?_
      refine lv_icmp_ge (tgt := 22) hx hb d_Arrays_fill_JJ_9 (by decide) (fun q => absurd ((g_ge (x := i) (y := 25) (by omega) (by omega)).mp q) (by omega)) (fun _ => ?_)
      refine lv_aload_n hx hb d_Arrays_fill_JJ_12 rfl (lv_at hl 0 rfl) ?_
      refine lv_iload_n hx hb d_Arrays_fill_JJ_13 rfl (lv_at hl 2 rfl) ?_
      refine lv_lload_n hx hb d_Arrays_fill_JJ_14 rfl (lv_at hl 1 rfl) ?_
      refine g_last (x := v) hx hb hE hG 2 rfl (i) (rfl) (show _ < 25 by omega) d_Arrays_fill_JJ_15 (fun H locs hG => ?_)
      refine lv_iinc (v := nI (i + 1)) (lv' := [(3, .int (nI (i + 1))), (0, .ref (g_ad V 2)), (1, .long (v)), (4, .int (nI (25)))]) hx hb d_Arrays_fill_JJ_16 hl (k := 2) rfl (g_inc _) (by decide) rfl (fun ls hl => ?_)
      refine lv_goto (tgt := 6) hx hb d_Arrays_fill_JJ_19 (by decide) ?_
      exact ih6 (i + 1) (by omega) (uL X1 2 (vp_updL (X1.2.1 2) i v)) _ _ ls (fr_l hF _ (by decide)) (by rw [uL_s, hC]; exact segL_s _ _ _) hG (lv_sub hl [1, 2, 0, 3] rfl)
  exact K6 (25 - 0) 0 (by omega) X _ _ ls (fr_rf X _ _ _) (segL_0 _ _).symm hG (lv_sub hl [2, 3, 1, 0] rfl)

set_option maxHeartbeats 4000000 in
set_option maxRecDepth 100000 in
theorem c_rotl (l : Launch) (x : Int64) (d : Int32) : Met l y_Long_rotateLeft (Cond.code y_Long_rotateLeft b_Long_rotateLeft 3 (some .long) :: WA) ({ frames := 0, cells := 0, slots := 0, locals := 0 } : Room) (fun v _ => v = ([.long (x), .int (d)] : List Value).toArray) (vp_Sl (fun r : Int64 => r = rotJ x d)) 0 0 (fun _ => False) := by
  refine g_metp (by decide) (Nat.le_of_ble_eq_true rfl) ?_
  intro p e s m below meth c hx hb hr hml hown hts hlocks ls hl
  have hl : lv_has ls 3 [(0, .long (x)), (2, .int (d))] := hl
  have hown : s.vm.findClass R_Long = some m.cls := hown
  refine lv_lload_n hx hb d_Long_rotateLeft_0 rfl (lv_at hl 0 rfl) ?_
  refine lv_iload_n hx hb d_Long_rotateLeft_1 rfl (lv_at hl 1 rfl) ?_
  refine lv_lshl (v := x <<< (d.toInt64 &&& 63)) hx hb d_Long_rotateLeft_2 rfl ?_
  refine lv_lload_n hx hb d_Long_rotateLeft_3 rfl (lv_at hl 0 rfl) ?_
  refine lv_iload_n hx hb d_Long_rotateLeft_4 rfl (lv_at hl 1 rfl) ?_
  refine lv_ineg hx hb d_Long_rotateLeft_5 ?_
  refine lv_lushr (v := (x.toUInt64 >>> ((-d).toInt64.toUInt64 &&& Int64.toUInt64 63)).toInt64) hx hb d_Long_rotateLeft_6 rfl ?_
  refine lv_lor hx hb d_Long_rotateLeft_7 ?_
  exact g_lretp hx hb hr hlocks (rfl) d_Long_rotateLeft_8

set_option maxHeartbeats 4000000 in
set_option maxRecDepth 100000 in
theorem c_mixByte (l : Launch) (V : Ev) (X : Mm) (k : Nat) (b : Int32) (hk : k < 136) : Met l y_Hasher_mixByte (Cond.code y_Hasher_mixByte b_Hasher_mixByte 3 none :: WA) ({ frames := 0, cells := 0, slots := 0, locals := 0 } : Room) (g_Pc V X [.ref (g_ad V 1), .int (nI (k)), .int (b)]) (g_Qv V (fun X1 : Mm => X1.2.1 2 = mixB (X.2.1 2) k b ∧ fr X X1 [] [2] [])) 0 0 (g_A V) := by
  refine g_met (by decide) (Nat.le_of_ble_eq_true rfl) ?_
  intro p e s m below meth c hx hb hr hml hown hts hlocks hE hG ls hl
  have hl : lv_has ls 3 [(0, .ref (g_ad V 1)), (1, .int (nI (k))), (2, .int (b))] := hl
  have hown : s.vm.findClass R_Hasher = some m.cls := hown
  refine lv_aload_n hx hb d_Hasher_mixByte_0 rfl (lv_at hl 0 rfl) ?_
  refine g_get (ci := 1) (v := .ref (g_ad V 2)) (C := R_Hasher) (T := F_Hasher) (N := 5) hx hb hts (fun w h => List.mem_cons_of_mem _ (in_Hasher w h)) hown hE hG 1 (by decide) rfl rfl 0 (by decide) (hts _ (List.mem_cons_of_mem _ kw_31)) (fun _ h9 => h9) rfl d_Hasher_mixByte_1 ?_
  refine lv_iload_n hx hb d_Hasher_mixByte_4 rfl (lv_at hl 1 rfl) ?_
  refine lv_bipush (v := nI (8)) hx hb d_Hasher_mixByte_5 (by decide) ?_
  refine lv_idiv hx hb d_Hasher_mixByte_7 (by decide) ?_
  refine g_topi (y := nI (k / 8)) (pk_div (by omega) (by omega) (by omega)) ?_
  refine lv_dup2_11 hx hb d_Hasher_mixByte_8 rfl rfl ?_
  refine g_lald hx hb hE hG 2 rfl (k / 8) (rfl) (show _ < 25 by omega) (v := X.2.1 2 (k / 8)) (rfl) d_Hasher_mixByte_9 ?_
  refine lv_iload_n hx hb d_Hasher_mixByte_10 rfl (lv_at hl 2 rfl) ?_
  refine lv_i2l (v := b.toInt64) hx hb d_Hasher_mixByte_11 rfl ?_
  refine lv_bipush (v := nI (8)) hx hb d_Hasher_mixByte_12 (by decide) ?_
  refine lv_iload_n hx hb d_Hasher_mixByte_14 rfl (lv_at hl 1 rfl) ?_
  refine lv_bipush (v := nI (8)) hx hb d_Hasher_mixByte_15 (by decide) ?_
  refine lv_irem hx hb d_Hasher_mixByte_17 (by decide) ?_
  refine g_topi (y := nI (k % 8)) (pk_rem (by omega) (by omega) (by omega)) ?_
  refine lv_imul hx hb d_Hasher_mixByte_18 ?_
  refine g_topi (y := nI (8 * (k % 8))) (pk_mul _ _) ?_
  refine lv_lshl (v := b.toInt64 <<< ((nI (8 * (k % 8))).toInt64 &&& 63)) hx hb d_Hasher_mixByte_19 rfl ?_
  refine lv_lxor hx hb d_Hasher_mixByte_20 ?_
  refine g_last (x := (X.2.1 2 (k / 8)) ^^^ (b.toInt64 <<< ((nI (8 * (k % 8))).toInt64 &&& 63))) hx hb hE hG 2 rfl (k / 8) (rfl) (show _ < 25 by omega) d_Hasher_mixByte_21 (fun H locs hG => ?_)
  exact g_vret hx hb hr hlocks hE hG (⟨uL_s _ _ _, fr_l (fr_rf X _ _ _) _ (by decide)⟩) d_Hasher_mixByte_22

set_option maxHeartbeats 4000000 in
set_option maxRecDepth 100000 in
theorem c_begin (l : Launch) (V : Ev) (X : Mm)  : Met l y_Hasher_begin (Cond.code y_Hasher_begin b_Hasher_begin 1 none :: WA) ({ frames := 1, cells := 0, slots := 0, locals := 24 } : Room) (g_Pc V X [.ref (g_ad V 1)]) (g_Qv V (fun X1 : Mm => X1.2.1 2 = (fun _ => 0) ∧ X1.2.2 1 = nI 0 ∧ fr X X1 [] [2] [1])) 0 0 (g_A V) := by
  refine g_met (by decide) (Nat.le_of_ble_eq_true rfl) ?_
  intro p e s m below meth c hx hb hr hml hown hts hlocks hE hG ls hl
  have hl : lv_has ls 1 [(0, .ref (g_ad V 1))] := hl
  have hown : s.vm.findClass R_Hasher = some m.cls := hown
  refine lv_aload_n hx hb d_Hasher_begin_0 rfl (lv_at hl 0 rfl) ?_
  refine g_get (ci := 1) (v := .ref (g_ad V 2)) (C := R_Hasher) (T := F_Hasher) (N := 5) hx hb hts (fun w h => List.mem_cons_of_mem _ (in_Hasher w h)) hown hE hG 1 (by decide) rfl rfl 0 (by decide) (hts _ (List.mem_cons_of_mem _ kw_31)) (fun _ h9 => h9) rfl d_Hasher_begin_1 ?_
  refine lv_lconst (v := 0) hx hb d_Hasher_begin_4 (by decide) ?_
  refine g_callv (va_runS (As := [.ref (g_ad V 2), .long (0)]) (rest := []) ⟨hx, hb, hml, hown, hts⟩ (c_fillJ l V X 0) (va_cwS 2 hts (g_goodS kw_233 kw_231 kw_232 kw_9) rfl rfl rfl (by decide +kernel) ⟨Nat.le_of_ble_eq_true rfl, Nat.le_of_ble_eq_true rfl⟩) (g_preS hE hG) rfl rfl hl.1 rfl (lv_room (Nat.le_of_ble_eq_true rfl)) d_Hasher_begin_5 ⟨Nat.le_refl 0, Nat.le_refl 0⟩) hG (fun X2 H locs q2 hG => ?_)
  refine lv_aload_n hx hb d_Hasher_begin_8 rfl (lv_at hl 0 rfl) ?_
  refine lv_iconst (v := nI (0)) hx hb d_Hasher_begin_9 (by decide) ?_
  refine g_put (ci := 1) (v := nI (0)) (ty := .int) (C := R_Hasher) (T := F_Hasher) (N := 5) hx hb hts (fun w h => List.mem_cons_of_mem _ (in_Hasher w h)) t_Hasher t_Hasher_ok n_Hasher hown hE hG 1 (by decide) rfl rfl 4 (by decide) (hts _ (List.mem_cons_of_mem _ kw_35)) (fun _ h9 => h9) rfl (by decide +kernel) (rfl) rfl (Nat.le_of_ble_eq_true rfl) rfl d_Hasher_begin_10 (fun H locs hG => ?_)
  exact g_vret hx hb hr hlocks hE hG (⟨q2.1, uF_s _ _ _, fr_f (fr_mono q2.2 (by decide) (by decide) (by decide)) _ (by decide)⟩) d_Hasher_begin_13

set_option maxHeartbeats 4000000 in
set_option maxRecDepth 100000 in
theorem c_take (l : Launch) (V : Ev) (X : Mm) (g : Nat → Int32) (k : Nat) (hk : k < 135) (hL : X.2.1 2 = absN g k) (hT : X.2.2 1 = nI k) : Met l y_Hasher_take (Cond.code y_Hasher_take b_Hasher_take 2 none :: WA) ({ frames := 1, cells := 0, slots := 0, locals := 22 } : Room) (g_Pc V X [.ref (g_ad V 1), .int (g k)]) (g_Qv V (fun X1 : Mm => X1.2.1 2 = absN g (k + 1) ∧ X1.2.2 1 = nI (k + 1) ∧ fr X X1 [] [2] [1])) 0 0 (g_A V) := by
  refine g_met (by decide) (Nat.le_of_ble_eq_true rfl) ?_
  intro p e s m below meth c hx hb hr hml hown hts hlocks hE hG ls hl
  have hl : lv_has ls 2 [(0, .ref (g_ad V 1)), (1, .int (g k))] := hl
  have hown : s.vm.findClass R_Hasher = some m.cls := hown
  refine lv_aload_n hx hb d_Hasher_take_0 rfl (lv_at hl 0 rfl) ?_
  refine g_get (ci := 1) (v := .int (X.2.2 1)) (C := R_Hasher) (T := F_Hasher) (N := 5) hx hb hts (fun w h => List.mem_cons_of_mem _ (in_Hasher w h)) hown hE hG 1 (by decide) rfl rfl 4 (by decide) (hts _ (List.mem_cons_of_mem _ kw_35)) (fun _ h9 => h9) rfl d_Hasher_take_1 ?_
  refine g_topi (y := nI (k)) (hT) ?_
  refine lv_sipush (v := nI (135)) hx hb d_Hasher_take_4 (by decide) ?_
  refine lv_icmp_ge (tgt := 29) hx hb d_Hasher_take_7 (by decide) (fun q => absurd ((g_ge (x := k) (y := 135) (by omega) (by omega)).mp q) (by omega)) (fun _ => ?_)
  refine lv_aload_n hx hb d_Hasher_take_10 rfl (lv_at hl 0 rfl) ?_
  refine lv_aload_n hx hb d_Hasher_take_11 rfl (lv_at hl 0 rfl) ?_
  refine g_get (ci := 1) (v := .int (X.2.2 1)) (C := R_Hasher) (T := F_Hasher) (N := 5) hx hb hts (fun w h => List.mem_cons_of_mem _ (in_Hasher w h)) hown hE hG 1 (by decide) rfl rfl 4 (by decide) (hts _ (List.mem_cons_of_mem _ kw_35)) (fun _ h9 => h9) rfl d_Hasher_take_12 ?_
  refine g_topi (y := nI (k)) (hT) ?_
  refine lv_iload_n hx hb d_Hasher_take_15 rfl (lv_at hl 1 rfl) ?_
  refine g_callv (va_runV (As := [.int (nI (k)), .int (g k)]) (rest := []) ⟨hx, hb, hml, hown, hts⟩ (c_mixByte l V X k (g k) (by omega)) (cwV 2 hts (g_goodV kw_245 kw_242 kw_244 kp_0 kw_2) rfl rfl rfl (by decide +kernel) ⟨Nat.le_of_ble_eq_true rfl, Nat.le_of_ble_eq_true rfl⟩) (g_preV (k0 := 1) (ci := 1) hE hG (by decide) rfl rfl) rfl rfl hl.1 rfl (lv_room (Nat.le_of_ble_eq_true rfl)) d_Hasher_take_16 ⟨Nat.le_refl 0, Nat.le_refl 0⟩) hG (fun X2 H locs q2 hG => ?_)
  refine lv_aload_n hx hb d_Hasher_take_19 rfl (lv_at hl 0 rfl) ?_
  refine lv_dup hx hb d_Hasher_take_20 rfl ?_
  refine g_get (ci := 1) (v := .int (X2.2.2 1)) (C := R_Hasher) (T := F_Hasher) (N := 5) hx hb hts (fun w h => List.mem_cons_of_mem _ (in_Hasher w h)) hown hE hG 1 (by decide) rfl rfl 4 (by decide) (hts _ (List.mem_cons_of_mem _ kw_35)) (fun _ h9 => h9) rfl d_Hasher_take_21 ?_
  refine g_topi (y := nI (k)) ((q2.2.2.2 1 (by decide)).trans hT) ?_
  refine lv_iconst (v := nI (1)) hx hb d_Hasher_take_24 (by decide) ?_
  refine lv_iadd hx hb d_Hasher_take_25 ?_
  refine g_topi (y := nI (k + 1)) (nI_add _ _) ?_
  refine g_put (ci := 1) (v := nI (k + 1)) (ty := .int) (C := R_Hasher) (T := F_Hasher) (N := 5) hx hb hts (fun w h => List.mem_cons_of_mem _ (in_Hasher w h)) t_Hasher t_Hasher_ok n_Hasher hown hE hG 1 (by decide) rfl rfl 4 (by decide) (hts _ (List.mem_cons_of_mem _ kw_35)) (fun _ h9 => h9) rfl (by decide +kernel) (rfl) rfl (Nat.le_of_ble_eq_true rfl) rfl d_Hasher_take_26 (fun H locs hG => ?_)
  exact g_vret hx hb hr hlocks hE hG (⟨q2.1.trans (by rw [hL]; rfl), uF_s _ _ _, fr_f (fr_mono q2.2 (by decide) (by decide) (by decide)) _ (by decide)⟩) d_Hasher_take_29

set_option maxHeartbeats 4000000 in
set_option maxRecDepth 100000 in
theorem c_takeFirst (l : Launch) (V : Ev) (X : Mm) (kb : Nat) (hkb : 17 ≤ kb ∧ kb < 80) (g : Nat → Int32) (k cnt : Nat) (hc : cnt ≤ g_len kb) (hk : k + cnt ≤ 135) (hL : X.2.1 2 = absN g k) (hT : X.2.2 1 = nI k) (hg : ∀ j, j < cnt → X.1 kb j = g (k + j)) : Met l y_Hasher_takeFirst (Cond.code y_Hasher_takeFirst b_Hasher_takeFirst 4 none :: WA) ({ frames := 2, cells := 0, slots := 0, locals := 43 } : Room) (g_Pc V X [.ref (g_ad V 1), .ref (g_ad V kb), .int (nI (cnt))]) (g_Qv V (fun X1 : Mm => X1.2.1 2 = absN g (k + cnt) ∧ X1.2.2 1 = nI (k + cnt) ∧ fr X X1 [] [2] [1])) 0 0 (g_A V) := by
  refine g_met (by decide) (Nat.le_of_ble_eq_true rfl) ?_
  intro p e s m below meth c hx hb hr hml hown hts hlocks hE hG ls hl
  have hl : lv_has ls 4 [(0, .ref (g_ad V 1)), (1, .ref (g_ad V kb)), (2, .int (nI (cnt)))] := hl
  have hown : s.vm.findClass R_Hasher = some m.cls := hown
  have hlen := g_len_le kb
  refine lv_iconst (v := nI (0)) hx hb d_Hasher_takeFirst_0 (by decide) ?_
  refine lv_istore_n (lv' := [(3, .int (nI (0))), (0, .ref (g_ad V 1)), (1, .ref (g_ad V kb)), (2, .int (nI (cnt)))]) hx hb d_Hasher_takeFirst_1 rfl hl (by decide) rfl (fun ls hl => ?_)
  have K2 : ∀ (n i : Nat), i + n = cnt → ∀ (X1 : Mm) (H : Heap) (locs : List Loc), ∀ (ls : Array Slot), (fr X X1 [] [2] [1]) → (X1.2.1 2 = absN g (k + i)) → (X1.2.2 1 = nI (k + i)) → g_st V X1 s.heap H locs → lv_has ls 4 [(0, .ref (g_ad V 1)), (1, .ref (g_ad V kb)), (2, .int (nI (cnt))), (3, .int (nI (i)))] → W p l e ({ frames := 2, cells := 0, slots := 0, locals := 43 } : Room) s m ([.ref (g_ad V 1), .ref (g_ad V kb), .int (nI (cnt))] : List Value).toArray below meth c H locs 0 0 (MQ below (g_Qv V (fun X1 : Mm => X1.2.1 2 = absN g (k + cnt) ∧ X1.2.2 1 = nI (k + cnt) ∧ fr X X1 [] [2] [1])) ([.ref (g_ad V 1), .ref (g_ad V kb), .int (nI (cnt))] : List Value).toArray s 0 0 (g_A V)) (F0 m 2 ls []) := by
    intro n
    induction n with
    | zero =>
      intro i hin2 X1 H locs ls hF h1 h2 hG hl
      have hi2 : cnt = i := by omega
      subst hi2
      refine lv_iload_n hx hb d_Hasher_takeFirst_2 rfl (lv_at hl 3 rfl) ?_
      refine lv_iload_n hx hb d_Hasher_takeFirst_3 rfl (lv_at hl 2 rfl) ?_
      refine lv_icmp_ge (tgt := 20) hx hb d_Hasher_takeFirst_4 (by decide) (fun _ => ?_) (fun q => absurd ((g_geN (x := cnt) (y := cnt) (by omega) (by omega)).mp q) (by omega))
      exact g_vret hx hb hr hlocks hE hG (⟨h1, h2, hF⟩) d_Hasher_takeFirst_20
    | succ n ih2 =>
      intro i hin2 X1 H locs ls hF h1 h2 hG hl
      have hi2 : i < cnt := by omega
      refine lv_iload_n hx hb d_Hasher_takeFirst_2 rfl (lv_at hl 3 rfl) ?_
      refine lv_iload_n hx hb d_Hasher_takeFirst_3 rfl (lv_at hl 2 rfl) ?_
      refine lv_icmp_ge (tgt := 20) hx hb d_Hasher_takeFirst_4 (by decide) (fun q => absurd ((g_ge (x := i) (y := cnt) (by omega) (by omega)).mp q) (by omega)) (fun _ => ?_)
      refine lv_aload_n hx hb d_Hasher_takeFirst_7 rfl (lv_at hl 0 rfl) ?_
      refine lv_aload_n hx hb d_Hasher_takeFirst_8 rfl (lv_at hl 1 rfl) ?_
      refine lv_iload_n hx hb d_Hasher_takeFirst_9 rfl (lv_at hl 3 rfl) ?_
      refine g_iald hx hb hE hG kb (by omega) (i) (rfl) (by omega) (v := g (k + i)) ((congrFun (hF.1 kb (fun q => by cases q)) i).trans (hg i (by omega))) d_Hasher_takeFirst_10 ?_
      refine g_callv (va_runV (As := [.int (g (k + i))]) (rest := []) ⟨hx, hb, hml, hown, hts⟩ (c_take l V X1 g (k + i) (by omega) h1 h2) (cwV 1 hts (g_goodV kw_241 kw_238 kw_239 kw_240 kw_2) rfl rfl rfl (by decide +kernel) ⟨Nat.le_of_ble_eq_true rfl, Nat.le_of_ble_eq_true rfl⟩) (g_preV (k0 := 1) (ci := 1) hE hG (by decide) rfl rfl) rfl rfl hl.1 rfl (lv_room (Nat.le_of_ble_eq_true rfl)) d_Hasher_takeFirst_11 ⟨Nat.le_refl 0, Nat.le_refl 0⟩) hG (fun X2 H locs q2 hG => ?_)
      refine lv_iinc (v := nI (i + 1)) (lv' := [(3, .int (nI (i + 1))), (0, .ref (g_ad V 1)), (1, .ref (g_ad V kb)), (2, .int (nI (cnt)))]) hx hb d_Hasher_takeFirst_14 hl (k := 3) rfl (g_inc _) (by decide) rfl (fun ls hl => ?_)
      refine lv_goto (tgt := 2) hx hb d_Hasher_takeFirst_17 (by decide) ?_
      exact ih2 (i + 1) (by omega) X2 _ _ ls (fr_tr hF q2.2.2) q2.1 q2.2.1 hG (lv_sub hl [1, 2, 3, 0] rfl)
  exact K2 (cnt - 0) 0 (by omega) X _ _ ls (fr_rf X _ _ _) hL hT hG (lv_sub hl [1, 2, 3, 0] rfl)

set_option maxHeartbeats 4000000 in
set_option maxRecDepth 100000 in
theorem c_takeAll (l : Launch) (V : Ev) (X : Mm) (kb : Nat) (hkb : 17 ≤ kb ∧ kb < 80) (g : Nat → Int32) (k cnt : Nat) (hc : g_len kb = cnt) (hk : k + cnt ≤ 135) (hL : X.2.1 2 = absN g k) (hT : X.2.2 1 = nI k) (hg : ∀ j, j < cnt → X.1 kb j = g (k + j)) : Met l y_Hasher_takeAll (Cond.code y_Hasher_takeAll b_Hasher_takeAll 2 none :: WA) ({ frames := 3, cells := 0, slots := 0, locals := 66 } : Room) (g_Pc V X [.ref (g_ad V 1), .ref (g_ad V kb)]) (g_Qv V (fun X1 : Mm => X1.2.1 2 = absN g (k + cnt) ∧ X1.2.2 1 = nI (k + cnt) ∧ fr X X1 [] [2] [1])) 0 0 (g_A V) := by
  refine g_met (by decide) (Nat.le_of_ble_eq_true rfl) ?_
  intro p e s m below meth c hx hb hr hml hown hts hlocks hE hG ls hl
  have hl : lv_has ls 2 [(0, .ref (g_ad V 1)), (1, .ref (g_ad V kb))] := hl
  have hown : s.vm.findClass R_Hasher = some m.cls := hown
  refine lv_aload_n hx hb d_Hasher_takeAll_0 rfl (lv_at hl 0 rfl) ?_
  refine lv_aload_n hx hb d_Hasher_takeAll_1 rfl (lv_at hl 1 rfl) ?_
  refine lv_aload_n hx hb d_Hasher_takeAll_2 rfl (lv_at hl 1 rfl) ?_
  refine g_ilen hx hb hE hG kb (by omega) (n := cnt) (hc) d_Hasher_takeAll_3 ?_
  refine g_callv (va_runV (As := [.ref (g_ad V kb), .int (nI (cnt))]) (rest := []) ⟨hx, hb, hml, hown, hts⟩ (c_takeFirst l V X kb hkb g k cnt (Nat.le_of_eq hc.symm) hk hL hT hg) (cwV 2 hts (g_goodV kw_283 kw_330 kw_281 kw_282 kw_2) rfl rfl rfl (by decide +kernel) ⟨Nat.le_of_ble_eq_true rfl, Nat.le_of_ble_eq_true rfl⟩) (g_preV (k0 := 1) (ci := 1) hE hG (by decide) rfl rfl) rfl rfl hl.1 rfl (lv_room (Nat.le_of_ble_eq_true rfl)) d_Hasher_takeAll_4 ⟨Nat.le_refl 0, Nat.le_refl 0⟩) hG (fun X2 H locs q2 hG => ?_)
  exact g_vret hx hb hr hlocks hE hG (q2) d_Hasher_takeAll_7

set_option maxHeartbeats 4000000 in
set_option maxRecDepth 100000 in
theorem c_takeLong (l : Launch) (V : Ev) (X : Mm) (x : Int64) (g : Nat → Int32) (k : Nat) (hk : k + 8 ≤ 135) (hL : X.2.1 2 = absN g k) (hT : X.2.2 1 = nI k) (hg : ∀ j, j < 8 → lgB x j = g (k + j)) : Met l y_Hasher_takeLong (Cond.code y_Hasher_takeLong b_Hasher_takeLong 4 none :: WA) ({ frames := 2, cells := 0, slots := 0, locals := 43 } : Room) (g_Pc V X [.ref (g_ad V 1), .long (x)]) (g_Qv V (fun X1 : Mm => X1.2.1 2 = absN g (k + 8) ∧ X1.2.2 1 = nI (k + 8) ∧ fr X X1 [] [2] [1])) 0 0 (g_A V) := by
  refine g_met (by decide) (Nat.le_of_ble_eq_true rfl) ?_
  intro p e s m below meth c hx hb hr hml hown hts hlocks hE hG ls hl
  have hl : lv_has ls 4 [(0, .ref (g_ad V 1)), (1, .long (x))] := hl
  have hown : s.vm.findClass R_Hasher = some m.cls := hown
  refine lv_iconst (v := nI (0)) hx hb d_Hasher_takeLong_0 (by decide) ?_
  refine lv_istore_n (lv' := [(3, .int (nI (0))), (0, .ref (g_ad V 1)), (1, .long (x))]) hx hb d_Hasher_takeLong_1 rfl hl (by decide) rfl (fun ls hl => ?_)
  have K2 : ∀ (n i : Nat), i + n = 8 → ∀ (X1 : Mm) (H : Heap) (locs : List Loc), ∀ (ls : Array Slot), (fr X X1 [] [2] [1]) → (X1.2.1 2 = absN g (k + i)) → (X1.2.2 1 = nI (k + i)) → g_st V X1 s.heap H locs → lv_has ls 4 [(0, .ref (g_ad V 1)), (1, .long (x)), (3, .int (nI (i)))] → W p l e ({ frames := 2, cells := 0, slots := 0, locals := 43 } : Room) s m ([.ref (g_ad V 1), .long (x)] : List Value).toArray below meth c H locs 0 0 (MQ below (g_Qv V (fun X1 : Mm => X1.2.1 2 = absN g (k + 8) ∧ X1.2.2 1 = nI (k + 8) ∧ fr X X1 [] [2] [1])) ([.ref (g_ad V 1), .long (x)] : List Value).toArray s 0 0 (g_A V)) (F0 m 2 ls []) := by
    intro n
    induction n with
    | zero =>
      intro i hin2 X1 H locs ls hF h1 h2 hG hl
      have hi2 : 8 = i := by omega
      subst hi2
      refine lv_iload_n hx hb d_Hasher_takeLong_2 rfl (lv_at hl 2 rfl) ?_
      refine lv_bipush (v := nI (8)) hx hb d_Hasher_takeLong_3 (by decide) ?_
      refine lv_icmp_ge (tgt := 29) hx hb d_Hasher_takeLong_5 (by decide) (fun _ => ?_) (fun q => absurd ((g_geN (x := 8) (y := 8) (by omega) (by omega)).mp q) (by omega))
      exact g_vret hx hb hr hlocks hE hG (⟨h1, h2, hF⟩) d_Hasher_takeLong_29
    | succ n ih2 =>
      intro i hin2 X1 H locs ls hF h1 h2 hG hl
      have hi2 : i < 8 := by omega
      refine lv_iload_n hx hb d_Hasher_takeLong_2 rfl (lv_at hl 2 rfl) ?_
      refine lv_bipush (v := nI (8)) hx hb d_Hasher_takeLong_3 (by decide) ?_
      refine lv_icmp_ge (tgt := 29) hx hb d_Hasher_takeLong_5 (by decide) (fun q => absurd ((g_ge (x := i) (y := 8) (by omega) (by omega)).mp q) (by omega)) (fun _ => ?_)
      refine lv_aload_n hx hb d_Hasher_takeLong_8 rfl (lv_at hl 0 rfl) ?_
      refine lv_lload_n hx hb d_Hasher_takeLong_9 rfl (lv_at hl 1 rfl) ?_
      refine lv_bipush (v := nI (8)) hx hb d_Hasher_takeLong_10 (by decide) ?_
      refine lv_iload_n hx hb d_Hasher_takeLong_12 rfl (lv_at hl 2 rfl) ?_
      refine lv_imul hx hb d_Hasher_takeLong_13 ?_
      refine g_topi (y := nI (8 * i)) (pk_mul _ _) ?_
      refine lv_lushr (v := (x.toUInt64 >>> ((nI (8 * i)).toInt64.toUInt64 &&& Int64.toUInt64 63)).toInt64) hx hb d_Hasher_takeLong_14 rfl ?_
      refine lv_l2i (v := ((x.toUInt64 >>> ((nI (8 * i)).toInt64.toUInt64 &&& Int64.toUInt64 63)).toInt64).toInt32) hx hb d_Hasher_takeLong_15 rfl ?_
      refine lv_sipush (v := nI (255)) hx hb d_Hasher_takeLong_16 (by decide) ?_
      refine lv_iand hx hb d_Hasher_takeLong_19 ?_
      refine g_topi (y := g (k + i)) (hg i (by omega)) ?_
      refine g_callv (va_runV (As := [.int (g (k + i))]) (rest := []) ⟨hx, hb, hml, hown, hts⟩ (c_take l V X1 g (k + i) (by omega) h1 h2) (cwV 1 hts (g_goodV kw_241 kw_238 kw_239 kw_240 kw_2) rfl rfl rfl (by decide +kernel) ⟨Nat.le_of_ble_eq_true rfl, Nat.le_of_ble_eq_true rfl⟩) (g_preV (k0 := 1) (ci := 1) hE hG (by decide) rfl rfl) rfl rfl hl.1 rfl (lv_room (Nat.le_of_ble_eq_true rfl)) d_Hasher_takeLong_20 ⟨Nat.le_refl 0, Nat.le_refl 0⟩) hG (fun X2 H locs q2 hG => ?_)
      refine lv_iinc (v := nI (i + 1)) (lv' := [(3, .int (nI (i + 1))), (0, .ref (g_ad V 1)), (1, .long (x))]) hx hb d_Hasher_takeLong_23 hl (k := 2) rfl (g_inc _) (by decide) rfl (fun ls hl => ?_)
      refine lv_goto (tgt := 2) hx hb d_Hasher_takeLong_26 (by decide) ?_
      exact ih2 (i + 1) (by omega) X2 _ _ ls (fr_tr hF q2.2.2) q2.1 q2.2.1 hG (lv_sub hl [1, 2, 0] rfl)
  exact K2 (8 - 0) 0 (by omega) X _ _ ls (fr_rf X _ _ _) hL hT hG (lv_sub hl [1, 2, 0] rfl)

set_option maxHeartbeats 4000000 in
set_option maxRecDepth 100000 in
theorem c_mixColumns (l : Launch) (V : Ev) (X : Mm)  : Met l y_Hasher_mixColumns (Cond.code y_Hasher_mixColumns b_Hasher_mixColumns 2 none :: WA) ({ frames := 1, cells := 0, slots := 0, locals := 22 } : Room) (g_Pc V X [.ref (g_ad V 1)]) (g_Qv V (fun X1 : Mm => X1.2.1 2 = theP (X.2.1 2) ∧ fr X X1 [] [2, 4] [])) 0 0 (g_A V) := by
  refine g_met (by decide) (Nat.le_of_ble_eq_true rfl) ?_
  intro p e s m below meth c hx hb hr hml hown hts hlocks hE hG ls hl
  have hl : lv_has ls 2 [(0, .ref (g_ad V 1))] := hl
  have hown : s.vm.findClass R_Hasher = some m.cls := hown
  refine lv_iconst (v := nI (0)) hx hb d_Hasher_mixColumns_0 (by decide) ?_
  refine lv_istore_n (lv' := [(1, .int (nI (0))), (0, .ref (g_ad V 1))]) hx hb d_Hasher_mixColumns_1 rfl hl (by decide) rfl (fun ls hl => ?_)
  have K2 : ∀ (n i : Nat), i + n = 5 → ∀ (X1 : Mm) (H : Heap) (locs : List Loc), ∀ (ls : Array Slot), (fr X X1 [] [4] []) → (X1.2.1 4 = segL (colP (X.2.1 2)) (X.2.1 4) i) → g_st V X1 s.heap H locs → lv_has ls 2 [(0, .ref (g_ad V 1)), (1, .int (nI (i)))] → W p l e ({ frames := 1, cells := 0, slots := 0, locals := 22 } : Room) s m ([.ref (g_ad V 1)] : List Value).toArray below meth c H locs 0 0 (MQ below (g_Qv V (fun X1 : Mm => X1.2.1 2 = theP (X.2.1 2) ∧ fr X X1 [] [2, 4] [])) ([.ref (g_ad V 1)] : List Value).toArray s 0 0 (g_A V)) (F0 m 2 ls []) := by
    intro n
    induction n with
    | zero =>
      intro i hin2 X1 H locs ls hF hC hG hl
      have hi2 : 5 = i := by omega
      subst hi2
      refine lv_iload_n hx hb d_Hasher_mixColumns_2 rfl (lv_at hl 1 rfl) ?_
      refine lv_iconst (v := nI (5)) hx hb d_Hasher_mixColumns_3 (by decide) ?_
      refine lv_icmp_ge (tgt := 64) hx hb d_Hasher_mixColumns_4 (by decide) (fun _ => ?_) (fun q => absurd ((g_geN (x := 5) (y := 5) (by omega) (by omega)).mp q) (by omega))
      have hG := g_xl hG 4 rfl (colP (X.2.1 2)) (fun j hj => by rw [hC]; exact segL_e _ _ hj)
      refine lv_iconst (v := nI (0)) hx hb d_Hasher_mixColumns_64 (by decide) ?_
      refine lv_istore_n (lv' := [(1, .int (nI (0))), (0, .ref (g_ad V 1))]) hx hb d_Hasher_mixColumns_65 rfl hl (by decide) rfl (fun ls hl => ?_)
      have K66 : ∀ (n i : Nat), i + n = 25 → ∀ (X2 : Mm) (H : Heap) (locs : List Loc), ∀ (ls : Array Slot), (fr X X2 [] [2, 4] []) → (X2.2.1 4 = colP (X.2.1 2)) → (X2.2.1 2 = segL (theP (X.2.1 2)) (X.2.1 2) i) → g_st V X2 s.heap H locs → lv_has ls 2 [(0, .ref (g_ad V 1)), (1, .int (nI (i)))] → W p l e ({ frames := 1, cells := 0, slots := 0, locals := 22 } : Room) s m ([.ref (g_ad V 1)] : List Value).toArray below meth c H locs 0 0 (MQ below (g_Qv V (fun X1 : Mm => X1.2.1 2 = theP (X.2.1 2) ∧ fr X X1 [] [2, 4] [])) ([.ref (g_ad V 1)] : List Value).toArray s 0 0 (g_A V)) (F0 m 66 ls []) := by
        intro n
        induction n with
        | zero =>
          intro i hin66 X2 H locs ls hF2 hC2 hL2 hG hl
          have hi66 : 25 = i := by omega
          subst hi66
          refine lv_iload_n hx hb d_Hasher_mixColumns_66 rfl (lv_at hl 1 rfl) ?_
          refine lv_bipush (v := nI (25)) hx hb d_Hasher_mixColumns_67 (by decide) ?_
          refine lv_icmp_ge (tgt := 112) hx hb d_Hasher_mixColumns_69 (by decide) (fun _ => ?_) (fun q => absurd ((g_geN (x := 25) (y := 25) (by omega) (by omega)).mp q) (by omega))
          have hG := g_xl hG 2 rfl (theP (X.2.1 2)) (fun j hj => by rw [hL2]; exact segL_e _ _ hj)
          exact g_vret hx hb hr hlocks hE hG (⟨uL_s _ _ _, fr_l hF2 _ (by decide)⟩) d_Hasher_mixColumns_112
        | succ n ih66 =>
          intro i hin66 X2 H locs ls hF2 hC2 hL2 hG hl
          have hi66 : i < 25 := by omega
          refine lv_iload_n hx hb d_Hasher_mixColumns_66 rfl (lv_at hl 1 rfl) ?_
          refine lv_bipush (v := nI (25)) hx hb d_Hasher_mixColumns_67 (by decide) ?_
          refine lv_icmp_ge (tgt := 112) hx hb d_Hasher_mixColumns_69 (by decide) (fun q => absurd ((g_ge (x := i) (y := 25) (by omega) (by omega)).mp q) (by omega)) (fun _ => ?_)
          refine lv_aload_n hx hb d_Hasher_mixColumns_72 rfl (lv_at hl 0 rfl) ?_
          refine g_get (ci := 1) (v := .ref (g_ad V 2)) (C := R_Hasher) (T := F_Hasher) (N := 5) hx hb hts (fun w h => List.mem_cons_of_mem _ (in_Hasher w h)) hown hE hG 1 (by decide) rfl rfl 0 (by decide) (hts _ (List.mem_cons_of_mem _ kw_31)) (fun _ h9 => h9) rfl d_Hasher_mixColumns_73 ?_
          refine lv_iload_n hx hb d_Hasher_mixColumns_76 rfl (lv_at hl 1 rfl) ?_
          refine lv_dup2_11 hx hb d_Hasher_mixColumns_77 rfl rfl ?_
          refine g_lald hx hb hE hG 2 rfl (i) (rfl) (show _ < 25 by omega) (v := X.2.1 2 i) ((congrFun hL2 i).trans (segL_ge _ _ (Nat.le_refl i))) d_Hasher_mixColumns_78 ?_
          refine lv_aload_n hx hb d_Hasher_mixColumns_79 rfl (lv_at hl 0 rfl) ?_
          refine g_get (ci := 1) (v := .ref (g_ad V 4)) (C := R_Hasher) (T := F_Hasher) (N := 5) hx hb hts (fun w h => List.mem_cons_of_mem _ (in_Hasher w h)) hown hE hG 1 (by decide) rfl rfl 2 (by decide) (hts _ (List.mem_cons_of_mem _ kw_33)) (fun _ h9 => h9) rfl d_Hasher_mixColumns_80 ?_
          refine lv_iload_n hx hb d_Hasher_mixColumns_83 rfl (lv_at hl 1 rfl) ?_
          refine lv_iconst (v := nI (4)) hx hb d_Hasher_mixColumns_84 (by decide) ?_
          refine lv_iadd hx hb d_Hasher_mixColumns_85 ?_
          refine g_topi (y := nI (i + 4)) (nI_add _ _) ?_
          refine lv_iconst (v := nI (5)) hx hb d_Hasher_mixColumns_86 (by decide) ?_
          refine lv_irem hx hb d_Hasher_mixColumns_87 (by decide) ?_
          refine g_topi (y := nI ((i + 4) % 5)) (pk_rem (by omega) (by omega) (by omega)) ?_
          refine g_lald hx hb hE hG 4 rfl ((i + 4) % 5) (rfl) (show _ < 5 by omega) (v := colP (X.2.1 2) ((i + 4) % 5)) (congrFun hC2 _) d_Hasher_mixColumns_88 ?_
          refine lv_aload_n hx hb d_Hasher_mixColumns_89 rfl (lv_at hl 0 rfl) ?_
          refine g_get (ci := 1) (v := .ref (g_ad V 4)) (C := R_Hasher) (T := F_Hasher) (N := 5) hx hb hts (fun w h => List.mem_cons_of_mem _ (in_Hasher w h)) hown hE hG 1 (by decide) rfl rfl 2 (by decide) (hts _ (List.mem_cons_of_mem _ kw_33)) (fun _ h9 => h9) rfl d_Hasher_mixColumns_90 ?_
          refine lv_iload_n hx hb d_Hasher_mixColumns_93 rfl (lv_at hl 1 rfl) ?_
          refine lv_iconst (v := nI (1)) hx hb d_Hasher_mixColumns_94 (by decide) ?_
          refine lv_iadd hx hb d_Hasher_mixColumns_95 ?_
          refine g_topi (y := nI (i + 1)) (nI_add _ _) ?_
          refine lv_iconst (v := nI (5)) hx hb d_Hasher_mixColumns_96 (by decide) ?_
          refine lv_irem hx hb d_Hasher_mixColumns_97 (by decide) ?_
          refine g_topi (y := nI ((i + 1) % 5)) (pk_rem (by omega) (by omega) (by omega)) ?_
          refine g_lald hx hb hE hG 4 rfl ((i + 1) % 5) (rfl) (show _ < 5 by omega) (v := colP (X.2.1 2) ((i + 1) % 5)) (congrFun hC2 _) d_Hasher_mixColumns_98 ?_
          refine lv_iconst (v := nI (1)) hx hb d_Hasher_mixColumns_99 (by decide) ?_
          refine g_callpl (va_runS (As := [.long (colP (X.2.1 2) ((i + 1) % 5)), .int (nI (1))]) (rest := [.long (colP (X.2.1 2) ((i + 4) % 5)), .long (X.2.1 2 i), .int (nI (i)), .ref (g_ad V 2)]) ⟨hx, hb, hml, hown, hts⟩ (c_rotl l (colP (X.2.1 2) ((i + 1) % 5)) (nI 1)) (va_cwS 2 hts (g_goodS kw_256 kw_254 kw_255 kw_10) rfl rfl rfl (by decide +kernel) ⟨Nat.le_of_ble_eq_true rfl, Nat.le_of_ble_eq_true rfl⟩) ⟨fun _ _ _ _ q => q, fun _ _ _ => rfl⟩ rfl rfl hl.1 rfl (lv_room (Nat.le_of_ble_eq_true rfl)) d_Hasher_mixColumns_100 ⟨Nat.le_refl 0, Nat.le_refl 0⟩) (fun r3 r3e => ?_)
          refine lv_lxor hx hb d_Hasher_mixColumns_103 ?_
          refine lv_lxor hx hb d_Hasher_mixColumns_104 ?_
          refine g_last (x := (X.2.1 2 i) ^^^ ((colP (X.2.1 2) ((i + 4) % 5)) ^^^ r3)) hx hb hE hG 2 rfl (i) (rfl) (show _ < 25 by omega) d_Hasher_mixColumns_105 (fun H locs hG => ?_)
          refine lv_iinc (v := nI (i + 1)) (lv' := [(1, .int (nI (i + 1))), (0, .ref (g_ad V 1))]) hx hb d_Hasher_mixColumns_106 hl (k := 1) rfl (g_inc _) (by decide) rfl (fun ls hl => ?_)
          refine lv_goto (tgt := 66) hx hb d_Hasher_mixColumns_109 (by decide) ?_
          exact ih66 (i + 1) (by omega) (uL X2 2 (vp_updL (X2.2.1 2) i ((X.2.1 2 i) ^^^ ((colP (X.2.1 2) ((i + 4) % 5)) ^^^ r3)))) _ _ ls (fr_l hF2 _ (by decide)) ((uL_n _ _ (by decide)).trans hC2) (by rw [uL_s, hL2, r3e]; exact segL_s (theP (X.2.1 2)) _ _) hG (lv_sub hl [1, 0] rfl)
      exact K66 (25 - 0) 0 (by omega) (uL X1 4 (colP (X.2.1 2))) _ _ ls (fr_l (fr_mono hF (by decide) (by decide) (by decide)) _ (by decide)) (uL_s _ _ _) ((hF.2.1 2 (by decide)).trans (segL_0 _ _).symm) hG (lv_sub hl [1, 0] rfl)
    | succ n ih2 =>
      intro i hin2 X1 H locs ls hF hC hG hl
      have hi2 : i < 5 := by omega
      refine lv_iload_n hx hb d_Hasher_mixColumns_2 rfl (lv_at hl 1 rfl) ?_
      refine lv_iconst (v := nI (5)) hx hb d_Hasher_mixColumns_3 (by decide) ?_
      refine lv_icmp_ge (tgt := 64) hx hb d_Hasher_mixColumns_4 (by decide) (fun q => absurd ((g_ge (x := i) (y := 5) (by omega) (by omega)).mp q) (by omega)) (fun _ => ?_)
      refine lv_aload_n hx hb d_Hasher_mixColumns_7 rfl (lv_at hl 0 rfl) ?_
      refine g_get (ci := 1) (v := .ref (g_ad V 4)) (C := R_Hasher) (T := F_Hasher) (N := 5) hx hb hts (fun w h => List.mem_cons_of_mem _ (in_Hasher w h)) hown hE hG 1 (by decide) rfl rfl 2 (by decide) (hts _ (List.mem_cons_of_mem _ kw_33)) (fun _ h9 => h9) rfl d_Hasher_mixColumns_8 ?_
      refine lv_iload_n hx hb d_Hasher_mixColumns_11 rfl (lv_at hl 1 rfl) ?_
      refine lv_aload_n hx hb d_Hasher_mixColumns_12 rfl (lv_at hl 0 rfl) ?_
      refine g_get (ci := 1) (v := .ref (g_ad V 2)) (C := R_Hasher) (T := F_Hasher) (N := 5) hx hb hts (fun w h => List.mem_cons_of_mem _ (in_Hasher w h)) hown hE hG 1 (by decide) rfl rfl 0 (by decide) (hts _ (List.mem_cons_of_mem _ kw_31)) (fun _ h9 => h9) rfl d_Hasher_mixColumns_13 ?_
      refine lv_iload_n hx hb d_Hasher_mixColumns_16 rfl (lv_at hl 1 rfl) ?_
      refine g_lald hx hb hE hG 2 rfl (i) (rfl) (show _ < 25 by omega) (v := X.2.1 2 (i)) (congrFun (hF.2.1 2 (by decide)) _) d_Hasher_mixColumns_17 ?_
      refine lv_aload_n hx hb d_Hasher_mixColumns_18 rfl (lv_at hl 0 rfl) ?_
      refine g_get (ci := 1) (v := .ref (g_ad V 2)) (C := R_Hasher) (T := F_Hasher) (N := 5) hx hb hts (fun w h => List.mem_cons_of_mem _ (in_Hasher w h)) hown hE hG 1 (by decide) rfl rfl 0 (by decide) (hts _ (List.mem_cons_of_mem _ kw_31)) (fun _ h9 => h9) rfl d_Hasher_mixColumns_19 ?_
      refine lv_iload_n hx hb d_Hasher_mixColumns_22 rfl (lv_at hl 1 rfl) ?_
      refine lv_iconst (v := nI (5)) hx hb d_Hasher_mixColumns_23 (by decide) ?_
      refine lv_iadd hx hb d_Hasher_mixColumns_24 ?_
      refine g_topi (y := nI (i + 5)) (nI_add _ _) ?_
      refine g_lald hx hb hE hG 2 rfl (i + 5) (rfl) (show _ < 25 by omega) (v := X.2.1 2 (i + 5)) (congrFun (hF.2.1 2 (by decide)) _) d_Hasher_mixColumns_25 ?_
      refine lv_lxor hx hb d_Hasher_mixColumns_26 ?_
      refine lv_aload_n hx hb d_Hasher_mixColumns_27 rfl (lv_at hl 0 rfl) ?_
      refine g_get (ci := 1) (v := .ref (g_ad V 2)) (C := R_Hasher) (T := F_Hasher) (N := 5) hx hb hts (fun w h => List.mem_cons_of_mem _ (in_Hasher w h)) hown hE hG 1 (by decide) rfl rfl 0 (by decide) (hts _ (List.mem_cons_of_mem _ kw_31)) (fun _ h9 => h9) rfl d_Hasher_mixColumns_28 ?_
      refine lv_iload_n hx hb d_Hasher_mixColumns_31 rfl (lv_at hl 1 rfl) ?_
      refine lv_bipush (v := nI (10)) hx hb d_Hasher_mixColumns_32 (by decide) ?_
      refine lv_iadd hx hb d_Hasher_mixColumns_34 ?_
      refine g_topi (y := nI (i + 10)) (nI_add _ _) ?_
      refine g_lald hx hb hE hG 2 rfl (i + 10) (rfl) (show _ < 25 by omega) (v := X.2.1 2 (i + 10)) (congrFun (hF.2.1 2 (by decide)) _) d_Hasher_mixColumns_35 ?_
      refine lv_lxor hx hb d_Hasher_mixColumns_36 ?_
      refine lv_aload_n hx hb d_Hasher_mixColumns_37 rfl (lv_at hl 0 rfl) ?_
      refine g_get (ci := 1) (v := .ref (g_ad V 2)) (C := R_Hasher) (T := F_Hasher) (N := 5) hx hb hts (fun w h => List.mem_cons_of_mem _ (in_Hasher w h)) hown hE hG 1 (by decide) rfl rfl 0 (by decide) (hts _ (List.mem_cons_of_mem _ kw_31)) (fun _ h9 => h9) rfl d_Hasher_mixColumns_38 ?_
      refine lv_iload_n hx hb d_Hasher_mixColumns_41 rfl (lv_at hl 1 rfl) ?_
      refine lv_bipush (v := nI (15)) hx hb d_Hasher_mixColumns_42 (by decide) ?_
      refine lv_iadd hx hb d_Hasher_mixColumns_44 ?_
      refine g_topi (y := nI (i + 15)) (nI_add _ _) ?_
      refine g_lald hx hb hE hG 2 rfl (i + 15) (rfl) (show _ < 25 by omega) (v := X.2.1 2 (i + 15)) (congrFun (hF.2.1 2 (by decide)) _) d_Hasher_mixColumns_45 ?_
      refine lv_lxor hx hb d_Hasher_mixColumns_46 ?_
      refine lv_aload_n hx hb d_Hasher_mixColumns_47 rfl (lv_at hl 0 rfl) ?_
      refine g_get (ci := 1) (v := .ref (g_ad V 2)) (C := R_Hasher) (T := F_Hasher) (N := 5) hx hb hts (fun w h => List.mem_cons_of_mem _ (in_Hasher w h)) hown hE hG 1 (by decide) rfl rfl 0 (by decide) (hts _ (List.mem_cons_of_mem _ kw_31)) (fun _ h9 => h9) rfl d_Hasher_mixColumns_48 ?_
      refine lv_iload_n hx hb d_Hasher_mixColumns_51 rfl (lv_at hl 1 rfl) ?_
      refine lv_bipush (v := nI (20)) hx hb d_Hasher_mixColumns_52 (by decide) ?_
      refine lv_iadd hx hb d_Hasher_mixColumns_54 ?_
      refine g_topi (y := nI (i + 20)) (nI_add _ _) ?_
      refine g_lald hx hb hE hG 2 rfl (i + 20) (rfl) (show _ < 25 by omega) (v := X.2.1 2 (i + 20)) (congrFun (hF.2.1 2 (by decide)) _) d_Hasher_mixColumns_55 ?_
      refine lv_lxor hx hb d_Hasher_mixColumns_56 ?_
      refine g_last (x := ((((X.2.1 2 (i)) ^^^ (X.2.1 2 (i + 5))) ^^^ (X.2.1 2 (i + 10))) ^^^ (X.2.1 2 (i + 15))) ^^^ (X.2.1 2 (i + 20))) hx hb hE hG 4 rfl (i) (rfl) (show _ < 5 by omega) d_Hasher_mixColumns_57 (fun H locs hG => ?_)
      refine lv_iinc (v := nI (i + 1)) (lv' := [(1, .int (nI (i + 1))), (0, .ref (g_ad V 1))]) hx hb d_Hasher_mixColumns_58 hl (k := 1) rfl (g_inc _) (by decide) rfl (fun ls hl => ?_)
      refine lv_goto (tgt := 2) hx hb d_Hasher_mixColumns_61 (by decide) ?_
      exact ih2 (i + 1) (by omega) (uL X1 4 (vp_updL (X1.2.1 4) i (((((X.2.1 2 (i)) ^^^ (X.2.1 2 (i + 5))) ^^^ (X.2.1 2 (i + 10))) ^^^ (X.2.1 2 (i + 15))) ^^^ (X.2.1 2 (i + 20))))) _ _ ls (fr_l hF _ (by decide)) (by rw [uL_s, hC]; exact segL_s (colP (X.2.1 2)) _ _) hG (lv_sub hl [1, 0] rfl)
  exact K2 (5 - 0) 0 (by omega) X _ _ ls (fr_rf X _ _ _) (segL_0 _ _).symm hG (lv_sub hl [1, 0] rfl)

set_option maxHeartbeats 4000000 in
set_option maxRecDepth 100000 in
theorem c_moveLanes (l : Launch) (V : Ev) (X : Mm)  : Met l y_Hasher_moveLanes (Cond.code y_Hasher_moveLanes b_Hasher_moveLanes 4 none :: WA) ({ frames := 1, cells := 0, slots := 0, locals := 22 } : Room) (g_Pc V X [.ref (g_ad V 1)]) (g_Qv V (fun X1 : Mm => X1.2.1 3 = movP (X.2.1 2) ∧ fr X X1 [] [3] [])) 0 0 (g_A V) := by
  refine g_met (by decide) (Nat.le_of_ble_eq_true rfl) ?_
  intro p e s m below meth c hx hb hr hml hown hts hlocks hE hG ls hl
  have hl : lv_has ls 4 [(0, .ref (g_ad V 1))] := hl
  have hown : s.vm.findClass R_Hasher = some m.cls := hown
  refine lv_iconst (v := nI (0)) hx hb d_Hasher_moveLanes_0 (by decide) ?_
  refine lv_istore_n (lv' := [(1, .int (nI (0))), (0, .ref (g_ad V 1))]) hx hb d_Hasher_moveLanes_1 rfl hl (by decide) rfl (fun ls hl => ?_)
  have K2 : ∀ (n b : Nat), b + n = 5 → ∀ (X1 : Mm) (H : Heap) (locs : List Loc), ∀ (ls : Array Slot), (fr X X1 [] [3] []) → (X1.2.1 3 = mvS (X.2.1 2) (X.2.1 3) (0 + 5 * b)) → g_st V X1 s.heap H locs → lv_has ls 4 [(0, .ref (g_ad V 1)), (1, .int (nI (b)))] → W p l e ({ frames := 1, cells := 0, slots := 0, locals := 22 } : Room) s m ([.ref (g_ad V 1)] : List Value).toArray below meth c H locs 0 0 (MQ below (g_Qv V (fun X1 : Mm => X1.2.1 3 = movP (X.2.1 2) ∧ fr X X1 [] [3] [])) ([.ref (g_ad V 1)] : List Value).toArray s 0 0 (g_A V)) (F0 m 2 ls []) := by
    intro n
    induction n with
    | zero =>
      intro b hin2 X1 H locs ls hF hC hG hl
      have hi2 : 5 = b := by omega
      subst hi2
      refine lv_iload_n hx hb d_Hasher_moveLanes_2 rfl (lv_at hl 1 rfl) ?_
      refine lv_iconst (v := nI (5)) hx hb d_Hasher_moveLanes_3 (by decide) ?_
      refine lv_icmp_ge (tgt := 64) hx hb d_Hasher_moveLanes_4 (by decide) (fun _ => ?_) (fun q => absurd ((g_geN (x := 5) (y := 5) (by omega) (by omega)).mp q) (by omega))
      have hG := g_xl hG 3 rfl (movP (X.2.1 2)) (fun j hj => by rw [hC]; exact mvS_e _ _ hj)
      exact g_vret hx hb hr hlocks hE hG (⟨uL_s _ _ _, fr_l hF _ (by decide)⟩) d_Hasher_moveLanes_64
    | succ n ih2 =>
      intro b hin2 X1 H locs ls hF hC hG hl
      have hi2 : b < 5 := by omega
      refine lv_iload_n hx hb d_Hasher_moveLanes_2 rfl (lv_at hl 1 rfl) ?_
      refine lv_iconst (v := nI (5)) hx hb d_Hasher_moveLanes_3 (by decide) ?_
      refine lv_icmp_ge (tgt := 64) hx hb d_Hasher_moveLanes_4 (by decide) (fun q => absurd ((g_ge (x := b) (y := 5) (by omega) (by omega)).mp q) (by omega)) (fun _ => ?_)
      refine lv_iconst (v := nI (0)) hx hb d_Hasher_moveLanes_7 (by decide) ?_
      refine lv_istore_n (lv' := [(2, .int (nI (0))), (0, .ref (g_ad V 1)), (1, .int (nI (b)))]) hx hb d_Hasher_moveLanes_8 rfl hl (by decide) rfl (fun ls hl => ?_)
      have K9 : ∀ (n a : Nat), a + n = 5 → ∀ (X2 : Mm) (H : Heap) (locs : List Loc), ∀ (ls : Array Slot), (fr X X2 [] [3] []) → (X2.2.1 3 = mvS (X.2.1 2) (X.2.1 3) (a + 5 * b)) → g_st V X2 s.heap H locs → lv_has ls 4 [(0, .ref (g_ad V 1)), (1, .int (nI (b))), (2, .int (nI (a)))] → W p l e ({ frames := 1, cells := 0, slots := 0, locals := 22 } : Room) s m ([.ref (g_ad V 1)] : List Value).toArray below meth c H locs 0 0 (MQ below (g_Qv V (fun X1 : Mm => X1.2.1 3 = movP (X.2.1 2) ∧ fr X X1 [] [3] [])) ([.ref (g_ad V 1)] : List Value).toArray s 0 0 (g_A V)) (F0 m 9 ls []) := by
        intro n
        induction n with
        | zero =>
          intro a hin9 X2 H locs ls hF2 hC2 hG hl
          have hi9 : 5 = a := by omega
          subst hi9
          refine lv_iload_n hx hb d_Hasher_moveLanes_9 rfl (lv_at hl 2 rfl) ?_
          refine lv_iconst (v := nI (5)) hx hb d_Hasher_moveLanes_10 (by decide) ?_
          refine lv_icmp_ge (tgt := 58) hx hb d_Hasher_moveLanes_11 (by decide) (fun _ => ?_) (fun q => absurd ((g_geN (x := 5) (y := 5) (by omega) (by omega)).mp q) (by omega))
          refine lv_iinc (v := nI (b + 1)) (lv' := [(1, .int (nI (b + 1))), (0, .ref (g_ad V 1)), (2, .int (nI (5)))]) hx hb d_Hasher_moveLanes_58 hl (k := 1) rfl (g_inc _) (by decide) rfl (fun ls hl => ?_)
          refine lv_goto (tgt := 2) hx hb d_Hasher_moveLanes_61 (by decide) ?_
          exact ih2 (b + 1) (by omega) X2 _ _ ls hF2 (hC2.trans (congrArg (mvS _ _) (by omega))) hG (lv_sub hl [1, 0] rfl)
        | succ n ih9 =>
          intro a hin9 X2 H locs ls hF2 hC2 hG hl
          have hi9 : a < 5 := by omega
          refine lv_iload_n hx hb d_Hasher_moveLanes_9 rfl (lv_at hl 2 rfl) ?_
          refine lv_iconst (v := nI (5)) hx hb d_Hasher_moveLanes_10 (by decide) ?_
          refine lv_icmp_ge (tgt := 58) hx hb d_Hasher_moveLanes_11 (by decide) (fun q => absurd ((g_ge (x := a) (y := 5) (by omega) (by omega)).mp q) (by omega)) (fun _ => ?_)
          refine lv_iload_n hx hb d_Hasher_moveLanes_14 rfl (lv_at hl 2 rfl) ?_
          refine lv_iconst (v := nI (5)) hx hb d_Hasher_moveLanes_15 (by decide) ?_
          refine lv_iload_n hx hb d_Hasher_moveLanes_16 rfl (lv_at hl 1 rfl) ?_
          refine lv_imul hx hb d_Hasher_moveLanes_17 ?_
          refine g_topi (y := nI (5 * b)) (pk_mul _ _) ?_
          refine lv_iadd hx hb d_Hasher_moveLanes_18 ?_
          refine g_topi (y := nI (a + (5 * b))) (nI_add _ _) ?_
          refine lv_istore_n (lv' := [(3, .int (nI (a + (5 * b)))), (0, .ref (g_ad V 1)), (1, .int (nI (b))), (2, .int (nI (a)))]) hx hb d_Hasher_moveLanes_19 rfl hl (by decide) rfl (fun ls hl => ?_)
          refine lv_aload_n hx hb d_Hasher_moveLanes_20 rfl (lv_at hl 1 rfl) ?_
          refine g_get (ci := 1) (v := .ref (g_ad V 3)) (C := R_Hasher) (T := F_Hasher) (N := 5) hx hb hts (fun w h => List.mem_cons_of_mem _ (in_Hasher w h)) hown hE hG 1 (by decide) rfl rfl 1 (by decide) (hts _ (List.mem_cons_of_mem _ kw_32)) (fun _ h9 => h9) rfl d_Hasher_moveLanes_21 ?_
          refine lv_iload_n hx hb d_Hasher_moveLanes_24 rfl (lv_at hl 2 rfl) ?_
          refine lv_iconst (v := nI (5)) hx hb d_Hasher_moveLanes_25 (by decide) ?_
          refine lv_iconst (v := nI (2)) hx hb d_Hasher_moveLanes_26 (by decide) ?_
          refine lv_iload_n hx hb d_Hasher_moveLanes_27 rfl (lv_at hl 3 rfl) ?_
          refine lv_imul hx hb d_Hasher_moveLanes_28 ?_
          refine g_topi (y := nI (2 * a)) (pk_mul _ _) ?_
          refine lv_iconst (v := nI (3)) hx hb d_Hasher_moveLanes_29 (by decide) ?_
          refine lv_iload_n hx hb d_Hasher_moveLanes_30 rfl (lv_at hl 2 rfl) ?_
          refine lv_imul hx hb d_Hasher_moveLanes_31 ?_
          refine g_topi (y := nI (3 * b)) (pk_mul _ _) ?_
          refine lv_iadd hx hb d_Hasher_moveLanes_32 ?_
          refine g_topi (y := nI ((2 * a) + (3 * b))) (nI_add _ _) ?_
          refine lv_iconst (v := nI (5)) hx hb d_Hasher_moveLanes_33 (by decide) ?_
          refine lv_irem hx hb d_Hasher_moveLanes_34 (by decide) ?_
          refine g_topi (y := nI (((2 * a) + (3 * b)) % 5)) (pk_rem (by omega) (by omega) (by omega)) ?_
          refine lv_imul hx hb d_Hasher_moveLanes_35 ?_
          refine g_topi (y := nI (5 * (((2 * a) + (3 * b)) % 5))) (pk_mul _ _) ?_
          refine lv_iadd hx hb d_Hasher_moveLanes_36 ?_
          refine g_topi (y := nI (b + (5 * (((2 * a) + (3 * b)) % 5)))) (nI_add _ _) ?_
          refine lv_aload_n hx hb d_Hasher_moveLanes_37 rfl (lv_at hl 1 rfl) ?_
          refine g_get (ci := 1) (v := .ref (g_ad V 2)) (C := R_Hasher) (T := F_Hasher) (N := 5) hx hb hts (fun w h => List.mem_cons_of_mem _ (in_Hasher w h)) hown hE hG 1 (by decide) rfl rfl 0 (by decide) (hts _ (List.mem_cons_of_mem _ kw_31)) (fun _ h9 => h9) rfl d_Hasher_moveLanes_38 ?_
          refine lv_iload_n hx hb d_Hasher_moveLanes_41 rfl (lv_at hl 0 rfl) ?_
          refine g_lald hx hb hE hG 2 rfl (a + (5 * b)) (rfl) (show _ < 25 by omega) (v := X.2.1 2 (a + 5 * b)) (congrFun (hF2.2.1 2 (by decide)) _) d_Hasher_moveLanes_42 ?_
          refine va_gets hx hb hE.2.2.2.1 hG.2.2 hown (hts _ (List.mem_cons_of_mem _ kw_261)) (fun _ h9 => h9) d_Hasher_moveLanes_43 ?_
          refine lv_iload_n hx hb d_Hasher_moveLanes_46 rfl (lv_at hl 0 rfl) ?_
          refine va_ti hx hb hE.2.2.2.2 hG.2.2 (i := nI (a + (5 * b))) (vp_in_nI (by omega) (by omega)) (v := .int (rotT (a + (5 * b)))) (by rw [nI_clamp (by omega)]) d_Hasher_moveLanes_47 ?_
          refine g_callpl (va_runS (As := [.long (X.2.1 2 (a + 5 * b)), .int (rotT (a + (5 * b)))]) (rest := [.int (nI (b + (5 * (((2 * a) + (3 * b)) % 5)))), .ref (g_ad V 3)]) ⟨hx, hb, hml, hown, hts⟩ (c_rotl l (X.2.1 2 (a + 5 * b)) (rotT (a + 5 * b))) (va_cwS 2 hts (g_goodS kw_256 kw_254 kw_255 kw_10) rfl rfl rfl (by decide +kernel) ⟨Nat.le_of_ble_eq_true rfl, Nat.le_of_ble_eq_true rfl⟩) ⟨fun _ _ _ _ q => q, fun _ _ _ => rfl⟩ rfl rfl hl.1 rfl (lv_room (Nat.le_of_ble_eq_true rfl)) d_Hasher_moveLanes_48 ⟨Nat.le_refl 0, Nat.le_refl 0⟩) (fun r3 r3e => ?_)
          refine g_last (x := r3) hx hb hE hG 3 rfl (b + (5 * (((2 * a) + (3 * b)) % 5))) (rfl) (show _ < 25 by omega) d_Hasher_moveLanes_51 (fun H locs hG => ?_)
          refine lv_iinc (v := nI (a + 1)) (lv' := [(2, .int (nI (a + 1))), (3, .int (nI (a + (5 * b)))), (0, .ref (g_ad V 1)), (1, .int (nI (b)))]) hx hb d_Hasher_moveLanes_52 hl (k := 3) rfl (g_inc _) (by decide) rfl (fun ls hl => ?_)
          refine lv_goto (tgt := 9) hx hb d_Hasher_moveLanes_55 (by decide) ?_
          exact ih9 (a + 1) (by omega) (uL X2 3 (vp_updL (X2.2.1 3) (b + (5 * (((2 * a) + (3 * b)) % 5))) r3)) _ _ ls (fr_l hF2 _ (by decide)) (by rw [uL_s, hC2, r3e, mvS_s _ _ (by omega) (by omega)]; exact congrArg (mvS _ _) (by omega)) hG (lv_sub hl [2, 3, 0] rfl)
      exact K9 (5 - 0) 0 (by omega) X1 _ _ ls hF hC hG (lv_sub hl [1, 2, 0] rfl)
  exact K2 (5 - 0) 0 (by omega) X _ _ ls (fr_rf X _ _ _) (mvS_0 _ _).symm hG (lv_sub hl [1, 0] rfl)

set_option maxHeartbeats 4000000 in
set_option maxRecDepth 100000 in
theorem c_mixRows (l : Launch) (V : Ev) (X : Mm)  : Met l y_Hasher_mixRows (Cond.code y_Hasher_mixRows b_Hasher_mixRows 3 none :: WA) ({ frames := 0, cells := 0, slots := 0, locals := 0 } : Room) (g_Pc V X [.ref (g_ad V 1)]) (g_Qv V (fun X1 : Mm => X1.2.1 2 = chiP (X.2.1 3) ∧ fr X X1 [] [2] [])) 0 0 (g_A V) := by
  refine g_met (by decide) (Nat.le_of_ble_eq_true rfl) ?_
  intro p e s m below meth c hx hb hr hml hown hts hlocks hE hG ls hl
  have hl : lv_has ls 3 [(0, .ref (g_ad V 1))] := hl
  have hown : s.vm.findClass R_Hasher = some m.cls := hown
  refine lv_iconst (v := nI (0)) hx hb d_Hasher_mixRows_0 (by decide) ?_
  refine lv_istore_n (lv' := [(1, .int (nI (0))), (0, .ref (g_ad V 1))]) hx hb d_Hasher_mixRows_1 rfl hl (by decide) rfl (fun ls hl => ?_)
  have K2 : ∀ (n b : Nat), b + n = 5 → ∀ (X1 : Mm) (H : Heap) (locs : List Loc), ∀ (ls : Array Slot), (fr X X1 [] [2] []) → (X1.2.1 2 = segL (chiP (X.2.1 3)) (X.2.1 2) (5 * b + 0)) → g_st V X1 s.heap H locs → lv_has ls 3 [(0, .ref (g_ad V 1)), (1, .int (nI (5 * b)))] → W p l e ({ frames := 0, cells := 0, slots := 0, locals := 0 } : Room) s m ([.ref (g_ad V 1)] : List Value).toArray below meth c H locs 0 0 (MQ below (g_Qv V (fun X1 : Mm => X1.2.1 2 = chiP (X.2.1 3) ∧ fr X X1 [] [2] [])) ([.ref (g_ad V 1)] : List Value).toArray s 0 0 (g_A V)) (F0 m 2 ls []) := by
    intro n
    induction n with
    | zero =>
      intro b hin2 X1 H locs ls hF hC hG hl
      have hi2 : 5 = b := by omega
      subst hi2
      refine lv_iload_n hx hb d_Hasher_mixRows_2 rfl (lv_at hl 1 rfl) ?_
      refine lv_bipush (v := nI (25)) hx hb d_Hasher_mixRows_3 (by decide) ?_
      refine lv_icmp_ge (tgt := 73) hx hb d_Hasher_mixRows_5 (by decide) (fun _ => ?_) (fun q => absurd ((g_geN (x := 5 * 5) (y := 25) (by omega) (by omega)).mp q) (by omega))
      have hG := g_xl hG 2 rfl (chiP (X.2.1 3)) (fun j hj => by rw [hC]; exact segL_e _ _ hj)
      exact g_vret hx hb hr hlocks hE hG (⟨uL_s _ _ _, fr_l hF _ (by decide)⟩) d_Hasher_mixRows_73
    | succ n ih2 =>
      intro b hin2 X1 H locs ls hF hC hG hl
      have hi2 : b < 5 := by omega
      refine lv_iload_n hx hb d_Hasher_mixRows_2 rfl (lv_at hl 1 rfl) ?_
      refine lv_bipush (v := nI (25)) hx hb d_Hasher_mixRows_3 (by decide) ?_
      refine lv_icmp_ge (tgt := 73) hx hb d_Hasher_mixRows_5 (by decide) (fun q => absurd ((g_ge (x := 5 * b) (y := 25) (by omega) (by omega)).mp q) (by omega)) (fun _ => ?_)
      refine lv_iconst (v := nI (0)) hx hb d_Hasher_mixRows_8 (by decide) ?_
      refine lv_istore_n (lv' := [(2, .int (nI (0))), (0, .ref (g_ad V 1)), (1, .int (nI (5 * b)))]) hx hb d_Hasher_mixRows_9 rfl hl (by decide) rfl (fun ls hl => ?_)
      have K10 : ∀ (n a : Nat), a + n = 5 → ∀ (X2 : Mm) (H : Heap) (locs : List Loc), ∀ (ls : Array Slot), (fr X X2 [] [2] []) → (X2.2.1 2 = segL (chiP (X.2.1 3)) (X.2.1 2) (5 * b + a)) → g_st V X2 s.heap H locs → lv_has ls 3 [(0, .ref (g_ad V 1)), (1, .int (nI (5 * b))), (2, .int (nI (a)))] → W p l e ({ frames := 0, cells := 0, slots := 0, locals := 0 } : Room) s m ([.ref (g_ad V 1)] : List Value).toArray below meth c H locs 0 0 (MQ below (g_Qv V (fun X1 : Mm => X1.2.1 2 = chiP (X.2.1 3) ∧ fr X X1 [] [2] [])) ([.ref (g_ad V 1)] : List Value).toArray s 0 0 (g_A V)) (F0 m 10 ls []) := by
        intro n
        induction n with
        | zero =>
          intro a hin10 X2 H locs ls hF2 hC2 hG hl
          have hi10 : 5 = a := by omega
          subst hi10
          refine lv_iload_n hx hb d_Hasher_mixRows_10 rfl (lv_at hl 2 rfl) ?_
          refine lv_iconst (v := nI (5)) hx hb d_Hasher_mixRows_11 (by decide) ?_
          refine lv_icmp_ge (tgt := 67) hx hb d_Hasher_mixRows_12 (by decide) (fun _ => ?_) (fun q => absurd ((g_geN (x := 5) (y := 5) (by omega) (by omega)).mp q) (by omega))
          refine lv_iinc (v := nI (5 * (b + 1))) (lv' := [(1, .int (nI (5 * (b + 1)))), (0, .ref (g_ad V 1)), (2, .int (nI (5)))]) hx hb d_Hasher_mixRows_67 hl (k := 1) rfl (by rw [Nat.mul_add]; exact nI_add (5 * b) 5) (by decide) rfl (fun ls hl => ?_)
          refine lv_goto (tgt := 2) hx hb d_Hasher_mixRows_70 (by decide) ?_
          exact ih2 (b + 1) (by omega) X2 _ _ ls hF2 (hC2.trans (congrArg (segL _ _) (by omega))) hG (lv_sub hl [1, 0] rfl)
        | succ n ih10 =>
          intro a hin10 X2 H locs ls hF2 hC2 hG hl
          have hi10 : a < 5 := by omega
          refine lv_iload_n hx hb d_Hasher_mixRows_10 rfl (lv_at hl 2 rfl) ?_
          refine lv_iconst (v := nI (5)) hx hb d_Hasher_mixRows_11 (by decide) ?_
          refine lv_icmp_ge (tgt := 67) hx hb d_Hasher_mixRows_12 (by decide) (fun q => absurd ((g_ge (x := a) (y := 5) (by omega) (by omega)).mp q) (by omega)) (fun _ => ?_)
          refine lv_aload_n hx hb d_Hasher_mixRows_15 rfl (lv_at hl 0 rfl) ?_
          refine g_get (ci := 1) (v := .ref (g_ad V 2)) (C := R_Hasher) (T := F_Hasher) (N := 5) hx hb hts (fun w h => List.mem_cons_of_mem _ (in_Hasher w h)) hown hE hG 1 (by decide) rfl rfl 0 (by decide) (hts _ (List.mem_cons_of_mem _ kw_31)) (fun _ h9 => h9) rfl d_Hasher_mixRows_16 ?_
          refine lv_iload_n hx hb d_Hasher_mixRows_19 rfl (lv_at hl 1 rfl) ?_
          refine lv_iload_n hx hb d_Hasher_mixRows_20 rfl (lv_at hl 2 rfl) ?_
          refine lv_iadd hx hb d_Hasher_mixRows_21 ?_
          refine g_topi (y := nI ((5 * b) + a)) (nI_add _ _) ?_
          refine lv_aload_n hx hb d_Hasher_mixRows_22 rfl (lv_at hl 0 rfl) ?_
          refine g_get (ci := 1) (v := .ref (g_ad V 3)) (C := R_Hasher) (T := F_Hasher) (N := 5) hx hb hts (fun w h => List.mem_cons_of_mem _ (in_Hasher w h)) hown hE hG 1 (by decide) rfl rfl 1 (by decide) (hts _ (List.mem_cons_of_mem _ kw_32)) (fun _ h9 => h9) rfl d_Hasher_mixRows_23 ?_
          refine lv_iload_n hx hb d_Hasher_mixRows_26 rfl (lv_at hl 1 rfl) ?_
          refine lv_iload_n hx hb d_Hasher_mixRows_27 rfl (lv_at hl 2 rfl) ?_
          refine lv_iadd hx hb d_Hasher_mixRows_28 ?_
          refine g_topi (y := nI ((5 * b) + a)) (nI_add _ _) ?_
          refine g_lald hx hb hE hG 3 rfl ((5 * b) + a) (rfl) (show _ < 25 by omega) (v := X.2.1 3 (5 * b + a)) (congrFun (hF2.2.1 3 (by decide)) _) d_Hasher_mixRows_29 ?_
          refine lv_aload_n hx hb d_Hasher_mixRows_30 rfl (lv_at hl 0 rfl) ?_
          refine g_get (ci := 1) (v := .ref (g_ad V 3)) (C := R_Hasher) (T := F_Hasher) (N := 5) hx hb hts (fun w h => List.mem_cons_of_mem _ (in_Hasher w h)) hown hE hG 1 (by decide) rfl rfl 1 (by decide) (hts _ (List.mem_cons_of_mem _ kw_32)) (fun _ h9 => h9) rfl d_Hasher_mixRows_31 ?_
          refine lv_iload_n hx hb d_Hasher_mixRows_34 rfl (lv_at hl 1 rfl) ?_
          refine lv_iload_n hx hb d_Hasher_mixRows_35 rfl (lv_at hl 2 rfl) ?_
          refine lv_iconst (v := nI (1)) hx hb d_Hasher_mixRows_36 (by decide) ?_
          refine lv_iadd hx hb d_Hasher_mixRows_37 ?_
          refine g_topi (y := nI (a + 1)) (nI_add _ _) ?_
          refine lv_iconst (v := nI (5)) hx hb d_Hasher_mixRows_38 (by decide) ?_
          refine lv_irem hx hb d_Hasher_mixRows_39 (by decide) ?_
          refine g_topi (y := nI ((a + 1) % 5)) (pk_rem (by omega) (by omega) (by omega)) ?_
          refine lv_iadd hx hb d_Hasher_mixRows_40 ?_
          refine g_topi (y := nI ((5 * b) + ((a + 1) % 5))) (nI_add _ _) ?_
          refine g_lald hx hb hE hG 3 rfl ((5 * b) + ((a + 1) % 5)) (rfl) (show _ < 25 by omega) (v := X.2.1 3 (5 * b + (a + 1) % 5)) (congrFun (hF2.2.1 3 (by decide)) _) d_Hasher_mixRows_41 ?_
          refine lv_ldc2 (v := -1) hx hb hown (hts _ (List.mem_cons_of_mem _ kw_267)) d_Hasher_mixRows_42 ?_
          refine lv_lxor hx hb d_Hasher_mixRows_45 ?_
          refine lv_aload_n hx hb d_Hasher_mixRows_46 rfl (lv_at hl 0 rfl) ?_
          refine g_get (ci := 1) (v := .ref (g_ad V 3)) (C := R_Hasher) (T := F_Hasher) (N := 5) hx hb hts (fun w h => List.mem_cons_of_mem _ (in_Hasher w h)) hown hE hG 1 (by decide) rfl rfl 1 (by decide) (hts _ (List.mem_cons_of_mem _ kw_32)) (fun _ h9 => h9) rfl d_Hasher_mixRows_47 ?_
          refine lv_iload_n hx hb d_Hasher_mixRows_50 rfl (lv_at hl 1 rfl) ?_
          refine lv_iload_n hx hb d_Hasher_mixRows_51 rfl (lv_at hl 2 rfl) ?_
          refine lv_iconst (v := nI (2)) hx hb d_Hasher_mixRows_52 (by decide) ?_
          refine lv_iadd hx hb d_Hasher_mixRows_53 ?_
          refine g_topi (y := nI (a + 2)) (nI_add _ _) ?_
          refine lv_iconst (v := nI (5)) hx hb d_Hasher_mixRows_54 (by decide) ?_
          refine lv_irem hx hb d_Hasher_mixRows_55 (by decide) ?_
          refine g_topi (y := nI ((a + 2) % 5)) (pk_rem (by omega) (by omega) (by omega)) ?_
          refine lv_iadd hx hb d_Hasher_mixRows_56 ?_
          refine g_topi (y := nI ((5 * b) + ((a + 2) % 5))) (nI_add _ _) ?_
          refine g_lald hx hb hE hG 3 rfl ((5 * b) + ((a + 2) % 5)) (rfl) (show _ < 25 by omega) (v := X.2.1 3 (5 * b + (a + 2) % 5)) (congrFun (hF2.2.1 3 (by decide)) _) d_Hasher_mixRows_57 ?_
          refine lv_land hx hb d_Hasher_mixRows_58 ?_
          refine lv_lxor hx hb d_Hasher_mixRows_59 ?_
          refine g_last (x := (X.2.1 3 (5 * b + a)) ^^^ (((X.2.1 3 (5 * b + (a + 1) % 5)) ^^^ (-1)) &&& (X.2.1 3 (5 * b + (a + 2) % 5)))) hx hb hE hG 2 rfl ((5 * b) + a) (rfl) (show _ < 25 by omega) d_Hasher_mixRows_60 (fun H locs hG => ?_)
          refine lv_iinc (v := nI (a + 1)) (lv' := [(2, .int (nI (a + 1))), (0, .ref (g_ad V 1)), (1, .int (nI (5 * b)))]) hx hb d_Hasher_mixRows_61 hl (k := 2) rfl (g_inc _) (by decide) rfl (fun ls hl => ?_)
          refine lv_goto (tgt := 10) hx hb d_Hasher_mixRows_64 (by decide) ?_
          exact ih10 (a + 1) (by omega) (uL X2 2 (vp_updL (X2.2.1 2) ((5 * b) + a) ((X.2.1 3 (5 * b + a)) ^^^ (((X.2.1 3 (5 * b + (a + 1) % 5)) ^^^ (-1)) &&& (X.2.1 3 (5 * b + (a + 2) % 5)))))) _ _ ls (fr_l hF2 _ (by decide)) (by rw [uL_s, hC2, ← chi_at (X.2.1 3) (show a < 5 by omega)]; exact segL_s _ _ _) hG (lv_sub hl [1, 2, 0] rfl)
      exact K10 (5 - 0) 0 (by omega) X1 _ _ ls hF hC hG (lv_sub hl [1, 2, 0] rfl)
  exact K2 (5 - 0) 0 (by omega) X _ _ ls (fr_rf X _ _ _) (segL_0 _ _).symm hG (lv_sub hl [1, 0] rfl)

set_option maxHeartbeats 4000000 in
set_option maxRecDepth 100000 in
theorem c_finish (l : Launch) (V : Ev) (X : Mm) (g : Nat → Int32) (k : Nat) (hk : k ≤ 135) (hL : X.2.1 2 = absN g k) (hT : X.2.2 1 = nI k) : Met l y_Hasher_finish (Cond.code y_Hasher_finish b_Hasher_finish 2 (some (.array .int)) :: WA) ({ frames := 2, cells := 0, slots := 0, locals := 45 } : Room) (g_Pc V X [.ref (g_ad V 1)]) (g_Qr V 17 (fun X1 : Mm => X1.1 17 = HS g k ∧ fr X X1 [17] [2, 3, 4] [])) 0 0 (g_A V) := by
  refine g_met (by decide) (Nat.le_of_ble_eq_true rfl) ?_
  intro p e s m below meth c hx hb hr hml hown hts hlocks hE hG ls hl
  have hl : lv_has ls 2 [(0, .ref (g_ad V 1))] := hl
  have hown : s.vm.findClass R_Hasher = some m.cls := hown
  refine lv_aload_n hx hb d_Hasher_finish_0 rfl (lv_at hl 0 rfl) ?_
  refine lv_aload_n hx hb d_Hasher_finish_1 rfl (lv_at hl 0 rfl) ?_
  refine g_get (ci := 1) (v := .int (X.2.2 1)) (C := R_Hasher) (T := F_Hasher) (N := 5) hx hb hts (fun w h => List.mem_cons_of_mem _ (in_Hasher w h)) hown hE hG 1 (by decide) rfl rfl 4 (by decide) (hts _ (List.mem_cons_of_mem _ kw_35)) (fun _ h9 => h9) rfl d_Hasher_finish_2 ?_
  refine g_topi (y := nI (k)) (hT) ?_
  refine lv_bipush (v := nI (31)) hx hb d_Hasher_finish_5 (by decide) ?_
  refine g_callv (va_runV (As := [.int (nI (k)), .int (nI (31))]) (rest := []) ⟨hx, hb, hml, hown, hts⟩ (c_mixByte l V X k (nI 31) (by omega)) (cwV 2 hts (g_goodV kw_245 kw_242 kw_244 kp_0 kw_2) rfl rfl rfl (by decide +kernel) ⟨Nat.le_of_ble_eq_true rfl, Nat.le_of_ble_eq_true rfl⟩) (g_preV (k0 := 1) (ci := 1) hE hG (by decide) rfl rfl) rfl rfl hl.1 rfl (lv_room (Nat.le_of_ble_eq_true rfl)) d_Hasher_finish_7 ⟨Nat.le_refl 0, Nat.le_refl 0⟩) hG (fun Xa H locs qa hG => ?_)
  refine lv_aload_n hx hb d_Hasher_finish_10 rfl (lv_at hl 0 rfl) ?_
  refine lv_sipush (v := nI (135)) hx hb d_Hasher_finish_11 (by decide) ?_
  refine lv_sipush (v := nI (128)) hx hb d_Hasher_finish_14 (by decide) ?_
  refine g_callv (va_runV (As := [.int (nI (135)), .int (nI (128))]) (rest := []) ⟨hx, hb, hml, hown, hts⟩ (c_mixByte l V Xa 135 (nI 128) (by omega)) (cwV 2 hts (g_goodV kw_245 kw_242 kw_244 kp_0 kw_2) rfl rfl rfl (by decide +kernel) ⟨Nat.le_of_ble_eq_true rfl, Nat.le_of_ble_eq_true rfl⟩) (g_preV (k0 := 1) (ci := 1) hE hG (by decide) rfl rfl) rfl rfl hl.1 rfl (lv_room (Nat.le_of_ble_eq_true rfl)) d_Hasher_finish_17 ⟨Nat.le_refl 0, Nat.le_refl 0⟩) hG (fun Xb H locs qb hG => ?_)
  refine lv_iconst (v := nI (0)) hx hb d_Hasher_finish_20 (by decide) ?_
  refine lv_istore_n (lv' := [(1, .int (nI (0))), (0, .ref (g_ad V 1))]) hx hb d_Hasher_finish_21 rfl hl (by decide) rfl (fun ls hl => ?_)
  have K22 : ∀ (n i : Nat), i + n = 24 → ∀ (X3 : Mm) (H : Heap) (locs : List Loc), ∀ (ls : Array Slot), (fr X X3 [17] [2, 3, 4] []) → (X3.2.1 2 = prmP (padP (absN g k) k) i) → g_st V X3 s.heap H locs → lv_has ls 2 [(0, .ref (g_ad V 1)), (1, .int (nI (i)))] → W p l e ({ frames := 2, cells := 0, slots := 0, locals := 45 } : Room) s m ([.ref (g_ad V 1)] : List Value).toArray below meth c H locs 0 0 (MQ below (g_Qr V 17 (fun X1 : Mm => X1.1 17 = HS g k ∧ fr X X1 [17] [2, 3, 4] [])) ([.ref (g_ad V 1)] : List Value).toArray s 0 0 (g_A V)) (F0 m 22 ls []) := by
    intro n
    induction n with
    | zero =>
      intro i hin22 X3 H locs ls hF hC hG hl
      have hi22 : 24 = i := by omega
      subst hi22
      refine lv_iload_n hx hb d_Hasher_finish_22 rfl (lv_at hl 1 rfl) ?_
      refine lv_bipush (v := nI (24)) hx hb d_Hasher_finish_23 (by decide) ?_
      refine lv_icmp_ge (tgt := 60) hx hb d_Hasher_finish_25 (by decide) (fun _ => ?_) (fun q => absurd ((g_geN (x := 24) (y := 24) (by omega) (by omega)).mp q) (by omega))
      refine lv_iconst (v := nI (0)) hx hb d_Hasher_finish_60 (by decide) ?_
      refine lv_istore_n (lv' := [(1, .int (nI (0))), (0, .ref (g_ad V 1))]) hx hb d_Hasher_finish_61 rfl hl (by decide) rfl (fun ls hl => ?_)
      have K62 : ∀ (n i : Nat), i + n = 136 → ∀ (X7 : Mm) (H : Heap) (locs : List Loc), ∀ (ls : Array Slot), (fr X X7 [17] [2, 3, 4] []) → (X7.2.1 2 = prmP (padP (absN g k) k) 24) → (X7.1 17 = segI (HS g k) (X3.1 17) i) → g_st V X7 s.heap H locs → lv_has ls 2 [(0, .ref (g_ad V 1)), (1, .int (nI (i)))] → W p l e ({ frames := 2, cells := 0, slots := 0, locals := 45 } : Room) s m ([.ref (g_ad V 1)] : List Value).toArray below meth c H locs 0 0 (MQ below (g_Qr V 17 (fun X1 : Mm => X1.1 17 = HS g k ∧ fr X X1 [17] [2, 3, 4] [])) ([.ref (g_ad V 1)] : List Value).toArray s 0 0 (g_A V)) (F0 m 62 ls []) := by
        intro n
        induction n with
        | zero =>
          intro i hin62 X7 H locs ls hF7 hC7 hS7 hG hl
          have hi62 : 136 = i := by omega
          subst hi62
          refine lv_iload_n hx hb d_Hasher_finish_62 rfl (lv_at hl 1 rfl) ?_
          refine lv_sipush (v := nI (136)) hx hb d_Hasher_finish_63 (by decide) ?_
          refine lv_icmp_ge (tgt := 103) hx hb d_Hasher_finish_66 (by decide) (fun _ => ?_) (fun q => absurd ((g_geN (x := 136) (y := 136) (by omega) (by omega)).mp q) (by omega))
          have hG := g_xi hG 17 (by decide) (HS g k) (fun j hj => by rw [hS7]; exact segI_e _ _ hj)
          refine lv_aload_n hx hb d_Hasher_finish_103 rfl (lv_at hl 0 rfl) ?_
          refine g_get (ci := 1) (v := .ref (g_ad V 17)) (C := R_Hasher) (T := F_Hasher) (N := 5) hx hb hts (fun w h => List.mem_cons_of_mem _ (in_Hasher w h)) hown hE hG 1 (by decide) rfl rfl 3 (by decide) (hts _ (List.mem_cons_of_mem _ kw_34)) (fun _ h9 => h9) rfl d_Hasher_finish_104 ?_
          exact g_aret hx hb hr hlocks hE hG (⟨uI_s _ _ _, fr_i hF7 _ (by decide)⟩) d_Hasher_finish_107
        | succ n ih62 =>
          intro i hin62 X7 H locs ls hF7 hC7 hS7 hG hl
          have hi62 : i < 136 := by omega
          refine lv_iload_n hx hb d_Hasher_finish_62 rfl (lv_at hl 1 rfl) ?_
          refine lv_sipush (v := nI (136)) hx hb d_Hasher_finish_63 (by decide) ?_
          refine lv_icmp_ge (tgt := 103) hx hb d_Hasher_finish_66 (by decide) (fun q => absurd ((g_ge (x := i) (y := 136) (by omega) (by omega)).mp q) (by omega)) (fun _ => ?_)
          refine lv_aload_n hx hb d_Hasher_finish_69 rfl (lv_at hl 0 rfl) ?_
          refine g_get (ci := 1) (v := .ref (g_ad V 17)) (C := R_Hasher) (T := F_Hasher) (N := 5) hx hb hts (fun w h => List.mem_cons_of_mem _ (in_Hasher w h)) hown hE hG 1 (by decide) rfl rfl 3 (by decide) (hts _ (List.mem_cons_of_mem _ kw_34)) (fun _ h9 => h9) rfl d_Hasher_finish_70 ?_
          refine lv_iload_n hx hb d_Hasher_finish_73 rfl (lv_at hl 1 rfl) ?_
          refine lv_aload_n hx hb d_Hasher_finish_74 rfl (lv_at hl 0 rfl) ?_
          refine g_get (ci := 1) (v := .ref (g_ad V 2)) (C := R_Hasher) (T := F_Hasher) (N := 5) hx hb hts (fun w h => List.mem_cons_of_mem _ (in_Hasher w h)) hown hE hG 1 (by decide) rfl rfl 0 (by decide) (hts _ (List.mem_cons_of_mem _ kw_31)) (fun _ h9 => h9) rfl d_Hasher_finish_75 ?_
          refine lv_iload_n hx hb d_Hasher_finish_78 rfl (lv_at hl 1 rfl) ?_
          refine lv_bipush (v := nI (8)) hx hb d_Hasher_finish_79 (by decide) ?_
          refine lv_idiv hx hb d_Hasher_finish_81 (by decide) ?_
          refine g_topi (y := nI (i / 8)) (pk_div (by omega) (by omega) (by omega)) ?_
          refine g_lald hx hb hE hG 2 rfl (i / 8) (rfl) (show _ < 25 by omega) (v := prmP (padP (absN g k) k) 24 (i / 8)) (congrFun hC7 _) d_Hasher_finish_82 ?_
          refine lv_bipush (v := nI (8)) hx hb d_Hasher_finish_83 (by decide) ?_
          refine lv_iload_n hx hb d_Hasher_finish_85 rfl (lv_at hl 1 rfl) ?_
          refine lv_bipush (v := nI (8)) hx hb d_Hasher_finish_86 (by decide) ?_
          refine lv_irem hx hb d_Hasher_finish_88 (by decide) ?_
          refine g_topi (y := nI (i % 8)) (pk_rem (by omega) (by omega) (by omega)) ?_
          refine lv_imul hx hb d_Hasher_finish_89 ?_
          refine g_topi (y := nI (8 * (i % 8))) (pk_mul _ _) ?_
          refine lv_lushr (v := ((prmP (padP (absN g k) k) 24 (i / 8)).toUInt64 >>> ((nI (8 * (i % 8))).toInt64.toUInt64 &&& Int64.toUInt64 63)).toInt64) hx hb d_Hasher_finish_90 rfl ?_
          refine lv_l2i (v := (((prmP (padP (absN g k) k) 24 (i / 8)).toUInt64 >>> ((nI (8 * (i % 8))).toInt64.toUInt64 &&& Int64.toUInt64 63)).toInt64).toInt32) hx hb d_Hasher_finish_91 rfl ?_
          refine lv_sipush (v := nI (255)) hx hb d_Hasher_finish_92 (by decide) ?_
          refine lv_iand hx hb d_Hasher_finish_95 ?_
          refine g_iast (x := ((((prmP (padP (absN g k) k) 24 (i / 8)).toUInt64 >>> ((nI (8 * (i % 8))).toInt64.toUInt64 &&& Int64.toUInt64 63)).toInt64).toInt32) &&& (nI (255))) hx hb hE hG 17 (by decide) (i) (rfl) (show _ < 136 by omega) d_Hasher_finish_96 (fun H locs hG => ?_)
          refine lv_iinc (v := nI (i + 1)) (lv' := [(1, .int (nI (i + 1))), (0, .ref (g_ad V 1))]) hx hb d_Hasher_finish_97 hl (k := 1) rfl (g_inc _) (by decide) rfl (fun ls hl => ?_)
          refine lv_goto (tgt := 62) hx hb d_Hasher_finish_100 (by decide) ?_
          exact ih62 (i + 1) (by omega) (uI X7 17 (upd (X7.1 17) i (((((prmP (padP (absN g k) k) 24 (i / 8)).toUInt64 >>> ((nI (8 * (i % 8))).toInt64.toUInt64 &&& Int64.toUInt64 63)).toInt64).toInt32) &&& (nI (255))))) _ _ ls (fr_i hF7 _ (by decide)) hC7 (by rw [uI_s, hS7]; exact segI_s (HS g k) _ _) hG (lv_sub hl [1, 0] rfl)
      exact K62 (136 - 0) 0 (by omega) X3 _ _ ls hF hC (segI_0 _ _).symm hG (lv_sub hl [1, 0] rfl)
    | succ n ih22 =>
      intro i hin22 X3 H locs ls hF hC hG hl
      have hi22 : i < 24 := by omega
      refine lv_iload_n hx hb d_Hasher_finish_22 rfl (lv_at hl 1 rfl) ?_
      refine lv_bipush (v := nI (24)) hx hb d_Hasher_finish_23 (by decide) ?_
      refine lv_icmp_ge (tgt := 60) hx hb d_Hasher_finish_25 (by decide) (fun q => absurd ((g_ge (x := i) (y := 24) (by omega) (by omega)).mp q) (by omega)) (fun _ => ?_)
      refine lv_aload_n hx hb d_Hasher_finish_28 rfl (lv_at hl 0 rfl) ?_
      refine g_callv (va_runV (As := []) (rest := []) ⟨hx, hb, hml, hown, hts⟩ (c_mixColumns l V X3 ) (cwV 0 hts (g_goodV kw_253 kw_250 kw_252 kp_1 kw_2) rfl rfl rfl (by decide +kernel) ⟨Nat.le_of_ble_eq_true rfl, Nat.le_of_ble_eq_true rfl⟩) (g_preV (k0 := 1) (ci := 1) hE hG (by decide) rfl rfl) rfl rfl hl.1 rfl (lv_room (Nat.le_of_ble_eq_true rfl)) d_Hasher_finish_29 ⟨Nat.le_refl 0, Nat.le_refl 0⟩) hG (fun X4 H locs qc hG => ?_)
      refine lv_aload_n hx hb d_Hasher_finish_32 rfl (lv_at hl 0 rfl) ?_
      refine g_callv (va_runV (As := []) (rest := []) ⟨hx, hb, hml, hown, hts⟩ (c_moveLanes l V X4 ) (cwV 0 hts (g_goodV kw_260 kw_257 kw_259 kp_2 kw_2) rfl rfl rfl (by decide +kernel) ⟨Nat.le_of_ble_eq_true rfl, Nat.le_of_ble_eq_true rfl⟩) (g_preV (k0 := 1) (ci := 1) hE hG (by decide) rfl rfl) rfl rfl hl.1 rfl (lv_room (Nat.le_of_ble_eq_true rfl)) d_Hasher_finish_33 ⟨Nat.le_refl 0, Nat.le_refl 0⟩) hG (fun X5 H locs qd hG => ?_)
      refine lv_aload_n hx hb d_Hasher_finish_36 rfl (lv_at hl 0 rfl) ?_
      refine g_callv (va_runV (As := []) (rest := []) ⟨hx, hb, hml, hown, hts⟩ (c_mixRows l V X5 ) (cwV 0 hts (g_goodV kw_266 kw_263 kw_265 kp_3 kw_2) rfl rfl rfl (by decide +kernel) ⟨Nat.le_of_ble_eq_true rfl, Nat.le_of_ble_eq_true rfl⟩) (g_preV (k0 := 1) (ci := 1) hE hG (by decide) rfl rfl) rfl rfl hl.1 rfl (lv_room (Nat.le_of_ble_eq_true rfl)) d_Hasher_finish_37 ⟨Nat.le_refl 0, Nat.le_refl 0⟩) hG (fun X6 H locs qe hG => ?_)
      refine lv_aload_n hx hb d_Hasher_finish_40 rfl (lv_at hl 0 rfl) ?_
      refine g_get (ci := 1) (v := .ref (g_ad V 2)) (C := R_Hasher) (T := F_Hasher) (N := 5) hx hb hts (fun w h => List.mem_cons_of_mem _ (in_Hasher w h)) hown hE hG 1 (by decide) rfl rfl 0 (by decide) (hts _ (List.mem_cons_of_mem _ kw_31)) (fun _ h9 => h9) rfl d_Hasher_finish_41 ?_
      refine lv_iconst (v := nI (0)) hx hb d_Hasher_finish_44 (by decide) ?_
      refine lv_dup2_11 hx hb d_Hasher_finish_45 rfl rfl ?_
      refine g_lald hx hb hE hG 2 rfl (0) (rfl) (show _ < 25 by omega) (v := X6.2.1 2 0) (rfl) d_Hasher_finish_46 ?_
      refine va_gets hx hb hE.2.2.1.1 hG.2.2 hown (hts _ (List.mem_cons_of_mem _ kw_268)) (fun _ h9 => h9) d_Hasher_finish_47 ?_
      refine lv_iload_n hx hb d_Hasher_finish_50 rfl (lv_at hl 1 rfl) ?_
      refine va_tl hx hb hE.2.2.1.2 hG.2.2 (i := nI (i)) (vp_in_nI (by omega) (by omega)) (v := .long (rcT (i))) (by rw [nI_clamp (by omega)]) d_Hasher_finish_51 ?_
      refine lv_lxor hx hb d_Hasher_finish_52 ?_
      refine g_last (x := (X6.2.1 2 0) ^^^ (rcT i)) hx hb hE hG 2 rfl (0) (rfl) (show _ < 25 by omega) d_Hasher_finish_53 (fun H locs hG => ?_)
      refine lv_iinc (v := nI (i + 1)) (lv' := [(1, .int (nI (i + 1))), (0, .ref (g_ad V 1))]) hx hb d_Hasher_finish_54 hl (k := 1) rfl (g_inc _) (by decide) rfl (fun ls hl => ?_)
      refine lv_goto (tgt := 22) hx hb d_Hasher_finish_57 (by decide) ?_
      exact ih22 (i + 1) (by omega) (uL X6 2 (vp_updL (X6.2.1 2) 0 ((X6.2.1 2 0) ^^^ (rcT i)))) _ _ ls (fr_l (fr_tr2 (fr_tr2 (fr_tr2 hF qc.2 (by decide) (by decide) (by decide)) qd.2 (by decide) (by decide) (by decide)) qe.2 (by decide) (by decide) (by decide)) _ (by decide)) (by rw [uL_s, qe.1, qd.1, qc.1, hC]; rfl) hG (lv_sub hl [1, 0] rfl)
  exact K22 (24 - 0) 0 (by omega) Xb _ _ ls (fr_mono (fr_tr qa.2 qb.2) (by decide) (by decide) (by decide)) (qb.1.trans (by rw [qa.1, hL]; rfl)) hG (lv_sub hl [1, 0] rfl)
