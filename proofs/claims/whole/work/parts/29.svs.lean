set_option maxHeartbeats 4000000 in
set_option maxRecDepth 100000 in
theorem c_S_key (l : Launch) (V : Ev) (X : Mm) (x : Int64) (hB : ∀ j, j < 68 → isB (X.1 22 j)) : Met l y_SVS_key (Cond.code y_SVS_key b_SVS_key 3 none :: WA) ({ frames := 6, cells := 0, slots := 0, locals := 136 } : Room) (g_Pc V X [.ref (g_ad V 0), .long (x)]) (g_Qv V (fun X1 : Mm => X1.1 19 = kP x ∧ X1.1 22 = kP x ∧ X1.1 24 = kK x ∧ X1.1 25 = kR x ∧ X1.1 26 = kA x ∧ X1.1 27 = kS x ∧ X1.1 28 = kE x ∧ X1.1 29 = kT x ∧ X1.2.2 0 = nI 1 ∧ fr X X1 [17, 19, 22, 23, 24, 25, 26, 27, 28, 29, 30] [2, 3, 4] [0, 1])) 0 0 (g_A V) := by
  refine g_met (by decide) (Nat.le_of_ble_eq_true rfl) ?_
  intro p e s m below meth c hx hb hr hml hown hts hlocks hE hG ls hl
  have hl : lv_has ls 3 [(0, .ref (g_ad V 0)), (1, .long (x))] := hl
  have hown : s.vm.findClass R_SVS = some m.cls := hown
  refine lv_aload_n hx hb d_SVS_key_0 rfl (lv_at hl 0 rfl) ?_
  refine g_get (ci := 0) (v := .ref (g_ad V 6)) (C := R_SVS) (T := F_SVS) (N := 9) hx hb hts (fun w h => List.mem_cons_of_mem _ (in_SVS w h)) hown hE hG 0 (by decide) rfl rfl 2 (by decide) (hts _ (List.mem_cons_of_mem _ kw_193)) (fun _ h9 => h9) rfl d_SVS_key_1 ?_
  refine lv_aload_n hx hb d_SVS_key_4 rfl (lv_at hl 0 rfl) ?_
  refine g_get (ci := 0) (v := .ref (g_ad V 1)) (C := R_SVS) (T := F_SVS) (N := 9) hx hb hts (fun w h => List.mem_cons_of_mem _ (in_SVS w h)) hown hE hG 0 (by decide) rfl rfl 0 (by decide) (hts _ (List.mem_cons_of_mem _ kw_191)) (fun _ h9 => h9) rfl d_SVS_key_5 ?_
  refine lv_lload_n hx hb d_SVS_key_8 rfl (lv_at hl 1 rfl) ?_
  refine g_callv (va_runV (As := [.ref (g_ad V 1), .long (x)]) (rest := []) ⟨hx, hb, hml, hown, hts⟩ (c_derive l V X x) (cwV 2 hts (g_goodV kw_226 kw_223 kw_224 kw_225 kw_4) rfl rfl rfl (by decide +kernel) ⟨Nat.le_of_ble_eq_true rfl, Nat.le_of_ble_eq_true rfl⟩) (g_preV (k0 := 6) (ci := 3) hE hG (by decide) rfl rfl) rfl rfl hl.1 rfl (lv_room (Nat.le_of_ble_eq_true rfl)) d_SVS_key_9 ⟨Nat.le_refl 0, Nat.le_refl 0⟩) hG (fun X2 H locs q2 hG => ?_)
  have p22 : X2.1 22 = (pkN (segI (HS (lgB x) 8) (X.1 22) 8) (upP (kA x) (kS x) (kE x)) 8 15 32) := q2.2.2.2.2.2.1
  have p25 : X2.1 25 = kR x := q2.2.2.2.2.2.2.1.trans (HS_ext (fun j hj => (pub_eq hB hj).symm))
  have hG := g_xi hG 22 (by decide) (kP x) (fun j hj => by rw [p22]; exact pub_eq hB hj)
  obtain ⟨X3, e3⟩ : ∃ z, z = uI X2 22 (kP x) := ⟨_, rfl⟩
  rw [← e3] at hG
  have f3 : fr X X3 [17, 19, 22, 23, 24, 25, 26, 27, 28, 29, 30] [2, 3, 4] [0, 1] := by rw [e3]; exact fr_i (fr_mono q2.2.2.2.2.2.2.2 (a' := [17, 19, 22, 23, 24, 25, 26, 27, 28, 29, 30]) (b' := [2, 3, 4]) (c' := [0, 1]) (by decide) (by decide) (by decide)) _ (by decide)
  have p3 : X3.1 22 = kP x := by rw [e3]; exact uI_s _ _ _
  have o3 : ∀ k, k ≠ 22 → X3.1 k = X2.1 k := fun k hk => by rw [e3]; exact uI_n _ _ hk
  have hG := hG
  refine lv_aload_n hx hb d_SVS_key_12 rfl (lv_at hl 0 rfl) ?_
  refine g_get (ci := 0) (v := .ref (g_ad V 6)) (C := R_SVS) (T := F_SVS) (N := 9) hx hb hts (fun w h => List.mem_cons_of_mem _ (in_SVS w h)) hown hE hG 0 (by decide) rfl rfl 2 (by decide) (hts _ (List.mem_cons_of_mem _ kw_193)) (fun _ h9 => h9) rfl d_SVS_key_13 ?_
  refine g_getN (ci := 3) (v := .ref (g_ad V 22)) (C := R_SecretKey) (T := F_SecretKey) (N := 9) hx hb hts (fun w h => List.mem_cons_of_mem _ (in_SecretKey w h)) hown hE hG 6 (by decide) rfl rfl 0 (by decide) (nf_SVS_62) (fun _ h9 => h9) rfl d_SVS_key_16 ?_
  refine lv_iconst (v := nI (0)) hx hb d_SVS_key_19 (by decide) ?_
  refine lv_aload_n hx hb d_SVS_key_20 rfl (lv_at hl 0 rfl) ?_
  refine g_get (ci := 0) (v := .ref (g_ad V 19)) (C := R_SVS) (T := F_SVS) (N := 9) hx hb hts (fun w h => List.mem_cons_of_mem _ (in_SVS w h)) hown hE hG 0 (by decide) rfl rfl 5 (by decide) (hts _ (List.mem_cons_of_mem _ kw_196)) (fun _ h9 => h9) rfl d_SVS_key_21 ?_
  refine lv_iconst (v := nI (0)) hx hb d_SVS_key_24 (by decide) ?_
  refine lv_bipush (v := nI (68)) hx hb d_SVS_key_25 (by decide) ?_
  refine g_copy hx hb (hml.trans hl.1.symm) hown (hts _ (List.mem_cons_of_mem _ kw_331)) (hts _ (List.mem_cons_of_mem _ kw_272)) (hts _ (List.mem_cons_of_mem _ kw_271)) (hts _ (List.mem_cons_of_mem _ kw_11)) hE hG 22 19 (by decide) (by decide) (sp := 0) (dp := 0) (n := 68) (by decide) (by decide) (Nat.le_of_ble_eq_true rfl) (Nat.le_of_ble_eq_true rfl) d_SVS_key_27 (fun H locs hG => ?_)
  have hG := g_xi hG 19 (by decide) (kP x) (fun j hj => by rw [uI_s, sb_cpy0 (show j < 68 from hj), p3])
  refine lv_aload_n hx hb d_SVS_key_30 rfl (lv_at hl 0 rfl) ?_
  refine lv_iconst (v := nI (1)) hx hb d_SVS_key_31 (by decide) ?_
  refine g_put (ci := 0) (v := nI (1)) (ty := .boolean) (C := R_SVS) (T := F_SVS) (N := 9) hx hb hts (fun w h => List.mem_cons_of_mem _ (in_SVS w h)) t_SVS t_SVS_ok n_SVS hown hE hG 0 (by decide) rfl rfl 8 (by decide) (hts _ (List.mem_cons_of_mem _ kw_199)) (fun _ h9 => h9) rfl (by decide +kernel) (rfl) rfl (Nat.le_of_ble_eq_true rfl) rfl d_SVS_key_32 (fun H locs hG => ?_)
  exact g_vret hx hb hr hlocks hE hG (⟨uI_s (uI X3 19 (va_cpy (X3.1 22) (X3.1 19) 0 0 68)) 19 (kP x), p3, (o3 24 (by decide)).trans q2.1, (o3 25 (by decide)).trans p25, (o3 26 (by decide)).trans q2.2.1, (o3 27 (by decide)).trans q2.2.2.1, (o3 28 (by decide)).trans q2.2.2.2.1, (o3 29 (by decide)).trans q2.2.2.2.2.1, uF_s _ _ _, fr_f (fr_i (fr_i f3 _ (by decide)) _ (by decide)) _ (by decide)⟩) d_SVS_key_35

set_option maxHeartbeats 4000000 in
set_option maxRecDepth 100000 in
theorem c_S_say (l : Launch) (V : Ev) (X : Mm) (b : Int32) (n : Nat) (hn : n ≤ 24) (hT : X.2.2 2 = nI n) : Met l y_SVS_say (Cond.code y_SVS_say b_SVS_say 2 (some .boolean) :: WA) ({ frames := 1, cells := 0, slots := 0, locals := 21 } : Room) (g_Pc V X [.ref (g_ad V 0), .int (b)]) (g_Qi V (fun (r : Int32) (X1 : Mm) => (((0 ≤ b ∧ b ≤ nI 255) ∧ n < 24) → r = nI 1 ∧ X1.1 18 = upd (X.1 18) n b ∧ X1.2.2 2 = nI (n + 1) ∧ fr X X1 [18] [] [2]) ∧ (¬ ((0 ≤ b ∧ b ≤ nI 255) ∧ n < 24) → r = nI 0 ∧ X = X1))) 0 0 (g_A V) := by
  refine g_met (by decide) (Nat.le_of_ble_eq_true rfl) ?_
  intro p e s m below meth c hx hb hr hml hown hts hlocks hE hG ls hl
  have hl : lv_has ls 2 [(0, .ref (g_ad V 0)), (1, .int (b))] := hl
  have hown : s.vm.findClass R_SVS = some m.cls := hown
  refine lv_iload_n hx hb d_SVS_say_0 rfl (lv_at hl 1 rfl) ?_
  refine g_callpi (va_runS (As := [.int (b)]) (rest := []) ⟨hx, hb, hml, hown, hts⟩ (c_isByte l b) (va_cwS 1 hts (g_goodS kw_338 kw_336 kw_337 kw_1) rfl rfl rfl (by decide +kernel) ⟨Nat.le_of_ble_eq_true rfl, Nat.le_of_ble_eq_true rfl⟩) ⟨fun _ _ _ _ q => q, fun _ _ _ => rfl⟩ rfl rfl hl.1 rfl (lv_room (Nat.le_of_ble_eq_true rfl)) d_SVS_say_1 ⟨Nat.le_refl 0, Nat.le_refl 0⟩) (fun r1 q1 => ?_)
  refine lv_if_eq (tgt := 22) hx hb d_SVS_say_4 (by decide) (fun c4 => ?_) (fun c4 => ?_)
  · have n1 : ¬ (0 ≤ b ∧ b ≤ nI 255) := fun z => by rw [q1, if_pos z] at c4; exact absurd c4 (by decide)
    refine lv_iconst (v := nI (0)) hx hb d_SVS_say_22 (by decide) ?_
    exact g_zret hx hb hr hlocks hE hG (by decide) (⟨fun z => absurd z.1 n1, fun _ => ⟨rfl, rfl⟩⟩) d_SVS_say_23
  · have n1 : 0 ≤ b ∧ b ≤ nI 255 := Classical.byContradiction fun z => c4 (by rw [q1, if_neg z]; rfl)
    refine lv_aload_n hx hb d_SVS_say_7 rfl (lv_at hl 0 rfl) ?_
    refine g_get (ci := 0) (v := .ref (g_ad V 5)) (C := R_SVS) (T := F_SVS) (N := 9) hx hb hts (fun w h => List.mem_cons_of_mem _ (in_SVS w h)) hown hE hG 0 (by decide) rfl rfl 1 (by decide) (hts _ (List.mem_cons_of_mem _ kw_192)) (fun _ h9 => h9) rfl d_SVS_say_8 ?_
    refine lv_iload_n hx hb d_SVS_say_11 rfl (lv_at hl 1 rfl) ?_
    refine g_calli (va_runV (As := [.int (b)]) (rest := []) ⟨hx, hb, hml, hown, hts⟩ (c_add l V X b n hn hT) (cwV 1 hts (g_goodV kw_342 kw_339 kw_340 kw_341 kw_3) rfl rfl rfl (by decide +kernel) ⟨Nat.le_of_ble_eq_true rfl, Nat.le_of_ble_eq_true rfl⟩) (g_preV (k0 := 5) (ci := 2) hE hG (by decide) rfl rfl) rfl rfl hl.1 rfl (lv_room (Nat.le_of_ble_eq_true rfl)) d_SVS_say_12 ⟨Nat.le_refl 0, Nat.le_refl 0⟩) hG (fun r2 X2 H locs q2 hG => ?_)
    refine lv_if_eq (tgt := 22) hx hb d_SVS_say_15 (by decide) (fun c15 => ?_) (fun c15 => ?_)
    · have n2 : ¬ n < 24 := fun z => by rw [(q2.1 z).1] at c15; exact absurd c15 (by decide)
      refine lv_iconst (v := nI (0)) hx hb d_SVS_say_22 (by decide) ?_
      exact g_zret hx hb hr hlocks hE hG (by decide) (⟨fun z => absurd z.2 n2, fun _ => ⟨rfl, (q2.2 n2).2⟩⟩) d_SVS_say_23
    · have n2 : n < 24 := Classical.byContradiction fun z => c15 (q2.2 z).1
      refine lv_iconst (v := nI (1)) hx hb d_SVS_say_18 (by decide) ?_
      refine lv_goto (tgt := 23) hx hb d_SVS_say_19 (by decide) ?_
      exact g_zret hx hb hr hlocks hE hG (by decide) (⟨fun _ => ⟨rfl, (q2.1 n2).2⟩, fun z => absurd ⟨n1, n2⟩ z⟩) d_SVS_say_23

set_option maxHeartbeats 4000000 in
set_option maxRecDepth 100000 in
theorem c_S_hush (l : Launch) (V : Ev) (X : Mm)  : Met l y_SVS_hush (Cond.code y_SVS_hush b_SVS_hush 1 none :: WA) ({ frames := 1, cells := 0, slots := 0, locals := 20 } : Room) (g_Pc V X [.ref (g_ad V 0)]) (g_Qv V (fun X1 : Mm => X1.2.2 2 = nI 0 ∧ fr X X1 [] [] [2])) 0 0 (g_A V) := by
  refine g_met (by decide) (Nat.le_of_ble_eq_true rfl) ?_
  intro p e s m below meth c hx hb hr hml hown hts hlocks hE hG ls hl
  have hl : lv_has ls 1 [(0, .ref (g_ad V 0))] := hl
  have hown : s.vm.findClass R_SVS = some m.cls := hown
  refine lv_aload_n hx hb d_SVS_hush_0 rfl (lv_at hl 0 rfl) ?_
  refine g_get (ci := 0) (v := .ref (g_ad V 5)) (C := R_SVS) (T := F_SVS) (N := 9) hx hb hts (fun w h => List.mem_cons_of_mem _ (in_SVS w h)) hown hE hG 0 (by decide) rfl rfl 1 (by decide) (hts _ (List.mem_cons_of_mem _ kw_192)) (fun _ h9 => h9) rfl d_SVS_hush_1 ?_
  refine g_callv (va_runV (As := []) (rest := []) ⟨hx, hb, hml, hown, hts⟩ (c_clear l V X ) (cwV 0 hts (g_goodV kw_350 kw_347 kw_348 kw_349 kw_3) rfl rfl rfl (by decide +kernel) ⟨Nat.le_of_ble_eq_true rfl, Nat.le_of_ble_eq_true rfl⟩) (g_preV (k0 := 5) (ci := 2) hE hG (by decide) rfl rfl) rfl rfl hl.1 rfl (lv_room (Nat.le_of_ble_eq_true rfl)) d_SVS_hush_4 ⟨Nat.le_refl 0, Nat.le_refl 0⟩) hG (fun X2 H locs q2 hG => ?_)
  exact g_vret hx hb hr hlocks hE hG (q2) d_SVS_hush_7

set_option maxHeartbeats 4000000 in
set_option maxRecDepth 100000 in
theorem c_S_verify (l : Launch) (V : Ev) (X : Mm) (n : Nat) (hn : n ≤ 24) (hM : X.2.2 2 = nI n) (sg : Nat → Nat) (hsg : ∀ j, j < 62 → X.1 20 j = nI (sg j)) (hsb : ∀ j, j < 62 → sg j < 256) (hB : ∀ j, j < 48 → isB (X.1 43 j)) : Met l y_SVS_verify (Cond.code y_SVS_verify b_SVS_verify 1 (some .boolean) :: WA) ({ frames := 6, cells := 0, slots := 0, locals := 136 } : Room) (g_Pc V X [.ref (g_ad V 0)]) (g_Qi V (fun (r : Int32) (X1 : Mm) => (vOK (X.1 19) (X.1 18) (X.1 20) sg n → r = nI 1) ∧ (¬ vOK (X.1 19) (X.1 18) (X.1 20) sg n → r = nI 0) ∧ (∀ j, j < 48 → isB (X1.1 43 j)) ∧ fr X X1 [17, 42, 43, 44, 45, 46, 47, 48, 49, 50, 51, 52] [2, 3, 4] [1])) 0 0 (g_A V) := by
  refine g_met (by decide) (Nat.le_of_ble_eq_true rfl) ?_
  intro p e s m below meth c hx hb hr hml hown hts hlocks hE hG ls hl
  have hl : lv_has ls 1 [(0, .ref (g_ad V 0))] := hl
  have hown : s.vm.findClass R_SVS = some m.cls := hown
  refine lv_aload_n hx hb d_SVS_verify_0 rfl (lv_at hl 0 rfl) ?_
  refine g_get (ci := 0) (v := .ref (g_ad V 9)) (C := R_SVS) (T := F_SVS) (N := 9) hx hb hts (fun w h => List.mem_cons_of_mem _ (in_SVS w h)) hown hE hG 0 (by decide) rfl rfl 4 (by decide) (hts _ (List.mem_cons_of_mem _ kw_195)) (fun _ h9 => h9) rfl d_SVS_verify_1 ?_
  refine lv_aload_n hx hb d_SVS_verify_4 rfl (lv_at hl 0 rfl) ?_
  refine g_get (ci := 0) (v := .ref (g_ad V 1)) (C := R_SVS) (T := F_SVS) (N := 9) hx hb hts (fun w h => List.mem_cons_of_mem _ (in_SVS w h)) hown hE hG 0 (by decide) rfl rfl 0 (by decide) (hts _ (List.mem_cons_of_mem _ kw_191)) (fun _ h9 => h9) rfl d_SVS_verify_5 ?_
  refine lv_aload_n hx hb d_SVS_verify_8 rfl (lv_at hl 0 rfl) ?_
  refine g_get (ci := 0) (v := .ref (g_ad V 19)) (C := R_SVS) (T := F_SVS) (N := 9) hx hb hts (fun w h => List.mem_cons_of_mem _ (in_SVS w h)) hown hE hG 0 (by decide) rfl rfl 5 (by decide) (hts _ (List.mem_cons_of_mem _ kw_196)) (fun _ h9 => h9) rfl d_SVS_verify_9 ?_
  refine lv_aload_n hx hb d_SVS_verify_12 rfl (lv_at hl 0 rfl) ?_
  refine g_get (ci := 0) (v := .ref (g_ad V 5)) (C := R_SVS) (T := F_SVS) (N := 9) hx hb hts (fun w h => List.mem_cons_of_mem _ (in_SVS w h)) hown hE hG 0 (by decide) rfl rfl 1 (by decide) (hts _ (List.mem_cons_of_mem _ kw_192)) (fun _ h9 => h9) rfl d_SVS_verify_13 ?_
  refine lv_aload_n hx hb d_SVS_verify_16 rfl (lv_at hl 0 rfl) ?_
  refine g_get (ci := 0) (v := .ref (g_ad V 20)) (C := R_SVS) (T := F_SVS) (N := 9) hx hb hts (fun w h => List.mem_cons_of_mem _ (in_SVS w h)) hown hE hG 0 (by decide) rfl rfl 6 (by decide) (hts _ (List.mem_cons_of_mem _ kw_197)) (fun _ h9 => h9) rfl d_SVS_verify_17 ?_
  refine g_calli (va_runV (As := [.ref (g_ad V 1), .ref (g_ad V 19), .ref (g_ad V 5), .ref (g_ad V 20)]) (rest := []) ⟨hx, hb, hml, hown, hts⟩ (c_holds l V X n hn hM sg hsg hsb hB) (cwV 4 hts (g_goodV kw_478 kw_475 kw_476 kw_477 kw_7) rfl rfl rfl (by decide +kernel) ⟨Nat.le_of_ble_eq_true rfl, Nat.le_of_ble_eq_true rfl⟩) (g_preV (k0 := 9) (ci := 6) hE hG (by decide) rfl rfl) rfl rfl hl.1 rfl (lv_room (Nat.le_of_ble_eq_true rfl)) d_SVS_verify_20 ⟨Nat.le_refl 0, Nat.le_refl 0⟩) hG (fun ra X2 H locs q2 hG => ?_)
  have rz : ra = 0 ∨ ra = 1 := (Classical.em (vOK (X.1 19) (X.1 18) (X.1 20) sg n)).elim (fun z => Or.inr (q2.1 z)) (fun z => Or.inl (q2.2.1 z))
  exact g_zret hx hb hr hlocks hE hG (rz) (q2) d_SVS_verify_23

set_option maxHeartbeats 4000000 in
set_option maxRecDepth 100000 in
theorem c_S_publicByte (l : Launch) (V : Ev) (X : Mm) (i : Int32) : Met l y_SVS_publicByte (Cond.code y_SVS_publicByte b_SVS_publicByte 2 (some .int) :: WA) ({ frames := 1, cells := 0, slots := 0, locals := 21 } : Room) (g_Pc V X [.ref (g_ad V 0), .int (i)]) (g_Qi V (fun (r : Int32) (X1 : Mm) => r = (if 0 ≤ i ∧ i < nI 68 then X.1 19 i.toNatClampNeg else -1) ∧ X = X1)) 0 0 (g_A V) := by
  refine g_met (by decide) (Nat.le_of_ble_eq_true rfl) ?_
  intro p e s m below meth c hx hb hr hml hown hts hlocks hE hG ls hl
  have hl : lv_has ls 2 [(0, .ref (g_ad V 0)), (1, .int (i))] := hl
  have hown : s.vm.findClass R_SVS = some m.cls := hown
  refine lv_iload_n hx hb d_SVS_publicByte_0 rfl (lv_at hl 1 rfl) ?_
  refine lv_bipush (v := nI (68)) hx hb d_SVS_publicByte_1 (by decide) ?_
  refine g_callpi (va_runS (As := [.int (i), .int (nI (68))]) (rest := []) ⟨hx, hb, hml, hown, hts⟩ (c_isIndex l i (nI 68)) (va_cwS 2 hts (g_goodS kw_528 kw_526 kw_527 kw_1) rfl rfl rfl (by decide +kernel) ⟨Nat.le_of_ble_eq_true rfl, Nat.le_of_ble_eq_true rfl⟩) ⟨fun _ _ _ _ q => q, fun _ _ _ => rfl⟩ rfl rfl hl.1 rfl (lv_room (Nat.le_of_ble_eq_true rfl)) d_SVS_publicByte_3 ⟨Nat.le_refl 0, Nat.le_refl 0⟩) (fun r1 q1 => ?_)
  refine lv_if_eq (tgt := 18) hx hb d_SVS_publicByte_6 (by decide) (fun c6 => ?_) (fun c6 => ?_)
  · have n1 : ¬ (0 ≤ i ∧ i < nI 68) := fun z => by rw [q1, if_pos z] at c6; exact absurd c6 (by decide)
    refine lv_iconst (v := -1) hx hb d_SVS_publicByte_18 (by decide) ?_
    exact g_iret hx hb hr hlocks hE hG (⟨(if_neg n1).symm, rfl⟩) d_SVS_publicByte_19
  · have n1 : 0 ≤ i ∧ i < nI 68 := Classical.byContradiction fun z => c6 (by rw [q1, if_neg z]; rfl)
    obtain ⟨j, hj, ej⟩ := rgN (by decide) n1
    refine lv_aload_n hx hb d_SVS_publicByte_9 rfl (lv_at hl 0 rfl) ?_
    refine g_get (ci := 0) (v := .ref (g_ad V 19)) (C := R_SVS) (T := F_SVS) (N := 9) hx hb hts (fun w h => List.mem_cons_of_mem _ (in_SVS w h)) hown hE hG 0 (by decide) rfl rfl 5 (by decide) (hts _ (List.mem_cons_of_mem _ kw_196)) (fun _ h9 => h9) rfl d_SVS_publicByte_10 ?_
    refine lv_iload_n hx hb d_SVS_publicByte_13 rfl (lv_at hl 1 rfl) ?_
    refine g_iald hx hb hE hG 19 (by decide) (j) (ej) (hj) (v := X.1 19 j) (rfl) d_SVS_publicByte_14 ?_
    refine lv_goto (tgt := 19) hx hb d_SVS_publicByte_15 (by decide) ?_
    exact g_iret hx hb hr hlocks hE hG (⟨by rw [if_pos n1, ej, nI_clamp (by omega)], rfl⟩) d_SVS_publicByte_19

set_option maxHeartbeats 4000000 in
set_option maxRecDepth 100000 in
theorem c_S_signatureByte (l : Launch) (V : Ev) (X : Mm) (i : Int32) : Met l y_SVS_signatureByte (Cond.code y_SVS_signatureByte b_SVS_signatureByte 2 (some .int) :: WA) ({ frames := 1, cells := 0, slots := 0, locals := 21 } : Room) (g_Pc V X [.ref (g_ad V 0), .int (i)]) (g_Qi V (fun (r : Int32) (X1 : Mm) => r = (if 0 ≤ i ∧ i < nI 62 then X.1 20 i.toNatClampNeg else -1) ∧ X = X1)) 0 0 (g_A V) := by
  refine g_met (by decide) (Nat.le_of_ble_eq_true rfl) ?_
  intro p e s m below meth c hx hb hr hml hown hts hlocks hE hG ls hl
  have hl : lv_has ls 2 [(0, .ref (g_ad V 0)), (1, .int (i))] := hl
  have hown : s.vm.findClass R_SVS = some m.cls := hown
  refine lv_iload_n hx hb d_SVS_signatureByte_0 rfl (lv_at hl 1 rfl) ?_
  refine lv_bipush (v := nI (62)) hx hb d_SVS_signatureByte_1 (by decide) ?_
  refine g_callpi (va_runS (As := [.int (i), .int (nI (62))]) (rest := []) ⟨hx, hb, hml, hown, hts⟩ (c_isIndex l i (nI 62)) (va_cwS 2 hts (g_goodS kw_528 kw_526 kw_527 kw_1) rfl rfl rfl (by decide +kernel) ⟨Nat.le_of_ble_eq_true rfl, Nat.le_of_ble_eq_true rfl⟩) ⟨fun _ _ _ _ q => q, fun _ _ _ => rfl⟩ rfl rfl hl.1 rfl (lv_room (Nat.le_of_ble_eq_true rfl)) d_SVS_signatureByte_3 ⟨Nat.le_refl 0, Nat.le_refl 0⟩) (fun r1 q1 => ?_)
  refine lv_if_eq (tgt := 18) hx hb d_SVS_signatureByte_6 (by decide) (fun c6 => ?_) (fun c6 => ?_)
  · have n1 : ¬ (0 ≤ i ∧ i < nI 62) := fun z => by rw [q1, if_pos z] at c6; exact absurd c6 (by decide)
    refine lv_iconst (v := -1) hx hb d_SVS_signatureByte_18 (by decide) ?_
    exact g_iret hx hb hr hlocks hE hG (⟨(if_neg n1).symm, rfl⟩) d_SVS_signatureByte_19
  · have n1 : 0 ≤ i ∧ i < nI 62 := Classical.byContradiction fun z => c6 (by rw [q1, if_neg z]; rfl)
    obtain ⟨j, hj, ej⟩ := rgN (by decide) n1
    refine lv_aload_n hx hb d_SVS_signatureByte_9 rfl (lv_at hl 0 rfl) ?_
    refine g_get (ci := 0) (v := .ref (g_ad V 20)) (C := R_SVS) (T := F_SVS) (N := 9) hx hb hts (fun w h => List.mem_cons_of_mem _ (in_SVS w h)) hown hE hG 0 (by decide) rfl rfl 6 (by decide) (hts _ (List.mem_cons_of_mem _ kw_197)) (fun _ h9 => h9) rfl d_SVS_signatureByte_10 ?_
    refine lv_iload_n hx hb d_SVS_signatureByte_13 rfl (lv_at hl 1 rfl) ?_
    refine g_iald hx hb hE hG 20 (by decide) (j) (ej) (hj) (v := X.1 20 j) (rfl) d_SVS_signatureByte_14 ?_
    refine lv_goto (tgt := 19) hx hb d_SVS_signatureByte_15 (by decide) ?_
    exact g_iret hx hb hr hlocks hE hG (⟨by rw [if_pos n1, ej, nI_clamp (by omega)], rfl⟩) d_SVS_signatureByte_19

set_option maxHeartbeats 4000000 in
set_option maxRecDepth 100000 in
theorem c_S_putPublic (l : Launch) (V : Ev) (X : Mm) (i b : Int32) : Met l y_SVS_putPublic (Cond.code y_SVS_putPublic b_SVS_putPublic 3 (some .boolean) :: WA) ({ frames := 2, cells := 0, slots := 0, locals := 43 } : Room) (g_Pc V X [.ref (g_ad V 0), .int (i), .int (b)]) (g_Qi V (fun (r : Int32) (X1 : Mm) => (((0 ≤ i ∧ i < nI 68) ∧ (0 ≤ b ∧ b ≤ nI 255)) → r = nI 1 ∧ X1.1 19 = upd (X.1 19) i.toNatClampNeg b ∧ fr X X1 [19] [] []) ∧ (¬ ((0 ≤ i ∧ i < nI 68) ∧ (0 ≤ b ∧ b ≤ nI 255)) → r = nI 0 ∧ X = X1))) 0 0 (g_A V) := by
  refine g_met (by decide) (Nat.le_of_ble_eq_true rfl) ?_
  intro p e s m below meth c hx hb hr hml hown hts hlocks hE hG ls hl
  have hl : lv_has ls 3 [(0, .ref (g_ad V 0)), (1, .int (i)), (2, .int (b))] := hl
  have hown : s.vm.findClass R_SVS = some m.cls := hown
  refine lv_aload_n hx hb d_SVS_putPublic_0 rfl (lv_at hl 0 rfl) ?_
  refine g_get (ci := 0) (v := .ref (g_ad V 19)) (C := R_SVS) (T := F_SVS) (N := 9) hx hb hts (fun w h => List.mem_cons_of_mem _ (in_SVS w h)) hown hE hG 0 (by decide) rfl rfl 5 (by decide) (hts _ (List.mem_cons_of_mem _ kw_196)) (fun _ h9 => h9) rfl d_SVS_putPublic_1 ?_
  refine lv_iload_n hx hb d_SVS_putPublic_4 rfl (lv_at hl 1 rfl) ?_
  refine lv_iload_n hx hb d_SVS_putPublic_5 rfl (lv_at hl 2 rfl) ?_
  refine g_calli (va_runS (As := [.ref (g_ad V 19), .int (i), .int (b)]) (rest := []) ⟨hx, hb, hml, hown, hts⟩ (c_putByte l V X 19 (by decide) i b) (va_cwS 3 hts (g_goodS kw_539 kw_537 kw_538 kw_1) rfl rfl rfl (by decide +kernel) ⟨Nat.le_of_ble_eq_true rfl, Nat.le_of_ble_eq_true rfl⟩) (g_preS hE hG) rfl rfl hl.1 rfl (lv_room (Nat.le_of_ble_eq_true rfl)) d_SVS_putPublic_6 ⟨Nat.le_refl 0, Nat.le_refl 0⟩) hG (fun ra X2 H locs q2 hG => ?_)
  have rz : ra = 0 ∨ ra = 1 := (Classical.em ((0 ≤ i ∧ i < nI 68) ∧ (0 ≤ b ∧ b ≤ nI 255))).elim (fun z => Or.inr (q2.1 z).1) (fun z => Or.inl (q2.2 z).1)
  exact g_zret hx hb hr hlocks hE hG (rz) (q2) d_SVS_putPublic_9

set_option maxHeartbeats 4000000 in
set_option maxRecDepth 100000 in
theorem c_S_putSignature (l : Launch) (V : Ev) (X : Mm) (i b : Int32) : Met l y_SVS_putSignature (Cond.code y_SVS_putSignature b_SVS_putSignature 3 (some .boolean) :: WA) ({ frames := 2, cells := 0, slots := 0, locals := 43 } : Room) (g_Pc V X [.ref (g_ad V 0), .int (i), .int (b)]) (g_Qi V (fun (r : Int32) (X1 : Mm) => (((0 ≤ i ∧ i < nI 62) ∧ (0 ≤ b ∧ b ≤ nI 255)) → r = nI 1 ∧ X1.1 20 = upd (X.1 20) i.toNatClampNeg b ∧ fr X X1 [20] [] []) ∧ (¬ ((0 ≤ i ∧ i < nI 62) ∧ (0 ≤ b ∧ b ≤ nI 255)) → r = nI 0 ∧ X = X1))) 0 0 (g_A V) := by
  refine g_met (by decide) (Nat.le_of_ble_eq_true rfl) ?_
  intro p e s m below meth c hx hb hr hml hown hts hlocks hE hG ls hl
  have hl : lv_has ls 3 [(0, .ref (g_ad V 0)), (1, .int (i)), (2, .int (b))] := hl
  have hown : s.vm.findClass R_SVS = some m.cls := hown
  refine lv_aload_n hx hb d_SVS_putSignature_0 rfl (lv_at hl 0 rfl) ?_
  refine g_get (ci := 0) (v := .ref (g_ad V 20)) (C := R_SVS) (T := F_SVS) (N := 9) hx hb hts (fun w h => List.mem_cons_of_mem _ (in_SVS w h)) hown hE hG 0 (by decide) rfl rfl 6 (by decide) (hts _ (List.mem_cons_of_mem _ kw_197)) (fun _ h9 => h9) rfl d_SVS_putSignature_1 ?_
  refine lv_iload_n hx hb d_SVS_putSignature_4 rfl (lv_at hl 1 rfl) ?_
  refine lv_iload_n hx hb d_SVS_putSignature_5 rfl (lv_at hl 2 rfl) ?_
  refine g_calli (va_runS (As := [.ref (g_ad V 20), .int (i), .int (b)]) (rest := []) ⟨hx, hb, hml, hown, hts⟩ (c_putByte l V X 20 (by decide) i b) (va_cwS 3 hts (g_goodS kw_539 kw_537 kw_538 kw_1) rfl rfl rfl (by decide +kernel) ⟨Nat.le_of_ble_eq_true rfl, Nat.le_of_ble_eq_true rfl⟩) (g_preS hE hG) rfl rfl hl.1 rfl (lv_room (Nat.le_of_ble_eq_true rfl)) d_SVS_putSignature_6 ⟨Nat.le_refl 0, Nat.le_refl 0⟩) hG (fun ra X2 H locs q2 hG => ?_)
  have rz : ra = 0 ∨ ra = 1 := (Classical.em ((0 ≤ i ∧ i < nI 62) ∧ (0 ≤ b ∧ b ≤ nI 255))).elim (fun z => Or.inr (q2.1 z).1) (fun z => Or.inl (q2.2 z).1)
  exact g_zret hx hb hr hlocks hE hG (rz) (q2) d_SVS_putSignature_9

set_option maxHeartbeats 4000000 in
set_option maxRecDepth 100000 in
theorem c_S_secret (l : Launch) (V : Ev) (X : Mm) (wh i : Int32) : Met l y_SVS_secret (Cond.code y_SVS_secret b_SVS_secret 3 (some .int) :: WA) ({ frames := 2, cells := 0, slots := 0, locals := 45 } : Room) (g_Pc V X [.ref (g_ad V 0), .int (wh), .int (i)]) (g_Qi V (fun (r : Int32) (X1 : Mm) => ((¬ (¬ X.2.2 0 = nI 0 ∧ (0 ≤ wh ∧ wh < nI 6) ∧ (0 ≤ i ∧ i < nI 16)) → r = nI 0) ∧ ((¬ X.2.2 0 = nI 0 ∧ (0 ≤ wh ∧ wh < nI 6) ∧ (0 ≤ i ∧ i < nI 16)) → ∃ w j, w < 6 ∧ j < 16 ∧ wh = nI w ∧ i = nI j ∧ r = cenP (redP (X.1 (27 + w / 2) (16 * (w % 2) + j)).toInt64))) ∧ X = X1)) 0 0 (g_A V) := by
  refine g_met (by decide) (Nat.le_of_ble_eq_true rfl) ?_
  intro p e s m below meth c hx hb hr hml hown hts hlocks hE hG ls hl
  have hl : lv_has ls 3 [(0, .ref (g_ad V 0)), (1, .int (wh)), (2, .int (i))] := hl
  have hown : s.vm.findClass R_SVS = some m.cls := hown
  refine lv_aload_n hx hb d_SVS_secret_0 rfl (lv_at hl 0 rfl) ?_
  refine g_get (ci := 0) (v := .int (X.2.2 0)) (C := R_SVS) (T := F_SVS) (N := 9) hx hb hts (fun w h => List.mem_cons_of_mem _ (in_SVS w h)) hown hE hG 0 (by decide) rfl rfl 8 (by decide) (hts _ (List.mem_cons_of_mem _ kw_199)) (fun _ h9 => h9) rfl d_SVS_secret_1 ?_
  refine lv_if_eq (tgt := 25) hx hb d_SVS_secret_4 (by decide) (fun c4 => ?_) (fun c4 => ?_)
  · refine lv_iconst (v := nI (0)) hx hb d_SVS_secret_25 (by decide) ?_
    exact g_iret hx hb hr hlocks hE hG (⟨⟨fun _ => rfl, fun z => absurd c4 z.1⟩, rfl⟩) d_SVS_secret_26
  · refine lv_iload_n hx hb d_SVS_secret_7 rfl (lv_at hl 1 rfl) ?_
    refine lv_bipush (v := nI (6)) hx hb d_SVS_secret_8 (by decide) ?_
    refine g_callpi (va_runS (As := [.int (wh), .int (nI (6))]) (rest := []) ⟨hx, hb, hml, hown, hts⟩ (c_isIndex l wh (nI 6)) (va_cwS 2 hts (g_goodS kw_528 kw_526 kw_527 kw_1) rfl rfl rfl (by decide +kernel) ⟨Nat.le_of_ble_eq_true rfl, Nat.le_of_ble_eq_true rfl⟩) ⟨fun _ _ _ _ q => q, fun _ _ _ => rfl⟩ rfl rfl hl.1 rfl (lv_room (Nat.le_of_ble_eq_true rfl)) d_SVS_secret_10 ⟨Nat.le_refl 0, Nat.le_refl 0⟩) (fun r1 q1 => ?_)
    refine lv_if_eq (tgt := 25) hx hb d_SVS_secret_13 (by decide) (fun c13 => ?_) (fun c13 => ?_)
    · have n1 : ¬ (0 ≤ wh ∧ wh < nI 6) := fun z => by rw [q1, if_pos z] at c13; exact absurd c13 (by decide)
      refine lv_iconst (v := nI (0)) hx hb d_SVS_secret_25 (by decide) ?_
      exact g_iret hx hb hr hlocks hE hG (⟨⟨fun _ => rfl, fun z => absurd z.2.1 n1⟩, rfl⟩) d_SVS_secret_26
    · have n1 : 0 ≤ wh ∧ wh < nI 6 := Classical.byContradiction fun z => c13 (by rw [q1, if_neg z]; rfl)
      refine lv_iload_n hx hb d_SVS_secret_16 rfl (lv_at hl 2 rfl) ?_
      refine lv_bipush (v := nI (16)) hx hb d_SVS_secret_17 (by decide) ?_
      refine g_callpi (va_runS (As := [.int (i), .int (nI (16))]) (rest := []) ⟨hx, hb, hml, hown, hts⟩ (c_isIndex l i (nI 16)) (va_cwS 2 hts (g_goodS kw_528 kw_526 kw_527 kw_1) rfl rfl rfl (by decide +kernel) ⟨Nat.le_of_ble_eq_true rfl, Nat.le_of_ble_eq_true rfl⟩) ⟨fun _ _ _ _ q => q, fun _ _ _ => rfl⟩ rfl rfl hl.1 rfl (lv_room (Nat.le_of_ble_eq_true rfl)) d_SVS_secret_19 ⟨Nat.le_refl 0, Nat.le_refl 0⟩) (fun r2 q2 => ?_)
      refine lv_if_ne (tgt := 27) hx hb d_SVS_secret_22 (by decide) (fun c22 => ?_) (fun c22 => ?_)
      · have n2 : 0 ≤ i ∧ i < nI 16 := Classical.byContradiction fun z => c22 (by rw [q2, if_neg z]; rfl)
        have ok : (¬ X.2.2 0 = nI 0 ∧ (0 ≤ wh ∧ wh < nI 6) ∧ (0 ≤ i ∧ i < nI 16)) := ⟨c4, n1, n2⟩
        obtain ⟨w, hw, ew⟩ := rgN (by decide) n1
        obtain ⟨j, hj, ej⟩ := rgN (by decide) n2
        rcases (show w / 2 = 0 ∨ w / 2 = 1 ∨ w / 2 = 2 by omega) with e2 | e2 | e2
        · have hl : lv_has ls 3 [(0, .ref (g_ad V 0)), (1, .int (nI (w))), (2, .int (nI (j)))] := by rw [← ew, ← ej]; exact hl
          refine lv_aload_n hx hb d_SVS_secret_27 rfl (lv_at hl 0 rfl) ?_
          refine g_get (ci := 0) (v := .ref (g_ad V 6)) (C := R_SVS) (T := F_SVS) (N := 9) hx hb hts (fun w h => List.mem_cons_of_mem _ (in_SVS w h)) hown hE hG 0 (by decide) rfl rfl 2 (by decide) (hts _ (List.mem_cons_of_mem _ kw_193)) (fun _ h9 => h9) rfl d_SVS_secret_28 ?_
          refine lv_iload_n hx hb d_SVS_secret_31 rfl (lv_at hl 1 rfl) ?_
          refine lv_iconst (v := nI (2)) hx hb d_SVS_secret_32 (by decide) ?_
          refine lv_idiv hx hb d_SVS_secret_33 (by decide) ?_
          refine g_topi (y := nI (w / 2)) (pk_div (by omega) (by omega) (by omega)) ?_
          refine g_topi (y := nI (0)) (congrArg nI e2) ?_
          refine g_callr (va_runV (As := [.int (nI (0))]) (rest := []) ⟨hx, hb, hml, hown, hts⟩ (c_vectorOf_0 l V X ) (cwV 1 hts (g_goodV kw_551 kw_548 kw_549 kw_550 kw_4) rfl rfl rfl (by decide +kernel) ⟨Nat.le_of_ble_eq_true rfl, Nat.le_of_ble_eq_true rfl⟩) (g_preV (k0 := 6) (ci := 3) hE hG (by decide) rfl rfl) rfl rfl hl.1 rfl (lv_room (Nat.le_of_ble_eq_true rfl)) d_SVS_secret_34 ⟨Nat.le_refl 0, Nat.le_refl 0⟩) hG (fun X9 H locs q9 hG => ?_)
          subst q9
          refine lv_bipush (v := nI (16)) hx hb d_SVS_secret_37 (by decide) ?_
          refine lv_iload_n hx hb d_SVS_secret_39 rfl (lv_at hl 1 rfl) ?_
          refine lv_iconst (v := nI (2)) hx hb d_SVS_secret_40 (by decide) ?_
          refine lv_irem hx hb d_SVS_secret_41 (by decide) ?_
          refine g_topi (y := nI (w % 2)) (pk_rem (by omega) (by omega) (by omega)) ?_
          refine lv_imul hx hb d_SVS_secret_42 ?_
          refine g_topi (y := nI (16 * (w % 2))) (pk_mul _ _) ?_
          refine lv_iload_n hx hb d_SVS_secret_43 rfl (lv_at hl 2 rfl) ?_
          refine lv_iadd hx hb d_SVS_secret_44 ?_
          refine g_topi (y := nI ((16 * (w % 2)) + j)) (nI_add _ _) ?_
          refine g_iald hx hb hE hG 27 (by decide) ((16 * (w % 2)) + j) (rfl) (show _ < 32 by omega) (v := X.1 27 ((16 * (w % 2)) + j)) (rfl) d_SVS_secret_45 ?_
          refine g_topi (y := X.1 (27 + w / 2) (16 * (w % 2) + j)) (by rw [e2]) ?_
          refine lv_i2l (v := (X.1 (27 + w / 2) (16 * (w % 2) + j)).toInt64) hx hb d_SVS_secret_46 rfl ?_
          refine g_callpi (va_runS (As := [.long ((X.1 (27 + w / 2) (16 * (w % 2) + j)).toInt64)]) (rest := []) ⟨hx, hb, hml, hown, hts⟩ (c_centered l (X.1 (27 + w / 2) (16 * (w % 2) + j)).toInt64) (va_cwS 1 hts (g_goodS kw_430 kw_552 kw_429 kw_13) rfl rfl rfl (by decide +kernel) ⟨Nat.le_of_ble_eq_true rfl, Nat.le_of_ble_eq_true rfl⟩) ⟨fun _ _ _ _ q => q, fun _ _ _ => rfl⟩ rfl rfl hl.1 rfl (lv_room (Nat.le_of_ble_eq_true rfl)) d_SVS_secret_47 ⟨Nat.le_refl 0, Nat.le_refl 0⟩) (fun r9 qc => ?_)
          refine g_topi (y := cenP (redP (X.1 (27 + w / 2) (16 * (w % 2) + j)).toInt64)) (qc) ?_
          exact g_iret hx hb hr hlocks hE hG (⟨⟨fun z => absurd ok z, fun _ => ⟨w, j, hw, hj, ew, ej, rfl⟩⟩, rfl⟩) d_SVS_secret_50
        · have hl : lv_has ls 3 [(0, .ref (g_ad V 0)), (1, .int (nI (w))), (2, .int (nI (j)))] := by rw [← ew, ← ej]; exact hl
          refine lv_aload_n hx hb d_SVS_secret_27 rfl (lv_at hl 0 rfl) ?_
          refine g_get (ci := 0) (v := .ref (g_ad V 6)) (C := R_SVS) (T := F_SVS) (N := 9) hx hb hts (fun w h => List.mem_cons_of_mem _ (in_SVS w h)) hown hE hG 0 (by decide) rfl rfl 2 (by decide) (hts _ (List.mem_cons_of_mem _ kw_193)) (fun _ h9 => h9) rfl d_SVS_secret_28 ?_
          refine lv_iload_n hx hb d_SVS_secret_31 rfl (lv_at hl 1 rfl) ?_
          refine lv_iconst (v := nI (2)) hx hb d_SVS_secret_32 (by decide) ?_
          refine lv_idiv hx hb d_SVS_secret_33 (by decide) ?_
          refine g_topi (y := nI (w / 2)) (pk_div (by omega) (by omega) (by omega)) ?_
          refine g_topi (y := nI (1)) (congrArg nI e2) ?_
          refine g_callr (va_runV (As := [.int (nI (1))]) (rest := []) ⟨hx, hb, hml, hown, hts⟩ (c_vectorOf_1 l V X ) (cwV 1 hts (g_goodV kw_551 kw_548 kw_549 kw_550 kw_4) rfl rfl rfl (by decide +kernel) ⟨Nat.le_of_ble_eq_true rfl, Nat.le_of_ble_eq_true rfl⟩) (g_preV (k0 := 6) (ci := 3) hE hG (by decide) rfl rfl) rfl rfl hl.1 rfl (lv_room (Nat.le_of_ble_eq_true rfl)) d_SVS_secret_34 ⟨Nat.le_refl 0, Nat.le_refl 0⟩) hG (fun X9 H locs q9 hG => ?_)
          subst q9
          refine lv_bipush (v := nI (16)) hx hb d_SVS_secret_37 (by decide) ?_
          refine lv_iload_n hx hb d_SVS_secret_39 rfl (lv_at hl 1 rfl) ?_
          refine lv_iconst (v := nI (2)) hx hb d_SVS_secret_40 (by decide) ?_
          refine lv_irem hx hb d_SVS_secret_41 (by decide) ?_
          refine g_topi (y := nI (w % 2)) (pk_rem (by omega) (by omega) (by omega)) ?_
          refine lv_imul hx hb d_SVS_secret_42 ?_
          refine g_topi (y := nI (16 * (w % 2))) (pk_mul _ _) ?_
          refine lv_iload_n hx hb d_SVS_secret_43 rfl (lv_at hl 2 rfl) ?_
          refine lv_iadd hx hb d_SVS_secret_44 ?_
          refine g_topi (y := nI ((16 * (w % 2)) + j)) (nI_add _ _) ?_
          refine g_iald hx hb hE hG 28 (by decide) ((16 * (w % 2)) + j) (rfl) (show _ < 32 by omega) (v := X.1 28 ((16 * (w % 2)) + j)) (rfl) d_SVS_secret_45 ?_
          refine g_topi (y := X.1 (27 + w / 2) (16 * (w % 2) + j)) (by rw [e2]) ?_
          refine lv_i2l (v := (X.1 (27 + w / 2) (16 * (w % 2) + j)).toInt64) hx hb d_SVS_secret_46 rfl ?_
          refine g_callpi (va_runS (As := [.long ((X.1 (27 + w / 2) (16 * (w % 2) + j)).toInt64)]) (rest := []) ⟨hx, hb, hml, hown, hts⟩ (c_centered l (X.1 (27 + w / 2) (16 * (w % 2) + j)).toInt64) (va_cwS 1 hts (g_goodS kw_430 kw_552 kw_429 kw_13) rfl rfl rfl (by decide +kernel) ⟨Nat.le_of_ble_eq_true rfl, Nat.le_of_ble_eq_true rfl⟩) ⟨fun _ _ _ _ q => q, fun _ _ _ => rfl⟩ rfl rfl hl.1 rfl (lv_room (Nat.le_of_ble_eq_true rfl)) d_SVS_secret_47 ⟨Nat.le_refl 0, Nat.le_refl 0⟩) (fun r14 qc => ?_)
          refine g_topi (y := cenP (redP (X.1 (27 + w / 2) (16 * (w % 2) + j)).toInt64)) (qc) ?_
          exact g_iret hx hb hr hlocks hE hG (⟨⟨fun z => absurd ok z, fun _ => ⟨w, j, hw, hj, ew, ej, rfl⟩⟩, rfl⟩) d_SVS_secret_50
        · have hl : lv_has ls 3 [(0, .ref (g_ad V 0)), (1, .int (nI (w))), (2, .int (nI (j)))] := by rw [← ew, ← ej]; exact hl
          refine lv_aload_n hx hb d_SVS_secret_27 rfl (lv_at hl 0 rfl) ?_
          refine g_get (ci := 0) (v := .ref (g_ad V 6)) (C := R_SVS) (T := F_SVS) (N := 9) hx hb hts (fun w h => List.mem_cons_of_mem _ (in_SVS w h)) hown hE hG 0 (by decide) rfl rfl 2 (by decide) (hts _ (List.mem_cons_of_mem _ kw_193)) (fun _ h9 => h9) rfl d_SVS_secret_28 ?_
          refine lv_iload_n hx hb d_SVS_secret_31 rfl (lv_at hl 1 rfl) ?_
          refine lv_iconst (v := nI (2)) hx hb d_SVS_secret_32 (by decide) ?_
          refine lv_idiv hx hb d_SVS_secret_33 (by decide) ?_
          refine g_topi (y := nI (w / 2)) (pk_div (by omega) (by omega) (by omega)) ?_
          refine g_topi (y := nI (2)) (congrArg nI e2) ?_
          refine g_callr (va_runV (As := [.int (nI (2))]) (rest := []) ⟨hx, hb, hml, hown, hts⟩ (c_vectorOf_2 l V X ) (cwV 1 hts (g_goodV kw_551 kw_548 kw_549 kw_550 kw_4) rfl rfl rfl (by decide +kernel) ⟨Nat.le_of_ble_eq_true rfl, Nat.le_of_ble_eq_true rfl⟩) (g_preV (k0 := 6) (ci := 3) hE hG (by decide) rfl rfl) rfl rfl hl.1 rfl (lv_room (Nat.le_of_ble_eq_true rfl)) d_SVS_secret_34 ⟨Nat.le_refl 0, Nat.le_refl 0⟩) hG (fun X9 H locs q9 hG => ?_)
          subst q9
          refine lv_bipush (v := nI (16)) hx hb d_SVS_secret_37 (by decide) ?_
          refine lv_iload_n hx hb d_SVS_secret_39 rfl (lv_at hl 1 rfl) ?_
          refine lv_iconst (v := nI (2)) hx hb d_SVS_secret_40 (by decide) ?_
          refine lv_irem hx hb d_SVS_secret_41 (by decide) ?_
          refine g_topi (y := nI (w % 2)) (pk_rem (by omega) (by omega) (by omega)) ?_
          refine lv_imul hx hb d_SVS_secret_42 ?_
          refine g_topi (y := nI (16 * (w % 2))) (pk_mul _ _) ?_
          refine lv_iload_n hx hb d_SVS_secret_43 rfl (lv_at hl 2 rfl) ?_
          refine lv_iadd hx hb d_SVS_secret_44 ?_
          refine g_topi (y := nI ((16 * (w % 2)) + j)) (nI_add _ _) ?_
          refine g_iald hx hb hE hG 29 (by decide) ((16 * (w % 2)) + j) (rfl) (show _ < 32 by omega) (v := X.1 29 ((16 * (w % 2)) + j)) (rfl) d_SVS_secret_45 ?_
          refine g_topi (y := X.1 (27 + w / 2) (16 * (w % 2) + j)) (by rw [e2]) ?_
          refine lv_i2l (v := (X.1 (27 + w / 2) (16 * (w % 2) + j)).toInt64) hx hb d_SVS_secret_46 rfl ?_
          refine g_callpi (va_runS (As := [.long ((X.1 (27 + w / 2) (16 * (w % 2) + j)).toInt64)]) (rest := []) ⟨hx, hb, hml, hown, hts⟩ (c_centered l (X.1 (27 + w / 2) (16 * (w % 2) + j)).toInt64) (va_cwS 1 hts (g_goodS kw_430 kw_552 kw_429 kw_13) rfl rfl rfl (by decide +kernel) ⟨Nat.le_of_ble_eq_true rfl, Nat.le_of_ble_eq_true rfl⟩) ⟨fun _ _ _ _ q => q, fun _ _ _ => rfl⟩ rfl rfl hl.1 rfl (lv_room (Nat.le_of_ble_eq_true rfl)) d_SVS_secret_47 ⟨Nat.le_refl 0, Nat.le_refl 0⟩) (fun r19 qc => ?_)
          refine g_topi (y := cenP (redP (X.1 (27 + w / 2) (16 * (w % 2) + j)).toInt64)) (qc) ?_
          exact g_iret hx hb hr hlocks hE hG (⟨⟨fun z => absurd ok z, fun _ => ⟨w, j, hw, hj, ew, ej, rfl⟩⟩, rfl⟩) d_SVS_secret_50
      · have n2 : ¬ (0 ≤ i ∧ i < nI 16) := fun z => by rw [q2, if_pos z] at c22; exact absurd c22 (by decide)
        refine lv_iconst (v := nI (0)) hx hb d_SVS_secret_25 (by decide) ?_
        exact g_iret hx hb hr hlocks hE hG (⟨⟨fun _ => rfl, fun z => absurd z.2.2 n2⟩, rfl⟩) d_SVS_secret_26

set_option maxHeartbeats 4000000 in
set_option maxRecDepth 100000 in
theorem c_S_hash (l : Launch) (V : Ev) (X : Mm) (i : Int32) (n : Nat) (hn : n ≤ 24) (hM : X.2.2 2 = nI n) : Met l y_SVS_hash (Cond.code y_SVS_hash b_SVS_hash 2 (some .int) :: WA) ({ frames := 4, cells := 0, slots := 0, locals := 87 } : Room) (g_Pc V X [.ref (g_ad V 0), .int (i)]) (g_Qi V (fun (r : Int32) (X1 : Mm) => r = (if 0 ≤ i ∧ i < nI 136 then HS (X.1 18) n i.toNatClampNeg else -1) ∧ fr X X1 [17] [2, 3, 4] [1])) 0 0 (g_A V) := by
  refine g_met (by decide) (Nat.le_of_ble_eq_true rfl) ?_
  intro p e s m below meth c hx hb hr hml hown hts hlocks hE hG ls hl
  have hl : lv_has ls 2 [(0, .ref (g_ad V 0)), (1, .int (i))] := hl
  have hown : s.vm.findClass R_SVS = some m.cls := hown
  refine lv_iload_n hx hb d_SVS_hash_0 rfl (lv_at hl 1 rfl) ?_
  refine lv_sipush (v := nI (136)) hx hb d_SVS_hash_1 (by decide) ?_
  refine g_callpi (va_runS (As := [.int (i), .int (nI (136))]) (rest := []) ⟨hx, hb, hml, hown, hts⟩ (c_isIndex l i (nI 136)) (va_cwS 2 hts (g_goodS kw_528 kw_526 kw_527 kw_1) rfl rfl rfl (by decide +kernel) ⟨Nat.le_of_ble_eq_true rfl, Nat.le_of_ble_eq_true rfl⟩) ⟨fun _ _ _ _ q => q, fun _ _ _ => rfl⟩ rfl rfl hl.1 rfl (lv_room (Nat.le_of_ble_eq_true rfl)) d_SVS_hash_4 ⟨Nat.le_refl 0, Nat.le_refl 0⟩) (fun r1 q1 => ?_)
  refine lv_if_ne (tgt := 12) hx hb d_SVS_hash_7 (by decide) (fun c7 => ?_) (fun c7 => ?_)
  · have n1 : 0 ≤ i ∧ i < nI 136 := Classical.byContradiction fun z => c7 (by rw [q1, if_neg z]; rfl)
    obtain ⟨j, hj, ej⟩ := rgN (by decide) n1
    refine lv_aload_n hx hb d_SVS_hash_12 rfl (lv_at hl 0 rfl) ?_
    refine g_get (ci := 0) (v := .ref (g_ad V 1)) (C := R_SVS) (T := F_SVS) (N := 9) hx hb hts (fun w h => List.mem_cons_of_mem _ (in_SVS w h)) hown hE hG 0 (by decide) rfl rfl 0 (by decide) (hts _ (List.mem_cons_of_mem _ kw_191)) (fun _ h9 => h9) rfl d_SVS_hash_13 ?_
    refine g_callv (va_runV (As := []) (rest := []) ⟨hx, hb, hml, hown, hts⟩ (c_begin l V X ) (cwV 0 hts (g_goodV kw_230 kw_557 kw_228 kw_229 kw_2) rfl rfl rfl (by decide +kernel) ⟨Nat.le_of_ble_eq_true rfl, Nat.le_of_ble_eq_true rfl⟩) (g_preV (k0 := 1) (ci := 1) hE hG (by decide) rfl rfl) rfl rfl hl.1 rfl (lv_room (Nat.le_of_ble_eq_true rfl)) d_SVS_hash_16 ⟨Nat.le_refl 0, Nat.le_refl 0⟩) hG (fun X2 H locs q2 hG => ?_)
    refine lv_aload_n hx hb d_SVS_hash_19 rfl (lv_at hl 0 rfl) ?_
    refine g_get (ci := 0) (v := .ref (g_ad V 5)) (C := R_SVS) (T := F_SVS) (N := 9) hx hb hts (fun w h => List.mem_cons_of_mem _ (in_SVS w h)) hown hE hG 0 (by decide) rfl rfl 1 (by decide) (hts _ (List.mem_cons_of_mem _ kw_192)) (fun _ h9 => h9) rfl d_SVS_hash_20 ?_
    refine lv_aload_n hx hb d_SVS_hash_23 rfl (lv_at hl 0 rfl) ?_
    refine g_get (ci := 0) (v := .ref (g_ad V 1)) (C := R_SVS) (T := F_SVS) (N := 9) hx hb hts (fun w h => List.mem_cons_of_mem _ (in_SVS w h)) hown hE hG 0 (by decide) rfl rfl 0 (by decide) (hts _ (List.mem_cons_of_mem _ kw_191)) (fun _ h9 => h9) rfl d_SVS_hash_24 ?_
    refine g_callv (va_runV (As := [.ref (g_ad V 1)]) (rest := []) ⟨hx, hb, hml, hown, hts⟩ (c_feed l V X2 (X.1 18) 0 n hn (by omega) q2.1 q2.2.1 (by rw [q2.2.2.2.2 2 (by decide)]; exact hM) (fun j hj => by rw [q2.2.2.1 18 (fun q => by cases q), Nat.zero_add])) (cwV 1 hts (g_goodV kw_368 kw_558 kw_366 kw_367 kw_3) rfl rfl rfl (by decide +kernel) ⟨Nat.le_of_ble_eq_true rfl, Nat.le_of_ble_eq_true rfl⟩) (g_preV (k0 := 5) (ci := 2) hE hG (by decide) rfl rfl) rfl rfl hl.1 rfl (lv_room (Nat.le_of_ble_eq_true rfl)) d_SVS_hash_27 ⟨Nat.le_refl 0, Nat.le_refl 0⟩) hG (fun X3 H locs q3 hG => ?_)
    refine lv_aload_n hx hb d_SVS_hash_30 rfl (lv_at hl 0 rfl) ?_
    refine g_get (ci := 0) (v := .ref (g_ad V 1)) (C := R_SVS) (T := F_SVS) (N := 9) hx hb hts (fun w h => List.mem_cons_of_mem _ (in_SVS w h)) hown hE hG 0 (by decide) rfl rfl 0 (by decide) (hts _ (List.mem_cons_of_mem _ kw_191)) (fun _ h9 => h9) rfl d_SVS_hash_31 ?_
    refine g_callr (va_runV (As := []) (rest := []) ⟨hx, hb, hml, hown, hts⟩ (c_finish l V X3 (X.1 18) (0 + n) (by omega) q3.1 q3.2.1) (cwV 0 hts (g_goodV kw_249 kw_559 kw_247 kw_248 kw_2) rfl rfl rfl (by decide +kernel) ⟨Nat.le_of_ble_eq_true rfl, Nat.le_of_ble_eq_true rfl⟩) (g_preV (k0 := 1) (ci := 1) hE hG (by decide) rfl rfl) rfl rfl hl.1 rfl (lv_room (Nat.le_of_ble_eq_true rfl)) d_SVS_hash_34 ⟨Nat.le_refl 0, Nat.le_refl 0⟩) hG (fun X4 H locs q4 hG => ?_)
    refine lv_iload_n hx hb d_SVS_hash_37 rfl (lv_at hl 1 rfl) ?_
    refine g_iald hx hb hE hG 17 (by decide) (j) (ej) (hj) (v := HS (X.1 18) n j) (by rw [q4.1, Nat.zero_add]) d_SVS_hash_38 ?_
    exact g_iret hx hb hr hlocks hE hG (⟨by rw [if_pos n1, ej, nI_clamp (by omega)], (fr_tr2 (fr_tr2 (fr_mono q2.2.2 (a' := [17]) (b' := [2, 3, 4]) (c' := [1]) (by decide) (by decide) (by decide)) q3.2.2 (by decide) (by decide) (by decide)) q4.2 (by decide) (by decide) (by decide))⟩) d_SVS_hash_39
  · have n1 : ¬ (0 ≤ i ∧ i < nI 136) := fun z => by rw [q1, if_pos z] at c7; exact absurd c7 (by decide)
    refine lv_iconst (v := -1) hx hb d_SVS_hash_10 (by decide) ?_
    exact g_iret hx hb hr hlocks hE hG (⟨(if_neg n1).symm, fr_rf X _ _ _⟩) d_SVS_hash_11

set_option maxHeartbeats 4000000 in
set_option maxRecDepth 100000 in
theorem c_S_ball (l : Launch) (V : Ev) (X : Mm) (i : Int32) : Met l y_SVS_ball (Cond.code y_SVS_ball b_SVS_ball 2 (some .int) :: WA) ({ frames := 4, cells := 0, slots := 0, locals := 88 } : Room) (g_Pc V X [.ref (g_ad V 0), .int (i)]) (g_Qi V (fun (r : Int32) (X1 : Mm) => r = (if 0 ≤ i ∧ i < nI 16 then blP (HS (X.1 20) 8) i.toNatClampNeg else nI 0) ∧ fr X X1 [17, 21] [2, 3, 4] [1])) 0 0 (g_A V) := by
  refine g_met (by decide) (Nat.le_of_ble_eq_true rfl) ?_
  intro p e s m below meth c hx hb hr hml hown hts hlocks hE hG ls hl
  have hl : lv_has ls 2 [(0, .ref (g_ad V 0)), (1, .int (i))] := hl
  have hown : s.vm.findClass R_SVS = some m.cls := hown
  refine lv_iload_n hx hb d_SVS_ball_0 rfl (lv_at hl 1 rfl) ?_
  refine lv_bipush (v := nI (16)) hx hb d_SVS_ball_1 (by decide) ?_
  refine g_callpi (va_runS (As := [.int (i), .int (nI (16))]) (rest := []) ⟨hx, hb, hml, hown, hts⟩ (c_isIndex l i (nI 16)) (va_cwS 2 hts (g_goodS kw_528 kw_526 kw_527 kw_1) rfl rfl rfl (by decide +kernel) ⟨Nat.le_of_ble_eq_true rfl, Nat.le_of_ble_eq_true rfl⟩) ⟨fun _ _ _ _ q => q, fun _ _ _ => rfl⟩ rfl rfl hl.1 rfl (lv_room (Nat.le_of_ble_eq_true rfl)) d_SVS_ball_3 ⟨Nat.le_refl 0, Nat.le_refl 0⟩) (fun r1 q1 => ?_)
  refine lv_if_ne (tgt := 11) hx hb d_SVS_ball_6 (by decide) (fun c6 => ?_) (fun c6 => ?_)
  · have n1 : 0 ≤ i ∧ i < nI 16 := Classical.byContradiction fun z => c6 (by rw [q1, if_neg z]; rfl)
    obtain ⟨j, hj, ej⟩ := rgN (by decide) n1
    refine lv_aload_n hx hb d_SVS_ball_11 rfl (lv_at hl 0 rfl) ?_
    refine g_get (ci := 0) (v := .ref (g_ad V 1)) (C := R_SVS) (T := F_SVS) (N := 9) hx hb hts (fun w h => List.mem_cons_of_mem _ (in_SVS w h)) hown hE hG 0 (by decide) rfl rfl 0 (by decide) (hts _ (List.mem_cons_of_mem _ kw_191)) (fun _ h9 => h9) rfl d_SVS_ball_12 ?_
    refine lv_aload_n hx hb d_SVS_ball_15 rfl (lv_at hl 0 rfl) ?_
    refine g_get (ci := 0) (v := .ref (g_ad V 20)) (C := R_SVS) (T := F_SVS) (N := 9) hx hb hts (fun w h => List.mem_cons_of_mem _ (in_SVS w h)) hown hE hG 0 (by decide) rfl rfl 6 (by decide) (hts _ (List.mem_cons_of_mem _ kw_197)) (fun _ h9 => h9) rfl d_SVS_ball_16 ?_
    refine lv_aload_n hx hb d_SVS_ball_19 rfl (lv_at hl 0 rfl) ?_
    refine g_get (ci := 0) (v := .ref (g_ad V 21)) (C := R_SVS) (T := F_SVS) (N := 9) hx hb hts (fun w h => List.mem_cons_of_mem _ (in_SVS w h)) hown hE hG 0 (by decide) rfl rfl 7 (by decide) (hts _ (List.mem_cons_of_mem _ kw_198)) (fun _ h9 => h9) rfl d_SVS_ball_20 ?_
    refine g_callv (va_runS (As := [.ref (g_ad V 1), .ref (g_ad V 20), .ref (g_ad V 21)]) (rest := []) ⟨hx, hb, hml, hown, hts⟩ (c_fillBall_21 l V X ) (va_cwS 3 hts (g_goodS kw_410 kw_564 kw_409 kw_12) rfl rfl rfl (by decide +kernel) ⟨Nat.le_of_ble_eq_true rfl, Nat.le_of_ble_eq_true rfl⟩) (g_preS hE hG) rfl rfl hl.1 rfl (lv_room (Nat.le_of_ble_eq_true rfl)) d_SVS_ball_23 ⟨Nat.le_refl 0, Nat.le_refl 0⟩) hG (fun X2 H locs q2 hG => ?_)
    refine lv_aload_n hx hb d_SVS_ball_26 rfl (lv_at hl 0 rfl) ?_
    refine g_get (ci := 0) (v := .ref (g_ad V 21)) (C := R_SVS) (T := F_SVS) (N := 9) hx hb hts (fun w h => List.mem_cons_of_mem _ (in_SVS w h)) hown hE hG 0 (by decide) rfl rfl 7 (by decide) (hts _ (List.mem_cons_of_mem _ kw_198)) (fun _ h9 => h9) rfl d_SVS_ball_27 ?_
    refine lv_iload_n hx hb d_SVS_ball_30 rfl (lv_at hl 1 rfl) ?_
    refine g_iald hx hb hE hG 21 (by decide) (j) (ej) (hj) (v := blP (HS (X.1 20) 8) j) (by rw [q2.1]) d_SVS_ball_31 ?_
    exact g_iret hx hb hr hlocks hE hG (⟨by rw [if_pos n1, ej, nI_clamp (by omega)], q2.2⟩) d_SVS_ball_32
  · have n1 : ¬ (0 ≤ i ∧ i < nI 16) := fun z => by rw [q1, if_pos z] at c6; exact absurd c6 (by decide)
    refine lv_iconst (v := nI (0)) hx hb d_SVS_ball_9 (by decide) ?_
    exact g_iret hx hb hr hlocks hE hG (⟨(if_neg n1).symm, fr_rf X _ _ _⟩) d_SVS_ball_10

set_option maxHeartbeats 4000000 in
set_option maxRecDepth 100000 in
theorem c_S_high (l : Launch) (V : Ev) (X : Mm) (r : Int32) : Met l y_SVS_high (Cond.code y_SVS_high b_SVS_high 2 (some .int) :: WA) ({ frames := 2, cells := 0, slots := 0, locals := 43 } : Room) (g_Pc V X [.ref (g_ad V 0), .int (r)]) (g_Qi V (fun (a : Int32) (X1 : Mm) => a = hiP (redP r.toInt64) ∧ X = X1)) 0 0 (g_A V) := by
  refine g_met (by decide) (Nat.le_of_ble_eq_true rfl) ?_
  intro p e s m below meth c hx hb hr hml hown hts hlocks hE hG ls hl
  have hl : lv_has ls 2 [(0, .ref (g_ad V 0)), (1, .int (r))] := hl
  have hown : s.vm.findClass R_SVS = some m.cls := hown
  refine lv_iload_n hx hb d_SVS_high_0 rfl (lv_at hl 1 rfl) ?_
  refine lv_i2l (v := r.toInt64) hx hb d_SVS_high_1 rfl ?_
  refine g_callpi (va_runS (As := [.long (r.toInt64)]) (rest := []) ⟨hx, hb, hml, hown, hts⟩ (c_reduce l r.toInt64) (va_cwS 1 hts (g_goodS kw_311 kw_569 kw_310 kw_13) rfl rfl rfl (by decide +kernel) ⟨Nat.le_of_ble_eq_true rfl, Nat.le_of_ble_eq_true rfl⟩) ⟨fun _ _ _ _ q => q, fun _ _ _ => rfl⟩ rfl rfl hl.1 rfl (lv_room (Nat.le_of_ble_eq_true rfl)) d_SVS_high_2 ⟨Nat.le_refl 0, Nat.le_refl 0⟩) (fun r2 q1 => ?_)
  refine g_topi (y := redP r.toInt64) (q1) ?_
  refine g_callpi (va_runS (As := [.int (redP r.toInt64)]) (rest := []) ⟨hx, hb, hml, hown, hts⟩ (c_highOf l (redP r.toInt64)) (va_cwS 1 hts (g_goodS kw_397 kw_570 kw_396 kw_14) rfl rfl rfl (by decide +kernel) ⟨Nat.le_of_ble_eq_true rfl, Nat.le_of_ble_eq_true rfl⟩) ⟨fun _ _ _ _ q => q, fun _ _ _ => rfl⟩ rfl rfl hl.1 rfl (lv_room (Nat.le_of_ble_eq_true rfl)) d_SVS_high_5 ⟨Nat.le_refl 0, Nat.le_refl 0⟩) (fun r4 q2 => ?_)
  exact g_iret hx hb hr hlocks hE hG (⟨q2, rfl⟩) d_SVS_high_8

set_option maxHeartbeats 4000000 in
set_option maxRecDepth 100000 in
theorem c_S_low (l : Launch) (V : Ev) (X : Mm) (r : Int32) : Met l y_SVS_low (Cond.code y_SVS_low b_SVS_low 2 (some .int) :: WA) ({ frames := 2, cells := 0, slots := 0, locals := 43 } : Room) (g_Pc V X [.ref (g_ad V 0), .int (r)]) (g_Qi V (fun (a : Int32) (X1 : Mm) => a = loP (redP r.toInt64) ∧ X = X1)) 0 0 (g_A V) := by
  refine g_met (by decide) (Nat.le_of_ble_eq_true rfl) ?_
  intro p e s m below meth c hx hb hr hml hown hts hlocks hE hG ls hl
  have hl : lv_has ls 2 [(0, .ref (g_ad V 0)), (1, .int (r))] := hl
  have hown : s.vm.findClass R_SVS = some m.cls := hown
  refine lv_iload_n hx hb d_SVS_low_0 rfl (lv_at hl 1 rfl) ?_
  refine lv_i2l (v := r.toInt64) hx hb d_SVS_low_1 rfl ?_
  refine g_callpi (va_runS (As := [.long (r.toInt64)]) (rest := []) ⟨hx, hb, hml, hown, hts⟩ (c_reduce l r.toInt64) (va_cwS 1 hts (g_goodS kw_311 kw_569 kw_310 kw_13) rfl rfl rfl (by decide +kernel) ⟨Nat.le_of_ble_eq_true rfl, Nat.le_of_ble_eq_true rfl⟩) ⟨fun _ _ _ _ q => q, fun _ _ _ => rfl⟩ rfl rfl hl.1 rfl (lv_room (Nat.le_of_ble_eq_true rfl)) d_SVS_low_2 ⟨Nat.le_refl 0, Nat.le_refl 0⟩) (fun r2 q1 => ?_)
  refine g_topi (y := redP r.toInt64) (q1) ?_
  refine g_callpi (va_runS (As := [.int (redP r.toInt64)]) (rest := []) ⟨hx, hb, hml, hown, hts⟩ (c_lowOf l (redP r.toInt64)) (va_cwS 1 hts (g_goodS kw_445 kw_575 kw_444 kw_14) rfl rfl rfl (by decide +kernel) ⟨Nat.le_of_ble_eq_true rfl, Nat.le_of_ble_eq_true rfl⟩) ⟨fun _ _ _ _ q => q, fun _ _ _ => rfl⟩ rfl rfl hl.1 rfl (lv_room (Nat.le_of_ble_eq_true rfl)) d_SVS_low_5 ⟨Nat.le_refl 0, Nat.le_refl 0⟩) (fun r4 q2 => ?_)
  exact g_iret hx hb hr hlocks hE hG (⟨q2, rfl⟩) d_SVS_low_8

set_option maxHeartbeats 4000000 in
set_option maxRecDepth 100000 in
theorem c_S_hint (l : Launch) (V : Ev) (X : Mm) (z r : Int32) : Met l y_SVS_hint (Cond.code y_SVS_hint b_SVS_hint 3 (some .int) :: WA) ({ frames := 3, cells := 0, slots := 0, locals := 65 } : Room) (g_Pc V X [.ref (g_ad V 0), .int (z), .int (r)]) (g_Qi V (fun (a : Int32) (X1 : Mm) => a = hinP z.toInt64 (redP r.toInt64) ∧ X = X1)) 0 0 (g_A V) := by
  refine g_met (by decide) (Nat.le_of_ble_eq_true rfl) ?_
  intro p e s m below meth c hx hb hr hml hown hts hlocks hE hG ls hl
  have hl : lv_has ls 3 [(0, .ref (g_ad V 0)), (1, .int (z)), (2, .int (r))] := hl
  have hown : s.vm.findClass R_SVS = some m.cls := hown
  refine lv_iload_n hx hb d_SVS_hint_0 rfl (lv_at hl 1 rfl) ?_
  refine lv_i2l (v := z.toInt64) hx hb d_SVS_hint_1 rfl ?_
  refine lv_iload_n hx hb d_SVS_hint_2 rfl (lv_at hl 2 rfl) ?_
  refine lv_i2l (v := r.toInt64) hx hb d_SVS_hint_3 rfl ?_
  refine g_callpi (va_runS (As := [.long (r.toInt64)]) (rest := [.long (z.toInt64)]) ⟨hx, hb, hml, hown, hts⟩ (c_reduce l r.toInt64) (va_cwS 1 hts (g_goodS kw_311 kw_569 kw_310 kw_13) rfl rfl rfl (by decide +kernel) ⟨Nat.le_of_ble_eq_true rfl, Nat.le_of_ble_eq_true rfl⟩) ⟨fun _ _ _ _ q => q, fun _ _ _ => rfl⟩ rfl rfl hl.1 rfl (lv_room (Nat.le_of_ble_eq_true rfl)) d_SVS_hint_4 ⟨Nat.le_refl 0, Nat.le_refl 0⟩) (fun r2 q1 => ?_)
  refine g_topi (y := redP r.toInt64) (q1) ?_
  refine g_callpi (va_runS (As := [.long (z.toInt64), .int (redP r.toInt64)]) (rest := []) ⟨hx, hb, hml, hown, hts⟩ (c_hintOf l z.toInt64 (redP r.toInt64)) (va_cwS 2 hts (g_goodS kw_453 kw_580 kw_452 kw_14) rfl rfl rfl (by decide +kernel) ⟨Nat.le_of_ble_eq_true rfl, Nat.le_of_ble_eq_true rfl⟩) ⟨fun _ _ _ _ q => q, fun _ _ _ => rfl⟩ rfl rfl hl.1 rfl (lv_room (Nat.le_of_ble_eq_true rfl)) d_SVS_hint_7 ⟨Nat.le_refl 0, Nat.le_refl 0⟩) (fun r4 q2 => ?_)
  exact g_iret hx hb hr hlocks hE hG (⟨q2, rfl⟩) d_SVS_hint_10

set_option maxHeartbeats 4000000 in
set_option maxRecDepth 100000 in
theorem c_S_corrected (l : Launch) (V : Ev) (X : Mm) (h r : Int32) : Met l y_SVS_corrected (Cond.code y_SVS_corrected b_SVS_corrected 3 (some .int) :: WA) ({ frames := 3, cells := 0, slots := 0, locals := 65 } : Room) (g_Pc V X [.ref (g_ad V 0), .int (h), .int (r)]) (g_Qi V (fun (a : Int32) (X1 : Mm) => a = corP (h &&& nI 1) (redP r.toInt64) ∧ X = X1)) 0 0 (g_A V) := by
  refine g_met (by decide) (Nat.le_of_ble_eq_true rfl) ?_
  intro p e s m below meth c hx hb hr hml hown hts hlocks hE hG ls hl
  have hl : lv_has ls 3 [(0, .ref (g_ad V 0)), (1, .int (h)), (2, .int (r))] := hl
  have hown : s.vm.findClass R_SVS = some m.cls := hown
  refine lv_iload_n hx hb d_SVS_corrected_0 rfl (lv_at hl 1 rfl) ?_
  refine lv_iconst (v := nI (1)) hx hb d_SVS_corrected_1 (by decide) ?_
  refine lv_iand hx hb d_SVS_corrected_2 ?_
  refine lv_iload_n hx hb d_SVS_corrected_3 rfl (lv_at hl 2 rfl) ?_
  refine lv_i2l (v := r.toInt64) hx hb d_SVS_corrected_4 rfl ?_
  refine g_callpi (va_runS (As := [.long (r.toInt64)]) (rest := [.int (h &&& (nI (1)))]) ⟨hx, hb, hml, hown, hts⟩ (c_reduce l r.toInt64) (va_cwS 1 hts (g_goodS kw_311 kw_569 kw_310 kw_13) rfl rfl rfl (by decide +kernel) ⟨Nat.le_of_ble_eq_true rfl, Nat.le_of_ble_eq_true rfl⟩) ⟨fun _ _ _ _ q => q, fun _ _ _ => rfl⟩ rfl rfl hl.1 rfl (lv_room (Nat.le_of_ble_eq_true rfl)) d_SVS_corrected_5 ⟨Nat.le_refl 0, Nat.le_refl 0⟩) (fun r2 q1 => ?_)
  refine g_topi (y := redP r.toInt64) (q1) ?_
  refine g_callpi (va_runS (As := [.int (h &&& (nI (1))), .int (redP r.toInt64)]) (rest := []) ⟨hx, hb, hml, hown, hts⟩ (c_correctedBy l (h &&& nI 1) (redP r.toInt64)) (va_cwS 2 hts (g_goodS kw_514 kw_585 kw_513 kw_14) rfl rfl rfl (by decide +kernel) ⟨Nat.le_of_ble_eq_true rfl, Nat.le_of_ble_eq_true rfl⟩) ⟨fun _ _ _ _ q => q, fun _ _ _ => rfl⟩ rfl rfl hl.1 rfl (lv_room (Nat.le_of_ble_eq_true rfl)) d_SVS_corrected_8 ⟨Nat.le_refl 0, Nat.le_refl 0⟩) (fun r4 q2 => ?_)
  exact g_iret hx hb hr hlocks hE hG (⟨q2, rfl⟩) d_SVS_corrected_11
