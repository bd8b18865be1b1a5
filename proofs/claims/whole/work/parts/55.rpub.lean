set_option maxHeartbeats 4000000 in
set_option maxRecDepth 100000 in
theorem c_M_publicByte (l : Launch) (V : Ev) (X : Mm) (i : Int32) : Met l y_Md_publicByte (Cond.code y_Md_publicByte b_Md_publicByte 2 (some .int) :: WA) ({ frames := 0, cells := 0, slots := 0, locals := 0 } : Room) (g_Pc V X [.ref (g_ad V 11), .int (i)]) (g_Qi V (fun (r : Int32) (X1 : Mm) => r = (if 0 ≤ i ∧ i < nI 68 then X.1 67 i.toNatClampNeg else -1) ∧ X = X1)) 0 0 (g_A V) := by
  refine g_met (by decide) (Nat.le_of_ble_eq_true rfl) ?_
  intro p e s m below meth c hx hb hr hml hown hts hlocks hE hG ls hl
  have hl : lv_has ls 2 [(0, .ref (g_ad V 11)), (1, .int (i))] := hl
  have hown : s.vm.findClass R_Md = some m.cls := hown
  refine lv_iload_n hx hb d_Md_publicByte_0 rfl (lv_at hl 1 rfl) ?_
  refine lv_if_lt (tgt := 10) hx hb d_Md_publicByte_1 (by decide) (fun c1 => ?_) (fun c1 => ?_)
  · have n1 : ¬ (0 ≤ i ∧ i < nI 68) := fun z => absurd c1 (Int32.not_lt.mpr z.1)
    refine lv_iconst (v := -1) hx hb d_Md_publicByte_10 (by decide) ?_
    refine lv_goto (tgt := 20) hx hb d_Md_publicByte_11 (by decide) ?_
    exact g_iret hx hb hr hlocks hE hG (⟨(if_neg n1).symm, rfl⟩) d_Md_publicByte_20
  · refine lv_iload_n hx hb d_Md_publicByte_4 rfl (lv_at hl 1 rfl) ?_
    refine lv_bipush (v := nI (67)) hx hb d_Md_publicByte_5 (by decide) ?_
    refine lv_icmp_le (tgt := 14) hx hb d_Md_publicByte_7 (by decide) (fun c7 => ?_) (fun c7 => ?_)
    · have n1 : 0 ≤ i ∧ i < nI 68 := ⟨Int32.not_lt.mp c1, (le_lt (by decide)).mp c7⟩
      obtain ⟨j, hj, ej⟩ := rgN (by decide) n1
      refine lv_aload_n hx hb d_Md_publicByte_14 rfl (lv_at hl 0 rfl) ?_
      refine g_get (ci := 7) (v := .ref (g_ad V 67)) (C := R_Md) (T := F_Md) (N := 35) hx hb hts (fun w h => List.mem_cons_of_mem _ (in_Md w h)) hown hE hG 11 (by decide) rfl rfl 21 (by decide) (hts _ (List.mem_cons_of_mem _ kw_613)) (fun _ h9 => h9) rfl d_Md_publicByte_15 ?_
      refine lv_iload_n hx hb d_Md_publicByte_18 rfl (lv_at hl 1 rfl) ?_
      refine g_iald hx hb hE hG 67 (by decide) (j) (ej) (hj) (v := X.1 67 j) (rfl) d_Md_publicByte_19 ?_
      exact g_iret hx hb hr hlocks hE hG (⟨by rw [if_pos n1, ej, nI_clamp (by omega)], rfl⟩) d_Md_publicByte_20
    · have n1 : ¬ (0 ≤ i ∧ i < nI 68) := fun z => c7 ((le_lt (by decide)).mpr z.2)
      refine lv_iconst (v := -1) hx hb d_Md_publicByte_10 (by decide) ?_
      refine lv_goto (tgt := 20) hx hb d_Md_publicByte_11 (by decide) ?_
      exact g_iret hx hb hr hlocks hE hG (⟨(if_neg n1).symm, rfl⟩) d_Md_publicByte_20

set_option maxHeartbeats 4000000 in
set_option maxRecDepth 100000 in
theorem c_M_signatureByte (l : Launch) (V : Ev) (X : Mm) (i : Int32) : Met l y_Md_signatureByte (Cond.code y_Md_signatureByte b_Md_signatureByte 2 (some .int) :: WA) ({ frames := 0, cells := 0, slots := 0, locals := 0 } : Room) (g_Pc V X [.ref (g_ad V 11), .int (i)]) (g_Qi V (fun (r : Int32) (X1 : Mm) => r = (if 0 ≤ i ∧ i < nI 62 then X.1 68 i.toNatClampNeg else -1) ∧ X = X1)) 0 0 (g_A V) := by
  refine g_met (by decide) (Nat.le_of_ble_eq_true rfl) ?_
  intro p e s m below meth c hx hb hr hml hown hts hlocks hE hG ls hl
  have hl : lv_has ls 2 [(0, .ref (g_ad V 11)), (1, .int (i))] := hl
  have hown : s.vm.findClass R_Md = some m.cls := hown
  refine lv_iload_n hx hb d_Md_signatureByte_0 rfl (lv_at hl 1 rfl) ?_
  refine lv_if_lt (tgt := 10) hx hb d_Md_signatureByte_1 (by decide) (fun c1 => ?_) (fun c1 => ?_)
  · have n1 : ¬ (0 ≤ i ∧ i < nI 62) := fun z => absurd c1 (Int32.not_lt.mpr z.1)
    refine lv_iconst (v := -1) hx hb d_Md_signatureByte_10 (by decide) ?_
    refine lv_goto (tgt := 20) hx hb d_Md_signatureByte_11 (by decide) ?_
    exact g_iret hx hb hr hlocks hE hG (⟨(if_neg n1).symm, rfl⟩) d_Md_signatureByte_20
  · refine lv_iload_n hx hb d_Md_signatureByte_4 rfl (lv_at hl 1 rfl) ?_
    refine lv_bipush (v := nI (61)) hx hb d_Md_signatureByte_5 (by decide) ?_
    refine lv_icmp_le (tgt := 14) hx hb d_Md_signatureByte_7 (by decide) (fun c7 => ?_) (fun c7 => ?_)
    · have n1 : 0 ≤ i ∧ i < nI 62 := ⟨Int32.not_lt.mp c1, (le_lt (by decide)).mp c7⟩
      obtain ⟨j, hj, ej⟩ := rgN (by decide) n1
      refine lv_aload_n hx hb d_Md_signatureByte_14 rfl (lv_at hl 0 rfl) ?_
      refine g_get (ci := 7) (v := .ref (g_ad V 68)) (C := R_Md) (T := F_Md) (N := 35) hx hb hts (fun w h => List.mem_cons_of_mem _ (in_Md w h)) hown hE hG 11 (by decide) rfl rfl 22 (by decide) (hts _ (List.mem_cons_of_mem _ kw_614)) (fun _ h9 => h9) rfl d_Md_signatureByte_15 ?_
      refine lv_iload_n hx hb d_Md_signatureByte_18 rfl (lv_at hl 1 rfl) ?_
      refine g_iald hx hb hE hG 68 (by decide) (j) (ej) (hj) (v := X.1 68 j) (rfl) d_Md_signatureByte_19 ?_
      exact g_iret hx hb hr hlocks hE hG (⟨by rw [if_pos n1, ej, nI_clamp (by omega)], rfl⟩) d_Md_signatureByte_20
    · have n1 : ¬ (0 ≤ i ∧ i < nI 62) := fun z => c7 ((le_lt (by decide)).mpr z.2)
      refine lv_iconst (v := -1) hx hb d_Md_signatureByte_10 (by decide) ?_
      refine lv_goto (tgt := 20) hx hb d_Md_signatureByte_11 (by decide) ?_
      exact g_iret hx hb hr hlocks hE hG (⟨(if_neg n1).symm, rfl⟩) d_Md_signatureByte_20

set_option maxHeartbeats 4000000 in
set_option maxRecDepth 100000 in
theorem c_M_putPublic (l : Launch) (V : Ev) (X : Mm) (i b : Int32) : Met l y_Md_putPublic (Cond.code y_Md_putPublic b_Md_putPublic 3 (some .boolean) :: WA) ({ frames := 0, cells := 0, slots := 0, locals := 0 } : Room) (g_Pc V X [.ref (g_ad V 11), .int (i), .int (b)]) (g_Qi V (fun (r : Int32) (X1 : Mm) => (((0 ≤ i ∧ i < nI 68) ∧ (0 ≤ b ∧ b ≤ nI 255)) → r = nI 1 ∧ X1.1 67 = upd (X.1 67) i.toNatClampNeg b ∧ fr X X1 [67] [] []) ∧ (¬ ((0 ≤ i ∧ i < nI 68) ∧ (0 ≤ b ∧ b ≤ nI 255)) → r = nI 0 ∧ X = X1))) 0 0 (g_A V) := by
  refine g_met (by decide) (Nat.le_of_ble_eq_true rfl) ?_
  intro p e s m below meth c hx hb hr hml hown hts hlocks hE hG ls hl
  have hl : lv_has ls 3 [(0, .ref (g_ad V 11)), (1, .int (i)), (2, .int (b))] := hl
  have hown : s.vm.findClass R_Md = some m.cls := hown
  refine lv_iload_n hx hb d_Md_putPublic_0 rfl (lv_at hl 1 rfl) ?_
  refine lv_if_lt (tgt := 21) hx hb d_Md_putPublic_1 (by decide) (fun c1 => ?_) (fun c1 => ?_)
  · refine lv_iconst (v := nI (0)) hx hb d_Md_putPublic_21 (by decide) ?_
    exact g_zret hx hb hr hlocks hE hG (by decide) (⟨fun z => absurd c1 (Int32.not_lt.mpr z.1.1), fun _ => ⟨rfl, rfl⟩⟩) d_Md_putPublic_22
  · refine lv_iload_n hx hb d_Md_putPublic_4 rfl (lv_at hl 1 rfl) ?_
    refine lv_bipush (v := nI (67)) hx hb d_Md_putPublic_5 (by decide) ?_
    refine lv_icmp_gt (tgt := 21) hx hb d_Md_putPublic_7 (by decide) (fun c7 => ?_) (fun c7 => ?_)
    · refine lv_iconst (v := nI (0)) hx hb d_Md_putPublic_21 (by decide) ?_
      exact g_zret hx hb hr hlocks hE hG (by decide) (⟨fun z => absurd c7 (Int32.not_lt.mpr ((le_lt (by decide)).mpr z.1.2)), fun _ => ⟨rfl, rfl⟩⟩) d_Md_putPublic_22
    · refine lv_iload_n hx hb d_Md_putPublic_10 rfl (lv_at hl 2 rfl) ?_
      refine lv_if_lt (tgt := 21) hx hb d_Md_putPublic_11 (by decide) (fun c11 => ?_) (fun c11 => ?_)
      · refine lv_iconst (v := nI (0)) hx hb d_Md_putPublic_21 (by decide) ?_
        exact g_zret hx hb hr hlocks hE hG (by decide) (⟨fun z => absurd c11 (Int32.not_lt.mpr z.2.1), fun _ => ⟨rfl, rfl⟩⟩) d_Md_putPublic_22
      · refine lv_iload_n hx hb d_Md_putPublic_14 rfl (lv_at hl 2 rfl) ?_
        refine lv_sipush (v := nI (255)) hx hb d_Md_putPublic_15 (by decide) ?_
        refine lv_icmp_le (tgt := 23) hx hb d_Md_putPublic_18 (by decide) (fun c18 => ?_) (fun c18 => ?_)
        · have n1 : ((0 ≤ i ∧ i < nI 68) ∧ (0 ≤ b ∧ b ≤ nI 255)) := ⟨⟨Int32.not_lt.mp c1, (le_lt (by decide)).mp (Int32.not_lt.mp c7)⟩, ⟨Int32.not_lt.mp c11, c18⟩⟩
          obtain ⟨j, hj, ej⟩ := rgN (by decide) n1.1
          refine lv_aload_n hx hb d_Md_putPublic_23 rfl (lv_at hl 0 rfl) ?_
          refine g_get (ci := 7) (v := .ref (g_ad V 67)) (C := R_Md) (T := F_Md) (N := 35) hx hb hts (fun w h => List.mem_cons_of_mem _ (in_Md w h)) hown hE hG 11 (by decide) rfl rfl 21 (by decide) (hts _ (List.mem_cons_of_mem _ kw_613)) (fun _ h9 => h9) rfl d_Md_putPublic_24 ?_
          refine lv_iload_n hx hb d_Md_putPublic_27 rfl (lv_at hl 1 rfl) ?_
          refine lv_iload_n hx hb d_Md_putPublic_28 rfl (lv_at hl 2 rfl) ?_
          refine g_iast (x := b) hx hb hE hG 67 (by decide) (j) (ej) (hj) d_Md_putPublic_29 (fun H locs hG => ?_)
          refine lv_iconst (v := nI (1)) hx hb d_Md_putPublic_30 (by decide) ?_
          exact g_zret hx hb hr hlocks hE hG (by decide) (⟨fun _ => ⟨rfl, by rw [uI_s, ej, nI_clamp (by omega)], fr_i (fr_rf X _ _ _) _ (by decide)⟩, fun z => absurd n1 z⟩) d_Md_putPublic_31
        · refine lv_iconst (v := nI (0)) hx hb d_Md_putPublic_21 (by decide) ?_
          exact g_zret hx hb hr hlocks hE hG (by decide) (⟨fun z => absurd z.2.2 c18, fun _ => ⟨rfl, rfl⟩⟩) d_Md_putPublic_22

set_option maxHeartbeats 4000000 in
set_option maxRecDepth 100000 in
theorem c_M_putSignature (l : Launch) (V : Ev) (X : Mm) (i b : Int32) : Met l y_Md_putSignature (Cond.code y_Md_putSignature b_Md_putSignature 3 (some .boolean) :: WA) ({ frames := 0, cells := 0, slots := 0, locals := 0 } : Room) (g_Pc V X [.ref (g_ad V 11), .int (i), .int (b)]) (g_Qi V (fun (r : Int32) (X1 : Mm) => (((0 ≤ i ∧ i < nI 62) ∧ (0 ≤ b ∧ b ≤ nI 255)) → r = nI 1 ∧ X1.1 68 = upd (X.1 68) i.toNatClampNeg b ∧ fr X X1 [68] [] []) ∧ (¬ ((0 ≤ i ∧ i < nI 62) ∧ (0 ≤ b ∧ b ≤ nI 255)) → r = nI 0 ∧ X = X1))) 0 0 (g_A V) := by
  refine g_met (by decide) (Nat.le_of_ble_eq_true rfl) ?_
  intro p e s m below meth c hx hb hr hml hown hts hlocks hE hG ls hl
  have hl : lv_has ls 3 [(0, .ref (g_ad V 11)), (1, .int (i)), (2, .int (b))] := hl
  have hown : s.vm.findClass R_Md = some m.cls := hown
  refine lv_iload_n hx hb d_Md_putSignature_0 rfl (lv_at hl 1 rfl) ?_
  refine lv_if_lt (tgt := 21) hx hb d_Md_putSignature_1 (by decide) (fun c1 => ?_) (fun c1 => ?_)
  · refine lv_iconst (v := nI (0)) hx hb d_Md_putSignature_21 (by decide) ?_
    exact g_zret hx hb hr hlocks hE hG (by decide) (⟨fun z => absurd c1 (Int32.not_lt.mpr z.1.1), fun _ => ⟨rfl, rfl⟩⟩) d_Md_putSignature_22
  · refine lv_iload_n hx hb d_Md_putSignature_4 rfl (lv_at hl 1 rfl) ?_
    refine lv_bipush (v := nI (61)) hx hb d_Md_putSignature_5 (by decide) ?_
    refine lv_icmp_gt (tgt := 21) hx hb d_Md_putSignature_7 (by decide) (fun c7 => ?_) (fun c7 => ?_)
    · refine lv_iconst (v := nI (0)) hx hb d_Md_putSignature_21 (by decide) ?_
      exact g_zret hx hb hr hlocks hE hG (by decide) (⟨fun z => absurd c7 (Int32.not_lt.mpr ((le_lt (by decide)).mpr z.1.2)), fun _ => ⟨rfl, rfl⟩⟩) d_Md_putSignature_22
    · refine lv_iload_n hx hb d_Md_putSignature_10 rfl (lv_at hl 2 rfl) ?_
      refine lv_if_lt (tgt := 21) hx hb d_Md_putSignature_11 (by decide) (fun c11 => ?_) (fun c11 => ?_)
      · refine lv_iconst (v := nI (0)) hx hb d_Md_putSignature_21 (by decide) ?_
        exact g_zret hx hb hr hlocks hE hG (by decide) (⟨fun z => absurd c11 (Int32.not_lt.mpr z.2.1), fun _ => ⟨rfl, rfl⟩⟩) d_Md_putSignature_22
      · refine lv_iload_n hx hb d_Md_putSignature_14 rfl (lv_at hl 2 rfl) ?_
        refine lv_sipush (v := nI (255)) hx hb d_Md_putSignature_15 (by decide) ?_
        refine lv_icmp_le (tgt := 23) hx hb d_Md_putSignature_18 (by decide) (fun c18 => ?_) (fun c18 => ?_)
        · have n1 : ((0 ≤ i ∧ i < nI 62) ∧ (0 ≤ b ∧ b ≤ nI 255)) := ⟨⟨Int32.not_lt.mp c1, (le_lt (by decide)).mp (Int32.not_lt.mp c7)⟩, ⟨Int32.not_lt.mp c11, c18⟩⟩
          obtain ⟨j, hj, ej⟩ := rgN (by decide) n1.1
          refine lv_aload_n hx hb d_Md_putSignature_23 rfl (lv_at hl 0 rfl) ?_
          refine g_get (ci := 7) (v := .ref (g_ad V 68)) (C := R_Md) (T := F_Md) (N := 35) hx hb hts (fun w h => List.mem_cons_of_mem _ (in_Md w h)) hown hE hG 11 (by decide) rfl rfl 22 (by decide) (hts _ (List.mem_cons_of_mem _ kw_614)) (fun _ h9 => h9) rfl d_Md_putSignature_24 ?_
          refine lv_iload_n hx hb d_Md_putSignature_27 rfl (lv_at hl 1 rfl) ?_
          refine lv_iload_n hx hb d_Md_putSignature_28 rfl (lv_at hl 2 rfl) ?_
          refine g_iast (x := b) hx hb hE hG 68 (by decide) (j) (ej) (hj) d_Md_putSignature_29 (fun H locs hG => ?_)
          refine lv_iconst (v := nI (1)) hx hb d_Md_putSignature_30 (by decide) ?_
          exact g_zret hx hb hr hlocks hE hG (by decide) (⟨fun _ => ⟨rfl, by rw [uI_s, ej, nI_clamp (by omega)], fr_i (fr_rf X _ _ _) _ (by decide)⟩, fun z => absurd n1 z⟩) d_Md_putSignature_31
        · refine lv_iconst (v := nI (0)) hx hb d_Md_putSignature_21 (by decide) ?_
          exact g_zret hx hb hr hlocks hE hG (by decide) (⟨fun z => absurd z.2.2 c18, fun _ => ⟨rfl, rfl⟩⟩) d_Md_putSignature_22

set_option maxHeartbeats 4000000 in
set_option maxRecDepth 100000 in
theorem c_M_secret (l : Launch) (V : Ev) (X : Mm) (wh i : Int32) : Met l y_Md_secret (Cond.code y_Md_secret b_Md_secret 4 (some .int) :: WA) ({ frames := 1, cells := 0, slots := 0, locals := 20 } : Room) (g_Pc V X [.ref (g_ad V 11), .int (wh), .int (i)]) (g_Qi V (fun (r : Int32) (X1 : Mm) => ((¬ (¬ X.2.2 4 = nI 0 ∧ (0 ≤ wh ∧ wh < nI 6) ∧ (0 ≤ i ∧ i < nI 16)) → r = nI 0) ∧ ((¬ X.2.2 4 = nI 0 ∧ (0 ≤ wh ∧ wh < nI 6) ∧ (0 ≤ i ∧ i < nI 16)) → ∃ w j, w < 6 ∧ j < 16 ∧ wh = nI w ∧ i = nI j ∧ r = cenP (X.1 (62 + w / 2) (16 * (w % 2) + j)))) ∧ X = X1)) 0 0 (g_A V) := by
  refine g_met (by decide) (Nat.le_of_ble_eq_true rfl) ?_
  intro p e s m below meth c hx hb hr hml hown hts hlocks hE hG ls hl
  have hl : lv_has ls 4 [(0, .ref (g_ad V 11)), (1, .int (wh)), (2, .int (i))] := hl
  have hown : s.vm.findClass R_Md = some m.cls := hown
  refine lv_aload_n hx hb d_Md_secret_0 rfl (lv_at hl 0 rfl) ?_
  refine g_get (ci := 7) (v := .int (X.2.2 4)) (C := R_Md) (T := F_Md) (N := 35) hx hb hts (fun w h => List.mem_cons_of_mem _ (in_Md w h)) hown hE hG 11 (by decide) rfl rfl 8 (by decide) (hts _ (List.mem_cons_of_mem _ kw_600)) (fun _ h9 => h9) rfl d_Md_secret_1 ?_
  refine lv_if_eq (tgt := 26) hx hb d_Md_secret_4 (by decide) (fun c4 => ?_) (fun c4 => ?_)
  · refine lv_iconst (v := nI (0)) hx hb d_Md_secret_26 (by decide) ?_
    exact g_iret hx hb hr hlocks hE hG (⟨⟨fun _ => rfl, fun z => absurd c4 z.1⟩, rfl⟩) d_Md_secret_27
  · refine lv_iload_n hx hb d_Md_secret_7 rfl (lv_at hl 1 rfl) ?_
    refine lv_if_lt (tgt := 26) hx hb d_Md_secret_8 (by decide) (fun c8 => ?_) (fun c8 => ?_)
    · refine lv_iconst (v := nI (0)) hx hb d_Md_secret_26 (by decide) ?_
      exact g_iret hx hb hr hlocks hE hG (⟨⟨fun _ => rfl, fun z => absurd c8 (Int32.not_lt.mpr z.2.1.1)⟩, rfl⟩) d_Md_secret_27
    · refine lv_iload_n hx hb d_Md_secret_11 rfl (lv_at hl 1 rfl) ?_
      refine lv_iconst (v := nI (5)) hx hb d_Md_secret_12 (by decide) ?_
      refine lv_icmp_gt (tgt := 26) hx hb d_Md_secret_13 (by decide) (fun c13 => ?_) (fun c13 => ?_)
      · refine lv_iconst (v := nI (0)) hx hb d_Md_secret_26 (by decide) ?_
        exact g_iret hx hb hr hlocks hE hG (⟨⟨fun _ => rfl, fun z => absurd c13 (Int32.not_lt.mpr ((le_lt (by decide)).mpr z.2.1.2))⟩, rfl⟩) d_Md_secret_27
      · refine lv_iload_n hx hb d_Md_secret_16 rfl (lv_at hl 2 rfl) ?_
        refine lv_if_lt (tgt := 26) hx hb d_Md_secret_17 (by decide) (fun c17 => ?_) (fun c17 => ?_)
        · refine lv_iconst (v := nI (0)) hx hb d_Md_secret_26 (by decide) ?_
          exact g_iret hx hb hr hlocks hE hG (⟨⟨fun _ => rfl, fun z => absurd c17 (Int32.not_lt.mpr z.2.2.1)⟩, rfl⟩) d_Md_secret_27
        · refine lv_iload_n hx hb d_Md_secret_20 rfl (lv_at hl 2 rfl) ?_
          refine lv_bipush (v := nI (15)) hx hb d_Md_secret_21 (by decide) ?_
          refine lv_icmp_le (tgt := 28) hx hb d_Md_secret_23 (by decide) (fun c23 => ?_) (fun c23 => ?_)
          · have ok : (¬ X.2.2 4 = nI 0 ∧ (0 ≤ wh ∧ wh < nI 6) ∧ (0 ≤ i ∧ i < nI 16)) := ⟨c4, ⟨Int32.not_lt.mp c8, (le_lt (by decide)).mp (Int32.not_lt.mp c13)⟩, ⟨Int32.not_lt.mp c17, (le_lt (by decide)).mp c23⟩⟩
            obtain ⟨w, hw, ew⟩ := rgN (by decide) ok.2.1
            obtain ⟨j, hj, ej⟩ := rgN (by decide) ok.2.2
            have hl : lv_has ls 4 [(0, .ref (g_ad V 11)), (1, .int (nI (w))), (2, .int (nI (j)))] := by rw [← ew, ← ej]; exact hl
            refine lv_bipush (v := nI (16)) hx hb d_Md_secret_28 (by decide) ?_
            refine lv_iload_n hx hb d_Md_secret_30 rfl (lv_at hl 1 rfl) ?_
            refine lv_iconst (v := nI (2)) hx hb d_Md_secret_31 (by decide) ?_
            refine lv_irem hx hb d_Md_secret_32 (by decide) ?_
            refine g_topi (y := nI (w % 2)) (pk_rem (by omega) (by omega) (by omega)) ?_
            refine lv_imul hx hb d_Md_secret_33 ?_
            refine g_topi (y := nI (16 * (w % 2))) (pk_mul _ _) ?_
            refine lv_iload_n hx hb d_Md_secret_34 rfl (lv_at hl 2 rfl) ?_
            refine lv_iadd hx hb d_Md_secret_35 ?_
            refine g_topi (y := nI ((16 * (w % 2)) + j)) (nI_add _ _) ?_
            refine lv_istore_n (lv' := [(3, .int (nI ((16 * (w % 2)) + j))), (0, .ref (g_ad V 11)), (1, .int (nI (w))), (2, .int (nI (j)))]) hx hb d_Md_secret_36 rfl hl (by decide) rfl (fun ls hl => ?_)
            refine lv_iload_n hx hb d_Md_secret_37 rfl (lv_at hl 2 rfl) ?_
            refine lv_iconst (v := nI (2)) hx hb d_Md_secret_38 (by decide) ?_
            refine lv_icmp_ge (tgt := 51) hx hb d_Md_secret_39 (by decide) (fun c39 => ?_) (fun c39 => ?_)
            · have c39 := (g_ge (x := w) (y := 2) (by omega) (by omega)).mp c39
              refine lv_iload_n hx hb d_Md_secret_51 rfl (lv_at hl 2 rfl) ?_
              refine lv_iconst (v := nI (4)) hx hb d_Md_secret_52 (by decide) ?_
              refine lv_icmp_ge (tgt := 65) hx hb d_Md_secret_53 (by decide) (fun c53 => ?_) (fun c53 => ?_)
              · have c53 := (g_ge (x := w) (y := 4) (by omega) (by omega)).mp c53
                refine lv_aload_n hx hb d_Md_secret_65 rfl (lv_at hl 1 rfl) ?_
                refine g_get (ci := 7) (v := .ref (g_ad V 64)) (C := R_Md) (T := F_Md) (N := 35) hx hb hts (fun w h => List.mem_cons_of_mem _ (in_Md w h)) hown hE hG 11 (by decide) rfl rfl 17 (by decide) (hts _ (List.mem_cons_of_mem _ kw_609)) (fun _ h9 => h9) rfl d_Md_secret_66 ?_
                refine lv_iload_n hx hb d_Md_secret_69 rfl (lv_at hl 0 rfl) ?_
                refine g_iald hx hb hE hG 64 (by decide) ((16 * (w % 2)) + j) (rfl) (show _ < 32 by omega) (v := X.1 64 ((16 * (w % 2)) + j)) (rfl) d_Md_secret_70 ?_
                refine g_topi (y := X.1 (62 + w / 2) (16 * (w % 2) + j)) (by rw [show w / 2 = 2 by omega]) ?_
                refine g_callpi (va_runS (As := [.int (X.1 (62 + w / 2) (16 * (w % 2) + j))]) (rest := []) ⟨hx, hb, hml, hown, hts⟩ (c_m_centred l (X.1 (62 + w / 2) (16 * (w % 2) + j))) (va_cwS 1 hts (g_goodS kw_821 kw_819 kw_820 kw_8) rfl rfl rfl (by decide +kernel) ⟨Nat.le_of_ble_eq_true rfl, Nat.le_of_ble_eq_true rfl⟩) ⟨fun _ _ _ _ q => q, fun _ _ _ => rfl⟩ rfl rfl hl.1 rfl (lv_room (Nat.le_of_ble_eq_true rfl)) d_Md_secret_71 ⟨Nat.le_refl 0, Nat.le_refl 0⟩) (fun r2 qc => ?_)
                refine g_topi (y := cenP (X.1 (62 + w / 2) (16 * (w % 2) + j))) (qc) ?_
                exact g_iret hx hb hr hlocks hE hG (⟨⟨fun z => absurd ok z, fun _ => ⟨w, j, hw, hj, ew, ej, rfl⟩⟩, rfl⟩) d_Md_secret_74
              · have c53 := (g_geN (x := w) (y := 4) (by omega) (by omega)).mp c53
                refine lv_aload_n hx hb d_Md_secret_56 rfl (lv_at hl 1 rfl) ?_
                refine g_get (ci := 7) (v := .ref (g_ad V 63)) (C := R_Md) (T := F_Md) (N := 35) hx hb hts (fun w h => List.mem_cons_of_mem _ (in_Md w h)) hown hE hG 11 (by decide) rfl rfl 16 (by decide) (hts _ (List.mem_cons_of_mem _ kw_608)) (fun _ h9 => h9) rfl d_Md_secret_57 ?_
                refine lv_iload_n hx hb d_Md_secret_60 rfl (lv_at hl 0 rfl) ?_
                refine g_iald hx hb hE hG 63 (by decide) ((16 * (w % 2)) + j) (rfl) (show _ < 32 by omega) (v := X.1 63 ((16 * (w % 2)) + j)) (rfl) d_Md_secret_61 ?_
                refine g_topi (y := X.1 (62 + w / 2) (16 * (w % 2) + j)) (by rw [show w / 2 = 1 by omega]) ?_
                refine lv_goto (tgt := 71) hx hb d_Md_secret_62 (by decide) ?_
                refine g_callpi (va_runS (As := [.int (X.1 (62 + w / 2) (16 * (w % 2) + j))]) (rest := []) ⟨hx, hb, hml, hown, hts⟩ (c_m_centred l (X.1 (62 + w / 2) (16 * (w % 2) + j))) (va_cwS 1 hts (g_goodS kw_821 kw_819 kw_820 kw_8) rfl rfl rfl (by decide +kernel) ⟨Nat.le_of_ble_eq_true rfl, Nat.le_of_ble_eq_true rfl⟩) ⟨fun _ _ _ _ q => q, fun _ _ _ => rfl⟩ rfl rfl hl.1 rfl (lv_room (Nat.le_of_ble_eq_true rfl)) d_Md_secret_71 ⟨Nat.le_refl 0, Nat.le_refl 0⟩) (fun r4 qc => ?_)
                refine g_topi (y := cenP (X.1 (62 + w / 2) (16 * (w % 2) + j))) (qc) ?_
                exact g_iret hx hb hr hlocks hE hG (⟨⟨fun z => absurd ok z, fun _ => ⟨w, j, hw, hj, ew, ej, rfl⟩⟩, rfl⟩) d_Md_secret_74
            · have c39 := (g_geN (x := w) (y := 2) (by omega) (by omega)).mp c39
              refine lv_aload_n hx hb d_Md_secret_42 rfl (lv_at hl 1 rfl) ?_
              refine g_get (ci := 7) (v := .ref (g_ad V 62)) (C := R_Md) (T := F_Md) (N := 35) hx hb hts (fun w h => List.mem_cons_of_mem _ (in_Md w h)) hown hE hG 11 (by decide) rfl rfl 15 (by decide) (hts _ (List.mem_cons_of_mem _ kw_607)) (fun _ h9 => h9) rfl d_Md_secret_43 ?_
              refine lv_iload_n hx hb d_Md_secret_46 rfl (lv_at hl 0 rfl) ?_
              refine g_iald hx hb hE hG 62 (by decide) ((16 * (w % 2)) + j) (rfl) (show _ < 32 by omega) (v := X.1 62 ((16 * (w % 2)) + j)) (rfl) d_Md_secret_47 ?_
              refine g_topi (y := X.1 (62 + w / 2) (16 * (w % 2) + j)) (by rw [show w / 2 = 0 by omega]) ?_
              refine lv_goto (tgt := 71) hx hb d_Md_secret_48 (by decide) ?_
              refine g_callpi (va_runS (As := [.int (X.1 (62 + w / 2) (16 * (w % 2) + j))]) (rest := []) ⟨hx, hb, hml, hown, hts⟩ (c_m_centred l (X.1 (62 + w / 2) (16 * (w % 2) + j))) (va_cwS 1 hts (g_goodS kw_821 kw_819 kw_820 kw_8) rfl rfl rfl (by decide +kernel) ⟨Nat.le_of_ble_eq_true rfl, Nat.le_of_ble_eq_true rfl⟩) ⟨fun _ _ _ _ q => q, fun _ _ _ => rfl⟩ rfl rfl hl.1 rfl (lv_room (Nat.le_of_ble_eq_true rfl)) d_Md_secret_71 ⟨Nat.le_refl 0, Nat.le_refl 0⟩) (fun r6 qc => ?_)
              refine g_topi (y := cenP (X.1 (62 + w / 2) (16 * (w % 2) + j))) (qc) ?_
              exact g_iret hx hb hr hlocks hE hG (⟨⟨fun z => absurd ok z, fun _ => ⟨w, j, hw, hj, ew, ej, rfl⟩⟩, rfl⟩) d_Md_secret_74
          · refine lv_iconst (v := nI (0)) hx hb d_Md_secret_26 (by decide) ?_
            exact g_iret hx hb hr hlocks hE hG (⟨⟨fun _ => rfl, fun z => absurd ((le_lt (by decide)).mpr z.2.2.2) c23⟩, rfl⟩) d_Md_secret_27

set_option maxHeartbeats 4000000 in
set_option maxRecDepth 100000 in
theorem c_M_hash (l : Launch) (V : Ev) (X : Mm) (i : Int32) (n : Nat) (hn : n ≤ 24) (hM : X.2.2 5 = nI n) (hT : X.2.2 3 = nI 0) (hTu : X.1 53 = rotT) (hEx : X.2.1 12 = rcT) : Met l y_Md_hash (Cond.code y_Md_hash b_Md_hash 2 (some .int) :: WA) ({ frames := 3, cells := 0, slots := 0, locals := 68 } : Room) (g_Pc V X [.ref (g_ad V 11), .int (i)]) (g_Qi V (fun (r : Int32) (X1 : Mm) => r = (if 0 ≤ i ∧ i < nI 136 then HS (X.1 66) n i.toNatClampNeg else -1) ∧ X1.2.2 3 = nI 0 ∧ fr X X1 [54, 55] [13, 14, 15] [3])) 0 0 (g_A V) := by
  refine g_met (by decide) (Nat.le_of_ble_eq_true rfl) ?_
  intro p e s m below meth c hx hb hr hml hown hts hlocks hE hG ls hl
  have hl : lv_has ls 2 [(0, .ref (g_ad V 11)), (1, .int (i))] := hl
  have hown : s.vm.findClass R_Md = some m.cls := hown
  refine lv_iload_n hx hb d_Md_hash_0 rfl (lv_at hl 1 rfl) ?_
  refine lv_if_lt (tgt := 11) hx hb d_Md_hash_1 (by decide) (fun c1 => ?_) (fun c1 => ?_)
  · have n1 : ¬ (0 ≤ i ∧ i < nI 136) := fun z => absurd c1 (Int32.not_lt.mpr z.1)
    refine lv_iconst (v := -1) hx hb d_Md_hash_11 (by decide) ?_
    exact g_iret hx hb hr hlocks hE hG (⟨(if_neg n1).symm, hT, fr_rf X _ _ _⟩) d_Md_hash_12
  · refine lv_iload_n hx hb d_Md_hash_4 rfl (lv_at hl 1 rfl) ?_
    refine lv_sipush (v := nI (135)) hx hb d_Md_hash_5 (by decide) ?_
    refine lv_icmp_le (tgt := 13) hx hb d_Md_hash_8 (by decide) (fun c8 => ?_) (fun c8 => ?_)
    · have n1 : 0 ≤ i ∧ i < nI 136 := ⟨Int32.not_lt.mp c1, (le_lt (by decide)).mp c8⟩
      obtain ⟨j, hj, ej⟩ := rgN (by decide) n1
      refine lv_aload_n hx hb d_Md_hash_13 rfl (lv_at hl 0 rfl) ?_
      refine lv_aload_n hx hb d_Md_hash_14 rfl (lv_at hl 0 rfl) ?_
      refine g_get (ci := 7) (v := .ref (g_ad V 66)) (C := R_Md) (T := F_Md) (N := 35) hx hb hts (fun w h => List.mem_cons_of_mem _ (in_Md w h)) hown hE hG 11 (by decide) rfl rfl 20 (by decide) (hts _ (List.mem_cons_of_mem _ kw_612)) (fun _ h9 => h9) rfl d_Md_hash_15 ?_
      refine lv_iconst (v := nI (0)) hx hb d_Md_hash_18 (by decide) ?_
      refine lv_aload_n hx hb d_Md_hash_19 rfl (lv_at hl 0 rfl) ?_
      refine g_get (ci := 7) (v := .int (X.2.2 5)) (C := R_Md) (T := F_Md) (N := 35) hx hb hts (fun w h => List.mem_cons_of_mem _ (in_Md w h)) hown hE hG 11 (by decide) rfl rfl 19 (by decide) (hts _ (List.mem_cons_of_mem _ kw_611)) (fun _ h9 => h9) rfl d_Md_hash_20 ?_
      refine g_topi (y := nI (n)) (hM) ?_
      refine g_callv (va_runV (As := [.ref (g_ad V 66), .int (nI (0)), .int (nI (n))]) (rest := []) ⟨hx, hb, hml, hown, hts⟩ (c_m_feedAll l V X 66 (by decide) (by decide) 0 n (by show 0 + n ≤ 24; omega) (X.1 66) 0 (by omega) hT (fun j hj => absurd hj (Nat.not_lt_zero j)) (fun j hj => rfl)) (cwV 3 hts (g_goodV kw_738 kw_735 kw_737 kp_23 kw_8) rfl rfl rfl (by decide +kernel) ⟨Nat.le_of_ble_eq_true rfl, Nat.le_of_ble_eq_true rfl⟩) (g_preV (k0 := 11) (ci := 7) hE hG (by decide) rfl rfl) rfl rfl hl.1 rfl (lv_room (Nat.le_of_ble_eq_true rfl)) d_Md_hash_23 ⟨Nat.le_refl 0, Nat.le_refl 0⟩) hG (fun Xb H locs qb hG => ?_)
      have fb : fr X Xb [54, 55] [13, 14, 15] [3] := (fr_mono qb.2.2 (a' := [54, 55]) (b' := [13, 14, 15]) (c' := [3]) (by decide) (by decide) (by decide))
      refine lv_aload_n hx hb d_Md_hash_26 rfl (lv_at hl 0 rfl) ?_
      refine g_callv (va_runV (As := []) (rest := []) ⟨hx, hb, hml, hown, hts⟩ (c_m_stream l V Xb (X.1 66) (0 + n) (by omega) qb.1 qb.2.1 ((fb.1 53 (by decide)).trans hTu) ((fb.2.1 12 (by decide)).trans hEx)) (cwV 0 hts (g_goodV kw_714 kw_711 kw_713 kp_18 kw_8) rfl rfl rfl (by decide +kernel) ⟨Nat.le_of_ble_eq_true rfl, Nat.le_of_ble_eq_true rfl⟩) (g_preV (k0 := 11) (ci := 7) hE hG (by decide) rfl rfl) rfl rfl hl.1 rfl (lv_room (Nat.le_of_ble_eq_true rfl)) d_Md_hash_27 ⟨Nat.le_refl 0, Nat.le_refl 0⟩) hG (fun Xc H locs qc hG => ?_)
      refine lv_aload_n hx hb d_Md_hash_30 rfl (lv_at hl 0 rfl) ?_
      refine g_get (ci := 7) (v := .ref (g_ad V 55)) (C := R_Md) (T := F_Md) (N := 35) hx hb hts (fun w h => List.mem_cons_of_mem _ (in_Md w h)) hown hE hG 11 (by decide) rfl rfl 7 (by decide) (hts _ (List.mem_cons_of_mem _ kw_599)) (fun _ h9 => h9) rfl d_Md_hash_31 ?_
      refine lv_iload_n hx hb d_Md_hash_34 rfl (lv_at hl 1 rfl) ?_
      refine g_iald hx hb hE hG 55 (by decide) (j) (ej) (hj) (v := HS (X.1 66) n j) (by rw [qc.1, Nat.zero_add]) d_Md_hash_35 ?_
      exact g_iret hx hb hr hlocks hE hG (⟨by rw [if_pos n1, ej, nI_clamp (by omega)], qc.2.1, (fr_tr2 fb qc.2.2 (by decide) (by decide) (by decide))⟩) d_Md_hash_36
    · have n1 : ¬ (0 ≤ i ∧ i < nI 136) := fun z => c8 ((le_lt (by decide)).mpr z.2)
      refine lv_iconst (v := -1) hx hb d_Md_hash_11 (by decide) ?_
      exact g_iret hx hb hr hlocks hE hG (⟨(if_neg n1).symm, hT, fr_rf X _ _ _⟩) d_Md_hash_12

set_option maxHeartbeats 4000000 in
set_option maxRecDepth 100000 in
theorem c_M_ball (l : Launch) (V : Ev) (X : Mm) (i : Int32) (hT : X.2.2 3 = nI 0) (hTu : X.1 53 = rotT) (hEx : X.2.1 12 = rcT) : Met l y_Md_ball (Cond.code y_Md_ball b_Md_ball 2 (some .int) :: WA) ({ frames := 4, cells := 0, slots := 0, locals := 92 } : Room) (g_Pc V X [.ref (g_ad V 11), .int (i)]) (g_Qi V (fun (r : Int32) (X1 : Mm) => r = (if 0 ≤ i ∧ i < nI 16 then blP (HS (X.1 68) 8) i.toNatClampNeg else nI 0) ∧ X1.2.2 3 = nI 0 ∧ fr X X1 [54, 55, 77] [13, 14, 15] [3])) 0 0 (g_A V) := by
  refine g_met (by decide) (Nat.le_of_ble_eq_true rfl) ?_
  intro p e s m below meth c hx hb hr hml hown hts hlocks hE hG ls hl
  have hl : lv_has ls 2 [(0, .ref (g_ad V 11)), (1, .int (i))] := hl
  have hown : s.vm.findClass R_Md = some m.cls := hown
  refine lv_iload_n hx hb d_Md_ball_0 rfl (lv_at hl 1 rfl) ?_
  refine lv_if_lt (tgt := 10) hx hb d_Md_ball_1 (by decide) (fun c1 => ?_) (fun c1 => ?_)
  · have n1 : ¬ (0 ≤ i ∧ i < nI 16) := fun z => absurd c1 (Int32.not_lt.mpr z.1)
    refine lv_iconst (v := nI (0)) hx hb d_Md_ball_10 (by decide) ?_
    exact g_iret hx hb hr hlocks hE hG (⟨(if_neg n1).symm, hT, fr_rf X _ _ _⟩) d_Md_ball_11
  · refine lv_iload_n hx hb d_Md_ball_4 rfl (lv_at hl 1 rfl) ?_
    refine lv_bipush (v := nI (15)) hx hb d_Md_ball_5 (by decide) ?_
    refine lv_icmp_le (tgt := 12) hx hb d_Md_ball_7 (by decide) (fun c7 => ?_) (fun c7 => ?_)
    · have n1 : 0 ≤ i ∧ i < nI 16 := ⟨Int32.not_lt.mp c1, (le_lt (by decide)).mp c7⟩
      obtain ⟨j, hj, ej⟩ := rgN (by decide) n1
      refine lv_aload_n hx hb d_Md_ball_12 rfl (lv_at hl 0 rfl) ?_
      refine lv_aload_n hx hb d_Md_ball_13 rfl (lv_at hl 0 rfl) ?_
      refine g_get (ci := 7) (v := .ref (g_ad V 68)) (C := R_Md) (T := F_Md) (N := 35) hx hb hts (fun w h => List.mem_cons_of_mem _ (in_Md w h)) hown hE hG 11 (by decide) rfl rfl 22 (by decide) (hts _ (List.mem_cons_of_mem _ kw_614)) (fun _ h9 => h9) rfl d_Md_ball_14 ?_
      refine g_callv (va_runV (As := [.ref (g_ad V 68)]) (rest := []) ⟨hx, hb, hml, hown, hts⟩ (c_m_ballOf l V X 68 (by decide) (by decide) (by decide) hT hTu hEx) (cwV 1 hts (g_goodV kw_810 kw_807 kw_809 kp_34 kw_8) rfl rfl rfl (by decide +kernel) ⟨Nat.le_of_ble_eq_true rfl, Nat.le_of_ble_eq_true rfl⟩) (g_preV (k0 := 11) (ci := 7) hE hG (by decide) rfl rfl) rfl rfl hl.1 rfl (lv_room (Nat.le_of_ble_eq_true rfl)) d_Md_ball_17 ⟨Nat.le_refl 0, Nat.le_refl 0⟩) hG (fun Xk H locs qk hG => ?_)
      refine lv_aload_n hx hb d_Md_ball_20 rfl (lv_at hl 0 rfl) ?_
      refine g_get (ci := 7) (v := .ref (g_ad V 77)) (C := R_Md) (T := F_Md) (N := 35) hx hb hts (fun w h => List.mem_cons_of_mem _ (in_Md w h)) hown hE hG 11 (by decide) rfl rfl 31 (by decide) (hts _ (List.mem_cons_of_mem _ kw_623)) (fun _ h9 => h9) rfl d_Md_ball_21 ?_
      refine lv_iload_n hx hb d_Md_ball_24 rfl (lv_at hl 1 rfl) ?_
      refine g_iald hx hb hE hG 77 (by decide) (j) (ej) (hj) (v := blP (HS (X.1 68) 8) j) (by rw [qk.1]) d_Md_ball_25 ?_
      exact g_iret hx hb hr hlocks hE hG (⟨by rw [if_pos n1, ej, nI_clamp (by omega)], qk.2⟩) d_Md_ball_26
    · have n1 : ¬ (0 ≤ i ∧ i < nI 16) := fun z => c7 ((le_lt (by decide)).mpr z.2)
      refine lv_iconst (v := nI (0)) hx hb d_Md_ball_10 (by decide) ?_
      exact g_iret hx hb hr hlocks hE hG (⟨(if_neg n1).symm, hT, fr_rf X _ _ _⟩) d_Md_ball_11

set_option maxHeartbeats 4000000 in
set_option maxRecDepth 100000 in
theorem c_M_high (l : Launch) (V : Ev) (X : Mm) (r : Int32) : Met l y_Md_high (Cond.code y_Md_high b_Md_high 2 (some .int) :: WA) ({ frames := 2, cells := 0, slots := 0, locals := 41 } : Room) (g_Pc V X [.ref (g_ad V 11), .int (r)]) (g_Qi V (fun (a : Int32) (X1 : Mm) => a = hiP (redP r.toInt64) ∧ X = X1)) 0 0 (g_A V) := by
  refine g_met (by decide) (Nat.le_of_ble_eq_true rfl) ?_
  intro p e s m below meth c hx hb hr hml hown hts hlocks hE hG ls hl
  have hl : lv_has ls 2 [(0, .ref (g_ad V 11)), (1, .int (r))] := hl
  have hown : s.vm.findClass R_Md = some m.cls := hown
  refine lv_iload_n hx hb d_Md_high_0 rfl (lv_at hl 1 rfl) ?_
  refine lv_i2l (v := r.toInt64) hx hb d_Md_high_1 rfl ?_
  refine g_callpi (va_runS (As := [.long (r.toInt64)]) (rest := []) ⟨hx, hb, hml, hown, hts⟩ (c_m_mod l r.toInt64) (va_cwS 1 hts (g_goodS kw_751 kw_749 kw_750 kw_8) rfl rfl rfl (by decide +kernel) ⟨Nat.le_of_ble_eq_true rfl, Nat.le_of_ble_eq_true rfl⟩) ⟨fun _ _ _ _ q => q, fun _ _ _ => rfl⟩ rfl rfl hl.1 rfl (lv_room (Nat.le_of_ble_eq_true rfl)) d_Md_high_2 ⟨Nat.le_refl 0, Nat.le_refl 0⟩) (fun r2 q1 => ?_)
  refine g_topi (y := redP r.toInt64) (q1) ?_
  refine g_callpi (va_runS (As := [.int (redP r.toInt64)]) (rest := []) ⟨hx, hb, hml, hown, hts⟩ (c_m_highOf l (redP r.toInt64)) (va_cwS 1 hts (g_goodS kw_798 kw_796 kw_797 kw_8) rfl rfl rfl (by decide +kernel) ⟨Nat.le_of_ble_eq_true rfl, Nat.le_of_ble_eq_true rfl⟩) ⟨fun _ _ _ _ q => q, fun _ _ _ => rfl⟩ rfl rfl hl.1 rfl (lv_room (Nat.le_of_ble_eq_true rfl)) d_Md_high_5 ⟨Nat.le_refl 0, Nat.le_refl 0⟩) (fun r4 q2 => ?_)
  exact g_iret hx hb hr hlocks hE hG (⟨q2, rfl⟩) d_Md_high_8

set_option maxHeartbeats 4000000 in
set_option maxRecDepth 100000 in
theorem c_M_low (l : Launch) (V : Ev) (X : Mm) (r : Int32) : Met l y_Md_low (Cond.code y_Md_low b_Md_low 2 (some .int) :: WA) ({ frames := 2, cells := 0, slots := 0, locals := 41 } : Room) (g_Pc V X [.ref (g_ad V 11), .int (r)]) (g_Qi V (fun (a : Int32) (X1 : Mm) => a = loP (redP r.toInt64) ∧ X = X1)) 0 0 (g_A V) := by
  refine g_met (by decide) (Nat.le_of_ble_eq_true rfl) ?_
  intro p e s m below meth c hx hb hr hml hown hts hlocks hE hG ls hl
  have hl : lv_has ls 2 [(0, .ref (g_ad V 11)), (1, .int (r))] := hl
  have hown : s.vm.findClass R_Md = some m.cls := hown
  refine lv_iload_n hx hb d_Md_low_0 rfl (lv_at hl 1 rfl) ?_
  refine lv_i2l (v := r.toInt64) hx hb d_Md_low_1 rfl ?_
  refine g_callpi (va_runS (As := [.long (r.toInt64)]) (rest := []) ⟨hx, hb, hml, hown, hts⟩ (c_m_mod l r.toInt64) (va_cwS 1 hts (g_goodS kw_751 kw_749 kw_750 kw_8) rfl rfl rfl (by decide +kernel) ⟨Nat.le_of_ble_eq_true rfl, Nat.le_of_ble_eq_true rfl⟩) ⟨fun _ _ _ _ q => q, fun _ _ _ => rfl⟩ rfl rfl hl.1 rfl (lv_room (Nat.le_of_ble_eq_true rfl)) d_Md_low_2 ⟨Nat.le_refl 0, Nat.le_refl 0⟩) (fun r2 q1 => ?_)
  refine g_topi (y := redP r.toInt64) (q1) ?_
  refine g_callpi (va_runS (As := [.int (redP r.toInt64)]) (rest := []) ⟨hx, hb, hml, hown, hts⟩ (c_m_lowOf l (redP r.toInt64)) (va_cwS 1 hts (g_goodS kw_825 kw_823 kw_824 kw_8) rfl rfl rfl (by decide +kernel) ⟨Nat.le_of_ble_eq_true rfl, Nat.le_of_ble_eq_true rfl⟩) ⟨fun _ _ _ _ q => q, fun _ _ _ => rfl⟩ rfl rfl hl.1 rfl (lv_room (Nat.le_of_ble_eq_true rfl)) d_Md_low_5 ⟨Nat.le_refl 0, Nat.le_refl 0⟩) (fun r4 q2 => ?_)
  exact g_iret hx hb hr hlocks hE hG (⟨q2, rfl⟩) d_Md_low_8

set_option maxHeartbeats 4000000 in
set_option maxRecDepth 100000 in
theorem c_M_hint (l : Launch) (V : Ev) (X : Mm) (z r : Int32) : Met l y_Md_hint (Cond.code y_Md_hint b_Md_hint 3 (some .int) :: WA) ({ frames := 3, cells := 0, slots := 0, locals := 63 } : Room) (g_Pc V X [.ref (g_ad V 11), .int (z), .int (r)]) (g_Qi V (fun (a : Int32) (X1 : Mm) => a = hinP z.toInt64 (redP r.toInt64) ∧ X = X1)) 0 0 (g_A V) := by
  refine g_met (by decide) (Nat.le_of_ble_eq_true rfl) ?_
  intro p e s m below meth c hx hb hr hml hown hts hlocks hE hG ls hl
  have hl : lv_has ls 3 [(0, .ref (g_ad V 11)), (1, .int (z)), (2, .int (r))] := hl
  have hown : s.vm.findClass R_Md = some m.cls := hown
  refine lv_iload_n hx hb d_Md_hint_0 rfl (lv_at hl 1 rfl) ?_
  refine lv_i2l (v := z.toInt64) hx hb d_Md_hint_1 rfl ?_
  refine lv_iload_n hx hb d_Md_hint_2 rfl (lv_at hl 2 rfl) ?_
  refine lv_i2l (v := r.toInt64) hx hb d_Md_hint_3 rfl ?_
  refine g_callpi (va_runS (As := [.long (r.toInt64)]) (rest := [.long (z.toInt64)]) ⟨hx, hb, hml, hown, hts⟩ (c_m_mod l r.toInt64) (va_cwS 1 hts (g_goodS kw_751 kw_749 kw_750 kw_8) rfl rfl rfl (by decide +kernel) ⟨Nat.le_of_ble_eq_true rfl, Nat.le_of_ble_eq_true rfl⟩) ⟨fun _ _ _ _ q => q, fun _ _ _ => rfl⟩ rfl rfl hl.1 rfl (lv_room (Nat.le_of_ble_eq_true rfl)) d_Md_hint_4 ⟨Nat.le_refl 0, Nat.le_refl 0⟩) (fun r2 q1 => ?_)
  refine g_topi (y := redP r.toInt64) (q1) ?_
  refine g_callpi (va_runS (As := [.long (z.toInt64), .int (redP r.toInt64)]) (rest := []) ⟨hx, hb, hml, hown, hts⟩ (c_m_hintOf l z.toInt64 (redP r.toInt64)) (va_cwS 2 hts (g_goodS kw_828 kw_826 kw_827 kw_8) rfl rfl rfl (by decide +kernel) ⟨Nat.le_of_ble_eq_true rfl, Nat.le_of_ble_eq_true rfl⟩) ⟨fun _ _ _ _ q => q, fun _ _ _ => rfl⟩ rfl rfl hl.1 rfl (lv_room (Nat.le_of_ble_eq_true rfl)) d_Md_hint_7 ⟨Nat.le_refl 0, Nat.le_refl 0⟩) (fun r4 q2 => ?_)
  exact g_iret hx hb hr hlocks hE hG (⟨q2, rfl⟩) d_Md_hint_10

set_option maxHeartbeats 4000000 in
set_option maxRecDepth 100000 in
theorem c_M_corrected (l : Launch) (V : Ev) (X : Mm) (h r : Int32) : Met l y_Md_corrected (Cond.code y_Md_corrected b_Md_corrected 3 (some .int) :: WA) ({ frames := 3, cells := 0, slots := 0, locals := 62 } : Room) (g_Pc V X [.ref (g_ad V 11), .int (h), .int (r)]) (g_Qi V (fun (a : Int32) (X1 : Mm) => a = corP (h &&& nI 1) (redP r.toInt64) ∧ X = X1)) 0 0 (g_A V) := by
  refine g_met (by decide) (Nat.le_of_ble_eq_true rfl) ?_
  intro p e s m below meth c hx hb hr hml hown hts hlocks hE hG ls hl
  have hl : lv_has ls 3 [(0, .ref (g_ad V 11)), (1, .int (h)), (2, .int (r))] := hl
  have hown : s.vm.findClass R_Md = some m.cls := hown
  refine lv_iload_n hx hb d_Md_corrected_0 rfl (lv_at hl 1 rfl) ?_
  refine lv_iconst (v := nI (1)) hx hb d_Md_corrected_1 (by decide) ?_
  refine lv_iand hx hb d_Md_corrected_2 ?_
  refine lv_iload_n hx hb d_Md_corrected_3 rfl (lv_at hl 2 rfl) ?_
  refine lv_i2l (v := r.toInt64) hx hb d_Md_corrected_4 rfl ?_
  refine g_callpi (va_runS (As := [.long (r.toInt64)]) (rest := [.int (h &&& (nI (1)))]) ⟨hx, hb, hml, hown, hts⟩ (c_m_mod l r.toInt64) (va_cwS 1 hts (g_goodS kw_751 kw_749 kw_750 kw_8) rfl rfl rfl (by decide +kernel) ⟨Nat.le_of_ble_eq_true rfl, Nat.le_of_ble_eq_true rfl⟩) ⟨fun _ _ _ _ q => q, fun _ _ _ => rfl⟩ rfl rfl hl.1 rfl (lv_room (Nat.le_of_ble_eq_true rfl)) d_Md_corrected_5 ⟨Nat.le_refl 0, Nat.le_refl 0⟩) (fun r2 q1 => ?_)
  refine g_topi (y := redP r.toInt64) (q1) ?_
  refine g_callpi (va_runS (As := [.int (h &&& (nI (1))), .int (redP r.toInt64)]) (rest := []) ⟨hx, hb, hml, hown, hts⟩ (c_m_correctedBy l (h &&& nI 1) (redP r.toInt64)) (va_cwS 2 hts (g_goodS kw_844 kw_842 kw_843 kw_8) rfl rfl rfl (by decide +kernel) ⟨Nat.le_of_ble_eq_true rfl, Nat.le_of_ble_eq_true rfl⟩) ⟨fun _ _ _ _ q => q, fun _ _ _ => rfl⟩ rfl rfl hl.1 rfl (lv_room (Nat.le_of_ble_eq_true rfl)) d_Md_corrected_8 ⟨Nat.le_refl 0, Nat.le_refl 0⟩) (fun r4 q2 => ?_)
  exact g_iret hx hb hr hlocks hE hG (⟨q2, rfl⟩) d_Md_corrected_11
