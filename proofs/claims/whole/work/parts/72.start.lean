set_option maxHeartbeats 4000000 in
set_option maxRecDepth 100000 in
theorem whole_start {p : Program} {e : Env} {s : State} {m : MethodId} {below : List Frame} {meth : Method} {c : Code} (l : Launch) {b L : Nat} {xs : Nat → Int32} (hL : L ≤ 2048) (C0 : lw_At p s m meth c b L xs) : W p l e room_1 s m #[Value.ref b] below meth c s.heap [] 0 0 (lw_Z below #[Value.ref b] s) (entryFrame m ([Value.ref b] : List Value).toArray 4) := by
  obtain ⟨hx, hb, hr, hml, hown, hts0, hX, hbl, hlocks, hgv⟩ := id C0
  have hts := lw_words hts0
  obtain ⟨D, cs, t1, t2, hK, hN, hT1, hT2⟩ := lw_env hts0 hgv
  have hA : ∀ q : Nat, s.heap.size ≤ q → (fun q : Nat => s.heap.size ≤ q) q := fun _ h => h
  have hS : va_S (fun q : Nat => s.heap.size ≤ q) s.heap s.heap [] := va_S.rf
  have hP : va_P D classes [] s.heap := fun k q h => by simp at h
  have hD : va_D (fun q : Nat => s.heap.size ≤ q) [] := ⟨fun i j p q h => by simp at h, fun k q h => by simp at h⟩
  have hl := lv_entry ([.ref b]) (n := 4) (Nat.le_of_ble_eq_true rfl)
  rw [lg_entry_eq]
  generalize (lg_sl ([.ref b]) ++ List.replicate (4 - (lg_sl ([.ref b])).length) Slot.unset).toArray = ls at hl ⊢
  have hl : lv_has ls 4 [(0, .ref b)] := hl
  refine va_new (ci := 0) (fs := [.null, .null, .null, .null, .null, .null, .null, .null, .int 0]) (C := R_SVS) (T := F_SVS) (N := 9) hx hb hts (fun w h => List.mem_cons_of_mem _ (in_SVS w h)) t_SVS t_SVS_ok hown (hts _ (List.mem_cons_of_mem _ kw_17)) (hts _ (List.mem_cons_of_mem _ kw_18)) (hts _ (List.mem_cons_of_mem _ kw_1)) hK hP hD hS hA rfl (by decide) (Nat.le_of_ble_eq_true rfl) (Nat.le_of_ble_eq_true rfl) d_law_0 (fun q0 H hP hD hS => ?_)
  refine W.widen (k := 1) (n := 9) (by decide) (by decide) ?_
  have hP : va_P D classes [(q0, .inr (0, [.null, .null, .null, .null, .null, .null, .null, .null, .int 0]))] H := hP
  have hD : va_D (fun q : Nat => s.heap.size ≤ q) [(q0, .inr (0, [.null, .null, .null, .null, .null, .null, .null, .null, .int 0]))] := hD
  refine lv_dup hx hb d_law_3 rfl ?_
  have hPc := hP.sub (ws' := [(q0, .inr (0, [.null, .null, .null, .null, .null, .null, .null, .null, .int 0]))]) [0] rfl
  have hDc := hD.sub (ws' := [(q0, .inr (0, [.null, .null, .null, .null, .null, .null, .null, .null, .int 0]))]) [0] (by decide) rfl
  have hFc := va_free (wc := [(q0, .inr (0, [.null, .null, .null, .null, .null, .null, .null, .null, .int 0]))]) hD hS hA [0] rfl
  refine va_callv (va_runI (As := []) (rest := [.ref q0]) ⟨hx, hb, hml, hown, hts⟩ (k_SVS l D cs q0 H.size) (cwI 0 hts (g_good kw_21) rfl rfl rfl (hts _ (List.mem_cons_of_mem _ kw_1)) (hts _ (List.mem_cons_of_mem _ kw_19)) (hts _ (List.mem_cons_of_mem _ kw_20)) rfl (by decide +kernel) ⟨Nat.le_of_ble_eq_true rfl, Nat.le_of_ble_eq_true rfl⟩) (k_pre hK hN hPc hDc) rfl rfl hl.1 rfl (lv_room (Nat.le_of_ble_eq_true rfl)) d_law_4 ⟨Nat.le_of_ble_eq_true rfl, Nat.le_of_ble_eq_true rfl⟩) hS (fun q _ h => hFc q h) hFc (fun uS t H1 locs ht hvm _ hB hz1 hk1 hS => ?_)
  obtain ⟨hP1, hD1⟩ := hB
  rw [ht] at hP1
  obtain ⟨hP, hD⟩ := va_join (wr := []) (w1 := w_SVS cs q0 uS) hP hD [0] [] rfl rfl (by decide) (by decide) hk1 hFc hP1 hD1
  generalize H1 = H at hP hS ⊢
  refine W.widen (k := 47) (n := 1310) (by decide) (by decide) ?_
  have hP : va_P D classes (w_SVS cs q0 uS) H := hP
  have hD : va_D (fun q : Nat => s.heap.size ≤ q) (w_SVS cs q0 uS) := hD
  refine lv_astore_n (lv' := [(1, .ref q0), (0, .ref b)]) hx hb d_law_7 rfl hl (by decide) rfl (fun ls hl => ?_)
  refine va_new (ci := 7) (fs := [.null, .null, .null, .null, .null, .int 0, .null, .null, .int 0, .null, .null, .null, .null, .null, .null, .null, .null, .null, .null, .int 0, .null, .null, .null, .null, .null, .null, .null, .null, .null, .null, .null, .null, .null, .null, .null]) (C := R_Md) (T := F_Md) (N := 35) hx hb hts (fun w h => List.mem_cons_of_mem _ (in_Md w h)) t_Md t_Md_ok hown (hts _ (List.mem_cons_of_mem _ kw_586)) (hts _ (List.mem_cons_of_mem _ kw_587)) (hts _ (List.mem_cons_of_mem _ kw_8)) hK hP hD hS hA rfl (by decide) (Nat.le_of_ble_eq_true rfl) (Nat.le_of_ble_eq_true rfl) d_law_8 (fun q8 H hP hD hS => ?_)
  refine W.widen (k := 48) (n := 1345) (by decide) (by decide) ?_
  refine lv_dup hx hb d_law_11 rfl ?_
  have hPc := hP.sub (ws' := [(q8, .inr (7, [.null, .null, .null, .null, .null, .int 0, .null, .null, .int 0, .null, .null, .null, .null, .null, .null, .null, .null, .null, .null, .int 0, .null, .null, .null, .null, .null, .null, .null, .null, .null, .null, .null, .null, .null, .null, .null]))]) [47] rfl
  have hDc := hD.sub (ws' := [(q8, .inr (7, [.null, .null, .null, .null, .null, .int 0, .null, .null, .int 0, .null, .null, .null, .null, .null, .null, .null, .null, .null, .null, .int 0, .null, .null, .null, .null, .null, .null, .null, .null, .null, .null, .null, .null, .null, .null, .null]))]) [47] (by decide) rfl
  have hFc := va_free (wc := [(q8, .inr (7, [.null, .null, .null, .null, .null, .int 0, .null, .null, .int 0, .null, .null, .null, .null, .null, .null, .null, .null, .null, .null, .int 0, .null, .null, .null, .null, .null, .null, .null, .null, .null, .null, .null, .null, .null, .null, .null]))]) hD hS hA [47] rfl
  refine va_callv (va_runI (As := []) (rest := [.ref q8]) ⟨hx, hb, hml, hown, hts⟩ (k_Md l D cs q8 H.size) (cwI 0 hts (g_good kw_590) rfl rfl rfl (hts _ (List.mem_cons_of_mem _ kw_8)) (hts _ (List.mem_cons_of_mem _ kw_588)) (hts _ (List.mem_cons_of_mem _ kw_589)) rfl (by decide +kernel) ⟨Nat.le_of_ble_eq_true rfl, Nat.le_of_ble_eq_true rfl⟩) (k_pre hK hN hPc hDc) rfl rfl hl.1 rfl (lv_room (Nat.le_of_ble_eq_true rfl)) d_law_12 ⟨Nat.le_of_ble_eq_true rfl, Nat.le_of_ble_eq_true rfl⟩) hS (fun q _ h => hFc q h) hFc (fun uM t H1 locs ht hvm _ hB hz1 hk1 hS => ?_)
  obtain ⟨hP1, hD1⟩ := hB
  rw [ht] at hP1
  obtain ⟨hP, hD⟩ := va_join (wr := w_SVS cs q0 uS) (w1 := w_Md cs q8 uM) hP hD [47] [0, 1, 2, 3, 4, 5, 6, 7, 8, 9, 10, 11, 12, 13, 14, 15, 16, 17, 18, 19, 20, 21, 22, 23, 24, 25, 26, 27, 28, 29, 30, 31, 32, 33, 34, 35, 36, 37, 38, 39, 40, 41, 42, 43, 44, 45, 46] rfl rfl (by decide) (by decide) hk1 hFc hP1 hD1
  generalize H1 = H at hP hS ⊢
  refine W.widen (k := 80) (n := 2486) (by decide) (by decide) ?_
  refine lv_astore_n (lv' := [(2, .ref q8), (1, .ref q0), (0, .ref b)]) hx hb d_law_15 rfl hl (by decide) rfl (fun ls hl => ?_)
  refine lv_iconst (v := nI (0)) hx hb d_law_16 (by decide) ?_
  refine lv_istore_n (lv' := [(3, .int (nI 0)), (2, .ref q8), (1, .ref q0), (0, .ref b)]) hx hb d_law_17 rfl hl (by decide) rfl (fun ls hl => ?_)
  have hG : g_st (D, cs, s.heap.size, (fun k => (lw_ads q0 q8 uS uM).getD k 0), t1, t2) X_0 s.heap H locs := ⟨lw_perP hP, lw_perD hD, hS⟩
  have hE : g_en (D, cs, s.heap.size, (fun k => (lw_ads q0 q8 uS uM).getD k 0), t1, t2) s s.heap := ⟨hK, hN, hT1, hT2⟩
  have hG := g_xi hG 53 (by decide) rotT (fun j hj => tu_5 j hj)
  have hG := g_xl hG 12 rfl rcT (fun j hj => ex_6 j hj)
  exact law_loop hL C0 hE rfl (Nat.not_le.mpr hbl) (L + 1) 0 (Nat.zero_le L) (by omega) _ H locs ls LI_0 hG (lv_sub hl [3, 2, 1, 0] rfl)
