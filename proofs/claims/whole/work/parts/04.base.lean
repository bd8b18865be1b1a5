-- THE MEMORY OF BOTH SYSTEMS AS ONE VALUE: int rows, long rows, int fields
abbrev Mm : Type := (Nat → Nat → Int32) × (Nat → Nat → Int64) × (Nat → Int32)
def uI (X : Mm) (k : Nat) (f : Nat → Int32) : Mm := (va_up X.1 k f, X.2.1, X.2.2)
def uL (X : Mm) (k : Nat) (f : Nat → Int64) : Mm := (X.1, va_up X.2.1 k f, X.2.2)
def uF (X : Mm) (k : Nat) (v : Int32) : Mm := (X.1, X.2.1, va_up X.2.2 k v)
/-- the tables' classes and slots; the classes of int[] and long[]; the first new address; the addresses; the two static rows -/
abbrev Ev : Type := va_G × (ClassId × ClassId) × Nat × (Nat → Nat) × Nat × Nat
def g_ad (V : Ev) : Nat → Nat := V.2.2.2.1
def g_cI (V : Ev) : ClassId := V.2.1.1
def g_cJ (V : Ev) : ClassId := V.2.1.2
def g_A (V : Ev) : Nat → Prop := fun q => V.2.2.1 ≤ q
def g_t1 (V : Ev) : Nat := V.2.2.2.2.1
def g_t2 (V : Ev) : Nat := V.2.2.2.2.2
def g_lens : List Nat := [136, 24, 68, 62, 16, 68, 8, 8, 8, 64, 32, 32, 32, 32, 16, 48, 8, 16, 32, 32, 16, 32, 32, 32, 32, 16, 48, 8, 8, 64, 32, 32, 16, 32, 32, 32, 25, 135, 136, 8, 8, 8, 8, 64, 64, 32, 32, 32, 32, 24, 68, 62, 16, 16, 8, 32, 32, 32, 32, 32, 16, 32, 60]
def g_len (k : Nat) : Nat := g_lens.getD (k - 17) 0
def g_lenL (k : Nat) : Nat := match k with
  | 2 => 25
  | 3 => 25
  | 4 => 5
  | 12 => 24
  | 13 => 25
  | 14 => 25
  | 15 => 5
  | _ => 16
def g_ob (V : Ev) (X : Mm) (k : Nat) : va_E := match k with
  | 0 => .inr (0, [.ref (g_ad V 1), .ref (g_ad V 5), .ref (g_ad V 6), .ref (g_ad V 7), .ref (g_ad V 9), .ref (g_ad V 19), .ref (g_ad V 20), .ref (g_ad V 21), .int (X.2.2 0)])
  | 1 => .inr (1, [.ref (g_ad V 2), .ref (g_ad V 3), .ref (g_ad V 4), .ref (g_ad V 17), .int (X.2.2 1)])
  | 5 => .inr (2, [.ref (g_ad V 18), .int (X.2.2 2)])
  | 6 => .inr (3, [.ref (g_ad V 22), .ref (g_ad V 23), .ref (g_ad V 24), .ref (g_ad V 25), .ref (g_ad V 26), .ref (g_ad V 27), .ref (g_ad V 28), .ref (g_ad V 29), .ref (g_ad V 30)])
  | 7 => .inr (4, [.ref (g_ad V 8), .ref (g_ad V 34), .ref (g_ad V 35), .ref (g_ad V 36), .ref (g_ad V 37), .ref (g_ad V 38), .ref (g_ad V 39), .ref (g_ad V 40), .ref (g_ad V 41)])
  | 8 => .inr (5, [.ref (g_ad V 31), .ref (g_ad V 32), .ref (g_ad V 33)])
  | 9 => .inr (6, [.ref (g_ad V 10), .ref (g_ad V 45), .ref (g_ad V 46), .ref (g_ad V 47), .ref (g_ad V 48), .ref (g_ad V 49), .ref (g_ad V 50), .ref (g_ad V 51), .ref (g_ad V 52)])
  | 10 => .inr (5, [.ref (g_ad V 42), .ref (g_ad V 43), .ref (g_ad V 44)])
  | 11 => .inr (7, [.ref (g_ad V 53), .ref (g_ad V 12), .ref (g_ad V 13), .ref (g_ad V 14), .ref (g_ad V 15), .int (X.2.2 3), .ref (g_ad V 54), .ref (g_ad V 55), .int (X.2.2 4), .ref (g_ad V 56), .ref (g_ad V 57), .ref (g_ad V 58), .ref (g_ad V 59), .ref (g_ad V 60), .ref (g_ad V 61), .ref (g_ad V 62), .ref (g_ad V 63), .ref (g_ad V 64), .ref (g_ad V 65), .int (X.2.2 5), .ref (g_ad V 66), .ref (g_ad V 67), .ref (g_ad V 68), .ref (g_ad V 69), .ref (g_ad V 70), .ref (g_ad V 71), .ref (g_ad V 72), .ref (g_ad V 73), .ref (g_ad V 74), .ref (g_ad V 75), .ref (g_ad V 76), .ref (g_ad V 77), .ref (g_ad V 78), .ref (g_ad V 79), .ref (g_ad V 16)])
  | k => .inl (g_cJ V, g_lenL k, .inr (.inl (X.2.1 k)))
def g_ce (V : Ev) (X : Mm) (k : Nat) : va_E := if k < 17 then g_ob V X k else .inl (g_cI V, g_len k, .inl (X.1 k))
def g_wl (V : Ev) (X : Mm) : va_W := (List.range 80).map (fun k => (g_ad V k, g_ce V X k))
theorem g_len_le (k : Nat) : g_len k ≤ 136 := by
  unfold g_len
  rw [List.getD_eq_getElem?_getD]
  cases h : g_lens[k - 17]? with
  | none => exact Nat.zero_le _
  | some v =>
    have hm := List.mem_of_getElem? h
    have hall : ∀ v ∈ g_lens, v ≤ 136 := by decide
    exact hall v hm
theorem g_wl_at (V : Ev) (X : Mm) {k : Nat} (hk : k < 80) : (g_wl V X)[k]? = some (g_ad V k, g_ce V X k) := by
  simp [g_wl, hk]
theorem g_wl_set (V : Ev) (X X' : Mm) {k : Nat} (hk : k < 80) (h : ∀ j, j < 80 → j ≠ k → g_ce V X' j = g_ce V X j) : (g_wl V X).set k (g_ad V k, g_ce V X' k) = g_wl V X' := by
  apply List.ext_getElem?
  intro j
  by_cases hj : j = k
  · subst hj
    rw [List.getElem?_set_self (by simp [g_wl]; exact hk), g_wl_at V X' hk]
  · rw [List.getElem?_set_ne (Ne.symm hj)]
    by_cases h8 : j < 80
    · rw [g_wl_at V X h8, g_wl_at V X' h8, h j h8 hj]
    · simp [g_wl, h8]
theorem g_ce_i (V : Ev) (X : Mm) {k : Nat} (hk : 17 ≤ k) : g_ce V X k = .inl (g_cI V, g_len k, .inl (X.1 k)) := by
  unfold g_ce
  rw [if_neg (by omega)]
theorem g_ob_uI (V : Ev) (X : Mm) (k : Nat) (f : Nat → Int32) (j : Nat) : g_ob V (uI X k f) j = g_ob V X j := rfl
theorem g_ce_uI (V : Ev) (X : Mm) {k : Nat} (f : Nat → Int32) {j : Nat} (h : j ≠ k) : g_ce V (uI X k f) j = g_ce V X j := by
  unfold g_ce
  by_cases hj : j < 17
  · rw [if_pos hj, if_pos hj, g_ob_uI]
  · rw [if_neg hj, if_neg hj]
    show (Sum.inl (g_cI V, g_len j, Sum.inl (va_up X.1 k f j)) : va_E) = _
    rw [va_up_ne _ _ h]
theorem g_set_i (V : Ev) (X : Mm) {k : Nat} (h17 : 17 ≤ k) (hk : k < 80) (f : Nat → Int32) : (g_wl V X).set k (g_ad V k, .inl (g_cI V, g_len k, .inl f)) = g_wl V (uI X k f) := by
  have e : (Sum.inl (g_cI V, g_len k, Sum.inl f) : va_E) = g_ce V (uI X k f) k := by
    rw [g_ce_i V _ h17]
    show _ = (Sum.inl (g_cI V, g_len k, Sum.inl (va_up X.1 k f k)) : va_E)
    rw [va_up_self]
  rw [e]
  exact g_wl_set V X _ hk (fun j _ hj => g_ce_uI V X f hj)
def g_isL (k : Nat) : Bool := k == 2 || k == 3 || k == 4 || k == 12 || k == 13 || k == 14 || k == 15 || k == 16
theorem g_isL_or {k : Nat} (h : g_isL k = true) : k = 2 ∨ k = 3 ∨ k = 4 ∨ k = 12 ∨ k = 13 ∨ k = 14 ∨ k = 15 ∨ k = 16 := by
  simp only [g_isL, Bool.or_eq_true, beq_iff_eq] at h
  omega
theorem g_ce_l (V : Ev) (X : Mm) {k : Nat} (h : g_isL k = true) : g_ce V X k = .inl (g_cJ V, g_lenL k, .inr (.inl (X.2.1 k))) := by
  rcases g_isL_or h with rfl | rfl | rfl | rfl | rfl | rfl | rfl | rfl <;> rfl
theorem g_ce_uL (V : Ev) (X : Mm) {k : Nat} (f : Nat → Int64) {j : Nat} (hj : j < 80) (h : j ≠ k) : g_ce V (uL X k f) j = g_ce V X j := by
  unfold g_ce
  by_cases h17 : j < 17
  · rw [if_pos h17, if_pos h17]
    have e : (uL X k f).2.1 j = X.2.1 j := va_up_ne _ _ h
    match j, h17, e with
    | 0, _, _ => rfl
    | 1, _, _ => rfl
    | 2, _, e => show (Sum.inl (g_cJ V, g_lenL 2, Sum.inr (Sum.inl ((uL X k f).2.1 2))) : va_E) = _; rw [e]; rfl
    | 3, _, e => show (Sum.inl (g_cJ V, g_lenL 3, Sum.inr (Sum.inl ((uL X k f).2.1 3))) : va_E) = _; rw [e]; rfl
    | 4, _, e => show (Sum.inl (g_cJ V, g_lenL 4, Sum.inr (Sum.inl ((uL X k f).2.1 4))) : va_E) = _; rw [e]; rfl
    | 5, _, _ => rfl
    | 6, _, _ => rfl
    | 7, _, _ => rfl
    | 8, _, _ => rfl
    | 9, _, _ => rfl
    | 10, _, _ => rfl
    | 11, _, _ => rfl
    | 12, _, e => show (Sum.inl (g_cJ V, g_lenL 12, Sum.inr (Sum.inl ((uL X k f).2.1 12))) : va_E) = _; rw [e]; rfl
    | 13, _, e => show (Sum.inl (g_cJ V, g_lenL 13, Sum.inr (Sum.inl ((uL X k f).2.1 13))) : va_E) = _; rw [e]; rfl
    | 14, _, e => show (Sum.inl (g_cJ V, g_lenL 14, Sum.inr (Sum.inl ((uL X k f).2.1 14))) : va_E) = _; rw [e]; rfl
    | 15, _, e => show (Sum.inl (g_cJ V, g_lenL 15, Sum.inr (Sum.inl ((uL X k f).2.1 15))) : va_E) = _; rw [e]; rfl
    | 16, _, e => show (Sum.inl (g_cJ V, g_lenL 16, Sum.inr (Sum.inl ((uL X k f).2.1 16))) : va_E) = _; rw [e]; rfl
    | n + 17, h, _ => exact absurd h (by omega)
  · rw [if_neg h17, if_neg h17]
    rfl
theorem g_set_l (V : Ev) (X : Mm) {k : Nat} (hl : g_isL k = true) (hk : k < 80) (f : Nat → Int64) : (g_wl V X).set k (g_ad V k, .inl (g_cJ V, g_lenL k, .inr (.inl f))) = g_wl V (uL X k f) := by
  have e : (Sum.inl (g_cJ V, g_lenL k, Sum.inr (Sum.inl f)) : va_E) = g_ce V (uL X k f) k := by
    rw [g_ce_l V _ hl]
    show _ = (Sum.inl (g_cJ V, g_lenL k, Sum.inr (Sum.inl (va_up X.2.1 k f k))) : va_E)
    rw [va_up_self]
  rw [e]
  exact g_wl_set V X _ hk (fun j h8 hj => g_ce_uL V X f h8 hj)
theorem g_ce_uF (V : Ev) (X : Mm) (i : Nat) (v : Int32) {j : Nat} (hj : j ≠ 0 ∧ j ≠ 1 ∧ j ≠ 5 ∧ j ≠ 11) : g_ce V (uF X i v) j = g_ce V X j := by
  unfold g_ce
  by_cases h17 : j < 17
  · rw [if_pos h17, if_pos h17]
    match j, h17, hj with
    | 0, _, h => exact absurd rfl h.1
    | 1, _, h => exact absurd rfl h.2.1
    | 2, _, _ => rfl
    | 3, _, _ => rfl
    | 4, _, _ => rfl
    | 5, _, h => exact absurd rfl h.2.2.1
    | 6, _, _ => rfl
    | 7, _, _ => rfl
    | 8, _, _ => rfl
    | 9, _, _ => rfl
    | 10, _, _ => rfl
    | 11, _, h => exact absurd rfl h.2.2.2
    | 12, _, _ => rfl
    | 13, _, _ => rfl
    | 14, _, _ => rfl
    | 15, _, _ => rfl
    | 16, _, _ => rfl
    | n + 17, h, _ => exact absurd h (by omega)
  · rw [if_neg h17, if_neg h17]
    rfl
/-- which object holds the int field i -/
def g_own (i : Nat) : Nat := match i with
  | 0 => 0
  | 1 => 1
  | 2 => 5
  | _ => 11
theorem g_ce_uF2 (V : Ev) (X : Mm) {i : Nat} (hi : i < 6) (v : Int32) {j : Nat} (hj : j ≠ g_own i) : g_ce V (uF X i v) j = g_ce V X j := by
  by_cases h : j ≠ 0 ∧ j ≠ 1 ∧ j ≠ 5 ∧ j ≠ 11
  · exact g_ce_uF V X i v h
  · have hc : j = 0 ∨ j = 1 ∨ j = 5 ∨ j = 11 := by omega
    have e : ∀ b, b ≠ i → (uF X i v).2.2 b = X.2.2 b := fun b hb => va_up_ne _ _ hb
    have hi6 : i = 0 ∨ i = 1 ∨ i = 2 ∨ i = 3 ∨ i = 4 ∨ i = 5 := by omega
    rcases hc with rfl | rfl | rfl | rfl
    · have h0 : (0 : Nat) ≠ i := by rcases hi6 with rfl | rfl | rfl | rfl | rfl | rfl <;> first | decide | exact absurd rfl hj
      simp only [g_ce, g_ob, e 0 h0, if_pos (show (0 : Nat) < 17 by decide)]
    · have h0 : (1 : Nat) ≠ i := by rcases hi6 with rfl | rfl | rfl | rfl | rfl | rfl <;> first | decide | exact absurd rfl hj
      simp only [g_ce, g_ob, e 1 h0, if_pos (show (1 : Nat) < 17 by decide)]
    · have h0 : (2 : Nat) ≠ i := by rcases hi6 with rfl | rfl | rfl | rfl | rfl | rfl <;> first | decide | exact absurd rfl hj
      simp only [g_ce, g_ob, e 2 h0, if_pos (show (5 : Nat) < 17 by decide)]
    · have h3 : i < 3 := by
        rcases hi6 with rfl | rfl | rfl | rfl | rfl | rfl <;> first | decide | exact absurd rfl hj
      simp only [g_ce, g_ob, e 3 (by omega), e 4 (by omega), e 5 (by omega), if_pos (show (11 : Nat) < 17 by decide)]
theorem g_set_f (V : Ev) (X : Mm) {i : Nat} (hi : i < 6) (v : Int32) {E : va_E} (hE : E = g_ce V (uF X i v) (g_own i)) : (g_wl V X).set (g_own i) (g_ad V (g_own i), E) = g_wl V (uF X i v) := by
  rw [hE]
  refine g_wl_set V X _ ?_ (fun j _ hj => g_ce_uF2 V X hi v hj)
  have hi6 : i = 0 ∨ i = 1 ∨ i = 2 ∨ i = 3 ∨ i = 4 ∨ i = 5 := by omega
  rcases hi6 with rfl | rfl | rfl | rfl | rfl | rfl <;> decide
-- WHAT STAYS
def fr (X Y : Mm) (a b c : List Nat) : Prop := (∀ k, k ∉ a → Y.1 k = X.1 k) ∧ (∀ k, k ∉ b → Y.2.1 k = X.2.1 k) ∧ ∀ k, k ∉ c → Y.2.2 k = X.2.2 k
theorem fr_rf (X : Mm) (a b c : List Nat) : fr X X a b c := ⟨fun _ _ => rfl, fun _ _ => rfl, fun _ _ => rfl⟩
theorem fr_tr {X Y Z : Mm} {a b c : List Nat} (h : fr X Y a b c) (h2 : fr Y Z a b c) : fr X Z a b c := ⟨fun k hk => (h2.1 k hk).trans (h.1 k hk), fun k hk => (h2.2.1 k hk).trans (h.2.1 k hk), fun k hk => (h2.2.2 k hk).trans (h.2.2 k hk)⟩
theorem fr_mono {X Y : Mm} {a b c a' b' c' : List Nat} (h : fr X Y a b c) (ha : ∀ k ∈ a, k ∈ a') (hb : ∀ k ∈ b, k ∈ b') (hc : ∀ k ∈ c, k ∈ c') : fr X Y a' b' c' := ⟨fun k hk => h.1 k (fun q => hk (ha k q)), fun k hk => h.2.1 k (fun q => hk (hb k q)), fun k hk => h.2.2 k (fun q => hk (hc k q))⟩
theorem fr_tr2 {X Y Z : Mm} {a b c a' b' c' : List Nat} (h : fr X Y a b c) (h2 : fr Y Z a' b' c') (ha : ∀ k ∈ a', k ∈ a) (hb : ∀ k ∈ b', k ∈ b) (hc : ∀ k ∈ c', k ∈ c) : fr X Z a b c := fr_tr h (fr_mono h2 ha hb hc)
theorem fr_i {X Y : Mm} {a b c : List Nat} (h : fr X Y a b c) {k : Nat} (f : Nat → Int32) (hk : k ∈ a) : fr X (uI Y k f) a b c := ⟨fun j hj => (va_up_ne _ _ (fun e => hj (by rw [e]; exact hk))).trans (h.1 j hj), h.2.1, h.2.2⟩
theorem fr_l {X Y : Mm} {a b c : List Nat} (h : fr X Y a b c) {k : Nat} (f : Nat → Int64) (hk : k ∈ b) : fr X (uL Y k f) a b c := ⟨h.1, fun j hj => (va_up_ne _ _ (fun e => hj (by rw [e]; exact hk))).trans (h.2.1 j hj), h.2.2⟩
theorem fr_f {X Y : Mm} {a b c : List Nat} (h : fr X Y a b c) {k : Nat} (v : Int32) (hk : k ∈ c) : fr X (uF Y k v) a b c := ⟨h.1, h.2.1, fun j hj => (va_up_ne _ _ (fun e => hj (by rw [e]; exact hk))).trans (h.2.2 j hj)⟩
theorem uI_s (X : Mm) (k : Nat) (f : Nat → Int32) : (uI X k f).1 k = f := va_up_self _ _ _
theorem uL_s (X : Mm) (k : Nat) (f : Nat → Int64) : (uL X k f).2.1 k = f := va_up_self _ _ _
theorem uF_s (X : Mm) (k : Nat) (v : Int32) : (uF X k v).2.2 k = v := va_up_self _ _ _
theorem uI_n (X : Mm) {k j : Nat} (f : Nat → Int32) (h : j ≠ k) : (uI X k f).1 j = X.1 j := va_up_ne _ _ h
theorem uL_n (X : Mm) {k j : Nat} (f : Nat → Int64) (h : j ≠ k) : (uL X k f).2.1 j = X.2.1 j := va_up_ne _ _ h
theorem uF_n (X : Mm) {k j : Nat} (v : Int32) (h : j ≠ k) : (uF X k v).2.2 j = X.2.2 j := va_up_ne _ _ h
