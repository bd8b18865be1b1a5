-- SIZES, BOTH WAYS
theorem rd_fix {f : Nat → Int32} {t : Nat} (h : 0 ≤ (f t).toInt ∧ (f t).toInt < 8380417) : rdF f t = f t := redP_id h
theorem cen_in {x : Int32} (h : 0 ≤ x.toInt ∧ x.toInt < 8380417) : -4190208 ≤ (cenP x).toInt ∧ (cenP x).toInt ≤ 4190208 := by
  unfold cenP
  by_cases h1 : nI 4190208 < x
  · rw [if_pos h1]
    have h2 := Int32.lt_iff_toInt_lt.mp h1
    rw [nI_toInt (by decide)] at h2
    rw [i_sub (by rw [nI_toInt (by decide)]; omega) (by rw [nI_toInt (by decide)]; omega), nI_toInt (by decide)]
    omega
  · rw [if_neg h1]
    have h2 := Int32.le_iff_toInt_le.mp (Int32.not_lt.mp h1)
    rw [nI_toInt (by decide)] at h2
    omega
theorem ab_in {x : Int32} (h : -1000000000 ≤ x.toInt ∧ x.toInt ≤ 1000000000) : (abI x).toInt = if 0 ≤ x.toInt then x.toInt else -x.toInt := by
  unfold abI
  by_cases h1 : (0 : Int32) ≤ x
  · have h2 := Int32.le_iff_toInt_le.mp h1
    rw [show (0 : Int32).toInt = 0 from rfl] at h2
    rw [if_pos h1, if_pos h2]
  · have h2 := Int32.lt_iff_toInt_lt.mp (Int32.not_le.mp h1)
    rw [show (0 : Int32).toInt = 0 from rfl] at h2
    rw [if_neg h1, if_neg (by omega), i_sub (by rw [show (0 : Int32).toInt = 0 from rfl]; omega) (by rw [show (0 : Int32).toInt = 0 from rfl]; omega), show (0 : Int32).toInt = 0 from rfl]
    omega
theorem ab_lt {x : Int32} (h : -1000000000 ≤ x.toInt ∧ x.toInt ≤ 1000000000) {l : Nat} (hl : l < 1000000) : abI x < nI l ↔ ¬ (nI l ≤ x ∨ x ≤ -nI l) := by
  have e1 := ab_in h
  have e2 : (-nI l).toInt = -(l : Int) := sb_negT (by omega)
  rw [Int32.lt_iff_toInt_lt, Int32.le_iff_toInt_le, Int32.le_iff_toInt_le, e1, e2, nI_toInt (by omega)]
  by_cases h0 : 0 ≤ x.toInt
  · rw [if_pos h0]; omega
  · rw [if_neg h0]; omega
theorem mx_lt {a b c : Int32} : mxI a b < c ↔ a < c ∧ b < c := by
  unfold mxI
  by_cases h : a < b
  · rw [if_pos h]
    exact ⟨fun q => ⟨Int32.lt_trans h q, q⟩, fun q => q.2⟩
  · rw [if_neg h]
    exact ⟨fun q => ⟨q, Int32.lt_of_le_of_lt (Int32.not_lt.mp h) q⟩, fun q => q.1⟩
theorem sz_lt (f : Nat → Int32) {l : Nat} (hl : 0 < l) (hl2 : l < 1000000) : ∀ n, szN f n < nI l ↔ ∀ i, i < n → abI (cenP (rdF f i)) < nI l
  | 0 => ⟨fun _ i hi => absurd hi (Nat.not_lt_zero i), fun _ => nI_lt hl (by omega)⟩
  | n + 1 => by
    have ih := sz_lt f hl hl2 n
    show mxI (szN f n) (abI (cenP (rdF f n))) < nI l ↔ _
    rw [mx_lt, ih]
    exact ⟨fun q => lt_s q.1 q.2, fun q => ⟨fun i hi => q i (by omega), q n (by omega)⟩⟩
theorem wr_0 (f : Nat → Int32) (lm : Int32) : ∀ n, wrP f lm n = nI 0 ↔ ∀ i, i < n → ¬ (lm ≤ cenP (f i) ∨ cenP (f i) ≤ -lm)
  | 0 => ⟨fun _ i hi => absurd hi (Nat.not_lt_zero i), fun _ => rfl⟩
  | n + 1 => by
    have ih := wr_0 f lm n
    constructor
    · intro h
      by_cases hc : (¬ wrP f lm n = nI 0) ∨ lm ≤ cenP (f n) ∨ cenP (f n) ≤ -lm
      · rw [← wrP_y hc] at h
        exact absurd h (by decide)
      · exact lt_s (ih.mp (Classical.byContradiction fun z => hc (Or.inl z))) (fun z => hc (Or.inr z))
    · intro h
      exact (wrP_n (fun z => z.elim (fun z => z (ih.mpr (fun i hi => h i (by omega)))) (h n (by omega)))).symm
theorem sz_wr (f : Nat → Int32) {l : Nat} (hl : 0 < l) (hl2 : l < 1000000) : szN f 32 < nI l ↔ wrP (rdF f) (nI l) 32 = nI 0 := by
  rw [sz_lt f hl hl2, wr_0]
  have key : ∀ i, (abI (cenP (rdF f i)) < nI l ↔ ¬ (nI l ≤ cenP (rdF f i) ∨ cenP (rdF f i) ≤ -nI l)) := fun i => by
    have := cen_in (redP_in (f i).toInt64)
    exact ab_lt (by unfold rdF; omega) hl2
  exact ⟨fun h i hi => (key i).mp (h i hi), fun h i hi => (key i).mpr (h i hi)⟩
theorem wr_ext {f g : Nat → Int32} (lm : Int32) : ∀ n, (∀ i, i < n → f i = g i) → wrP f lm n = wrP g lm n
  | 0, _ => rfl
  | n + 1, h => by
    have ih := wr_ext lm n (fun i hi => h i (by omega))
    show (if _ then _ else _) = (if _ then _ else _)
    rw [ih, h n (by omega)]
theorem lo_in {r : Int32} (h : 0 ≤ r.toInt ∧ r.toInt < 8380417) : -2000 ≤ (loP r).toInt ∧ (loP r).toInt ≤ 2000 := by
  obtain ⟨n, hn, rfl⟩ : ∃ n : Nat, n < 8380417 ∧ r = nI n := by
    obtain ⟨j, hj, ej⟩ := nI_of (x := r) (fun q => by have := Int32.lt_iff_toInt_lt.mp q; rw [show (0 : Int32).toInt = 0 from rfl] at this; omega)
    subst ej
    rw [nI_toInt hj] at h
    exact ⟨j, by omega, rfl⟩
  have e2 : nI n - nI n / nI 2046 * nI 2046 = nI (n % 2046) := pk_rem (by omega) (by decide) (by decide)
  have hm : n % 2046 < 2046 := Nat.mod_lt _ (by decide)
  have hr : -1023 ≤ (rsP (nI n) (nI 2046)).toInt ∧ (rsP (nI n) (nI 2046)).toInt ≤ 1023 := by
    unfold rsP
    rw [e2, show nI 2046 / nI 2 = nI 1023 by decide]
    by_cases h1 : nI 1023 < nI (n % 2046)
    · rw [if_pos h1, pk_sub_toInt (by omega) (by decide)]
      have := (nI_ltI (by decide) (by omega)).mp h1
      omega
    · rw [if_neg h1, nI_toInt (by omega)]
      have : ¬ 1023 < n % 2046 := fun q => h1 ((nI_ltI (by decide) (by omega)).mpr q)
      omega
  unfold loP
  by_cases h1 : nI n - rsP (nI n) (nI 2046) = nI 8380416
  · rw [if_pos h1, i_sub (by rw [nI_toInt (by decide)]; omega) (by rw [nI_toInt (by decide)]; omega), nI_toInt (by decide)]
    omega
  · rw [if_neg h1]
    omega
theorem lo_lt {r : Int32} (h : 0 ≤ r.toInt ∧ r.toInt < 8380417) : abI (loP r) < nI 1015 ↔ loP r < nI 1015 ∧ -1015 < loP r := by
  have hl := lo_in h
  have e1 := ab_in (x := loP r) (by omega)
  rw [Int32.lt_iff_toInt_lt, Int32.lt_iff_toInt_lt, Int32.lt_iff_toInt_lt, e1, nI_toInt (by decide), show (-1015 : Int32).toInt = -1015 by decide]
  by_cases h0 : 0 ≤ (loP r).toInt
  · rw [if_pos h0]; omega
  · rw [if_neg h0]; omega
def gdN (u : Nat → Int32) (g0 : Int32) : Nat → Int32
  | 0 => g0
  | i + 1 => if ¬ gdN u g0 i = nI 0 ∧ loP (u i) < nI 1015 ∧ -1015 < loP (u i) then nI 1 else nI 0
theorem gdN_y {u : Nat → Int32} {g0 : Int32} {i : Nat} (h : ¬ gdN u g0 i = nI 0 ∧ loP (u i) < nI 1015 ∧ -1015 < loP (u i)) : nI 1 = gdN u g0 (i + 1) := by
  show _ = (if _ then _ else _)
  rw [if_pos h]
theorem gdN_n {u : Nat → Int32} {g0 : Int32} {i : Nat} (h : ¬ (¬ gdN u g0 i = nI 0 ∧ loP (u i) < nI 1015 ∧ -1015 < loP (u i))) : nI 0 = gdN u g0 (i + 1) := by
  show _ = (if _ then _ else _)
  rw [if_neg h]
theorem gd_iff (u : Nat → Int32) (g0 : Int32) : ∀ n, ¬ gdN u g0 n = nI 0 ↔ ¬ g0 = nI 0 ∧ ∀ i, i < n → loP (u i) < nI 1015 ∧ -1015 < loP (u i)
  | 0 => ⟨fun h => ⟨h, fun i hi => absurd hi (Nat.not_lt_zero i)⟩, fun h => h.1⟩
  | n + 1 => by
    have ih := gd_iff u g0 n
    constructor
    · intro h
      have hc : ¬ gdN u g0 n = nI 0 ∧ loP (u n) < nI 1015 ∧ -1015 < loP (u n) := Classical.byContradiction fun z => h (gdN_n z).symm
      exact ⟨(ih.mp hc.1).1, lt_s (ih.mp hc.1).2 hc.2⟩
    · intro h
      have := gdN_y (g0 := g0) ⟨ih.mpr ⟨h.1, fun i hi => h.2 i (by omega)⟩, h.2 n (by omega)⟩
      rw [← this]
      decide
theorem HS_seg (mu h o : Nat → Int32) : HS (apB mu 16 (segI h o 48)) 64 = HS (apB mu 16 h) 64 := by
  apply HS_ext
  intro j hj
  by_cases h16 : j < 16
  · rw [apB_lo _ _ h16, apB_lo _ _ h16]
  · obtain ⟨d, rfl⟩ : ∃ d, j = 16 + d := ⟨j - 16, by omega⟩
    rw [apB_hi, apB_hi]
    exact (segI_e _ _ (by omega)).symm
