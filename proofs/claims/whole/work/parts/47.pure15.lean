-- THE REFERENCE WRITES A SIGNATURE
def hxN (h : Nat → Int32) : Nat → Nat × (Nat → Int32)
  | 0 => (0, fun _ => nI 0)
  | i + 1 => if h i = nI 1 then ((hxN h i).1 + 1, upd (hxN h i).2 (hxN h i).1 (nI (i % 16))) else hxN h i
theorem hxN_y {h : Nat → Int32} {i : Nat} (e : h i = nI 1) : hxN h (i + 1) = ((hxN h i).1 + 1, upd (hxN h i).2 (hxN h i).1 (nI (i % 16))) := by
  show (if _ then _ else _) = _
  rw [if_pos e]
theorem hxN_n {h : Nat → Int32} {i : Nat} (e : ¬ h i = nI 1) : hxN h (i + 1) = hxN h i := by
  show (if _ then _ else _) = _
  rw [if_neg e]
theorem hxN_mono (h : Nat → Int32) (i : Nat) : ∀ d, (hxN h i).1 ≤ (hxN h (i + d)).1
  | 0 => Nat.le_refl _
  | d + 1 => by
    have ih := hxN_mono h i d
    by_cases e : h (i + d) = nI 1
    · rw [← Nat.add_assoc, hxN_y e]
      show _ ≤ (hxN h (i + d)).1 + 1
      omega
    · rw [← Nat.add_assoc, hxN_n e]
      exact ih
theorem hxN_le (h : Nat → Int32) (hc : (hxN h 32).1 ≤ 12) {i : Nat} (hi : i ≤ 32) : (hxN h i).1 ≤ 12 := by
  have := hxN_mono h i (32 - i)
  rw [show i + (32 - i) = 32 by omega] at this
  omega
theorem hxN_lt (h : Nat → Int32) (hc : (hxN h 32).1 ≤ 12) {i : Nat} (hi : i < 32) (e : h i = nI 1) : (hxN h i).1 < 12 := by
  have := hxN_le h hc (show i + 1 ≤ 32 by omega)
  rw [hxN_y e] at this
  have h2 : (hxN h i).1 + 1 ≤ 12 := this
  omega
theorem hx_lo (h : Nat → Int32) (hc : (hxN h 32).1 ≤ 12) : ∀ i, i ≤ 16 → hwN h 0 (0, fun _ => nI 0) i = hxN h i
  | 0, _ => rfl
  | i + 1, hi => by
    have ih := hx_lo h hc i (by omega)
    by_cases e : h i = nI 1
    · have e2 : h (0 + i) = nI 1 := by rw [Nat.zero_add]; exact e
      rw [hwN_y (by rw [ih]; exact hxN_lt h hc (by omega) e) e2, hxN_y e, ih, show i % 16 = i by omega]
    · have e2 : ¬ h (0 + i) = nI 1 := by rw [Nat.zero_add]; exact e
      rw [hwN_n (fun q => e2 q.2), hxN_n e, ih]
theorem hx_hi (h : Nat → Int32) (hc : (hxN h 32).1 ≤ 12) : ∀ i, i ≤ 16 → hwN h 16 (hxN h 16) i = hxN h (16 + i)
  | 0, _ => rfl
  | i + 1, hi => by
    have ih := hx_hi h hc i (by omega)
    by_cases e : h (16 + i) = nI 1
    · rw [hwN_y (by rw [ih]; exact hxN_lt h hc (by omega) e) e, ← Nat.add_assoc, hxN_y e, ih, show (16 + i) % 16 = i by omega]
    · rw [hwN_n (fun q => e q.2), ← Nat.add_assoc, hxN_n e, ih]
theorem hx_1 (h : Nat → Int32) (hc : (hxN h 32).1 ≤ 12) : hxN h 16 = hw1 h := (hx_lo h hc 16 (Nat.le_refl _)).symm
theorem hx_2 (h : Nat → Int32) (hc : (hxN h 32).1 ≤ 12) : hxN h 32 = hw2 h := by
  rw [← hw2_eq, ← hx_1 h hc]
  exact (hx_hi h hc 16 (Nat.le_refl _)).symm
theorem hin_01 (z : Int64) (r : Int32) : hinP z r = nI 0 ∨ hinP z r = nI 1 := by
  unfold hinP
  split
  · exact Or.inl rfl
  · exact Or.inr rfl
theorem hnP_01 (u v : Nat → Int32) (i : Nat) : hnP u v i = nI 0 ∨ hnP u v i = nI 1 := hin_01 _ _
theorem ct_hx {h : Nat → Int32} (h01 : ∀ i, h i = nI 0 ∨ h i = nI 1) : ∀ n, ctN h n = nI (hxN h n).1
  | 0 => rfl
  | n + 1 => by
    have ih := ct_hx h01 n
    show ctN h n + h n = _
    rw [ih]
    rcases h01 n with e | e
    · rw [hxN_n (by rw [e]; decide), e, nI_add, Nat.add_zero]
    · rw [hxN_y e, e, nI_add]
theorem hx_le32 (h : Nat → Int32) : ∀ n, (hxN h n).1 ≤ n
  | 0 => Nat.le_refl _
  | n + 1 => by
    have ih := hx_le32 h n
    by_cases e : h n = nI 1
    · rw [hxN_y e]
      show (hxN h n).1 + 1 ≤ n + 1
      omega
    · rw [hxN_n e]
      omega
theorem ct_le {h : Nat → Int32} (h01 : ∀ i, h i = nI 0 ∨ h i = nI 1) (hc : ctN h 32 ≤ nI 12) : (hxN h 32).1 ≤ 12 := by
  rw [ct_hx h01] at hc
  have := hx_le32 h 32
  exact (nI_leI (by omega) (by decide)).mp hc
def w0P (se : Nat → Int32) : Nat → Int32 := fun j => if j < 8 then se j else nI 0
theorem upd_self (f : Nat → Int32) (k : Nat) {v : Int32} (h : f k = v) : upd f k v = f := by
  funext j
  by_cases e : j = k
  · subst e
    rw [pk_us, h]
  · rw [pk_un e]
theorem upd_comm (f : Nat → Int32) {a b : Nat} (x y : Int32) (h : a ≠ b) : upd (upd f a x) b y = upd (upd f b y) a x := by
  funext j
  by_cases e : j = b
  · subst e
    rw [pk_us, pk_un (Ne.symm h), pk_us]
  · rw [pk_un e]
    by_cases e2 : j = a
    · subst e2
      rw [pk_us, pk_us]
    · rw [pk_un e2, pk_un e2, pk_un e]
theorem upd_upd (f : Nat → Int32) (a : Nat) (x y : Int32) : upd (upd f a x) a y = upd f a y := by
  funext j
  by_cases e : j = a
  · subst e
    rw [pk_us, pk_us]
  · rw [pk_un e, pk_un e, pk_un e]
theorem sig_eq2 {se z h : Nat → Int32} (hc : (hxN h 32).1 ≤ 12) {j : Nat} (hj : j < 62) : sigP se z h j = upd (upd (seg (hxN h 32).2 (pkN (w0P se) (zwP z) 8 10 32) 48 (hxN h 32).1) 60 (nI (hxN h 16).1)) 61 (nI (hxN h 32).1) j := by
  rw [hx_1 h hc, hx_2 h hc]
  have hl := hw2_le h
  unfold sigP
  by_cases h61 : j = 61
  · subst h61
    rw [pk_us, if_neg (by decide), if_neg (by decide), if_neg (by decide), if_neg (by decide)]
  · rw [pk_un h61]
    by_cases h60 : j = 60
    · subst h60
      rw [pk_us, if_neg (by decide), if_neg (by decide), if_neg (by decide), if_pos rfl]
    · rw [pk_un h60]
      by_cases h8 : j < 8
      · rw [if_pos h8, seg_out _ _ (by omega), pkN_out _ _ 8 10 40 (by omega) 32 (by decide)]
        unfold w0P
        rw [if_pos h8]
      · rw [if_neg h8]
        by_cases h48 : j < 48
        · rw [if_pos h48, seg_out _ _ (by omega)]
          obtain ⟨i, rfl⟩ : ∃ i, j = 8 + i := ⟨j - 8, by omega⟩
          exact pc_eq (L := 40) (fun i hi => by unfold w0P; rw [if_neg (by omega)]; exact isB_0) (by decide) (by omega)
        · rw [if_neg h48, if_pos (by omega)]
          obtain ⟨i, rfl⟩ : ∃ i, j = 48 + i := ⟨j - 48, by omega⟩
          rw [show 48 + i - 48 = i by omega]
          by_cases hi : i < (hw2 h).1
          · rw [seg_in _ _ hi]
          · rw [seg_out _ _ (by omega), pkN_out _ _ 8 10 40 (by omega) 32 (by decide), hw2_z h i (by omega)]
            unfold w0P
            rw [if_neg (by omega)]
