-- PRODUCTS
def pA (f g : Nat → Int32) (i : Nat) : Nat → Int64
  | 0 => 0
  | j + 1 => if j ≤ i then pA f g i j + (f j).toInt64 * (g (i - j)).toInt64 else pA f g i j - (f j).toInt64 * (g (16 + i - j)).toInt64
theorem pA_lo (f g : Nat → Int32) {i j : Nat} (h : j ≤ i) : pA f g i (j + 1) = pA f g i j + (f j).toInt64 * (g (i - j)).toInt64 := by
  show (if _ then _ else _) = _
  rw [if_pos h]
theorem pA_hi (f g : Nat → Int32) {i j : Nat} (h : ¬ j ≤ i) : pA f g i (j + 1) = pA f g i j - (f j).toInt64 * (g (16 + i - j)).toInt64 := by
  show (if _ then _ else _) = _
  rw [if_neg h]
def shI (f : Nat → Int32) (k : Nat) : Nat → Int32 := fun j => f (k + j)
/-- matrix times vector: coefficient t of the two polynomials -/
def mmP (m v : Nat → Int32) (t : Nat) : Int32 := redP (pA (shI m (32 * (t / 16))) (shI v 0) (t % 16) 16 + pA (shI m (32 * (t / 16) + 16)) (shI v 16) (t % 16) 16)
/-- polynomial times vector -/
def mpP (c v : Nat → Int32) (t : Nat) : Int32 := redP (pA (shI c 0) (shI v (16 * (t / 16))) (t % 16) 16)
/-- both halves of a row, the first i places of each done -/
def hvS (F M0 : Nat → Int32) (i : Nat) : Nat → Int32 := fun j => if j < 32 ∧ j % 16 < i then F j else M0 j
theorem hvS_0 (F M0 : Nat → Int32) : hvS F M0 0 = M0 := by
  funext j
  unfold hvS
  rw [if_neg (by omega)]
theorem hvS_s (F M0 : Nat → Int32) {i : Nat} (hi : i < 16) : upd (upd (hvS F M0 i) i (F i)) (16 + i) (F (16 + i)) = hvS F M0 (i + 1) := by
  funext j
  by_cases h : j = 16 + i
  · subst h
    rw [pk_us]
    unfold hvS
    rw [if_pos (by omega)]
  · rw [pk_un h]
    by_cases h2 : j = i
    · subst h2
      rw [pk_us]
      unfold hvS
      rw [if_pos (by omega)]
    · rw [pk_un h2]
      unfold hvS
      by_cases h3 : j < 32 ∧ j % 16 < i
      · rw [if_pos h3, if_pos (by omega)]
      · rw [if_neg h3, if_neg (by omega)]
theorem hvS_e (F M0 : Nat → Int32) {j : Nat} (h : j < 32) : F j = hvS F M0 16 j := by
  unfold hvS
  rw [if_pos (by omega)]
