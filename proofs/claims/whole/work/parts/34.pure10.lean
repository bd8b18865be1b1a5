-- PRODUCTS AS THE REFERENCE HAS THEM
def xxP (f g : Nat → Int32) (by_ : Int32) (j k : Nat) : Int64 := ((f j).toInt64 * (g k).toInt64 - (f j).toInt64 * (g k).toInt64 / 8380417 * 8380417) * by_.toInt64
def apN (f g : Nat → Int32) (by_ : Int32) (S : Nat → Int64) (j k : Nat) : Nat → Int64 := fun i => if i < 16 ∧ (i + 16 - j) % 16 < k then (if j ≤ i then S i + xxP f g by_ j (i - j) else S i - xxP f g by_ j (16 + i - j)) else S i
theorem apN_0 (f g : Nat → Int32) (by_ : Int32) (S : Nat → Int64) (j : Nat) : apN f g by_ S j 0 = S := by
  funext i
  unfold apN
  rw [if_neg (by omega)]
theorem apN_lo (f g : Nat → Int32) (by_ : Int32) (S : Nat → Int64) {j k : Nat} (hj : j < 16) (hk : k < 16) (h : j + k < 16) : vp_updL (apN f g by_ S j k) ((j + k) % 16) (S ((j + k) % 16) + xxP f g by_ j k) = apN f g by_ S j (k + 1) := by
  funext i
  unfold vp_updL apN
  by_cases e : i = (j + k) % 16
  · subst e
    rw [if_pos rfl, if_pos (by omega), if_pos (by omega), show (j + k) % 16 - j = k by omega]
  · rw [if_neg e]
    by_cases h2 : i < 16 ∧ (i + 16 - j) % 16 < k
    · rw [if_pos h2, if_pos (show i < 16 ∧ (i + 16 - j) % 16 < k + 1 by omega)]
    · rw [if_neg h2, if_neg (show ¬ (i < 16 ∧ (i + 16 - j) % 16 < k + 1) by omega)]
theorem apN_hi (f g : Nat → Int32) (by_ : Int32) (S : Nat → Int64) {j k : Nat} (hj : j < 16) (hk : k < 16) (h : 16 ≤ j + k) : vp_updL (apN f g by_ S j k) ((j + k) % 16) (S ((j + k) % 16) - xxP f g by_ j k) = apN f g by_ S j (k + 1) := by
  funext i
  unfold vp_updL apN
  by_cases e : i = (j + k) % 16
  · subst e
    rw [if_pos rfl, if_pos (by omega), if_neg (by omega), show 16 + (j + k) % 16 - j = k by omega]
  · rw [if_neg e]
    by_cases h2 : i < 16 ∧ (i + 16 - j) % 16 < k
    · rw [if_pos h2, if_pos (show i < 16 ∧ (i + 16 - j) % 16 < k + 1 by omega)]
    · rw [if_neg h2, if_neg (show ¬ (i < 16 ∧ (i + 16 - j) % 16 < k + 1) by omega)]
theorem apN_ld (f g : Nat → Int32) (by_ : Int32) (S : Nat → Int64) {j k : Nat} (hj : j < 16) (hk : k < 16) : apN f g by_ S j k ((j + k) % 16) = S ((j + k) % 16) := by
  unfold apN
  rw [if_neg (by omega)]
def aN (f g : Nat → Int32) (by_ : Int32) (S0 : Nat → Int64) : Nat → Nat → Int64
  | 0 => S0
  | j + 1 => apN f g by_ (aN f g by_ S0 j) j 16
def z16 : Nat → Int64 := fun _ => 0
def maP (m x : Nat → Int32) (t : Nat) : Int32 := redP (aN (shI m (32 * (t / 16) + 16)) (shI x 16) (nI 1) (aN (shI m (32 * (t / 16))) (shI x 0) (nI 1) z16 16) 16 (t % 16))
def shP (c x : Nat → Int32) (by_ : Int32) (bs : Nat → Int32) (t : Nat) : Int32 := redP ((bs t).toInt64 + aN (shI c 0) (shI x (16 * (t / 16))) by_ z16 16 (t % 16))
theorem maP_at (m x : Nat → Int32) {i k : Nat} (hk : k < 16) : maP m x (16 * i + k) = redP (aN (shI m (32 * i + 16)) (shI x 16) (nI 1) (aN (shI m (32 * i)) (shI x 0) (nI 1) z16 16) 16 k) := by
  unfold maP
  rw [show (16 * i + k) / 16 = i by omega, show (16 * i + k) % 16 = k by omega]
theorem shP_at (c x : Nat → Int32) (by_ : Int32) (bs : Nat → Int32) {i k : Nat} (hk : k < 16) : shP c x by_ bs (16 * i + k) = redP ((bs (16 * i + k)).toInt64 + aN (shI c 0) (shI x (16 * i)) by_ z16 16 k) := by
  unfold shP
  rw [show (16 * i + k) / 16 = i by omega, show (16 * i + k) % 16 = k by omega]
def wrP (f : Nat → Int32) (lm : Int32) : Nat → Int32
  | 0 => nI 0
  | i + 1 => if (¬ wrP f lm i = nI 0) ∨ lm ≤ cenP (f i) ∨ cenP (f i) ≤ -lm then nI 1 else nI 0
theorem wrP_y {f : Nat → Int32} {lm : Int32} {i : Nat} (h : (¬ wrP f lm i = nI 0) ∨ lm ≤ cenP (f i) ∨ cenP (f i) ≤ -lm) : nI 1 = wrP f lm (i + 1) := by
  show _ = (if _ then _ else _)
  rw [if_pos h]
theorem wrP_n {f : Nat → Int32} {lm : Int32} {i : Nat} (h : ¬ ((¬ wrP f lm i = nI 0) ∨ lm ≤ cenP (f i) ∨ cenP (f i) ≤ -lm)) : nI 0 = wrP f lm (i + 1) := by
  show _ = (if _ then _ else _)
  rw [if_neg h]
theorem wrP_01 (f : Nat → Int32) (lm : Int32) (i : Nat) : wrP f lm i = 0 ∨ wrP f lm i = 1 := by
  cases i with
  | zero => exact Or.inl rfl
  | succ i =>
    by_cases h : (¬ wrP f lm i = nI 0) ∨ lm ≤ cenP (f i) ∨ cenP (f i) ≤ -lm
    · exact Or.inr (wrP_y h).symm
    · exact Or.inl (wrP_n h).symm
