-- H, AS NUMBERS
def mixB (f : Nat → Int64) (i : Nat) (b : Int32) : Nat → Int64 := vp_updL f (i / 8) (f (i / 8) ^^^ (b.toInt64 <<< ((nI (8 * (i % 8))).toInt64 &&& 63)))
def absN (g : Nat → Int32) : Nat → Nat → Int64
  | 0 => fun _ => 0
  | k + 1 => mixB (absN g k) k (g k)
def rotJ (x : Int64) (d : Int32) : Int64 := (x <<< (d.toInt64 &&& 63)) ||| (x.toUInt64 >>> ((-d).toInt64.toUInt64 &&& Int64.toUInt64 63)).toInt64
def colP (L : Nat → Int64) (a : Nat) : Int64 := L a ^^^ L (a + 5) ^^^ L (a + 10) ^^^ L (a + 15) ^^^ L (a + 20)
def theP (L : Nat → Int64) (i : Nat) : Int64 := L i ^^^ (colP L ((i + 4) % 5) ^^^ rotJ (colP L ((i + 1) % 5)) (nI 1))
def srcP (j : Nat) : Nat := (3 * (j / 5) + j % 5) % 5 + 5 * (j % 5)
def movP (T : Nat → Int64) (j : Nat) : Int64 := rotJ (T (srcP j)) (rotT (srcP j))
def chiP (M : Nat → Int64) (j : Nat) : Int64 := M j ^^^ ((M (5 * (j / 5) + (j % 5 + 1) % 5) ^^^ (-1)) &&& M (5 * (j / 5) + (j % 5 + 2) % 5))
def rndP (r : Nat) (L : Nat → Int64) : Nat → Int64 := vp_updL (chiP (movP (theP L))) 0 (chiP (movP (theP L)) 0 ^^^ rcT r)
def prmP (L : Nat → Int64) : Nat → Nat → Int64
  | 0 => L
  | r + 1 => rndP r (prmP L r)
def padP (f : Nat → Int64) (n : Nat) : Nat → Int64 := mixB (mixB f n (nI 31)) 135 (nI 128)
def outP (L : Nat → Int64) (i : Nat) : Int32 := (((L (i / 8)).toUInt64 >>> ((nI (8 * (i % 8))).toInt64.toUInt64 &&& Int64.toUInt64 63)).toInt64).toInt32 &&& nI 255
/-- the stream of H of the first n bytes of g -/
def HS (g : Nat → Int32) (n : Nat) : Nat → Int32 := outP (prmP (padP (absN g n) n) 24)
theorem absN_ext {g g' : Nat → Int32} : ∀ (n : Nat), (∀ j, j < n → g j = g' j) → absN g n = absN g' n
  | 0, _ => rfl
  | n + 1, h => by
    show mixB (absN g n) n (g n) = mixB (absN g' n) n (g' n)
    rw [absN_ext n (fun j hj => h j (by omega)), h n (by omega)]
theorem HS_ext {g g' : Nat → Int32} {n : Nat} (h : ∀ j, j < n → g j = g' j) : HS g n = HS g' n := by
  unfold HS
  rw [absN_ext n h]
theorem src_dst : ∀ a, a < 5 → ∀ b, b < 5 → ∀ j, j < 25 → (srcP j = a + 5 * b ↔ j = b + 5 * ((2 * a + 3 * b) % 5)) := by decide +kernel
theorem src_lt : ∀ j, j < 25 → srcP j < 25 := by decide +kernel
/-- the moved lanes, when the first t are done -/
def mvS (T M0 : Nat → Int64) (t : Nat) : Nat → Int64 := fun j => if j < 25 ∧ srcP j < t then movP T j else M0 j
theorem mvS_0 (T M0 : Nat → Int64) : mvS T M0 0 = M0 := by
  funext j
  unfold mvS
  rw [if_neg (by omega)]
theorem mvS_s (T M0 : Nat → Int64) {a b : Nat} (ha : a < 5) (hb : b < 5) : vp_updL (mvS T M0 (a + 5 * b)) (b + 5 * ((2 * a + 3 * b) % 5)) (rotJ (T (a + 5 * b)) (rotT (a + 5 * b))) = mvS T M0 (a + 5 * b + 1) := by
  funext j
  unfold vp_updL mvS
  by_cases hj : j < 25
  · by_cases h : j = b + 5 * ((2 * a + 3 * b) % 5)
    · have hs := (src_dst a ha b hb j hj).mpr h
      rw [if_pos h, if_pos ⟨hj, by omega⟩]
      unfold movP
      rw [hs]
    · have hs : ¬ srcP j = a + 5 * b := fun q => h ((src_dst a ha b hb j hj).mp q)
      rw [if_neg h]
      by_cases h2 : srcP j < a + 5 * b
      · rw [if_pos ⟨hj, h2⟩, if_pos ⟨hj, by omega⟩]
      · rw [if_neg (fun q => h2 q.2), if_neg (fun q => by omega)]
  · have h : ¬ j = b + 5 * ((2 * a + 3 * b) % 5) := by omega
    rw [if_neg h, if_neg (fun q => hj q.1), if_neg (fun q => hj q.1)]
theorem mvS_e (T M0 : Nat → Int64) {j : Nat} (hj : j < 25) : movP T j = mvS T M0 25 j := by
  unfold mvS
  rw [if_pos ⟨hj, src_lt j hj⟩]
/-- a row whose first t places are done -/
def segL (F M0 : Nat → Int64) (t : Nat) : Nat → Int64 := fun j => if j < t then F j else M0 j
theorem segL_0 (F M0 : Nat → Int64) : segL F M0 0 = M0 := by
  funext j
  unfold segL
  rw [if_neg (by omega)]
theorem segL_s (F M0 : Nat → Int64) (t : Nat) : vp_updL (segL F M0 t) t (F t) = segL F M0 (t + 1) := by
  funext j
  unfold vp_updL segL
  by_cases h : j = t
  · subst h
    rw [if_pos rfl, if_pos (by omega)]
  · rw [if_neg h]
    by_cases h2 : j < t
    · rw [if_pos h2, if_pos (by omega)]
    · rw [if_neg h2, if_neg (by omega)]
theorem segL_e (F M0 : Nat → Int64) {t j : Nat} (hj : j < t) : F j = segL F M0 t j := by
  unfold segL
  rw [if_pos hj]
theorem segL_ge (F M0 : Nat → Int64) {t j : Nat} (hj : t ≤ j) : segL F M0 t j = M0 j := by
  unfold segL
  rw [if_neg (by omega)]
def segI (F M0 : Nat → Int32) (t : Nat) : Nat → Int32 := fun j => if j < t then F j else M0 j
theorem segI_0 (F M0 : Nat → Int32) : segI F M0 0 = M0 := by
  funext j
  unfold segI
  rw [if_neg (by omega)]
theorem segI_s (F M0 : Nat → Int32) (t : Nat) : upd (segI F M0 t) t (F t) = segI F M0 (t + 1) := by
  funext j
  unfold upd segI
  by_cases h : j = t
  · subst h
    rw [if_pos rfl, if_pos (by omega)]
  · rw [if_neg h]
    by_cases h2 : j < t
    · rw [if_pos h2, if_pos (by omega)]
    · rw [if_neg h2, if_neg (by omega)]
theorem segI_e (F M0 : Nat → Int32) {t j : Nat} (hj : j < t) : F j = segI F M0 t j := by
  unfold segI
  rw [if_pos hj]
theorem segI_ge (F M0 : Nat → Int32) {t j : Nat} (hj : t ≤ j) : segI F M0 t j = M0 j := by
  unfold segI
  rw [if_neg (by omega)]
