-- POLYNOMIALS OUT OF BYTES: the first sixteen that fit
def selN (ok : Nat → Bool) (val : Nat → Int32) : Nat → Nat × (Nat → Int32)
  | 0 => (0, fun _ => 0)
  | i + 1 => if (selN ok val i).1 < 16 ∧ ok i = true then ((selN ok val i).1 + 1, upd (selN ok val i).2 (selN ok val i).1 (val i)) else selN ok val i
theorem selN_y {ok : Nat → Bool} {val : Nat → Int32} {i : Nat} (h : (selN ok val i).1 < 16) (h2 : ok i = true) : selN ok val (i + 1) = ((selN ok val i).1 + 1, upd (selN ok val i).2 (selN ok val i).1 (val i)) := by
  show (if _ then _ else _) = _
  rw [if_pos ⟨h, h2⟩]
theorem selN_n {ok : Nat → Bool} {val : Nat → Int32} {i : Nat} (h : ¬ ((selN ok val i).1 < 16 ∧ ok i = true)) : selN ok val (i + 1) = selN ok val i := by
  show (if _ then _ else _) = _
  rw [if_neg h]
theorem selN_le (ok : Nat → Bool) (val : Nat → Int32) : ∀ i, (selN ok val i).1 ≤ 16
  | 0 => Nat.zero_le _
  | i + 1 => by
    have ih := selN_le ok val i
    by_cases h : (selN ok val i).1 < 16 ∧ ok i = true
    · rw [selN_y h.1 h.2]
      show (selN ok val i).1 + 1 ≤ 16
      omega
    · rw [selN_n h]
      exact ih
theorem selN_z (ok : Nat → Bool) (val : Nat → Int32) : ∀ i j, (selN ok val i).1 ≤ j → (selN ok val i).2 j = 0
  | 0, j, _ => rfl
  | i + 1, j, hj => by
    have ih := selN_z ok val i
    by_cases h : (selN ok val i).1 < 16 ∧ ok i = true
    · rw [selN_y h.1 h.2] at hj ⊢
      have hj : (selN ok val i).1 + 1 ≤ j := hj
      show upd (selN ok val i).2 (selN ok val i).1 (val i) j = 0
      rw [pk_un (by omega)]
      exact ih j (by omega)
    · rw [selN_n h] at hj ⊢
      exact ih j hj
theorem selN_full {ok : Nat → Bool} {val : Nat → Int32} {i : Nat} (h : ¬ (selN ok val i).1 < 16) : ∀ n, selN ok val (i + n) = selN ok val i
  | 0 => rfl
  | n + 1 => by
    have ih := selN_full h n
    have h2 : ¬ ((selN ok val (i + n)).1 < 16 ∧ ok (i + n) = true) := by
      rw [ih]
      exact fun q => h q.1
    exact (selN_n h2).trans ih
/-- t places of a row from a place on -/
def seg (F M0 : Nat → Int32) (fm t : Nat) : Nat → Int32 := fun j => if fm ≤ j ∧ j < fm + t then F (j - fm) else M0 j
theorem seg_0 (F M0 : Nat → Int32) (fm : Nat) : seg F M0 fm 0 = M0 := by
  funext j
  unfold seg
  rw [if_neg (by omega)]
theorem seg_u (F M0 : Nat → Int32) (fm t : Nat) (x : Int32) : upd (seg F M0 fm t) (fm + t) x = seg (upd F t x) M0 fm (t + 1) := by
  funext j
  unfold seg
  by_cases h : j = fm + t
  · subst h
    rw [pk_us, if_pos (by omega), show fm + t - fm = t by omega, pk_us]
  · rw [pk_un h]
    by_cases h2 : fm ≤ j ∧ j < fm + t
    · rw [if_pos h2, if_pos (by omega), pk_un (by omega)]
    · rw [if_neg h2, if_neg (by omega)]
theorem seg_s (F M0 : Nat → Int32) (fm t : Nat) : upd (seg F M0 fm t) (fm + t) (F t) = seg F M0 fm (t + 1) := by
  rw [seg_u]
  funext j
  unfold seg
  by_cases h2 : fm ≤ j ∧ j < fm + (t + 1)
  · rw [if_pos h2, if_pos h2]
    by_cases h3 : j - fm = t
    · rw [h3, pk_us]
    · rw [pk_un h3]
  · rw [if_neg h2, if_neg h2]
theorem seg_in (F M0 : Nat → Int32) {fm t j : Nat} (h : j < t) : seg F M0 fm t (fm + j) = F j := by
  unfold seg
  rw [if_pos (by omega), show fm + j - fm = j by omega]
theorem seg_out (F M0 : Nat → Int32) {fm t j : Nat} (h : j < fm ∨ fm + t ≤ j) : seg F M0 fm t j = M0 j := by
  unfold seg
  rw [if_neg (by omega)]
-- NUMBERS OF SOME BITS
def rdN (f : Nat → Int32) (fm at_ : Nat) : Nat → Int32
  | 0 => nI 0
  | k + 1 => rdN f fm at_ k ||| (((f (fm + (at_ + k) / 8) >>> (nI ((at_ + k) % 8) &&& 31)) &&& nI 1) <<< (nI k &&& 31))
def wrB (x : Int32) (k m : Nat) (b : Int32) : Int32 := if (x >>> (nI k &&& 31)) &&& nI 1 = nI 1 then b ||| (nI 1 <<< (nI m &&& 31)) else b &&& ((nI 1 <<< (nI m &&& 31)) ^^^ (-1))
def wrN (f : Nat → Int32) (fm at_ : Nat) (x : Int32) : Nat → Nat → Int32
  | 0 => f
  | k + 1 => upd (wrN f fm at_ x k) (fm + (at_ + k) / 8) (wrB x k ((at_ + k) % 8) (wrN f fm at_ x k (fm + (at_ + k) / 8)))
-- ROUNDING
def rsP (r st : Int32) : Int32 := if st / nI 2 < r - r / st * st then (r - r / st * st) - st else r - r / st * st
def hiP (r : Int32) : Int32 := if r - rsP r (nI 2046) = nI 8380416 then nI 0 else (r - rsP r (nI 2046)) / nI 2046
def loP (r : Int32) : Int32 := if r - rsP r (nI 2046) = nI 8380416 then rsP r (nI 2046) - nI 1 else rsP r (nI 2046)
def redP (x : Int64) : Int32 := (if x - x / 8380417 * 8380417 < 0 then x - x / 8380417 * 8380417 + 8380417 else x - x / 8380417 * 8380417).toInt32
def cenP (r : Int32) : Int32 := if nI 4190208 < r then r - nI 8380417 else r
def hinP (z : Int64) (r : Int32) : Int32 := if hiP r = hiP (redP (r.toInt64 + z)) then nI 0 else nI 1
def corP (h r : Int32) : Int32 := if h = nI 0 then hiP r else (hiP r + (if nI 0 < loP r then nI 1 else nI 4095)) - (hiP r + (if nI 0 < loP r then nI 1 else nI 4095)) / nI 4096 * nI 4096
