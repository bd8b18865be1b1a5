-- SAMPLES
def ctB (f : Nat → Int32) (cnt : Nat) (b : Int32) : Nat → Int32 := fun j => if j < cnt then f j else b
theorem ctB_lo (f : Nat → Int32) {cnt j : Nat} (b : Int32) (h : j < cnt) : ctB f cnt b j = f j := by
  unfold ctB
  rw [if_pos h]
theorem ctB_hi (f : Nat → Int32) (cnt : Nat) (b : Int32) : ctB f cnt b cnt = b := by
  unfold ctB
  rw [if_neg (Nat.lt_irrefl _)]
def unN (st : Nat → Int32) (t : Nat) : Int32 := (st (3 * t) ||| (st (3 * t + 1) <<< (nI 8 &&& 31))) ||| ((st (3 * t + 2) &&& nI 127) <<< (nI 16 &&& 31))
def unO (st : Nat → Int32) (t : Nat) : Bool := decide (unN st t < nI 8380417)
def unP (st : Nat → Int32) : Nat → Int32 := (selN (unO st) (unN st) 45).2
def smN (st : Nat → Int32) (t : Nat) : Int32 := (st (t / 2) >>> (nI (4 * (t % 2)) &&& 31)) &&& nI 15
def smO (st : Nat → Int32) (t : Nat) : Bool := decide (¬ smN st t = nI 15)
def smV (st : Nat → Int32) (t : Nat) : Int32 := nI 2 - (smN st t - smN st t / nI 5 * nI 5)
def smP (st : Nat → Int32) : Nat → Int32 := (selN (smO st) (smV st) 128).2
def wdP (st : Nat → Int32) (i : Nat) : Int32 := nI 512 - rdN st 0 (i * 10) 10
def lo4 (x : Int32) : Nat := x.toBitVec.toNat % 16
theorem lo4_lt (x : Int32) : lo4 x < 16 := Nat.mod_lt _ (by decide)
theorem lo4_and (x : Int32) : x &&& nI 15 = nI (lo4 x) := pk_and x 4 (by decide)
/-- the first place from n on, below 33, whose nibble is at most i, else the place behind -/
def skN (st : Nat → Int32) (i : Nat) : Nat → Nat → Nat
  | 0, n => n
  | f + 1, n => if n < 33 ∧ i < lo4 (st n) then skN st i f (n + 1) else n
def sk (st : Nat → Int32) (i n : Nat) : Nat := skN st i (33 - n) n
theorem sk_out {st : Nat → Int32} {i n : Nat} (h : ¬ (n < 33 ∧ i < lo4 (st n))) : sk st i n = n := by
  unfold sk
  cases 33 - n with
  | zero => rfl
  | succ f =>
    show (if _ then _ else _) = _
    rw [if_neg h]
theorem sk_go {st : Nat → Int32} {i n : Nat} (h1 : n < 33) (h2 : i < lo4 (st n)) : sk st i n = sk st i (n + 1) := by
  unfold sk
  rw [show 33 - n = (33 - (n + 1)) + 1 by omega]
  show (if _ then _ else _) = _
  rw [if_pos ⟨h1, h2⟩]
theorem skN_le (st : Nat → Int32) (i : Nat) : ∀ f n, n ≤ skN st i f n ∧ skN st i f n ≤ n + f
  | 0, n => ⟨Nat.le_refl _, Nat.le_refl _⟩
  | f + 1, n => by
    have ih := skN_le st i f (n + 1)
    show n ≤ (if _ then _ else _) ∧ (if _ then _ else _) ≤ n + (f + 1)
    by_cases h : n < 33 ∧ i < lo4 (st n)
    · rw [if_pos h]; omega
    · rw [if_neg h]; omega
theorem sk_le (st : Nat → Int32) (i n : Nat) : sk st i n ≤ 33 ∨ sk st i n = n := by
  by_cases h : n < 33
  · have := skN_le st i (33 - n) n
    unfold sk
    omega
  · exact Or.inr (sk_out (fun q => h q.1))
def jB (st : Nat → Int32) (q : Nat) : Nat := if q < 33 then lo4 (st q) else 0
def sgB (st : Nat → Int32) (t : Nat) : Int32 := if (st 0 >>> (nI t &&& 31)) &&& nI 1 = nI 1 then -1 else nI 1
def blN (st : Nat → Int32) : Nat → Nat × (Nat → Int32)
  | 0 => (1, fun _ => nI 0)
  | t + 1 => (sk st (12 + t) (blN st t).1 + 1, upd (upd (blN st t).2 (12 + t) ((blN st t).2 (jB st (sk st (12 + t) (blN st t).1)))) (jB st (sk st (12 + t) (blN st t).1)) (sgB st t))
def blP (st : Nat → Int32) : Nat → Int32 := (blN st 4).2
theorem blN_le (st : Nat → Int32) : ∀ t, (blN st t).1 ≤ 33 + t
  | 0 => show 1 ≤ 33 + 0 by decide
  | t + 1 => by
    have ih := blN_le st t
    have h := sk_le st (12 + t) (blN st t).1
    show sk st (12 + t) (blN st t).1 + 1 ≤ 33 + (t + 1)
    omega
theorem seg_segI {F M M0 : Nat → Int32} {fm t : Nat} (h : ∀ j, j < t → F j = M (fm + j)) : seg F (segI M M0 fm) fm t = segI M M0 (fm + t) := by
  funext j
  unfold seg segI
  by_cases h1 : fm ≤ j ∧ j < fm + t
  · rw [if_pos h1, if_pos h1.2, h _ (by omega), show fm + (j - fm) = j by omega]
  · rw [if_neg h1]
    by_cases h2 : j < fm
    · rw [if_pos h2, if_pos (by omega)]
    · rw [if_neg h2, if_neg (by omega)]
/-- four uniform polynomials, of rho -/
def matP (rho : Nat → Int32) (j : Nat) : Int32 := unP (HS (ctB rho 8 (nI (j / 16))) 9) (j % 16)
def smlP (sig : Nat → Int32) (last j : Nat) : Int32 := smP (HS (ctB sig 8 (nI (last + j / 16))) 9) (j % 16)
def widP (nu : Nat → Int32) (last j : Nat) : Int32 := wdP (HS (ctB nu 16 (nI (last + j / 16))) 17) (j % 16)
def apB (f : Nat → Int32) (a : Nat) (g : Nat → Int32) : Nat → Int32 := fun j => if j < a then f j else g (j - a)
theorem apB_lo (f : Nat → Int32) {a j : Nat} (g : Nat → Int32) (h : j < a) : apB f a g j = f j := by
  unfold apB
  rw [if_pos h]
theorem apB_hi (f : Nat → Int32) (a : Nat) (g : Nat → Int32) (j : Nat) : apB f a g (a + j) = g j := by
  unfold apB
  rw [if_neg (by omega), show a + j - a = j by omega]
