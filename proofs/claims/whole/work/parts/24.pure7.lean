-- READING A SIGNATURE
def okP (sg : Nat → Nat) (fm n : Nat) : Prop := ∀ k, k < n → sg (48 + fm + k) < 16 ∧ (k = 0 ∨ sg (48 + fm + k - 1) < sg (48 + fm + k))
def rpN (h0 : Nat → Int32) (sg : Nat → Nat) (pf fm : Nat) : Nat → Nat → Int32
  | 0 => h0
  | n + 1 => upd (rpN h0 sg pf fm n) (pf + sg (48 + fm + n)) (nI 1)
def bfP (sg : Nat → Nat) (fm k : Nat) : Int32 := if k = 0 then -1 else nI (sg (48 + fm + k - 1))
theorem bf_le {sg : Nat → Nat} {fm k : Nat} (h1 : sg (48 + fm + k) < 256) (h2 : sg (48 + fm + k - 1) < 256) : nI (sg (48 + fm + k)) ≤ bfP sg fm k ↔ ¬ (k = 0 ∨ sg (48 + fm + k - 1) < sg (48 + fm + k)) := by
  unfold bfP
  by_cases hk : k = 0
  · rw [if_pos hk]
    constructor
    · intro h
      rw [Int32.le_iff_toInt_le, nI_toInt (by omega)] at h
      have : (-1 : Int32).toInt = -1 := by decide
      omega
    · exact fun h => absurd (Or.inl hk) h
  · rw [if_neg hk, nI_leI (by omega) (by omega)]
    constructor
    · intro h q
      rcases q with q | q
      · exact hk q
      · omega
    · intro h
      exact Nat.le_of_not_lt (fun q => h (Or.inr q))
def hOK (sg : Nat → Nat) : Prop := sg 60 ≤ sg 61 ∧ sg 61 ≤ 12 ∧ okP sg 0 (sg 60) ∧ okP sg (sg 60) (sg 61 - sg 60) ∧ ∀ k, sg 61 ≤ k → k < 12 → sg (48 + k) = 0
def hRD (sg : Nat → Nat) : Nat → Int32 := rpN (rpN (fun _ => nI 0) sg 0 0 (sg 60)) sg 16 (sg 60) (sg 61 - sg 60)
def rzP (s : Nat → Int32) (i : Nat) : Int32 := nI 512 - rdN s 8 (i * 10) 10
def rtP (p : Nat → Int32) (i : Nat) : Int32 := redP (nI 256 * rdN p 8 (i * 15) 15).toInt64
def crP (h m z c t : Nat → Int32) (i : Nat) : Int32 := corP (h i) (redP (mmP m z i - mpP c t i).toInt64)
