theorem le_lt {n : Nat} (hn : n + 1 < 2 ^ 31) {i : Int32} : i ≤ nI n ↔ i < nI (n + 1) := by
  rw [Int32.le_iff_toInt_le, Int32.lt_iff_toInt_lt, nI_toInt (by omega), nI_toInt (by omega)]
  omega
