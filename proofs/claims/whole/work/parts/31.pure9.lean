-- THE REFERENCE'S H IS THE SAME
theorem sh_a : ∀ i, i < 8 → ((((nI (8 * i)).toInt64 &&& 63).toBitVec).smod 64).toNat = 8 * i := by decide +kernel
theorem sh_b : ∀ i, i < 8 → (((nI (8 * i)).toInt64.toUInt64 &&& Int64.toUInt64 63).toBitVec % 64).toNat = 8 * i := by decide +kernel
theorem b255_hi : ∀ k, k < 32 → 8 ≤ k → (nI 255).toBitVec.getLsbD k = false := by decide +kernel
theorem byte_eq (x : Int64) {i : Nat} (hi : i < 8) : ((x >>> ((nI (8 * i)).toInt64 &&& 63)) &&& 255).toInt32 = ((x.toUInt64 >>> ((nI (8 * i)).toInt64.toUInt64 &&& Int64.toUInt64 63)).toInt64).toInt32 &&& nI 255 := by
  rw [Int64.toInt32_and, show (255 : Int64).toInt32 = nI 255 by decide]
  apply Int32.toBitVec_inj.mp
  rw [Int32.toBitVec_and, Int32.toBitVec_and]
  apply BitVec.eq_of_getLsbD_eq
  intro k hk
  rw [BitVec.getLsbD_and, BitVec.getLsbD_and]
  by_cases h8 : k < 8
  · have e1 := sh_a i hi
    have e2 := sh_b i hi
    have l : (x >>> ((nI (8 * i)).toInt64 &&& 63)).toInt32.toBitVec.getLsbD k = x.toBitVec.getLsbD (8 * i + k) := by
      rw [Int64.toBitVec_toInt32, BitVec.signExtend_eq_setWidth_of_le _ (by decide), BitVec.getLsbD_setWidth, Int64.toBitVec_shiftRight, BitVec.getLsbD_sshiftRight', e1, if_pos (by omega)]
      have : ¬ 64 ≤ k := by omega
      simp [hk, this]
    have r : ((x.toUInt64 >>> ((nI (8 * i)).toInt64.toUInt64 &&& Int64.toUInt64 63)).toInt64).toInt32.toBitVec.getLsbD k = x.toBitVec.getLsbD (8 * i + k) := by
      rw [Int64.toBitVec_toInt32, BitVec.signExtend_eq_setWidth_of_le _ (by decide), BitVec.getLsbD_setWidth, UInt64.toBitVec_toInt64, UInt64.toBitVec_shiftRight, Int64.toBitVec_toUInt64, BitVec.ushiftRight_eq', BitVec.getLsbD_ushiftRight, e2]
      simp [hk]
    rw [l, r]
  · rw [b255_hi k hk (by omega), Bool.and_false, Bool.and_false]
theorem rot_sh : ∀ r, r < 64 → r ≠ 0 → ((nI 64 - nI r).toInt64.toUInt64 &&& Int64.toUInt64 63) = ((-nI r).toInt64.toUInt64 &&& Int64.toUInt64 63) := by decide +kernel
theorem rotJ_0 (x : Int64) : rotJ x (nI 0) = x := by
  unfold rotJ
  rw [show (nI 0).toInt64 &&& 63 = 0 by decide, show ((-nI 0).toInt64.toUInt64 &&& Int64.toUInt64 63) = 0 by decide]
  simp
theorem rotJ_r (x : Int64) {r : Nat} (hr : r < 64) (h0 : r ≠ 0) : (x <<< ((nI r).toInt64 &&& 63)) ||| (x.toUInt64 >>> ((nI 64 - nI r).toInt64.toUInt64 &&& Int64.toUInt64 63)).toInt64 = rotJ x (nI r) := by
  unfold rotJ
  rw [rot_sh r hr h0]
def cR (L : Nat → Int64) (a : Nat) : Nat → Int64
  | 0 => 0
  | b + 1 => cR L a b ^^^ L (a + 5 * b)
theorem cR_5 (L : Nat → Int64) (a : Nat) : cR L a 5 = colP L a := by
  show 0 ^^^ L (a + 5 * 0) ^^^ L (a + 5 * 1) ^^^ L (a + 5 * 2) ^^^ L (a + 5 * 3) ^^^ L (a + 5 * 4) = _
  unfold colP
  rw [Int64.zero_xor]
  rfl
theorem updL_updL (f : Nat → Int64) (k : Nat) (u v : Int64) : vp_updL (vp_updL f k u) k v = vp_updL f k v := by
  funext j
  unfold vp_updL
  by_cases h : j = k
  · rw [if_pos h, if_pos h]
  · rw [if_neg h, if_neg h, if_neg h]
theorem the_at (L : Nat → Int64) {a b : Nat} : L (a + 5 * b) ^^^ colP L ((a + 4) % 5) ^^^ rotJ (colP L ((a + 1) % 5)) (nI 1) = theP L (a + 5 * b) := by
  unfold theP
  rw [show (a + 5 * b + 4) % 5 = (a + 4) % 5 by omega, show (a + 5 * b + 1) % 5 = (a + 1) % 5 by omega, Int64.xor_assoc]
/-- moved lanes in the reference's order -/
def mvR (T M0 : Nat → Int64) (t : Nat) : Nat → Int64 := fun j => if j < 25 ∧ srcP j % 5 * 5 + srcP j / 5 < t then movP T j else M0 j
theorem mvR_0 (T M0 : Nat → Int64) : mvR T M0 0 = M0 := by
  funext j
  unfold mvR
  rw [if_neg (by omega)]
theorem mvR_s (T M0 : Nat → Int64) {a b : Nat} (ha : a < 5) (hb : b < 5) : vp_updL (mvR T M0 (a * 5 + b)) (b + 5 * ((2 * a + 3 * b) % 5)) (rotJ (T (a + 5 * b)) (rotT (a + 5 * b))) = mvR T M0 (a * 5 + b + 1) := by
  funext j
  unfold vp_updL mvR
  by_cases hj : j < 25
  · have hsl := src_lt j hj
    by_cases h : j = b + 5 * ((2 * a + 3 * b) % 5)
    · have hs := (src_dst a ha b hb j hj).mpr h
      rw [if_pos h, if_pos ⟨hj, by omega⟩]
      unfold movP
      rw [hs]
    · have hs : ¬ srcP j = a + 5 * b := fun q => h ((src_dst a ha b hb j hj).mp q)
      rw [if_neg h]
      by_cases h2 : srcP j % 5 * 5 + srcP j / 5 < a * 5 + b
      · rw [if_pos ⟨hj, h2⟩, if_pos ⟨hj, by omega⟩]
      · rw [if_neg (fun q => h2 q.2), if_neg (fun q => by omega)]
  · have h : ¬ j = b + 5 * ((2 * a + 3 * b) % 5) := by omega
    rw [if_neg h, if_neg (fun q => hj q.1), if_neg (fun q => hj q.1)]
theorem mvR_e (T M0 : Nat → Int64) {j : Nat} (hj : j < 25) : movP T j = mvR T M0 25 j := by
  unfold mvR
  have := src_lt j hj
  rw [if_pos ⟨hj, by omega⟩]
def chR (F L0 : Nat → Int64) (t : Nat) : Nat → Int64 := fun j => if j < 25 ∧ j % 5 * 5 + j / 5 < t then F j else L0 j
theorem chR_0 (F L0 : Nat → Int64) : chR F L0 0 = L0 := by
  funext j
  unfold chR
  rw [if_neg (by omega)]
theorem chR_s (F L0 : Nat → Int64) {a b : Nat} (ha : a < 5) (hb : b < 5) : vp_updL (chR F L0 (a * 5 + b)) (a + 5 * b) (F (a + 5 * b)) = chR F L0 (a * 5 + b + 1) := by
  funext j
  unfold vp_updL chR
  by_cases h : j = a + 5 * b
  · rw [if_pos h, if_pos (by omega), h]
  · rw [if_neg h]
    by_cases h2 : j < 25 ∧ j % 5 * 5 + j / 5 < a * 5 + b
    · rw [if_pos h2, if_pos (by omega)]
    · rw [if_neg h2, if_neg (by omega)]
theorem chR_e (F L0 : Nat → Int64) {j : Nat} (hj : j < 25) : F j = chR F L0 25 j := by
  unfold chR
  rw [if_pos (by omega)]
theorem chi_at2 (M : Nat → Int64) {a b : Nat} (ha : a < 5) : chiP M (a + 5 * b) = M (a + 5 * b) ^^^ ((M ((a + 1) % 5 + 5 * b) ^^^ (-1)) &&& M ((a + 2) % 5 + 5 * b)) := by
  unfold chiP
  rw [show (a + 5 * b) / 5 = b by omega, show (a + 5 * b) % 5 = a by omega, Nat.add_comm (5 * b), Nat.add_comm (5 * b)]
theorem rotN_lt : ∀ i, i < 25 → rotN.getD i 0 < 64 := by decide +kernel
