-- THE REFERENCE'S SAMPLES ARE THE SAME, MOD Q
theorem nI_or (a b : Nat) : nI a ||| nI b = nI (a ||| b) := by
  apply Int32.toBitVec_inj.1
  show BitVec.ofNat 32 a ||| BitVec.ofNat 32 b = BitVec.ofNat 32 (a ||| b)
  rw [BitVec.ofNat_or]
theorem un_eq {x y z : Int32} (hx : isB x) (hy : isB y) (hz : isB z) : (x + nI 256 * y) + nI 65536 * (z - z / nI 128 * nI 128) = (x ||| (y <<< (nI 8 &&& 31))) ||| ((z &&& nI 127) <<< (nI 16 &&& 31)) := by
  obtain ⟨a, ha, rfl⟩ := hx
  obtain ⟨b, hb, rfl⟩ := hy
  obtain ⟨c, hc, rfl⟩ := hz
  rw [pk_rem (by omega) (by decide) (by decide), pk_mul, pk_mul, nI_add, nI_add]
  have e1 : nI b <<< (nI 8 &&& 31) = nI (b * 2 ^ 8) := pk_shlN _ 8 (by decide) (by omega)
  have e2 : nI c &&& nI 127 = nI (c % 2 ^ 7) := pk_andN (by omega) 7 (by decide)
  have e3 : nI (c % 2 ^ 7) <<< (nI 16 &&& 31) = nI (c % 2 ^ 7 * 2 ^ 16) := pk_shlN _ 16 (by decide) (by omega)
  rw [e1, e2, e3, nI_or, nI_or]
  congr 1
  have h1 : a ||| b * 2 ^ 8 = 2 ^ 8 * b + a := by rw [Nat.two_pow_add_eq_or_of_lt (by omega), Nat.or_comm, Nat.mul_comm]
  have h2 : (2 ^ 8 * b + a) ||| (c % 2 ^ 7 * 2 ^ 16) = 2 ^ 16 * (c % 2 ^ 7) + (2 ^ 8 * b + a) := by rw [Nat.or_comm, Nat.mul_comm (c % 2 ^ 7), ← Nat.two_pow_add_eq_or_of_lt (i := 16) (show 2 ^ 8 * b + a < 2 ^ 16 by omega)]
  rw [h1, h2]
  omega
theorem sm_0 : ∀ a, a < 256 → nI (a % 16) = (nI a >>> (nI (4 * 0) &&& 31)) &&& nI 15 := by decide +kernel
theorem sm_1 : ∀ a, a < 256 → nI (a / 16) = (nI a >>> (nI (4 * 1) &&& 31)) &&& nI 15 := by decide +kernel
theorem sm_e {x : Int32} (h : isB x) : x - x / nI 16 * nI 16 = (x >>> (nI (4 * 0) &&& 31)) &&& nI 15 := by
  obtain ⟨a, ha, rfl⟩ := h
  rw [pk_rem (by omega) (by decide) (by decide)]
  exact sm_0 a ha
theorem sm_o {x : Int32} (h : isB x) : x / nI 16 = (x >>> (nI (4 * 1) &&& 31)) &&& nI 15 := by
  obtain ⟨a, ha, rfl⟩ := h
  rw [pk_div (by omega) (by decide) (by decide)]
  exact sm_1 a ha
theorem sm_15 (st : Nat → Int32) (t : Nat) : smN st t < nI 15 ↔ ¬ smN st t = nI 15 := by
  have h : smN st t = nI (lo4 (st (t / 2) >>> (nI (4 * (t % 2)) &&& 31))) := lo4_and _
  have hl := lo4_lt (st (t / 2) >>> (nI (4 * (t % 2)) &&& 31))
  rw [h, nI_ltI (by omega) (by decide), nI_eq (by omega) (by decide)]
  omega
theorem lo4_rem {x : Int32} (h : isB x) : x - x / nI 16 * nI 16 = nI (lo4 x) := by
  obtain ⟨a, ha, rfl⟩ := h
  rw [pk_rem (by omega) (by decide) (by decide)]
  unfold lo4
  rw [pk_tn (by omega)]
def rdF (f : Nat → Int32) : Nat → Int32 := fun j => redP (f j).toInt64
theorem redP_0 : redP (nI 0).toInt64 = nI 0 := by decide +kernel
theorem selN_map (ok : Nat → Bool) (val : Nat → Int32) : ∀ i, selN ok (fun t => redP (val t).toInt64) i = ((selN ok val i).1, rdF (selN ok val i).2)
  | 0 => by
    show (0, fun _ => (0 : Int32)) = (0, rdF (fun _ => 0))
    congr 1
    funext j
    exact redP_0.symm
  | i + 1 => by
    have ih := selN_map ok val i
    by_cases h : (selN ok val i).1 < 16 ∧ ok i = true
    · rw [selN_y (by rw [ih]; exact h.1) h.2, selN_y h.1 h.2, ih]
      congr 1
      funext j
      show (upd (rdF (selN ok val i).2) (selN ok val i).1 (redP (val i).toInt64)) j = redP ((upd (selN ok val i).2 (selN ok val i).1 (val i)) j).toInt64
      by_cases e : j = (selN ok val i).1
      · subst e
        rw [pk_us, pk_us]
      · rw [pk_un e, pk_un e]
        rfl
    · rw [selN_n (by rw [ih]; exact h), selN_n h, ih]
theorem seg_w (F M0 : Nat → Int32) (fm : Nat) {n t : Nat} (x : Int32) (h : n < t) : upd (seg F M0 fm t) (fm + n) x = seg (upd F n x) M0 fm t := by
  funext j
  unfold seg
  by_cases e : j = fm + n
  · subst e
    rw [pk_us, if_pos (by omega), show fm + n - fm = n by omega, pk_us]
  · rw [pk_un e]
    by_cases h2 : fm ≤ j ∧ j < fm + t
    · rw [if_pos h2, if_pos h2, pk_un (by omega)]
    · rw [if_neg h2, if_neg h2]
theorem rdF_at (F M : Nat → Int32) {fm j : Nat} (h : F j = M (fm + j)) : rdF F j = rdF M (fm + j) := by
  unfold rdF
  rw [h]
