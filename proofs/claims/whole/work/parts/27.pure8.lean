theorem rgN {i : Int32} {n : Nat} (hn : n < 2 ^ 31) (h : 0 ≤ i ∧ i < nI n) : ∃ j, j < n ∧ i = nI j := by
  refine vp_in_of (fun z => z.elim (fun z => absurd z (Int32.not_lt.mpr h.1)) (fun z => ?_)) hn
  have t := Int32.lt_iff_toInt_lt.mp h.2
  rw [nI_toInt hn] at t
  have t0 := Int32.le_iff_toInt_le.mp h.1
  have t1 : i.toNatClampNeg = i.toInt.toNat := rfl
  rw [t1] at z
  have t2 : (0 : Int32).toInt = 0 := rfl
  omega
theorem rg_in {j n : Nat} (hj : j < n) (hn : n < 2 ^ 31) : 0 ≤ nI j ∧ nI j < nI n := ⟨nI_pos' (by omega), nI_lt hj hn⟩
-- A KEY
def kst (x : Int64) : Nat → Int32 := HS (lgB x) 8
def kA (x : Int64) : Nat → Int32 := matP (kst x)
def kS (x : Int64) : Nat → Int32 := smlP (shI (kst x) 8) 0
def kE (x : Int64) : Nat → Int32 := smlP (shI (kst x) 8) 2
def kT (x : Int64) : Nat → Int32 := t0P (kA x) (kS x) (kE x)
def kP (x : Int64) : Nat → Int32 := pubP (kst x) (upP (kA x) (kS x) (kE x))
def kK (x : Int64) : Nat → Int32 := shI (kst x) 16
def kR (x : Int64) : Nat → Int32 := HS (kP x) 68
theorem pub_eq {st p0 up : Nat → Int32} (hB : ∀ j, j < 68 → isB (p0 j)) {j : Nat} (hj : j < 68) : pubP st up j = pkN (segI st p0 8) up 8 15 32 j := by
  unfold pubP
  by_cases h8 : j < 8
  · rw [if_pos h8, pkN_out _ _ 8 15 60 (by omega) 32 (by decide), ← segI_e _ _ h8]
  · rw [if_neg h8]
    obtain ⟨i, rfl⟩ : ∃ i, j = 8 + i := ⟨j - 8, by omega⟩
    exact pc_eq (L := 60) (fun i hi => by rw [segI_ge _ _ (by omega)]; exact hB _ (by omega)) (by decide) (by omega)
theorem pub_isB {st up : Nat → Int32} (hB : ∀ j, j < 8 → isB (st j)) {j : Nat} (hj : j < 68) : isB (pubP st up j) := by
  unfold pubP
  by_cases h8 : j < 8
  · rw [if_pos h8]
    exact hB j h8
  · rw [if_neg h8]
    obtain ⟨i, rfl⟩ : ∃ i, j = 8 + i := ⟨j - 8, by omega⟩
    exact pc_isB _ (L := 60) (by decide) (by omega)
theorem kP_isB (x : Int64) {j : Nat} (hj : j < 68) : isB (kP x j) := pub_isB (fun j _ => HS_isB _ _ j) hj
-- A TRY OF SIGNING
def sMU (tr ms : Nat → Int32) (n : Nat) : Nat → Int32 := HS (apB tr 8 ms) (8 + n)
def sNU (ka : Nat → Int32) (w : Int64) (mu : Nat → Int32) : Nat → Int32 := HS (apB ka 8 (apB (lgB w) 8 mu)) 32
def tY (nu : Nat → Int32) (k : Nat) : Nat → Int32 := widP nu (2 * k)
def tW (m nu : Nat → Int32) (k : Nat) : Nat → Int32 := mmP m (tY nu k)
def tH (m nu : Nat → Int32) (k : Nat) : Nat → Int32 := pcP (fun i => hiP (tW m nu k i)) 0 12 32
def tSE (mu m nu : Nat → Int32) (k : Nat) : Nat → Int32 := HS (apB mu 16 (tH m nu k)) 64
def tC (mu m nu : Nat → Int32) (k : Nat) : Nat → Int32 := blP (HS (tSE mu m nu k) 8)
def tZ (mu m nu s : Nat → Int32) (k : Nat) : Nat → Int32 := zP (tY nu k) (tC mu m nu k) s
def tU (mu m nu e : Nat → Int32) (k : Nat) : Nat → Int32 := uP (tW m nu k) (tC mu m nu k) e
def tV (mu m nu t : Nat → Int32) (k : Nat) : Nat → Int32 := mpP (tC mu m nu k) t
def tOK (mu m nu s e t : Nat → Int32) (k : Nat) : Prop := szN (tZ mu m nu s k) 32 < nI 504 ∧ (∀ j, j < 32 → abI (loP (tU mu m nu e k j)) < nI 1015) ∧ szN (tV mu m nu t k) 32 < nI 1023 ∧ ctN (hnP (tU mu m nu e k) (tV mu m nu t k)) 32 ≤ nI 12
def tSG (mu m nu s e t : Nat → Int32) (k : Nat) : Nat → Int32 := sigP (tSE mu m nu k) (tZ mu m nu s k) (hnP (tU mu m nu e k) (tV mu m nu t k))
-- VERIFYING
def vSE (pb ms sn : Nat → Int32) (sg : Nat → Nat) (n : Nat) : Nat → Int32 := HS (apB (sMU (HS pb 68) ms n) 16 (pcP (crP (hRD sg) (matP pb) (rzP sn) (blP (HS sn 8)) (rtP pb)) 0 12 32)) 64
def vOK (pb ms sn : Nat → Int32) (sg : Nat → Nat) (n : Nat) : Prop := hOK sg ∧ szN (rzP sn) 32 < nI 504 ∧ ∀ j, j < 8 → vSE pb ms sn sg n j = sn j
