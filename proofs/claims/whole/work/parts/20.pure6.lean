-- BYTES AND THEIR BITS
def isB (x : Int32) : Prop := ∃ a : Nat, a < 256 ∧ x = nI a
theorem isB_0 : isB (nI 0) := ⟨0, by decide, rfl⟩
def lbt (x : Int32) (b : Nat) : Bool := x.toBitVec.toNat.testBit b
theorem lbt_nI {a : Nat} (h : a < 256) (b : Nat) : lbt (nI a) b = a.testBit b := by
  unfold lbt
  rw [pk_tn (by omega)]
theorem set_n : ∀ a, a < 256 → ∀ m, m < 8 → nI a ||| (nI 1 <<< (nI m &&& 31)) = nI (a ||| 2 ^ m) := by decide +kernel
theorem clr_n : ∀ a, a < 256 → ∀ m, m < 8 → nI a &&& ((nI 1 <<< (nI m &&& 31)) ^^^ (-1)) = nI (a &&& (255 - 2 ^ m)) := by decide +kernel
theorem set_lt : ∀ a, a < 256 → ∀ m, m < 8 → a ||| 2 ^ m < 256 := by decide +kernel
theorem clr_t : ∀ m, m < 8 → ∀ b, b < 8 → (255 - 2 ^ m).testBit b = !decide (b = m) := by decide +kernel
def cdB (x : Int32) (k : Nat) : Bool := decide ((x >>> (nI k &&& 31)) &&& nI 1 = nI 1)
theorem wrB_bit (x : Int32) (k : Nat) {m : Nat} {y : Int32} (hy : isB y) (hm : m < 8) : isB (wrB x k m y) ∧ ∀ b, b < 8 → lbt (wrB x k m y) b = if b = m then cdB x k else lbt y b := by
  obtain ⟨a, ha, rfl⟩ := hy
  unfold wrB cdB
  by_cases h : (x >>> (nI k &&& 31)) &&& nI 1 = nI 1
  · rw [if_pos h, set_n a ha m hm]
    have hl := set_lt a ha m hm
    refine ⟨⟨_, hl, rfl⟩, fun b hb => ?_⟩
    rw [lbt_nI hl, lbt_nI ha, Nat.testBit_or, Nat.testBit_two_pow]
    by_cases hbm : b = m
    · subst hbm
      simp [h]
    · rw [if_neg hbm]
      simp [Ne.symm hbm]
  · rw [if_neg h, clr_n a ha m hm]
    have hl : a &&& (255 - 2 ^ m) < 256 := Nat.lt_of_le_of_lt Nat.and_le_left ha
    refine ⟨⟨_, hl, rfl⟩, fun b hb => ?_⟩
    rw [lbt_nI hl, lbt_nI ha, Nat.testBit_and, clr_t m hm b hb]
    by_cases hbm : b = m
    · subst hbm
      simp [h]
    · rw [if_neg hbm]
      simp [hbm]
theorem isB_eq {x y : Int32} (hx : isB x) (hy : isB y) (h : ∀ b, b < 8 → lbt x b = lbt y b) : x = y := by
  obtain ⟨a, ha, rfl⟩ := hx
  obtain ⟨c, hc, rfl⟩ := hy
  have e : a = c := by
    apply Nat.eq_of_testBit_eq
    intro b
    by_cases hb : b < 8
    · have := h b hb
      rw [lbt_nI ha, lbt_nI hc] at this
      exact this
    · have h2 : 2 ^ 8 ≤ 2 ^ b := Nat.pow_le_pow_right (by decide) (by omega)
      rw [Nat.testBit_lt_two_pow (Nat.lt_of_lt_of_le ha h2), Nat.testBit_lt_two_pow (Nat.lt_of_lt_of_le hc h2)]
  rw [e]
def bitP (v : Nat → Int32) (bt t : Nat) : Bool := cdB (v (t / bt)) (t % bt)
def BI (f0 f v : Nat → Int32) (fm bt L T : Nat) : Prop := ∀ j, j < L → isB (f (fm + j)) ∧ ∀ b, b < 8 → lbt (f (fm + j)) b = if 8 * j + b < T then bitP v bt (8 * j + b) else lbt (f0 (fm + j)) b
theorem BI_wr {f0 f v : Nat → Int32} {fm bt L T : Nat} (h : BI f0 f v fm bt L T) (hT : T < 8 * L) : BI f0 (upd f (fm + T / 8) (wrB (v (T / bt)) (T % bt) (T % 8) (f (fm + T / 8)))) v fm bt L (T + 1) := by
  intro j hj
  by_cases hjT : j = T / 8
  · subst hjT
    rw [pk_us]
    obtain ⟨h1, h2⟩ := h (T / 8) hj
    obtain ⟨w1, w2⟩ := wrB_bit (v (T / bt)) (T % bt) h1 (Nat.mod_lt T (show 0 < 8 by decide))
    refine ⟨w1, fun b hb => ?_⟩
    rw [w2 b hb]
    by_cases hbm : b = T % 8
    · rw [if_pos hbm, if_pos (by omega), show 8 * (T / 8) + b = T by omega]
      rfl
    · rw [if_neg hbm, h2 b hb]
      by_cases h3 : 8 * (T / 8) + b < T
      · rw [if_pos h3, if_pos (by omega)]
      · rw [if_neg h3, if_neg (by omega)]
  · rw [pk_un (by omega)]
    obtain ⟨h1, h2⟩ := h j hj
    refine ⟨h1, fun b hb => ?_⟩
    rw [h2 b hb]
    by_cases h3 : 8 * j + b < T
    · rw [if_pos h3, if_pos (by omega)]
    · rw [if_neg h3, if_neg (by omega)]
theorem BI_wrN {f0 f v : Nat → Int32} {fm bt L i : Nat} (h : BI f0 f v fm bt L (i * bt)) : ∀ k, k ≤ bt → i * bt + k ≤ 8 * L → BI f0 (wrN f fm (i * bt) (v i) k) v fm bt L (i * bt + k)
  | 0, _, _ => h
  | k + 1, hk, hL => by
    have ih := BI_wrN h k (by omega) (by omega)
    have hd : (i * bt + k) / bt = i := by rw [Nat.mul_comm, Nat.mul_add_div (by omega), Nat.div_eq_of_lt (by omega), Nat.add_zero]
    have hm : (i * bt + k) % bt = k := by rw [Nat.mul_comm, Nat.mul_add_mod, Nat.mod_eq_of_lt (by omega)]
    have hw := BI_wr ih (by omega)
    rw [hd, hm] at hw
    exact hw
theorem BI_pkN {f v : Nat → Int32} {fm bt L : Nat} (hf : ∀ j, j < L → isB (f (fm + j))) : ∀ i, i * bt ≤ 8 * L → BI f (pkN f v fm bt i) v fm bt L (i * bt)
  | 0, _ => fun j hj => ⟨hf j hj, fun b _ => by rw [if_neg (by omega)]; rfl⟩
  | i + 1, h => by
    have e : (i + 1) * bt = i * bt + bt := Nat.succ_mul i bt
    rw [e] at h ⊢
    exact BI_wrN (BI_pkN hf i (by omega)) bt (Nat.le_refl _) h
theorem pk_eq2 {f f' v : Nat → Int32} {fm bt L n : Nat} (hf : ∀ j, j < L → isB (f (fm + j))) (hf' : ∀ j, j < L → isB (f' (fm + j))) (h : n * bt = 8 * L) {j : Nat} (hj : j < L) : pkN f v fm bt n (fm + j) = pkN f' v fm bt n (fm + j) := by
  have h1 := BI_pkN (v := v) (bt := bt) hf n (by omega) j hj
  have h2 := BI_pkN (v := v) (bt := bt) hf' n (by omega) j hj
  refine isB_eq h1.1 h2.1 (fun b hb => ?_)
  rw [h1.2 b hb, h2.2 b hb, if_pos (by omega), if_pos (by omega)]
theorem pk_isB {f v : Nat → Int32} {fm bt L n : Nat} (hf : ∀ j, j < L → isB (f (fm + j))) (h : n * bt ≤ 8 * L) {j : Nat} (hj : j < L) : isB (pkN f v fm bt n (fm + j)) := (BI_pkN (v := v) (bt := bt) hf n h j hj).1
theorem wrN_out (f : Nat → Int32) (fm at_ : Nat) (x : Int32) (L : Nat) {j : Nat} (hj : j < fm ∨ fm + L ≤ j) : ∀ k, at_ + k ≤ 8 * L → wrN f fm at_ x k j = f j
  | 0, _ => rfl
  | k + 1, h => by
    show upd _ _ _ j = _
    rw [pk_un (by omega)]
    exact wrN_out f fm at_ x L hj k (by omega)
theorem pkN_out (f v : Nat → Int32) (fm bt L : Nat) {j : Nat} (hj : j < fm ∨ fm + L ≤ j) : ∀ n, n * bt ≤ 8 * L → pkN f v fm bt n j = f j
  | 0, _ => rfl
  | n + 1, h => by
    have e : (n + 1) * bt = n * bt + bt := Nat.succ_mul n bt
    rw [e] at h
    show wrN _ _ _ _ _ j = _
    rw [wrN_out _ _ _ _ L hj bt h]
    exact pkN_out f v fm bt L hj n (by omega)
/-- numbers packed into clean bytes -/
def pcP (v : Nat → Int32) (fm bt n : Nat) : Nat → Int32 := pkN (fun _ => nI 0) v fm bt n
theorem pc_isB (v : Nat → Int32) {fm bt n L j : Nat} (h : n * bt ≤ 8 * L) (hj : j < L) : isB (pcP v fm bt n (fm + j)) := pk_isB (fun _ _ => isB_0) h hj
theorem pc_eq {f v : Nat → Int32} {fm bt L n : Nat} (hf : ∀ j, j < L → isB (f (fm + j))) (h : n * bt = 8 * L) {j : Nat} (hj : j < L) : pcP v fm bt n (fm + j) = pkN f v fm bt n (fm + j) := pk_eq2 (fun _ _ => isB_0) hf h hj
theorem pc_eq0 {f v : Nat → Int32} {bt L n : Nat} (hf : ∀ j, j < L → isB (f j)) (h : n * bt = 8 * L) {j : Nat} (hj : j < L) : pcP v 0 bt n j = pkN f v 0 bt n j := by
  have e := pc_eq (f := f) (v := v) (fm := 0) (fun j hj => by rw [Nat.zero_add]; exact hf j hj) h hj
  rw [Nat.zero_add] at e
  exact e
theorem isB_and (x : Int32) : isB (x &&& nI 255) := by
  refine ⟨x.toBitVec.toNat % 2 ^ 8, Nat.mod_lt _ (by decide), ?_⟩
  exact pk_and x 8 (by decide)
theorem HS_isB (g : Nat → Int32) (n j : Nat) : isB (HS g n j) := isB_and _
-- A TRY
def zP (y c s : Nat → Int32) (i : Nat) : Int32 := redP (y i + mpP c s i).toInt64
def uP (w c e : Nat → Int32) (i : Nat) : Int32 := redP (w i - mpP c e i).toInt64
def hnP (u v : Nat → Int32) (i : Nat) : Int32 := hinP (-(v i)).toInt64 (redP (u i + v i).toInt64)
def ctN (h : Nat → Int32) : Nat → Int32
  | 0 => nI 0
  | i + 1 => ctN h i + h i
/-- places of hints, written behind c0 others, at most twelve -/
def hwN (h : Nat → Int32) (pf : Nat) (s0 : Nat × (Nat → Int32)) : Nat → Nat × (Nat → Int32)
  | 0 => s0
  | p + 1 => if (hwN h pf s0 p).1 < 12 ∧ h (pf + p) = nI 1 then ((hwN h pf s0 p).1 + 1, upd (hwN h pf s0 p).2 (hwN h pf s0 p).1 (nI p)) else hwN h pf s0 p
theorem hwN_y {h : Nat → Int32} {pf : Nat} {s0 : Nat × (Nat → Int32)} {p : Nat} (h1 : (hwN h pf s0 p).1 < 12) (h2 : h (pf + p) = nI 1) : hwN h pf s0 (p + 1) = ((hwN h pf s0 p).1 + 1, upd (hwN h pf s0 p).2 (hwN h pf s0 p).1 (nI p)) := by
  show (if _ then _ else _) = _
  rw [if_pos ⟨h1, h2⟩]
theorem hwN_n {h : Nat → Int32} {pf : Nat} {s0 : Nat × (Nat → Int32)} {p : Nat} (h1 : ¬ ((hwN h pf s0 p).1 < 12 ∧ h (pf + p) = nI 1)) : hwN h pf s0 (p + 1) = hwN h pf s0 p := by
  show (if _ then _ else _) = _
  rw [if_neg h1]
theorem hwN_le (h : Nat → Int32) (pf : Nat) (s0 : Nat × (Nat → Int32)) (h0 : s0.1 ≤ 12) : ∀ p, (hwN h pf s0 p).1 ≤ 12
  | 0 => h0
  | p + 1 => by
    have ih := hwN_le h pf s0 h0 p
    by_cases hc : (hwN h pf s0 p).1 < 12 ∧ h (pf + p) = nI 1
    · rw [hwN_y hc.1 hc.2]
      show (hwN h pf s0 p).1 + 1 ≤ 12
      omega
    · rw [hwN_n hc]
      exact ih
theorem hwN_z (h : Nat → Int32) (pf : Nat) (s0 : Nat × (Nat → Int32)) (h0 : ∀ j, s0.1 ≤ j → s0.2 j = nI 0) : ∀ p j, (hwN h pf s0 p).1 ≤ j → (hwN h pf s0 p).2 j = nI 0
  | 0, j, hj => h0 j hj
  | p + 1, j, hj => by
    have ih := hwN_z h pf s0 h0 p
    by_cases hc : (hwN h pf s0 p).1 < 12 ∧ h (pf + p) = nI 1
    · rw [hwN_y hc.1 hc.2] at hj ⊢
      have hj : (hwN h pf s0 p).1 + 1 ≤ j := hj
      show upd (hwN h pf s0 p).2 (hwN h pf s0 p).1 (nI p) j = nI 0
      rw [pk_un (by omega)]
      exact ih j (by omega)
    · rw [hwN_n hc] at hj ⊢
      exact ih j hj
theorem hwN_full {h : Nat → Int32} {pf : Nat} {s0 : Nat × (Nat → Int32)} {p : Nat} (h1 : ¬ (hwN h pf s0 p).1 < 12) : ∀ n, hwN h pf s0 (p + n) = hwN h pf s0 p
  | 0 => rfl
  | n + 1 => by
    have ih := hwN_full h1 n
    have h2 : ¬ ((hwN h pf s0 (p + n)).1 < 12 ∧ h (pf + (p + n)) = nI 1) := by
      rw [ih]
      exact fun q => h1 q.1
    exact (hwN_n h2).trans ih
def hw1 (h : Nat → Int32) : Nat × (Nat → Int32) := hwN h 0 (0, fun _ => nI 0) 16
def hw2 (h : Nat → Int32) : Nat × (Nat → Int32) := hwN h 16 (hw1 h) 16
def zwP (z : Nat → Int32) (i : Nat) : Int32 := nI 512 - cenP (redP (z i).toInt64)
/-- a signature's bytes -/
def sigP (se z h : Nat → Int32) (j : Nat) : Int32 := if j < 8 then se j else if j < 48 then pcP (zwP z) 8 10 32 j else if j < 60 then (hw2 h).2 (j - 48) else if j = 60 then nI (hw1 h).1 else nI (hw2 h).1
/-- a public key's bytes -/
def pubP (st up : Nat → Int32) (j : Nat) : Int32 := if j < 8 then st j else pcP up 8 15 32 j
