-- ARITHMETIC MOD Q
theorem bm6 {z : Int} (h1 : -9223372036854775808 ≤ z) (h2 : z < 9223372036854775808) : z.bmod (2 ^ 64) = z := Int.bmod_eq_of_le_mul_two (by rw [show ((2 ^ 64 : Nat) : Int) = 18446744073709551616 from rfl]; omega) (by rw [show ((2 ^ 64 : Nat) : Int) = 18446744073709551616 from rfl]; omega)
theorem bm3 {z : Int} (h1 : -2147483648 ≤ z) (h2 : z < 2147483648) : z.bmod (2 ^ 32) = z := Int.bmod_eq_of_le_mul_two (by rw [show ((2 ^ 32 : Nat) : Int) = 4294967296 from rfl]; omega) (by rw [show ((2 ^ 32 : Nat) : Int) = 4294967296 from rfl]; omega)
theorem l_add {x y : Int64} (h1 : -9223372036854775808 ≤ x.toInt + y.toInt) (h2 : x.toInt + y.toInt < 9223372036854775808) : (x + y).toInt = x.toInt + y.toInt := by rw [Int64.toInt_add, bm6 h1 h2]
theorem l_sub {x y : Int64} (h1 : -9223372036854775808 ≤ x.toInt - y.toInt) (h2 : x.toInt - y.toInt < 9223372036854775808) : (x - y).toInt = x.toInt - y.toInt := by rw [Int64.toInt_sub, bm6 h1 h2]
theorem l_mul {x y : Int64} (h1 : -9223372036854775808 ≤ x.toInt * y.toInt) (h2 : x.toInt * y.toInt < 9223372036854775808) : (x * y).toInt = x.toInt * y.toInt := by rw [Int64.toInt_mul, bm6 h1 h2]
theorem i_add {x y : Int32} (h1 : -2147483648 ≤ x.toInt + y.toInt) (h2 : x.toInt + y.toInt < 2147483648) : (x + y).toInt = x.toInt + y.toInt := by rw [Int32.toInt_add, bm3 h1 h2]
theorem i_sub {x y : Int32} (h1 : -2147483648 ≤ x.toInt - y.toInt) (h2 : x.toInt - y.toInt < 2147483648) : (x - y).toInt = x.toInt - y.toInt := by rw [Int32.toInt_sub, bm3 h1 h2]
theorem i_mul {x y : Int32} (h1 : -2147483648 ≤ x.toInt * y.toInt) (h2 : x.toInt * y.toInt < 2147483648) : (x * y).toInt = x.toInt * y.toInt := by rw [Int32.toInt_mul, bm3 h1 h2]
theorem q64 : (8380417 : Int64).toInt = 8380417 := by decide +kernel
theorem td_q (x : Int) : ∃ d : Int, x.tdiv 8380417 = d ∧ -8380417 < x - d * 8380417 ∧ x - d * 8380417 < 8380417 ∧ (x ≤ 0 → x - d * 8380417 ≤ 0) ∧ (0 ≤ x → 0 ≤ x - d * 8380417) := by
  by_cases h : 0 ≤ x
  · refine ⟨x / 8380417, Int.tdiv_eq_ediv_of_nonneg h, ?_, ?_, ?_, ?_⟩ <;> omega
  · have e : x.tdiv 8380417 = -((-x) / 8380417) := by
      have := Int.neg_tdiv (-x) 8380417
      rw [Int.neg_neg] at this
      rw [this, Int.tdiv_eq_ediv_of_nonneg (by omega)]
    refine ⟨_, e, ?_, ?_, ?_, ?_⟩ <;> omega
theorem remq (x : Int64) : ∃ k : Int, (x - x / 8380417 * 8380417).toInt = x.toInt - k * 8380417 ∧ -8380417 < x.toInt - k * 8380417 ∧ x.toInt - k * 8380417 < 8380417 := by
  obtain ⟨d, hd, b1, b2, b3, b4⟩ := td_q x.toInt
  have l1 := Int64.toInt_lt x
  have l2 := Int64.le_toInt x
  have e1 : (x / 8380417).toInt = d := by rw [Int64.toInt_div_of_ne_right _ _ (by decide), q64, hd]
  have e2 : (x / 8380417 * 8380417).toInt = d * 8380417 := by
    rw [l_mul, e1, q64]
    · rw [e1, q64]; omega
    · rw [e1, q64]; omega
  refine ⟨d, ?_, b1, b2⟩
  rw [l_sub, e2]
  · rw [e2]; omega
  · rw [e2]; omega
theorem redP_toInt (x : Int64) : (redP x).toInt = x.toInt % 8380417 := by
  obtain ⟨k, e, b1, b2⟩ := remq x
  unfold redP
  by_cases h : x - x / 8380417 * 8380417 < 0
  · rw [if_pos h]
    have h0 := Int64.lt_iff_toInt_lt.mp h
    rw [e, show (0 : Int64).toInt = 0 from rfl] at h0
    rw [Int64.toInt_toInt32, l_add, e, q64, bm3]
    · omega
    · omega
    · omega
    · rw [e, q64]; omega
    · rw [e, q64]; omega
  · rw [if_neg h]
    have h0 := Int64.le_iff_toInt_le.mp (Int64.not_lt.mp h)
    rw [e, show (0 : Int64).toInt = 0 from rfl] at h0
    rw [Int64.toInt_toInt32, e, bm3]
    · omega
    · omega
    · omega
theorem redP_in (x : Int64) : 0 ≤ (redP x).toInt ∧ (redP x).toInt < 8380417 := by
  rw [redP_toInt]
  omega
theorem redP_cg {x y : Int64} (h : x.toInt % 8380417 = y.toInt % 8380417) : redP x = redP y := by
  apply Int32.toInt_inj.mp
  rw [redP_toInt, redP_toInt, h]
theorem redP_id {x : Int32} (h : 0 ≤ x.toInt ∧ x.toInt < 8380417) : redP x.toInt64 = x := by
  apply Int32.toInt_inj.mp
  rw [redP_toInt, Int32.toInt_toInt64]
  omega
theorem mulb {a b : Int} (ha : -8380417 ≤ a ∧ a ≤ 8380417) (hb : -8380417 ≤ b ∧ b ≤ 8380417) : -70231389093889 ≤ a * b ∧ a * b ≤ 70231389093889 := by
  have h : (a * b).natAbs ≤ 8380417 * 8380417 := by
    rw [Int.natAbs_mul]
    exact Nat.mul_le_mul (by omega) (by omega)
  omega
def tT (F G : Nat → Int) (i j : Nat) : Int := if j ≤ i then F j * G (i - j) else -(F j * G (16 + i - j))
def sI (T : Nat → Int) : Nat → Int
  | 0 => 0
  | n + 1 => sI T n + T n
def fI (f : Nat → Int32) : Nat → Int := fun j => (f j).toInt
def bq (f : Nat → Int32) : Prop := ∀ j, j < 16 → -8380417 ≤ (f j).toInt ∧ (f j).toInt ≤ 8380417
theorem pr_ex {f g : Nat → Int32} (hf : bq f) (hg : bq g) {j k : Nat} (hj : j < 16) (hk : k < 16) : ((f j).toInt64 * (g k).toInt64).toInt = fI f j * fI g k ∧ -70231389093889 ≤ fI f j * fI g k ∧ fI f j * fI g k ≤ 70231389093889 := by
  have hb := mulb (hf j hj) (hg k hk)
  refine ⟨?_, hb⟩
  rw [l_mul, Int32.toInt_toInt64, Int32.toInt_toInt64]
  · rfl
  · rw [Int32.toInt_toInt64, Int32.toInt_toInt64]; omega
  · rw [Int32.toInt_toInt64, Int32.toInt_toInt64]; omega
theorem pA_ex {f g : Nat → Int32} (hf : bq f) (hg : bq g) {i : Nat} (hi : i < 16) : ∀ n, n ≤ 16 → (pA f g i n).toInt = sI (tT (fI f) (fI g) i) n ∧ -(n * 70231389093889) ≤ sI (tT (fI f) (fI g) i) n ∧ sI (tT (fI f) (fI g) i) n ≤ n * 70231389093889
  | 0, _ => ⟨rfl, (show -(((0 : Nat) : Int) * 70231389093889) ≤ 0 by decide), (show (0 : Int) ≤ ((0 : Nat) : Int) * 70231389093889 by decide)⟩
  | n + 1, hn => by
    obtain ⟨ih, b1, b2⟩ := pA_ex hf hg hi n (by omega)
    by_cases h : n ≤ i
    · obtain ⟨e, c1, c2⟩ := pr_ex hf hg (show n < 16 by omega) (show i - n < 16 by omega)
      have et : tT (fI f) (fI g) i n = fI f n * fI g (i - n) := by unfold tT; rw [if_pos h]
      have es : sI (tT (fI f) (fI g) i) (n + 1) = sI (tT (fI f) (fI g) i) n + fI f n * fI g (i - n) := by show _ + _ = _; rw [et]
      rw [pA_lo _ _ h, es]
      refine ⟨?_, by omega, by omega⟩
      rw [l_add, ih, e]
      · rw [ih, e]; omega
      · rw [ih, e]; omega
    · obtain ⟨e, c1, c2⟩ := pr_ex hf hg (show n < 16 by omega) (show 16 + i - n < 16 by omega)
      have et : tT (fI f) (fI g) i n = -(fI f n * fI g (16 + i - n)) := by unfold tT; rw [if_neg h]
      have es : sI (tT (fI f) (fI g) i) (n + 1) = sI (tT (fI f) (fI g) i) n + -(fI f n * fI g (16 + i - n)) := by show _ + _ = _; rw [et]
      rw [pA_hi _ _ h, es]
      refine ⟨?_, by omega, by omega⟩
      rw [l_sub, ih, e]
      · omega
      · rw [ih, e]; omega
      · rw [ih, e]; omega
theorem xx_ex {f g : Nat → Int32} (hf : bq f) (hg : bq g) {by_ : Int32} (hb : by_.toInt = 1 ∨ by_.toInt = -1) {j k : Nat} (hj : j < 16) (hk : k < 16) : -8380417 < (xxP f g by_ j k).toInt ∧ (xxP f g by_ j k).toInt < 8380417 ∧ (xxP f g by_ j k).toInt % 8380417 = (by_.toInt * (fI f j * fI g k)) % 8380417 := by
  obtain ⟨e, c1, c2⟩ := pr_ex hf hg hj hk
  obtain ⟨d, e2, b1, b2⟩ := remq ((f j).toInt64 * (g k).toInt64)
  rw [e] at e2 b1 b2
  unfold xxP
  rcases hb with hb | hb
  · rw [l_mul, e2, Int32.toInt_toInt64, hb]
    · refine ⟨?_, ?_, ?_⟩ <;> omega
    · rw [e2, Int32.toInt_toInt64, hb]; omega
    · rw [e2, Int32.toInt_toInt64, hb]; omega
  · rw [l_mul, e2, Int32.toInt_toInt64, hb]
    · refine ⟨?_, ?_, ?_⟩ <;> omega
    · rw [e2, Int32.toInt_toInt64, hb]; omega
    · rw [e2, Int32.toInt_toInt64, hb]; omega
theorem aN_at (f g : Nat → Int32) (by_ : Int32) (S0 : Nat → Int64) {n i : Nat} (hi : i < 16) : aN f g by_ S0 (n + 1) i = if n ≤ i then aN f g by_ S0 n i + xxP f g by_ n (i - n) else aN f g by_ S0 n i - xxP f g by_ n (16 + i - n) := by
  show apN f g by_ (aN f g by_ S0 n) n 16 i = _
  unfold apN
  rw [if_pos ⟨hi, Nat.mod_lt _ (by decide)⟩]
theorem cga {a b c d : Int} (h1 : a % 8380417 = b % 8380417) (h2 : c % 8380417 = d % 8380417) : (a + c) % 8380417 = (b + d) % 8380417 := by omega
theorem cgs {a b c d : Int} (h1 : a % 8380417 = b % 8380417) (h2 : c % 8380417 = d % 8380417) : (a - c) % 8380417 = (b - d) % 8380417 := by omega
theorem bd1 {n : Nat} {A x B : Int} (hB : 0 ≤ B ∧ B ≤ 1000000000000) (hn : n < 16) (b1 : -(B + (n : Int) * 8380417) ≤ A) (b2 : A ≤ B + (n : Int) * 8380417) (x1 : -8380417 < x) (x2 : x < 8380417) : (-9223372036854775808 ≤ A + x ∧ A + x < 9223372036854775808) ∧ -(B + ((n + 1 : Nat) : Int) * 8380417) ≤ A + x ∧ A + x ≤ B + ((n + 1 : Nat) : Int) * 8380417 := by omega
theorem bd2 {n : Nat} {A x B : Int} (hB : 0 ≤ B ∧ B ≤ 1000000000000) (hn : n < 16) (b1 : -(B + (n : Int) * 8380417) ≤ A) (b2 : A ≤ B + (n : Int) * 8380417) (x1 : -8380417 < x) (x2 : x < 8380417) : (-9223372036854775808 ≤ A - x ∧ A - x < 9223372036854775808) ∧ -(B + ((n + 1 : Nat) : Int) * 8380417) ≤ A - x ∧ A - x ≤ B + ((n + 1 : Nat) : Int) * 8380417 := by omega
theorem aN_ex {f g : Nat → Int32} (hf : bq f) (hg : bq g) {by_ : Int32} (hb : by_.toInt = 1 ∨ by_.toInt = -1) {S0 : Nat → Int64} {i : Nat} (hi : i < 16) {B : Int} (hB : 0 ≤ B ∧ B ≤ 1000000000000) (h0 : -B ≤ (S0 i).toInt ∧ (S0 i).toInt ≤ B) : ∀ n, n ≤ 16 → (aN f g by_ S0 n i).toInt % 8380417 = ((S0 i).toInt + by_.toInt * sI (tT (fI f) (fI g) i) n) % 8380417 ∧ -(B + (n : Int) * 8380417) ≤ (aN f g by_ S0 n i).toInt ∧ (aN f g by_ S0 n i).toInt ≤ B + (n : Int) * 8380417
  | 0, _ => by
    refine ⟨?_, ?_, ?_⟩
    · show (S0 i).toInt % 8380417 = ((S0 i).toInt + by_.toInt * 0) % 8380417
      rw [Int.mul_zero, Int.add_zero]
    · show _ ≤ (S0 i).toInt
      have := h0.1
      omega
    · show (S0 i).toInt ≤ _
      have := h0.2
      omega
  | n + 1, hn => by
    obtain ⟨ih, b1, b2⟩ := aN_ex hf hg hb hi hB h0 n (by omega)
    rw [aN_at f g by_ S0 hi]
    have es : sI (tT (fI f) (fI g) i) (n + 1) = sI (tT (fI f) (fI g) i) n + tT (fI f) (fI g) i n := rfl
    rw [es]
    by_cases h : n ≤ i
    · obtain ⟨x1, x2, x3⟩ := xx_ex hf hg hb (show n < 16 by omega) (show i - n < 16 by omega)
      have et : tT (fI f) (fI g) i n = fI f n * fI g (i - n) := by unfold tT; rw [if_pos h]
      have bb := bd1 hB (show n < 16 by omega) b1 b2 x1 x2
      rw [if_pos h, et, l_add bb.1.1 bb.1.2]
      refine ⟨?_, bb.2⟩
      rw [Int.mul_add, ← Int.add_assoc]
      exact cga ih x3
    · obtain ⟨x1, x2, x3⟩ := xx_ex hf hg hb (show n < 16 by omega) (show 16 + i - n < 16 by omega)
      have et : tT (fI f) (fI g) i n = -(fI f n * fI g (16 + i - n)) := by unfold tT; rw [if_neg h]
      have bb := bd2 hB (show n < 16 by omega) b1 b2 x1 x2
      rw [if_neg h, et, l_sub bb.1.1 bb.1.2]
      refine ⟨?_, bb.2⟩
      rw [Int.mul_add, ← Int.add_assoc, Int.mul_neg, ← Int.sub_eq_add_neg]
      exact cgs ih x3
theorem tT_cg {F G F' G' : Nat → Int} (hF : ∀ j, j < 16 → F j % 8380417 = F' j % 8380417) (hG : ∀ j, j < 16 → G j % 8380417 = G' j % 8380417) {i j : Nat} (hi : i < 16) (hj : j < 16) : tT F G i j % 8380417 = tT F' G' i j % 8380417 := by
  unfold tT
  by_cases h : j ≤ i
  · rw [if_pos h, if_pos h, Int.mul_emod, hF j hj, hG (i - j) (by omega), ← Int.mul_emod]
  · rw [if_neg h, if_neg h]
    have e : F j * G (16 + i - j) % 8380417 = F' j * G' (16 + i - j) % 8380417 := by rw [Int.mul_emod, hF j hj, hG (16 + i - j) (by omega), ← Int.mul_emod]
    omega
theorem sI_cg {F G F' G' : Nat → Int} (hF : ∀ j, j < 16 → F j % 8380417 = F' j % 8380417) (hG : ∀ j, j < 16 → G j % 8380417 = G' j % 8380417) {i : Nat} (hi : i < 16) : ∀ n, n ≤ 16 → sI (tT F G i) n % 8380417 = sI (tT F' G' i) n % 8380417
  | 0, _ => rfl
  | n + 1, hn => by
    have ih := sI_cg hF hG hi n (by omega)
    have ht := tT_cg hF hG hi (show n < 16 by omega)
    show (sI (tT F G i) n + tT F G i n) % 8380417 = (sI (tT F' G' i) n + tT F' G' i n) % 8380417
    omega
theorem rdF_cg (f : Nat → Int32) (j : Nat) : fI (rdF f) j % 8380417 = fI f j % 8380417 := by
  show (redP (f j).toInt64).toInt % 8380417 = _
  rw [redP_toInt, Int32.toInt_toInt64]
  show (f j).toInt % 8380417 % 8380417 = (f j).toInt % 8380417
  omega
def bqn (n : Nat) (f : Nat → Int32) : Prop := ∀ j, j < n → -8380417 ≤ (f j).toInt ∧ (f j).toInt ≤ 8380417
theorem bqn_sh {n : Nat} {f : Nat → Int32} (h : bqn n f) (k : Nat) (hk : k + 16 ≤ n) : bq (shI f k) := fun j hj => h (k + j) (by omega)
theorem bqn_rd (n : Nat) (f : Nat → Int32) : bqn n (rdF f) := fun j _ => by
  have := redP_in (f j).toInt64
  exact ⟨by unfold rdF; omega, by unfold rdF; omega⟩
theorem z16_0 (i : Nat) : (z16 i).toInt = 0 := rfl
theorem sh_cg (f : Nat → Int32) (k : Nat) : ∀ j, j < 16 → fI (shI (rdF f) k) j % 8380417 = fI (shI f k) j % 8380417 := fun j _ => by
  have h := rdF_cg f (k + j)
  unfold fI at h ⊢
  unfold shI
  exact h
theorem bd3 {a b : Int} (h1 : -(((16 : Nat) : Int) * 70231389093889) ≤ a) (h2 : a ≤ ((16 : Nat) : Int) * 70231389093889) (h3 : -(((16 : Nat) : Int) * 70231389093889) ≤ b) (h4 : b ≤ ((16 : Nat) : Int) * 70231389093889) : -9223372036854775808 ≤ a + b ∧ a + b < 9223372036854775808 := by omega
theorem bd6 {a : Int} (h1 : -(0 + ((16 : Nat) : Int) * 8380417) ≤ a) (h2 : a ≤ 0 + ((16 : Nat) : Int) * 8380417) : -134086672 ≤ a ∧ a ≤ 134086672 := by omega
theorem bd4 {a : Int} (h1 : -(0 + ((16 : Nat) : Int) * 8380417) ≤ a) (h2 : a ≤ 0 + ((16 : Nat) : Int) * 8380417) {b : Int} (h3 : -8380417 ≤ b) (h4 : b ≤ 8380417) : -9223372036854775808 ≤ b + a ∧ b + a < 9223372036854775808 := by omega
theorem en1 {A1 A2 r1 r2 s1 s2 : Int} (h1 : A1 % 8380417 = (0 + 1 * r1) % 8380417) (h2 : A2 % 8380417 = (A1 + 1 * r2) % 8380417) (c1 : r1 % 8380417 = s1 % 8380417) (c2 : r2 % 8380417 = s2 % 8380417) : A2 % 8380417 = (s1 + s2) % 8380417 := by omega
theorem en2 {b A r s m : Int} (h1 : A % 8380417 = (0 + 1 * r) % 8380417) (c1 : r % 8380417 = s % 8380417) (hm : m = s % 8380417) : (b + A) % 8380417 = (b + 1 * m) % 8380417 := by omega
theorem en3 {b A r s m : Int} (h1 : A % 8380417 = (0 + -1 * r) % 8380417) (c1 : r % 8380417 = s % 8380417) (hm : m = s % 8380417) : (b + A) % 8380417 = (b + -1 * m) % 8380417 := by omega
theorem bd5 {n : Nat} (hn : n ≤ 16) {a : Int} (h1 : -(1000 + (n : Int) * 8380417) ≤ a) (h2 : a ≤ 1000 + (n : Int) * 8380417) : -1000000000000 ≤ a ∧ a ≤ 1000000000000 := by omega
/-- matrix times vector, both ways -/
theorem ma_mm {m x : Nat → Int32} (hm : bqn 64 m) (hx : bqn 32 x) {t : Nat} (ht : t < 32) : maP m (rdF x) t = mmP m x t := by
  have hi : t % 16 < 16 := Nat.mod_lt _ (by decide)
  have m1 := bqn_sh hm (32 * (t / 16)) (by omega)
  have m2 := bqn_sh hm (32 * (t / 16) + 16) (by omega)
  have r1 := bqn_sh (bqn_rd 32 x) 0 (by omega)
  have r2 := bqn_sh (bqn_rd 32 x) 16 (by omega)
  have x1 := bqn_sh hx 0 (by omega)
  have x2 := bqn_sh hx 16 (by omega)
  have o1 : (nI 1).toInt = 1 ∨ (nI 1).toInt = -1 := Or.inl (by decide)
  have e1 : (nI 1).toInt = 1 := by decide
  have a1 := aN_ex m1 r1 o1 (S0 := z16) hi (B := 0) (by decide) (by rw [z16_0]; decide) 16 (Nat.le_refl _)
  have a2 := aN_ex m2 r2 o1 (S0 := aN (shI m (32 * (t / 16))) (shI (rdF x) 0) (nI 1) z16 16) hi (B := 134086672) (by decide) (bd6 a1.2.1 a1.2.2) 16 (Nat.le_refl _)
  have p1 := pA_ex m1 x1 hi 16 (Nat.le_refl _)
  have p2 := pA_ex m2 x2 hi 16 (Nat.le_refl _)
  have c1 := sI_cg (F := fI (shI m (32 * (t / 16)))) (fun _ _ => rfl) (sh_cg x 0) hi 16 (Nat.le_refl _)
  have c2 := sI_cg (F := fI (shI m (32 * (t / 16) + 16))) (fun _ _ => rfl) (sh_cg x 16) hi 16 (Nat.le_refl _)
  rw [e1, z16_0] at a1
  rw [e1] at a2
  unfold maP mmP
  apply redP_cg
  have bb := bd3 p1.2.1 p1.2.2 p2.2.1 p2.2.2
  rw [l_add (by rw [p1.1, p2.1]; exact bb.1) (by rw [p1.1, p2.1]; exact bb.2), p1.1, p2.1]
  exact en1 a1.1 a2.1 c1 c2
/-- polynomial times vector, with a sign and a base -/
theorem sh_cgP {c x bs : Nat → Int32} (hc : bqn 16 c) (hx : bqn 32 x) (hbs : bqn 32 bs) {by_ : Int32} (hb : by_.toInt = 1 ∨ by_.toInt = -1) {t : Nat} (ht : t < 32) : (shP c (rdF x) by_ bs t).toInt = ((bs t).toInt + by_.toInt * (mpP c x t).toInt) % 8380417 := by
  have hi : t % 16 < 16 := Nat.mod_lt _ (by decide)
  have m1 := bqn_sh hc 0 (by omega)
  have r1 := bqn_sh (bqn_rd 32 x) (16 * (t / 16)) (by omega)
  have x1 := bqn_sh hx (16 * (t / 16)) (by omega)
  have a1 := aN_ex m1 r1 hb (S0 := z16) hi (B := 0) (by decide) (by rw [z16_0]; decide) 16 (Nat.le_refl _)
  have p1 := pA_ex m1 x1 hi 16 (Nat.le_refl _)
  have c1 := sI_cg (F := fI (shI c 0)) (fun _ _ => rfl) (sh_cg x (16 * (t / 16))) hi 16 (Nat.le_refl _)
  have b1 := hbs t ht
  have bb := bd4 a1.2.1 a1.2.2 b1.1 b1.2
  have hm : (mpP c x t).toInt = sI (tT (fI (shI c 0)) (fI (shI x (16 * (t / 16)))) (t % 16)) 16 % 8380417 := by
    unfold mpP
    rw [redP_toInt, p1.1]
  rw [z16_0] at a1
  unfold shP
  rw [redP_toInt, l_add (by rw [Int32.toInt_toInt64]; exact bb.1) (by rw [Int32.toInt_toInt64]; exact bb.2), Int32.toInt_toInt64]
  rcases hb with hb | hb
  · rw [hb] at a1 ⊢
    exact en2 a1.1 c1 hm
  · rw [hb] at a1 ⊢
    exact en3 a1.1 c1 hm
theorem mpP_in (c x : Nat → Int32) (t : Nat) : 0 ≤ (mpP c x t).toInt ∧ (mpP c x t).toInt < 8380417 := redP_in _
theorem mmP_in (c x : Nat → Int32) (t : Nat) : 0 ≤ (mmP c x t).toInt ∧ (mmP c x t).toInt < 8380417 := redP_in _
