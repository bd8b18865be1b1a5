-- BOUNDS
theorem selN_P {P : Int32 → Prop} (h0 : P 0) {ok : Nat → Bool} {val : Nat → Int32} (hv : ∀ t, ok t = true → P (val t)) : ∀ i j, P ((selN ok val i).2 j)
  | 0, j => h0
  | i + 1, j => by
    have ih := selN_P h0 hv i
    by_cases h : (selN ok val i).1 < 16 ∧ ok i = true
    · rw [selN_y h.1 h.2]
      show P (upd (selN ok val i).2 (selN ok val i).1 (val i) j)
      by_cases e : j = (selN ok val i).1
      · subst e
        rw [pk_us]
        exact hv i h.2
      · rw [pk_un e]
        exact ih j
    · rw [selN_n h]
      exact ih j
def inq (x : Int32) : Prop := -8380417 ≤ x.toInt ∧ x.toInt ≤ 8380417
theorem inq_nI {n : Nat} (h : n ≤ 8380417) : inq (nI n) := by
  unfold inq
  rw [nI_toInt (by omega)]
  omega
theorem inq_red (x : Int64) : inq (redP x) := by
  have := redP_in x
  unfold inq
  omega
theorem un_in {st : Nat → Int32} (hst : ∀ j, isB (st j)) (t : Nat) (h : unO st t = true) : inq (unN st t) := by
  have h2 : unN st t < nI 8380417 := of_decide_eq_true h
  have h3 := Int32.lt_iff_toInt_lt.mp h2
  rw [nI_toInt (by decide)] at h3
  have e : unN st t = _ := (un_eq (hst (3 * t)) (hst (3 * t + 1)) (hst (3 * t + 2))).symm
  obtain ⟨a, ha, ea⟩ := hst (3 * t)
  obtain ⟨b, hb, eb⟩ := hst (3 * t + 1)
  obtain ⟨c, hc, ec⟩ := hst (3 * t + 2)
  rw [ea, eb, ec, pk_rem (by omega) (by decide) (by decide), pk_mul, pk_mul, nI_add, nI_add] at e
  rw [e] at h3 ⊢
  rw [nI_toInt (by omega)] at h3
  exact inq_nI (by omega)
theorem unP_in {st : Nat → Int32} (hst : ∀ j, isB (st j)) (j : Nat) : inq (unP st j) := selN_P (inq_nI (n := 0) (by decide)) (fun t h => un_in hst t h) 45 j
theorem matP_in (rho : Nat → Int32) : bqn 64 (matP rho) := fun j _ => unP_in (fun j => HS_isB _ _ j) _
theorem sm_in : ∀ l, l < 16 → inq (nI 2 - (nI l - nI l / nI 5 * nI 5)) := by
  have h : ∀ l, l < 16 → -8380417 ≤ (nI 2 - (nI l - nI l / nI 5 * nI 5)).toInt ∧ (nI 2 - (nI l - nI l / nI 5 * nI 5)).toInt ≤ 8380417 := by decide +kernel
  exact h
theorem smV_in (st : Nat → Int32) (t : Nat) : inq (smV st t) := by
  have h : smN st t = nI (lo4 (st (t / 2) >>> (nI (4 * (t % 2)) &&& 31))) := lo4_and _
  unfold smV
  rw [h]
  exact sm_in _ (lo4_lt _)
theorem smP_in (st : Nat → Int32) (j : Nat) : inq (smP st j) := selN_P (inq_nI (n := 0) (by decide)) (fun t _ => smV_in st t) 128 j
theorem smlP_in (sig : Nat → Int32) (last : Nat) : bqn 32 (smlP sig last) := fun j _ => smP_in _ _
theorem sh_k : ∀ k, k < 15 → ((nI k &&& 31).toBitVec.smod 32).toNat = k := by decide +kernel
theorem rd_bit (x : Int32) : ∃ b : Nat, b < 2 ∧ x &&& nI 1 = nI b := ⟨x.toBitVec.toNat % 2 ^ 1, Nat.mod_lt _ (by decide), pk_and x 1 (by decide)⟩
theorem rdN_in (f : Nat → Int32) (fm at_ : Nat) : ∀ k, k ≤ 15 → ∃ a : Nat, a < 2 ^ k ∧ rdN f fm at_ k = nI a
  | 0, _ => ⟨0, by decide, rfl⟩
  | k + 1, hk => by
    obtain ⟨a, ha, ea⟩ := rdN_in f fm at_ k (by omega)
    obtain ⟨b, hb, eb⟩ := rd_bit (f (fm + (at_ + k) / 8) >>> (nI ((at_ + k) % 8) &&& 31))
    have hp : 2 ^ (k + 1) = 2 ^ k * 2 := Nat.pow_succ 2 k
    have hk2 : 2 ^ k ≤ 2 ^ 15 := Nat.pow_le_pow_right (by decide) (by omega)
    have hbk : b * 2 ^ k ≤ 1 * 2 ^ k := Nat.mul_le_mul_right _ (by omega)
    refine ⟨2 ^ k * b + a, by rw [hp, Nat.mul_comm (2 ^ k) b]; omega, ?_⟩
    show rdN f fm at_ k ||| (((f (fm + (at_ + k) / 8) >>> (nI ((at_ + k) % 8) &&& 31)) &&& nI 1) <<< (nI k &&& 31)) = _
    have e2 : nI b <<< (nI k &&& 31) = nI (b * 2 ^ k) := pk_shlN _ k (sh_k k (by omega)) (by omega)
    rw [ea, eb, e2, nI_or, Nat.two_pow_add_eq_or_of_lt ha, Nat.or_comm, Nat.mul_comm]
theorem wd_in (f : Nat → Int32) (fm at_ : Nat) : -511 ≤ (nI 512 - rdN f fm at_ 10).toInt ∧ (nI 512 - rdN f fm at_ 10).toInt ≤ 512 := by
  obtain ⟨a, ha, ea⟩ := rdN_in f fm at_ 10 (by decide)
  rw [ea, pk_sub_toInt (by decide) (by omega)]
  omega
theorem widP_in (nu : Nat → Int32) (last : Nat) (j : Nat) : -511 ≤ (widP nu last j).toInt ∧ (widP nu last j).toInt ≤ 512 := wd_in _ _ _
theorem rzP_in (s : Nat → Int32) (j : Nat) : -511 ≤ (rzP s j).toInt ∧ (rzP s j).toInt ≤ 512 := wd_in _ _ _
theorem bl_in : ∀ (st : Nat → Int32) (t j : Nat), -1 ≤ ((blN st t).2 j).toInt ∧ ((blN st t).2 j).toInt ≤ 1
  | st, 0, j => by
    show -1 ≤ (nI 0).toInt ∧ (nI 0).toInt ≤ 1
    decide
  | st, t + 1, j => by
    have ih := bl_in st t
    show -1 ≤ (upd (upd _ _ _) _ (sgB st t) j).toInt ∧ (upd (upd _ _ _) _ (sgB st t) j).toInt ≤ 1
    by_cases e : j = jB st (sk st (12 + t) (blN st t).1)
    · rw [e, pk_us]
      unfold sgB
      split <;> decide
    · rw [pk_un e]
      by_cases e2 : j = 12 + t
      · rw [e2, pk_us]
        exact ih _
      · rw [pk_un e2]
        exact ih _
theorem blP_in (st : Nat → Int32) : bqn 16 (blP st) := fun j _ => by
  have := bl_in st 4 j
  unfold blP
  omega
theorem rs256_in {r : Int32} (h : 0 ≤ r.toInt ∧ r.toInt < 8380417) : -128 ≤ (rsP r (nI 256)).toInt ∧ (rsP r (nI 256)).toInt ≤ 128 := by
  obtain ⟨n, hn, rfl⟩ : ∃ n : Nat, n < 8380417 ∧ r = nI n := by
    obtain ⟨j, hj, ej⟩ := nI_of (x := r) (fun q => by have := Int32.lt_iff_toInt_lt.mp q; rw [show (0 : Int32).toInt = 0 from rfl] at this; omega)
    subst ej
    rw [nI_toInt hj] at h
    exact ⟨j, by omega, rfl⟩
  have e2 : nI n - nI n / nI 256 * nI 256 = nI (n % 256) := pk_rem (by omega) (by decide) (by decide)
  unfold rsP
  rw [e2, show nI 256 / nI 2 = nI 128 by decide]
  have hm : n % 256 < 256 := Nat.mod_lt _ (by decide)
  by_cases h1 : nI 128 < nI (n % 256)
  · rw [if_pos h1, pk_sub_toInt (by omega) (by decide)]
    have := (nI_ltI (by decide) (by omega)).mp h1
    omega
  · rw [if_neg h1, nI_toInt (by omega)]
    have : ¬ 128 < n % 256 := fun q => h1 ((nI_ltI (by decide) (by omega)).mpr q)
    omega
theorem t0P_in (m s e : Nat → Int32) : bqn 32 (t0P m s e) := fun j _ => by
  have := rs256_in (redP_in (mmP m s j + e j).toInt64)
  unfold t0P tvP
  omega
-- BOTH WAYS OF A KEY AND OF A TRY
theorem tv_eq {m s e : Nat → Int32} (he : bqn 32 e) {t : Nat} (ht : t < 32) : redP ((mmP m s t).toInt64 + (rdF e t).toInt64) = tvP m s e t := by
  apply redP_cg
  have h1 := mmP_in m s t
  have h2 := he t ht
  have h3 : (rdF e t).toInt = (e t).toInt % 8380417 := by unfold rdF; rw [redP_toInt, Int32.toInt_toInt64]
  rw [l_add (by rw [Int32.toInt_toInt64, Int32.toInt_toInt64, h3]; omega) (by rw [Int32.toInt_toInt64, Int32.toInt_toInt64, h3]; omega), Int32.toInt_toInt64, Int32.toInt_toInt64, Int32.toInt_toInt64, i_add (by omega) (by omega), h3]
  omega
theorem bqn_y {y : Nat → Int32} (h : ∀ j, -511 ≤ (y j).toInt ∧ (y j).toInt ≤ 512) (n : Nat) : bqn n y := fun j _ => by
  have := h j
  omega
theorem z_eq {c s y : Nat → Int32} (hc : bqn 16 c) (hs : bqn 32 s) (hy : ∀ j, -511 ≤ (y j).toInt ∧ (y j).toInt ≤ 512) {t : Nat} (ht : t < 32) : shP c (rdF s) (nI 1) (rdF y) t = zP y c s t := by
  apply Int32.toInt_inj.mp
  have h1 := sh_cgP hc hs (bqn_rd 32 y) (by_ := nI 1) (Or.inl (by decide)) ht
  have h2 := mpP_in c s t
  have h3 := hy t
  have h4 : (rdF y t).toInt = (y t).toInt % 8380417 := by unfold rdF; rw [redP_toInt, Int32.toInt_toInt64]
  rw [h1, h4, show (nI 1).toInt = 1 by decide]
  unfold zP
  rw [redP_toInt, Int32.toInt_toInt64, i_add (by omega) (by omega)]
  omega
theorem u_eq {c e w : Nat → Int32} (hc : bqn 16 c) (he : bqn 32 e) (hw : ∀ j, 0 ≤ (w j).toInt ∧ (w j).toInt < 8380417) {t : Nat} (ht : t < 32) : shP c (rdF e) (-1) w t = uP w c e t := by
  apply Int32.toInt_inj.mp
  have hwb : bqn 32 w := fun j _ => by have := hw j; omega
  have h1 := sh_cgP hc he hwb (by_ := -1) (Or.inr (by decide)) ht
  have h2 := mpP_in c e t
  have h3 := hw t
  rw [h1, show (-1 : Int32).toInt = -1 by decide]
  unfold uP
  rw [redP_toInt, Int32.toInt_toInt64, i_sub (by omega) (by omega)]
  omega
theorem v_eq {c x : Nat → Int32} (hc : bqn 16 c) (hx : bqn 32 x) {t : Nat} (ht : t < 32) : shP c (rdF x) (nI 1) (fun _ => nI 0) t = mpP c x t := by
  apply Int32.toInt_inj.mp
  have h1 := sh_cgP hc hx (bs := fun _ => nI 0) (fun j _ => by show -8380417 ≤ (nI 0).toInt ∧ (nI 0).toInt ≤ 8380417; decide) (by_ := nI 1) (Or.inl (by decide)) ht
  have h2 := mpP_in c x t
  rw [h1, show (nI 1).toInt = 1 by decide, show (nI 0).toInt = 0 by decide]
  omega
theorem uP_in (w c e : Nat → Int32) (t : Nat) : 0 ≤ (uP w c e t).toInt ∧ (uP w c e t).toInt < 8380417 := redP_in _
theorem zP_in (y c s : Nat → Int32) (t : Nat) : 0 ≤ (zP y c s t).toInt ∧ (zP y c s t).toInt < 8380417 := redP_in _
theorem h_eq {u v : Nat → Int32} {t : Nat} (hu : 0 ≤ (u t).toInt ∧ (u t).toInt < 8380417) (hv : 0 ≤ (v t).toInt ∧ (v t).toInt < 8380417) : hinP (-(v t)).toInt64 (redP ((u t).toInt64 + (v t).toInt64)) = hnP u v t := by
  have e : redP ((u t).toInt64 + (v t).toInt64) = redP (u t + v t).toInt64 := by
    apply redP_cg
    rw [l_add (by rw [Int32.toInt_toInt64, Int32.toInt_toInt64]; omega) (by rw [Int32.toInt_toInt64, Int32.toInt_toInt64]; omega), Int32.toInt_toInt64, Int32.toInt_toInt64, Int32.toInt_toInt64, i_add (by omega) (by omega)]
  unfold hnP
  rw [e]
theorem smlP_at (sig : Nat → Int32) (last i : Nat) {j : Nat} (hj : j < 16) : smP (HS (ctB sig 8 (nI (last + i))) 9) j = smlP sig last (16 * i + j) := by
  unfold smlP
  rw [show (16 * i + j) / 16 = i by omega, show (16 * i + j) % 16 = j by omega]
theorem widP_at (nu : Nat → Int32) (last i : Nat) {j : Nat} (hj : j < 16) : wdP (HS (ctB nu 16 (nI (last + i))) 17) j = widP nu last (16 * i + j) := by
  unfold widP
  rw [show (16 * i + j) / 16 = i by omega, show (16 * i + j) % 16 = j by omega]
theorem shI_0 (f : Nat → Int32) : shI f 0 = f := by
  funext j
  show f (0 + j) = f j
  rw [Nat.zero_add]
