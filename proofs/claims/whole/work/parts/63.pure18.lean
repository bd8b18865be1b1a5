-- THE LAW'S OWN NUMBERS
theorem hwN_isB (h : Nat → Int32) (pf : Nat) (s0 : Nat × (Nat → Int32)) (h1 : s0.1 ≤ 12) (h2 : ∀ j, isB (s0.2 j)) : ∀ p, p ≤ 16 → (hwN h pf s0 p).1 ≤ 12 ∧ ∀ j, isB ((hwN h pf s0 p).2 j)
  | 0, _ => ⟨h1, h2⟩
  | p + 1, hp => by
    have ih := hwN_isB h pf s0 h1 h2 p (by omega)
    by_cases c : (hwN h pf s0 p).1 < 12 ∧ h (pf + p) = nI 1
    · rw [hwN_y c.1 c.2]
      refine ⟨?_, fun j => ?_⟩
      · show (hwN h pf s0 p).1 + 1 ≤ 12
        omega
      · show isB (upd (hwN h pf s0 p).2 (hwN h pf s0 p).1 (nI p) j)
        unfold upd
        by_cases e : j = (hwN h pf s0 p).1
        · rw [if_pos e]
          exact ⟨p, by omega, rfl⟩
        · rw [if_neg e]
          exact ih.2 j
    · rw [hwN_n c]
      exact ih
theorem sig_isB {se z h : Nat → Int32} (hs : ∀ j, isB (se j)) {j : Nat} (hj : j < 62) : isB (sigP se z h j) := by
  have a1 : (hw1 h).1 ≤ 12 ∧ ∀ j, isB ((hw1 h).2 j) := by
    unfold hw1
    exact hwN_isB h 0 (0, fun _ => nI 0) (Nat.zero_le 12) (fun _ => isB_0) 16 (Nat.le_refl 16)
  have a2 : (hw2 h).1 ≤ 12 ∧ ∀ j, isB ((hw2 h).2 j) := by
    unfold hw2
    exact hwN_isB h 16 (hw1 h) a1.1 a1.2 16 (Nat.le_refl 16)
  unfold sigP
  by_cases c1 : j < 8
  · rw [if_pos c1]
    exact hs j
  · rw [if_neg c1]
    by_cases c2 : j < 48
    · rw [if_pos c2]
      have e := pc_isB (zwP z) (fm := 8) (bt := 10) (n := 32) (L := 40) (j := j - 8) (by decide) (by omega)
      rw [show 8 + (j - 8) = j by omega] at e
      exact e
    · rw [if_neg c2]
      by_cases c3 : j < 60
      · rw [if_pos c3]
        exact a2.2 _
      · rw [if_neg c3]
        by_cases c4 : j = 60
        · rw [if_pos c4]
          exact ⟨_, by omega, rfl⟩
        · rw [if_neg c4]
          exact ⟨_, by omega, rfl⟩
theorem tSG_isB (mu m nu s e t : Nat → Int32) (k : Nat) {j : Nat} (hj : j < 62) : isB (tSG mu m nu s e t k j) := sig_isB (fun j => HS_isB _ _ j) hj
theorem lw_and (x : Int32) : ∃ c : Nat, c < 16 ∧ x &&& nI 15 = nI c := ⟨x.toBitVec.toNat % 2 ^ 4, Nat.mod_lt _ (by decide), pk_and x 4 (by decide)⟩
theorem lw_stay {i L : Nat} (hL : L ≤ 2048) (hi : i ≤ L) (h : ¬ (nI L - nI 4 < nI i)) : i + 4 ≤ L := by
  rw [Int32.lt_iff_toInt_lt, i_sub (by rw [nI_toInt (by omega), nI_toInt (by omega)]; omega) (by rw [nI_toInt (by omega), nI_toInt (by omega)]; omega), nI_toInt (by omega), nI_toInt (by omega), nI_toInt (by omega)] at h
  omega
def KI (X : Mm) : Prop := X.1 25 = X.1 59 ∧ X.1 24 = X.1 58 ∧ X.1 26 = X.1 60 ∧ bqn 64 (X.1 60) ∧ bqn 32 (X.1 27) ∧ bqn 32 (X.1 28) ∧ bqn 32 (X.1 29) ∧ X.1 62 = rdF (X.1 27) ∧ X.1 63 = rdF (X.1 28) ∧ X.1 64 = rdF (X.1 29)
def NI (X : Mm) : Prop := ∃ n : Nat, n ≤ 24 ∧ X.2.2 2 = nI n ∧ X.2.2 5 = nI n
def BI3 (X : Mm) : Prop := (∀ j, j < 68 → isB (X.1 67 j)) ∧ (∀ j, j < 68 → isB (X.1 22 j)) ∧ (∀ j, j < 48 → isB (X.1 32 j)) ∧ (∀ j, j < 48 → isB (X.1 43 j)) ∧ (∀ j, j < 48 → isB (X.1 79 j)) ∧ (∀ j, j < 62 → isB (X.1 68 j))
/-- what holds of both systems between two commands -/
def LI (X : Mm) : Prop := (X.1 19 = X.1 67 ∧ X.1 20 = X.1 68 ∧ X.1 18 = X.1 66 ∧ X.1 53 = rotT ∧ X.2.1 12 = rcT) ∧ NI X ∧ (X.2.2 0 = X.2.2 4 ∧ X.2.2 3 = nI 0) ∧ BI3 X ∧ (¬ X.2.2 4 = nI 0 → KI X)
theorem LI_mk {X Y : Mm} (h : LI X) (hi : ∀ k ∈ [22, 24, 25, 26, 27, 28, 29, 53, 58, 59, 60, 62, 63, 64], Y.1 k = X.1 k) (hl : Y.2.1 12 = X.2.1 12) (hf : ∀ k ∈ [0, 4], Y.2.2 k = X.2.2 k) (h3 : Y.2.2 3 = nI 0) (hn : NI Y) (e1 : Y.1 19 = Y.1 67) (e2 : Y.1 20 = Y.1 68) (e3 : Y.1 18 = Y.1 66) (b67 : ∀ j, j < 68 → isB (Y.1 67 j)) (b32 : ∀ j, j < 48 → isB (Y.1 32 j)) (b43 : ∀ j, j < 48 → isB (Y.1 43 j)) (b79 : ∀ j, j < 48 → isB (Y.1 79 j)) (b68 : ∀ j, j < 62 → isB (Y.1 68 j)) : LI Y := by
  obtain ⟨⟨_, _, _, h53, h12⟩, _, ⟨h0, _⟩, ⟨_, h22, _⟩, hk⟩ := h
  refine ⟨⟨e1, e2, e3, (hi 53 (by decide)).trans h53, hl.trans h12⟩, hn, ⟨by rw [hf 0 (by decide), hf 4 (by decide)]; exact h0, h3⟩, ⟨b67, fun j hj => by rw [hi 22 (by decide)]; exact h22 j hj, b32, b43, b79, b68⟩, fun h4 => ?_⟩
  rw [hf 4 (by decide)] at h4
  have k := hk h4
  unfold KI at k ⊢
  rw [hi 25 (by decide), hi 59 (by decide), hi 24 (by decide), hi 58 (by decide), hi 26 (by decide), hi 60 (by decide), hi 27 (by decide), hi 28 (by decide), hi 29 (by decide), hi 62 (by decide), hi 63 (by decide), hi 64 (by decide)]
  exact k
/-- a command that leaves all that matters -/
theorem LI_keep {X Y : Mm} (h : LI X) (hi : ∀ k ∈ [18, 19, 20, 22, 24, 25, 26, 27, 28, 29, 32, 53, 58, 59, 60, 62, 63, 64, 66, 67, 68], Y.1 k = X.1 k) (hl : Y.2.1 12 = X.2.1 12) (hf : ∀ k ∈ [0, 2, 4, 5], Y.2.2 k = X.2.2 k) (h3 : Y.2.2 3 = nI 0) (b43 : ∀ j, j < 48 → isB (Y.1 43 j)) (b79 : ∀ j, j < 48 → isB (Y.1 79 j)) : LI Y := by
  have h' := h
  obtain ⟨⟨q1, q2, q3, _, _⟩, ⟨n, hn, n2, n5⟩, _, ⟨b67, _, b32, _, _, b68⟩, _⟩ := h'
  refine LI_mk h (fun k hk => hi k ?_) hl (fun k hk => hf k ?_) h3 ⟨n, hn, (hf 2 (by decide)).trans n2, (hf 5 (by decide)).trans n5⟩ ?_ ?_ ?_ ?_ ?_ b43 b79 ?_
  · exact (show ∀ k ∈ [22, 24, 25, 26, 27, 28, 29, 53, 58, 59, 60, 62, 63, 64], k ∈ [18, 19, 20, 22, 24, 25, 26, 27, 28, 29, 32, 53, 58, 59, 60, 62, 63, 64, 66, 67, 68] by decide) k hk
  · exact (show ∀ k ∈ [0, 4], k ∈ [0, 2, 4, 5] by decide) k hk
  · rw [hi 19 (by decide), hi 67 (by decide)]; exact q1
  · rw [hi 20 (by decide), hi 68 (by decide)]; exact q2
  · rw [hi 18 (by decide), hi 66 (by decide)]; exact q3
  · intro j hj; rw [hi 67 (by decide)]; exact b67 j hj
  · intro j hj; rw [hi 32 (by decide)]; exact b32 j hj
  · intro j hj; rw [hi 68 (by decide)]; exact b68 j hj
