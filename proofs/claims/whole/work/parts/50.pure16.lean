-- THE REFERENCE READS HINTS
def okR (sg : Nat → Nat) (n : Nat) : Prop := ∀ k, k < n → (sg 61 ≤ k → sg (48 + k) = 0) ∧ (k < sg 61 → sg (48 + k) < 16 ∧ (k = 0 ∨ k = sg 60 ∨ sg (47 + k) < sg (48 + k)))
def hrN (sg : Nat → Nat) : Nat → Nat → Int32
  | 0 => fun _ => nI 0
  | k + 1 => if k < sg 61 then upd (hrN sg k) (if k < sg 60 then sg (48 + k) else 16 + sg (48 + k)) (nI 1) else hrN sg k
theorem ok_R {sg : Nat → Nat} (h1 : sg 60 ≤ sg 61) (h2 : sg 61 ≤ 12) : hOK sg ↔ okR sg 12 := by
  constructor
  · intro h k hk
    refine ⟨fun hb => h.2.2.2.2 k hb hk, fun hb => ?_⟩
    by_cases hf : k < sg 60
    · have q := h.2.2.1 k hf
      rw [show 48 + 0 + k = 48 + k by omega] at q
      refine ⟨q.1, ?_⟩
      rcases q.2 with e | e
      · exact Or.inl e
      · rw [show 48 + k - 1 = 47 + k by omega] at e
        exact Or.inr (Or.inr e)
    · have q := h.2.2.2.1 (k - sg 60) (by omega)
      rw [show 48 + sg 60 + (k - sg 60) = 48 + k by omega] at q
      refine ⟨q.1, ?_⟩
      rcases q.2 with e | e
      · exact Or.inr (Or.inl (by omega))
      · rw [show 48 + k - 1 = 47 + k by omega] at e
        exact Or.inr (Or.inr e)
  · intro h
    refine ⟨h1, h2, fun k hk => ?_, fun k hk => ?_, fun k hb hk => (h k hk).1 hb⟩
    · have q := (h k (by omega)).2 (by omega)
      rw [show 48 + 0 + k = 48 + k by omega]
      refine ⟨q.1, ?_⟩
      rcases q.2 with e | e | e
      · exact Or.inl e
      · exact absurd e (by omega)
      · rw [show 48 + k - 1 = 47 + k by omega]
        exact Or.inr e
    · have q := (h (sg 60 + k) (by omega)).2 (by omega)
      rw [show 48 + sg 60 + k = 48 + (sg 60 + k) by omega]
      refine ⟨q.1, ?_⟩
      by_cases hk0 : k = 0
      · exact Or.inl hk0
      · rcases q.2 with e | e | e
        · exact absurd e (by omega)
        · exact absurd e (by omega)
        · rw [show 48 + (sg 60 + k) - 1 = 47 + (sg 60 + k) by omega]
          exact Or.inr e
theorem hr_lo {sg : Nat → Nat} (h1 : sg 60 ≤ sg 61) : ∀ k, k ≤ sg 60 → hrN sg k = rpN (fun _ => nI 0) sg 0 0 k
  | 0, _ => rfl
  | k + 1, hk => by
    have ih := hr_lo h1 k (by omega)
    show (if k < sg 61 then upd (hrN sg k) (if k < sg 60 then sg (48 + k) else 16 + sg (48 + k)) (nI 1) else hrN sg k) = upd (rpN (fun _ => nI 0) sg 0 0 k) (0 + sg (48 + 0 + k)) (nI 1)
    rw [if_pos (show k < sg 61 by omega), if_pos (show k < sg 60 by omega), ih, Nat.zero_add, show 48 + 0 + k = 48 + k by omega]
theorem hr_hi {sg : Nat → Nat} (h1 : sg 60 ≤ sg 61) : ∀ k, sg 60 + k ≤ sg 61 → hrN sg (sg 60 + k) = rpN (rpN (fun _ => nI 0) sg 0 0 (sg 60)) sg 16 (sg 60) k
  | 0, _ => hr_lo h1 (sg 60) (Nat.le_refl _)
  | k + 1, hk => by
    have ih := hr_hi h1 k (by omega)
    show (if sg 60 + k < sg 61 then upd (hrN sg (sg 60 + k)) (if sg 60 + k < sg 60 then sg (48 + (sg 60 + k)) else 16 + sg (48 + (sg 60 + k))) (nI 1) else hrN sg (sg 60 + k)) = upd (rpN (rpN (fun _ => nI 0) sg 0 0 (sg 60)) sg 16 (sg 60) k) (16 + sg (48 + sg 60 + k)) (nI 1)
    rw [if_pos (show sg 60 + k < sg 61 by omega), if_neg (show ¬ sg 60 + k < sg 60 by omega), ih, show 48 + (sg 60 + k) = 48 + sg 60 + k by omega]
theorem hr_out {sg : Nat → Nat} : ∀ d, hrN sg (sg 61 + d) = hrN sg (sg 61)
  | 0 => rfl
  | d + 1 => by
    show (if sg 61 + d < sg 61 then _ else hrN sg (sg 61 + d)) = _
    rw [if_neg (by omega)]
    exact hr_out d
theorem hr_12 {sg : Nat → Nat} (h1 : sg 60 ≤ sg 61) (h2 : sg 61 ≤ 12) : hrN sg 12 = hRD sg := by
  have e := hr_out (sg := sg) (12 - sg 61)
  rw [show sg 61 + (12 - sg 61) = 12 by omega] at e
  have e2 := hr_hi h1 (sg 61 - sg 60) (by omega)
  rw [show sg 60 + (sg 61 - sg 60) = sg 61 by omega] at e2
  rw [e, e2]
  rfl
theorem rt_eq (p : Nat → Int32) (i : Nat) : redP (256 * (rdN p 8 (i * 15) 15).toInt64) = rdF (rtP p) i := by
  have hin : 0 ≤ (rtP p i).toInt ∧ (rtP p i).toInt < 8380417 := by
    unfold rtP
    exact redP_in _
  refine Eq.trans ?_ (rd_fix hin).symm
  unfold rtP
  obtain ⟨a, ha, ea⟩ := rdN_in p 8 (i * 15) 15 (by decide)
  rw [ea]
  have hi : (nI a).toInt = (a : Int) := nI_toInt (by omega)
  have h256 : (nI 256).toInt = 256 := by decide
  have h256l : (256 : Int64).toInt = 256 := by decide
  apply redP_cg
  rw [l_mul (by rw [Int32.toInt_toInt64, hi, h256l]; omega) (by rw [Int32.toInt_toInt64, hi, h256l]; omega), Int32.toInt_toInt64, Int32.toInt_toInt64, i_mul (by rw [hi, h256]; omega) (by rw [hi, h256]; omega), hi, h256, h256l]
theorem rtP_in (p : Nat → Int32) : bqn 32 (rtP p) := fun j _ => by
  have := redP_in (nI 256 * rdN p 8 (j * 15) 15).toInt64
  unfold rtP
  omega
