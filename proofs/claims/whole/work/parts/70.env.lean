set_option maxRecDepth 100000 in
theorem lw_nest : ∀ w ∈ nestW, w ∈ lw_tbl := by decide +kernel
theorem lw_arr {args : Array Value} {s : State} {ty : FieldType} (h : (Cond.arrayClass ty).before args s = true) : ∃ cA : ClassId, ArrOfT s cA ty ∧ s.vm.findClass ("[" ++ ty.toString) = some cA := by
  obtain ⟨cA, kA, comp, h1, h2, h3⟩ := Cond.arrayClass_spec h
  exact ⟨cA, fun n z => ⟨fun k h => (by cases h), kA, h2, comp, h3⟩, h1⟩
set_option maxHeartbeats 4000000 in
set_option maxRecDepth 100000 in
theorem lw_env {s : State} {b : Nat} (hts0 : ∀ w ∈ lw_tbl, w.before #[Value.ref b] s = true) (hgv : (Jvm.Cond.and given_1 narrow_1).before #[Value.ref b] s = true) : ∃ (D : va_G) (cs : ClassId × ClassId) (t1 t2 : Nat), va_K D classes (k_ty cs) s ∧ (∀ w ∈ nestW, va_Nw w s) ∧ (va_Z R_Hasher "ROUND_BITS" "[J" (.ref t1) (fun q => s.heap.size ≤ q) s s.heap ∧ va_T .long t1 24 (fun j => .long (rcT j)) (fun q => s.heap.size ≤ q) s s.heap) ∧ (va_Z R_Hasher "ROTATIONS" "[I" (.ref t2) (fun q => s.heap.size ≤ q) s s.heap ∧ va_T .int t2 25 (fun j => .int (rotT j)) (fun q => s.heap.size ≤ q) s s.heap) := by
  have hts := lw_words hts0
  have hs := flat_of_before _ hgv
  have hAA : ∀ a : Nat, a < s.heap.size → ¬ (fun q : Nat => s.heap.size ≤ q) a := fun a h => Nat.not_le.mpr h
  obtain ⟨c0, j0, hk0⟩ := u_known (C := R_SVS) (T := F_SVS) (N := 9) (n := 9) hts (fun w h => List.mem_cons_of_mem _ (in_SVS w h)) (hts _ (List.mem_cons_of_mem _ kw_18))
  obtain ⟨c1, j1, hk1⟩ := u_known (C := R_Hasher) (T := F_Hasher) (N := 5) (n := 5) hts (fun w h => List.mem_cons_of_mem _ (in_Hasher w h)) (hts _ (List.mem_cons_of_mem _ kw_26))
  obtain ⟨c2, j2, hk2⟩ := u_known (C := R_Message) (T := F_Message) (N := 2) (n := 2) hts (fun w h => List.mem_cons_of_mem _ (in_Message w h)) (hts _ (List.mem_cons_of_mem _ kw_50))
  obtain ⟨c3, j3, hk3⟩ := u_known (C := R_SecretKey) (T := F_SecretKey) (N := 9) (n := 9) hts (fun w h => List.mem_cons_of_mem _ (in_SecretKey w h)) (hts _ (List.mem_cons_of_mem _ kw_63))
  obtain ⟨c4, j4, hk4⟩ := u_known (C := R_Signing) (T := F_Signing) (N := 9) (n := 9) hts (fun w h => List.mem_cons_of_mem _ (in_Signing w h)) (hts _ (List.mem_cons_of_mem _ kw_104))
  obtain ⟨c5, j5, hk5⟩ := u_known (C := R_Transcript) (T := F_Transcript) (N := 3) (n := 3) hts (fun w h => List.mem_cons_of_mem _ (in_Transcript w h)) (hts _ (List.mem_cons_of_mem _ kw_110))
  obtain ⟨c6, j6, hk6⟩ := u_known (C := R_Verifying) (T := F_Verifying) (N := 9) (n := 9) hts (fun w h => List.mem_cons_of_mem _ (in_Verifying w h)) (hts _ (List.mem_cons_of_mem _ kw_156))
  obtain ⟨c7, j7, hk7⟩ := u_known (C := R_Md) (T := F_Md) (N := 35) (n := 35) hts (fun w h => List.mem_cons_of_mem _ (in_Md w h)) (hts _ (List.mem_cons_of_mem _ kw_587))
  obtain ⟨aI, hI1, hI2⟩ := lw_arr (hts _ (List.mem_cons_of_mem _ kw_48))
  obtain ⟨aJ, hJ1, hJ2⟩ := lw_arr (hts _ (List.mem_cons_of_mem _ kw_47))
  obtain ⟨t1, et1, Tt1⟩ := va_Tof (tm := (Term.static "ShortVectorSigner$Hasher" "ROUND_BITS" "[J")) (ty := .long) (N := 24) (f := fun j => .long (rcT j)) (A := fun q => s.heap.size ≤ q) (by decide) (hs (Cond.arrayOf (Term.static "ShortVectorSigner$Hasher" "ROUND_BITS" "[J") .long) (by decide +kernel)) (va_eqt (hs (Cond.eq (.length (Term.static "ShortVectorSigner$Hasher" "ROUND_BITS" "[J")) (.int 24)) (by decide +kernel))) (fun j hj => by
    match j, hj with
    | 0, _ => exact va_eqtl (hs (Cond.eq (.elem (Term.static "ShortVectorSigner$Hasher" "ROUND_BITS" "[J") (.int 0)) (.long 1)) (by decide +kernel))
    | 1, _ => exact va_eqtl (hs (Cond.eq (.elem (Term.static "ShortVectorSigner$Hasher" "ROUND_BITS" "[J") (.int 1)) (.long 32898)) (by decide +kernel))
    | 2, _ => exact va_eqtl (hs (Cond.eq (.elem (Term.static "ShortVectorSigner$Hasher" "ROUND_BITS" "[J") (.int 2)) (.long (-9223372036854742902))) (by decide +kernel))
    | 3, _ => exact va_eqtl (hs (Cond.eq (.elem (Term.static "ShortVectorSigner$Hasher" "ROUND_BITS" "[J") (.int 3)) (.long (-9223372034707259392))) (by decide +kernel))
    | 4, _ => exact va_eqtl (hs (Cond.eq (.elem (Term.static "ShortVectorSigner$Hasher" "ROUND_BITS" "[J") (.int 4)) (.long 32907)) (by decide +kernel))
    | 5, _ => exact va_eqtl (hs (Cond.eq (.elem (Term.static "ShortVectorSigner$Hasher" "ROUND_BITS" "[J") (.int 5)) (.long 2147483649)) (by decide +kernel))
    | 6, _ => exact va_eqtl (hs (Cond.eq (.elem (Term.static "ShortVectorSigner$Hasher" "ROUND_BITS" "[J") (.int 6)) (.long (-9223372034707259263))) (by decide +kernel))
    | 7, _ => exact va_eqtl (hs (Cond.eq (.elem (Term.static "ShortVectorSigner$Hasher" "ROUND_BITS" "[J") (.int 7)) (.long (-9223372036854743031))) (by decide +kernel))
    | 8, _ => exact va_eqtl (hs (Cond.eq (.elem (Term.static "ShortVectorSigner$Hasher" "ROUND_BITS" "[J") (.int 8)) (.long 138)) (by decide +kernel))
    | 9, _ => exact va_eqtl (hs (Cond.eq (.elem (Term.static "ShortVectorSigner$Hasher" "ROUND_BITS" "[J") (.int 9)) (.long 136)) (by decide +kernel))
    | 10, _ => exact va_eqtl (hs (Cond.eq (.elem (Term.static "ShortVectorSigner$Hasher" "ROUND_BITS" "[J") (.int 10)) (.long 2147516425)) (by decide +kernel))
    | 11, _ => exact va_eqtl (hs (Cond.eq (.elem (Term.static "ShortVectorSigner$Hasher" "ROUND_BITS" "[J") (.int 11)) (.long 2147483658)) (by decide +kernel))
    | 12, _ => exact va_eqtl (hs (Cond.eq (.elem (Term.static "ShortVectorSigner$Hasher" "ROUND_BITS" "[J") (.int 12)) (.long 2147516555)) (by decide +kernel))
    | 13, _ => exact va_eqtl (hs (Cond.eq (.elem (Term.static "ShortVectorSigner$Hasher" "ROUND_BITS" "[J") (.int 13)) (.long (-9223372036854775669))) (by decide +kernel))
    | 14, _ => exact va_eqtl (hs (Cond.eq (.elem (Term.static "ShortVectorSigner$Hasher" "ROUND_BITS" "[J") (.int 14)) (.long (-9223372036854742903))) (by decide +kernel))
    | 15, _ => exact va_eqtl (hs (Cond.eq (.elem (Term.static "ShortVectorSigner$Hasher" "ROUND_BITS" "[J") (.int 15)) (.long (-9223372036854743037))) (by decide +kernel))
    | 16, _ => exact va_eqtl (hs (Cond.eq (.elem (Term.static "ShortVectorSigner$Hasher" "ROUND_BITS" "[J") (.int 16)) (.long (-9223372036854743038))) (by decide +kernel))
    | 17, _ => exact va_eqtl (hs (Cond.eq (.elem (Term.static "ShortVectorSigner$Hasher" "ROUND_BITS" "[J") (.int 17)) (.long (-9223372036854775680))) (by decide +kernel))
    | 18, _ => exact va_eqtl (hs (Cond.eq (.elem (Term.static "ShortVectorSigner$Hasher" "ROUND_BITS" "[J") (.int 18)) (.long 32778)) (by decide +kernel))
    | 19, _ => exact va_eqtl (hs (Cond.eq (.elem (Term.static "ShortVectorSigner$Hasher" "ROUND_BITS" "[J") (.int 19)) (.long (-9223372034707292150))) (by decide +kernel))
    | 20, _ => exact va_eqtl (hs (Cond.eq (.elem (Term.static "ShortVectorSigner$Hasher" "ROUND_BITS" "[J") (.int 20)) (.long (-9223372034707259263))) (by decide +kernel))
    | 21, _ => exact va_eqtl (hs (Cond.eq (.elem (Term.static "ShortVectorSigner$Hasher" "ROUND_BITS" "[J") (.int 21)) (.long (-9223372036854742912))) (by decide +kernel))
    | 22, _ => exact va_eqtl (hs (Cond.eq (.elem (Term.static "ShortVectorSigner$Hasher" "ROUND_BITS" "[J") (.int 22)) (.long 2147483649)) (by decide +kernel))
    | 23, _ => exact va_eqtl (hs (Cond.eq (.elem (Term.static "ShortVectorSigner$Hasher" "ROUND_BITS" "[J") (.int 23)) (.long (-9223372034707259384))) (by decide +kernel))
    | j + 24, h => exact absurd h (by omega)) hAA
  obtain ⟨t2, et2, Tt2⟩ := va_Tof (tm := (Term.static "ShortVectorSigner$Hasher" "ROTATIONS" "[I")) (ty := .int) (N := 25) (f := fun j => .int (rotT j)) (A := fun q => s.heap.size ≤ q) (by decide) (hs (Cond.arrayOf (Term.static "ShortVectorSigner$Hasher" "ROTATIONS" "[I") .int) (by decide +kernel)) (va_eqt (hs (Cond.eq (.length (Term.static "ShortVectorSigner$Hasher" "ROTATIONS" "[I")) (.int 25)) (by decide +kernel))) (fun j hj => by
    match j, hj with
    | 0, _ => exact va_eqt (hs (Cond.eq (.elem (Term.static "ShortVectorSigner$Hasher" "ROTATIONS" "[I") (.int 0)) (.int 0)) (by decide +kernel))
    | 1, _ => exact va_eqt (hs (Cond.eq (.elem (Term.static "ShortVectorSigner$Hasher" "ROTATIONS" "[I") (.int 1)) (.int 1)) (by decide +kernel))
    | 2, _ => exact va_eqt (hs (Cond.eq (.elem (Term.static "ShortVectorSigner$Hasher" "ROTATIONS" "[I") (.int 2)) (.int 62)) (by decide +kernel))
    | 3, _ => exact va_eqt (hs (Cond.eq (.elem (Term.static "ShortVectorSigner$Hasher" "ROTATIONS" "[I") (.int 3)) (.int 28)) (by decide +kernel))
    | 4, _ => exact va_eqt (hs (Cond.eq (.elem (Term.static "ShortVectorSigner$Hasher" "ROTATIONS" "[I") (.int 4)) (.int 27)) (by decide +kernel))
    | 5, _ => exact va_eqt (hs (Cond.eq (.elem (Term.static "ShortVectorSigner$Hasher" "ROTATIONS" "[I") (.int 5)) (.int 36)) (by decide +kernel))
    | 6, _ => exact va_eqt (hs (Cond.eq (.elem (Term.static "ShortVectorSigner$Hasher" "ROTATIONS" "[I") (.int 6)) (.int 44)) (by decide +kernel))
    | 7, _ => exact va_eqt (hs (Cond.eq (.elem (Term.static "ShortVectorSigner$Hasher" "ROTATIONS" "[I") (.int 7)) (.int 6)) (by decide +kernel))
    | 8, _ => exact va_eqt (hs (Cond.eq (.elem (Term.static "ShortVectorSigner$Hasher" "ROTATIONS" "[I") (.int 8)) (.int 55)) (by decide +kernel))
    | 9, _ => exact va_eqt (hs (Cond.eq (.elem (Term.static "ShortVectorSigner$Hasher" "ROTATIONS" "[I") (.int 9)) (.int 20)) (by decide +kernel))
    | 10, _ => exact va_eqt (hs (Cond.eq (.elem (Term.static "ShortVectorSigner$Hasher" "ROTATIONS" "[I") (.int 10)) (.int 3)) (by decide +kernel))
    | 11, _ => exact va_eqt (hs (Cond.eq (.elem (Term.static "ShortVectorSigner$Hasher" "ROTATIONS" "[I") (.int 11)) (.int 10)) (by decide +kernel))
    | 12, _ => exact va_eqt (hs (Cond.eq (.elem (Term.static "ShortVectorSigner$Hasher" "ROTATIONS" "[I") (.int 12)) (.int 43)) (by decide +kernel))
    | 13, _ => exact va_eqt (hs (Cond.eq (.elem (Term.static "ShortVectorSigner$Hasher" "ROTATIONS" "[I") (.int 13)) (.int 25)) (by decide +kernel))
    | 14, _ => exact va_eqt (hs (Cond.eq (.elem (Term.static "ShortVectorSigner$Hasher" "ROTATIONS" "[I") (.int 14)) (.int 39)) (by decide +kernel))
    | 15, _ => exact va_eqt (hs (Cond.eq (.elem (Term.static "ShortVectorSigner$Hasher" "ROTATIONS" "[I") (.int 15)) (.int 41)) (by decide +kernel))
    | 16, _ => exact va_eqt (hs (Cond.eq (.elem (Term.static "ShortVectorSigner$Hasher" "ROTATIONS" "[I") (.int 16)) (.int 45)) (by decide +kernel))
    | 17, _ => exact va_eqt (hs (Cond.eq (.elem (Term.static "ShortVectorSigner$Hasher" "ROTATIONS" "[I") (.int 17)) (.int 15)) (by decide +kernel))
    | 18, _ => exact va_eqt (hs (Cond.eq (.elem (Term.static "ShortVectorSigner$Hasher" "ROTATIONS" "[I") (.int 18)) (.int 21)) (by decide +kernel))
    | 19, _ => exact va_eqt (hs (Cond.eq (.elem (Term.static "ShortVectorSigner$Hasher" "ROTATIONS" "[I") (.int 19)) (.int 8)) (by decide +kernel))
    | 20, _ => exact va_eqt (hs (Cond.eq (.elem (Term.static "ShortVectorSigner$Hasher" "ROTATIONS" "[I") (.int 20)) (.int 18)) (by decide +kernel))
    | 21, _ => exact va_eqt (hs (Cond.eq (.elem (Term.static "ShortVectorSigner$Hasher" "ROTATIONS" "[I") (.int 21)) (.int 2)) (by decide +kernel))
    | 22, _ => exact va_eqt (hs (Cond.eq (.elem (Term.static "ShortVectorSigner$Hasher" "ROTATIONS" "[I") (.int 22)) (.int 61)) (by decide +kernel))
    | 23, _ => exact va_eqt (hs (Cond.eq (.elem (Term.static "ShortVectorSigner$Hasher" "ROTATIONS" "[I") (.int 23)) (.int 56)) (by decide +kernel))
    | 24, _ => exact va_eqt (hs (Cond.eq (.elem (Term.static "ShortVectorSigner$Hasher" "ROTATIONS" "[I") (.int 24)) (.int 14)) (by decide +kernel))
    | j + 25, h => exact absurd h (by omega)) hAA
  refine ⟨(fun k => match k with | 0 => c0 | 1 => c1 | 2 => c2 | 3 => c3 | 4 => c4 | 5 => c5 | 6 => c6 | _ => c7, fun k => match k with | 0 => j0 | 1 => j1 | 2 => j2 | 3 => j3 | 4 => j4 | 5 => j5 | 6 => j6 | _ => j7), (aI, aJ), t1, t2, ⟨fun k q hq => ?_, fun k q hq => ?_⟩, fun w hw => va_Nw.of (nest_on hw) (hts0 w (lw_nest w hw)), ⟨va_Zref (hts0 _ (by decide +kernel)) (hts _ (List.mem_cons_of_mem _ kw_2)) et1 hAA, Tt1⟩, va_Zref (hts0 _ (by decide +kernel)) (hts _ (List.mem_cons_of_mem _ kw_2)) et2 hAA, Tt2⟩
  · match k, hq with
    | 0, hq => cases hq; exact hk0
    | 1, hq => cases hq; exact hk1
    | 2, hq => cases hq; exact hk2
    | 3, hq => cases hq; exact hk3
    | 4, hq => cases hq; exact hk4
    | 5, hq => cases hq; exact hk5
    | 6, hq => cases hq; exact hk6
    | 7, hq => cases hq; exact hk7
    | k + 8, hq => simp [classes] at hq
  · match k, hq with
    | 0, hq => cases hq; exact ⟨hI1, hI2⟩
    | 1, hq => cases hq; exact ⟨hJ1, hJ2⟩
    | k + 2, hq => simp at hq
