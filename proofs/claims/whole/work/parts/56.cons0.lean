-- CONSTRUCTORS: the cells that a constructor makes, in the order in which it makes them
abbrev k_ty (cs : ClassId × ClassId) : List (ClassId × FieldType) := [(cs.1, .int), (cs.2, .long)]
abbrev zI : Nat → Int32 := fun _ => 0
abbrev zJ : Nat → Int64 := fun _ => 0
def k_at (D : va_G) (cs : ClassId × ClassId) (ws : va_W) (sz : Nat) (U : State) : Prop := U.heap.size = sz ∧ va_P D classes ws U.heap ∧ va_D (fun _ => True) ws ∧ va_K D classes (k_ty cs) U ∧ ∀ w ∈ nestW, va_Nw w U
abbrev k_Pc (D : va_G) (cs : ClassId × ClassId) (h0 : Nat) (ws : va_W) (sz : Nat) : Array Value → State → Prop := va_Pc [.ref h0] (fun U => k_at D cs ws sz U)
abbrev k_Q (D : va_G) (W1 : (Nat → Nat) → va_W) (A : Nat → Prop) : Array Value → State → Outcome → State → Prop := va_Qv (fun _ : Nat → Nat => True) (fun u t => va_P D classes (W1 u) t.heap ∧ va_D A (W1 u)) A
theorem k_fb (D : va_G) (cs : ClassId × ClassId) (h0 : Nat) (ws : va_W) (sz : Nat) : FrameBlind (k_Pc D cs h0 ws sz) := by
  intro a U g mk q
  obtain ⟨q0, q1, qP, qD, qK, qN⟩ := q
  exact ⟨q0, q1, qP, qD, va_K.moved (u := U) (U := U.calling g mk a) (Vm.Alike.refl U.vm) qK, fun w hw => va_Nw.same (nest_on hw) (u := U) (U := U.calling g mk a) rfl (qN w hw)⟩
theorem k_pre {D : va_G} {cs : ClassId × ClassId} {h0 : Nat} {ws : va_W} {A : Nat → Prop} {s : State} {H : Heap} (hK : va_K D classes (k_ty cs) s) (hN : ∀ w ∈ nestW, va_Nw w s) (hP : va_P D classes ws H) (hD : va_D A ws) : PreS s H (k_Pc D cs h0 ws H.size) [.ref h0] := ⟨k_fb D cs h0 ws H.size, fun U hU hW => ⟨rfl, by rw [hU], by rw [hU]; exact hP, hD.weaken (fun _ _ _ _ => trivial), va_K.moved hW.alike hK, fun w hw => nest_warm hw hW (hN w hw)⟩⟩
theorem k_met {l : Launch} {y : MethodName} {cc : ByteArray} {maxL : Nat} {rm : Room} {D : va_G} {cs : ClassId × ClassId} {h0 sz : Nat} {ws : va_W} {W1 : (Nat → Nat) → va_W} {mc ms : Nat} (hy : plainName y.cls = true) (hn : 1 ≤ maxL) (hyn : y.name = "<init>")
    (body : ∀ (p : Program) (e : Env) (s : State) (m : MethodId) (below : List Frame) (meth : Method) (c : Code), p.tables.exec = Jvm.exec → c.code = cc → meth.sig.returnType = none → c.maxLocals = maxL → s.vm.findClass y.cls = some m.cls → (∀ w ∈ (Cond.code y cc maxL none :: WA), w.before #[Value.ref h0] s = true) → meth.locks = false → meth.name = "<init>" → va_K D classes (k_ty cs) s → (∀ w ∈ nestW, va_Nw w s) → ∀ A : Nat → Prop, (∀ q : Nat, s.heap.size ≤ q → A q) → va_P D classes ws s.heap → va_D A ws → va_S A s.heap s.heap [] → ∀ ls : Array Slot, lv_has ls maxL [(0, .ref h0)] →
      W p l e rm s m #[Value.ref h0] below meth c s.heap [] 0 0 (MQ below (k_Q D W1 A) #[Value.ref h0] s mc ms A) (F0 m 0 ls [])) : Met l y (Cond.code y cc maxL none :: WA) rm (k_Pc D cs h0 ws sz) (k_Q D W1 (va_A ws sz)) mc ms (va_A ws sz) := by
  refine Met.ofW (cc := cc) (maxL := maxL) (ret := none) hy rfl ?_
  intro p e s m args below meth c s₁ B hml hv
  obtain ⟨rfl, hsz, hP, hD0, hK, hN⟩ := hv
  have hts := atoms_spec (ws := Cond.code y cc maxL none :: WA) B.pre
  have hin : meth.name = "<init>" := (name_of_methodNamed B.named B.method).1.trans hyn
  subst hsz
  have hD := hD0.self (sz := s.heap.size)
  have hl := lv_entry ([.ref h0]) (n := maxL) hn
  have K := body p e s m below meth c B.exec B.bytes B.returns hml (findClass_of_methodNamed B.named) hts B.notSynchronized hin hK hN (va_A ws s.heap.size) (fun q h => Or.inr h) hP hD va_S.rf _ hl
  rw [lg_entry_eq]
  exact K
section KR
variable {p : Program} {l : Launch} {e : Env} {R : Room} {s : State} {m : MethodId} {args : Array Value} {below : List Frame} {meth : Method} {c : Code} {H : Heap} {locs : List Loc} {cells slots : Nat} {Q : State → Prop} {cc : ByteArray} {pc : Nat} {ls : Array Slot} {rest : List Value} {D : va_G} {cs : ClassId × ClassId} {ws : va_W} {H0 : Heap} {A : Nat → Prop}
theorem k_newi (hx : p.tables.exec = Jvm.exec) (hb : c.code = cc) (harr : (Cond.arrayClass .int).before args s = true) (hK : va_K D classes (k_ty cs) s) (hP : va_P D classes ws H) (hD : va_D A ws) (hS : va_S A H0 H locs) (hA : ∀ q, H0.size ≤ q → A q) {i : Int32} {N : Nat} (hn : ¬ i < 0) (hN : i.toNatClampNeg = N) (hbytes : N ≤ 136) (hcells : cells + 1 ≤ R.cells) (hslots : slots + N ≤ R.slots) (hdg : decode cc pc = .ok (.newarray .int, 2))
    (kk : ∀ (q : Nat) (H1 : Heap), va_P D classes (ws ++ [(q, .inl (cs.1, N, .inl zI))]) H1 → va_D A (ws ++ [(q, .inl (cs.1, N, .inl zI))]) → va_S A H0 H1 locs → W p l e R s m args below meth c H1 locs (cells + 1) (slots + N) Q (F0 m (pc + 2) ls (.ref q :: rest))) : W p l e R s m args below meth c H locs cells slots Q (F0 m pc ls (.int i :: rest)) := by
  refine va_newa (atype := .int) (ty := .int) hx hb harr rfl hK hP hD hS hA (a0 := (N, .inl zI)) (fun cA => rfl) hn hN (by show N * 4 ≤ 536870912; omega) hcells hslots hdg (fun q cA H1 hK1 hP1 hD1 hS1 => ?_)
  have h1 : s.vm.findClass ("[" ++ (FieldType.int).toString) = some cA := (hK1.2 2 (cA, .int) rfl).2
  have h2 : s.vm.findClass ("[" ++ (FieldType.int).toString) = some cs.1 := (hK.2 0 (cs.1, .int) rfl).2
  have e : cA = cs.1 := Option.some.inj (h1.symm.trans h2)
  rw [e] at hP1 hD1
  exact kk q H1 hP1 hD1 hS1
theorem k_newl (hx : p.tables.exec = Jvm.exec) (hb : c.code = cc) (harr : (Cond.arrayClass .long).before args s = true) (hK : va_K D classes (k_ty cs) s) (hP : va_P D classes ws H) (hD : va_D A ws) (hS : va_S A H0 H locs) (hA : ∀ q, H0.size ≤ q → A q) {i : Int32} {N : Nat} (hn : ¬ i < 0) (hN : i.toNatClampNeg = N) (hbytes : N ≤ 136) (hcells : cells + 1 ≤ R.cells) (hslots : slots + N ≤ R.slots) (hdg : decode cc pc = .ok (.newarray .long, 2))
    (kk : ∀ (q : Nat) (H1 : Heap), va_P D classes (ws ++ [(q, .inl (cs.2, N, .inr (.inl zJ)))]) H1 → va_D A (ws ++ [(q, .inl (cs.2, N, .inr (.inl zJ)))]) → va_S A H0 H1 locs → W p l e R s m args below meth c H1 locs (cells + 1) (slots + N) Q (F0 m (pc + 2) ls (.ref q :: rest))) : W p l e R s m args below meth c H locs cells slots Q (F0 m pc ls (.int i :: rest)) := by
  refine va_newa (atype := .long) (ty := .long) hx hb harr rfl hK hP hD hS hA (a0 := (N, .inr (.inl zJ))) (fun cA => rfl) hn hN (by show N * 8 ≤ 536870912; omega) hcells hslots hdg (fun q cA H1 hK1 hP1 hD1 hS1 => ?_)
  have h1 : s.vm.findClass ("[" ++ (FieldType.long).toString) = some cA := (hK1.2 2 (cA, .long) rfl).2
  have h2 : s.vm.findClass ("[" ++ (FieldType.long).toString) = some cs.2 := (hK.2 1 (cs.2, .long) rfl).2
  have e : cA = cs.2 := Option.some.inj (h1.symm.trans h2)
  rw [e] at hP1 hD1
  exact kk q H1 hP1 hD1 hS1
end KR
