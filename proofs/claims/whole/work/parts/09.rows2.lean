section GC
variable {p : Program} {l : Launch} {e : Env} {R : Room} {s : State} {m : MethodId} {args : Array Value} {below : List Frame} {meth : Method} {c : Code} {H : Heap} {locs : List Loc} {cells slots : Nat} {Q : State → Prop} {cc : ByteArray} {pc : Nat} {ls : Array Slot} {rest : List Value} {V : Ev} {X : Mm} {H0 : Heap}
theorem g_copy (hx : p.tables.exec = Jvm.exec) (hb : c.code = cc) (hml : c.maxLocals = ls.size) {own : String} {index : Nat} (hown : s.vm.findClass own = some m.cls) (hlink : (Cond.methodLink own index arraycopyName).before args s = true) (hnat : (Cond.native arraycopyName).before args s = true) (hstat : (Cond.static arraycopyName).before args s = true) (hini : (Cond.initialized R_System).before args s = true) (hE : g_en V s s.heap) (hG : g_st V X H0 H locs) (ks kd : Nat) (hks : 17 ≤ ks ∧ ks < 80) (hkd : 17 ≤ kd ∧ kd < 80) {sp dp n : Nat} (h1 : sp + n ≤ g_len ks) (h2 : dp + n ≤ g_len kd) (hframes : 1 ≤ R.frames) (hlocals : (rest.map fun v => v.category).sum + (nativeFrameWords "java/lang/System" "arraycopy" 5 + 11) ≤ R.locals) (hdg : decode cc pc = .ok (.invokestatic index, 3))
    (kk : ∀ (H1 : Heap) (locs1 : List Loc), g_st V (uI X kd (va_cpy (X.1 ks) (X.1 kd) sp dp n)) H0 H1 locs1 → W p l e R s m args below meth c H1 locs1 cells slots Q (F0 m (pc + 3) ls rest)) : W p l e R s m args below meth c H locs cells slots Q (F0 m pc ls (.int (nI n) :: .int (nI dp) :: .ref (g_ad V kd) :: .int (nI sp) :: .ref (g_ad V ks) :: rest)) := by
  have l1 := g_len_le ks
  have l2 := g_len_le kd
  have c1 : (nI sp).toNatClampNeg = sp := nI_clamp (by omega)
  have c2 : (nI dp).toNatClampNeg = dp := nI_clamp (by omega)
  have c3 : (nI n).toNatClampNeg = n := nI_clamp (by omega)
  refine va_copyi hx hb hml hown hlink hnat hstat hini hE.1 hG.1 hG.2.1 hG.2.2 ks kd 0 0 (ty := .int) (by rw [g_wl_at V X hks.2, g_ce_i V X hks.1]) (by rw [g_wl_at V X hkd.2, g_ce_i V X hkd.1]) rfl rfl rfl (nI_pos (by omega)) (nI_pos (by omega)) (nI_pos (by omega)) (by rw [c1, c3]; exact h1) (by rw [c2, c3]; exact h2) (fun _ _ => rfl) hframes hlocals hdg (fun H1 locs1 hP hD hS => ?_)
  rw [c1, c2, c3, g_set_i V X hkd.1 hkd.2] at hP hD
  exact kk H1 locs1 ⟨hP, hD, hS⟩
end GC
def abI (x : Int32) : Int32 := if 0 ≤ x then x else 0 - x
def mxI (x y : Int32) : Int32 := if x < y then y else x
theorem wrN_y (f : Nat → Int32) (fm at_ : Nat) (x : Int32) (k : Nat) (h : (x >>> (nI k &&& 31)) &&& nI 1 = nI 1) : upd (wrN f fm at_ x k) (fm + (at_ + k) / 8) (wrN f fm at_ x k (fm + (at_ + k) / 8) ||| (nI 1 <<< (nI ((at_ + k) % 8) &&& 31))) = wrN f fm at_ x (k + 1) := by
  show _ = upd _ _ (wrB x k ((at_ + k) % 8) _)
  unfold wrB
  rw [if_pos h]
theorem wrN_n (f : Nat → Int32) (fm at_ : Nat) (x : Int32) (k : Nat) (h : ¬ (x >>> (nI k &&& 31)) &&& nI 1 = nI 1) : upd (wrN f fm at_ x k) (fm + (at_ + k) / 8) (wrN f fm at_ x k (fm + (at_ + k) / 8) &&& ((nI 1 <<< (nI ((at_ + k) % 8) &&& 31)) ^^^ (-1))) = wrN f fm at_ x (k + 1) := by
  show _ = upd _ _ (wrB x k ((at_ + k) % 8) _)
  unfold wrB
  rw [if_neg h]
def szN (f : Nat → Int32) : Nat → Int32
  | 0 => nI 0
  | i + 1 => mxI (szN f i) (abI (cenP (redP (f i).toInt64)))
theorem mmP_lo (m v : Nat → Int32) {i : Nat} (hi : i < 16) : mmP m v i = redP (pA (shI m 0) (shI v 0) i 16 + pA (shI m 16) (shI v 16) i 16) := by
  unfold mmP
  rw [show i / 16 = 0 by omega, show i % 16 = i by omega]
theorem mmP_hi (m v : Nat → Int32) {i : Nat} (hi : i < 16) : mmP m v (16 + i) = redP (pA (shI m 32) (shI v 0) i 16 + pA (shI m 48) (shI v 16) i 16) := by
  unfold mmP
  rw [show (16 + i) / 16 = 1 by omega, show (16 + i) % 16 = i by omega]
theorem mpP_lo (m v : Nat → Int32) {i : Nat} (hi : i < 16) : mpP m v i = redP (pA (shI m 0) (shI v 0) i 16) := by
  unfold mpP
  rw [show i / 16 = 0 by omega, show i % 16 = i by omega]
theorem mpP_hi (m v : Nat → Int32) {i : Nat} (hi : i < 16) : mpP m v (16 + i) = redP (pA (shI m 0) (shI v 16) i 16) := by
  unfold mpP
  rw [show (16 + i) / 16 = 1 by omega, show (16 + i) % 16 = i by omega]
theorem ni_1 {k a : Nat} (h : a ≠ k) : a ∉ [k] := fun q => h (List.mem_singleton.mp q)
