-- THE STATE OF A WALK, IN ONE WORD
def g_tys (V : Ev) : List (ClassId × FieldType) := [(g_cI V, .int), (g_cJ V, .long)]
def g_en (V : Ev) (U : State) (H : Heap) : Prop := va_K V.1 classes (g_tys V) U ∧ (∀ w ∈ nestW, va_Nw w U) ∧ (va_Z R_Hasher "ROUND_BITS" "[J" (.ref (g_t1 V)) (g_A V) U H ∧ va_T .long (g_t1 V) 24 (fun j => .long (rcT j)) (g_A V) U H) ∧ (va_Z R_Hasher "ROTATIONS" "[I" (.ref (g_t2 V)) (g_A V) U H ∧ va_T .int (g_t2 V) 25 (fun j => .int (rotT j)) (g_A V) U H)
def g_st (V : Ev) (X : Mm) (H0 H : Heap) (locs : List Loc) : Prop := va_P V.1 classes (g_wl V X) H ∧ va_D (g_A V) (g_wl V X) ∧ va_S (g_A V) H0 H locs
def g_at (V : Ev) (X : Mm) (U : State) : Prop := va_P V.1 classes (g_wl V X) U.heap ∧ va_D (g_A V) (g_wl V X) ∧ g_en V U U.heap
theorem nest_on {w : Cond} (hw : w ∈ nestW) : w.onTables = true := by
  rcases List.mem_append.mp hw with h | h
  · obtain ⟨q, -, rfl⟩ := List.mem_map.mp h
    rfl
  · obtain ⟨q, -, rfl⟩ := List.mem_map.mp h
    rfl
theorem nest_warm {w : Cond} (hw : w ∈ nestW) {s U : State} (hW : s.WarmedH U.vm) (h9 : va_Nw w s) : va_Nw w U := by
  rcases List.mem_append.mp hw with h | h
  · obtain ⟨q, -, rfl⟩ := List.mem_map.mp h
    exact va_Nw.warmF hW h9
  · obtain ⟨q, -, rfl⟩ := List.mem_map.mp h
    exact va_Nw.warmM hW h9
theorem g_en.moved {V : Ev} {s U : State} {H : Heap} {locs : List Loc} (hE : g_en V s s.heap) (hS : va_S (g_A V) s.heap H locs) (hU : U.heap = H) (hW : s.WarmedH U.vm) : g_en V U U.heap := by
  obtain ⟨hK, hN, ⟨z1, t1⟩, z2, t2⟩ := hE
  have hq : ∀ a : Nat, a < s.heap.size → ¬ g_A V a → H[a]? = s.heap[a]? := hS.2.1
  rw [hU]
  exact ⟨va_K.moved hW.alike hK, fun w hw => nest_warm hw hW (hN w hw), ⟨(z1.kept hq).moved hW.alike, (t1.kept hq).moved hW.alike⟩, (z2.kept hq).moved hW.alike, (t2.kept hq).moved hW.alike⟩
abbrev g_Pc (V : Ev) (X : Mm) (av : List Value) : Array Value → State → Prop := va_Pc av (fun U => g_at V X U)
abbrev g_Qv (V : Ev) (post : Mm → Prop) : Array Value → State → Outcome → State → Prop := va_Qv post (fun X' t => g_at V X' t) (g_A V)
abbrev g_Qi (V : Ev) (post : Int32 → Mm → Prop) : Array Value → State → Outcome → State → Prop := va_Qi post (fun X' t => g_at V X' t) (g_A V)
abbrev g_Ql (V : Ev) (post : Int64 → Mm → Prop) : Array Value → State → Outcome → State → Prop := va_Ql post (fun X' t => g_at V X' t) (g_A V)
abbrev g_Qr (V : Ev) (k : Nat) (post : Mm → Prop) : Array Value → State → Outcome → State → Prop := va_Qr post (fun X' a t => a = g_ad V k ∧ g_at V X' t) (g_A V)
theorem g_fb (V : Ev) (X : Mm) (av : List Value) : FrameBlind (g_Pc V X av) := by
  intro a U g mk q
  obtain ⟨q0, qP, qD, qK, qN, ⟨z1, t1⟩, z2, t2⟩ := q
  exact ⟨q0, qP, qD, va_K.moved (u := U) (U := U.calling g mk a) (Vm.Alike.refl U.vm) qK, fun w hw => va_Nw.same (nest_on hw) (u := U) (U := U.calling g mk a) rfl (qN w hw), ⟨z1.moved (u := U) (U := U.calling g mk a) (Vm.Alike.refl U.vm), t1.moved (u := U) (U := U.calling g mk a) (Vm.Alike.refl U.vm)⟩, z2.moved (u := U) (U := U.calling g mk a) (Vm.Alike.refl U.vm), t2.moved (u := U) (U := U.calling g mk a) (Vm.Alike.refl U.vm)⟩
theorem g_preS {V : Ev} {X : Mm} {s : State} {H : Heap} {locs : List Loc} {av : List Value} (hE : g_en V s s.heap) (hG : g_st V X s.heap H locs) : PreS s H (g_Pc V X av) av := ⟨g_fb V X av, fun U hU hW => ⟨rfl, by rw [hU]; exact hG.1, hG.2.1, hE.moved hG.2.2 hU hW⟩⟩
theorem g_preV {V : Ev} {X : Mm} {s : State} {H : Heap} {locs : List Loc} {As : List Value} {k0 ci : Nat} {fs : List Value} {q : vw_C} (hE : g_en V s s.heap) (hG : g_st V X s.heap H locs) (h80 : k0 < 80) (he : g_ce V X k0 = .inr (ci, fs)) (hc : classes[ci]? = some q) : PreV s H q.1 (g_ad V k0) (g_Pc V X (.ref (g_ad V k0) :: As)) As := ⟨g_fb V X _, va_recv hE.1 hG.1 hc (by rw [g_wl_at V X h80, he]), fun U hU hW => ⟨rfl, by rw [hU]; exact hG.1, hG.2.1, hE.moved hG.2.2 hU hW⟩⟩
theorem g_met {l : Launch} {y : MethodName} {cc : ByteArray} {maxL : Nat} {ret : Option FieldType} {rm : Room} {V : Ev} {X : Mm} {av : List Value} {Qc : Array Value → State → Outcome → State → Prop} (hy : plainName y.cls = true) (hn : (lg_sl av).length ≤ maxL)
    (body : ∀ (p : Program) (e : Env) (s : State) (m : MethodId) (below : List Frame) (meth : Method) (c : Code), p.tables.exec = Jvm.exec → c.code = cc → meth.sig.returnType = ret → c.maxLocals = maxL → s.vm.findClass y.cls = some m.cls → (∀ w ∈ (Cond.code y cc maxL ret :: WA), w.before av.toArray s = true) → meth.locks = false → g_en V s s.heap → g_st V X s.heap s.heap [] → ∀ ls : Array Slot, lv_has ls maxL (lv_args 0 av) →
      W p l e rm s m av.toArray below meth c s.heap [] 0 0 (MQ below Qc av.toArray s 0 0 (g_A V)) (F0 m 0 ls [])) : Met l y (Cond.code y cc maxL ret :: WA) rm (g_Pc V X av) Qc 0 0 (g_A V) := by
  refine Met.ofW (cc := cc) (maxL := maxL) (ret := ret) hy rfl ?_
  intro p e s m args below meth c s₁ B hml hv
  obtain ⟨rfl, hP, hD, hE⟩ := hv
  have hts := atoms_spec (ws := Cond.code y cc maxL ret :: WA) B.pre
  have hl := lv_entry av (n := maxL) hn
  have K := body p e s m below meth c B.exec B.bytes B.returns hml (findClass_of_methodNamed B.named) hts B.notSynchronized hE ⟨hP, hD, va_S.rf⟩ _ hl
  rw [lg_entry_eq]
  exact K
/-- a method that knows nothing of the cells -/
theorem g_metp {l : Launch} {y : MethodName} {cc : ByteArray} {maxL : Nat} {ret : Option FieldType} {rm : Room} {av : List Value} {Qc : Array Value → State → Outcome → State → Prop} (hy : plainName y.cls = true) (hn : (lg_sl av).length ≤ maxL)
    (body : ∀ (p : Program) (e : Env) (s : State) (m : MethodId) (below : List Frame) (meth : Method) (c : Code), p.tables.exec = Jvm.exec → c.code = cc → meth.sig.returnType = ret → c.maxLocals = maxL → s.vm.findClass y.cls = some m.cls → (∀ w ∈ (Cond.code y cc maxL ret :: WA), w.before av.toArray s = true) → meth.locks = false → ∀ ls : Array Slot, lv_has ls maxL (lv_args 0 av) →
      W p l e rm s m av.toArray below meth c s.heap [] 0 0 (MQ below Qc av.toArray s 0 0 (fun _ => False)) (F0 m 0 ls [])) : Met l y (Cond.code y cc maxL ret :: WA) rm (fun v _ => v = av.toArray) Qc 0 0 (fun _ => False) := by
  refine Met.ofW (cc := cc) (maxL := maxL) (ret := ret) hy rfl ?_
  intro p e s m args below meth c s₁ B hml hv
  subst hv
  have hts := atoms_spec (ws := Cond.code y cc maxL ret :: WA) B.pre
  have hl := lv_entry av (n := maxL) hn
  have K := body p e s m below meth c B.exec B.bytes B.returns hml (findClass_of_methodNamed B.named) hts B.notSynchronized _ hl
  rw [lg_entry_eq]
  exact K
section GR
variable {p : Program} {l : Launch} {e : Env} {R : Room} {s : State} {m : MethodId} {args : Array Value} {below : List Frame} {meth : Method} {c : Code} {H : Heap} {locs : List Loc} {cells slots : Nat} {Q : State → Prop} {cc : ByteArray} {pc : Nat} {ls : Array Slot} {rest st0 : List Value} {V : Ev} {X : Mm} {H0 : Heap} {a : Array Value}
theorem g_topi {x y : Int32} (h : x = y) (k : W p l e R s m args below meth c H locs cells slots Q (F0 m pc ls (.int y :: rest))) : W p l e R s m args below meth c H locs cells slots Q (F0 m pc ls (.int x :: rest)) := h ▸ k
theorem g_topl {x y : Int64} (h : x = y) (k : W p l e R s m args below meth c H locs cells slots Q (F0 m pc ls (.long y :: rest))) : W p l e R s m args below meth c H locs cells slots Q (F0 m pc ls (.long x :: rest)) := h ▸ k
theorem g_iald (hx : p.tables.exec = Jvm.exec) (hb : c.code = cc) (hE : g_en V s s.heap) (hG : g_st V X H0 H locs) (k : Nat) (hk : 17 ≤ k ∧ k < 80) (n : Nat) {i : Int32} (hi : i = nI n) (hn : n < g_len k) {v : Int32} (hv : X.1 k n = v) (hdg : decode cc pc = .ok (.iaload, 1))
    (kk : W p l e R s m args below meth c H locs cells slots Q (F0 m (pc + 1) ls (.int v :: rest))) : W p l e R s m args below meth c H locs cells slots Q (F0 m pc ls (.int i :: .ref (g_ad V k) :: rest)) := by
  subst hi
  subst hv
  have h31 : n < 2 ^ 31 := by have := g_len_le k; omega
  refine va_iald hx hb hE.1 hG.1 k 0 (by rw [g_wl_at V X hk.2, g_ce_i V X hk.1]) rfl (vp_in_nI hn (by have := g_len_le k; omega)) hdg ?_
  rw [nI_clamp h31]
  exact kk
theorem g_iast (hx : p.tables.exec = Jvm.exec) (hb : c.code = cc) (hE : g_en V s s.heap) (hG : g_st V X H0 H locs) (k : Nat) (hk : 17 ≤ k ∧ k < 80) (n : Nat) {i x : Int32} (hi : i = nI n) (hn : n < g_len k) (hdg : decode cc pc = .ok (.iastore, 1))
    (kk : ∀ (H1 : Heap) (locs1 : List Loc), g_st V (uI X k (upd (X.1 k) n x)) H0 H1 locs1 → W p l e R s m args below meth c H1 locs1 cells slots Q (F0 m (pc + 1) ls rest)) : W p l e R s m args below meth c H locs cells slots Q (F0 m pc ls (.int x :: .int i :: .ref (g_ad V k) :: rest)) := by
  subst hi
  have h31 : n < 2 ^ 31 := by have := g_len_le k; omega
  refine va_iast hx hb hE.1 hG.1 hG.2.1 hG.2.2 k 0 (by rw [g_wl_at V X hk.2, g_ce_i V X hk.1]) rfl (vp_in_nI hn (by have := g_len_le k; omega)) hdg (fun H1 locs1 hP hD hS => ?_)
  rw [nI_clamp h31, g_set_i V X hk.1 hk.2] at hP hD
  exact kk H1 locs1 ⟨hP, hD, hS⟩
theorem g_lald (hx : p.tables.exec = Jvm.exec) (hb : c.code = cc) (hE : g_en V s s.heap) (hG : g_st V X H0 H locs) (k : Nat) (hk : g_isL k = true) (n : Nat) {i : Int32} (hi : i = nI n) (hn : n < g_lenL k) {v : Int64} (hv : X.2.1 k n = v) (hdg : decode cc pc = .ok (.laload, 1))
    (kk : W p l e R s m args below meth c H locs cells slots Q (F0 m (pc + 1) ls (.long v :: rest))) : W p l e R s m args below meth c H locs cells slots Q (F0 m pc ls (.int i :: .ref (g_ad V k) :: rest)) := by
  subst hi
  subst hv
  have h8 : k < 80 ∧ g_lenL k ≤ 25 := by rcases g_isL_or hk with rfl | rfl | rfl | rfl | rfl | rfl | rfl | rfl <;> decide
  refine va_lald hx hb hE.1 hG.1 k 1 (by rw [g_wl_at V X h8.1, g_ce_l V X hk]) rfl (vp_in_nI hn (by omega)) hdg ?_
  rw [nI_clamp (by omega)]
  exact kk
theorem g_last (hx : p.tables.exec = Jvm.exec) (hb : c.code = cc) (hE : g_en V s s.heap) (hG : g_st V X H0 H locs) (k : Nat) (hk : g_isL k = true) (n : Nat) {i : Int32} {x : Int64} (hi : i = nI n) (hn : n < g_lenL k) (hdg : decode cc pc = .ok (.lastore, 1))
    (kk : ∀ (H1 : Heap) (locs1 : List Loc), g_st V (uL X k (vp_updL (X.2.1 k) n x)) H0 H1 locs1 → W p l e R s m args below meth c H1 locs1 cells slots Q (F0 m (pc + 1) ls rest)) : W p l e R s m args below meth c H locs cells slots Q (F0 m pc ls (.long x :: .int i :: .ref (g_ad V k) :: rest)) := by
  subst hi
  have h8 : k < 80 ∧ g_lenL k ≤ 25 := by rcases g_isL_or hk with rfl | rfl | rfl | rfl | rfl | rfl | rfl | rfl <;> decide
  refine va_last hx hb hE.1 hG.1 hG.2.1 hG.2.2 k 1 (by rw [g_wl_at V X h8.1, g_ce_l V X hk]) rfl (vp_in_nI hn (by omega)) hdg (fun H1 locs1 hP hD hS => ?_)
  rw [nI_clamp (by omega), g_set_l V X hk h8.1] at hP hD
  exact kk H1 locs1 ⟨hP, hD, hS⟩
theorem g_ilen (hx : p.tables.exec = Jvm.exec) (hb : c.code = cc) (hE : g_en V s s.heap) (hG : g_st V X H0 H locs) (k : Nat) (hk : 17 ≤ k ∧ k < 80) {n : Nat} (hn : g_len k = n) (hdg : decode cc pc = .ok (.arraylength, 1))
    (kk : W p l e R s m args below meth c H locs cells slots Q (F0 m (pc + 1) ls (.int (nI n) :: rest))) : W p l e R s m args below meth c H locs cells slots Q (F0 m pc ls (.ref (g_ad V k) :: rest)) := by
  subst hn
  exact va_alen hx hb hE.1 hG.1 k 0 (by rw [g_wl_at V X hk.2, g_ce_i V X hk.1]) rfl (v := nI (g_len k)) rfl hdg kk
theorem g_llen (hx : p.tables.exec = Jvm.exec) (hb : c.code = cc) (hE : g_en V s s.heap) (hG : g_st V X H0 H locs) (k : Nat) (hk : g_isL k = true) {n : Nat} (hn : g_lenL k = n) (hdg : decode cc pc = .ok (.arraylength, 1))
    (kk : W p l e R s m args below meth c H locs cells slots Q (F0 m (pc + 1) ls (.int (nI n) :: rest))) : W p l e R s m args below meth c H locs cells slots Q (F0 m pc ls (.ref (g_ad V k) :: rest)) := by
  subst hn
  have h8 : k < 80 ∧ g_lenL k ≤ 25 := by rcases g_isL_or hk with rfl | rfl | rfl | rfl | rfl | rfl | rfl | rfl <;> decide
  exact va_alen hx hb hE.1 hG.1 k 1 (by rw [g_wl_at V X h8.1, g_ce_l V X hk]) rfl (v := nI (g_lenL k)) rfl hdg kk
theorem g_get (hx : p.tables.exec = Jvm.exec) (hb : c.code = cc) {own ref C : String} {T : u_T} {N ci index : Nat} {Ts : List Cond} (hts : ∀ w ∈ Ts, w.before args s = true) (hin : ∀ w ∈ u_ws C T N, w ∈ Ts) (hown : s.vm.findClass own = some m.cls) (hE : g_en V s s.heap) (hG : g_st V X H0 H locs) (k0 : Nat) (h80 : k0 < 80) {fs : List Value} (he : g_ce V X k0 = .inr (ci, fs)) (hc : classes[ci]? = some (C, T, N)) (k : Nat) (hk : k < N) (hlink : (Cond.fieldLink own index ref (T k).2.1 (T k).2.2.1).before args s = true) (hsame : ∀ x, s.fieldFound? (T k).1 (T k).2.1 (T k).2.2.1 = some x → s.fieldFound? ref (T k).2.1 (T k).2.2.1 = some x) {v : Value} (hv : fs[k]? = some v) (hdg : decode cc pc = .ok (.getfield index, 3))
    (kk : W p l e R s m args below meth c H locs cells slots Q (F0 m (pc + 3) ls (v :: rest))) : W p l e R s m args below meth c H locs cells slots Q (F0 m pc ls (.ref (g_ad V k0) :: rest)) :=
  va_get hx hb hts hin hown hE.1 hG.1 k0 (by rw [g_wl_at V X h80, he]) hc k hk hlink hsame hv hdg kk
theorem g_getN (hx : p.tables.exec = Jvm.exec) (hb : c.code = cc) {own ref C host : String} {T : u_T} {N ci index : Nat} {Ts : List Cond} (hts : ∀ w ∈ Ts, w.before args s = true) (hin : ∀ w ∈ u_ws C T N, w ∈ Ts) (hown : s.vm.findClass own = some m.cls) (hE : g_en V s s.heap) (hG : g_st V X H0 H locs) (k0 : Nat) (h80 : k0 < 80) {fs : List Value} (he : g_ce V X k0 = .inr (ci, fs)) (hc : classes[ci]? = some (C, T, N)) (k : Nat) (hk : k < N) (hlink : Cond.fieldLinkNest own index ref (T k).2.1 (T k).2.2.1 host ∈ nestW) (hsame : ∀ x, s.fieldFound? (T k).1 (T k).2.1 (T k).2.2.1 = some x → s.fieldFound? ref (T k).2.1 (T k).2.2.1 = some x) {v : Value} (hv : fs[k]? = some v) (hdg : decode cc pc = .ok (.getfield index, 3))
    (kk : W p l e R s m args below meth c H locs cells slots Q (F0 m (pc + 3) ls (v :: rest))) : W p l e R s m args below meth c H locs cells slots Q (F0 m pc ls (.ref (g_ad V k0) :: rest)) :=
  va_getN hx hb hts hin hown hE.1 hG.1 k0 (by rw [g_wl_at V X h80, he]) hc k hk (va_Nw.use (nest_on hlink) (hE.2.1 _ hlink)) hsame hv hdg kk
theorem g_put (hx : p.tables.exec = Jvm.exec) (hb : c.code = cc) {own ref C : String} {T : u_T} {N ci index : Nat} {Ts : List Cond} (hts : ∀ w ∈ Ts, w.before args s = true) (hin : ∀ w ∈ u_ws C T N, w ∈ Ts) (ty0 : Nat → FieldType) (hty : ∀ k, k < N → parseFieldDescriptor (T k).2.2.1 = some (ty0 k)) (hnm : ∀ a, a < N → ∀ b, b < N → a ≠ b → (T a).2.1 ≠ (T b).2.1) (hown : s.vm.findClass own = some m.cls) (hE : g_en V s s.heap) (hG : g_st V X H0 H locs) (i : Nat) (hi : i < 6) {fs : List Value} (he : g_ce V X (g_own i) = .inr (ci, fs)) (hc : classes[ci]? = some (C, T, N)) (k : Nat) (hk : k < N) (hlink : (Cond.fieldLink own index ref (T k).2.1 (T k).2.2.1).before args s = true) (hsame : ∀ x, s.fieldFound? (T k).1 (T k).2.1 (T k).2.2.1 = some x → s.fieldFound? ref (T k).2.1 (T k).2.2.1 = some x) (hfin : (T k).2.2.2 = false) {ty : FieldType} {v : Int32} (hd : parseFieldDescriptor (T k).2.2.1 = some ty) (hn : narrow ty (.int v) = .int v) (hfit : fits ty (.int v) = true) (hl : k < fs.length) (hset : g_ce V (uF X i v) (g_own i) = .inr (ci, fs.set k (.int v)))
    (hdg : decode cc pc = .ok (.putfield index, 3)) (kk : ∀ (H1 : Heap) (locs1 : List Loc), g_st V (uF X i v) H0 H1 locs1 → W p l e R s m args below meth c H1 locs1 cells slots Q (F0 m (pc + 3) ls rest)) : W p l e R s m args below meth c H locs cells slots Q (F0 m pc ls (.int v :: .ref (g_ad V (g_own i)) :: rest)) := by
  have h80 : g_own i < 80 := by
    have hi6 : i = 0 ∨ i = 1 ∨ i = 2 ∨ i = 3 ∨ i = 4 ∨ i = 5 := by omega
    rcases hi6 with rfl | rfl | rfl | rfl | rfl | rfl <;> decide
  refine va_put hx hb hts hin ty0 hty hnm hown hE.1 hG.1 hG.2.1 hG.2.2 (g_own i) (by rw [g_wl_at V X h80, he]) hc k hk hlink hsame hfin hd hn hfit hl hdg (fun H1 locs1 hP hD hS => ?_)
  rw [g_set_f V X hi v hset.symm] at hP hD
  exact kk H1 locs1 ⟨hP, hD, hS⟩
theorem g_callv {post : Mm → Prop} (hr : va_Run p l e R s m args below meth c H locs cells slots 0 0 (F0 m pc ls st0) rest (g_Qv V post a) (g_A V)) (hG : g_st V X H0 H locs)
    (kk : ∀ (X1 : Mm) (H1 : Heap) (locs1 : List Loc), post X1 → g_st V X1 H0 H1 locs1 → W p l e R s m args below meth c H1 locs1 cells slots Q (F0 m (pc + 3) ls rest)) : W p l e R s m args below meth c H locs cells slots Q (F0 m pc ls st0) :=
  va_callv hr hG.2.2 (fun _ _ h => h) (fun _ h => h) (fun u t H1 locs1 ht _ hp hB _ _ hS => kk u H1 locs1 hp ⟨by rw [← ht]; exact hB.1, hB.2.1, hS⟩)
theorem g_calli {post : Int32 → Mm → Prop} (hr : va_Run p l e R s m args below meth c H locs cells slots 0 0 (F0 m pc ls st0) rest (g_Qi V post a) (g_A V)) (hG : g_st V X H0 H locs)
    (kk : ∀ (r : Int32) (X1 : Mm) (H1 : Heap) (locs1 : List Loc), post r X1 → g_st V X1 H0 H1 locs1 → W p l e R s m args below meth c H1 locs1 cells slots Q (F0 m (pc + 3) ls (.int r :: rest))) : W p l e R s m args below meth c H locs cells slots Q (F0 m pc ls st0) :=
  va_calli hr hG.2.2 (fun _ _ h => h) (fun _ h => h) (fun r u t H1 locs1 ht _ hp hB _ _ hS => kk r u H1 locs1 hp ⟨by rw [← ht]; exact hB.1, hB.2.1, hS⟩)
theorem g_calll {post : Int64 → Mm → Prop} (hr : va_Run p l e R s m args below meth c H locs cells slots 0 0 (F0 m pc ls st0) rest (g_Ql V post a) (g_A V)) (hG : g_st V X H0 H locs)
    (kk : ∀ (r : Int64) (X1 : Mm) (H1 : Heap) (locs1 : List Loc), post r X1 → g_st V X1 H0 H1 locs1 → W p l e R s m args below meth c H1 locs1 cells slots Q (F0 m (pc + 3) ls (.long r :: rest))) : W p l e R s m args below meth c H locs cells slots Q (F0 m pc ls st0) :=
  va_calll hr hG.2.2 (fun _ _ h => h) (fun _ h => h) (fun r u t H1 locs1 ht _ hp hB _ _ hS => kk r u H1 locs1 hp ⟨by rw [← ht]; exact hB.1, hB.2.1, hS⟩)
theorem g_callr {k : Nat} {post : Mm → Prop} (hr : va_Run p l e R s m args below meth c H locs cells slots 0 0 (F0 m pc ls st0) rest (g_Qr V k post a) (g_A V)) (hG : g_st V X H0 H locs)
    (kk : ∀ (X1 : Mm) (H1 : Heap) (locs1 : List Loc), post X1 → g_st V X1 H0 H1 locs1 → W p l e R s m args below meth c H1 locs1 cells slots Q (F0 m (pc + 3) ls (.ref (g_ad V k) :: rest))) : W p l e R s m args below meth c H locs cells slots Q (F0 m pc ls st0) :=
  va_callr hr hG.2.2 (fun _ _ h => h) (fun _ h => h) (fun u ra t H1 locs1 ht _ hp hB _ _ hS => by
    obtain ⟨e1, hB⟩ := hB
    rw [e1]
    exact kk u H1 locs1 hp ⟨by rw [← ht]; exact hB.1, hB.2.1, hS⟩)
/-- a call of a method that knows nothing of the cells -/
theorem g_callpi {post : Int32 → Prop} (hr : va_Run p l e R s m args below meth c H locs cells slots 0 0 (F0 m pc ls st0) rest (vp_Si post a) (fun _ => False))
    (kk : ∀ r : Int32, post r → W p l e R s m args below meth c H locs cells slots Q (F0 m (pc + 3) ls (.int r :: rest))) : W p l e R s m args below meth c H locs cells slots Q (F0 m pc ls st0) := vp_callSi (va_Run.run hr) kk
theorem g_callpl {post : Int64 → Prop} (hr : va_Run p l e R s m args below meth c H locs cells slots 0 0 (F0 m pc ls st0) rest (vp_Sl post a) (fun _ => False))
    (kk : ∀ r : Int64, post r → W p l e R s m args below meth c H locs cells slots Q (F0 m (pc + 3) ls (.long r :: rest))) : W p l e R s m args below meth c H locs cells slots Q (F0 m pc ls st0) := vp_callSl (va_Run.run hr) kk
theorem g_vret (hx : p.tables.exec = Jvm.exec) (hb : c.code = cc) (hr : meth.sig.returnType = none) (hlocks : meth.locks = false) (hE : g_en V s s.heap) (hG : g_st V X s.heap H locs) {post : Mm → Prop} (hp : post X) (hdg : decode cc pc = .ok (.return_, 1)) : W p l e R s m args below meth c H locs cells slots (MQ below (g_Qv V post) args s cells slots (g_A V)) (F0 m pc ls []) :=
  W.vret hx hb hr (fun t ht hW => ⟨⟨X, rfl, hp, by rw [ht]; exact hG.1, hG.2.1, hE.moved hG.2.2 ht hW⟩, hG.2.2.F ht⟩) hG.2.2.2.2 hdg hlocks
theorem g_iret {v : Int32} (hx : p.tables.exec = Jvm.exec) (hb : c.code = cc) (hr : meth.sig.returnType = some .int) (hlocks : meth.locks = false) (hE : g_en V s s.heap) (hG : g_st V X s.heap H locs) {post : Int32 → Mm → Prop} (hp : post v X) (hdg : decode cc pc = .ok (.ireturn, 1)) : W p l e R s m args below meth c H locs cells slots (MQ below (g_Qi V post) args s cells slots (g_A V)) (F0 m pc ls [.int v]) :=
  W.iret hx hb hr (fun t ht hW => ⟨⟨v, X, rfl, hp, by rw [ht]; exact hG.1, hG.2.1, hE.moved hG.2.2 ht hW⟩, hG.2.2.F ht⟩) hG.2.2.2.2 hdg hlocks
theorem g_zret {v : Int32} (hx : p.tables.exec = Jvm.exec) (hb : c.code = cc) (hr : meth.sig.returnType = some .boolean) (hlocks : meth.locks = false) (hE : g_en V s s.heap) (hG : g_st V X s.heap H locs) {post : Int32 → Mm → Prop} (hv : v = 0 ∨ v = 1) (hp : post v X) (hdg : decode cc pc = .ok (.ireturn, 1)) : W p l e R s m args below meth c H locs cells slots (MQ below (g_Qi V post) args s cells slots (g_A V)) (F0 m pc ls [.int v]) :=
  W.zret hx hb hr (by rcases hv with rfl | rfl <;> rfl) (fun t ht hW => ⟨⟨v, X, rfl, hp, by rw [ht]; exact hG.1, hG.2.1, hE.moved hG.2.2 ht hW⟩, hG.2.2.F ht⟩) hG.2.2.2.2 hdg hlocks
theorem g_lret {v : Int64} (hx : p.tables.exec = Jvm.exec) (hb : c.code = cc) (hr : meth.sig.returnType = some .long) (hlocks : meth.locks = false) (hE : g_en V s s.heap) (hG : g_st V X s.heap H locs) {post : Int64 → Mm → Prop} (hp : post v X) (hdg : decode cc pc = .ok (.lreturn, 1)) : W p l e R s m args below meth c H locs cells slots (MQ below (g_Ql V post) args s cells slots (g_A V)) (F0 m pc ls [.long v]) :=
  W.lret hx hb hr (fun t ht hW => ⟨⟨v, X, rfl, hp, by rw [ht]; exact hG.1, hG.2.1, hE.moved hG.2.2 ht hW⟩, hG.2.2.F ht⟩) hG.2.2.2.2 hdg hlocks
theorem g_aret {k : Nat} {rt : FieldType} (hx : p.tables.exec = Jvm.exec) (hb : c.code = cc) (hr : meth.sig.returnType = some (.array rt)) (hlocks : meth.locks = false) (hE : g_en V s s.heap) (hG : g_st V X s.heap H locs) {post : Mm → Prop} (hp : post X) (hdg : decode cc pc = .ok (.areturn, 1)) : W p l e R s m args below meth c H locs cells slots (MQ below (g_Qr V k post) args s cells slots (g_A V)) (F0 m pc ls [.ref (g_ad V k)]) :=
  W.aret hx hb hr (Or.inr ⟨_, rfl⟩) (Or.inr ⟨_, rfl⟩) (fun t ht hW => ⟨⟨X, g_ad V k, rfl, hp, rfl, by rw [ht]; exact hG.1, hG.2.1, hE.moved hG.2.2 ht hW⟩, hG.2.2.F ht⟩) hG.2.2.2.2 hdg hlocks
theorem g_iretp {v : Int32} (hx : p.tables.exec = Jvm.exec) (hb : c.code = cc) (hr : meth.sig.returnType = some .int) (hlocks : meth.locks = false) {post : Int32 → Prop} (hp : post v) (hdg : decode cc pc = .ok (.ireturn, 1)) : W p l e R s m args below meth c s.heap [] cells slots (MQ below (vp_Si post) args s cells slots (fun _ => False)) (F0 m pc ls [.int v]) :=
  W.iret hx hb hr (fun t ht hW => ⟨v, rfl, hp, ht⟩) (fun q h => by cases h) hdg hlocks
theorem g_zretp {v : Int32} (hx : p.tables.exec = Jvm.exec) (hb : c.code = cc) (hr : meth.sig.returnType = some .boolean) (hlocks : meth.locks = false) {post : Int32 → Prop} (hv : v = 0 ∨ v = 1) (hp : post v) (hdg : decode cc pc = .ok (.ireturn, 1)) : W p l e R s m args below meth c s.heap [] cells slots (MQ below (vp_Si post) args s cells slots (fun _ => False)) (F0 m pc ls [.int v]) :=
  W.zret hx hb hr (by rcases hv with rfl | rfl <;> rfl) (fun t ht hW => ⟨v, rfl, hp, ht⟩) (fun q h => by cases h) hdg hlocks
theorem g_lretp {v : Int64} (hx : p.tables.exec = Jvm.exec) (hb : c.code = cc) (hr : meth.sig.returnType = some .long) (hlocks : meth.locks = false) {post : Int64 → Prop} (hp : post v) (hdg : decode cc pc = .ok (.lreturn, 1)) : W p l e R s m args below meth c s.heap [] cells slots (MQ below (vp_Sl post) args s cells slots (fun _ => False)) (F0 m pc ls [.long v]) :=
  W.lret hx hb hr (fun t ht hW => ⟨v, rfl, hp, ht⟩) (fun q h => by cases h) hdg hlocks
end GR
theorem g_inc (i : Nat) : nI i + Int32.ofInt 1 = nI (i + 1) := nI_1 i
-- WORDS
theorem WA_ok {w : Cond} (h : w ∈ WA) : (w.onTables && w.keeps) = true ∨ ∃ ty, w = .arrayClass ty := good_of_word (WA_good w h)
theorem g_goodC {c0 : Cond} {L : List Cond} (h : ∀ w ∈ L, w ∈ WA) : GoodIn (c0 :: WA) (L ++ WA) := by
  intro w hw
  have hm : w ∈ WA := by
    rcases List.mem_append.mp hw with q | q
    · exact h w q
    · exact q
  exact ⟨List.mem_cons_of_mem _ hm, WA_ok hm⟩
theorem g_good {c0 c1 : Cond} (h : c1 ∈ WA) : GoodIn (c0 :: WA) (c1 :: WA) := by
  intro w hw
  have hm : w ∈ WA := by
    rcases List.mem_cons.mp hw with q | q
    · rw [q]; exact h
    · exact q
  exact ⟨List.mem_cons_of_mem _ hm, WA_ok hm⟩
theorem g_goodV {c0 c1 : Cond} {own C : String} {idx : Nat} {y : MethodName} (h : c1 ∈ WA) (h1 : Cond.methodLink own idx y ∈ WA) (h2 : Cond.instanceMethod y ∈ WA) (h3 : Cond.selects C y y ∈ WA) (h4 : Cond.initialized C ∈ WA) : GoodIn (c0 :: WA) (wsV own idx C y (c1 :: WA)) := by
  intro w hw
  have hm : w ∈ WA := by
    simp only [wsV, List.cons_append, List.nil_append, List.mem_cons] at hw
    rcases hw with rfl | rfl | rfl | rfl | rfl | q
    · exact h1
    · exact h2
    · exact h3
    · exact h4
    · exact h
    · exact q
  exact ⟨List.mem_cons_of_mem _ hm, WA_ok hm⟩
theorem g_goodS {c0 c1 : Cond} {own : String} {idx : Nat} {y : MethodName} (h : c1 ∈ WA) (h1 : Cond.methodLink own idx y ∈ WA) (h2 : Cond.static y ∈ WA) (h4 : Cond.initialized y.cls ∈ WA) : GoodIn (c0 :: WA) (va_wsS own idx y (c1 :: WA)) := by
  intro w hw
  have hm : w ∈ WA := by
    simp only [va_wsS, List.cons_append, List.nil_append, List.mem_cons] at hw
    rcases hw with rfl | rfl | rfl | rfl | q
    · exact h1
    · exact h2
    · exact h4
    · exact h
    · exact q
  exact ⟨List.mem_cons_of_mem _ hm, WA_ok hm⟩
-- A ROW COUNTS UP TO ITS LENGTH ALONE
theorem arr_ext (cI : ClassId) (N : Nat) (f g : Nat → Value) (h : ∀ j, j < N → f j = g j) : arrV cI N f = arrV cI N g := by
  have e : (fun j : Fin N => f j.val) = fun j : Fin N => g j.val := funext fun j => h j.val j.isLt
  unfold arrV
  rw [e]
theorem g_D {A : Nat → Prop} {V : Ev} {X : Mm} (Y : Mm) (h : va_D A (g_wl V X)) : va_D A (g_wl V Y) := by
  have key : ∀ (k : Nat) (q : Nat × va_E), (g_wl V Y)[k]? = some q → k < 80 ∧ q.1 = g_ad V k := by
    intro k q hq
    have hk : k < 80 := by
      have := (List.getElem?_eq_some_iff.mp hq).1
      simpa [g_wl] using this
    rw [g_wl_at V Y hk] at hq
    cases hq
    exact ⟨hk, rfl⟩
  refine ⟨fun i j x y hi hj hxy => ?_, fun k q hq => ?_⟩
  · obtain ⟨i8, ei⟩ := key i x hi
    obtain ⟨j8, ej⟩ := key j y hj
    exact h.1 i j _ _ (g_wl_at V X i8) (g_wl_at V X j8) (by rw [← ei, ← ej]; exact hxy)
  · obtain ⟨k8, ek⟩ := key k q hq
    rw [ek]
    exact h.2 k _ (g_wl_at V X k8)
theorem g_P_of {V : Ev} {X Y : Mm} {H : Heap} (hP : va_P V.1 classes (g_wl V X) H) (k : Nat) (ho : ∀ j, j < 80 → j ≠ k → g_ce V Y j = g_ce V X j) (hk : k < 80 → va_at V.1 classes (g_ad V k, g_ce V Y k) H) : va_P V.1 classes (g_wl V Y) H := by
  intro j q hq
  have hj : j < 80 := by
    have := (List.getElem?_eq_some_iff.mp hq).1
    simpa [g_wl] using this
  rw [g_wl_at V Y hj] at hq
  cases hq
  by_cases h : j = k
  · subst h
    exact hk hj
  · rw [ho j hj h]
    exact hP j _ (g_wl_at V X hj)
theorem g_xi {V : Ev} {X : Mm} {H0 H : Heap} {locs : List Loc} (hG : g_st V X H0 H locs) (k : Nat) (hk : 17 ≤ k ∧ k < 80) (f : Nat → Int32) (h : ∀ j, j < g_len k → f j = X.1 k j) : g_st V (uI X k f) H0 H locs := by
  refine ⟨g_P_of hG.1 k (fun j _ hj => g_ce_uI V X f hj) (fun _ => ?_), g_D _ hG.2.1, hG.2.2⟩
  have h1 := hG.1 k _ (g_wl_at V X hk.2)
  rw [g_ce_i V X hk.1] at h1
  rw [g_ce_i V _ hk.1]
  have e : (uI X k f).1 k = f := uI_s X k f
  rw [e]
  show H[g_ad V k]? = some (vp_cell (g_cI V) (g_len k, Sum.inl f))
  rw [vp_cell_i, arr_ext (g_cI V) (g_len k) (fun j => Value.int (f j)) (fun j => Value.int (X.1 k j)) (fun j hj => by rw [h j hj])]
  exact h1
theorem g_xl {V : Ev} {X : Mm} {H0 H : Heap} {locs : List Loc} (hG : g_st V X H0 H locs) (k : Nat) (hk : g_isL k = true) (f : Nat → Int64) (h : ∀ j, j < g_lenL k → f j = X.2.1 k j) : g_st V (uL X k f) H0 H locs := by
  have h8 : k < 80 := by rcases g_isL_or hk with rfl | rfl | rfl | rfl | rfl | rfl | rfl | rfl <;> decide
  refine ⟨g_P_of hG.1 k (fun j h9 hj => g_ce_uL V X f h9 hj) (fun _ => ?_), g_D _ hG.2.1, hG.2.2⟩
  have h1 := hG.1 k _ (g_wl_at V X h8)
  rw [g_ce_l V X hk] at h1
  rw [g_ce_l V _ hk]
  have e : (uL X k f).2.1 k = f := uL_s X k f
  rw [e]
  show H[g_ad V k]? = some (vp_cell (g_cJ V) (g_lenL k, Sum.inr (Sum.inl f)))
  rw [vp_cell_l, arr_ext (g_cJ V) (g_lenL k) (fun j => Value.long (f j)) (fun j => Value.long (X.2.1 k j)) (fun j hj => by rw [h j hj])]
  exact h1
-- COMPARES OF NUMBERS
theorem g_eq {x y : Nat} (hx : x < 2 ^ 31) (hy : y < 2 ^ 31) : nI x = nI y ↔ x = y := nI_eq hx hy
theorem g_eqN {x y : Nat} (hx : x < 2 ^ 31) (hy : y < 2 ^ 31) : (¬ nI x = nI y) ↔ ¬ x = y := not_congr (nI_eq hx hy)
theorem g_ne {x y : Nat} (hx : x < 2 ^ 31) (hy : y < 2 ^ 31) : (¬ nI x = nI y) ↔ ¬ x = y := not_congr (nI_eq hx hy)
theorem g_neN {x y : Nat} (hx : x < 2 ^ 31) (hy : y < 2 ^ 31) : nI x = nI y ↔ x = y := nI_eq hx hy
theorem g_lt {x y : Nat} (hx : x < 2 ^ 31) (hy : y < 2 ^ 31) : nI x < nI y ↔ x < y := nI_ltI hx hy
theorem g_ltN {x y : Nat} (hx : x < 2 ^ 31) (hy : y < 2 ^ 31) : (¬ nI x < nI y) ↔ y ≤ x := (not_congr (nI_ltI hx hy)).trans Nat.not_lt
theorem g_ge {x y : Nat} (hx : x < 2 ^ 31) (hy : y < 2 ^ 31) : nI y ≤ nI x ↔ y ≤ x := nI_leI hy hx
theorem g_geN {x y : Nat} (hx : x < 2 ^ 31) (hy : y < 2 ^ 31) : (¬ nI y ≤ nI x) ↔ x < y := (not_congr (nI_leI hy hx)).trans Nat.not_le
theorem g_gt {x y : Nat} (hx : x < 2 ^ 31) (hy : y < 2 ^ 31) : nI y < nI x ↔ y < x := nI_ltI hy hx
theorem g_gtN {x y : Nat} (hx : x < 2 ^ 31) (hy : y < 2 ^ 31) : (¬ nI y < nI x) ↔ x ≤ y := (not_congr (nI_ltI hy hx)).trans Nat.not_lt
theorem g_le {x y : Nat} (hx : x < 2 ^ 31) (hy : y < 2 ^ 31) : nI x ≤ nI y ↔ x ≤ y := nI_leI hx hy
theorem g_leN {x y : Nat} (hx : x < 2 ^ 31) (hy : y < 2 ^ 31) : (¬ nI x ≤ nI y) ↔ y < x := (not_congr (nI_leI hx hy)).trans Nat.not_le
