/-! methods' contracts over the pure heap, and calls -/
def rj_Q (X9 : rj_X) (w : Option Value) (σ1 : rj_H) : Array Value → State → Outcome → State → Prop := fun _ st o t => o = .returned w ∧ rj_hp X9 σ1 t.heap ∧ va_F (rj_A X9) st t
/-- the method x, at the depth d1, with av over σ, answers w, and σ1 is the heap then -/
def rj_Call (X9 : rj_X) (d1 : Nat) (x : MethodName) (c1 : ByteArray) (n1 : Nat) (r1 : Option FieldType) (av : List Value) (σ : rj_H) (w : Option Value) (σ1 : rj_H) : Prop :=
  σ.1 ≤ σ1.1 ∧ σ.2.1 ≤ σ1.2.1 ∧ Met X9.1 x (.code x c1 n1 r1 :: rj_tbl) ({ frames := d1, cells := σ1.1 - σ.1, slots := σ1.2.1 - σ.2.1, locals := 48 * d1 }) (va_Pc av (fun U => rj_hp X9 σ U.heap ∧ rj_K X9 U)) (rj_Q X9 w σ1) (σ1.1 - σ.1) (σ1.2.1 - σ.2.1) (rj_A X9)
theorem rj_good : ∀ w ∈ rj_tbl, w ∈ rj_tbl ∧ ((w.onTables && w.keeps) = true ∨ ∃ ty, w = .arrayClass ty) := fun w h => ⟨h, good_of_word (List.mem_filter.mp h).2⟩
theorem rj_goodIn {ws : List Cond} (h : ∀ w ∈ ws, w ∈ rj_tbl) : GoodIn rj_tbl ws := fun w hw => rj_good w (h w hw)
theorem rj_blind {X9 : rj_X} {av : List Value} {σ : rj_H} : FrameBlind (va_Pc av (fun U => rj_hp X9 σ U.heap ∧ rj_K X9 U)) := fun a U g mk q => ⟨q.1, q.2.1, q.2.2.same rfl rfl⟩
theorem rj_call {X9 : rj_X} {d1 : Nat} {x : MethodName} {c1 : ByteArray} {n1 : Nat} {r1 : Option FieldType} {av : List Value} {σ σ1 : rj_H} {w : Option Value} (hy : plainName x.cls = true) (hsz : (lg_sl av).length ≤ n1) (hm : σ.1 ≤ σ1.1 ∧ σ.2.1 ≤ σ1.2.1) (k : rj_Run X9 x c1 n1 r1 d1 w σ1 0 (lv_args 0 av) [] σ) : rj_Call X9 d1 x c1 n1 r1 av σ w σ1 := by
  refine ⟨hm.1, hm.2, Met.ofW (cc := c1) (maxL := n1) (ret := r1) hy rfl ?_⟩
  intro p e s m args below meth c s₁ B hml hv
  obtain ⟨rfl, hP, hK⟩ := hv
  have hts := atoms_spec (ws := .code x c1 n1 r1 :: rj_tbl) B.pre
  have hown : s.vm.findClass x.cls = some m.cls := findClass_of_methodNamed B.named
  have hnm : meth.name = x.name := (name_of_methodNamed B.named B.method).1
  have hl := lv_entry av (n := n1) hsz
  have hlocks := B.notSynchronized
  rw [lg_entry_eq]
  refine k p e _ s m _ below meth c s.heap [] 0 0 _ _ ⟨B.exec, B.bytes, hml, hown, hnm, fun w hw => hts w (List.mem_cons_of_mem _ hw), hK, Nat.le_refl _, Nat.le_refl _, hl, hP, va_S.rf, σ.1, σ.2.1, Nat.zero_add _, Nat.zero_add _, ?_, ?_, ?_⟩
  · show σ1.1 ≤ σ1.1 - σ.1 + σ.1; omega
  · show σ1.2.1 ≤ σ1.2.1 - σ.2.1 + σ.2.1; omega
  · intro H' locs' cells' slots' pc' ls' e1 e2 hP' hS' hrt
    have e3 : cells' = σ1.1 - σ.1 := by omega
    have e4 : slots' = σ1.2.1 - σ.2.1 := by omega
    subst e3; subst e4
    have hq : ∀ t : State, t.heap = H' → s.WarmedH t.vm → rj_Q X9 w σ1 av.toArray s (.returned w) t := fun t ht hW => ⟨rfl, by rw [ht]; exact hP', hS'.F ht⟩
    match w, hrt, hq with
    | none, hrt, hq => exact W.vret B.exec B.bytes (B.returns.trans hrt.1) hq hS'.2.2 hrt.2 hlocks
    | some (.int y), hrt, hq =>
      obtain ⟨h1, ty, h2, h3⟩ := hrt
      exact W.zret B.exec B.bytes (B.returns.trans h2) h3 hq hS'.2.2 h1 hlocks
    | some (.long y), hrt, hq => exact W.lret B.exec B.bytes (B.returns.trans hrt.1) hq hS'.2.2 hrt.2 hlocks
    | some (.ref a), hrt, hq =>
      obtain ⟨h1, n, h2⟩ := hrt
      exact W.aret B.exec B.bytes (B.returns.trans h2) (Or.inl ⟨n, rfl⟩) (Or.inr ⟨a, rfl⟩) hq hS'.2.2 h1 hlocks
    | some .null, hrt, hq =>
      obtain ⟨h1, n, h2⟩ := hrt
      exact W.aret B.exec B.bytes (B.returns.trans h2) (Or.inl ⟨n, rfl⟩) (Or.inl rfl) hq hS'.2.2 h1 hlocks
    | some (.float y), hrt, hq => exact absurd hrt id
    | some (.double y), hrt, hq => exact absurd hrt id
    | some (.retAddr y), hrt, hq => exact absurd hrt id
/-- the words of a call's place: static; virtual of the named class itself; inherited or overriding; of the class above; constructors -/
def rj_wS (own : String) (idx : Nat) (x : MethodName) (c1 : ByteArray) (n1 : Nat) (r1 : Option FieldType) (n : Nat) : Prop := Cond.methodLink own idx x ∈ rj_tbl ∧ Cond.static x ∈ rj_tbl ∧ Cond.initialized x.cls ∈ rj_tbl ∧ Cond.code x c1 n1 r1 ∈ rj_tbl ∧ (x.cls ≠ "java/lang/invoke/MethodHandle" ∧ x.cls ≠ "java/lang/invoke/VarHandle" ∧ (parseMethodDescriptor x.desc).map (fun d => d.parameters.length) = some n) ∧ n1 ≤ 29
def rj_wV (own : String) (idx : Nat) (x : MethodName) (c1 : ByteArray) (n1 : Nat) (r1 : Option FieldType) (n : Nat) : Prop := Cond.methodLink own idx x ∈ rj_tbl ∧ Cond.instanceMethod x ∈ rj_tbl ∧ Cond.selects x.cls x x ∈ rj_tbl ∧ Cond.initialized x.cls ∈ rj_tbl ∧ Cond.code x c1 n1 r1 ∈ rj_tbl ∧ (x.cls ≠ "java/lang/invoke/MethodHandle" ∧ x.cls ≠ "java/lang/invoke/VarHandle" ∧ (parseMethodDescriptor x.desc).map (fun d => d.parameters.length) = some n) ∧ n1 ≤ 29
def rj_wU (own : String) (idx : Nat) (C owner : String) (x0 x : MethodName) (c1 : ByteArray) (n1 : Nat) (r1 : Option FieldType) (n : Nat) : Prop := Cond.methodLink own idx x0 ∈ rj_tbl ∧ Cond.sameMethod x0.cls owner x0.name x0.desc ∈ rj_tbl ∧ Cond.instanceMethod ⟨owner, x0.name, x0.desc⟩ ∈ rj_tbl ∧ Cond.selects C x0 x ∈ rj_tbl ∧ Cond.instanceMethod x ∈ rj_tbl ∧ Cond.initialized x.cls ∈ rj_tbl ∧ Cond.code x c1 n1 r1 ∈ rj_tbl ∧ (∃ b0 m0 r0, Cond.code ⟨owner, x0.name, x0.desc⟩ b0 m0 r0 ∈ rj_tbl) ∧ (owner ≠ "java/lang/invoke/MethodHandle" ∧ owner ≠ "java/lang/invoke/VarHandle" ∧ (parseMethodDescriptor x0.desc).map (fun d => d.parameters.length) = some n) ∧ n1 ≤ 29
def rj_wP (own : String) (idx : Nat) (x : MethodName) (c1 : ByteArray) (n1 : Nat) (r1 : Option FieldType) (n : Nat) : Prop := Cond.methodLink own idx x ∈ rj_tbl ∧ Cond.sameMethod x.cls x.cls x.name x.desc ∈ rj_tbl ∧ Cond.superclass own x.cls ∈ rj_tbl ∧ Cond.instanceMethod x ∈ rj_tbl ∧ Cond.initialized x.cls ∈ rj_tbl ∧ Cond.code x c1 n1 r1 ∈ rj_tbl ∧ (x.name ≠ "<init>" ∧ (parseMethodDescriptor x.desc).map (fun d => d.parameters.length) = some n) ∧ n1 ≤ 29
def rj_wI (own : String) (idx : Nat) (x : MethodName) (c1 : ByteArray) (n1 : Nat) (n : Nat) : Prop := Cond.methodLink own idx x ∈ rj_tbl ∧ Cond.instanceMethod x ∈ rj_tbl ∧ Cond.initialized x.cls ∈ rj_tbl ∧ Cond.code x c1 n1 none ∈ rj_tbl ∧ x.name = "<init>" ∧ (x.cls ≠ "java/lang/invoke/MethodHandle" ∧ x.cls ≠ "java/lang/invoke/VarHandle" ∧ (parseMethodDescriptor x.desc).map (fun d => d.parameters.length) = some n) ∧ n1 ≤ 29
def rj_wN (own : String) (idx : Nat) (x : MethodName) (host : String) (c1 : ByteArray) (n1 : Nat) (n : Nat) : Prop := (own, idx, x, host) ∈ rj_nst ∧ Cond.instanceMethod x ∈ rj_tbl ∧ Cond.initialized x.cls ∈ rj_tbl ∧ Cond.code x c1 n1 none ∈ rj_tbl ∧ x.name = "<init>" ∧ (x.cls ≠ "java/lang/invoke/MethodHandle" ∧ x.cls ≠ "java/lang/invoke/VarHandle" ∧ (parseMethodDescriptor x.desc).map (fun d => d.parameters.length) = some n) ∧ n1 ≤ 29
section RJC
variable {X9 : rj_X} {y9 : MethodName} {cc : ByteArray} {nL : Nat} {rt9 : Option FieldType} {d9 : Nat} {v9 : Option Value} {τ9 : rj_H} {pc : Nat} {lv : List (Nat × Value)} {rest : List Value} {σ σ1 : rj_H}
variable {p : Program} {e : Env} {R : Room} {s : State} {m : MethodId} {args : Array Value} {below : List Frame} {meth : Method} {c : Code} {H : Heap} {locs : List Loc} {cells slots : Nat} {ls : Array Slot} {Q : State → Prop}
theorem rj_after {st : List Value} {w : Option Value} {a : Array Value} (hC : rj_C X9 y9 cc nL rt9 d9 v9 τ9 lv σ p e R s m args below meth c H locs cells slots ls Q) (hr : va_Run p X9.1 e R s m args below meth c H locs cells slots (σ1.1 - σ.1) (σ1.2.1 - σ.2.1) (F0 m pc ls st) rest (rj_Q X9 w σ1 a) (rj_A X9)) (hm : σ.1 ≤ σ1.1 ∧ σ.2.1 ≤ σ1.2.1) (kk : rj_Run X9 y9 cc nL rt9 d9 v9 τ9 (pc + 3) lv (w.toList ++ rest) σ1) : W p X9.1 e R s m args below meth c H locs cells slots Q (F0 m pc ls st) := by
  obtain ⟨h1, h2, h3, h4, h5, h6, h7, h8, h9, h10, h11, hS, zc, zs, z1, z2, z3, z4, z5⟩ := hC
  intro T hT X
  obtain ⟨v, st₀, t, T', L, h0, X', hL, e1, e2, ⟨hv, hP1, hz, hk⟩, st⟩ := hr T hT X
  cases hv
  rw [h0] at hz hk
  obtain ⟨t2, a1, b1⟩ := kk p e R s m args below meth c T'.heap (locs ++ L) (cells + (σ1.1 - σ.1)) (slots + (σ1.2.1 - σ.2.1)) ls Q ⟨h1, h2, h3, h4, h5, h6, h7, h8, h9, h10, by rw [e1]; exact hP1, ⟨Nat.le_trans hS.1 (by rw [e1]; exact hz), fun q g1 g2 => by rw [e1, hk q (Nat.lt_of_lt_of_le g1 hS.1) g2]; exact hS.2.1 q g1 g2, fun q hq => by
      rcases List.mem_append.mp hq with h | h
      · exact hS.2.2 q h
      · exact hL q h⟩, zc, zs, by omega, by omega, z3, z4, z5⟩ T' rfl X'
  exact ⟨t2, st t2 a1, b1⟩
theorem rj_C.pre (hC : rj_C X9 y9 cc nL rt9 d9 v9 τ9 lv σ p e R s m args below meth c H locs cells slots ls Q) {av : List Value} : PreS s H (va_Pc av (fun U => rj_hp X9 σ U.heap ∧ rj_K X9 U)) av := ⟨rj_blind, fun U hU hW => ⟨rfl, by rw [hU]; exact hC.hp, hC.K.next hW hU hC.S⟩⟩
theorem rj_C.room (hC : rj_C X9 y9 cc nL rt9 d9 v9 τ9 lv σ p e R s m args below meth c H locs cells slots ls Q) (hr : σ1.1 ≤ τ9.1 ∧ σ1.2.1 ≤ τ9.2.1) (hm : σ.1 ≤ σ1.1 ∧ σ.2.1 ≤ σ1.2.1) : cells + (σ1.1 - σ.1) ≤ R.cells ∧ slots + (σ1.2.1 - σ.2.1) ≤ R.slots := by
  obtain ⟨h1, h2, h3, h4, h5, h6, h7, h8, h9, h10, h11, hS, zc, zs, z1, z2, z3, z4, z5⟩ := hC
  omega
theorem rj_C.fl (hC : rj_C X9 y9 cc nL rt9 d9 v9 τ9 lv σ p e R s m args below meth c H locs cells slots ls Q) {d1 n1 : Nat} (hd : d1 + 1 ≤ d9) (hn : n1 ≤ 29) : d1 + 1 ≤ R.frames ∧ 8 + (n1 + 11) + 48 * d1 ≤ R.locals := by
  obtain ⟨h1, h2, h3, h4, h5, h6, h7, h8, h9, h10⟩ := hC
  omega
theorem rj_C.fix (hC : rj_C X9 y9 cc nL rt9 d9 v9 τ9 lv σ p e R s m args below meth c H locs cells slots ls Q) : CallFix p m c cc nL s args rj_tbl y9.cls := ⟨hC.1, hC.2.1, hC.2.2.1, hC.own, hC.ts⟩
theorem rj_callS {idx n d1 n1 : Nat} {x : MethodName} {c1 : ByteArray} {r1 : Option FieldType} {av st : List Value} {w : Option Value} (hw : rj_wS y9.cls idx x c1 n1 r1 n) (hn : av.length = n) (hd : d1 + 1 ≤ d9) (hcall : rj_Call X9 d1 x c1 n1 r1 av σ w σ1) (hr : σ1.1 ≤ τ9.1 ∧ σ1.2.1 ≤ τ9.2.1) (hst : st = av.reverse ++ rest) (hcat : (rest.map fun v => v.category).sum ≤ 8) (hdg : decode cc pc = .ok (.invokestatic idx, 3)) (kk : rj_Run X9 y9 cc nL rt9 d9 v9 τ9 (pc + 3) lv (w.toList ++ rest) σ1) : rj_Run X9 y9 cc nL rt9 d9 v9 τ9 pc lv st σ := by
  intro p e R s m args below meth c H locs cells slots ls Q hC
  obtain ⟨w1, w2, w3, w4, w5, w6⟩ := hw
  obtain ⟨m1, m2, hM⟩ := hcall
  subst hst
  refine rj_after hC (va_runS (As := av) (n := n) hC.fix hM (va_cwS n hC.ts (rj_goodIn fun q hq => ?_) rfl rfl rfl w5 (hC.fl hd w6)) hC.pre rfl hn hC.has.1 rfl (lv_room hcat) hdg (hC.room hr ⟨m1, m2⟩)) ⟨m1, m2⟩ kk
  rcases List.mem_append.mp hq with h | h
  · simp only [List.mem_cons, List.not_mem_nil, or_false] at h
    rcases h with rfl | rfl | rfl <;> assumption
  · rcases List.mem_cons.mp h with rfl | h <;> assumption
theorem rj_callV {idx n d1 n1 a ci : Nat} {x : MethodName} {c1 : ByteArray} {r1 : Option FieldType} {av st : List Value} {w : Option Value} {T : u_T} {N : Nat} {ty : Nat → FieldType} {fs : List Value} (hw : rj_wV y9.cls idx x c1 n1 r1 n) (hcl : rj_cl ci x.cls T N ty) (ha : σ.2.2 a = some (.inr (ci, fs))) (hn : av.length = n) (hd : d1 + 1 ≤ d9) (hcall : rj_Call X9 d1 x c1 n1 r1 (.ref a :: av) σ w σ1) (hr : σ1.1 ≤ τ9.1 ∧ σ1.2.1 ≤ τ9.2.1) (hst : st = av.reverse ++ .ref a :: rest) (hcat : (rest.map fun v => v.category).sum ≤ 8) (hdg : decode cc pc = .ok (.invokevirtual idx, 3)) (kk : rj_Run X9 y9 cc nL rt9 d9 v9 τ9 (pc + 3) lv (w.toList ++ rest) σ1) : rj_Run X9 y9 cc nL rt9 d9 v9 τ9 pc lv st σ := by
  intro p e R s m args below meth c H locs cells slots ls Q hC
  obtain ⟨w1, w2, w3, w4, w7, w5, w6⟩ := hw
  obtain ⟨m1, m2, hM⟩ := hcall
  subst hst
  have hp := hC.pre (av := .ref a :: av)
  refine rj_after hC (va_runV (C := x.cls) (As := av) (n := n) hC.fix hM (cwV n hC.ts (rj_goodIn fun q hq => ?_) rfl rfl rfl ⟨rfl, w5⟩ (hC.fl hd w6)) ⟨hp.1, hC.recv hcl ha, hp.2⟩ rfl hn hC.has.1 rfl (lv_room hcat) hdg (hC.room hr ⟨m1, m2⟩)) ⟨m1, m2⟩ kk
  rcases List.mem_append.mp hq with h | h
  · simp only [List.mem_cons, List.not_mem_nil, or_false] at h
    rcases h with rfl | rfl | rfl | rfl <;> assumption
  · rcases List.mem_cons.mp h with rfl | h <;> assumption
theorem rj_callU {idx n d1 n1 a ci : Nat} {C owner : String} {x0 x : MethodName} {c1 : ByteArray} {r1 : Option FieldType} {av st : List Value} {w : Option Value} {T : u_T} {N : Nat} {ty : Nat → FieldType} {fs : List Value} (hw : rj_wU y9.cls idx C owner x0 x c1 n1 r1 n) (hcl : rj_cl ci C T N ty) (ha : σ.2.2 a = some (.inr (ci, fs))) (hn : av.length = n) (hd : d1 + 1 ≤ d9) (hcall : rj_Call X9 d1 x c1 n1 r1 (.ref a :: av) σ w σ1) (hr : σ1.1 ≤ τ9.1 ∧ σ1.2.1 ≤ τ9.2.1) (hst : st = av.reverse ++ .ref a :: rest) (hcat : (rest.map fun v => v.category).sum ≤ 8) (hdg : decode cc pc = .ok (.invokevirtual idx, 3)) (kk : rj_Run X9 y9 cc nL rt9 d9 v9 τ9 (pc + 3) lv (w.toList ++ rest) σ1) : rj_Run X9 y9 cc nL rt9 d9 v9 τ9 pc lv st σ := by
  intro p e R s m args below meth c H locs cells slots ls Q hC
  obtain ⟨w1, w2, w3, w4, w7, w8, w9, ⟨b0, m0, r0, h0⟩, w5, w6⟩ := hw
  obtain ⟨m1, m2, hM⟩ := hcall
  subst hst
  have hp := hC.pre (av := .ref a :: av)
  refine rj_after hC (va_runU (C := C) (owner := owner) (x := x0) (As := av) (n := n) hC.fix hM (va_cwO n hC.ts (rj_goodIn fun q hq => ?_) rfl rfl rfl h0 w5 (hC.fl hd w6)) ⟨hp.1, hC.recv hcl ha, hp.2⟩ rfl hn hC.has.1 rfl (lv_room hcat) hdg (hC.room hr ⟨m1, m2⟩)) ⟨m1, m2⟩ kk
  rcases List.mem_append.mp hq with h | h
  · simp only [List.mem_cons, List.not_mem_nil, or_false] at h
    rcases h with rfl | rfl | rfl | rfl | rfl | rfl <;> assumption
  · rcases List.mem_cons.mp h with rfl | h <;> assumption
theorem rj_callP {idx n d1 n1 a ci : Nat} {C : String} {x : MethodName} {c1 : ByteArray} {r1 : Option FieldType} {av st : List Value} {w : Option Value} {T : u_T} {N : Nat} {ty : Nat → FieldType} {fs : List Value} (hw : rj_wP y9.cls idx x c1 n1 r1 n) (hcl : rj_cl ci C T N ty) (ha : σ.2.2 a = some (.inr (ci, fs))) (hn : av.length = n) (hd : d1 + 1 ≤ d9) (hcall : rj_Call X9 d1 x c1 n1 r1 (.ref a :: av) σ w σ1) (hr : σ1.1 ≤ τ9.1 ∧ σ1.2.1 ≤ τ9.2.1) (hst : st = av.reverse ++ .ref a :: rest) (hcat : (rest.map fun v => v.category).sum ≤ 8) (hdg : decode cc pc = .ok (.invokespecial idx, 3)) (kk : rj_Run X9 y9 cc nL rt9 d9 v9 τ9 (pc + 3) lv (w.toList ++ rest) σ1) : rj_Run X9 y9 cc nL rt9 d9 v9 τ9 pc lv st σ := by
  intro p e R s m args below meth c H locs cells slots ls Q hC
  obtain ⟨w1, w2, w3, w4, w7, w8, w5, w6⟩ := hw
  obtain ⟨m1, m2, hM⟩ := hcall
  subst hst
  have hp := hC.pre (av := .ref a :: av)
  refine rj_after hC (va_runSU (C := C) (As := av) (n := n) (hC.K.1.1 ci _ hcl.1).2 hC.fix hM (va_cwSU n hC.ts (rj_goodIn fun q hq => ?_) rfl rfl rfl w5 (hC.fl hd w6)) ⟨hp.1, hC.recv hcl ha, hp.2⟩ rfl hn hC.has.1 rfl (lv_room hcat) hdg (hC.room hr ⟨m1, m2⟩)) ⟨m1, m2⟩ kk
  rcases List.mem_append.mp hq with h | h
  · simp only [List.mem_cons, List.not_mem_nil, or_false] at h
    rcases h with rfl | rfl | rfl | rfl | rfl <;> assumption
  · rcases List.mem_cons.mp h with rfl | h <;> assumption
theorem rj_callI {idx n d1 n1 a : Nat} {x : MethodName} {c1 : ByteArray} {av st : List Value} (hw : rj_wI y9.cls idx x c1 n1 n) (hn : av.length = n) (hd : d1 + 1 ≤ d9) (hcall : rj_Call X9 d1 x c1 n1 none (.ref a :: av) σ none σ1) (hr : σ1.1 ≤ τ9.1 ∧ σ1.2.1 ≤ τ9.2.1) (hst : st = av.reverse ++ .ref a :: rest) (hcat : (rest.map fun v => v.category).sum ≤ 8) (hdg : decode cc pc = .ok (.invokespecial idx, 3)) (kk : rj_Run X9 y9 cc nL rt9 d9 v9 τ9 (pc + 3) lv rest σ1) : rj_Run X9 y9 cc nL rt9 d9 v9 τ9 pc lv st σ := by
  intro p e R s m args below meth c H locs cells slots ls Q hC
  obtain ⟨w1, w2, w3, w4, w7, w5, w6⟩ := hw
  obtain ⟨m1, m2, hM⟩ := hcall
  subst hst
  refine rj_after hC (va_runI (b := a) (As := av) (n := n) hC.fix hM (cwI n hC.ts (rj_goodIn fun q hq => ?_) rfl rfl rfl (hC.ts _ w3) (hC.ts _ w1) (hC.ts _ w2) w7 w5 (hC.fl hd w6)) hC.pre rfl hn hC.has.1 rfl (lv_room hcat) hdg (hC.room hr ⟨m1, m2⟩)) ⟨m1, m2⟩ kk
  rcases List.mem_cons.mp hq with rfl | h <;> assumption
theorem rj_callN {idx n d1 n1 a : Nat} {x : MethodName} {host : String} {c1 : ByteArray} {av st : List Value} (hw : rj_wN y9.cls idx x host c1 n1 n) (hn : av.length = n) (hd : d1 + 1 ≤ d9) (hcall : rj_Call X9 d1 x c1 n1 none (.ref a :: av) σ none σ1) (hr : σ1.1 ≤ τ9.1 ∧ σ1.2.1 ≤ τ9.2.1) (hst : st = av.reverse ++ .ref a :: rest) (hcat : (rest.map fun v => v.category).sum ≤ 8) (hdg : decode cc pc = .ok (.invokespecial idx, 3)) (kk : rj_Run X9 y9 cc nL rt9 d9 v9 τ9 (pc + 3) lv rest σ1) : rj_Run X9 y9 cc nL rt9 d9 v9 τ9 pc lv st σ := by
  intro p e R s m args below meth c H locs cells slots ls Q hC
  obtain ⟨w1, w2, w3, w4, w7, w5, w6⟩ := hw
  obtain ⟨m1, m2, hM⟩ := hcall
  subst hst
  refine rj_after hC (va_runIN (b := a) (As := av) (n := n) hC.fix hM ⟨va_cnB n hC.ts (rj_goodIn fun q hq => ?_) rfl rfl rfl (hC.K.2.2.2.2.2.2.1.2.2.2 _ w1) (hC.ts _ w3) w5 (hC.fl hd w6), w7, hC.ts _ w2⟩ hC.pre rfl hn hC.has.1 rfl (lv_room hcat) hdg (hC.room hr ⟨m1, m2⟩)) ⟨m1, m2⟩ kk
  rcases List.mem_cons.mp hq with rfl | h <;> assumption
/-- Object() -/
theorem rj_obj {idx a : Nat} (h1 : Cond.methodLink y9.cls idx objectInit ∈ rj_tbl) (h2 : Cond.instanceMethod objectInit ∈ rj_tbl) (h3 : Cond.code objectInit ⟨#[0xb1]⟩ 1 none ∈ rj_tbl) (hd : 1 ≤ d9) (hcat : (rest.map fun v => v.category).sum ≤ 8) (hdg : decode cc pc = .ok (.invokespecial idx, 3)) (kk : rj_Run X9 y9 cc nL rt9 d9 v9 τ9 (pc + 3) lv rest σ) : rj_Run X9 y9 cc nL rt9 d9 v9 τ9 pc lv (.ref a :: rest) σ := by
  intro p e R s m args below meth c H locs cells slots ls Q hC
  have h8 := hC.2.2.2.2.2.2.2.1
  have h9 := hC.2.2.2.2.2.2.2.2.1
  have hrm : 2 * (F0 m pc ls (.ref a :: rest)).monitorRoom + (rest.map fun v => v.category).sum ≤ 8 := lv_room hcat
  exact W.objInit hC.1 hC.2.1 hC.own (hC.ts _ h1) (hC.ts _ h2) (hC.ts _ h3) rfl (by rw [hC.2.2.1]; exact hC.has.1) rfl hdg (by omega) (by omega) (kk p e R s m args below meth c H locs cells slots ls Q hC)
end RJC
