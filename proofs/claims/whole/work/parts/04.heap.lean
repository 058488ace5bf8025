/-! rows of the running judgement that touch cells; rows over whole numbers (rj_i z: the int z) -/
abbrev rj_i (z : Int) : Value := .int (Int32.ofInt z)
abbrev rj_l (z : Int) : Value := .long (Int64.ofInt z)
def rj_set (σ : rj_H) (a : Nat) (e : va_E) : rj_H := (σ.1, σ.2.1, fun q => if q = a then some e else σ.2.2 q)
def rj_new (σ : rj_H) (n : Nat) (e : va_E) : rj_H := (σ.1 + 1, σ.2.1 + n, fun q => if q = σ.1 then some e else σ.2.2 q)
/-- an array's cell, of ints, bytes (1), truths (2); of references (3, 4, 5) -/
abbrev rj_ar (X9 : rj_X) (t : Nat) (n : Nat) (g : Int → Int) : va_E := .inl (X9.2.2.1 t, n, .inl (fun j => Int32.ofInt (g (j : Int))))
abbrev rj_rr (X9 : rj_X) (t : Nat) (n : Nat) (f : Int → Option Nat) : va_E := .inl (X9.2.2.1 t, n, .inr (.inr (.inr (.inr (fun j => f (j : Int))))))
abbrev rj_ob (ci : Nat) (fs : List Value) : va_E := .inr (ci, fs)
def rj_up {α : Type} (g : Int → α) (k : Int) (w : α) : Int → α := fun j => if j = k then w else g j
theorem rj_up_eq {α : Type} (g : Int → α) (k : Int) (w : α) : rj_up g k w k = w := if_pos rfl
theorem rj_up_ne {α : Type} (g : Int → α) {k j : Int} (w : α) (h : j ≠ k) : rj_up g k w j = g j := if_neg h
theorem rj_set_eq (σ : rj_H) (a : Nat) (e : va_E) : (rj_set σ a e).2.2 a = some e := if_pos rfl
theorem rj_set_ne (σ : rj_H) {a b : Nat} (e : va_E) (h : b ≠ a) : (rj_set σ a e).2.2 b = σ.2.2 b := if_neg h
theorem rj_new_eq (σ : rj_H) (n : Nat) (e : va_E) : (rj_new σ n e).2.2 σ.1 = some e := if_pos rfl
theorem rj_new_ne (σ : rj_H) (n : Nat) {b : Nat} (e : va_E) (h : b ≠ σ.1) : (rj_new σ n e).2.2 b = σ.2.2 b := if_neg h
theorem rj_set_set (σ : rj_H) (a : Nat) (e e' : va_E) : rj_set (rj_set σ a e) a e' = rj_set σ a e' := by
  unfold rj_set; refine congrArg _ (congrArg _ (funext fun q => ?_))
  by_cases h : q = a <;> simp [h]
theorem rj_up_up {α : Type} (g : Int → α) (k : Int) (w w' : α) : rj_up (rj_up g k w) k w' = rj_up g k w' := by
  funext q; by_cases h : q = k <;> simp [rj_up, h]
/-- ints -/
theorem rj_cl32 {z : Int} (h0 : 0 ≤ z) (h1 : z < 2147483648) : (Int32.ofInt z).toNatClampNeg = z.toNat ∧ (Int32.ofInt z).toInt = z := by
  have h := Int32.toInt_ofInt_of_le (n := z) (by omega) (by omega)
  exact ⟨by rw [Int32.toNatClampNeg, h], h⟩
theorem rj_ti {z : Int} (h0 : -2147483648 ≤ z) (h1 : z < 2147483648) : (Int32.ofInt z).toInt = z := Int32.toInt_ofInt_of_le (by omega) (by omega)
theorem rj_vin {z : Int} {n : Nat} (h0 : 0 ≤ z) (h1 : z < n) (hn : n < 2147483648) : vp_in (Int32.ofInt z) n := by
  refine vp_in_iff.mpr ?_
  rw [rj_ti (by omega) (by omega)]
  exact ⟨h0, h1⟩
theorem rj_hp.set {X9 : rj_X} {σ : rj_H} {H H1 : Heap} {a : Nat} {e0 e : va_E} (h : rj_hp X9 σ H) (ha : σ.2.2 a = some e0) (z : H1.size = H.size) (o : ∀ q : Nat, q ≠ a → H1[q]? = H[q]?) (he : va_at X9.2.1 vwCl (a, e) H1) : rj_hp X9 (rj_set σ a e) H1 := by
  refine ⟨z.trans h.1, fun b e' hb => ?_⟩
  by_cases hba : b = a
  · subst hba
    rw [rj_set_eq] at hb
    cases hb
    exact ⟨(h.2 _ _ ha).1, he⟩
  · rw [rj_set_ne _ _ hba] at hb
    exact ⟨(h.2 _ _ hb).1, (h.2 _ _ hb).2.kept (o b hba)⟩
theorem rj_hp.none {X9 : rj_X} {σ : rj_H} {H : Heap} (h : rj_hp X9 σ H) {a : Nat} {e : va_E} (ha : σ.2.2 a = some e) : a < σ.1 := by
  have := (h.2 _ _ ha).2.lt
  rw [h.1] at this
  exact this
theorem rj_hp.push {X9 : rj_X} {σ : rj_H} {H H1 : Heap} {n : Nat} {e : va_E} (h : rj_hp X9 σ H) (hb : X9.2.2.2.1 ≤ H.size) (z : H1.size = H.size + 1) (o : ∀ q : Nat, q < H.size → H1[q]? = H[q]?) (he : va_at X9.2.1 vwCl (H.size, e) H1) : rj_hp X9 (rj_new σ n e) H1 := by
  refine ⟨by rw [z, h.1]; rfl, fun b e' hb2 => ?_⟩
  by_cases hba : b = σ.1
  · subst hba
    rw [rj_new_eq] at hb2
    cases hb2
    rw [h.1] at he hb
    exact ⟨hb, he⟩
  · rw [rj_new_ne _ _ _ hba] at hb2
    exact ⟨(h.2 _ _ hb2).1, (h.2 _ _ hb2).2.kept (o b (by rw [h.1]; exact h.none hb2))⟩
/-- a class of the worlds: its place, name, fields, how many, their types -/
def rj_cl (ci : Nat) (C : String) (T : u_T) (N : Nat) (ty : Nat → FieldType) : Prop := vwCl[ci]? = some (C, T, N) ∧ (∀ w ∈ u_ws C T N, w ∈ rj_tbl) ∧ (∀ k, k < N → parseFieldDescriptor (T k).2.2.1 = some (ty k)) ∧ ∀ a, a < N → ∀ b, b < N → a ≠ b → (T a).2.1 ≠ (T b).2.1
/-- what a field's entry links -/
def rj_ln (own : String) (idx : Nat) (q : String × String × String × Bool) : Prop := ∃ ref : String, Cond.fieldLink own idx ref q.2.1 q.2.2.1 ∈ rj_tbl ∧ (ref = q.1 ∨ Cond.sameField ref q.1 q.2.1 q.2.2.1 ∈ rj_tbl)
section RJH
variable {X9 : rj_X} {y9 : MethodName} {cc : ByteArray} {nL : Nat} {rt9 : Option FieldType} {d9 : Nat} {v9 : Option Value} {τ9 : rj_H} {pc : Nat} {lv : List (Nat × Value)} {rest : List Value} {σ : rj_H}
variable {p : Program} {e : Env} {R : Room} {s : State} {m : MethodId} {args : Array Value} {below : List Frame} {meth : Method} {c : Code} {H : Heap} {locs : List Loc} {cells slots : Nat} {ls : Array Slot} {Q : State → Prop}
/-- another heap of the same size -/
theorem rj_C.st (h : rj_C X9 y9 cc nL rt9 d9 v9 τ9 lv σ p e R s m args below meth c H locs cells slots ls Q) {a k : Nat} {e0 e1 : va_E} {H1 : Heap} (ha : σ.2.2 a = some e0) (z : H1.size = H.size) (o : ∀ q : Nat, q ≠ a → H1[q]? = H[q]?) (he : va_at X9.2.1 vwCl (a, e1) H1) : rj_C X9 y9 cc nL rt9 d9 v9 τ9 lv (rj_set σ a e1) p e R s m args below meth c H1 (locs ++ [⟨a, k⟩]) cells slots ls Q := by
  obtain ⟨h1, h2, h3, h4, h5, h6, h7, h8, h9, h10, h11, h12, h13⟩ := h
  exact ⟨h1, h2, h3, h4, h5, h6, h7, h8, h9, h10, h11.set ha z o he, h12.put z o (h11.2 _ _ ha).1, h13⟩
theorem rj_C.hp (h : rj_C X9 y9 cc nL rt9 d9 v9 τ9 lv σ p e R s m args below meth c H locs cells slots ls Q) : rj_hp X9 σ H := h.2.2.2.2.2.2.2.2.2.2.1
theorem rj_C.S (h : rj_C X9 y9 cc nL rt9 d9 v9 τ9 lv σ p e R s m args below meth c H locs cells slots ls Q) : va_S (rj_A X9) s.heap H locs := h.2.2.2.2.2.2.2.2.2.2.2.1
theorem rj_C.K (h : rj_C X9 y9 cc nL rt9 d9 v9 τ9 lv σ p e R s m args below meth c H locs cells slots ls Q) : rj_K X9 s := h.2.2.2.2.2.2.1
theorem rj_C.own (h : rj_C X9 y9 cc nL rt9 d9 v9 τ9 lv σ p e R s m args below meth c H locs cells slots ls Q) : s.vm.findClass y9.cls = some m.cls := h.2.2.2.1
theorem rj_C.ts (h : rj_C X9 y9 cc nL rt9 d9 v9 τ9 lv σ p e R s m args below meth c H locs cells slots ls Q) : ∀ w ∈ rj_tbl, w.before args s = true := h.2.2.2.2.2.1
/-- getfield -/
theorem rj_get {ci k idx a : Nat} {C : String} {T : u_T} {N : Nat} {ty : Nat → FieldType} {fs : List Value} {w : Value} (hcl : rj_cl ci C T N ty) (hk : k < N) (hln : rj_ln y9.cls idx (T k)) (ha : σ.2.2 a = some (.inr (ci, fs))) (hv : fs[k]? = some w) (hdg : decode cc pc = .ok (.getfield idx, 3)) (kk : rj_Run X9 y9 cc nL rt9 d9 v9 τ9 (pc + 3) lv (w :: rest) σ) : rj_Run X9 y9 cc nL rt9 d9 v9 τ9 pc lv (.ref a :: rest) σ := by
  intro p e R s m args below meth c H locs cells slots ls Q hC
  obtain ⟨ref, hr1, hr2⟩ := hln
  have hP : va_P X9.2.1 vwCl [(a, .inr (ci, fs))] H := fun j q hq => by
    cases j with
    | zero => cases hq; exact (hC.hp.2 _ _ ha).2
    | succ j => simp at hq
  refine va_get (own := y9.cls) (ref := ref) (T := T) (ws := [(a, .inr (ci, fs))]) hC.1 hC.2.1 hC.ts hcl.2.1 hC.own hC.K.1 hP 0 rfl hcl.1 k hk (hC.ts _ hr1) ?_ hv hdg (kk p e R s m args below meth c H locs cells slots ls Q hC)
  rcases hr2 with rfl | hr2
  · exact fun x h => h
  · exact fun x h => u_same (hC.ts _ hr2) x h
/-- putfield; a final field in a constructor of its class alone -/
theorem rj_put {ci k idx a : Nat} {C : String} {T : u_T} {N : Nat} {ty : Nat → FieldType} {fs : List Value} {w : Value} (hcl : rj_cl ci C T N ty) (hk : k < N) (hln : rj_ln y9.cls idx (T k)) (hfin : (T k).2.2.2 = false ∨ (y9.name = "<init>" ∧ (T k).1 = y9.cls)) (ha : σ.2.2 a = some (.inr (ci, fs))) (hl : k < fs.length) (hn : narrow (ty k) w = w) (hfit : fits (ty k) w = true) (hdg : decode cc pc = .ok (.putfield idx, 3)) (kk : rj_Run X9 y9 cc nL rt9 d9 v9 τ9 (pc + 3) lv rest (rj_set σ a (.inr (ci, fs.set k w)))) : rj_Run X9 y9 cc nL rt9 d9 v9 τ9 pc lv (w :: .ref a :: rest) σ := by
  intro p e R s m args below meth c H locs cells slots ls Q hC
  obtain ⟨ref, hr1, hr2⟩ := hln
  have hsame : ∀ x, s.fieldFound? (T k).1 (T k).2.1 (T k).2.2.1 = some x → s.fieldFound? ref (T k).2.1 (T k).2.2.1 = some x := by
    rcases hr2 with rfl | hr2
    · exact fun x h => h
    · exact fun x h => u_same (hC.ts _ hr2) x h
  have hc := hcl.1
  have hin := hcl.2.1
  have hap := va_apart (own := y9.cls) hC.ts hin ty hcl.2.2.1 hcl.2.2.2 hC.K.1 hc
  obtain ⟨r, h1, cell, q1, q2, q3, q4⟩ := (hC.hp.2 _ _ ha).2
  have hr : r = (C, T, N) := Option.some.inj (h1.symm.trans hc)
  subst hr
  obtain ⟨hS, hfc, kC, hkC, hkind⟩ := hC.K.1.1 ci _ hc
  obtain ⟨cf, kf, fi, f, hi, hsl⟩ := hS k hk
  have hst := (u_facts hfc hkC (u_lays hC.ts hin hk) hi).1
  have hd := hcl.2.2.1 k hk
  have fin : ∀ H' : Heap, H'[a]? = some (cell.setSlot f.slot w) → H'.size = H.size → (∀ q : Nat, q ≠ a → H'[q]? = H[q]?) → rj_C X9 y9 cc nL rt9 d9 v9 τ9 lv (rj_set σ a (.inr (ci, fs.set k w))) p e R s m args below meth c H' (locs ++ [⟨a, f.slot⟩]) cells slots ls Q := fun H' e1 e2 e3 => by
    rw [hsl] at e1
    exact hC.st ha e2 e3 ⟨_, hc, t_OB.to (V := updV (vp_V fs) k w) ⟨_, e1, q2, q3, t_set q4 hap hk w⟩ (fun j _ => vp_updV_set hl w j)⟩
  have hlay := hC.ts _ (hin _ (u_in_lay hk))
  by_cases hf : (T k).2.2.2 = true
  · obtain ⟨hn1, hn2⟩ := hfin.resolve_left (by rw [hf]; decide)
    unfold u_lay at hlay
    rw [if_pos hf] at hlay
    have hcf : m.cls = cf := by
      obtain ⟨_, _, c', _, _, _, -, -, hf', -, -, -, hown2, -⟩ := Cond.laysFinal_spec hlay
      have e1 : c' = cf := by have := hi.symm.trans hf'; simp at this; exact this.1.symm
      rw [hn2] at hown2
      rw [← e1]; exact Option.some.inj (hC.own.symm.trans hown2)
    have h6 := u_fits hfc hkC hkind (Or.inr hlay) hi hd hn hfit
    exact W.putFinK hC.1 hC.2.1 hC.own (hC.ts _ hr1) (hsame _ hi) hst hcf (hC.2.2.2.2.1.trans hn1) (by rw [q2]; exact h6) q1 q3 (by rw [hsl]; exact k2_hasslot (q4 k hk)) rfl rfl hdg fun H' e1 e2 e3 => kk _ _ _ _ _ _ _ _ _ _ _ _ _ _ _ (fin H' e1 e2 e3)
  · unfold u_lay at hlay
    rw [if_neg hf] at hlay
    have h6 := u_store hfc hkC hkind hlay hi hd hn hfit
    exact W.putK hC.1 hC.2.1 (f := f) ⟨hC.own, hC.ts _ hr1, ⟨_, _, _, hsame _ hi⟩, hst⟩ (by rw [q2]; exact h6) q1 q3 (by rw [hsl]; exact k2_hasslot (q4 k hk)) rfl rfl hdg fun H' e1 e2 e3 => kk _ _ _ _ _ _ _ _ _ _ _ _ _ _ _ (fin H' e1 e2 e3)
end RJH
