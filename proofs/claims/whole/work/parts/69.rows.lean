/-! arrays of references: a store, a new one, rows of rows, copies -/
section RJM
variable {X9 : rj_X} {y9 : MethodName} {cc : ByteArray} {nL : Nat} {rt9 : Option FieldType} {d9 : Nat} {v9 : Option Value} {τ9 : rj_H} {pc : Nat} {lv : List (Nat × Value)} {rest : List Value} {σ : rj_H}
variable {p : Program} {e : Env} {R : Room} {s : State} {m : MethodId} {args : Array Value} {below : List Frame} {meth : Method} {c : Code} {H : Heap} {locs : List Loc} {cells slots : Nat} {ls : Array Slot} {Q : State → Prop}
/-- another heap of the same size, whatever was written of one cell -/
theorem rj_C.stL (h : rj_C X9 y9 cc nL rt9 d9 v9 τ9 lv σ p e R s m args below meth c H locs cells slots ls Q) {a : Nat} {e0 e1 : va_E} {H1 : Heap} {L : List Loc} (ha : σ.2.2 a = some e0) (z : H1.size = H.size) (o : ∀ q : Nat, q ≠ a → H1[q]? = H[q]?) (he : va_at X9.2.1 vwCl (a, e1) H1) (hL : ∀ q ∈ L, q.base = a) : rj_C X9 y9 cc nL rt9 d9 v9 τ9 lv (rj_set σ a e1) p e R s m args below meth c H1 (locs ++ L) cells slots ls Q := by
  obtain ⟨h1, h2, h3, h4, h5, h6, h7, h8, h9, h10, h11, h12, h13⟩ := h
  have hA : rj_A X9 a := (h11.2 _ _ ha).1
  refine ⟨h1, h2, h3, h4, h5, h6, h7, h8, h9, h10, h11.set ha z o he, ⟨by rw [z]; exact h12.1, fun q g1 g2 => ?_, fun q hq => ?_⟩, h13⟩
  · rw [o q (fun e9 => g2 (by rw [e9]; exact hA))]
    exact h12.2.1 q g1 g2
  · rcases List.mem_append.mp hq with h | h
    · exact h12.2.2 q h
    · rw [hL q h]; exact hA
/-- a reference into an array of references -/
theorem rj_aast {a n t v ci : Nat} {C E : String} {T : u_T} {N : Nat} {ty : Nat → FieldType} {fs : List Value} {f : Int → Option Nat} {z : Int} (ha : σ.2.2 a = some (rj_rr X9 t n f)) (ht : (rj_tys X9)[t]? = some (X9.2.2.1 t, .object E)) (hcl : rj_cl ci C T N ty) (hv : σ.2.2 v = some (.inr (ci, fs))) (hca : C = E ∨ (C, E) ∈ rj_cas) (h0 : 0 ≤ z) (h1 : z < n) (hn : n < 2147483648) (hdg : decode cc pc = .ok (.aastore, 1)) (kk : rj_Run X9 y9 cc nL rt9 d9 v9 τ9 (pc + 1) lv rest (rj_set σ a (rj_rr X9 t n (rj_up f z (some v))))) : rj_Run X9 y9 cc nL rt9 d9 v9 τ9 pc lv (.ref v :: rj_i z :: .ref a :: rest) σ := by
  intro p e R s m args below meth c H locs cells slots ls Q hC
  have hP := (hC.hp.2 _ _ ha).2
  obtain ⟨cellV, g1, g2, g3⟩ := hC.recv hcl hv
  obtain ⟨kA, comp, k1, k2, k3, -⟩ := (hC.arr t ht).2
  obtain ⟨kE, hkE, -⟩ := Vm.findClass_spec k3
  obtain ⟨kC, hkC, -⟩ := Vm.findClass_spec g3
  have hasg : s.vm.assignable cellV.cls comp = true := by
    rcases hca with rfl | hca
    · cases g3.symm.trans k3
      exact va_asg _ _
    · obtain ⟨c0, t1, f1, f2, f3⟩ := Cond.castable_spec (va_Nw.use (A := args) rfl (hC.K.2.2.2.2.2.2.1.1 _ hca))
      cases g3.symm.trans f1
      cases k3.symm.trans f2
      exact f3
  have hs := rj_sz (t := t) (X9 := X9) (f := fun j => va_rf (f (j : Int))) h0 h1 hn
  refine W.aast hC.1 hC.2.1 hP (fun q h => by cases h) (fun h => by cases h) k1 k2 rfl hkE ⟨fun q => hs (Or.inl q), Nat.not_le.mp fun q => hs (Or.inr q)⟩ g1 (fun q h => by rw [h] at g2; cases g2) hkC hasg rfl rfl hdg (fun H1 e1 z1 o1 => kk _ _ _ _ _ _ _ _ _ _ _ _ _ _ _ (hC.st ha z1 o1 ?_))
  show H1[a]? = some (vp_cell _ _)
  rw [e1]
  rw [vp_cell_q, vp_cell_q, arrV_store, (rj_cl32 h0 (by omega)).1]
  congr 2
  funext q
  by_cases hq : q = z.toNat
  · subst hq
    simp only [updV, if_pos rfl, Int.toNat_of_nonneg h0, rj_up_eq, if_true, va_rf]
  · rw [updV, if_neg hq, rj_up_ne _ _ (by omega)]
/-- a new array of references to C -/
theorem rj_anew {t n idx : Nat} {C : String} {z : Int} (hz : z = n) (hn : n < 100000) (ht : (rj_tys X9)[t]? = some (X9.2.2.1 t, .object C)) (hao : FieldType.object C ∈ rj_aos) (hlk : Cond.classLink y9.cls idx C ∈ rj_tbl) (hr : σ.1 + 1 ≤ τ9.1 ∧ σ.2.1 + n ≤ τ9.2.1) (hdg : decode cc pc = .ok (.anewarray idx, 3)) (kk : rj_Run X9 y9 cc nL rt9 d9 v9 τ9 (pc + 3) lv (.ref σ.1 :: rest) (rj_new σ n (rj_rr X9 t n (fun _ => none)))) : rj_Run X9 y9 cc nL rt9 d9 v9 τ9 pc lv (rj_i z :: rest) σ := by
  intro p e R s m args below meth c H locs cells slots ls Q hC
  subst hz
  obtain ⟨kA', comp', k1, k2, k3, k4⟩ := (hC.arr t ht).2
  have hao2 := hC.K.2.2.2.2.2.2.1.2.2.1 _ hao
  have hcl := rj_cl32 (z := (n : Int)) (by omega) (by omega)
  have hneg : ¬ Int32.ofInt (n : Int) < 0 := by
    have h9 : ¬ (Int32.ofInt (n : Int)).toInt < (0 : Int32).toInt := by rw [hcl.2]; show ¬ (n : Int) < 0; omega
    exact fun q => h9 (Int32.lt_iff_toInt_lt.mp q)
  obtain ⟨h1, h2, h3, h4, h5, h6, h7, h8, h9, h10, h11, h12, zc, zs, z1, z2, z3, z4, z5⟩ := hC
  have hnn : (Int32.ofInt (n : Int)).toNatClampNeg = n := by rw [hcl.1]; omega
  refine W.anew h1 h2 h4 (h6 _ hlk) (rj_ao rfl hao2) rfl hdg rfl hneg (by rw [hnn]; omega) (by omega) (by rw [hnn]; omega) (fun cA kA comp f1 f2 f3 f4 => ?_)
  cases f1.symm.trans k4
  rw [hnn]
  generalize hH1 : H.push ({ cls := X9.2.2.1 t, slots := Array.replicate n .null, vm := .none } : Cell) = H1
  have z9 : H1.size = H.size + 1 := by rw [← hH1, Array.size_push]
  have e9 : H1[H.size]? = some (arrV (X9.2.2.1 t) n (fun _ => .null)) := by rw [← hH1, Array.getElem?_push_size, ← arrV_new]
  have o9 : ∀ q : Nat, q < H.size → H1[q]? = H[q]? := fun q hq => by rw [← hH1, Array.getElem?_push, if_neg (Nat.ne_of_lt hq)]
  have es : (Value.ref H.size) = .ref σ.1 := by rw [h11.1]
  show W p X9.1 e R s m args below meth c H1 locs (cells + 1) (slots + n) Q (F0 m (pc + 3) ls (.ref H.size :: rest))
  rw [es]
  refine kk _ _ _ _ _ _ _ _ _ _ _ _ _ _ _ ⟨h1, h2, h3, h4, h5, h6, h7, h8, h9, h10, h11.push (Nat.le_trans h7.2.2.2.1 h12.1) z9 o9 e9, ⟨Nat.le_trans h12.1 (by omega), fun x g1 g2 => (o9 x (Nat.lt_of_lt_of_le g1 h12.1)).trans (h12.2.1 x g1 g2), h12.2.2⟩, zc, zs, ?_, ?_, z3, z4, z5⟩
  · show cells + 1 + zc = σ.1 + 1; omega
  · show slots + n + zs = σ.2.1 + n; omega
/-- n rows of k ints, behind their array -/
def rj_mn (X9 : rj_X) (σ : rj_H) (n k : Nat) : rj_H := (σ.1 + 1 + n, σ.2.1 + n + n * k, fun q => if q = σ.1 then some (rj_rr X9 3 n (fun j => some (σ.1 + 1 + j.toNat))) else if σ.1 < q ∧ q ≤ σ.1 + n then some (rj_ar X9 0 k (fun _ => 0)) else σ.2.2 q)
theorem rj_ext {cI : ClassId} {N : Nat} {f g : Nat → Value} (h : ∀ j, j < N → f j = g j) : arrV cI N f = arrV cI N g := by
  unfold arrV
  congr 1
  exact congrArg Array.ofFn (funext fun j => h j.val j.isLt)
theorem vr_outer (c : ClassId) (N h0 : Nat) : ∀ i : Nat, Jvm.Free.Multi.outerC c N h0 i = arrV c N (fun j => va_rf (if j < i then some (h0 + 1 + j) else none))
  | 0 => by
    show ({ cls := c, slots := Array.replicate N .null, vm := .none } : Cell) = _
    rw [arrV_new]
    refine congrArg (arrV c N) (funext fun j => ?_)
    simp [va_rf]
  | i + 1 => by
    show (Jvm.Free.Multi.outerC c N h0 i).setSlot i (.ref (h0 + 1 + i)) = _
    rw [vr_outer c N h0 i, arrV_store]
    refine congrArg (arrV c N) (funext fun j => ?_)
    by_cases e : j = i
    · subst e
      simp [updV, va_rf]
    · by_cases h : j < i
      · simp [updV, e, h, Nat.lt_succ_of_lt h]
      · simp [updV, e, h, show ¬ j < i + 1 by omega]
theorem rj_mnew {n k idx : Nat} {z w : Int} (hz : z = n) (hw : w = k) (hn : n < 1000) (hk : k < 1000) (hlk : Cond.classLink y9.cls idx ("[" ++ (FieldType.array .int).toString) ∈ rj_tbl) (harr : Cond.arrayClass .int ∈ rj_tbl) (hr : σ.1 + 1 + n ≤ τ9.1 ∧ σ.2.1 + n + n * k ≤ τ9.2.1) (hdg : decode cc pc = .ok (.multianewarray idx 2, 4)) (kk : rj_Run X9 y9 cc nL rt9 d9 v9 τ9 (pc + 4) lv (.ref σ.1 :: rest) (rj_mn X9 σ n k)) : rj_Run X9 y9 cc nL rt9 d9 v9 τ9 pc lv (rj_i w :: rj_i z :: rest) σ := by
  intro p e R s m args below meth c H locs cells slots ls Q hC
  subst hz
  subst hw
  have hA0 : s.vm.findClass ("[" ++ (FieldType.int).toString) = some (X9.2.2.1 0) := (hC.arr 0 (ty := .int) rfl).2
  have hA3 : s.vm.findClass ("[" ++ (FieldType.array .int).toString) = some (X9.2.2.1 3) := (hC.arr 3 (ty := .array .int) rfl).2
  have hao2 := hC.K.2.2.2.2.2.2.1.2.2.1 (.array .int) (by decide)
  have c1 := rj_cl32 (z := (n : Int)) (by omega) (by omega)
  have c2 := rj_cl32 (z := (k : Int)) (by omega) (by omega)
  have n1 : ¬ Int32.ofInt (n : Int) < 0 := by
    have h9 : ¬ (Int32.ofInt (n : Int)).toInt < (0 : Int32).toInt := by rw [c1.2]; show ¬ (n : Int) < 0; omega
    exact fun q => h9 (Int32.lt_iff_toInt_lt.mp q)
  have n2 : ¬ Int32.ofInt (k : Int) < 0 := by
    have h9 : ¬ (Int32.ofInt (k : Int)).toInt < (0 : Int32).toInt := by rw [c2.2]; show ¬ (k : Int) < 0; omega
    exact fun q => h9 (Int32.lt_iff_toInt_lt.mp q)
  have t1 : (Int32.ofInt (n : Int)).toNatClampNeg = n := by rw [c1.1]; omega
  have t2 : (Int32.ofInt (k : Int)).toNatClampNeg = k := by rw [c2.1]; omega
  obtain ⟨h1, h2, h3, h4, h5, h6, h7, h8, h9, h10, h11, h12, zc, zs, z1, z2, z3, z4, z5⟩ := hC
  intro T hT Xs
  obtain ⟨vm₁, cA, comp, -, fA, fC, hO, -, X', step⟩ := Xs.multianewarray2F (ty := .int) h1 h4 (h6 _ hlk) (rj_ao rfl hao2) (h6 _ harr) (g := F0 m pc ls (rj_i (k : Int) :: rj_i (n : Int) :: rest)) rfl (by rw [h2]; exact hdg) rfl n1 n2 (by rw [t1]; omega) (by rw [t2]; show k * 4 ≤ _; omega) (by rw [t2]; omega) rfl rfl (by rw [t1]; omega) (by rw [t1, t2]; omega)
  cases fA.symm.trans hA3
  cases fC.symm.trans hA0
  rw [t1, t2] at X' step
  generalize hF : Jvm.Free.Multi.fill (T.setVm vm₁) (X9.2.2.1 3) (X9.2.2.1 0) n k (defaultValue .int) n = F at X' step
  have hTh : (T.setVm vm₁).heap = H := hT
  obtain ⟨f1, f2, -, -⟩ := Jvm.Free.Multi.fill_facts (T.setVm vm₁) (X9.2.2.1 3) (X9.2.2.1 0) n k (defaultValue .int) n
  rw [hF, hTh] at f1 f2
  have hold : ∀ x : Nat, x < H.size → F.heap[x]? = H[x]? := fun x hx => by
    have := Jvm.Free.Multi.fill_old (T.setVm vm₁) (X9.2.2.1 3) (X9.2.2.1 0) n k (defaultValue .int) (a := x) (by rw [hTh]; exact hx) n
    rw [hF, hTh] at this
    exact this
  have hrow : ∀ j : Nat, j < n → F.heap[H.size + 1 + j]? = some (vp_cell (X9.2.2.1 0) (k, .inl (fun _ => Int32.ofInt 0))) := fun j hj => by
    have := Jvm.Free.Multi.fill_inner (T.setVm vm₁) (X9.2.2.1 3) (X9.2.2.1 0) n k (defaultValue .int) n j hj
    rw [hF, hTh] at this
    rw [this]
    show some ({ cls := X9.2.2.1 0, slots := Array.replicate k (.int 0), vm := .none } : Cell) = _
    rw [arrV_new, vp_cell_i]
    rfl
  have hout : Jvm.Free.Multi.outerC (X9.2.2.1 3) n H.size n = vp_cell (X9.2.2.1 3) (n, .inr (.inr (.inr (.inr (fun j => some (σ.1 + 1 + ((j : Nat) : Int).toNat)))))) := by
    rw [vp_cell_q, vr_outer]
    refine rj_ext fun j hj => ?_
    rw [if_pos hj, h11.1]
    show Value.ref (σ.1 + 1 + j) = Value.ref (σ.1 + 1 + ((j : Nat) : Int).toNat)
    rw [Int.toNat_natCast]
  rw [hout] at f2
  have hb : X9.2.2.2.1 ≤ H.size := Nat.le_trans h7.2.2.2.1 h12.1
  have hhp : rj_hp X9 (rj_mn X9 σ n k) F.heap := by
    refine ⟨by rw [f1, h11.1]; rfl, fun b e' hb2 => ?_⟩
    have hbb : (if b = σ.1 then some (rj_rr X9 3 n (fun j => some (σ.1 + 1 + j.toNat))) else if σ.1 < b ∧ b ≤ σ.1 + n then some (rj_ar X9 0 k (fun _ => 0)) else σ.2.2 b) = some e' := hb2
    by_cases q1 : b = σ.1
    · rw [if_pos q1] at hbb
      cases hbb
      rw [q1, ← h11.1]
      refine ⟨hb, ?_⟩
      show F.heap[H.size]? = some (vp_cell _ _)
      rw [f2, h11.1]
    · rw [if_neg q1] at hbb
      by_cases q2 : σ.1 < b ∧ b ≤ σ.1 + n
      · rw [if_pos q2] at hbb
        cases hbb
        refine ⟨by rw [h11.1] at hb; omega, ?_⟩
        show F.heap[b]? = some (vp_cell _ _)
        have := hrow (b - H.size - 1) (by rw [h11.1]; omega)
        rw [show H.size + 1 + (b - H.size - 1) = b by rw [h11.1]; omega] at this
        exact this
      · rw [if_neg q2] at hbb
        exact ⟨(h11.2 _ _ hbb).1, (h11.2 _ _ hbb).2.kept (hold b (by rw [h11.1]; exact h11.none hbb))⟩
  have es : (Value.ref T.heap.size) = .ref σ.1 := by rw [hT, h11.1]
  obtain ⟨t, a1, b1⟩ := kk p e R s m args below meth c F.heap locs (cells + 1 + n) (slots + n + n * k) ls Q ⟨h1, h2, h3, h4, h5, h6, h7, h8, h9, h10, hhp, ⟨by rw [f1]; exact Nat.le_trans h12.1 (by omega), fun x g1 g2 => (hold x (Nat.lt_of_lt_of_le g1 h12.1)).trans (h12.2.1 x g1 g2), h12.2.2⟩, zc, zs, by show _ = σ.1 + 1 + n; omega, by show _ = σ.2.1 + n + n * k; omega, z3, z4, z5⟩ F rfl X'
  refine ⟨t, step t ?_, b1⟩
  rw [es]
  exact a1
/-- copies from the begin of an array to the begin of another: of numbers -/
theorem rj_cpp {a b t n0 n1 n idx : Nat} {ty : FieldType} {f g : Int → Int} (hsa : σ.2.2 b = some (rj_ar X9 t n0 f)) (ha : σ.2.2 a = some (rj_ar X9 t n1 g)) (ht : (rj_tys X9)[t]? = some (X9.2.2.1 t, ty)) (h4 : n ≤ n0) (h5 : n ≤ n1) (hn : n < 100000) (hfit : ∀ j : Nat, j < n → fits ty (rj_i (f (j : Int))) = true) (hlk : Cond.methodLink y9.cls idx arraycopyName ∈ rj_tbl) (hnat : Cond.native arraycopyName ∈ rj_tbl) (hst : Cond.static arraycopyName ∈ rj_tbl) (hini : Cond.initialized "java/lang/System" ∈ rj_tbl) (hd : 2 ≤ d9) (hcat : (rest.map fun v => v.category).sum ≤ 8) (hdg : decode cc pc = .ok (.invokestatic idx, 3)) (kk : rj_Run X9 y9 cc nL rt9 d9 v9 τ9 (pc + 3) lv rest (rj_set σ a (rj_ar X9 t n1 (fun j => if j < n then f j else g j)))) : rj_Run X9 y9 cc nL rt9 d9 v9 τ9 pc lv (rj_i n :: rj_i 0 :: .ref a :: rj_i 0 :: .ref b :: rest) σ := by
  intro p e R s m args below meth c H locs cells slots ls Q hC
  have hc0 : H[b]? = some (vp_cell _ _) := (hC.hp.2 _ _ hsa).2
  have hc1 : H[a]? = some (vp_cell _ _) := (hC.hp.2 _ _ ha).2
  obtain ⟨-, k0, hk0, cm0, hkk0⟩ := (hC.arr t ht).1 n0 (fun j => .int (Int32.ofInt (f (j : Int))))
  obtain ⟨-, k1, hk1, cm1, hkk1⟩ := (hC.arr t ht).1 n1 (fun j => .int (Int32.ofInt (g (j : Int))))
  have c1 := rj_cl32 (z := (n : Int)) (by omega) (by omega)
  have t1 : (Int32.ofInt (n : Int)).toNatClampNeg = n := by rw [c1.1]; omega
  have t0 : (Int32.ofInt 0).toNatClampNeg = 0 := rfl
  have n1' : ¬ Int32.ofInt (n : Int) < 0 := by
    have h9 : ¬ (Int32.ofInt (n : Int)).toInt < (0 : Int32).toInt := by rw [c1.2]; show ¬ (n : Int) < 0; omega
    exact fun q => h9 (Int32.lt_iff_toInt_lt.mp q)
  have hts := hC.ts
  intro T hT X
  obtain ⟨vm', X', step⟩ := X.arraycopy hC.1 hC.own (hts _ hlk) (hts _ hnat) (hts _ hst) (hts _ hini) (src := b) (dst := a) (cs := vp_cell (X9.2.2.1 t) (n0, .inl (fun j => Int32.ofInt (f (j : Int))))) (cd := vp_cell (X9.2.2.1 t) (n1, .inl (fun j => Int32.ofInt (g (j : Int))))) (srcPos := Int32.ofInt 0) (destPos := Int32.ofInt 0) (n := Int32.ofInt (n : Int)) (by rw [hT]; exact hc0) (by rw [hT]; exact hc1)
    (fun _ h => by cases h) (fun _ h => by cases h) (fun h => by cases h) (fun h => by cases h) hk0 hk1 hkk0 hkk1 (by simp) (by decide) (by decide) n1'
    (by rw [c1.2]; show ¬ (0 : Int) + _ > ((arrV _ n0 (fun j => .int (Int32.ofInt (f (j : Int))))).slots.size : Int); rw [arrV_size]; omega)
    (by rw [c1.2]; show ¬ (0 : Int) + _ > ((arrV _ n1 (fun j => .int (Int32.ofInt (g (j : Int))))).slots.size : Int); rw [arrV_size]; omega)
    (fun vm₁ hal i hi => by
      rw [t1] at hi
      have e : (vp_cell (X9.2.2.1 t) (n0, .inl (fun j => Int32.ofInt (f (j : Int))))).slots.getD ((Int32.ofInt 0).toNatClampNeg + i) .null = rj_i (f (i : Int)) := by
        rw [t0, Nat.zero_add]
        show (arrV _ n0 (fun j => .int (Int32.ofInt (f (j : Int))))).slots.getD _ _ = _
        rw [Array.getD_eq_getD_getElem?, arrV_read _ _ (by omega)]
        rfl
      rw [e]
      exact ⟨hfit i hi, trivial⟩)
    (g := F0 m pc ls (rj_i n :: rj_i 0 :: .ref a :: rj_i 0 :: .ref b :: rest)) rfl (by show ls.size = _; rw [hC.2.2.1]; exact hC.has.1) (rest := rest) rfl (by rw [hC.2.1]; exact hdg) (by have := hC.2.2.2.2.2.2.2.1; omega) (by have := hC.2.2.2.2.2.2.2.2.1; have h9 : nativeFrameWords "java/lang/System" "arraycopy" 5 = 7 := (by decide +kernel); rw [h9]; show 2 * 0 + _ + _ ≤ _; omega)
  have e1 : copied (vp_cell (X9.2.2.1 t) (n0, .inl (fun j => Int32.ofInt (f (j : Int))))) (vp_cell (X9.2.2.1 t) (n1, .inl (fun j => Int32.ofInt (g (j : Int))))) (Int32.ofInt 0) (Int32.ofInt 0) (Int32.ofInt (n : Int)) = vp_cell (X9.2.2.1 t) (n1, .inl (fun j => Int32.ofInt ((fun j : Int => if j < n then f j else g j) (j : Int)))) := by
    unfold copied
    rw [t0, t1, vp_cell_i, vp_cell_i, vp_cell_i, va_copied (fun z => .int z) _ _ _ _ (by omega)]
    refine rj_ext fun j hj => congrArg Value.int ?_
    unfold va_cpy
    by_cases hq : j < n
    · rw [if_pos ⟨Nat.zero_le _, by omega⟩]
      show _ = Int32.ofInt (if (j : Int) < n then f j else g j)
      rw [if_pos (by omega), Nat.zero_add, Nat.sub_zero]
    · rw [if_neg (by omega)]
      show _ = Int32.ofInt (if (j : Int) < n then f j else g j)
      rw [if_neg (by omega)]
  rw [e1] at X' step
  have hl : a < H.size := (Array.getElem?_eq_some_iff.mp hc1).1
  generalize hcell : vp_cell (X9.2.2.1 t) (n1, .inl (fun j => Int32.ofInt ((fun j : Int => if j < n then f j else g j) (j : Int)))) = cell at X' step
  have hheap : ((T.setVm vm').setCell a cell).heap = H.setIfInBounds a cell := by rw [← hT]; rfl
  obtain ⟨t9, a1, b1⟩ := kk p e R s m args below meth c (H.setIfInBounds a cell) _ cells slots ls Q (hC.stL ha (by simp) (fun q hq => by simp [Array.getElem?_setIfInBounds, Ne.symm hq]) (show (H.setIfInBounds a cell)[a]? = some (vp_cell _ _) by rw [hcell]; simp [Array.getElem?_setIfInBounds, hl]) (fun q hq => by
      obtain ⟨z, -, hz⟩ := List.mem_map.mp hq
      rw [← hz])) _ hheap X'
  exact ⟨t9, step t9 a1, b1⟩
/-- .. of references -/
theorem rj_cpr {a b t n0 n1 n idx : Nat} {E : String} {f g : Int → Option Nat} (hsa : σ.2.2 b = some (rj_rr X9 t n0 f)) (ha : σ.2.2 a = some (rj_rr X9 t n1 g)) (ht : (rj_tys X9)[t]? = some (X9.2.2.1 t, .object E)) (h4 : n ≤ n0) (h5 : n ≤ n1) (hn : n < 100000) (hel : ∀ j : Nat, j < n → ∀ y : Nat, f (j : Int) = some y → ∃ (ci : Nat) (C : String) (T : u_T) (N : Nat) (ty : Nat → FieldType) (fs : List Value), rj_cl ci C T N ty ∧ σ.2.2 y = some (.inr (ci, fs)) ∧ (C = E ∨ (C, E) ∈ rj_cas)) (hlk : Cond.methodLink y9.cls idx arraycopyName ∈ rj_tbl) (hnat : Cond.native arraycopyName ∈ rj_tbl) (hst : Cond.static arraycopyName ∈ rj_tbl) (hini : Cond.initialized "java/lang/System" ∈ rj_tbl) (hd : 2 ≤ d9) (hcat : (rest.map fun v => v.category).sum ≤ 8) (hdg : decode cc pc = .ok (.invokestatic idx, 3)) (kk : rj_Run X9 y9 cc nL rt9 d9 v9 τ9 (pc + 3) lv rest (rj_set σ a (rj_rr X9 t n1 (fun j => if j < n then f j else g j)))) : rj_Run X9 y9 cc nL rt9 d9 v9 τ9 pc lv (rj_i n :: rj_i 0 :: .ref a :: rj_i 0 :: .ref b :: rest) σ := by
  intro p e R s m args below meth c H locs cells slots ls Q hC
  have hc0 : H[b]? = some (vp_cell _ _) := (hC.hp.2 _ _ hsa).2
  have hc1 : H[a]? = some (vp_cell _ _) := (hC.hp.2 _ _ ha).2
  obtain ⟨-, k0, hk0, cm0, hkk0⟩ := (hC.arr t ht).1 n0 (fun j => va_rf (f (j : Int)))
  obtain ⟨-, k1, hk1, cm1, hkk1⟩ := (hC.arr t ht).1 n1 (fun j => va_rf (g (j : Int)))
  have c1 := rj_cl32 (z := (n : Int)) (by omega) (by omega)
  have t1 : (Int32.ofInt (n : Int)).toNatClampNeg = n := by rw [c1.1]; omega
  have t0 : (Int32.ofInt 0).toNatClampNeg = 0 := rfl
  have n1' : ¬ Int32.ofInt (n : Int) < 0 := by
    have h9 : ¬ (Int32.ofInt (n : Int)).toInt < (0 : Int32).toInt := by rw [c1.2]; show ¬ (n : Int) < 0; omega
    exact fun q => h9 (Int32.lt_iff_toInt_lt.mp q)
  have hts := hC.ts
  intro T hT X
  obtain ⟨vm', X', step⟩ := X.arraycopy hC.1 hC.own (hts _ hlk) (hts _ hnat) (hts _ hst) (hts _ hini) (src := b) (dst := a) (cs := vp_cell (X9.2.2.1 t) (n0, .inr (.inr (.inr (.inr (fun j => f (j : Int))))))) (cd := vp_cell (X9.2.2.1 t) (n1, .inr (.inr (.inr (.inr (fun j => g (j : Int))))))) (srcPos := Int32.ofInt 0) (destPos := Int32.ofInt 0) (n := Int32.ofInt (n : Int)) (by rw [hT]; exact hc0) (by rw [hT]; exact hc1)
    (fun _ h => by cases h) (fun _ h => by cases h) (fun h => by cases h) (fun h => by cases h) hk0 hk1 hkk0 hkk1 (by simp) (by decide) (by decide) n1'
    (by rw [c1.2]; show ¬ (0 : Int) + _ > ((arrV _ n0 (fun j => va_rf (f (j : Int)))).slots.size : Int); rw [arrV_size]; omega)
    (by rw [c1.2]; show ¬ (0 : Int) + _ > ((arrV _ n1 (fun j => va_rf (g (j : Int)))).slots.size : Int); rw [arrV_size]; omega)
    (fun vm₁ hal i hi => by
      rw [t1] at hi
      have e : (vp_cell (X9.2.2.1 t) (n0, .inr (.inr (.inr (.inr (fun j => f (j : Int))))))).slots.getD ((Int32.ofInt 0).toNatClampNeg + i) .null = va_rf (f (i : Int)) := by
        rw [t0, Nat.zero_add]
        show (arrV _ n0 (fun j => va_rf (f (j : Int)))).slots.getD _ _ = _
        rw [Array.getD_eq_getD_getElem?, arrV_read _ _ (by omega)]
        rfl
      rw [e]
      cases hy : f (i : Int) with
      | none => exact ⟨rfl, trivial⟩
      | some y =>
        obtain ⟨ci, C, Tc, N, tyc, fs, hcl, hv, hca⟩ := hel i hi y hy
        obtain ⟨cellV, g1, g2, g3⟩ := hC.recv hcl hv
        obtain ⟨kA, comp, r1, r2, r3, -⟩ := (hC.arr t ht).2
        cases hk1.symm.trans r1
        cases hkk1.symm.trans r2
        obtain ⟨kE, hkE, -⟩ := Vm.findClass_spec r3
        obtain ⟨kC, hkC, -⟩ := Vm.findClass_spec g3
        obtain ⟨kC', hkC', -⟩ := hal.2.2 _ _ hkC
        obtain ⟨kE', hkE', -⟩ := hal.2.2 _ _ hkE
        have hasg : s.vm.assignable cellV.cls cm1 = true := by
          rcases hca with rfl | hca
          · cases g3.symm.trans r3
            exact va_asg _ _
          · obtain ⟨c0, t8, q1, q2, q3⟩ := Cond.castable_spec (va_Nw.use (A := args) rfl (hC.K.2.2.2.2.2.2.1.1 _ hca))
            cases g3.symm.trans q1
            cases r3.symm.trans q2
            exact q3
        refine ⟨rfl, cellV, (show T.heap[y]? = some cellV by rw [hT]; exact g1), (fun q h => by rw [h] at g2; cases g2), ⟨kC', hkC'⟩, ?_, ?_⟩
        · exact ⟨kE', hkE'⟩
        · show vm₁.assignable _ _ = true
          rw [hal.assignable]
          exact hasg)
    (g := F0 m pc ls (rj_i n :: rj_i 0 :: .ref a :: rj_i 0 :: .ref b :: rest)) rfl (by show ls.size = _; rw [hC.2.2.1]; exact hC.has.1) (rest := rest) rfl (by rw [hC.2.1]; exact hdg) (by have := hC.2.2.2.2.2.2.2.1; omega) (by have := hC.2.2.2.2.2.2.2.2.1; have h9 : nativeFrameWords "java/lang/System" "arraycopy" 5 = 7 := (by decide +kernel); rw [h9]; show 2 * 0 + _ + _ ≤ _; omega)
  have e1 : copied (vp_cell (X9.2.2.1 t) (n0, .inr (.inr (.inr (.inr (fun j => f (j : Int))))))) (vp_cell (X9.2.2.1 t) (n1, .inr (.inr (.inr (.inr (fun j => g (j : Int))))))) (Int32.ofInt 0) (Int32.ofInt 0) (Int32.ofInt (n : Int)) = vp_cell (X9.2.2.1 t) (n1, .inr (.inr (.inr (.inr (fun j => (fun j : Int => if j < n then f j else g j) (j : Int)))))) := by
    unfold copied
    rw [t0, t1, vp_cell_q, vp_cell_q, vp_cell_q, va_copied (fun z => va_rf z) _ _ _ _ (by omega)]
    refine rj_ext fun j hj => congrArg va_rf ?_
    unfold va_cpy
    by_cases hq : j < n
    · rw [if_pos ⟨Nat.zero_le _, by omega⟩]
      show _ = (if (j : Int) < n then f j else g j)
      rw [if_pos (by omega), Nat.zero_add, Nat.sub_zero]
    · rw [if_neg (by omega)]
      show _ = (if (j : Int) < n then f j else g j)
      rw [if_neg (by omega)]
  rw [e1] at X' step
  have hl : a < H.size := (Array.getElem?_eq_some_iff.mp hc1).1
  generalize hcell : vp_cell (X9.2.2.1 t) (n1, .inr (.inr (.inr (.inr (fun j => (fun j : Int => if j < n then f j else g j) (j : Int)))))) = cell at X' step
  have hheap : ((T.setVm vm').setCell a cell).heap = H.setIfInBounds a cell := by rw [← hT]; rfl
  obtain ⟨t9, a1, b1⟩ := kk p e R s m args below meth c (H.setIfInBounds a cell) _ cells slots ls Q (hC.stL ha (by simp) (fun q hq => by simp [Array.getElem?_setIfInBounds, Ne.symm hq]) (show (H.setIfInBounds a cell)[a]? = some (vp_cell _ _) by rw [hcell]; simp [Array.getElem?_setIfInBounds, hl]) (fun q hq => by
      obtain ⟨z, -, hz⟩ := List.mem_map.mp hq
      rw [← hz])) _ hheap X'
  exact ⟨t9, step t9 a1, b1⟩
end RJM
section GOM
variable {X9 : rj_X} {y9 : MethodName} {cc : ByteArray} {nL : Nat} {rt9 : Option FieldType} {d9 : Nat} {P9 : Option Value → rj_H → Prop} {pc : Nat} {lv : List (Nat × Value)} {rest : List Value} {σ : rj_H}
theorem go_aast {a n t v ci : Nat} {C E : String} {T : u_T} {N : Nat} {ty : Nat → FieldType} {fs : List Value} {f : Int → Option Nat} {z : Int} (ha : σ.2.2 a = some (rj_rr X9 t n f)) (ht : (rj_tys X9)[t]? = some (X9.2.2.1 t, .object E)) (hcl : rj_cl ci C T N ty) (hv : σ.2.2 v = some (.inr (ci, fs))) (hca : C = E ∨ (C, E) ∈ rj_cas) (h0 : 0 ≤ z) (h1 : z < n) (hn : n < 2147483648) (hdg : decode cc pc = .ok (.aastore, 1)) (kk : rj_Go X9 y9 cc nL rt9 d9 P9 (pc + 1) lv rest (rj_set σ a (rj_rr X9 t n (rj_up f z (some v))))) : rj_Go X9 y9 cc nL rt9 d9 P9 pc lv (.ref v :: rj_i z :: .ref a :: rest) σ := by
  obtain ⟨v0, τ0, hp0, g1, g2, g0⟩ := kk
  exact ⟨v0, τ0, hp0, g1, g2, rj_aast ha ht hcl hv hca h0 h1 hn hdg g0⟩
theorem go_anew {t n idx : Nat} {C : String} {z : Int} (hz : z = n) (hn : n < 100000) (ht : (rj_tys X9)[t]? = some (X9.2.2.1 t, .object C)) (hao : FieldType.object C ∈ rj_aos) (hlk : Cond.classLink y9.cls idx C ∈ rj_tbl) (hdg : decode cc pc = .ok (.anewarray idx, 3)) (kk : rj_Go X9 y9 cc nL rt9 d9 P9 (pc + 3) lv (.ref σ.1 :: rest) (rj_new σ n (rj_rr X9 t n (fun _ => none)))) : rj_Go X9 y9 cc nL rt9 d9 P9 pc lv (rj_i z :: rest) σ := by
  obtain ⟨v0, τ0, hp0, g1, g2, g0⟩ := kk
  exact ⟨v0, τ0, hp0, Nat.le_trans (Nat.le_add_right _ _) g1, Nat.le_trans (Nat.le_add_right _ _) g2, rj_anew hz hn ht hao hlk ⟨g1, g2⟩ hdg g0⟩
theorem go_mnew {n k idx : Nat} {z w : Int} (hz : z = n) (hw : w = k) (hn : n < 1000) (hk : k < 1000) (hlk : Cond.classLink y9.cls idx ("[" ++ (FieldType.array .int).toString) ∈ rj_tbl) (harr : Cond.arrayClass .int ∈ rj_tbl) (hdg : decode cc pc = .ok (.multianewarray idx 2, 4)) (kk : rj_Go X9 y9 cc nL rt9 d9 P9 (pc + 4) lv (.ref σ.1 :: rest) (rj_mn X9 σ n k)) : rj_Go X9 y9 cc nL rt9 d9 P9 pc lv (rj_i w :: rj_i z :: rest) σ := by
  obtain ⟨v0, τ0, hp0, g1, g2, g0⟩ := kk
  exact ⟨v0, τ0, hp0, Nat.le_trans (Nat.le_trans (Nat.le_add_right _ 1) (Nat.le_add_right _ _)) g1, Nat.le_trans (Nat.le_trans (Nat.le_add_right _ _) (Nat.le_add_right _ _)) g2, rj_mnew hz hw hn hk hlk harr ⟨g1, g2⟩ hdg g0⟩
theorem go_cpp {a b t n0 n1 n idx : Nat} {ty : FieldType} {f g : Int → Int} (hsa : σ.2.2 b = some (rj_ar X9 t n0 f)) (ha : σ.2.2 a = some (rj_ar X9 t n1 g)) (ht : (rj_tys X9)[t]? = some (X9.2.2.1 t, ty)) (h4 : n ≤ n0) (h5 : n ≤ n1) (hn : n < 100000) (hfit : ∀ j : Nat, j < n → fits ty (rj_i (f (j : Int))) = true) (hlk : Cond.methodLink y9.cls idx arraycopyName ∈ rj_tbl) (hnat : Cond.native arraycopyName ∈ rj_tbl) (hst : Cond.static arraycopyName ∈ rj_tbl) (hini : Cond.initialized "java/lang/System" ∈ rj_tbl) (hd : 2 ≤ d9) (hcat : (rest.map fun v => v.category).sum ≤ 8) (hdg : decode cc pc = .ok (.invokestatic idx, 3)) (kk : rj_Go X9 y9 cc nL rt9 d9 P9 (pc + 3) lv rest (rj_set σ a (rj_ar X9 t n1 (fun j => if j < n then f j else g j)))) : rj_Go X9 y9 cc nL rt9 d9 P9 pc lv (rj_i n :: rj_i 0 :: .ref a :: rj_i 0 :: .ref b :: rest) σ := by
  obtain ⟨v0, τ0, hp0, g1, g2, g0⟩ := kk
  exact ⟨v0, τ0, hp0, g1, g2, rj_cpp hsa ha ht h4 h5 hn hfit hlk hnat hst hini hd hcat hdg g0⟩
theorem go_cpr {a b t n0 n1 n idx : Nat} {E : String} {f g : Int → Option Nat} (hsa : σ.2.2 b = some (rj_rr X9 t n0 f)) (ha : σ.2.2 a = some (rj_rr X9 t n1 g)) (ht : (rj_tys X9)[t]? = some (X9.2.2.1 t, .object E)) (h4 : n ≤ n0) (h5 : n ≤ n1) (hn : n < 100000) (hel : ∀ j : Nat, j < n → ∀ y : Nat, f (j : Int) = some y → ∃ (ci : Nat) (C : String) (T : u_T) (N : Nat) (ty : Nat → FieldType) (fs : List Value), rj_cl ci C T N ty ∧ σ.2.2 y = some (.inr (ci, fs)) ∧ (C = E ∨ (C, E) ∈ rj_cas)) (hlk : Cond.methodLink y9.cls idx arraycopyName ∈ rj_tbl) (hnat : Cond.native arraycopyName ∈ rj_tbl) (hst : Cond.static arraycopyName ∈ rj_tbl) (hini : Cond.initialized "java/lang/System" ∈ rj_tbl) (hd : 2 ≤ d9) (hcat : (rest.map fun v => v.category).sum ≤ 8) (hdg : decode cc pc = .ok (.invokestatic idx, 3)) (kk : rj_Go X9 y9 cc nL rt9 d9 P9 (pc + 3) lv rest (rj_set σ a (rj_rr X9 t n1 (fun j => if j < n then f j else g j)))) : rj_Go X9 y9 cc nL rt9 d9 P9 pc lv (rj_i n :: rj_i 0 :: .ref a :: rj_i 0 :: .ref b :: rest) σ := by
  obtain ⟨v0, τ0, hp0, g1, g2, g0⟩ := kk
  exact ⟨v0, τ0, hp0, g1, g2, rj_cpr hsa ha ht h4 h5 hn hel hlk hnat hst hini hd hcat hdg g0⟩
end GOM
