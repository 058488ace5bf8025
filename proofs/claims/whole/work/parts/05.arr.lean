/-! arrays, new cells, instanceof, the script -/
section RJA
variable {X9 : rj_X} {y9 : MethodName} {cc : ByteArray} {nL : Nat} {rt9 : Option FieldType} {d9 : Nat} {v9 : Option Value} {τ9 : rj_H} {pc : Nat} {lv : List (Nat × Value)} {rest : List Value} {σ : rj_H}
variable {p : Program} {e : Env} {R : Room} {s : State} {m : MethodId} {args : Array Value} {below : List Frame} {meth : Method} {c : Code} {H : Heap} {locs : List Loc} {cells slots : Nat} {ls : Array Slot} {Q : State → Prop}
theorem rj_C.arr (h : rj_C X9 y9 cc nL rt9 d9 v9 τ9 lv σ p e R s m args below meth c H locs cells slots ls Q) (t : Nat) {ty : FieldType} (ht : (rj_tys X9)[t]? = some (X9.2.2.1 t, ty)) : ArrOfT s (X9.2.2.1 t) ty ∧ va_RA s (X9.2.2.1 t) ty := h.K.1.2 t _ ht
theorem rj_sz {t n : Nat} {X9 : rj_X} {f : Nat → Value} {z : Int} (h0 : 0 ≤ z) (h1 : z < n) (hn : n < 2147483648) : ¬ (Int32.ofInt z < 0 ∨ (arrV (X9.2.2.1 t) n f).slots.size ≤ (Int32.ofInt z).toNatClampNeg) := by
  rw [arrV_size]; exact rj_vin h0 h1 hn
theorem rj_rd {t n : Nat} {X9 : rj_X} {f : Nat → Value} {z : Int} (h0 : 0 ≤ z) (h1 : z < n) (hn : n < 2147483648) : (arrV (X9.2.2.1 t) n f).slots[(Int32.ofInt z).toNatClampNeg]? = some (f z.toNat) := by
  rw [(rj_cl32 h0 (by omega)).1, arrV_read _ _ (by omega)]
theorem rj_iald {a n : Nat} {g : Int → Int} {z : Int} (ha : σ.2.2 a = some (rj_ar X9 0 n g)) (h0 : 0 ≤ z) (h1 : z < n) (hn : n < 2147483648) (hdg : decode cc pc = .ok (.iaload, 1)) (kk : rj_Run X9 y9 cc nL rt9 d9 v9 τ9 (pc + 1) lv (rj_i (g z) :: rest) σ) : rj_Run X9 y9 cc nL rt9 d9 v9 τ9 pc lv (rj_i z :: .ref a :: rest) σ := by
  intro p e R s m args below meth c H locs cells slots ls Q hC
  have hP := (hC.hp.2 _ _ ha).2
  have hA := hC.arr 0 rfl
  refine W.iald (v := rj_i (g z)) hC.1 hC.2.1 hP (hA.1 n (fun j => .int (Int32.ofInt (g (j : Int))))) (fun q => by cases q) (rj_sz h0 h1 hn) ?_ rfl rfl hdg (kk p e R s m args below meth c H locs cells slots ls Q hC)
  show (arrV _ _ _).slots[_]? = _
  rw [rj_rd h0 h1 hn]
  show some (Value.int (Int32.ofInt (g (z.toNat : Int)))) = _
  rw [Int.toNat_of_nonneg h0]
theorem rj_iast {a n : Nat} {g : Int → Int} {z w : Int} (ha : σ.2.2 a = some (rj_ar X9 0 n g)) (h0 : 0 ≤ z) (h1 : z < n) (hn : n < 2147483648) (hdg : decode cc pc = .ok (.iastore, 1)) (kk : rj_Run X9 y9 cc nL rt9 d9 v9 τ9 (pc + 1) lv rest (rj_set σ a (rj_ar X9 0 n (rj_up g z w)))) : rj_Run X9 y9 cc nL rt9 d9 v9 τ9 pc lv (rj_i w :: rj_i z :: .ref a :: rest) σ := by
  intro p e R s m args below meth c H locs cells slots ls Q hC
  have hP := (hC.hp.2 _ _ ha).2
  have hA := hC.arr 0 rfl
  refine W.iast hC.1 hC.2.1 hP (hA.1 n (fun j => .int (Int32.ofInt (g (j : Int))))) (fun q => by cases q) (rj_sz h0 h1 hn) rfl rfl hdg (fun H1 e1 z1 o1 => kk _ _ _ _ _ _ _ _ _ _ _ _ _ _ _ (hC.st ha z1 o1 ?_))
  show H1[a]? = some (vp_cell _ _)
  rw [e1]
  rw [vp_cell_i, vp_cell_i, arrV_store, (rj_cl32 h0 (by omega)).1]
  congr 2
  funext q
  by_cases hq : q = z.toNat
  · subst hq
    simp only [updV, if_pos rfl, Int.toNat_of_nonneg h0, rj_up_eq, if_true]
  · rw [updV, if_neg hq, rj_up_ne _ _ (by omega)]
theorem rj_inew {z : Int} {n : Nat} (hz : z = n) (hn : n < 100000) (harr : Cond.arrayClass .int ∈ rj_tbl) (hr : σ.1 + 1 ≤ τ9.1 ∧ σ.2.1 + n ≤ τ9.2.1) (hdg : decode cc pc = .ok (.newarray .int, 2)) (kk : rj_Run X9 y9 cc nL rt9 d9 v9 τ9 (pc + 2) lv (.ref σ.1 :: rest) (rj_new σ n (rj_ar X9 0 n (fun _ => 0)))) : rj_Run X9 y9 cc nL rt9 d9 v9 τ9 pc lv (rj_i z :: rest) σ := by
  intro p e R s m args below meth c H locs cells slots ls Q hC
  subst hz
  have hA := (hC.arr 0 (ty := .int) rfl).2
  have hcl := rj_cl32 (z := (n : Int)) (by omega) (by omega)
  have hneg : ¬ Int32.ofInt (n : Int) < 0 := by
    have h9 : ¬ (Int32.ofInt (n : Int)).toInt < (0 : Int32).toInt := by rw [hcl.2]; show ¬ (n : Int) < 0; omega
    exact fun q => h9 (Int32.lt_iff_toInt_lt.mp q)
  obtain ⟨h1, h2, h3, h4, h5, h6, h7, h8, h9, h10, h11, h12, zc, zs, z1, z2, z3, z4, z5⟩ := hC
  refine va_newaK (atype := .int) (N := n) h1 h2 (h6 _ harr) rfl hdg rfl hneg (by rw [hcl.1]; omega) (by show n * 4 ≤ _; omega) (by omega) (by omega) h11.1 (fun H1 cA e1 z9 o1 hAr hNm => ?_)
  have hc : cA = X9.2.2.1 0 := Option.some.inj (hNm.symm.trans hA)
  subst hc
  rw [← h11.1] at e1 z9 o1
  refine kk _ _ _ _ _ _ _ _ _ _ _ _ _ _ _ ⟨h1, h2, h3, h4, h5, h6, h7, h8, h9, h10, h11.push (Nat.le_trans h7.2.2.2.1 h12.1) z9 o1 e1, ⟨Nat.le_trans h12.1 (by omega), fun x g1 g2 => (o1 x (Nat.lt_of_lt_of_le g1 h12.1)).trans (h12.2.1 x g1 g2), h12.2.2⟩, zc, zs, ?_, ?_, z3, z4, z5⟩
  · show cells + 1 + zc = σ.1 + 1; omega
  · show slots + n + zs = σ.2.1 + n; omega
theorem rj_bald {a n : Nat} {g : Int → Int} {z : Int} (ha : σ.2.2 a = some (rj_ar X9 1 n g)) (h0 : 0 ≤ z) (h1 : z < n) (hn : n < 2147483648) (hdg : decode cc pc = .ok (.baload, 1)) (kk : rj_Run X9 y9 cc nL rt9 d9 v9 τ9 (pc + 1) lv (rj_i (g z) :: rest) σ) : rj_Run X9 y9 cc nL rt9 d9 v9 τ9 pc lv (rj_i z :: .ref a :: rest) σ := by
  intro p e R s m args below meth c H locs cells slots ls Q hC
  have hP := (hC.hp.2 _ _ ha).2
  have hA := hC.arr 1 rfl
  refine W.bald (v := rj_i (g z)) hC.1 hC.2.1 hP (hA.1 n (fun j => .int (Int32.ofInt (g (j : Int))))) (fun q => by cases q) (rj_sz h0 h1 hn) ?_ rfl rfl hdg (kk p e R s m args below meth c H locs cells slots ls Q hC)
  show (arrV _ _ _).slots[_]? = _
  rw [rj_rd h0 h1 hn]
  show some (Value.int (Int32.ofInt (g (z.toNat : Int)))) = _
  rw [Int.toNat_of_nonneg h0]
theorem rj_bast {a n : Nat} {g : Int → Int} {z w : Int} (ha : σ.2.2 a = some (rj_ar X9 1 n g)) (h0 : 0 ≤ z) (h1 : z < n) (hn : n < 2147483648) (hw : narrow .byte (.int (Int32.ofInt w)) = .int (Int32.ofInt w)) (hdg : decode cc pc = .ok (.bastore, 1)) (kk : rj_Run X9 y9 cc nL rt9 d9 v9 τ9 (pc + 1) lv rest (rj_set σ a (rj_ar X9 1 n (rj_up g z w)))) : rj_Run X9 y9 cc nL rt9 d9 v9 τ9 pc lv (rj_i w :: rj_i z :: .ref a :: rest) σ := by
  intro p e R s m args below meth c H locs cells slots ls Q hC
  have hP := (hC.hp.2 _ _ ha).2
  have hA := hC.arr 1 rfl
  refine W.bast hC.1 hC.2.1 hP (hA.1 n (fun j => .int (Int32.ofInt (g (j : Int))))) (fun q => by cases q) (rj_sz h0 h1 hn) rfl rfl hdg (fun H1 e1 z1 o1 => kk _ _ _ _ _ _ _ _ _ _ _ _ _ _ _ (hC.st ha z1 o1 ?_))
  show H1[a]? = some (vp_cell _ _)
  rw [e1]
  rw [hw]
  rw [vp_cell_i, vp_cell_i, arrV_store, (rj_cl32 h0 (by omega)).1]
  congr 2
  funext q
  by_cases hq : q = z.toNat
  · subst hq
    simp only [updV, if_pos rfl, Int.toNat_of_nonneg h0, rj_up_eq, if_true]
  · rw [updV, if_neg hq, rj_up_ne _ _ (by omega)]
theorem rj_bnew {z : Int} {n : Nat} (hz : z = n) (hn : n < 100000) (harr : Cond.arrayClass .byte ∈ rj_tbl) (hr : σ.1 + 1 ≤ τ9.1 ∧ σ.2.1 + n ≤ τ9.2.1) (hdg : decode cc pc = .ok (.newarray .byte, 2)) (kk : rj_Run X9 y9 cc nL rt9 d9 v9 τ9 (pc + 2) lv (.ref σ.1 :: rest) (rj_new σ n (rj_ar X9 1 n (fun _ => 0)))) : rj_Run X9 y9 cc nL rt9 d9 v9 τ9 pc lv (rj_i z :: rest) σ := by
  intro p e R s m args below meth c H locs cells slots ls Q hC
  subst hz
  have hA := (hC.arr 1 (ty := .byte) rfl).2
  have hcl := rj_cl32 (z := (n : Int)) (by omega) (by omega)
  have hneg : ¬ Int32.ofInt (n : Int) < 0 := by
    have h9 : ¬ (Int32.ofInt (n : Int)).toInt < (0 : Int32).toInt := by rw [hcl.2]; show ¬ (n : Int) < 0; omega
    exact fun q => h9 (Int32.lt_iff_toInt_lt.mp q)
  obtain ⟨h1, h2, h3, h4, h5, h6, h7, h8, h9, h10, h11, h12, zc, zs, z1, z2, z3, z4, z5⟩ := hC
  refine va_newaK (atype := .byte) (N := n) h1 h2 (h6 _ harr) rfl hdg rfl hneg (by rw [hcl.1]; omega) (by show n * 1 ≤ _; omega) (by omega) (by omega) h11.1 (fun H1 cA e1 z9 o1 hAr hNm => ?_)
  have hc : cA = X9.2.2.1 1 := Option.some.inj (hNm.symm.trans hA)
  subst hc
  rw [← h11.1] at e1 z9 o1
  refine kk _ _ _ _ _ _ _ _ _ _ _ _ _ _ _ ⟨h1, h2, h3, h4, h5, h6, h7, h8, h9, h10, h11.push (Nat.le_trans h7.2.2.2.1 h12.1) z9 o1 e1, ⟨Nat.le_trans h12.1 (by omega), fun x g1 g2 => (o1 x (Nat.lt_of_lt_of_le g1 h12.1)).trans (h12.2.1 x g1 g2), h12.2.2⟩, zc, zs, ?_, ?_, z3, z4, z5⟩
  · show cells + 1 + zc = σ.1 + 1; omega
  · show slots + n + zs = σ.2.1 + n; omega
theorem rj_zald {a n : Nat} {g : Int → Int} {z : Int} (ha : σ.2.2 a = some (rj_ar X9 2 n g)) (h0 : 0 ≤ z) (h1 : z < n) (hn : n < 2147483648) (hdg : decode cc pc = .ok (.baload, 1)) (kk : rj_Run X9 y9 cc nL rt9 d9 v9 τ9 (pc + 1) lv (rj_i (g z) :: rest) σ) : rj_Run X9 y9 cc nL rt9 d9 v9 τ9 pc lv (rj_i z :: .ref a :: rest) σ := by
  intro p e R s m args below meth c H locs cells slots ls Q hC
  have hP := (hC.hp.2 _ _ ha).2
  have hA := hC.arr 2 rfl
  refine W.zald (v := rj_i (g z)) hC.1 hC.2.1 hP (hA.1 n (fun j => .int (Int32.ofInt (g (j : Int))))) (fun q => by cases q) (rj_sz h0 h1 hn) ?_ rfl rfl hdg (kk p e R s m args below meth c H locs cells slots ls Q hC)
  show (arrV _ _ _).slots[_]? = _
  rw [rj_rd h0 h1 hn]
  show some (Value.int (Int32.ofInt (g (z.toNat : Int)))) = _
  rw [Int.toNat_of_nonneg h0]
theorem rj_zast {a n : Nat} {g : Int → Int} {z w : Int} (ha : σ.2.2 a = some (rj_ar X9 2 n g)) (h0 : 0 ≤ z) (h1 : z < n) (hn : n < 2147483648) (hw : narrow .boolean (.int (Int32.ofInt w)) = .int (Int32.ofInt w)) (hdg : decode cc pc = .ok (.bastore, 1)) (kk : rj_Run X9 y9 cc nL rt9 d9 v9 τ9 (pc + 1) lv rest (rj_set σ a (rj_ar X9 2 n (rj_up g z w)))) : rj_Run X9 y9 cc nL rt9 d9 v9 τ9 pc lv (rj_i w :: rj_i z :: .ref a :: rest) σ := by
  intro p e R s m args below meth c H locs cells slots ls Q hC
  have hP := (hC.hp.2 _ _ ha).2
  have hA := hC.arr 2 rfl
  refine W.zast hC.1 hC.2.1 hP (hA.1 n (fun j => .int (Int32.ofInt (g (j : Int))))) (fun q => by cases q) (rj_sz h0 h1 hn) rfl rfl hdg (fun H1 e1 z1 o1 => kk _ _ _ _ _ _ _ _ _ _ _ _ _ _ _ (hC.st ha z1 o1 ?_))
  show H1[a]? = some (vp_cell _ _)
  rw [e1]
  rw [hw]
  rw [vp_cell_i, vp_cell_i, arrV_store, (rj_cl32 h0 (by omega)).1]
  congr 2
  funext q
  by_cases hq : q = z.toNat
  · subst hq
    simp only [updV, if_pos rfl, Int.toNat_of_nonneg h0, rj_up_eq, if_true]
  · rw [updV, if_neg hq, rj_up_ne _ _ (by omega)]
theorem rj_znew {z : Int} {n : Nat} (hz : z = n) (hn : n < 100000) (harr : Cond.arrayClass .boolean ∈ rj_tbl) (hr : σ.1 + 1 ≤ τ9.1 ∧ σ.2.1 + n ≤ τ9.2.1) (hdg : decode cc pc = .ok (.newarray .boolean, 2)) (kk : rj_Run X9 y9 cc nL rt9 d9 v9 τ9 (pc + 2) lv (.ref σ.1 :: rest) (rj_new σ n (rj_ar X9 2 n (fun _ => 0)))) : rj_Run X9 y9 cc nL rt9 d9 v9 τ9 pc lv (rj_i z :: rest) σ := by
  intro p e R s m args below meth c H locs cells slots ls Q hC
  subst hz
  have hA := (hC.arr 2 (ty := .boolean) rfl).2
  have hcl := rj_cl32 (z := (n : Int)) (by omega) (by omega)
  have hneg : ¬ Int32.ofInt (n : Int) < 0 := by
    have h9 : ¬ (Int32.ofInt (n : Int)).toInt < (0 : Int32).toInt := by rw [hcl.2]; show ¬ (n : Int) < 0; omega
    exact fun q => h9 (Int32.lt_iff_toInt_lt.mp q)
  obtain ⟨h1, h2, h3, h4, h5, h6, h7, h8, h9, h10, h11, h12, zc, zs, z1, z2, z3, z4, z5⟩ := hC
  refine va_newaK (atype := .boolean) (N := n) h1 h2 (h6 _ harr) rfl hdg rfl hneg (by rw [hcl.1]; omega) (by show n * 1 ≤ _; omega) (by omega) (by omega) h11.1 (fun H1 cA e1 z9 o1 hAr hNm => ?_)
  have hc : cA = X9.2.2.1 2 := Option.some.inj (hNm.symm.trans hA)
  subst hc
  rw [← h11.1] at e1 z9 o1
  refine kk _ _ _ _ _ _ _ _ _ _ _ _ _ _ _ ⟨h1, h2, h3, h4, h5, h6, h7, h8, h9, h10, h11.push (Nat.le_trans h7.2.2.2.1 h12.1) z9 o1 e1, ⟨Nat.le_trans h12.1 (by omega), fun x g1 g2 => (o1 x (Nat.lt_of_lt_of_le g1 h12.1)).trans (h12.2.1 x g1 g2), h12.2.2⟩, zc, zs, ?_, ?_, z3, z4, z5⟩
  · show cells + 1 + zc = σ.1 + 1; omega
  · show slots + n + zs = σ.2.1 + n; omega
/-- the length of any array -/
theorem rj_alen {a n t : Nat} {f : Nat → Value} {x : vp_A} {ty : FieldType} (ha : σ.2.2 a = some (.inl (X9.2.2.1 t, x))) (ht : (rj_tys X9)[t]? = some (X9.2.2.1 t, ty)) (hx : x.1 = n) (hn : n < 2147483648) (hdg : decode cc pc = .ok (.arraylength, 1)) (kk : rj_Run X9 y9 cc nL rt9 d9 v9 τ9 (pc + 1) lv (rj_i n :: rest) σ) : rj_Run X9 y9 cc nL rt9 d9 v9 τ9 pc lv (.ref a :: rest) σ := by
  intro p e R s m args below meth c H locs cells slots ls Q hC
  have hP : va_P X9.2.1 vwCl [(a, .inl (X9.2.2.1 t, x))] H := fun j q hq => by
    cases j with
    | zero => cases hq; exact (hC.hp.2 _ _ ha).2
    | succ j => simp at hq
  exact va_alen (ws := [(a, .inl (X9.2.2.1 t, x))]) hC.1 hC.2.1 hC.K.1 hP 0 t rfl ht (v := Int32.ofInt n) (by subst hx; rfl) hdg (kk p e R s m args below meth c H locs cells slots ls Q hC)
/-- a reference out of an array of references -/
theorem rj_aald {a n t : Nat} {f : Int → Option Nat} {z : Int} {ty : FieldType} (ha : σ.2.2 a = some (rj_rr X9 t n f)) (ht : (rj_tys X9)[t]? = some (X9.2.2.1 t, ty)) (hr : ty.isReference = true) (h0 : 0 ≤ z) (h1 : z < n) (hn : n < 2147483648) (hdg : decode cc pc = .ok (.aaload, 1)) (kk : rj_Run X9 y9 cc nL rt9 d9 v9 τ9 (pc + 1) lv (va_rf (f z) :: rest) σ) : rj_Run X9 y9 cc nL rt9 d9 v9 τ9 pc lv (rj_i z :: .ref a :: rest) σ := by
  intro p e R s m args below meth c H locs cells slots ls Q hC
  have hP := (hC.hp.2 _ _ ha).2
  have hA := hC.arr t ht
  refine W.aald (v := va_rf (f z)) (ty := ty) hC.1 hC.2.1 hP (hA.1 n (fun j => va_rf (f (j : Int)))) hr (fun q => by cases q) (rj_sz h0 h1 hn) ?_ rfl rfl hdg (kk p e R s m args below meth c H locs cells slots ls Q hC)
  show (arrV _ _ _).slots[_]? = _
  rw [rj_rd h0 h1 hn]
  show some (va_rf (f (z.toNat : Int))) = _
  rw [Int.toNat_of_nonneg h0]
/-- new C -/
theorem rj_newo {ci idx : Nat} {C : String} {T : u_T} {N : Nat} {ty : Nat → FieldType} {fs : List Value} (hcl : rj_cl ci C T N ty) (hlk : Cond.classLink y9.cls idx C ∈ rj_tbl) (hin : Cond.instantiable C N ∈ rj_tbl) (hini : Cond.initialized C ∈ rj_tbl) (hfs : ∀ j, j < N → defaultValue (ty j) = vp_V fs j) (hr : σ.1 + 1 ≤ τ9.1 ∧ σ.2.1 + N ≤ τ9.2.1) (hdg : decode cc pc = .ok (.new idx, 3)) (kk : rj_Run X9 y9 cc nL rt9 d9 v9 τ9 (pc + 3) lv (.ref σ.1 :: rest) (rj_new σ N (.inr (ci, fs)))) : rj_Run X9 y9 cc nL rt9 d9 v9 τ9 pc lv rest σ := by
  intro p e R s m args below meth c H locs cells slots ls Q hC
  obtain ⟨h1, h2, h3, h4, h5, h6, h7, h8, h9, h10, h11, h12, zc, zs, z1, z2, z3, z4, z5⟩ := hC
  have hKn := h7.1.1 ci _ hcl.1
  refine W.newcK h1 h2 h4 (h6 _ hlk) (h6 _ hin) (h6 _ hini) rfl hdg (by omega) (by omega) hKn.2.1 h11.1 (fun H1 kC hkC e1 z9 o1 => ?_)
  rw [← h11.1] at e1 z9 o1
  refine kk _ _ _ _ _ _ _ _ _ _ _ _ _ _ _ ⟨h1, h2, h3, h4, h5, h6, h7, h8, h9, h10, h11.push (Nat.le_trans h7.2.2.2.1 h12.1) z9 o1 ⟨_, hcl.1, (u_born ty h6 hcl.2.1 hKn hkC e1 hcl.2.2.1).to hfs⟩, ⟨Nat.le_trans h12.1 (by omega), fun x g1 g2 => (o1 x (Nat.lt_of_lt_of_le g1 h12.1)).trans (h12.2.1 x g1 g2), h12.2.2⟩, zc, zs, ?_, ?_, z3, z4, z5⟩
  · show cells + 1 + zc = σ.1 + 1; omega
  · show slots + N + zs = σ.2.1 + N; omega
/-- the cell of an object, for a call or instanceof -/
theorem rj_C.recv (h : rj_C X9 y9 cc nL rt9 d9 v9 τ9 lv σ p e R s m args below meth c H locs cells slots ls Q) {ci a : Nat} {C : String} {T : u_T} {N : Nat} {ty : Nat → FieldType} {fs : List Value} (hcl : rj_cl ci C T N ty) (ha : σ.2.2 a = some (.inr (ci, fs))) : ∃ cell : Cell, H[a]? = some cell ∧ cell.vm.isStatics = false ∧ s.vm.findClass C = some cell.cls := by
  have hP : va_P X9.2.1 vwCl [(a, .inr (ci, fs))] H := fun j q hq => by
    cases j with
    | zero => cases hq; exact (h.hp.2 _ _ ha).2
    | succ j => simp at hq
  exact va_recv (ws := [(a, .inr (ci, fs))]) h.K.1 hP hcl.1 (q0 := 0) rfl
theorem rj_instS {ci idx a : Nat} {C : String} {T : u_T} {N : Nat} {ty : Nat → FieldType} {fs : List Value} (hcl : rj_cl ci C T N ty) (ha : σ.2.2 a = some (.inr (ci, fs))) (hlk : Cond.classLink y9.cls idx C ∈ rj_tbl) (hdg : decode cc pc = .ok (.instanceof idx, 3)) (kk : rj_Run X9 y9 cc nL rt9 d9 v9 τ9 (pc + 3) lv (rj_i 1 :: rest) σ) : rj_Run X9 y9 cc nL rt9 d9 v9 τ9 pc lv (.ref a :: rest) σ := by
  intro p e R s m args below meth c H locs cells slots ls Q hC
  exact va_instS hC.1 hC.2.1 hC.own (hC.ts _ hlk) (hC.K.1.1 ci _ hcl.1).2 (hC.recv hcl ha) hdg (kk p e R s m args below meth c H locs cells slots ls Q hC)
theorem rj_instY {ci idx a : Nat} {C nm : String} {T : u_T} {N : Nat} {ty : Nat → FieldType} {fs : List Value} (hcl : rj_cl ci C T N ty) (ha : σ.2.2 a = some (.inr (ci, fs))) (hlk : Cond.classLink y9.cls idx nm ∈ rj_tbl) (hca : (C, nm) ∈ rj_cas) (hdg : decode cc pc = .ok (.instanceof idx, 3)) (kk : rj_Run X9 y9 cc nL rt9 d9 v9 τ9 (pc + 3) lv (rj_i 1 :: rest) σ) : rj_Run X9 y9 cc nL rt9 d9 v9 τ9 pc lv (.ref a :: rest) σ := by
  intro p e R s m args below meth c H locs cells slots ls Q hC
  exact va_instY hC.1 hC.2.1 hC.own (hC.ts _ hlk) (hC.K.2.2.2.2.2.2.1.1 _ hca) (hC.recv hcl ha) hdg (kk p e R s m args below meth c H locs cells slots ls Q hC)
theorem rj_instN {ci idx a : Nat} {C nm : String} {T : u_T} {N : Nat} {ty : Nat → FieldType} {fs : List Value} (hcl : rj_cl ci C T N ty) (ha : σ.2.2 a = some (.inr (ci, fs))) (hlk : Cond.classLink y9.cls idx nm ∈ rj_tbl) (hca : (C, nm) ∈ rj_ncs) (hdg : decode cc pc = .ok (.instanceof idx, 3)) (kk : rj_Run X9 y9 cc nL rt9 d9 v9 τ9 (pc + 3) lv (rj_i 0 :: rest) σ) : rj_Run X9 y9 cc nL rt9 d9 v9 τ9 pc lv (.ref a :: rest) σ := by
  intro p e R s m args below meth c H locs cells slots ls Q hC
  exact va_instNo hC.1 hC.2.1 hC.own (hC.ts _ hlk) (hC.K.2.2.2.2.2.2.1.2.1 _ hca) (hC.recv hcl ha) hdg (kk p e R s m args below meth c H locs cells slots ls Q hC)
/-- the script -/
theorem rj_sld {z : Int} (h0 : 0 ≤ z) (h1 : z < X9.2.2.2.2.1.2.1) (hn : X9.2.2.2.2.1.2.1 < 2147483648) (hdg : decode cc pc = .ok (.iaload, 1)) (kk : rj_Run X9 y9 cc nL rt9 d9 v9 τ9 (pc + 1) lv (.int (X9.2.2.2.2.1.2.2 z.toNat) :: rest) σ) : rj_Run X9 y9 cc nL rt9 d9 v9 τ9 pc lv (rj_i z :: .ref X9.2.2.2.2.1.1 :: rest) σ := by
  intro p e R s m args below meth c H locs cells slots ls Q hC
  have hK := hC.K
  refine va_sld hC.1 hC.2.1 hK.2.1 hK.2.1.lt (Nat.not_le.mpr hK.2.2.1) hC.S (rj_vin h0 h1 hn) hdg ?_
  rw [(rj_cl32 h0 (by omega)).1]
  exact kk p e R s m args below meth c H locs cells slots ls Q hC
theorem rj_slen (hn : X9.2.2.2.2.1.2.1 < 2147483648) (hdg : decode cc pc = .ok (.arraylength, 1)) (kk : rj_Run X9 y9 cc nL rt9 d9 v9 τ9 (pc + 1) lv (rj_i X9.2.2.2.2.1.2.1 :: rest) σ) : rj_Run X9 y9 cc nL rt9 d9 v9 τ9 pc lv (.ref X9.2.2.2.2.1.1 :: rest) σ := by
  intro p e R s m args below meth c H locs cells slots ls Q hC
  have hK := hC.K
  exact va_slen hC.1 hC.2.1 hK.2.1 hK.2.1.lt (Nat.not_le.mpr hK.2.2.1) hC.S hdg (kk p e R s m args below meth c H locs cells slots ls Q hC)
end RJA
