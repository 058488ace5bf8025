/-! the JDK: Math, bitCount, fill -/
section JD
variable {X9 : rj_X} {y9 : MethodName} {cc : ByteArray} {nL : Nat} {rt9 : Option FieldType} {d9 : Nat} {v9 : Option Value} {τ9 : rj_H} {P9 : Option Value → rj_H → Prop} {pc : Nat} {lv : List (Nat × Value)} {rest : List Value} {σ : rj_H}
theorem rj_iushr {x y v : Int32} (hdg : decode cc pc = .ok (.iushr, 1)) (hv : (x.toUInt32 >>> (y.toUInt32 &&& Int32.toUInt32 31)).toInt32 = v) (k : rj_Run X9 y9 cc nL rt9 d9 v9 τ9 (pc + 1) lv (.int v :: rest) σ) : rj_Run X9 y9 cc nL rt9 d9 v9 τ9 pc lv (.int y :: .int x :: rest) σ := fun p e R s m args below meth c H locs cells slots ls Q hC => lv_iushr hC.1 hC.2.1 hdg hv (k p e R s m args below meth c H locs cells slots ls Q hC)
theorem go_iushr {x y : Int32} (hdg : decode cc pc = .ok (.iushr, 1)) (k : rj_Go X9 y9 cc nL rt9 d9 P9 (pc + 1) lv (.int ((x.toUInt32 >>> (y.toUInt32 &&& Int32.toUInt32 31)).toInt32) :: rest) σ) : rj_Go X9 y9 cc nL rt9 d9 P9 pc lv (.int y :: .int x :: rest) σ := by
  obtain ⟨v0, τ0, hp0, g1, g2, g0⟩ := k
  exact ⟨v0, τ0, hp0, g1, g2, rj_iushr hdg rfl g0⟩
theorem rj_ldcw {idx : Nat} {v : Int32} (hw : Cond.constant y9.cls idx v ∈ rj_tbl) (hdg : decode cc pc = .ok (.ldc_w idx, 3)) (k : rj_Run X9 y9 cc nL rt9 d9 v9 τ9 (pc + 3) lv (.int v :: rest) σ) : rj_Run X9 y9 cc nL rt9 d9 v9 τ9 pc lv rest σ := fun p e R s m args below meth c H locs cells slots ls Q hC => lv_ldcw hC.1 hC.2.1 hC.own (hC.ts _ hw) hdg (k p e R s m args below meth c H locs cells slots ls Q hC)
theorem go_ldcw {idx : Nat} {v : Int32} (hw : Cond.constant y9.cls idx v ∈ rj_tbl) (hdg : decode cc pc = .ok (.ldc_w idx, 3)) (k : rj_Go X9 y9 cc nL rt9 d9 P9 (pc + 3) lv (.int v :: rest) σ) : rj_Go X9 y9 cc nL rt9 d9 P9 pc lv rest σ := by
  obtain ⟨v0, τ0, hp0, g1, g2, g0⟩ := k
  exact ⟨v0, τ0, hp0, g1, g2, rj_ldcw hw hdg g0⟩
theorem rj_astoreSN {i : Nat} {lv' : List (Nat × Value)} (hn : i < nL) (hl : rj_is (lv.filter (fun q => !(q.1 == i) && !(q.1 + 1 == i && q.2.category == 2))) i (.null) = lv') (hdg : decode cc pc = .ok (.astore i, 2)) (k : rj_Run X9 y9 cc nL rt9 d9 v9 τ9 (pc + 2) lv' rest σ) : rj_Run X9 y9 cc nL rt9 d9 v9 τ9 pc lv (.null :: rest) σ := fun p e R s m args below meth c H locs cells slots ls Q hC => lv_astoreN hC.1 hC.2.1 hdg hC.has hn rfl (fun ls' h' => k p e R s m args below meth c H locs cells slots ls' Q (hC.loc ⟨h'.1, h'.2.1, fun q hq => h'.2.2 q (by subst hl; exact rj_is_mem _ q hq)⟩))
theorem go_astoreSN {i : Nat} {lv' : List (Nat × Value)} (hn : i < nL) (hl : rj_is (lv.filter (fun q => !(q.1 == i) && !(q.1 + 1 == i && q.2.category == 2))) i (.null) = lv') (hdg : decode cc pc = .ok (.astore i, 2)) (k : rj_Go X9 y9 cc nL rt9 d9 P9 (pc + 2) lv' rest σ) : rj_Go X9 y9 cc nL rt9 d9 P9 pc lv (.null :: rest) σ := by
  obtain ⟨v0, τ0, hp0, g1, g2, g0⟩ := k
  exact ⟨v0, τ0, hp0, g1, g2, rj_astoreSN hn hl hdg g0⟩
end JD
theorem qJ6_265 : Cond.constant RJ6 265 (1431655765 : Int32) ∈ rj_tbl := rj_inT 732 (by decide +kernel)
theorem qJ6_266 : Cond.constant RJ6 266 (858993459 : Int32) ∈ rj_tbl := rj_inT 733 (by decide +kernel)
theorem qJ6_267 : Cond.constant RJ6 267 (252645135 : Int32) ∈ rj_tbl := rj_inT 734 (by decide +kernel)
section JM
variable {X9 : rj_X} {y9 : MethodName} {cc : ByteArray} {nL : Nat} {rt9 : Option FieldType} {d9 : Nat} {v9 : Option Value} {τ9 : rj_H} {P9 : Option Value → rj_H → Prop} {pc : Nat} {lv : List (Nat × Value)} {rest : List Value} {σ : rj_H}
theorem rj_C.cs {p : Program} {e : Env} {R : Room} {s : State} {m : MethodId} {args : Array Value} {below : List Frame} {meth : Method} {c : Code} {H : Heap} {locs : List Loc} {cells slots : Nat} {ls : Array Slot} {Q : State → Prop} (hC : rj_C X9 y9 cc nL rt9 d9 v9 τ9 lv σ p e R s m args below meth c H locs cells slots ls Q) (hr : σ.1 ≤ τ9.1 ∧ σ.2.1 ≤ τ9.2.1) : cells ≤ R.cells ∧ slots ≤ R.slots := by
  obtain ⟨h1, h2, h3, h4, h5, h6, h7, h8, h9, h10, h11, hS, zc, zs, z1, z2, z3, z4, z5⟩ := hC
  omega
theorem rj_mmax {idx : Nat} {a b : Int} (ha : -2147483648 ≤ a ∧ a < 2147483648) (hb : -2147483648 ≤ b ∧ b < 2147483648) (hw : rj_wS y9.cls idx yJ9_max_7cf53 cJ9_max_7cf53 2 (some .int) 2) (hd : 1 ≤ d9) (hcat : (rest.map fun v => v.category).sum ≤ 8) (hr : σ.1 ≤ τ9.1 ∧ σ.2.1 ≤ τ9.2.1) (hdg : decode cc pc = .ok (.invokestatic idx, 3)) (k : rj_Run X9 y9 cc nL rt9 d9 v9 τ9 (pc + 3) lv (rj_i (if a < b then b else a) :: rest) σ) : rj_Run X9 y9 cc nL rt9 d9 v9 τ9 pc lv (rj_i b :: rj_i a :: rest) σ := fun p e R s m args below meth c H locs cells slots ls Q hC => by
  have h8 := hC.2.2.2.2.2.2.2.1
  have h9 := hC.2.2.2.2.2.2.2.2.1
  refine va_mmax hC.1 hC.2.1 (hC.2.2.1.trans hC.has.1.symm) hC.own (hC.ts _ hw.1) (hC.ts _ hw.2.1) (hC.ts _ hw.2.2.1) (hC.ts _ hw.2.2.2.1) (by omega) (by omega) (hC.cs hr).1 (hC.cs hr).2 hdg ?_
  rw [show (if Int32.ofInt a < Int32.ofInt b then Int32.ofInt b else Int32.ofInt a) = Int32.ofInt (if a < b then b else a) from by
    by_cases h : a < b
    · rw [if_pos h, if_pos ((rj_lt ha hb).mpr h)]
    · rw [if_neg h, if_neg (fun q => h ((rj_lt ha hb).mp q))]]
  exact k p e R s m args below meth c H locs cells slots ls Q hC
theorem rj_mmin {idx : Nat} {a b : Int} (ha : -2147483648 ≤ a ∧ a < 2147483648) (hb : -2147483648 ≤ b ∧ b < 2147483648) (hw : rj_wS y9.cls idx yJ9_min_7cf53 cJ9_min_7cf53 2 (some .int) 2) (hd : 1 ≤ d9) (hcat : (rest.map fun v => v.category).sum ≤ 8) (hr : σ.1 ≤ τ9.1 ∧ σ.2.1 ≤ τ9.2.1) (hdg : decode cc pc = .ok (.invokestatic idx, 3)) (k : rj_Run X9 y9 cc nL rt9 d9 v9 τ9 (pc + 3) lv (rj_i (if b < a then b else a) :: rest) σ) : rj_Run X9 y9 cc nL rt9 d9 v9 τ9 pc lv (rj_i b :: rj_i a :: rest) σ := fun p e R s m args below meth c H locs cells slots ls Q hC => by
  have h8 := hC.2.2.2.2.2.2.2.1
  have h9 := hC.2.2.2.2.2.2.2.2.1
  refine va_mmin hC.1 hC.2.1 (hC.2.2.1.trans hC.has.1.symm) hC.own (hC.ts _ hw.1) (hC.ts _ hw.2.1) (hC.ts _ hw.2.2.1) (hC.ts _ hw.2.2.2.1) (by omega) (by omega) (hC.cs hr).1 (hC.cs hr).2 hdg ?_
  rw [show (if Int32.ofInt b < Int32.ofInt a then Int32.ofInt b else Int32.ofInt a) = Int32.ofInt (if b < a then b else a) from by
    by_cases h : b < a
    · rw [if_pos h, if_pos ((rj_lt hb ha).mpr h)]
    · rw [if_neg h, if_neg (fun q => h ((rj_lt hb ha).mp q))]]
  exact k p e R s m args below meth c H locs cells slots ls Q hC
theorem rj_mabs {idx : Nat} {a : Int} (ha : -2147483648 ≤ a ∧ a < 2147483648) (hw : rj_wS y9.cls idx yJ9_abs_0f7a4 cJ9_abs_0f7a4 1 (some .int) 1) (hd : 1 ≤ d9) (hcat : (rest.map fun v => v.category).sum ≤ 8) (hr : σ.1 ≤ τ9.1 ∧ σ.2.1 ≤ τ9.2.1) (hdg : decode cc pc = .ok (.invokestatic idx, 3)) (k : rj_Run X9 y9 cc nL rt9 d9 v9 τ9 (pc + 3) lv (rj_i (rj_abs a) :: rest) σ) : rj_Run X9 y9 cc nL rt9 d9 v9 τ9 pc lv (rj_i a :: rest) σ := fun p e R s m args below meth c H locs cells slots ls Q hC => by
  have h8 := hC.2.2.2.2.2.2.2.1
  have h9 := hC.2.2.2.2.2.2.2.2.1
  refine va_mabs hC.1 hC.2.1 (hC.2.2.1.trans hC.has.1.symm) hC.own (hC.ts _ hw.1) (hC.ts _ hw.2.1) (hC.ts _ hw.2.2.1) (hC.ts _ hw.2.2.2.1) (by omega) (by omega) (hC.cs hr).1 (hC.cs hr).2 hdg ?_
  rw [show (if 0 ≤ Int32.ofInt a then Int32.ofInt a else 0 - Int32.ofInt a) = Int32.ofInt (rj_abs a) from by
    have h0 : -2147483648 ≤ (0 : Int) ∧ (0 : Int) < 2147483648 := by decide
    have e0 : (0 : Int32) ≤ Int32.ofInt a ↔ 0 ≤ a := rj_le h0 ha
    unfold rj_abs
    by_cases h : a < 0
    · rw [if_pos h, if_neg (fun q => by have := e0.mp q; omega)]
      rw [show (0 : Int32) = Int32.ofInt 0 from rfl, rj_osub, Int.zero_sub]
    · rw [if_neg h, if_pos (e0.mpr (by omega))]]
  exact k p e R s m args below meth c H locs cells slots ls Q hC
theorem rj_mmaxL {idx : Nat} {a b : Int} (ha : -9223372036854775808 ≤ a ∧ a < 9223372036854775808) (hb : -9223372036854775808 ≤ b ∧ b < 9223372036854775808) (hw : rj_wS y9.cls idx yJ9_max_f86c9 cJ9_max_f86c9 4 (some .long) 2) (hd : 1 ≤ d9) (hcat : (rest.map fun v => v.category).sum ≤ 8) (hr : σ.1 ≤ τ9.1 ∧ σ.2.1 ≤ τ9.2.1) (hdg : decode cc pc = .ok (.invokestatic idx, 3)) (k : rj_Run X9 y9 cc nL rt9 d9 v9 τ9 (pc + 3) lv (rj_l (if b < a then a else b) :: rest) σ) : rj_Run X9 y9 cc nL rt9 d9 v9 τ9 pc lv (rj_l b :: rj_l a :: rest) σ := fun p e R s m args below meth c H locs cells slots ls Q hC => by
  have h8 := hC.2.2.2.2.2.2.2.1
  have h9 := hC.2.2.2.2.2.2.2.2.1
  refine va_mmax_long hC.1 hC.2.1 (hC.2.2.1.trans hC.has.1.symm) hC.own (hC.ts _ hw.1) (hC.ts _ hw.2.1) (hC.ts _ hw.2.2.1) (hC.ts _ hw.2.2.2.1) (by omega) (by omega) (hC.cs hr).1 (hC.cs hr).2 hdg ?_
  rw [show (if Int64.ofInt b < Int64.ofInt a then Int64.ofInt a else Int64.ofInt b) = Int64.ofInt (if b < a then a else b) from by
    by_cases h : b < a
    · rw [if_pos h, if_pos ((rj_Llt hb ha).mpr h)]
    · rw [if_neg h, if_neg (fun q => h ((rj_Llt hb ha).mp q))]]
  exact k p e R s m args below meth c H locs cells slots ls Q hC
theorem go_mmax {idx : Nat} {a b : Int} (ha : -2147483648 ≤ a ∧ a < 2147483648) (hb : -2147483648 ≤ b ∧ b < 2147483648) (hw : rj_wS y9.cls idx yJ9_max_7cf53 cJ9_max_7cf53 2 (some .int) 2) (hd : 1 ≤ d9) (hcat : (rest.map fun v => v.category).sum ≤ 8) (hdg : decode cc pc = .ok (.invokestatic idx, 3)) (k : rj_Go X9 y9 cc nL rt9 d9 P9 (pc + 3) lv (rj_i (if a < b then b else a) :: rest) σ) : rj_Go X9 y9 cc nL rt9 d9 P9 pc lv (rj_i b :: rj_i a :: rest) σ := by
  obtain ⟨v0, τ0, hp0, g1, g2, g0⟩ := k
  exact ⟨v0, τ0, hp0, g1, g2, rj_mmax ha hb hw hd hcat ⟨g1, g2⟩ hdg g0⟩
theorem go_mmin {idx : Nat} {a b : Int} (ha : -2147483648 ≤ a ∧ a < 2147483648) (hb : -2147483648 ≤ b ∧ b < 2147483648) (hw : rj_wS y9.cls idx yJ9_min_7cf53 cJ9_min_7cf53 2 (some .int) 2) (hd : 1 ≤ d9) (hcat : (rest.map fun v => v.category).sum ≤ 8) (hdg : decode cc pc = .ok (.invokestatic idx, 3)) (k : rj_Go X9 y9 cc nL rt9 d9 P9 (pc + 3) lv (rj_i (if b < a then b else a) :: rest) σ) : rj_Go X9 y9 cc nL rt9 d9 P9 pc lv (rj_i b :: rj_i a :: rest) σ := by
  obtain ⟨v0, τ0, hp0, g1, g2, g0⟩ := k
  exact ⟨v0, τ0, hp0, g1, g2, rj_mmin ha hb hw hd hcat ⟨g1, g2⟩ hdg g0⟩
theorem go_mabs {idx : Nat} {a : Int} (ha : -2147483648 ≤ a ∧ a < 2147483648) (hw : rj_wS y9.cls idx yJ9_abs_0f7a4 cJ9_abs_0f7a4 1 (some .int) 1) (hd : 1 ≤ d9) (hcat : (rest.map fun v => v.category).sum ≤ 8) (hdg : decode cc pc = .ok (.invokestatic idx, 3)) (k : rj_Go X9 y9 cc nL rt9 d9 P9 (pc + 3) lv (rj_i (rj_abs a) :: rest) σ) : rj_Go X9 y9 cc nL rt9 d9 P9 pc lv (rj_i a :: rest) σ := by
  obtain ⟨v0, τ0, hp0, g1, g2, g0⟩ := k
  exact ⟨v0, τ0, hp0, g1, g2, rj_mabs ha hw hd hcat ⟨g1, g2⟩ hdg g0⟩
theorem go_mmaxL {idx : Nat} {a b : Int} (ha : -9223372036854775808 ≤ a ∧ a < 9223372036854775808) (hb : -9223372036854775808 ≤ b ∧ b < 9223372036854775808) (hw : rj_wS y9.cls idx yJ9_max_f86c9 cJ9_max_f86c9 4 (some .long) 2) (hd : 1 ≤ d9) (hcat : (rest.map fun v => v.category).sum ≤ 8) (hdg : decode cc pc = .ok (.invokestatic idx, 3)) (k : rj_Go X9 y9 cc nL rt9 d9 P9 (pc + 3) lv (rj_l (if b < a then a else b) :: rest) σ) : rj_Go X9 y9 cc nL rt9 d9 P9 pc lv (rj_l b :: rj_l a :: rest) σ := by
  obtain ⟨v0, τ0, hp0, g1, g2, g0⟩ := k
  exact ⟨v0, τ0, hp0, g1, g2, rj_mmaxL ha hb hw hd hcat ⟨g1, g2⟩ hdg g0⟩
end JM
def rj_bcF (x : Int32) : Int32 := ((((((((x) - ((((x).toUInt32 >>> ((Int32.ofInt 1).toUInt32 &&& Int32.toUInt32 31)).toInt32) &&& (1431655765 : Int32))) &&& (858993459 : Int32)) + (((((x) - ((((x).toUInt32 >>> ((Int32.ofInt 1).toUInt32 &&& Int32.toUInt32 31)).toInt32) &&& (1431655765 : Int32))).toUInt32 >>> ((Int32.ofInt 2).toUInt32 &&& Int32.toUInt32 31)).toInt32) &&& (858993459 : Int32))) + ((((((x) - ((((x).toUInt32 >>> ((Int32.ofInt 1).toUInt32 &&& Int32.toUInt32 31)).toInt32) &&& (1431655765 : Int32))) &&& (858993459 : Int32)) + (((((x) - ((((x).toUInt32 >>> ((Int32.ofInt 1).toUInt32 &&& Int32.toUInt32 31)).toInt32) &&& (1431655765 : Int32))).toUInt32 >>> ((Int32.ofInt 2).toUInt32 &&& Int32.toUInt32 31)).toInt32) &&& (858993459 : Int32))).toUInt32 >>> ((Int32.ofInt 4).toUInt32 &&& Int32.toUInt32 31)).toInt32)) &&& (252645135 : Int32)) + ((((((((x) - ((((x).toUInt32 >>> ((Int32.ofInt 1).toUInt32 &&& Int32.toUInt32 31)).toInt32) &&& (1431655765 : Int32))) &&& (858993459 : Int32)) + (((((x) - ((((x).toUInt32 >>> ((Int32.ofInt 1).toUInt32 &&& Int32.toUInt32 31)).toInt32) &&& (1431655765 : Int32))).toUInt32 >>> ((Int32.ofInt 2).toUInt32 &&& Int32.toUInt32 31)).toInt32) &&& (858993459 : Int32))) + ((((((x) - ((((x).toUInt32 >>> ((Int32.ofInt 1).toUInt32 &&& Int32.toUInt32 31)).toInt32) &&& (1431655765 : Int32))) &&& (858993459 : Int32)) + (((((x) - ((((x).toUInt32 >>> ((Int32.ofInt 1).toUInt32 &&& Int32.toUInt32 31)).toInt32) &&& (1431655765 : Int32))).toUInt32 >>> ((Int32.ofInt 2).toUInt32 &&& Int32.toUInt32 31)).toInt32) &&& (858993459 : Int32))).toUInt32 >>> ((Int32.ofInt 4).toUInt32 &&& Int32.toUInt32 31)).toInt32)) &&& (252645135 : Int32)).toUInt32 >>> ((Int32.ofInt 8).toUInt32 &&& Int32.toUInt32 31)).toInt32)) + (((((((((x) - ((((x).toUInt32 >>> ((Int32.ofInt 1).toUInt32 &&& Int32.toUInt32 31)).toInt32) &&& (1431655765 : Int32))) &&& (858993459 : Int32)) + (((((x) - ((((x).toUInt32 >>> ((Int32.ofInt 1).toUInt32 &&& Int32.toUInt32 31)).toInt32) &&& (1431655765 : Int32))).toUInt32 >>> ((Int32.ofInt 2).toUInt32 &&& Int32.toUInt32 31)).toInt32) &&& (858993459 : Int32))) + ((((((x) - ((((x).toUInt32 >>> ((Int32.ofInt 1).toUInt32 &&& Int32.toUInt32 31)).toInt32) &&& (1431655765 : Int32))) &&& (858993459 : Int32)) + (((((x) - ((((x).toUInt32 >>> ((Int32.ofInt 1).toUInt32 &&& Int32.toUInt32 31)).toInt32) &&& (1431655765 : Int32))).toUInt32 >>> ((Int32.ofInt 2).toUInt32 &&& Int32.toUInt32 31)).toInt32) &&& (858993459 : Int32))).toUInt32 >>> ((Int32.ofInt 4).toUInt32 &&& Int32.toUInt32 31)).toInt32)) &&& (252645135 : Int32)) + ((((((((x) - ((((x).toUInt32 >>> ((Int32.ofInt 1).toUInt32 &&& Int32.toUInt32 31)).toInt32) &&& (1431655765 : Int32))) &&& (858993459 : Int32)) + (((((x) - ((((x).toUInt32 >>> ((Int32.ofInt 1).toUInt32 &&& Int32.toUInt32 31)).toInt32) &&& (1431655765 : Int32))).toUInt32 >>> ((Int32.ofInt 2).toUInt32 &&& Int32.toUInt32 31)).toInt32) &&& (858993459 : Int32))) + ((((((x) - ((((x).toUInt32 >>> ((Int32.ofInt 1).toUInt32 &&& Int32.toUInt32 31)).toInt32) &&& (1431655765 : Int32))) &&& (858993459 : Int32)) + (((((x) - ((((x).toUInt32 >>> ((Int32.ofInt 1).toUInt32 &&& Int32.toUInt32 31)).toInt32) &&& (1431655765 : Int32))).toUInt32 >>> ((Int32.ofInt 2).toUInt32 &&& Int32.toUInt32 31)).toInt32) &&& (858993459 : Int32))).toUInt32 >>> ((Int32.ofInt 4).toUInt32 &&& Int32.toUInt32 31)).toInt32)) &&& (252645135 : Int32)).toUInt32 >>> ((Int32.ofInt 8).toUInt32 &&& Int32.toUInt32 31)).toInt32)).toUInt32 >>> ((Int32.ofInt 16).toUInt32 &&& Int32.toUInt32 31)).toInt32)) &&& (Int32.ofInt 63)
theorem rj_bcL : ∀ b0 b1 b2 b3 b4 b5 b6 b7 : Bool, rj_bcF (Int32.ofInt (0 + (if b0 then 2 ^ 0 else 0) + (if b1 then 2 ^ 1 else 0) + (if b2 then 2 ^ 2 else 0) + (if b3 then 2 ^ 3 else 0) + (if b4 then 2 ^ 4 else 0) + (if b5 then 2 ^ 5 else 0) + (if b6 then 2 ^ 6 else 0) + (if b7 then 2 ^ 7 else 0))) = Int32.ofInt (0 + rj_b (b0 = true) + rj_b (b1 = true) + rj_b (b2 = true) + rj_b (b3 = true) + rj_b (b4 = true) + rj_b (b5 = true) + rj_b (b6 = true) + rj_b (b7 = true)) := by decide +kernel
theorem rj_bit (P : Int → Bool) : rj_bcF (Int32.ofInt (sp_bits P 8)) = Int32.ofInt (sp_sum (fun q => rj_b (P q = true)) 8) := rj_bcL (P 0) (P 1) (P 2) (P 3) (P 4) (P 5) (P 6) (P 7)
set_option maxRecDepth 20000 in
/-- j_bit -/
theorem j_bit {X9 : rj_X} {σ : rj_H} {d : Nat} (P : Int → Bool) : rj_Cl X9 d yJ6_bitCount_0f7a4 cJ6_bitCount_0f7a4 1 (some .int) [.int (Int32.ofInt (sp_bits P 8))] σ (fun w9 τ => w9 = some (rj_i (sp_sum (fun q => rj_b (P q = true)) 8)) ∧ τ = σ) := by
  refine go_call (by decide +kernel) (Nat.le_of_ble_eq_true rfl) ?_
  refine go_eq (pc' := 0) (lv' := [(0, .int (Int32.ofInt (sp_bits P 8)))]) (st' := []) rfl rfl rfl rfl ?_
  refine go_iload_n dJ6_bitCount_0f7a4_0 rfl 0 rfl ?_
  refine go_iload_n dJ6_bitCount_0f7a4_1 rfl 0 rfl ?_
  refine go_iconst (v := Int32.ofInt 1) dJ6_bitCount_0f7a4_2 rfl ?_
  refine go_iushr dJ6_bitCount_0f7a4_3 ?_
  refine go_ldcw qJ6_265 dJ6_bitCount_0f7a4_4 ?_
  refine go_iand dJ6_bitCount_0f7a4_7 ?_
  refine go_isub dJ6_bitCount_0f7a4_8 ?_
  obtain ⟨b1, hb1⟩ : ∃ z, z = (Int32.ofInt (sp_bits P 8)) - ((((Int32.ofInt (sp_bits P 8)).toUInt32 >>> ((Int32.ofInt 1).toUInt32 &&& Int32.toUInt32 31)).toInt32) &&& (1431655765 : Int32)) := ⟨_, rfl⟩
  rw [← hb1]
  refine go_istore_nS (lv' := [(0, .int b1)]) rfl (by decide) rfl dJ6_bitCount_0f7a4_9 ?_
  refine go_iload_n dJ6_bitCount_0f7a4_10 rfl 0 rfl ?_
  refine go_ldcw qJ6_266 dJ6_bitCount_0f7a4_11 ?_
  refine go_iand dJ6_bitCount_0f7a4_14 ?_
  refine go_iload_n dJ6_bitCount_0f7a4_15 rfl 0 rfl ?_
  refine go_iconst (v := Int32.ofInt 2) dJ6_bitCount_0f7a4_16 rfl ?_
  refine go_iushr dJ6_bitCount_0f7a4_17 ?_
  refine go_ldcw qJ6_266 dJ6_bitCount_0f7a4_18 ?_
  refine go_iand dJ6_bitCount_0f7a4_21 ?_
  refine go_iadd dJ6_bitCount_0f7a4_22 ?_
  obtain ⟨b2, hb2⟩ : ∃ z, z = (b1 &&& (858993459 : Int32)) + (((b1.toUInt32 >>> ((Int32.ofInt 2).toUInt32 &&& Int32.toUInt32 31)).toInt32) &&& (858993459 : Int32)) := ⟨_, rfl⟩
  rw [← hb2]
  refine go_istore_nS (lv' := [(0, .int b2)]) rfl (by decide) rfl dJ6_bitCount_0f7a4_23 ?_
  refine go_iload_n dJ6_bitCount_0f7a4_24 rfl 0 rfl ?_
  refine go_iload_n dJ6_bitCount_0f7a4_25 rfl 0 rfl ?_
  refine go_iconst (v := Int32.ofInt 4) dJ6_bitCount_0f7a4_26 rfl ?_
  refine go_iushr dJ6_bitCount_0f7a4_27 ?_
  refine go_iadd dJ6_bitCount_0f7a4_28 ?_
  refine go_ldcw qJ6_267 dJ6_bitCount_0f7a4_29 ?_
  refine go_iand dJ6_bitCount_0f7a4_32 ?_
  obtain ⟨b3, hb3⟩ : ∃ z, z = (b2 + ((b2.toUInt32 >>> ((Int32.ofInt 4).toUInt32 &&& Int32.toUInt32 31)).toInt32)) &&& (252645135 : Int32) := ⟨_, rfl⟩
  rw [← hb3]
  refine go_istore_nS (lv' := [(0, .int b3)]) rfl (by decide) rfl dJ6_bitCount_0f7a4_33 ?_
  refine go_iload_n dJ6_bitCount_0f7a4_34 rfl 0 rfl ?_
  refine go_iload_n dJ6_bitCount_0f7a4_35 rfl 0 rfl ?_
  refine go_bipush (v := Int32.ofInt 8) dJ6_bitCount_0f7a4_36 (by decide) ?_
  refine go_iushr dJ6_bitCount_0f7a4_38 ?_
  refine go_iadd dJ6_bitCount_0f7a4_39 ?_
  obtain ⟨b4, hb4⟩ : ∃ z, z = b3 + ((b3.toUInt32 >>> ((Int32.ofInt 8).toUInt32 &&& Int32.toUInt32 31)).toInt32) := ⟨_, rfl⟩
  rw [← hb4]
  refine go_istore_nS (lv' := [(0, .int b4)]) rfl (by decide) rfl dJ6_bitCount_0f7a4_40 ?_
  refine go_iload_n dJ6_bitCount_0f7a4_41 rfl 0 rfl ?_
  refine go_iload_n dJ6_bitCount_0f7a4_42 rfl 0 rfl ?_
  refine go_bipush (v := Int32.ofInt 16) dJ6_bitCount_0f7a4_43 (by decide) ?_
  refine go_iushr dJ6_bitCount_0f7a4_45 ?_
  refine go_iadd dJ6_bitCount_0f7a4_46 ?_
  obtain ⟨b5, hb5⟩ : ∃ z, z = b4 + ((b4.toUInt32 >>> ((Int32.ofInt 16).toUInt32 &&& Int32.toUInt32 31)).toInt32) := ⟨_, rfl⟩
  rw [← hb5]
  refine go_istore_nS (lv' := [(0, .int b5)]) rfl (by decide) rfl dJ6_bitCount_0f7a4_47 ?_
  refine go_iload_n dJ6_bitCount_0f7a4_48 rfl 0 rfl ?_
  refine go_bipush (v := Int32.ofInt 63) dJ6_bitCount_0f7a4_49 (by decide) ?_
  refine go_iand dJ6_bitCount_0f7a4_51 ?_
  refine go_eq (st' := [rj_i (sp_sum (fun q => rj_b (P q = true)) 8)]) rfl rfl (congrArg (fun z => [Value.int z]) (by subst hb5 hb4 hb3 hb2 hb1; exact rj_bit P)) rfl ?_
  exact go_retI rfl rfl ⟨rfl, rfl⟩ dJ6_bitCount_0f7a4_52
def rj_fl (n v : Int) (g : Int → Int) : Int → Int := fun j => if 0 ≤ j ∧ j < n then v else g j
theorem rj_set_id {σ : rj_H} {a : Nat} {e : va_E} (h : σ.2.2 a = some e) : rj_set σ a e = σ := by
  unfold rj_set
  have : (fun q => if q = a then some e else σ.2.2 q) = σ.2.2 := funext fun q => by by_cases hq : q = a; (· subst hq; rw [if_pos rfl, h]); (· rw [if_neg hq])
  rw [this]
theorem rj_fl_0 (v : Int) (g : Int → Int) : rj_fl 0 v g = g := funext fun j => if_neg (by omega)
theorem rj_fl_s (n : Nat) (v : Int) (g : Int → Int) : rj_up (rj_fl n v g) n v = rj_fl ((n + 1 : Nat) : Int) v g := by
  funext j
  unfold rj_up rj_fl
  by_cases h : j = (n : Int)
  · rw [if_pos h, if_pos (by omega)]
  · rw [if_neg h]
    by_cases h2 : 0 ≤ j ∧ j < (n : Int)
    · rw [if_pos h2, if_pos (by omega)]
    · rw [if_neg h2, if_neg (by omega)]
set_option maxRecDepth 20000 in
theorem j_fill {X9 : rj_X} {σ : rj_H} {d a n : Nat} {v : Int} {g : Int → Int} (ha : σ.2.2 a = some (rj_ar X9 0 n g)) (hn : n < 100000) (hv : -2147483648 ≤ v ∧ v < 2147483648) : rj_Cl X9 d yJ7_fill_53178 cJ7_fill_53178 4 none [.ref a, rj_i v] σ (fun w9 τ => w9 = none ∧ τ = rj_set σ a (rj_ar X9 0 n (rj_fl (n : Int) v g))) := by
  refine go_call (by decide +kernel) (Nat.le_of_ble_eq_true rfl) ?_
  refine go_eq (pc' := 0) (lv' := [(0, .ref a), (1, rj_i v)]) (st' := []) rfl rfl rfl rfl ?_
  refine go_iconst (v := Int32.ofInt 0) dJ7_fill_53178_0 rfl ?_
  refine go_istore_nS (lv' := [(0, .ref a), (1, rj_i v), (2, rj_i 0)]) rfl (by decide) rfl dJ7_fill_53178_1 ?_
  refine go_aload_n dJ7_fill_53178_2 rfl 0 rfl ?_
  refine go_alen (t := 0) (n := n) (ty := .int) ha rfl rfl (by omega) dJ7_fill_53178_3 ?_
  refine go_istore_nS (lv' := [(0, .ref a), (1, rj_i v), (2, rj_i 0), (3, rj_i (n : Int))]) rfl (by decide) rfl dJ7_fill_53178_4 ?_
  have loop : ∀ n2 k : Nat, k + n2 = n → rj_Go X9 yJ7_fill_53178 cJ7_fill_53178 4 none d (fun w9 τ => w9 = none ∧ τ = rj_set σ a (rj_ar X9 0 n (rj_fl (n : Int) v g))) 5 [(0, .ref a), (1, rj_i v), (2, rj_i (k : Int)), (3, rj_i (n : Int))] [] (rj_set σ a (rj_ar X9 0 n (rj_fl (k : Int) v g))) := by
    intro n2
    induction n2 with
    | zero =>
      intro k hk
      obtain rfl : k = n := by omega
      refine go_iload_n dJ7_fill_53178_5 rfl 2 rfl ?_
      refine go_iload_n dJ7_fill_53178_6 rfl 3 rfl ?_
      refine go_icmp_geI (tgt := 20) (by omega) (by omega) dJ7_fill_53178_7 (by decide) (fun c_7 => ?_) (fun c_7 => ?_)
      · refine go_retV rfl ?_ dJ7_fill_53178_20
        exact ⟨rfl, rfl⟩
      · exact absurd c_7 (by omega)
    | succ n2 ih =>
      intro k hk
      refine go_iload_n dJ7_fill_53178_5 rfl 2 rfl ?_
      refine go_iload_n dJ7_fill_53178_6 rfl 3 rfl ?_
      refine go_icmp_geI (tgt := 20) (by omega) (by omega) dJ7_fill_53178_7 (by decide) (fun c_7 => ?_) (fun c_7 => ?_)
      · exact absurd c_7 (by omega)
      · refine go_aload_n dJ7_fill_53178_10 rfl 0 rfl ?_
        refine go_iload_n dJ7_fill_53178_11 rfl 2 rfl ?_
        refine go_iload_n dJ7_fill_53178_12 rfl 1 rfl ?_
        refine go_iast (rj_set_eq _ _ _) (by omega) (by omega) (by omega) dJ7_fill_53178_13 ?_
        rw [rj_set_set, rj_fl_s]
        refine go_iincI (a := (k : Int)) (n := 1) (k0 := 2) (lv' := [(0, .ref a), (1, rj_i v), (2, rj_i ((k : Int) + 1)), (3, rj_i (n : Int))]) rfl (by decide) rfl dJ7_fill_53178_14 ?_
        refine go_goto (tgt := 5) dJ7_fill_53178_17 (by decide) ?_
        exact go_eq rfl (lv' := [(0, .ref a), (1, rj_i v), (2, rj_i ((k + 1 : Nat) : Int)), (3, rj_i (n : Int))]) (rj_lk (rj_lk (rj_lj (by omega) (rj_lk rfl)))) rfl rfl (ih (k + 1) (by omega))
  have e0 : rj_set σ a (rj_ar X9 0 n (rj_fl ((0 : Nat) : Int) v g)) = σ := by rw [show ((0 : Nat) : Int) = 0 from rfl, rj_fl_0]; exact rj_set_id ha
  have l0 := loop n 0 (by omega)
  rw [e0] at l0
  exact go_eq rfl (lv' := [(0, .ref a), (1, rj_i v), (2, rj_i ((0 : Nat) : Int)), (3, rj_i (n : Int))]) (rj_lk (rj_lk (rj_lj (rfl) (rj_lk rfl)))) rfl rfl (l0)
