/-! the same rows for 'some end with P' -/
def rj_Go (X9 : rj_X) (y9 : MethodName) (cc : ByteArray) (nL : Nat) (rt9 : Option FieldType) (d9 : Nat) (P9 : Option Value → rj_H → Prop) (pc : Nat) (lv : List (Nat × Value)) (st : List Value) (σ : rj_H) : Prop := ∃ (v : Option Value) (τ : rj_H), P9 v τ ∧ σ.1 ≤ τ.1 ∧ σ.2.1 ≤ τ.2.1 ∧ rj_Run X9 y9 cc nL rt9 d9 v τ pc lv st σ
def rj_Cl (X9 : rj_X) (d1 : Nat) (x : MethodName) (c1 : ByteArray) (n1 : Nat) (r1 : Option FieldType) (av : List Value) (σ : rj_H) (P : Option Value → rj_H → Prop) : Prop := ∃ (w : Option Value) (σ1 : rj_H), P w σ1 ∧ rj_Call X9 d1 x c1 n1 r1 av σ w σ1
theorem rj_Cl.mono {X9 : rj_X} {d1 : Nat} {x : MethodName} {c1 : ByteArray} {n1 : Nat} {r1 : Option FieldType} {av : List Value} {σ : rj_H} {P Q : Option Value → rj_H → Prop} (h : rj_Cl X9 d1 x c1 n1 r1 av σ P) (k : ∀ w τ, P w τ → Q w τ) : rj_Cl X9 d1 x c1 n1 r1 av σ Q := by
  obtain ⟨w, τ, h1, h2⟩ := h
  exact ⟨w, τ, k w τ h1, h2⟩
theorem rj_Cl.of {X9 : rj_X} {d1 : Nat} {x : MethodName} {c1 : ByteArray} {n1 : Nat} {r1 : Option FieldType} {av : List Value} {σ σ1 : rj_H} {w : Option Value} (h : rj_Call X9 d1 x c1 n1 r1 av σ w σ1) : rj_Cl X9 d1 x c1 n1 r1 av σ (fun w' τ => w' = w ∧ τ = σ1) := ⟨w, σ1, ⟨rfl, rfl⟩, h⟩
theorem rj_Cl.at {X9 : rj_X} {d1 : Nat} {x : MethodName} {c1 : ByteArray} {n1 : Nat} {r1 : Option FieldType} {av : List Value} {σ σ1 : rj_H} {w : Option Value} (h : rj_Cl X9 d1 x c1 n1 r1 av σ (fun w' τ => w' = w ∧ τ = σ1)) : rj_Call X9 d1 x c1 n1 r1 av σ w σ1 := by
  obtain ⟨w', τ, ⟨rfl, rfl⟩, h⟩ := h
  exact h
theorem go_call {X9 : rj_X} {d1 : Nat} {x : MethodName} {c1 : ByteArray} {n1 : Nat} {r1 : Option FieldType} {av : List Value} {σ : rj_H} {P : Option Value → rj_H → Prop} (hy : plainName x.cls = true) (hsz : (lg_sl av).length ≤ n1) (k : rj_Go X9 x c1 n1 r1 d1 P 0 (lv_args 0 av) [] σ) : rj_Cl X9 d1 x c1 n1 r1 av σ P := by
  obtain ⟨v, τ, hp, h1, h2, h⟩ := k
  exact ⟨v, τ, hp, rj_call hy hsz ⟨h1, h2⟩ h⟩
section GO
variable {X9 : rj_X} {y9 : MethodName} {cc : ByteArray} {nL : Nat} {rt9 : Option FieldType} {d9 : Nat} {P9 : Option Value → rj_H → Prop} {pc : Nat} {lv lv' : List (Nat × Value)} {rest : List Value} {σ : rj_H} {a b : Int} {mb : Nat} {r : rm_R} {z w : Int}
theorem go_eq {pc' : Nat} {lv' : List (Nat × Value)} {st st' : List Value} {σ' : rj_H} (h1 : pc = pc') (h2 : lv = lv') (h3 : st = st') (h4 : σ = σ') (k : rj_Go X9 y9 cc nL rt9 d9 P9 pc' lv' st' σ') : rj_Go X9 y9 cc nL rt9 d9 P9 pc lv st σ := by
  subst h1; subst h2; subst h3; subst h4; exact k
theorem go_mono {P8 : Option Value → rj_H → Prop} {st : List Value} (k : rj_Go X9 y9 cc nL rt9 d9 P8 pc lv st σ) (hp : ∀ v τ, P8 v τ → P9 v τ) : rj_Go X9 y9 cc nL rt9 d9 P9 pc lv st σ := by
  obtain ⟨v, τ, h0, h⟩ := k
  exact ⟨v, τ, hp v τ h0, h⟩
theorem go_of {v : Option Value} {τ : rj_H} {st : List Value} (hp : P9 v τ) (hm : σ.1 ≤ τ.1 ∧ σ.2.1 ≤ τ.2.1) (k : rj_Run X9 y9 cc nL rt9 d9 v τ pc lv st σ) : rj_Go X9 y9 cc nL rt9 d9 P9 pc lv st σ := ⟨v, τ, hp, hm.1, hm.2, k⟩
theorem go_sub {st : List Value} {lv' : List (Nat × Value)} (h : ∀ q ∈ lv', q ∈ lv) (k : rj_Go X9 y9 cc nL rt9 d9 P9 pc lv' st σ) : rj_Go X9 y9 cc nL rt9 d9 P9 pc lv st σ := by
  obtain ⟨v, τ, hp, h1, h2, h3⟩ := k
  exact ⟨v, τ, hp, h1, h2, rj_sub h h3⟩
theorem go_retI {z : Int} {ty : FieldType} (hr : rt9 = some ty) (hn : narrow ty (rj_i z) = rj_i z) (hp : P9 (some (rj_i z)) σ) (hdg : decode cc pc = .ok (.ireturn, 1)) : rj_Go X9 y9 cc nL rt9 d9 P9 pc lv [rj_i z] σ := ⟨_, σ, hp, Nat.le_refl _, Nat.le_refl _, rj_retI hr hn rfl rfl hdg⟩
theorem go_retL {z : Int64} (hr : rt9 = some .long) (hp : P9 (some (.long z)) σ) (hdg : decode cc pc = .ok (.lreturn, 1)) : rj_Go X9 y9 cc nL rt9 d9 P9 pc lv [.long z] σ := ⟨_, σ, hp, Nat.le_refl _, Nat.le_refl _, rj_retL hr rfl rfl hdg⟩
theorem go_retV (hr : rt9 = none) (hp : P9 none σ) (hdg : decode cc pc = .ok (.return_, 1)) : rj_Go X9 y9 cc nL rt9 d9 P9 pc lv [] σ := ⟨_, σ, hp, Nat.le_refl _, Nat.le_refl _, rj_retV hr rfl rfl hdg⟩
theorem go_retA {z : Nat} {n : String} (hr : rt9 = some (.object n)) (hp : P9 (some (.ref z)) σ) (hdg : decode cc pc = .ok (.areturn, 1)) : rj_Go X9 y9 cc nL rt9 d9 P9 pc lv [.ref z] σ := ⟨_, σ, hp, Nat.le_refl _, Nat.le_refl _, rj_retA hr rfl rfl hdg⟩
theorem go_retN {n : String} (hr : rt9 = some (.object n)) (hp : P9 (some .null) σ) (hdg : decode cc pc = .ok (.areturn, 1)) : rj_Go X9 y9 cc nL rt9 d9 P9 pc lv [.null] σ := ⟨_, σ, hp, Nat.le_refl _, Nat.le_refl _, rj_retN hr rfl rfl hdg⟩
theorem go_iconst {n : Int} {v : Int32} (hdg : decode cc pc = .ok (.iconst n, 1)) (hv : Int32.ofInt n = v) (k : rj_Go X9 y9 cc nL rt9 d9 P9 (pc + 1) lv (.int v :: rest) σ)  : rj_Go X9 y9 cc nL rt9 d9 P9 pc lv (rest) σ := by
  obtain ⟨v0, τ0, hp0, g1, g2, g0⟩ := k
  exact ⟨v0, τ0, hp0, g1, g2, rj_iconst hdg hv g0⟩
theorem go_bipush {n : Int} {v : Int32} (hdg : decode cc pc = .ok (.bipush n, 2)) (hv : (Int8.ofInt n).toInt32 = v) (k : rj_Go X9 y9 cc nL rt9 d9 P9 (pc + 2) lv (.int v :: rest) σ)  : rj_Go X9 y9 cc nL rt9 d9 P9 pc lv (rest) σ := by
  obtain ⟨v0, τ0, hp0, g1, g2, g0⟩ := k
  exact ⟨v0, τ0, hp0, g1, g2, rj_bipush hdg hv g0⟩
theorem go_sipush {n : Int} {v : Int32} (hdg : decode cc pc = .ok (.sipush n, 3)) (hv : (Int16.ofInt n).toInt32 = v) (k : rj_Go X9 y9 cc nL rt9 d9 P9 (pc + 3) lv (.int v :: rest) σ)  : rj_Go X9 y9 cc nL rt9 d9 P9 pc lv (rest) σ := by
  obtain ⟨v0, τ0, hp0, g1, g2, g0⟩ := k
  exact ⟨v0, τ0, hp0, g1, g2, rj_sipush hdg hv g0⟩
theorem go_lconst {n : Fin 2} {v : Int64} (hdg : decode cc pc = .ok (.lconst n, 1)) (hv : Int64.ofNat (n : Nat) = v) (k : rj_Go X9 y9 cc nL rt9 d9 P9 (pc + 1) lv (.long v :: rest) σ)  : rj_Go X9 y9 cc nL rt9 d9 P9 pc lv (rest) σ := by
  obtain ⟨v0, τ0, hp0, g1, g2, g0⟩ := k
  exact ⟨v0, τ0, hp0, g1, g2, rj_lconst hdg hv g0⟩
theorem go_iadd {x y : Int32} (hdg : decode cc pc = .ok (.iadd, 1))  (k : rj_Go X9 y9 cc nL rt9 d9 P9 (pc + 1) lv (.int (x + y) :: rest) σ)  : rj_Go X9 y9 cc nL rt9 d9 P9 pc lv (.int y :: .int x :: rest) σ := by
  obtain ⟨v0, τ0, hp0, g1, g2, g0⟩ := k
  exact ⟨v0, τ0, hp0, g1, g2, rj_iadd hdg g0⟩
theorem go_isub {x y : Int32} (hdg : decode cc pc = .ok (.isub, 1))  (k : rj_Go X9 y9 cc nL rt9 d9 P9 (pc + 1) lv (.int (x - y) :: rest) σ)  : rj_Go X9 y9 cc nL rt9 d9 P9 pc lv (.int y :: .int x :: rest) σ := by
  obtain ⟨v0, τ0, hp0, g1, g2, g0⟩ := k
  exact ⟨v0, τ0, hp0, g1, g2, rj_isub hdg g0⟩
theorem go_imul {x y : Int32} (hdg : decode cc pc = .ok (.imul, 1))  (k : rj_Go X9 y9 cc nL rt9 d9 P9 (pc + 1) lv (.int (x * y) :: rest) σ)  : rj_Go X9 y9 cc nL rt9 d9 P9 pc lv (.int y :: .int x :: rest) σ := by
  obtain ⟨v0, τ0, hp0, g1, g2, g0⟩ := k
  exact ⟨v0, τ0, hp0, g1, g2, rj_imul hdg g0⟩
theorem go_iand {x y : Int32} (hdg : decode cc pc = .ok (.iand, 1))  (k : rj_Go X9 y9 cc nL rt9 d9 P9 (pc + 1) lv (.int (x &&& y) :: rest) σ)  : rj_Go X9 y9 cc nL rt9 d9 P9 pc lv (.int y :: .int x :: rest) σ := by
  obtain ⟨v0, τ0, hp0, g1, g2, g0⟩ := k
  exact ⟨v0, τ0, hp0, g1, g2, rj_iand hdg g0⟩
theorem go_ior {x y : Int32} (hdg : decode cc pc = .ok (.ior, 1))  (k : rj_Go X9 y9 cc nL rt9 d9 P9 (pc + 1) lv (.int (x ||| y) :: rest) σ)  : rj_Go X9 y9 cc nL rt9 d9 P9 pc lv (.int y :: .int x :: rest) σ := by
  obtain ⟨v0, τ0, hp0, g1, g2, g0⟩ := k
  exact ⟨v0, τ0, hp0, g1, g2, rj_ior hdg g0⟩
theorem go_ixor {x y : Int32} (hdg : decode cc pc = .ok (.ixor, 1))  (k : rj_Go X9 y9 cc nL rt9 d9 P9 (pc + 1) lv (.int (x ^^^ y) :: rest) σ)  : rj_Go X9 y9 cc nL rt9 d9 P9 pc lv (.int y :: .int x :: rest) σ := by
  obtain ⟨v0, τ0, hp0, g1, g2, g0⟩ := k
  exact ⟨v0, τ0, hp0, g1, g2, rj_ixor hdg g0⟩
theorem go_idiv {x y : Int32} (hdg : decode cc pc = .ok (.idiv, 1)) (hne : ¬ y = 0) (k : rj_Go X9 y9 cc nL rt9 d9 P9 (pc + 1) lv (.int (x / y) :: rest) σ)  : rj_Go X9 y9 cc nL rt9 d9 P9 pc lv (.int y :: .int x :: rest) σ := by
  obtain ⟨v0, τ0, hp0, g1, g2, g0⟩ := k
  exact ⟨v0, τ0, hp0, g1, g2, rj_idiv hdg hne g0⟩
theorem go_irem {x y : Int32} (hdg : decode cc pc = .ok (.irem, 1)) (hne : ¬ y = 0) (k : rj_Go X9 y9 cc nL rt9 d9 P9 (pc + 1) lv (.int (x - x / y * y) :: rest) σ)  : rj_Go X9 y9 cc nL rt9 d9 P9 pc lv (.int y :: .int x :: rest) σ := by
  obtain ⟨v0, τ0, hp0, g1, g2, g0⟩ := k
  exact ⟨v0, τ0, hp0, g1, g2, rj_irem hdg hne g0⟩
theorem go_ineg {x : Int32} (hdg : decode cc pc = .ok (.ineg, 1))  (k : rj_Go X9 y9 cc nL rt9 d9 P9 (pc + 1) lv (.int (-x) :: rest) σ)  : rj_Go X9 y9 cc nL rt9 d9 P9 pc lv (.int x :: rest) σ := by
  obtain ⟨v0, τ0, hp0, g1, g2, g0⟩ := k
  exact ⟨v0, τ0, hp0, g1, g2, rj_ineg hdg g0⟩
theorem go_ladd {x y : Int64} (hdg : decode cc pc = .ok (.ladd, 1))  (k : rj_Go X9 y9 cc nL rt9 d9 P9 (pc + 1) lv (.long (x + y) :: rest) σ)  : rj_Go X9 y9 cc nL rt9 d9 P9 pc lv (.long y :: .long x :: rest) σ := by
  obtain ⟨v0, τ0, hp0, g1, g2, g0⟩ := k
  exact ⟨v0, τ0, hp0, g1, g2, rj_ladd hdg g0⟩
theorem go_lmul {x y : Int64} (hdg : decode cc pc = .ok (.lmul, 1))  (k : rj_Go X9 y9 cc nL rt9 d9 P9 (pc + 1) lv (.long (x * y) :: rest) σ)  : rj_Go X9 y9 cc nL rt9 d9 P9 pc lv (.long y :: .long x :: rest) σ := by
  obtain ⟨v0, τ0, hp0, g1, g2, g0⟩ := k
  exact ⟨v0, τ0, hp0, g1, g2, rj_lmul hdg g0⟩
theorem go_land {x y : Int64} (hdg : decode cc pc = .ok (.land, 1))  (k : rj_Go X9 y9 cc nL rt9 d9 P9 (pc + 1) lv (.long (x &&& y) :: rest) σ)  : rj_Go X9 y9 cc nL rt9 d9 P9 pc lv (.long y :: .long x :: rest) σ := by
  obtain ⟨v0, τ0, hp0, g1, g2, g0⟩ := k
  exact ⟨v0, τ0, hp0, g1, g2, rj_land hdg g0⟩
theorem go_lor {x y : Int64} (hdg : decode cc pc = .ok (.lor, 1))  (k : rj_Go X9 y9 cc nL rt9 d9 P9 (pc + 1) lv (.long (x ||| y) :: rest) σ)  : rj_Go X9 y9 cc nL rt9 d9 P9 pc lv (.long y :: .long x :: rest) σ := by
  obtain ⟨v0, τ0, hp0, g1, g2, g0⟩ := k
  exact ⟨v0, τ0, hp0, g1, g2, rj_lor hdg g0⟩
theorem go_ldiv {x y : Int64} (hdg : decode cc pc = .ok (.ldiv, 1)) (hne : ¬ y = 0) (k : rj_Go X9 y9 cc nL rt9 d9 P9 (pc + 1) lv (.long (x / y) :: rest) σ)  : rj_Go X9 y9 cc nL rt9 d9 P9 pc lv (.long y :: .long x :: rest) σ := by
  obtain ⟨v0, τ0, hp0, g1, g2, g0⟩ := k
  exact ⟨v0, τ0, hp0, g1, g2, rj_ldiv hdg hne g0⟩
theorem go_lrem {x y : Int64} (hdg : decode cc pc = .ok (.lrem, 1)) (hne : ¬ y = 0) (k : rj_Go X9 y9 cc nL rt9 d9 P9 (pc + 1) lv (.long (x - x / y * y) :: rest) σ)  : rj_Go X9 y9 cc nL rt9 d9 P9 pc lv (.long y :: .long x :: rest) σ := by
  obtain ⟨v0, τ0, hp0, g1, g2, g0⟩ := k
  exact ⟨v0, τ0, hp0, g1, g2, rj_lrem hdg hne g0⟩
theorem go_ishl {x y : Int32} (hdg : decode cc pc = .ok (.ishl, 1))  (k : rj_Go X9 y9 cc nL rt9 d9 P9 (pc + 1) lv (.int (x <<< (y &&& 31)) :: rest) σ)  : rj_Go X9 y9 cc nL rt9 d9 P9 pc lv (.int y :: .int x :: rest) σ := by
  obtain ⟨v0, τ0, hp0, g1, g2, g0⟩ := k
  exact ⟨v0, τ0, hp0, g1, g2, rj_ishl hdg g0⟩
theorem go_ishr {x y : Int32} (hdg : decode cc pc = .ok (.ishr, 1))  (k : rj_Go X9 y9 cc nL rt9 d9 P9 (pc + 1) lv (.int (x >>> (y &&& 31)) :: rest) σ)  : rj_Go X9 y9 cc nL rt9 d9 P9 pc lv (.int y :: .int x :: rest) σ := by
  obtain ⟨v0, τ0, hp0, g1, g2, g0⟩ := k
  exact ⟨v0, τ0, hp0, g1, g2, rj_ishr hdg g0⟩
theorem go_i2l {x : Int32} {v : Int64} (hdg : decode cc pc = .ok (.i2l, 1)) (hv : x.toInt64 = v) (k : rj_Go X9 y9 cc nL rt9 d9 P9 (pc + 1) lv (.long v :: rest) σ)  : rj_Go X9 y9 cc nL rt9 d9 P9 pc lv (.int x :: rest) σ := by
  obtain ⟨v0, τ0, hp0, g1, g2, g0⟩ := k
  exact ⟨v0, τ0, hp0, g1, g2, rj_i2l hdg hv g0⟩
theorem go_l2i {x : Int64} {v : Int32} (hdg : decode cc pc = .ok (.l2i, 1)) (hv : x.toInt32 = v) (k : rj_Go X9 y9 cc nL rt9 d9 P9 (pc + 1) lv (.int v :: rest) σ)  : rj_Go X9 y9 cc nL rt9 d9 P9 pc lv (.long x :: rest) σ := by
  obtain ⟨v0, τ0, hp0, g1, g2, g0⟩ := k
  exact ⟨v0, τ0, hp0, g1, g2, rj_l2i hdg hv g0⟩
theorem go_i2b {x : Int32} {v : Int32} (hdg : decode cc pc = .ok (.i2b, 1)) (hv : x.toInt8.toInt32 = v) (k : rj_Go X9 y9 cc nL rt9 d9 P9 (pc + 1) lv (.int v :: rest) σ)  : rj_Go X9 y9 cc nL rt9 d9 P9 pc lv (.int x :: rest) σ := by
  obtain ⟨v0, τ0, hp0, g1, g2, g0⟩ := k
  exact ⟨v0, τ0, hp0, g1, g2, rj_i2b hdg hv g0⟩
theorem go_i2c {x : Int32} {v : Int32} (hdg : decode cc pc = .ok (.i2c, 1)) (hv : (x.toUInt32 % 65536).toInt32 = v) (k : rj_Go X9 y9 cc nL rt9 d9 P9 (pc + 1) lv (.int v :: rest) σ)  : rj_Go X9 y9 cc nL rt9 d9 P9 pc lv (.int x :: rest) σ := by
  obtain ⟨v0, τ0, hp0, g1, g2, g0⟩ := k
  exact ⟨v0, τ0, hp0, g1, g2, rj_i2c hdg hv g0⟩
theorem go_lushr {x v : Int64} {y : Int32} (hdg : decode cc pc = .ok (.lushr, 1)) (hv : (x.toUInt64 >>> (y.toInt64.toUInt64 &&& Int64.toUInt64 63)).toInt64 = v) (k : rj_Go X9 y9 cc nL rt9 d9 P9 (pc + 1) lv (.long v :: rest) σ)  : rj_Go X9 y9 cc nL rt9 d9 P9 pc lv (.int y :: .long x :: rest) σ := by
  obtain ⟨v0, τ0, hp0, g1, g2, g0⟩ := k
  exact ⟨v0, τ0, hp0, g1, g2, rj_lushr hdg hv g0⟩
theorem go_lshl {x v : Int64} {y : Int32} (hdg : decode cc pc = .ok (.lshl, 1)) (hv : x <<< (y.toInt64 &&& 63) = v) (k : rj_Go X9 y9 cc nL rt9 d9 P9 (pc + 1) lv (.long v :: rest) σ)  : rj_Go X9 y9 cc nL rt9 d9 P9 pc lv (.int y :: .long x :: rest) σ := by
  obtain ⟨v0, τ0, hp0, g1, g2, g0⟩ := k
  exact ⟨v0, τ0, hp0, g1, g2, rj_lshl hdg hv g0⟩
theorem go_lshr {x v : Int64} {y : Int32} (hdg : decode cc pc = .ok (.lshr, 1)) (hv : x >>> (y.toInt64 &&& 63) = v) (k : rj_Go X9 y9 cc nL rt9 d9 P9 (pc + 1) lv (.long v :: rest) σ)  : rj_Go X9 y9 cc nL rt9 d9 P9 pc lv (.int y :: .long x :: rest) σ := by
  obtain ⟨v0, τ0, hp0, g1, g2, g0⟩ := k
  exact ⟨v0, τ0, hp0, g1, g2, rj_lshr hdg hv g0⟩
theorem go_dup {va : Value} (hdg : decode cc pc = .ok (.dup, 1)) (hva : va.category = 1) (k : rj_Go X9 y9 cc nL rt9 d9 P9 (pc + 1) lv (va :: va :: rest) σ)  : rj_Go X9 y9 cc nL rt9 d9 P9 pc lv (va :: rest) σ := by
  obtain ⟨v0, τ0, hp0, g1, g2, g0⟩ := k
  exact ⟨v0, τ0, hp0, g1, g2, rj_dup hdg hva g0⟩
theorem go_dup2_11 {va vb : Value} (hdg : decode cc pc = .ok (.dup2, 1)) (hva : va.category = 1) (hvb : vb.category = 1) (k : rj_Go X9 y9 cc nL rt9 d9 P9 (pc + 1) lv (va :: vb :: va :: vb :: rest) σ)  : rj_Go X9 y9 cc nL rt9 d9 P9 pc lv (va :: vb :: rest) σ := by
  obtain ⟨v0, τ0, hp0, g1, g2, g0⟩ := k
  exact ⟨v0, τ0, hp0, g1, g2, rj_dup2_11 hdg hva hvb g0⟩
theorem go_pop {va : Value} (hdg : decode cc pc = .ok (.pop, 1)) (hva : va.category = 1) (k : rj_Go X9 y9 cc nL rt9 d9 P9 (pc + 1) lv (rest) σ)  : rj_Go X9 y9 cc nL rt9 d9 P9 pc lv (va :: rest) σ := by
  obtain ⟨v0, τ0, hp0, g1, g2, g0⟩ := k
  exact ⟨v0, τ0, hp0, g1, g2, rj_pop hdg hva g0⟩
theorem go_if_eq {x : Int32} {off : Int} {tgt : Nat} (hdg : decode cc pc = .ok (.ifCond .eq off, 3)) (ht : (pc : Int) + off = (tgt : Int)) (kt : x = 0 → rj_Go X9 y9 cc nL rt9 d9 P9 tgt lv rest σ) (kf : ¬ x = 0 → rj_Go X9 y9 cc nL rt9 d9 P9 (pc + 3) lv rest σ)  : rj_Go X9 y9 cc nL rt9 d9 P9 pc lv (.int x :: rest) σ := by
  by_cases hc : x = 0
  · obtain ⟨v0, τ0, hp0, g1, g2, g0⟩ := kt hc
    exact ⟨v0, τ0, hp0, g1, g2, rj_if_eq hdg ht (fun _ => g0) (fun z => absurd hc z)⟩
  · obtain ⟨v0, τ0, hp0, g1, g2, g0⟩ := kf hc
    exact ⟨v0, τ0, hp0, g1, g2, rj_if_eq hdg ht (fun z => absurd z hc) (fun _ => g0)⟩
theorem go_icmp_eq {x y : Int32} {off : Int} {tgt : Nat} (hdg : decode cc pc = .ok (.if_icmp .eq off, 3)) (ht : (pc : Int) + off = (tgt : Int)) (kt : x = y → rj_Go X9 y9 cc nL rt9 d9 P9 tgt lv rest σ) (kf : ¬ x = y → rj_Go X9 y9 cc nL rt9 d9 P9 (pc + 3) lv rest σ)  : rj_Go X9 y9 cc nL rt9 d9 P9 pc lv (.int y :: .int x :: rest) σ := by
  by_cases hc : x = y
  · obtain ⟨v0, τ0, hp0, g1, g2, g0⟩ := kt hc
    exact ⟨v0, τ0, hp0, g1, g2, rj_icmp_eq hdg ht (fun _ => g0) (fun z => absurd hc z)⟩
  · obtain ⟨v0, τ0, hp0, g1, g2, g0⟩ := kf hc
    exact ⟨v0, τ0, hp0, g1, g2, rj_icmp_eq hdg ht (fun z => absurd z hc) (fun _ => g0)⟩
theorem go_if_ne {x : Int32} {off : Int} {tgt : Nat} (hdg : decode cc pc = .ok (.ifCond .ne off, 3)) (ht : (pc : Int) + off = (tgt : Int)) (kt : ¬ x = 0 → rj_Go X9 y9 cc nL rt9 d9 P9 tgt lv rest σ) (kf : x = 0 → rj_Go X9 y9 cc nL rt9 d9 P9 (pc + 3) lv rest σ)  : rj_Go X9 y9 cc nL rt9 d9 P9 pc lv (.int x :: rest) σ := by
  by_cases hc : x = 0
  · obtain ⟨v0, τ0, hp0, g1, g2, g0⟩ := kf hc
    exact ⟨v0, τ0, hp0, g1, g2, rj_if_ne hdg ht (fun z => absurd hc z) (fun _ => g0)⟩
  · obtain ⟨v0, τ0, hp0, g1, g2, g0⟩ := kt hc
    exact ⟨v0, τ0, hp0, g1, g2, rj_if_ne hdg ht (fun _ => g0) (fun z => absurd z hc)⟩
theorem go_icmp_ne {x y : Int32} {off : Int} {tgt : Nat} (hdg : decode cc pc = .ok (.if_icmp .ne off, 3)) (ht : (pc : Int) + off = (tgt : Int)) (kt : ¬ x = y → rj_Go X9 y9 cc nL rt9 d9 P9 tgt lv rest σ) (kf : x = y → rj_Go X9 y9 cc nL rt9 d9 P9 (pc + 3) lv rest σ)  : rj_Go X9 y9 cc nL rt9 d9 P9 pc lv (.int y :: .int x :: rest) σ := by
  by_cases hc : x = y
  · obtain ⟨v0, τ0, hp0, g1, g2, g0⟩ := kf hc
    exact ⟨v0, τ0, hp0, g1, g2, rj_icmp_ne hdg ht (fun z => absurd hc z) (fun _ => g0)⟩
  · obtain ⟨v0, τ0, hp0, g1, g2, g0⟩ := kt hc
    exact ⟨v0, τ0, hp0, g1, g2, rj_icmp_ne hdg ht (fun _ => g0) (fun z => absurd z hc)⟩
theorem go_if_lt {x : Int32} {off : Int} {tgt : Nat} (hdg : decode cc pc = .ok (.ifCond .lt off, 3)) (ht : (pc : Int) + off = (tgt : Int)) (kt : x < 0 → rj_Go X9 y9 cc nL rt9 d9 P9 tgt lv rest σ) (kf : ¬ x < 0 → rj_Go X9 y9 cc nL rt9 d9 P9 (pc + 3) lv rest σ)  : rj_Go X9 y9 cc nL rt9 d9 P9 pc lv (.int x :: rest) σ := by
  by_cases hc : x < 0
  · obtain ⟨v0, τ0, hp0, g1, g2, g0⟩ := kt hc
    exact ⟨v0, τ0, hp0, g1, g2, rj_if_lt hdg ht (fun _ => g0) (fun z => absurd hc z)⟩
  · obtain ⟨v0, τ0, hp0, g1, g2, g0⟩ := kf hc
    exact ⟨v0, τ0, hp0, g1, g2, rj_if_lt hdg ht (fun z => absurd z hc) (fun _ => g0)⟩
theorem go_icmp_lt {x y : Int32} {off : Int} {tgt : Nat} (hdg : decode cc pc = .ok (.if_icmp .lt off, 3)) (ht : (pc : Int) + off = (tgt : Int)) (kt : x < y → rj_Go X9 y9 cc nL rt9 d9 P9 tgt lv rest σ) (kf : ¬ x < y → rj_Go X9 y9 cc nL rt9 d9 P9 (pc + 3) lv rest σ)  : rj_Go X9 y9 cc nL rt9 d9 P9 pc lv (.int y :: .int x :: rest) σ := by
  by_cases hc : x < y
  · obtain ⟨v0, τ0, hp0, g1, g2, g0⟩ := kt hc
    exact ⟨v0, τ0, hp0, g1, g2, rj_icmp_lt hdg ht (fun _ => g0) (fun z => absurd hc z)⟩
  · obtain ⟨v0, τ0, hp0, g1, g2, g0⟩ := kf hc
    exact ⟨v0, τ0, hp0, g1, g2, rj_icmp_lt hdg ht (fun z => absurd z hc) (fun _ => g0)⟩
theorem go_if_ge {x : Int32} {off : Int} {tgt : Nat} (hdg : decode cc pc = .ok (.ifCond .ge off, 3)) (ht : (pc : Int) + off = (tgt : Int)) (kt : 0 ≤ x → rj_Go X9 y9 cc nL rt9 d9 P9 tgt lv rest σ) (kf : ¬ 0 ≤ x → rj_Go X9 y9 cc nL rt9 d9 P9 (pc + 3) lv rest σ)  : rj_Go X9 y9 cc nL rt9 d9 P9 pc lv (.int x :: rest) σ := by
  by_cases hc : 0 ≤ x
  · obtain ⟨v0, τ0, hp0, g1, g2, g0⟩ := kt hc
    exact ⟨v0, τ0, hp0, g1, g2, rj_if_ge hdg ht (fun _ => g0) (fun z => absurd hc z)⟩
  · obtain ⟨v0, τ0, hp0, g1, g2, g0⟩ := kf hc
    exact ⟨v0, τ0, hp0, g1, g2, rj_if_ge hdg ht (fun z => absurd z hc) (fun _ => g0)⟩
theorem go_icmp_ge {x y : Int32} {off : Int} {tgt : Nat} (hdg : decode cc pc = .ok (.if_icmp .ge off, 3)) (ht : (pc : Int) + off = (tgt : Int)) (kt : y ≤ x → rj_Go X9 y9 cc nL rt9 d9 P9 tgt lv rest σ) (kf : ¬ y ≤ x → rj_Go X9 y9 cc nL rt9 d9 P9 (pc + 3) lv rest σ)  : rj_Go X9 y9 cc nL rt9 d9 P9 pc lv (.int y :: .int x :: rest) σ := by
  by_cases hc : y ≤ x
  · obtain ⟨v0, τ0, hp0, g1, g2, g0⟩ := kt hc
    exact ⟨v0, τ0, hp0, g1, g2, rj_icmp_ge hdg ht (fun _ => g0) (fun z => absurd hc z)⟩
  · obtain ⟨v0, τ0, hp0, g1, g2, g0⟩ := kf hc
    exact ⟨v0, τ0, hp0, g1, g2, rj_icmp_ge hdg ht (fun z => absurd z hc) (fun _ => g0)⟩
theorem go_if_gt {x : Int32} {off : Int} {tgt : Nat} (hdg : decode cc pc = .ok (.ifCond .gt off, 3)) (ht : (pc : Int) + off = (tgt : Int)) (kt : 0 < x → rj_Go X9 y9 cc nL rt9 d9 P9 tgt lv rest σ) (kf : ¬ 0 < x → rj_Go X9 y9 cc nL rt9 d9 P9 (pc + 3) lv rest σ)  : rj_Go X9 y9 cc nL rt9 d9 P9 pc lv (.int x :: rest) σ := by
  by_cases hc : 0 < x
  · obtain ⟨v0, τ0, hp0, g1, g2, g0⟩ := kt hc
    exact ⟨v0, τ0, hp0, g1, g2, rj_if_gt hdg ht (fun _ => g0) (fun z => absurd hc z)⟩
  · obtain ⟨v0, τ0, hp0, g1, g2, g0⟩ := kf hc
    exact ⟨v0, τ0, hp0, g1, g2, rj_if_gt hdg ht (fun z => absurd z hc) (fun _ => g0)⟩
theorem go_icmp_gt {x y : Int32} {off : Int} {tgt : Nat} (hdg : decode cc pc = .ok (.if_icmp .gt off, 3)) (ht : (pc : Int) + off = (tgt : Int)) (kt : y < x → rj_Go X9 y9 cc nL rt9 d9 P9 tgt lv rest σ) (kf : ¬ y < x → rj_Go X9 y9 cc nL rt9 d9 P9 (pc + 3) lv rest σ)  : rj_Go X9 y9 cc nL rt9 d9 P9 pc lv (.int y :: .int x :: rest) σ := by
  by_cases hc : y < x
  · obtain ⟨v0, τ0, hp0, g1, g2, g0⟩ := kt hc
    exact ⟨v0, τ0, hp0, g1, g2, rj_icmp_gt hdg ht (fun _ => g0) (fun z => absurd hc z)⟩
  · obtain ⟨v0, τ0, hp0, g1, g2, g0⟩ := kf hc
    exact ⟨v0, τ0, hp0, g1, g2, rj_icmp_gt hdg ht (fun z => absurd z hc) (fun _ => g0)⟩
theorem go_if_le {x : Int32} {off : Int} {tgt : Nat} (hdg : decode cc pc = .ok (.ifCond .le off, 3)) (ht : (pc : Int) + off = (tgt : Int)) (kt : x ≤ 0 → rj_Go X9 y9 cc nL rt9 d9 P9 tgt lv rest σ) (kf : ¬ x ≤ 0 → rj_Go X9 y9 cc nL rt9 d9 P9 (pc + 3) lv rest σ)  : rj_Go X9 y9 cc nL rt9 d9 P9 pc lv (.int x :: rest) σ := by
  by_cases hc : x ≤ 0
  · obtain ⟨v0, τ0, hp0, g1, g2, g0⟩ := kt hc
    exact ⟨v0, τ0, hp0, g1, g2, rj_if_le hdg ht (fun _ => g0) (fun z => absurd hc z)⟩
  · obtain ⟨v0, τ0, hp0, g1, g2, g0⟩ := kf hc
    exact ⟨v0, τ0, hp0, g1, g2, rj_if_le hdg ht (fun z => absurd z hc) (fun _ => g0)⟩
theorem go_icmp_le {x y : Int32} {off : Int} {tgt : Nat} (hdg : decode cc pc = .ok (.if_icmp .le off, 3)) (ht : (pc : Int) + off = (tgt : Int)) (kt : x ≤ y → rj_Go X9 y9 cc nL rt9 d9 P9 tgt lv rest σ) (kf : ¬ x ≤ y → rj_Go X9 y9 cc nL rt9 d9 P9 (pc + 3) lv rest σ)  : rj_Go X9 y9 cc nL rt9 d9 P9 pc lv (.int y :: .int x :: rest) σ := by
  by_cases hc : x ≤ y
  · obtain ⟨v0, τ0, hp0, g1, g2, g0⟩ := kt hc
    exact ⟨v0, τ0, hp0, g1, g2, rj_icmp_le hdg ht (fun _ => g0) (fun z => absurd hc z)⟩
  · obtain ⟨v0, τ0, hp0, g1, g2, g0⟩ := kf hc
    exact ⟨v0, τ0, hp0, g1, g2, rj_icmp_le hdg ht (fun z => absurd z hc) (fun _ => g0)⟩
theorem go_goto {off : Int} {tgt : Nat} (hdg : decode cc pc = .ok (.goto off, 3)) (ht : (pc : Int) + off = (tgt : Int)) (k : rj_Go X9 y9 cc nL rt9 d9 P9 tgt lv rest σ)  : rj_Go X9 y9 cc nL rt9 d9 P9 pc lv rest σ := by
  obtain ⟨v0, τ0, hp0, g1, g2, g0⟩ := k
  exact ⟨v0, τ0, hp0, g1, g2, rj_goto hdg ht g0⟩
theorem go_ifnonnull {x : Nat} {off : Int} {tgt : Nat} (hdg : decode cc pc = .ok (.ifnonnull off, 3)) (ht : (pc : Int) + off = (tgt : Int)) (k : rj_Go X9 y9 cc nL rt9 d9 P9 tgt lv rest σ)  : rj_Go X9 y9 cc nL rt9 d9 P9 pc lv (.ref x :: rest) σ := by
  obtain ⟨v0, τ0, hp0, g1, g2, g0⟩ := k
  exact ⟨v0, τ0, hp0, g1, g2, rj_ifnonnull hdg ht g0⟩
theorem go_ifnull {x : Nat} {off : Int} (hdg : decode cc pc = .ok (.ifnull off, 3)) (k : rj_Go X9 y9 cc nL rt9 d9 P9 (pc + 3) lv rest σ)  : rj_Go X9 y9 cc nL rt9 d9 P9 pc lv (.ref x :: rest) σ := by
  obtain ⟨v0, τ0, hp0, g1, g2, g0⟩ := k
  exact ⟨v0, τ0, hp0, g1, g2, rj_ifnull hdg g0⟩
theorem go_null (hdg : decode cc pc = .ok (.aconst_null, 1)) (k : rj_Go X9 y9 cc nL rt9 d9 P9 (pc + 1) lv (.null :: rest) σ)  : rj_Go X9 y9 cc nL rt9 d9 P9 pc lv rest σ := by
  obtain ⟨v0, τ0, hp0, g1, g2, g0⟩ := k
  exact ⟨v0, τ0, hp0, g1, g2, rj_null hdg g0⟩
theorem go_ifnullN {off : Int} {tgt : Nat} (hdg : decode cc pc = .ok (.ifnull off, 3)) (ht : (pc : Int) + off = (tgt : Int)) (k : rj_Go X9 y9 cc nL rt9 d9 P9 tgt lv rest σ)  : rj_Go X9 y9 cc nL rt9 d9 P9 pc lv (.null :: rest) σ := by
  obtain ⟨v0, τ0, hp0, g1, g2, g0⟩ := k
  exact ⟨v0, τ0, hp0, g1, g2, rj_ifnullN hdg ht g0⟩
theorem go_ifnonnullN {off : Int} (hdg : decode cc pc = .ok (.ifnonnull off, 3)) (k : rj_Go X9 y9 cc nL rt9 d9 P9 (pc + 3) lv rest σ)  : rj_Go X9 y9 cc nL rt9 d9 P9 pc lv (.null :: rest) σ := by
  obtain ⟨v0, τ0, hp0, g1, g2, g0⟩ := k
  exact ⟨v0, τ0, hp0, g1, g2, rj_ifnonnullN hdg g0⟩
theorem go_lookup {dflt : Int} {ps : Array (Int × Int)} {len : Nat} {x : Int32} {off : Int} {tgt : Nat} (hdg : decode cc pc = .ok (.lookupswitch dflt ps, len)) (hp : (ps.toList.zip (ps.toList.drop 1)).all (fun (a, next) => a.1 < next.1) = true) (ho : Op.lookupswitch.offset ps.toList dflt x.toInt = off) (ht : (pc : Int) + off = (tgt : Int)) (k : rj_Go X9 y9 cc nL rt9 d9 P9 tgt lv rest σ)  : rj_Go X9 y9 cc nL rt9 d9 P9 pc lv (.int x :: rest) σ := by
  obtain ⟨v0, τ0, hp0, g1, g2, g0⟩ := k
  exact ⟨v0, τ0, hp0, g1, g2, rj_lookup hdg hp ho ht g0⟩
theorem go_tableOut {dflt lo hi : Int} {offs : Array Int} {len : Nat} {x : Int32} {tgt : Nat} (hdg : decode cc pc = .ok (.tableswitch dflt lo hi offs, len)) (h : x.toInt < lo ∨ hi < x.toInt) (ht : (pc : Int) + dflt = (tgt : Int)) (k : rj_Go X9 y9 cc nL rt9 d9 P9 tgt lv rest σ)  : rj_Go X9 y9 cc nL rt9 d9 P9 pc lv (.int x :: rest) σ := by
  obtain ⟨v0, τ0, hp0, g1, g2, g0⟩ := k
  exact ⟨v0, τ0, hp0, g1, g2, rj_tableOut hdg h ht g0⟩
theorem go_tableIn {dflt lo hi : Int} {offs : Array Int} {len : Nat} {x : Int32} {off : Int} {tgt : Nat} (hdg : decode cc pc = .ok (.tableswitch dflt lo hi offs, len)) (h1 : ¬ x.toInt < lo) (h2 : ¬ hi < x.toInt) (ho : offs[(x.toInt - lo).toNat]? = some off) (ht : (pc : Int) + off = (tgt : Int)) (k : rj_Go X9 y9 cc nL rt9 d9 P9 tgt lv rest σ)  : rj_Go X9 y9 cc nL rt9 d9 P9 pc lv (.int x :: rest) σ := by
  obtain ⟨v0, τ0, hp0, g1, g2, g0⟩ := k
  exact ⟨v0, τ0, hp0, g1, g2, rj_tableIn hdg h1 h2 ho ht g0⟩
theorem go_lcmp {x y : Int64} (hdg : decode cc pc = .ok (.lcmp, 1)) (k : rj_Go X9 y9 cc nL rt9 d9 P9 (pc + 1) lv (.int (lg_cmp x y) :: rest) σ)  : rj_Go X9 y9 cc nL rt9 d9 P9 pc lv (.long y :: .long x :: rest) σ := by
  obtain ⟨v0, τ0, hp0, g1, g2, g0⟩ := k
  exact ⟨v0, τ0, hp0, g1, g2, rj_lcmp hdg g0⟩
theorem go_iload_n {k0 : Fin 4} {i : Nat} {x : Int32} (hdg : decode cc pc = .ok (.iload_n k0, 1)) (hi : (k0 : Nat) = i) (j : Nat) (hl : lv[j]? = some (i, .int x)) (k : rj_Go X9 y9 cc nL rt9 d9 P9 (pc + 1) lv (.int x :: rest) σ)  : rj_Go X9 y9 cc nL rt9 d9 P9 pc lv rest σ := by
  obtain ⟨v0, τ0, hp0, g1, g2, g0⟩ := k
  exact ⟨v0, τ0, hp0, g1, g2, rj_iload_n hdg hi j hl g0⟩
theorem go_iload {i : Nat} {x : Int32} (hdg : decode cc pc = .ok (.iload i, 2)) (j : Nat) (hl : lv[j]? = some (i, .int x)) (k : rj_Go X9 y9 cc nL rt9 d9 P9 (pc + 2) lv (.int x :: rest) σ)  : rj_Go X9 y9 cc nL rt9 d9 P9 pc lv rest σ := by
  obtain ⟨v0, τ0, hp0, g1, g2, g0⟩ := k
  exact ⟨v0, τ0, hp0, g1, g2, rj_iload hdg j hl g0⟩
theorem go_istore_n {k0 : Fin 4} {i : Nat} {x : Int32} {lv' : List (Nat × Value)} (hdg : decode cc pc = .ok (.istore_n k0, 1)) (hi : (k0 : Nat) = i) (hn : i < nL) (hl : ∀ q ∈ lv', q ∈ (i, .int x) :: lv.filter (fun q => !(q.1 == i) && !(q.1 + 1 == i && q.2.category == 2))) (k : rj_Go X9 y9 cc nL rt9 d9 P9 (pc + 1) lv' rest σ)  : rj_Go X9 y9 cc nL rt9 d9 P9 pc lv (.int x :: rest) σ := by
  obtain ⟨v0, τ0, hp0, g1, g2, g0⟩ := k
  exact ⟨v0, τ0, hp0, g1, g2, rj_istore_n hdg hi hn hl g0⟩
theorem go_istore {i : Nat} {x : Int32} {lv' : List (Nat × Value)} (hdg : decode cc pc = .ok (.istore i, 2)) (hn : i < nL) (hl : ∀ q ∈ lv', q ∈ (i, .int x) :: lv.filter (fun q => !(q.1 == i) && !(q.1 + 1 == i && q.2.category == 2))) (k : rj_Go X9 y9 cc nL rt9 d9 P9 (pc + 2) lv' rest σ)  : rj_Go X9 y9 cc nL rt9 d9 P9 pc lv (.int x :: rest) σ := by
  obtain ⟨v0, τ0, hp0, g1, g2, g0⟩ := k
  exact ⟨v0, τ0, hp0, g1, g2, rj_istore hdg hn hl g0⟩
theorem go_lload_n {k0 : Fin 4} {i : Nat} {x : Int64} (hdg : decode cc pc = .ok (.lload_n k0, 1)) (hi : (k0 : Nat) = i) (j : Nat) (hl : lv[j]? = some (i, .long x)) (k : rj_Go X9 y9 cc nL rt9 d9 P9 (pc + 1) lv (.long x :: rest) σ)  : rj_Go X9 y9 cc nL rt9 d9 P9 pc lv rest σ := by
  obtain ⟨v0, τ0, hp0, g1, g2, g0⟩ := k
  exact ⟨v0, τ0, hp0, g1, g2, rj_lload_n hdg hi j hl g0⟩
theorem go_lload {i : Nat} {x : Int64} (hdg : decode cc pc = .ok (.lload i, 2)) (j : Nat) (hl : lv[j]? = some (i, .long x)) (k : rj_Go X9 y9 cc nL rt9 d9 P9 (pc + 2) lv (.long x :: rest) σ)  : rj_Go X9 y9 cc nL rt9 d9 P9 pc lv rest σ := by
  obtain ⟨v0, τ0, hp0, g1, g2, g0⟩ := k
  exact ⟨v0, τ0, hp0, g1, g2, rj_lload hdg j hl g0⟩
theorem go_lstore_n {k0 : Fin 4} {i : Nat} {x : Int64} {lv' : List (Nat × Value)} (hdg : decode cc pc = .ok (.lstore_n k0, 1)) (hi : (k0 : Nat) = i) (hn : i + 1 < nL) (hl : ∀ q ∈ lv', q ∈ (i, .long x) :: lv.filter (fun q => !(q.1 == i) && (!(q.1 == i + 1) && !(q.1 + 1 == i && q.2.category == 2)))) (k : rj_Go X9 y9 cc nL rt9 d9 P9 (pc + 1) lv' rest σ)  : rj_Go X9 y9 cc nL rt9 d9 P9 pc lv (.long x :: rest) σ := by
  obtain ⟨v0, τ0, hp0, g1, g2, g0⟩ := k
  exact ⟨v0, τ0, hp0, g1, g2, rj_lstore_n hdg hi hn hl g0⟩
theorem go_lstore {i : Nat} {x : Int64} {lv' : List (Nat × Value)} (hdg : decode cc pc = .ok (.lstore i, 2)) (hn : i + 1 < nL) (hl : ∀ q ∈ lv', q ∈ (i, .long x) :: lv.filter (fun q => !(q.1 == i) && (!(q.1 == i + 1) && !(q.1 + 1 == i && q.2.category == 2)))) (k : rj_Go X9 y9 cc nL rt9 d9 P9 (pc + 2) lv' rest σ)  : rj_Go X9 y9 cc nL rt9 d9 P9 pc lv (.long x :: rest) σ := by
  obtain ⟨v0, τ0, hp0, g1, g2, g0⟩ := k
  exact ⟨v0, τ0, hp0, g1, g2, rj_lstore hdg hn hl g0⟩
theorem go_aload_n {k0 : Fin 4} {i : Nat} {x : Nat} (hdg : decode cc pc = .ok (.aload_n k0, 1)) (hi : (k0 : Nat) = i) (j : Nat) (hl : lv[j]? = some (i, .ref x)) (k : rj_Go X9 y9 cc nL rt9 d9 P9 (pc + 1) lv (.ref x :: rest) σ)  : rj_Go X9 y9 cc nL rt9 d9 P9 pc lv rest σ := by
  obtain ⟨v0, τ0, hp0, g1, g2, g0⟩ := k
  exact ⟨v0, τ0, hp0, g1, g2, rj_aload_n hdg hi j hl g0⟩
theorem go_aload {i : Nat} {x : Nat} (hdg : decode cc pc = .ok (.aload i, 2)) (j : Nat) (hl : lv[j]? = some (i, .ref x)) (k : rj_Go X9 y9 cc nL rt9 d9 P9 (pc + 2) lv (.ref x :: rest) σ)  : rj_Go X9 y9 cc nL rt9 d9 P9 pc lv rest σ := by
  obtain ⟨v0, τ0, hp0, g1, g2, g0⟩ := k
  exact ⟨v0, τ0, hp0, g1, g2, rj_aload hdg j hl g0⟩
theorem go_astore_n {k0 : Fin 4} {i : Nat} {x : Nat} {lv' : List (Nat × Value)} (hdg : decode cc pc = .ok (.astore_n k0, 1)) (hi : (k0 : Nat) = i) (hn : i < nL) (hl : ∀ q ∈ lv', q ∈ (i, .ref x) :: lv.filter (fun q => !(q.1 == i) && !(q.1 + 1 == i && q.2.category == 2))) (k : rj_Go X9 y9 cc nL rt9 d9 P9 (pc + 1) lv' rest σ)  : rj_Go X9 y9 cc nL rt9 d9 P9 pc lv (.ref x :: rest) σ := by
  obtain ⟨v0, τ0, hp0, g1, g2, g0⟩ := k
  exact ⟨v0, τ0, hp0, g1, g2, rj_astore_n hdg hi hn hl g0⟩
theorem go_astore {i : Nat} {x : Nat} {lv' : List (Nat × Value)} (hdg : decode cc pc = .ok (.astore i, 2)) (hn : i < nL) (hl : ∀ q ∈ lv', q ∈ (i, .ref x) :: lv.filter (fun q => !(q.1 == i) && !(q.1 + 1 == i && q.2.category == 2))) (k : rj_Go X9 y9 cc nL rt9 d9 P9 (pc + 2) lv' rest σ)  : rj_Go X9 y9 cc nL rt9 d9 P9 pc lv (.ref x :: rest) σ := by
  obtain ⟨v0, τ0, hp0, g1, g2, g0⟩ := k
  exact ⟨v0, τ0, hp0, g1, g2, rj_astore hdg hn hl g0⟩
theorem go_aload_nN {k0 : Fin 4} {i : Nat} (hdg : decode cc pc = .ok (.aload_n k0, 1)) (hi : (k0 : Nat) = i) (j : Nat) (hl : lv[j]? = some (i, .null)) (k : rj_Go X9 y9 cc nL rt9 d9 P9 (pc + 1) lv (.null :: rest) σ)  : rj_Go X9 y9 cc nL rt9 d9 P9 pc lv rest σ := by
  obtain ⟨v0, τ0, hp0, g1, g2, g0⟩ := k
  exact ⟨v0, τ0, hp0, g1, g2, rj_aload_nN hdg hi j hl g0⟩
theorem go_aloadN {i : Nat} (hdg : decode cc pc = .ok (.aload i, 2)) (j : Nat) (hl : lv[j]? = some (i, .null)) (k : rj_Go X9 y9 cc nL rt9 d9 P9 (pc + 2) lv (.null :: rest) σ)  : rj_Go X9 y9 cc nL rt9 d9 P9 pc lv rest σ := by
  obtain ⟨v0, τ0, hp0, g1, g2, g0⟩ := k
  exact ⟨v0, τ0, hp0, g1, g2, rj_aloadN hdg j hl g0⟩
theorem go_astore_nN {k0 : Fin 4} {i : Nat} {lv' : List (Nat × Value)} (hdg : decode cc pc = .ok (.astore_n k0, 1)) (hi : (k0 : Nat) = i) (hn : i < nL) (hl : ∀ q ∈ lv', q ∈ (i, Value.null) :: lv.filter (fun q => !(q.1 == i) && !(q.1 + 1 == i && q.2.category == 2))) (k : rj_Go X9 y9 cc nL rt9 d9 P9 (pc + 1) lv' rest σ)  : rj_Go X9 y9 cc nL rt9 d9 P9 pc lv (.null :: rest) σ := by
  obtain ⟨v0, τ0, hp0, g1, g2, g0⟩ := k
  exact ⟨v0, τ0, hp0, g1, g2, rj_astore_nN hdg hi hn hl g0⟩
theorem go_iinc {i k0 : Nat} {n : Int} {x w : Int32} {lv' : List (Nat × Value)} (hdg : decode cc pc = .ok (.iinc i n, 3)) (hk : lv[k0]? = some (i, .int x)) (hv : x + Int32.ofInt n = w) (hn : i < nL) (hl : ∀ q ∈ lv', q ∈ (i, Value.int w) :: lv.filter (fun q => !(q.1 == i) && !(q.1 + 1 == i && q.2.category == 2))) (k : rj_Go X9 y9 cc nL rt9 d9 P9 (pc + 3) lv' rest σ)  : rj_Go X9 y9 cc nL rt9 d9 P9 pc lv rest σ := by
  obtain ⟨v0, τ0, hp0, g1, g2, g0⟩ := k
  exact ⟨v0, τ0, hp0, g1, g2, rj_iinc hdg hk hv hn hl g0⟩
theorem go_get {ci k idx a : Nat} {C : String} {T : u_T} {N : Nat} {ty : Nat → FieldType} {fs : List Value} {w : Value} (hcl : rj_cl ci C T N ty) (hk : k < N) (hln : rj_ln y9.cls idx (T k)) (ha : σ.2.2 a = some (.inr (ci, fs))) (hv : fs[k]? = some w) (hdg : decode cc pc = .ok (.getfield idx, 3)) (kk : rj_Go X9 y9 cc nL rt9 d9 P9 (pc + 3) lv (w :: rest) σ)  : rj_Go X9 y9 cc nL rt9 d9 P9 pc lv (.ref a :: rest) σ := by
  obtain ⟨v0, τ0, hp0, g1, g2, g0⟩ := kk
  exact ⟨v0, τ0, hp0, g1, g2, rj_get hcl hk hln ha hv hdg g0⟩
theorem go_put {ci k idx a : Nat} {C : String} {T : u_T} {N : Nat} {ty : Nat → FieldType} {fs : List Value} {w : Value} (hcl : rj_cl ci C T N ty) (hk : k < N) (hln : rj_ln y9.cls idx (T k)) (hfin : (T k).2.2.2 = false ∨ (y9.name = "<init>" ∧ (T k).1 = y9.cls)) (ha : σ.2.2 a = some (.inr (ci, fs))) (hl : k < fs.length) (hn : narrow (ty k) w = w) (hfit : fits (ty k) w = true) (hdg : decode cc pc = .ok (.putfield idx, 3)) (kk : rj_Go X9 y9 cc nL rt9 d9 P9 (pc + 3) lv rest (rj_set σ a (.inr (ci, fs.set k w))))  : rj_Go X9 y9 cc nL rt9 d9 P9 pc lv (w :: .ref a :: rest) σ := by
  obtain ⟨v0, τ0, hp0, g1, g2, g0⟩ := kk
  exact ⟨v0, τ0, hp0, g1, g2, rj_put hcl hk hln hfin ha hl hn hfit hdg g0⟩
theorem go_iald {a n : Nat} {g : Int → Int} {z : Int} (ha : σ.2.2 a = some (rj_ar X9 0 n g)) (h0 : 0 ≤ z) (h1 : z < n) (hn : n < 2147483648) (hdg : decode cc pc = .ok (.iaload, 1)) (kk : rj_Go X9 y9 cc nL rt9 d9 P9 (pc + 1) lv (rj_i (g z) :: rest) σ)  : rj_Go X9 y9 cc nL rt9 d9 P9 pc lv (rj_i z :: .ref a :: rest) σ := by
  obtain ⟨v0, τ0, hp0, g1, g2, g0⟩ := kk
  exact ⟨v0, τ0, hp0, g1, g2, rj_iald ha h0 h1 hn hdg g0⟩
theorem go_iast {a n : Nat} {g : Int → Int} {z w : Int} (ha : σ.2.2 a = some (rj_ar X9 0 n g)) (h0 : 0 ≤ z) (h1 : z < n) (hn : n < 2147483648) (hdg : decode cc pc = .ok (.iastore, 1)) (kk : rj_Go X9 y9 cc nL rt9 d9 P9 (pc + 1) lv rest (rj_set σ a (rj_ar X9 0 n (rj_up g z w))))  : rj_Go X9 y9 cc nL rt9 d9 P9 pc lv (rj_i w :: rj_i z :: .ref a :: rest) σ := by
  obtain ⟨v0, τ0, hp0, g1, g2, g0⟩ := kk
  exact ⟨v0, τ0, hp0, g1, g2, rj_iast ha h0 h1 hn hdg g0⟩
theorem go_inew {z : Int} {n : Nat} (hz : z = n) (hn : n < 100000) (harr : Cond.arrayClass .int ∈ rj_tbl) (hdg : decode cc pc = .ok (.newarray .int, 2)) (kk : rj_Go X9 y9 cc nL rt9 d9 P9 (pc + 2) lv (.ref σ.1 :: rest) (rj_new σ n (rj_ar X9 0 n (fun _ => 0))))  : rj_Go X9 y9 cc nL rt9 d9 P9 pc lv (rj_i z :: rest) σ := by
  obtain ⟨v0, τ0, hp0, g1, g2, g0⟩ := kk
  exact ⟨v0, τ0, hp0, Nat.le_trans (Nat.le_add_right _ _) g1, Nat.le_trans (Nat.le_add_right _ _) g2, rj_inew hz hn harr ⟨g1, g2⟩ hdg g0⟩
theorem go_bald {a n : Nat} {g : Int → Int} {z : Int} (ha : σ.2.2 a = some (rj_ar X9 1 n g)) (h0 : 0 ≤ z) (h1 : z < n) (hn : n < 2147483648) (hdg : decode cc pc = .ok (.baload, 1)) (kk : rj_Go X9 y9 cc nL rt9 d9 P9 (pc + 1) lv (rj_i (g z) :: rest) σ)  : rj_Go X9 y9 cc nL rt9 d9 P9 pc lv (rj_i z :: .ref a :: rest) σ := by
  obtain ⟨v0, τ0, hp0, g1, g2, g0⟩ := kk
  exact ⟨v0, τ0, hp0, g1, g2, rj_bald ha h0 h1 hn hdg g0⟩
theorem go_bast {a n : Nat} {g : Int → Int} {z w : Int} (ha : σ.2.2 a = some (rj_ar X9 1 n g)) (h0 : 0 ≤ z) (h1 : z < n) (hn : n < 2147483648) (hw : narrow .byte (.int (Int32.ofInt w)) = .int (Int32.ofInt w)) (hdg : decode cc pc = .ok (.bastore, 1)) (kk : rj_Go X9 y9 cc nL rt9 d9 P9 (pc + 1) lv rest (rj_set σ a (rj_ar X9 1 n (rj_up g z w))))  : rj_Go X9 y9 cc nL rt9 d9 P9 pc lv (rj_i w :: rj_i z :: .ref a :: rest) σ := by
  obtain ⟨v0, τ0, hp0, g1, g2, g0⟩ := kk
  exact ⟨v0, τ0, hp0, g1, g2, rj_bast ha h0 h1 hn hw hdg g0⟩
theorem go_bnew {z : Int} {n : Nat} (hz : z = n) (hn : n < 100000) (harr : Cond.arrayClass .byte ∈ rj_tbl) (hdg : decode cc pc = .ok (.newarray .byte, 2)) (kk : rj_Go X9 y9 cc nL rt9 d9 P9 (pc + 2) lv (.ref σ.1 :: rest) (rj_new σ n (rj_ar X9 1 n (fun _ => 0))))  : rj_Go X9 y9 cc nL rt9 d9 P9 pc lv (rj_i z :: rest) σ := by
  obtain ⟨v0, τ0, hp0, g1, g2, g0⟩ := kk
  exact ⟨v0, τ0, hp0, Nat.le_trans (Nat.le_add_right _ _) g1, Nat.le_trans (Nat.le_add_right _ _) g2, rj_bnew hz hn harr ⟨g1, g2⟩ hdg g0⟩
theorem go_zald {a n : Nat} {g : Int → Int} {z : Int} (ha : σ.2.2 a = some (rj_ar X9 2 n g)) (h0 : 0 ≤ z) (h1 : z < n) (hn : n < 2147483648) (hdg : decode cc pc = .ok (.baload, 1)) (kk : rj_Go X9 y9 cc nL rt9 d9 P9 (pc + 1) lv (rj_i (g z) :: rest) σ)  : rj_Go X9 y9 cc nL rt9 d9 P9 pc lv (rj_i z :: .ref a :: rest) σ := by
  obtain ⟨v0, τ0, hp0, g1, g2, g0⟩ := kk
  exact ⟨v0, τ0, hp0, g1, g2, rj_zald ha h0 h1 hn hdg g0⟩
theorem go_zast {a n : Nat} {g : Int → Int} {z w : Int} (ha : σ.2.2 a = some (rj_ar X9 2 n g)) (h0 : 0 ≤ z) (h1 : z < n) (hn : n < 2147483648) (hw : narrow .boolean (.int (Int32.ofInt w)) = .int (Int32.ofInt w)) (hdg : decode cc pc = .ok (.bastore, 1)) (kk : rj_Go X9 y9 cc nL rt9 d9 P9 (pc + 1) lv rest (rj_set σ a (rj_ar X9 2 n (rj_up g z w))))  : rj_Go X9 y9 cc nL rt9 d9 P9 pc lv (rj_i w :: rj_i z :: .ref a :: rest) σ := by
  obtain ⟨v0, τ0, hp0, g1, g2, g0⟩ := kk
  exact ⟨v0, τ0, hp0, g1, g2, rj_zast ha h0 h1 hn hw hdg g0⟩
theorem go_znew {z : Int} {n : Nat} (hz : z = n) (hn : n < 100000) (harr : Cond.arrayClass .boolean ∈ rj_tbl) (hdg : decode cc pc = .ok (.newarray .boolean, 2)) (kk : rj_Go X9 y9 cc nL rt9 d9 P9 (pc + 2) lv (.ref σ.1 :: rest) (rj_new σ n (rj_ar X9 2 n (fun _ => 0))))  : rj_Go X9 y9 cc nL rt9 d9 P9 pc lv (rj_i z :: rest) σ := by
  obtain ⟨v0, τ0, hp0, g1, g2, g0⟩ := kk
  exact ⟨v0, τ0, hp0, Nat.le_trans (Nat.le_add_right _ _) g1, Nat.le_trans (Nat.le_add_right _ _) g2, rj_znew hz hn harr ⟨g1, g2⟩ hdg g0⟩
theorem go_alen {a n t : Nat} {x : vp_A} {ty : FieldType} (ha : σ.2.2 a = some (.inl (X9.2.2.1 t, x))) (ht : (rj_tys X9)[t]? = some (X9.2.2.1 t, ty)) (hx : x.1 = n) (hn : n < 2147483648) (hdg : decode cc pc = .ok (.arraylength, 1)) (kk : rj_Go X9 y9 cc nL rt9 d9 P9 (pc + 1) lv (rj_i n :: rest) σ)  : rj_Go X9 y9 cc nL rt9 d9 P9 pc lv (.ref a :: rest) σ := by
  obtain ⟨v0, τ0, hp0, g1, g2, g0⟩ := kk
  exact ⟨v0, τ0, hp0, g1, g2, rj_alen (f := fun _ => .null) ha ht hx hn hdg g0⟩
theorem go_aald {a n t : Nat} {f : Int → Option Nat} {z : Int} {ty : FieldType} (ha : σ.2.2 a = some (rj_rr X9 t n f)) (ht : (rj_tys X9)[t]? = some (X9.2.2.1 t, ty)) (hr : ty.isReference = true) (h0 : 0 ≤ z) (h1 : z < n) (hn : n < 2147483648) (hdg : decode cc pc = .ok (.aaload, 1)) (kk : rj_Go X9 y9 cc nL rt9 d9 P9 (pc + 1) lv (va_rf (f z) :: rest) σ)  : rj_Go X9 y9 cc nL rt9 d9 P9 pc lv (rj_i z :: .ref a :: rest) σ := by
  obtain ⟨v0, τ0, hp0, g1, g2, g0⟩ := kk
  exact ⟨v0, τ0, hp0, g1, g2, rj_aald ha ht hr h0 h1 hn hdg g0⟩
theorem go_newo {ci idx : Nat} {C : String} {T : u_T} {N : Nat} {ty : Nat → FieldType} {fs : List Value} (hcl : rj_cl ci C T N ty) (hlk : Cond.classLink y9.cls idx C ∈ rj_tbl) (hin : Cond.instantiable C N ∈ rj_tbl) (hini : Cond.initialized C ∈ rj_tbl) (hfs : ∀ j, j < N → defaultValue (ty j) = vp_V fs j) (hdg : decode cc pc = .ok (.new idx, 3)) (kk : rj_Go X9 y9 cc nL rt9 d9 P9 (pc + 3) lv (.ref σ.1 :: rest) (rj_new σ N (.inr (ci, fs))))  : rj_Go X9 y9 cc nL rt9 d9 P9 pc lv rest σ := by
  obtain ⟨v0, τ0, hp0, g1, g2, g0⟩ := kk
  exact ⟨v0, τ0, hp0, Nat.le_trans (Nat.le_add_right _ _) g1, Nat.le_trans (Nat.le_add_right _ _) g2, rj_newo hcl hlk hin hini hfs ⟨g1, g2⟩ hdg g0⟩
theorem go_instS {ci idx a : Nat} {C : String} {T : u_T} {N : Nat} {ty : Nat → FieldType} {fs : List Value} (hcl : rj_cl ci C T N ty) (ha : σ.2.2 a = some (.inr (ci, fs))) (hlk : Cond.classLink y9.cls idx C ∈ rj_tbl) (hdg : decode cc pc = .ok (.instanceof idx, 3)) (kk : rj_Go X9 y9 cc nL rt9 d9 P9 (pc + 3) lv (rj_i 1 :: rest) σ)  : rj_Go X9 y9 cc nL rt9 d9 P9 pc lv (.ref a :: rest) σ := by
  obtain ⟨v0, τ0, hp0, g1, g2, g0⟩ := kk
  exact ⟨v0, τ0, hp0, g1, g2, rj_instS hcl ha hlk hdg g0⟩
theorem go_instY {ci idx a : Nat} {C nm : String} {T : u_T} {N : Nat} {ty : Nat → FieldType} {fs : List Value} (hcl : rj_cl ci C T N ty) (ha : σ.2.2 a = some (.inr (ci, fs))) (hlk : Cond.classLink y9.cls idx nm ∈ rj_tbl) (hca : (C, nm) ∈ rj_cas) (hdg : decode cc pc = .ok (.instanceof idx, 3)) (kk : rj_Go X9 y9 cc nL rt9 d9 P9 (pc + 3) lv (rj_i 1 :: rest) σ)  : rj_Go X9 y9 cc nL rt9 d9 P9 pc lv (.ref a :: rest) σ := by
  obtain ⟨v0, τ0, hp0, g1, g2, g0⟩ := kk
  exact ⟨v0, τ0, hp0, g1, g2, rj_instY hcl ha hlk hca hdg g0⟩
theorem go_instN {ci idx a : Nat} {C nm : String} {T : u_T} {N : Nat} {ty : Nat → FieldType} {fs : List Value} (hcl : rj_cl ci C T N ty) (ha : σ.2.2 a = some (.inr (ci, fs))) (hlk : Cond.classLink y9.cls idx nm ∈ rj_tbl) (hca : (C, nm) ∈ rj_ncs) (hdg : decode cc pc = .ok (.instanceof idx, 3)) (kk : rj_Go X9 y9 cc nL rt9 d9 P9 (pc + 3) lv (rj_i 0 :: rest) σ)  : rj_Go X9 y9 cc nL rt9 d9 P9 pc lv (.ref a :: rest) σ := by
  obtain ⟨v0, τ0, hp0, g1, g2, g0⟩ := kk
  exact ⟨v0, τ0, hp0, g1, g2, rj_instN hcl ha hlk hca hdg g0⟩
theorem go_sld {z : Int} (h0 : 0 ≤ z) (h1 : z < X9.2.2.2.2.1.2.1) (hn : X9.2.2.2.2.1.2.1 < 2147483648) (hdg : decode cc pc = .ok (.iaload, 1)) (kk : rj_Go X9 y9 cc nL rt9 d9 P9 (pc + 1) lv (.int (X9.2.2.2.2.1.2.2 z.toNat) :: rest) σ)  : rj_Go X9 y9 cc nL rt9 d9 P9 pc lv (rj_i z :: .ref X9.2.2.2.2.1.1 :: rest) σ := by
  obtain ⟨v0, τ0, hp0, g1, g2, g0⟩ := kk
  exact ⟨v0, τ0, hp0, g1, g2, rj_sld h0 h1 hn hdg g0⟩
theorem go_slen (hn : X9.2.2.2.2.1.2.1 < 2147483648) (hdg : decode cc pc = .ok (.arraylength, 1)) (kk : rj_Go X9 y9 cc nL rt9 d9 P9 (pc + 1) lv (rj_i X9.2.2.2.2.1.2.1 :: rest) σ)  : rj_Go X9 y9 cc nL rt9 d9 P9 pc lv (.ref X9.2.2.2.2.1.1 :: rest) σ := by
  obtain ⟨v0, τ0, hp0, g1, g2, g0⟩ := kk
  exact ⟨v0, τ0, hp0, g1, g2, rj_slen hn hdg g0⟩
theorem go_callS {Pc : Option Value → rj_H → Prop} {idx n d1 n1 : Nat} {x : MethodName} {c1 : ByteArray} {r1 : Option FieldType} {av st : List Value}  (hw : rj_wS y9.cls idx x c1 n1 r1 n) (hn : av.length = n) (hd : d1 + 1 ≤ d9) (hcall : rj_Cl X9 d1 x c1 n1 r1 av σ Pc) (hst : st = av.reverse ++ rest) (hcat : (rest.map fun v => v.category).sum ≤ 8) (hdg : decode cc pc = .ok (.invokestatic idx, 3)) (kk : ∀ (w : Option Value) (σ1 : rj_H), Pc w σ1 → rj_Go X9 y9 cc nL rt9 d9 P9 (pc + 3) lv (w.toList ++ rest) σ1)  : rj_Go X9 y9 cc nL rt9 d9 P9 pc lv st σ := by
  obtain ⟨w, σ1, hP, hc⟩ := hcall
  obtain ⟨v0, τ0, hp0, g1, g2, g0⟩ := kk w σ1 hP
  exact ⟨v0, τ0, hp0, Nat.le_trans hc.1 g1, Nat.le_trans hc.2.1 g2, rj_callS hw hn hd hc ⟨g1, g2⟩ hst hcat hdg g0⟩
theorem go_callV {Pc : Option Value → rj_H → Prop} {idx n d1 n1 a ci : Nat} {x : MethodName} {c1 : ByteArray} {r1 : Option FieldType} {av st : List Value}  {T : u_T} {N : Nat} {ty : Nat → FieldType} {fs : List Value} (hw : rj_wV y9.cls idx x c1 n1 r1 n) (hcl : rj_cl ci x.cls T N ty) (ha : σ.2.2 a = some (.inr (ci, fs))) (hn : av.length = n) (hd : d1 + 1 ≤ d9) (hcall : rj_Cl X9 d1 x c1 n1 r1 (.ref a :: av) σ Pc) (hst : st = av.reverse ++ .ref a :: rest) (hcat : (rest.map fun v => v.category).sum ≤ 8) (hdg : decode cc pc = .ok (.invokevirtual idx, 3)) (kk : ∀ (w : Option Value) (σ1 : rj_H), Pc w σ1 → rj_Go X9 y9 cc nL rt9 d9 P9 (pc + 3) lv (w.toList ++ rest) σ1)  : rj_Go X9 y9 cc nL rt9 d9 P9 pc lv st σ := by
  obtain ⟨w, σ1, hP, hc⟩ := hcall
  obtain ⟨v0, τ0, hp0, g1, g2, g0⟩ := kk w σ1 hP
  exact ⟨v0, τ0, hp0, Nat.le_trans hc.1 g1, Nat.le_trans hc.2.1 g2, rj_callV hw hcl ha hn hd hc ⟨g1, g2⟩ hst hcat hdg g0⟩
theorem go_callU {Pc : Option Value → rj_H → Prop} {idx n d1 n1 a ci : Nat} {C owner : String} {x0 x : MethodName} {c1 : ByteArray} {r1 : Option FieldType} {av st : List Value}  {T : u_T} {N : Nat} {ty : Nat → FieldType} {fs : List Value} (hw : rj_wU y9.cls idx C owner x0 x c1 n1 r1 n) (hcl : rj_cl ci C T N ty) (ha : σ.2.2 a = some (.inr (ci, fs))) (hn : av.length = n) (hd : d1 + 1 ≤ d9) (hcall : rj_Cl X9 d1 x c1 n1 r1 (.ref a :: av) σ Pc) (hst : st = av.reverse ++ .ref a :: rest) (hcat : (rest.map fun v => v.category).sum ≤ 8) (hdg : decode cc pc = .ok (.invokevirtual idx, 3)) (kk : ∀ (w : Option Value) (σ1 : rj_H), Pc w σ1 → rj_Go X9 y9 cc nL rt9 d9 P9 (pc + 3) lv (w.toList ++ rest) σ1)  : rj_Go X9 y9 cc nL rt9 d9 P9 pc lv st σ := by
  obtain ⟨w, σ1, hP, hc⟩ := hcall
  obtain ⟨v0, τ0, hp0, g1, g2, g0⟩ := kk w σ1 hP
  exact ⟨v0, τ0, hp0, Nat.le_trans hc.1 g1, Nat.le_trans hc.2.1 g2, rj_callU hw hcl ha hn hd hc ⟨g1, g2⟩ hst hcat hdg g0⟩
theorem go_callP {Pc : Option Value → rj_H → Prop} {idx n d1 n1 a ci : Nat} {C : String} {x : MethodName} {c1 : ByteArray} {r1 : Option FieldType} {av st : List Value}  {T : u_T} {N : Nat} {ty : Nat → FieldType} {fs : List Value} (hw : rj_wP y9.cls idx x c1 n1 r1 n) (hcl : rj_cl ci C T N ty) (ha : σ.2.2 a = some (.inr (ci, fs))) (hn : av.length = n) (hd : d1 + 1 ≤ d9) (hcall : rj_Cl X9 d1 x c1 n1 r1 (.ref a :: av) σ Pc) (hst : st = av.reverse ++ .ref a :: rest) (hcat : (rest.map fun v => v.category).sum ≤ 8) (hdg : decode cc pc = .ok (.invokespecial idx, 3)) (kk : ∀ (w : Option Value) (σ1 : rj_H), Pc w σ1 → rj_Go X9 y9 cc nL rt9 d9 P9 (pc + 3) lv (w.toList ++ rest) σ1)  : rj_Go X9 y9 cc nL rt9 d9 P9 pc lv st σ := by
  obtain ⟨w, σ1, hP, hc⟩ := hcall
  obtain ⟨v0, τ0, hp0, g1, g2, g0⟩ := kk w σ1 hP
  exact ⟨v0, τ0, hp0, Nat.le_trans hc.1 g1, Nat.le_trans hc.2.1 g2, rj_callP hw hcl ha hn hd hc ⟨g1, g2⟩ hst hcat hdg g0⟩
theorem go_callI {Pc : Option Value → rj_H → Prop} {idx n d1 n1 a : Nat} {x : MethodName} {c1 : ByteArray} {av st : List Value} (hw : rj_wI y9.cls idx x c1 n1 n) (hn : av.length = n) (hd : d1 + 1 ≤ d9) (hcall : rj_Cl X9 d1 x c1 n1 none (.ref a :: av) σ (fun w τ => w = none ∧ Pc none τ)) (hst : st = av.reverse ++ .ref a :: rest) (hcat : (rest.map fun v => v.category).sum ≤ 8) (hdg : decode cc pc = .ok (.invokespecial idx, 3)) (kk : ∀ σ1 : rj_H, Pc none σ1 → rj_Go X9 y9 cc nL rt9 d9 P9 (pc + 3) lv rest σ1)  : rj_Go X9 y9 cc nL rt9 d9 P9 pc lv st σ := by
  obtain ⟨w, σ1, ⟨rfl, hP⟩, hc⟩ := hcall
  obtain ⟨v0, τ0, hp0, g1, g2, g0⟩ := kk σ1 hP
  exact ⟨v0, τ0, hp0, Nat.le_trans hc.1 g1, Nat.le_trans hc.2.1 g2, rj_callI hw hn hd hc ⟨g1, g2⟩ hst hcat hdg g0⟩
theorem go_callN {Pc : Option Value → rj_H → Prop} {idx n d1 n1 a : Nat} {x : MethodName} {host : String} {c1 : ByteArray} {av st : List Value} (hw : rj_wN y9.cls idx x host c1 n1 n) (hn : av.length = n) (hd : d1 + 1 ≤ d9) (hcall : rj_Cl X9 d1 x c1 n1 none (.ref a :: av) σ (fun w τ => w = none ∧ Pc none τ)) (hst : st = av.reverse ++ .ref a :: rest) (hcat : (rest.map fun v => v.category).sum ≤ 8) (hdg : decode cc pc = .ok (.invokespecial idx, 3)) (kk : ∀ σ1 : rj_H, Pc none σ1 → rj_Go X9 y9 cc nL rt9 d9 P9 (pc + 3) lv rest σ1)  : rj_Go X9 y9 cc nL rt9 d9 P9 pc lv st σ := by
  obtain ⟨w, σ1, ⟨rfl, hP⟩, hc⟩ := hcall
  obtain ⟨v0, τ0, hp0, g1, g2, g0⟩ := kk σ1 hP
  exact ⟨v0, τ0, hp0, Nat.le_trans hc.1 g1, Nat.le_trans hc.2.1 g2, rj_callN hw hn hd hc ⟨g1, g2⟩ hst hcat hdg g0⟩
theorem go_obj {idx a : Nat} (h1 : Cond.methodLink y9.cls idx objectInit ∈ rj_tbl) (h2 : Cond.instanceMethod objectInit ∈ rj_tbl) (h3 : Cond.code objectInit ⟨#[0xb1]⟩ 1 none ∈ rj_tbl) (hd : 1 ≤ d9) (hcat : (rest.map fun v => v.category).sum ≤ 8) (hdg : decode cc pc = .ok (.invokespecial idx, 3)) (kk : rj_Go X9 y9 cc nL rt9 d9 P9 (pc + 3) lv rest σ)  : rj_Go X9 y9 cc nL rt9 d9 P9 pc lv (.ref a :: rest) σ := by
  obtain ⟨v0, τ0, hp0, g1, g2, g0⟩ := kk
  exact ⟨v0, τ0, hp0, g1, g2, rj_obj h1 h2 h3 hd hcat hdg g0⟩
theorem go_addI (hdg : decode cc pc = .ok (.iadd, 1)) (k : rj_Go X9 y9 cc nL rt9 d9 P9 (pc + 1) lv (rj_i (a + b) :: rest) σ)  : rj_Go X9 y9 cc nL rt9 d9 P9 pc lv (rj_i b :: rj_i a :: rest) σ := by
  obtain ⟨v0, τ0, hp0, g1, g2, g0⟩ := k
  exact ⟨v0, τ0, hp0, g1, g2, rj_addI hdg g0⟩
theorem go_subI (hdg : decode cc pc = .ok (.isub, 1)) (k : rj_Go X9 y9 cc nL rt9 d9 P9 (pc + 1) lv (rj_i (a - b) :: rest) σ)  : rj_Go X9 y9 cc nL rt9 d9 P9 pc lv (rj_i b :: rj_i a :: rest) σ := by
  obtain ⟨v0, τ0, hp0, g1, g2, g0⟩ := k
  exact ⟨v0, τ0, hp0, g1, g2, rj_subI hdg g0⟩
theorem go_mulI (hdg : decode cc pc = .ok (.imul, 1)) (k : rj_Go X9 y9 cc nL rt9 d9 P9 (pc + 1) lv (rj_i (a * b) :: rest) σ)  : rj_Go X9 y9 cc nL rt9 d9 P9 pc lv (rj_i b :: rj_i a :: rest) σ := by
  obtain ⟨v0, τ0, hp0, g1, g2, g0⟩ := k
  exact ⟨v0, τ0, hp0, g1, g2, rj_mulI hdg g0⟩
theorem go_negI (hdg : decode cc pc = .ok (.ineg, 1)) (k : rj_Go X9 y9 cc nL rt9 d9 P9 (pc + 1) lv (rj_i (-a) :: rest) σ)  : rj_Go X9 y9 cc nL rt9 d9 P9 pc lv (rj_i a :: rest) σ := by
  obtain ⟨v0, τ0, hp0, g1, g2, g0⟩ := k
  exact ⟨v0, τ0, hp0, g1, g2, rj_negI hdg g0⟩
theorem go_divI (ha : 0 ≤ a ∧ a < 2147483648) (hb : 0 < b ∧ b < 2147483648) (hdg : decode cc pc = .ok (.idiv, 1)) (k : rj_Go X9 y9 cc nL rt9 d9 P9 (pc + 1) lv (rj_i (a / b) :: rest) σ)  : rj_Go X9 y9 cc nL rt9 d9 P9 pc lv (rj_i b :: rj_i a :: rest) σ := by
  obtain ⟨v0, τ0, hp0, g1, g2, g0⟩ := k
  exact ⟨v0, τ0, hp0, g1, g2, rj_divI ha hb hdg g0⟩
theorem go_remI (ha : 0 ≤ a ∧ a < 2147483648) (hb : 0 < b ∧ b < 2147483648) (hdg : decode cc pc = .ok (.irem, 1)) (k : rj_Go X9 y9 cc nL rt9 d9 P9 (pc + 1) lv (rj_i (a % b) :: rest) σ)  : rj_Go X9 y9 cc nL rt9 d9 P9 pc lv (rj_i b :: rj_i a :: rest) σ := by
  obtain ⟨v0, τ0, hp0, g1, g2, g0⟩ := k
  exact ⟨v0, τ0, hp0, g1, g2, rj_remI ha hb hdg g0⟩
theorem go_icmp_eqI {off : Int} {tgt : Nat} (ha : -2147483648 ≤ a ∧ a < 2147483648) (hb : -2147483648 ≤ b ∧ b < 2147483648) (hdg : decode cc pc = .ok (.if_icmp .eq off, 3)) (ht : (pc : Int) + off = (tgt : Int)) (kt : a = b → rj_Go X9 y9 cc nL rt9 d9 P9 tgt lv rest σ) (kf : ¬ a = b → rj_Go X9 y9 cc nL rt9 d9 P9 (pc + 3) lv rest σ)  : rj_Go X9 y9 cc nL rt9 d9 P9 pc lv (rj_i b :: rj_i a :: rest) σ := by
  by_cases hc : a = b
  · obtain ⟨v0, τ0, hp0, g1, g2, g0⟩ := kt hc
    exact ⟨v0, τ0, hp0, g1, g2, rj_icmp_eqI ha hb hdg ht (fun _ => g0) (fun z => absurd hc z)⟩
  · obtain ⟨v0, τ0, hp0, g1, g2, g0⟩ := kf hc
    exact ⟨v0, τ0, hp0, g1, g2, rj_icmp_eqI ha hb hdg ht (fun z => absurd z hc) (fun _ => g0)⟩
theorem go_if_eqI {off : Int} {tgt : Nat} (ha : -2147483648 ≤ a ∧ a < 2147483648) (hdg : decode cc pc = .ok (.ifCond .eq off, 3)) (ht : (pc : Int) + off = (tgt : Int)) (kt : a = 0 → rj_Go X9 y9 cc nL rt9 d9 P9 tgt lv rest σ) (kf : ¬ a = 0 → rj_Go X9 y9 cc nL rt9 d9 P9 (pc + 3) lv rest σ)  : rj_Go X9 y9 cc nL rt9 d9 P9 pc lv (rj_i a :: rest) σ := by
  by_cases hc : a = 0
  · obtain ⟨v0, τ0, hp0, g1, g2, g0⟩ := kt hc
    exact ⟨v0, τ0, hp0, g1, g2, rj_if_eqI ha hdg ht (fun _ => g0) (fun z => absurd hc z)⟩
  · obtain ⟨v0, τ0, hp0, g1, g2, g0⟩ := kf hc
    exact ⟨v0, τ0, hp0, g1, g2, rj_if_eqI ha hdg ht (fun z => absurd z hc) (fun _ => g0)⟩
theorem go_icmp_neI {off : Int} {tgt : Nat} (ha : -2147483648 ≤ a ∧ a < 2147483648) (hb : -2147483648 ≤ b ∧ b < 2147483648) (hdg : decode cc pc = .ok (.if_icmp .ne off, 3)) (ht : (pc : Int) + off = (tgt : Int)) (kt : ¬ a = b → rj_Go X9 y9 cc nL rt9 d9 P9 tgt lv rest σ) (kf : a = b → rj_Go X9 y9 cc nL rt9 d9 P9 (pc + 3) lv rest σ)  : rj_Go X9 y9 cc nL rt9 d9 P9 pc lv (rj_i b :: rj_i a :: rest) σ := by
  by_cases hc : a = b
  · obtain ⟨v0, τ0, hp0, g1, g2, g0⟩ := kf hc
    exact ⟨v0, τ0, hp0, g1, g2, rj_icmp_neI ha hb hdg ht (fun z => absurd hc z) (fun _ => g0)⟩
  · obtain ⟨v0, τ0, hp0, g1, g2, g0⟩ := kt hc
    exact ⟨v0, τ0, hp0, g1, g2, rj_icmp_neI ha hb hdg ht (fun _ => g0) (fun z => absurd z hc)⟩
theorem go_if_neI {off : Int} {tgt : Nat} (ha : -2147483648 ≤ a ∧ a < 2147483648) (hdg : decode cc pc = .ok (.ifCond .ne off, 3)) (ht : (pc : Int) + off = (tgt : Int)) (kt : ¬ a = 0 → rj_Go X9 y9 cc nL rt9 d9 P9 tgt lv rest σ) (kf : a = 0 → rj_Go X9 y9 cc nL rt9 d9 P9 (pc + 3) lv rest σ)  : rj_Go X9 y9 cc nL rt9 d9 P9 pc lv (rj_i a :: rest) σ := by
  by_cases hc : a = 0
  · obtain ⟨v0, τ0, hp0, g1, g2, g0⟩ := kf hc
    exact ⟨v0, τ0, hp0, g1, g2, rj_if_neI ha hdg ht (fun z => absurd hc z) (fun _ => g0)⟩
  · obtain ⟨v0, τ0, hp0, g1, g2, g0⟩ := kt hc
    exact ⟨v0, τ0, hp0, g1, g2, rj_if_neI ha hdg ht (fun _ => g0) (fun z => absurd z hc)⟩
theorem go_icmp_ltI {off : Int} {tgt : Nat} (ha : -2147483648 ≤ a ∧ a < 2147483648) (hb : -2147483648 ≤ b ∧ b < 2147483648) (hdg : decode cc pc = .ok (.if_icmp .lt off, 3)) (ht : (pc : Int) + off = (tgt : Int)) (kt : a < b → rj_Go X9 y9 cc nL rt9 d9 P9 tgt lv rest σ) (kf : ¬ a < b → rj_Go X9 y9 cc nL rt9 d9 P9 (pc + 3) lv rest σ)  : rj_Go X9 y9 cc nL rt9 d9 P9 pc lv (rj_i b :: rj_i a :: rest) σ := by
  by_cases hc : a < b
  · obtain ⟨v0, τ0, hp0, g1, g2, g0⟩ := kt hc
    exact ⟨v0, τ0, hp0, g1, g2, rj_icmp_ltI ha hb hdg ht (fun _ => g0) (fun z => absurd hc z)⟩
  · obtain ⟨v0, τ0, hp0, g1, g2, g0⟩ := kf hc
    exact ⟨v0, τ0, hp0, g1, g2, rj_icmp_ltI ha hb hdg ht (fun z => absurd z hc) (fun _ => g0)⟩
theorem go_if_ltI {off : Int} {tgt : Nat} (ha : -2147483648 ≤ a ∧ a < 2147483648) (hdg : decode cc pc = .ok (.ifCond .lt off, 3)) (ht : (pc : Int) + off = (tgt : Int)) (kt : a < 0 → rj_Go X9 y9 cc nL rt9 d9 P9 tgt lv rest σ) (kf : ¬ a < 0 → rj_Go X9 y9 cc nL rt9 d9 P9 (pc + 3) lv rest σ)  : rj_Go X9 y9 cc nL rt9 d9 P9 pc lv (rj_i a :: rest) σ := by
  by_cases hc : a < 0
  · obtain ⟨v0, τ0, hp0, g1, g2, g0⟩ := kt hc
    exact ⟨v0, τ0, hp0, g1, g2, rj_if_ltI ha hdg ht (fun _ => g0) (fun z => absurd hc z)⟩
  · obtain ⟨v0, τ0, hp0, g1, g2, g0⟩ := kf hc
    exact ⟨v0, τ0, hp0, g1, g2, rj_if_ltI ha hdg ht (fun z => absurd z hc) (fun _ => g0)⟩
theorem go_icmp_geI {off : Int} {tgt : Nat} (ha : -2147483648 ≤ a ∧ a < 2147483648) (hb : -2147483648 ≤ b ∧ b < 2147483648) (hdg : decode cc pc = .ok (.if_icmp .ge off, 3)) (ht : (pc : Int) + off = (tgt : Int)) (kt : b ≤ a → rj_Go X9 y9 cc nL rt9 d9 P9 tgt lv rest σ) (kf : ¬ b ≤ a → rj_Go X9 y9 cc nL rt9 d9 P9 (pc + 3) lv rest σ)  : rj_Go X9 y9 cc nL rt9 d9 P9 pc lv (rj_i b :: rj_i a :: rest) σ := by
  by_cases hc : b ≤ a
  · obtain ⟨v0, τ0, hp0, g1, g2, g0⟩ := kt hc
    exact ⟨v0, τ0, hp0, g1, g2, rj_icmp_geI ha hb hdg ht (fun _ => g0) (fun z => absurd hc z)⟩
  · obtain ⟨v0, τ0, hp0, g1, g2, g0⟩ := kf hc
    exact ⟨v0, τ0, hp0, g1, g2, rj_icmp_geI ha hb hdg ht (fun z => absurd z hc) (fun _ => g0)⟩
theorem go_if_geI {off : Int} {tgt : Nat} (ha : -2147483648 ≤ a ∧ a < 2147483648) (hdg : decode cc pc = .ok (.ifCond .ge off, 3)) (ht : (pc : Int) + off = (tgt : Int)) (kt : 0 ≤ a → rj_Go X9 y9 cc nL rt9 d9 P9 tgt lv rest σ) (kf : ¬ 0 ≤ a → rj_Go X9 y9 cc nL rt9 d9 P9 (pc + 3) lv rest σ)  : rj_Go X9 y9 cc nL rt9 d9 P9 pc lv (rj_i a :: rest) σ := by
  by_cases hc : 0 ≤ a
  · obtain ⟨v0, τ0, hp0, g1, g2, g0⟩ := kt hc
    exact ⟨v0, τ0, hp0, g1, g2, rj_if_geI ha hdg ht (fun _ => g0) (fun z => absurd hc z)⟩
  · obtain ⟨v0, τ0, hp0, g1, g2, g0⟩ := kf hc
    exact ⟨v0, τ0, hp0, g1, g2, rj_if_geI ha hdg ht (fun z => absurd z hc) (fun _ => g0)⟩
theorem go_icmp_gtI {off : Int} {tgt : Nat} (ha : -2147483648 ≤ a ∧ a < 2147483648) (hb : -2147483648 ≤ b ∧ b < 2147483648) (hdg : decode cc pc = .ok (.if_icmp .gt off, 3)) (ht : (pc : Int) + off = (tgt : Int)) (kt : b < a → rj_Go X9 y9 cc nL rt9 d9 P9 tgt lv rest σ) (kf : ¬ b < a → rj_Go X9 y9 cc nL rt9 d9 P9 (pc + 3) lv rest σ)  : rj_Go X9 y9 cc nL rt9 d9 P9 pc lv (rj_i b :: rj_i a :: rest) σ := by
  by_cases hc : b < a
  · obtain ⟨v0, τ0, hp0, g1, g2, g0⟩ := kt hc
    exact ⟨v0, τ0, hp0, g1, g2, rj_icmp_gtI ha hb hdg ht (fun _ => g0) (fun z => absurd hc z)⟩
  · obtain ⟨v0, τ0, hp0, g1, g2, g0⟩ := kf hc
    exact ⟨v0, τ0, hp0, g1, g2, rj_icmp_gtI ha hb hdg ht (fun z => absurd z hc) (fun _ => g0)⟩
theorem go_if_gtI {off : Int} {tgt : Nat} (ha : -2147483648 ≤ a ∧ a < 2147483648) (hdg : decode cc pc = .ok (.ifCond .gt off, 3)) (ht : (pc : Int) + off = (tgt : Int)) (kt : 0 < a → rj_Go X9 y9 cc nL rt9 d9 P9 tgt lv rest σ) (kf : ¬ 0 < a → rj_Go X9 y9 cc nL rt9 d9 P9 (pc + 3) lv rest σ)  : rj_Go X9 y9 cc nL rt9 d9 P9 pc lv (rj_i a :: rest) σ := by
  by_cases hc : 0 < a
  · obtain ⟨v0, τ0, hp0, g1, g2, g0⟩ := kt hc
    exact ⟨v0, τ0, hp0, g1, g2, rj_if_gtI ha hdg ht (fun _ => g0) (fun z => absurd hc z)⟩
  · obtain ⟨v0, τ0, hp0, g1, g2, g0⟩ := kf hc
    exact ⟨v0, τ0, hp0, g1, g2, rj_if_gtI ha hdg ht (fun z => absurd z hc) (fun _ => g0)⟩
theorem go_icmp_leI {off : Int} {tgt : Nat} (ha : -2147483648 ≤ a ∧ a < 2147483648) (hb : -2147483648 ≤ b ∧ b < 2147483648) (hdg : decode cc pc = .ok (.if_icmp .le off, 3)) (ht : (pc : Int) + off = (tgt : Int)) (kt : a ≤ b → rj_Go X9 y9 cc nL rt9 d9 P9 tgt lv rest σ) (kf : ¬ a ≤ b → rj_Go X9 y9 cc nL rt9 d9 P9 (pc + 3) lv rest σ)  : rj_Go X9 y9 cc nL rt9 d9 P9 pc lv (rj_i b :: rj_i a :: rest) σ := by
  by_cases hc : a ≤ b
  · obtain ⟨v0, τ0, hp0, g1, g2, g0⟩ := kt hc
    exact ⟨v0, τ0, hp0, g1, g2, rj_icmp_leI ha hb hdg ht (fun _ => g0) (fun z => absurd hc z)⟩
  · obtain ⟨v0, τ0, hp0, g1, g2, g0⟩ := kf hc
    exact ⟨v0, τ0, hp0, g1, g2, rj_icmp_leI ha hb hdg ht (fun z => absurd z hc) (fun _ => g0)⟩
theorem go_if_leI {off : Int} {tgt : Nat} (ha : -2147483648 ≤ a ∧ a < 2147483648) (hdg : decode cc pc = .ok (.ifCond .le off, 3)) (ht : (pc : Int) + off = (tgt : Int)) (kt : a ≤ 0 → rj_Go X9 y9 cc nL rt9 d9 P9 tgt lv rest σ) (kf : ¬ a ≤ 0 → rj_Go X9 y9 cc nL rt9 d9 P9 (pc + 3) lv rest σ)  : rj_Go X9 y9 cc nL rt9 d9 P9 pc lv (rj_i a :: rest) σ := by
  by_cases hc : a ≤ 0
  · obtain ⟨v0, τ0, hp0, g1, g2, g0⟩ := kt hc
    exact ⟨v0, τ0, hp0, g1, g2, rj_if_leI ha hdg ht (fun _ => g0) (fun z => absurd hc z)⟩
  · obtain ⟨v0, τ0, hp0, g1, g2, g0⟩ := kf hc
    exact ⟨v0, τ0, hp0, g1, g2, rj_if_leI ha hdg ht (fun z => absurd z hc) (fun _ => g0)⟩
theorem go_if_eqB {P : Prop} [Decidable P] {off : Int} {tgt : Nat} (hdg : decode cc pc = .ok (.ifCond .eq off, 3)) (ht : (pc : Int) + off = (tgt : Int)) (kt : ¬ P → rj_Go X9 y9 cc nL rt9 d9 P9 tgt lv rest σ) (kf : P → rj_Go X9 y9 cc nL rt9 d9 P9 (pc + 3) lv rest σ)  : rj_Go X9 y9 cc nL rt9 d9 P9 pc lv (rj_i (rj_b P) :: rest) σ := by
  by_cases hc : P
  · obtain ⟨v0, τ0, hp0, g1, g2, g0⟩ := kf hc
    exact ⟨v0, τ0, hp0, g1, g2, rj_if_eqB hdg ht (fun z => absurd hc z) (fun _ => g0)⟩
  · obtain ⟨v0, τ0, hp0, g1, g2, g0⟩ := kt hc
    exact ⟨v0, τ0, hp0, g1, g2, rj_if_eqB hdg ht (fun _ => g0) (fun z => absurd z hc)⟩
theorem go_if_neB {P : Prop} [Decidable P] {off : Int} {tgt : Nat} (hdg : decode cc pc = .ok (.ifCond .ne off, 3)) (ht : (pc : Int) + off = (tgt : Int)) (kt : P → rj_Go X9 y9 cc nL rt9 d9 P9 tgt lv rest σ) (kf : ¬ P → rj_Go X9 y9 cc nL rt9 d9 P9 (pc + 3) lv rest σ)  : rj_Go X9 y9 cc nL rt9 d9 P9 pc lv (rj_i (rj_b P) :: rest) σ := by
  by_cases hc : P
  · obtain ⟨v0, τ0, hp0, g1, g2, g0⟩ := kt hc
    exact ⟨v0, τ0, hp0, g1, g2, rj_if_neB hdg ht (fun _ => g0) (fun z => absurd hc z)⟩
  · obtain ⟨v0, τ0, hp0, g1, g2, g0⟩ := kf hc
    exact ⟨v0, τ0, hp0, g1, g2, rj_if_neB hdg ht (fun z => absurd z hc) (fun _ => g0)⟩
theorem go_iincI {i k0 : Nat} {n : Int} (hk : lv[k0]? = some (i, rj_i a)) (hn : i < nL) (hl : rj_is (lv.filter (fun q => !(q.1 == i) && !(q.1 + 1 == i && q.2.category == 2))) i (rj_i (a + n)) = lv') (hdg : decode cc pc = .ok (.iinc i n, 3)) (k : rj_Go X9 y9 cc nL rt9 d9 P9 (pc + 3) lv' rest σ)  : rj_Go X9 y9 cc nL rt9 d9 P9 pc lv rest σ := by
  obtain ⟨v0, τ0, hp0, g1, g2, g0⟩ := k
  exact ⟨v0, τ0, hp0, g1, g2, rj_iincI hk hn hl hdg g0⟩
theorem go_istore_nS {k0 : Fin 4} {i : Nat} {x : Int32} (hi : (k0 : Nat) = i) (hn : i < nL) (hl : rj_is (lv.filter (fun q => !(q.1 == i) && !(q.1 + 1 == i && q.2.category == 2))) i (.int x) = lv') (hdg : decode cc pc = .ok (.istore_n k0, 1)) (k : rj_Go X9 y9 cc nL rt9 d9 P9 (pc + 1) lv' rest σ)  : rj_Go X9 y9 cc nL rt9 d9 P9 pc lv (.int x :: rest) σ := by
  obtain ⟨v0, τ0, hp0, g1, g2, g0⟩ := k
  exact ⟨v0, τ0, hp0, g1, g2, rj_istore_nS hi hn hl hdg g0⟩
theorem go_istoreS {i : Nat} {x : Int32} (hn : i < nL) (hl : rj_is (lv.filter (fun q => !(q.1 == i) && !(q.1 + 1 == i && q.2.category == 2))) i (.int x) = lv') (hdg : decode cc pc = .ok (.istore i, 2)) (k : rj_Go X9 y9 cc nL rt9 d9 P9 (pc + 2) lv' rest σ)  : rj_Go X9 y9 cc nL rt9 d9 P9 pc lv (.int x :: rest) σ := by
  obtain ⟨v0, τ0, hp0, g1, g2, g0⟩ := k
  exact ⟨v0, τ0, hp0, g1, g2, rj_istoreS hn hl hdg g0⟩
theorem go_lstore_nS {k0 : Fin 4} {i : Nat} {x : Int64} (hi : (k0 : Nat) = i) (hn : i + 1 < nL) (hl : rj_is (lv.filter (fun q => !(q.1 == i) && (!(q.1 == i + 1) && !(q.1 + 1 == i && q.2.category == 2)))) i (.long x) = lv') (hdg : decode cc pc = .ok (.lstore_n k0, 1)) (k : rj_Go X9 y9 cc nL rt9 d9 P9 (pc + 1) lv' rest σ)  : rj_Go X9 y9 cc nL rt9 d9 P9 pc lv (.long x :: rest) σ := by
  obtain ⟨v0, τ0, hp0, g1, g2, g0⟩ := k
  exact ⟨v0, τ0, hp0, g1, g2, rj_lstore_nS hi hn hl hdg g0⟩
theorem go_lstoreS {i : Nat} {x : Int64} (hn : i + 1 < nL) (hl : rj_is (lv.filter (fun q => !(q.1 == i) && (!(q.1 == i + 1) && !(q.1 + 1 == i && q.2.category == 2)))) i (.long x) = lv') (hdg : decode cc pc = .ok (.lstore i, 2)) (k : rj_Go X9 y9 cc nL rt9 d9 P9 (pc + 2) lv' rest σ)  : rj_Go X9 y9 cc nL rt9 d9 P9 pc lv (.long x :: rest) σ := by
  obtain ⟨v0, τ0, hp0, g1, g2, g0⟩ := k
  exact ⟨v0, τ0, hp0, g1, g2, rj_lstoreS hn hl hdg g0⟩
theorem go_astore_nS {k0 : Fin 4} {i : Nat} {x : Nat} (hi : (k0 : Nat) = i) (hn : i < nL) (hl : rj_is (lv.filter (fun q => !(q.1 == i) && !(q.1 + 1 == i && q.2.category == 2))) i (.ref x) = lv') (hdg : decode cc pc = .ok (.astore_n k0, 1)) (k : rj_Go X9 y9 cc nL rt9 d9 P9 (pc + 1) lv' rest σ)  : rj_Go X9 y9 cc nL rt9 d9 P9 pc lv (.ref x :: rest) σ := by
  obtain ⟨v0, τ0, hp0, g1, g2, g0⟩ := k
  exact ⟨v0, τ0, hp0, g1, g2, rj_astore_nS hi hn hl hdg g0⟩
theorem go_astoreS {i : Nat} {x : Nat} (hn : i < nL) (hl : rj_is (lv.filter (fun q => !(q.1 == i) && !(q.1 + 1 == i && q.2.category == 2))) i (.ref x) = lv') (hdg : decode cc pc = .ok (.astore i, 2)) (k : rj_Go X9 y9 cc nL rt9 d9 P9 (pc + 2) lv' rest σ)  : rj_Go X9 y9 cc nL rt9 d9 P9 pc lv (.ref x :: rest) σ := by
  obtain ⟨v0, τ0, hp0, g1, g2, g0⟩ := k
  exact ⟨v0, τ0, hp0, g1, g2, rj_astoreS hn hl hdg g0⟩
theorem go_astore_nSN {k0 : Fin 4} {i : Nat} (hi : (k0 : Nat) = i) (hn : i < nL) (hl : rj_is (lv.filter (fun q => !(q.1 == i) && !(q.1 + 1 == i && q.2.category == 2))) i (.null) = lv') (hdg : decode cc pc = .ok (.astore_n k0, 1)) (k : rj_Go X9 y9 cc nL rt9 d9 P9 (pc + 1) lv' rest σ)  : rj_Go X9 y9 cc nL rt9 d9 P9 pc lv (.null :: rest) σ := by
  obtain ⟨v0, τ0, hp0, g1, g2, g0⟩ := k
  exact ⟨v0, τ0, hp0, g1, g2, rj_astore_nSN hi hn hl hdg g0⟩
theorem grm_g3 (hy : y9.cls = RX12) (hdg : decode cc pc = .ok (.getfield 284, 3)) (kk : rj_Go X9 y9 cc nL rt9 d9 P9 (pc + 3) lv (rj_i (r 3 0) :: rest) (rm_p X9 mb r σ))  : rj_Go X9 y9 cc nL rt9 d9 P9 pc lv (.ref mb :: rest) (rm_p X9 mb r σ) := by
  obtain ⟨v0, τ0, hp0, g1, g2, g0⟩ := kk
  exact ⟨v0, τ0, hp0, g1, g2, rm_g3 hy hdg g0⟩
theorem grm_w3 (hy : y9.cls = RX12) (hw : w = 0 ∨ w = 1) (hdg : decode cc pc = .ok (.putfield 284, 3)) (kk : rj_Go X9 y9 cc nL rt9 d9 P9 (pc + 3) lv rest (rm_p X9 mb (rm_u r 3 (fun _ => w)) σ))  : rj_Go X9 y9 cc nL rt9 d9 P9 pc lv (rj_i w :: .ref mb :: rest) (rm_p X9 mb r σ) := by
  obtain ⟨v0, τ0, hp0, g1, g2, g0⟩ := kk
  exact ⟨v0, τ0, hp0, g1, g2, rm_w3 hy hw hdg g0⟩
theorem grm_g4 (hy : y9.cls = RX12) (hdg : decode cc pc = .ok (.getfield 91, 3)) (kk : rj_Go X9 y9 cc nL rt9 d9 P9 (pc + 3) lv (rj_i (r 4 0) :: rest) (rm_p X9 mb r σ))  : rj_Go X9 y9 cc nL rt9 d9 P9 pc lv (.ref mb :: rest) (rm_p X9 mb r σ) := by
  obtain ⟨v0, τ0, hp0, g1, g2, g0⟩ := kk
  exact ⟨v0, τ0, hp0, g1, g2, rm_g4 hy hdg g0⟩
theorem grm_w4 (hy : y9.cls = RX12) (hdg : decode cc pc = .ok (.putfield 91, 3)) (kk : rj_Go X9 y9 cc nL rt9 d9 P9 (pc + 3) lv rest (rm_p X9 mb (rm_u r 4 (fun _ => w)) σ))  : rj_Go X9 y9 cc nL rt9 d9 P9 pc lv (rj_i w :: .ref mb :: rest) (rm_p X9 mb r σ) := by
  obtain ⟨v0, τ0, hp0, g1, g2, g0⟩ := kk
  exact ⟨v0, τ0, hp0, g1, g2, rm_w4 hy hdg g0⟩
theorem grm_g5 (hy : y9.cls = RX12) (hdg : decode cc pc = .ok (.getfield 64, 3)) (kk : rj_Go X9 y9 cc nL rt9 d9 P9 (pc + 3) lv (rj_i (r 5 0) :: rest) (rm_p X9 mb r σ))  : rj_Go X9 y9 cc nL rt9 d9 P9 pc lv (.ref mb :: rest) (rm_p X9 mb r σ) := by
  obtain ⟨v0, τ0, hp0, g1, g2, g0⟩ := kk
  exact ⟨v0, τ0, hp0, g1, g2, rm_g5 hy hdg g0⟩
theorem grm_w5 (hy : y9.cls = RX12) (hdg : decode cc pc = .ok (.putfield 64, 3)) (kk : rj_Go X9 y9 cc nL rt9 d9 P9 (pc + 3) lv rest (rm_p X9 mb (rm_u r 5 (fun _ => w)) σ))  : rj_Go X9 y9 cc nL rt9 d9 P9 pc lv (rj_i w :: .ref mb :: rest) (rm_p X9 mb r σ) := by
  obtain ⟨v0, τ0, hp0, g1, g2, g0⟩ := kk
  exact ⟨v0, τ0, hp0, g1, g2, rm_w5 hy hdg g0⟩
theorem grm_g6 (hy : y9.cls = RX12) (hdg : decode cc pc = .ok (.getfield 67, 3)) (kk : rj_Go X9 y9 cc nL rt9 d9 P9 (pc + 3) lv (rj_i (r 6 0) :: rest) (rm_p X9 mb r σ))  : rj_Go X9 y9 cc nL rt9 d9 P9 pc lv (.ref mb :: rest) (rm_p X9 mb r σ) := by
  obtain ⟨v0, τ0, hp0, g1, g2, g0⟩ := kk
  exact ⟨v0, τ0, hp0, g1, g2, rm_g6 hy hdg g0⟩
theorem grm_w6 (hy : y9.cls = RX12) (hdg : decode cc pc = .ok (.putfield 67, 3)) (kk : rj_Go X9 y9 cc nL rt9 d9 P9 (pc + 3) lv rest (rm_p X9 mb (rm_u r 6 (fun _ => w)) σ))  : rj_Go X9 y9 cc nL rt9 d9 P9 pc lv (rj_i w :: .ref mb :: rest) (rm_p X9 mb r σ) := by
  obtain ⟨v0, τ0, hp0, g1, g2, g0⟩ := kk
  exact ⟨v0, τ0, hp0, g1, g2, rm_w6 hy hdg g0⟩
theorem grm_g7 (hy : y9.cls = RX12) (hdg : decode cc pc = .ok (.getfield 70, 3)) (kk : rj_Go X9 y9 cc nL rt9 d9 P9 (pc + 3) lv (rj_i (r 7 0) :: rest) (rm_p X9 mb r σ))  : rj_Go X9 y9 cc nL rt9 d9 P9 pc lv (.ref mb :: rest) (rm_p X9 mb r σ) := by
  obtain ⟨v0, τ0, hp0, g1, g2, g0⟩ := kk
  exact ⟨v0, τ0, hp0, g1, g2, rm_g7 hy hdg g0⟩
theorem grm_w7 (hy : y9.cls = RX12) (hw : w = 0 ∨ w = 1) (hdg : decode cc pc = .ok (.putfield 70, 3)) (kk : rj_Go X9 y9 cc nL rt9 d9 P9 (pc + 3) lv rest (rm_p X9 mb (rm_u r 7 (fun _ => w)) σ))  : rj_Go X9 y9 cc nL rt9 d9 P9 pc lv (rj_i w :: .ref mb :: rest) (rm_p X9 mb r σ) := by
  obtain ⟨v0, τ0, hp0, g1, g2, g0⟩ := kk
  exact ⟨v0, τ0, hp0, g1, g2, rm_w7 hy hw hdg g0⟩
theorem grm_g8 (hy : y9.cls = RX12) (hdg : decode cc pc = .ok (.getfield 94, 3)) (kk : rj_Go X9 y9 cc nL rt9 d9 P9 (pc + 3) lv (rj_i (r 8 0) :: rest) (rm_p X9 mb r σ))  : rj_Go X9 y9 cc nL rt9 d9 P9 pc lv (.ref mb :: rest) (rm_p X9 mb r σ) := by
  obtain ⟨v0, τ0, hp0, g1, g2, g0⟩ := kk
  exact ⟨v0, τ0, hp0, g1, g2, rm_g8 hy hdg g0⟩
theorem grm_w8 (hy : y9.cls = RX12) (hdg : decode cc pc = .ok (.putfield 94, 3)) (kk : rj_Go X9 y9 cc nL rt9 d9 P9 (pc + 3) lv rest (rm_p X9 mb (rm_u r 8 (fun _ => w)) σ))  : rj_Go X9 y9 cc nL rt9 d9 P9 pc lv (rj_i w :: .ref mb :: rest) (rm_p X9 mb r σ) := by
  obtain ⟨v0, τ0, hp0, g1, g2, g0⟩ := kk
  exact ⟨v0, τ0, hp0, g1, g2, rm_w8 hy hdg g0⟩
theorem grm_g11 (hy : y9.cls = RX12) (hdg : decode cc pc = .ok (.getfield 145, 3)) (kk : rj_Go X9 y9 cc nL rt9 d9 P9 (pc + 3) lv (rj_i (r 11 0) :: rest) (rm_p X9 mb r σ))  : rj_Go X9 y9 cc nL rt9 d9 P9 pc lv (.ref mb :: rest) (rm_p X9 mb r σ) := by
  obtain ⟨v0, τ0, hp0, g1, g2, g0⟩ := kk
  exact ⟨v0, τ0, hp0, g1, g2, rm_g11 hy hdg g0⟩
theorem grm_w11 (hy : y9.cls = RX12) (hdg : decode cc pc = .ok (.putfield 145, 3)) (kk : rj_Go X9 y9 cc nL rt9 d9 P9 (pc + 3) lv rest (rm_p X9 mb (rm_u r 11 (fun _ => w)) σ))  : rj_Go X9 y9 cc nL rt9 d9 P9 pc lv (rj_i w :: .ref mb :: rest) (rm_p X9 mb r σ) := by
  obtain ⟨v0, τ0, hp0, g1, g2, g0⟩ := kk
  exact ⟨v0, τ0, hp0, g1, g2, rm_w11 hy hdg g0⟩
theorem grm_g18 (hy : y9.cls = RX12) (hdg : decode cc pc = .ok (.getfield 245, 3)) (kk : rj_Go X9 y9 cc nL rt9 d9 P9 (pc + 3) lv (rj_i (r 18 0) :: rest) (rm_p X9 mb r σ))  : rj_Go X9 y9 cc nL rt9 d9 P9 pc lv (.ref mb :: rest) (rm_p X9 mb r σ) := by
  obtain ⟨v0, τ0, hp0, g1, g2, g0⟩ := kk
  exact ⟨v0, τ0, hp0, g1, g2, rm_g18 hy hdg g0⟩
theorem grm_w18 (hy : y9.cls = RX12) (hdg : decode cc pc = .ok (.putfield 245, 3)) (kk : rj_Go X9 y9 cc nL rt9 d9 P9 (pc + 3) lv rest (rm_p X9 mb (rm_u r 18 (fun _ => w)) σ))  : rj_Go X9 y9 cc nL rt9 d9 P9 pc lv (rj_i w :: .ref mb :: rest) (rm_p X9 mb r σ) := by
  obtain ⟨v0, τ0, hp0, g1, g2, g0⟩ := kk
  exact ⟨v0, τ0, hp0, g1, g2, rm_w18 hy hdg g0⟩
theorem grm_g19 (hy : y9.cls = RX12) (hdg : decode cc pc = .ok (.getfield 254, 3)) (kk : rj_Go X9 y9 cc nL rt9 d9 P9 (pc + 3) lv (rj_i (r 19 0) :: rest) (rm_p X9 mb r σ))  : rj_Go X9 y9 cc nL rt9 d9 P9 pc lv (.ref mb :: rest) (rm_p X9 mb r σ) := by
  obtain ⟨v0, τ0, hp0, g1, g2, g0⟩ := kk
  exact ⟨v0, τ0, hp0, g1, g2, rm_g19 hy hdg g0⟩
theorem grm_w19 (hy : y9.cls = RX12) (hdg : decode cc pc = .ok (.putfield 254, 3)) (kk : rj_Go X9 y9 cc nL rt9 d9 P9 (pc + 3) lv rest (rm_p X9 mb (rm_u r 19 (fun _ => w)) σ))  : rj_Go X9 y9 cc nL rt9 d9 P9 pc lv (rj_i w :: .ref mb :: rest) (rm_p X9 mb r σ) := by
  obtain ⟨v0, τ0, hp0, g1, g2, g0⟩ := kk
  exact ⟨v0, τ0, hp0, g1, g2, rm_w19 hy hdg g0⟩
theorem grm_g20 (hy : y9.cls = RX12) (hdg : decode cc pc = .ok (.getfield 251, 3)) (kk : rj_Go X9 y9 cc nL rt9 d9 P9 (pc + 3) lv (rj_i (r 20 0) :: rest) (rm_p X9 mb r σ))  : rj_Go X9 y9 cc nL rt9 d9 P9 pc lv (.ref mb :: rest) (rm_p X9 mb r σ) := by
  obtain ⟨v0, τ0, hp0, g1, g2, g0⟩ := kk
  exact ⟨v0, τ0, hp0, g1, g2, rm_g20 hy hdg g0⟩
theorem grm_w20 (hy : y9.cls = RX12) (hdg : decode cc pc = .ok (.putfield 251, 3)) (kk : rj_Go X9 y9 cc nL rt9 d9 P9 (pc + 3) lv rest (rm_p X9 mb (rm_u r 20 (fun _ => w)) σ))  : rj_Go X9 y9 cc nL rt9 d9 P9 pc lv (rj_i w :: .ref mb :: rest) (rm_p X9 mb r σ) := by
  obtain ⟨v0, τ0, hp0, g1, g2, g0⟩ := kk
  exact ⟨v0, τ0, hp0, g1, g2, rm_w20 hy hdg g0⟩
theorem grm_g21 (hy : y9.cls = RX12) (hdg : decode cc pc = .ok (.getfield 266, 3)) (kk : rj_Go X9 y9 cc nL rt9 d9 P9 (pc + 3) lv (rj_i (r 21 0) :: rest) (rm_p X9 mb r σ))  : rj_Go X9 y9 cc nL rt9 d9 P9 pc lv (.ref mb :: rest) (rm_p X9 mb r σ) := by
  obtain ⟨v0, τ0, hp0, g1, g2, g0⟩ := kk
  exact ⟨v0, τ0, hp0, g1, g2, rm_g21 hy hdg g0⟩
theorem grm_w21 (hy : y9.cls = RX12) (hdg : decode cc pc = .ok (.putfield 266, 3)) (kk : rj_Go X9 y9 cc nL rt9 d9 P9 (pc + 3) lv rest (rm_p X9 mb (rm_u r 21 (fun _ => w)) σ))  : rj_Go X9 y9 cc nL rt9 d9 P9 pc lv (rj_i w :: .ref mb :: rest) (rm_p X9 mb r σ) := by
  obtain ⟨v0, τ0, hp0, g1, g2, g0⟩ := kk
  exact ⟨v0, τ0, hp0, g1, g2, rm_w21 hy hdg g0⟩
theorem grm_g1 (hy : y9.cls = RX12) (hdg : decode cc pc = .ok (.getfield 9, 3)) (kk : rj_Go X9 y9 cc nL rt9 d9 P9 (pc + 3) lv (.ref (mb + 1) :: rest) (rm_p X9 mb r σ))  : rj_Go X9 y9 cc nL rt9 d9 P9 pc lv (.ref mb :: rest) (rm_p X9 mb r σ) := by
  obtain ⟨v0, τ0, hp0, g1, g2, g0⟩ := kk
  exact ⟨v0, τ0, hp0, g1, g2, rm_g1 hy hdg g0⟩
theorem grm_l1 (h0 : 0 ≤ z) (h1 : z < 1029) (hdg : decode cc pc = .ok (.iaload, 1)) (kk : rj_Go X9 y9 cc nL rt9 d9 P9 (pc + 1) lv (rj_i (r 1 z) :: rest) (rm_p X9 mb r σ))  : rj_Go X9 y9 cc nL rt9 d9 P9 pc lv (rj_i z :: .ref (mb + 1) :: rest) (rm_p X9 mb r σ) := by
  obtain ⟨v0, τ0, hp0, g1, g2, g0⟩ := kk
  exact ⟨v0, τ0, hp0, g1, g2, rm_l1 h0 h1 hdg g0⟩
theorem grm_s1 (h0 : 0 ≤ z) (h1 : z < 1029) (hdg : decode cc pc = .ok (.iastore, 1)) (kk : rj_Go X9 y9 cc nL rt9 d9 P9 (pc + 1) lv rest (rm_p X9 mb (rm_u r 1 (rj_up (r 1) z w)) σ))  : rj_Go X9 y9 cc nL rt9 d9 P9 pc lv (rj_i w :: rj_i z :: .ref (mb + 1) :: rest) (rm_p X9 mb r σ) := by
  obtain ⟨v0, τ0, hp0, g1, g2, g0⟩ := kk
  exact ⟨v0, τ0, hp0, g1, g2, rm_s1 h0 h1 hdg g0⟩
theorem grm_g2 (hy : y9.cls = RX12) (hdg : decode cc pc = .ok (.getfield 15, 3)) (kk : rj_Go X9 y9 cc nL rt9 d9 P9 (pc + 3) lv (.ref (mb + 2) :: rest) (rm_p X9 mb r σ))  : rj_Go X9 y9 cc nL rt9 d9 P9 pc lv (.ref mb :: rest) (rm_p X9 mb r σ) := by
  obtain ⟨v0, τ0, hp0, g1, g2, g0⟩ := kk
  exact ⟨v0, τ0, hp0, g1, g2, rm_g2 hy hdg g0⟩
theorem grm_l2 (h0 : 0 ≤ z) (h1 : z < 1029) (hdg : decode cc pc = .ok (.iaload, 1)) (kk : rj_Go X9 y9 cc nL rt9 d9 P9 (pc + 1) lv (rj_i (r 2 z) :: rest) (rm_p X9 mb r σ))  : rj_Go X9 y9 cc nL rt9 d9 P9 pc lv (rj_i z :: .ref (mb + 2) :: rest) (rm_p X9 mb r σ) := by
  obtain ⟨v0, τ0, hp0, g1, g2, g0⟩ := kk
  exact ⟨v0, τ0, hp0, g1, g2, rm_l2 h0 h1 hdg g0⟩
theorem grm_s2 (h0 : 0 ≤ z) (h1 : z < 1029) (hdg : decode cc pc = .ok (.iastore, 1)) (kk : rj_Go X9 y9 cc nL rt9 d9 P9 (pc + 1) lv rest (rm_p X9 mb (rm_u r 2 (rj_up (r 2) z w)) σ))  : rj_Go X9 y9 cc nL rt9 d9 P9 pc lv (rj_i w :: rj_i z :: .ref (mb + 2) :: rest) (rm_p X9 mb r σ) := by
  obtain ⟨v0, τ0, hp0, g1, g2, g0⟩ := kk
  exact ⟨v0, τ0, hp0, g1, g2, rm_s2 h0 h1 hdg g0⟩
theorem grm_g9 (hy : y9.cls = RX12) (hdg : decode cc pc = .ok (.getfield 18, 3)) (kk : rj_Go X9 y9 cc nL rt9 d9 P9 (pc + 3) lv (.ref (mb + 3) :: rest) (rm_p X9 mb r σ))  : rj_Go X9 y9 cc nL rt9 d9 P9 pc lv (.ref mb :: rest) (rm_p X9 mb r σ) := by
  obtain ⟨v0, τ0, hp0, g1, g2, g0⟩ := kk
  exact ⟨v0, τ0, hp0, g1, g2, rm_g9 hy hdg g0⟩
theorem grm_l9 (h0 : 0 ≤ z) (h1 : z < 5) (hdg : decode cc pc = .ok (.iaload, 1)) (kk : rj_Go X9 y9 cc nL rt9 d9 P9 (pc + 1) lv (rj_i (r 9 z) :: rest) (rm_p X9 mb r σ))  : rj_Go X9 y9 cc nL rt9 d9 P9 pc lv (rj_i z :: .ref (mb + 3) :: rest) (rm_p X9 mb r σ) := by
  obtain ⟨v0, τ0, hp0, g1, g2, g0⟩ := kk
  exact ⟨v0, τ0, hp0, g1, g2, rm_l9 h0 h1 hdg g0⟩
theorem grm_s9 (h0 : 0 ≤ z) (h1 : z < 5) (hdg : decode cc pc = .ok (.iastore, 1)) (kk : rj_Go X9 y9 cc nL rt9 d9 P9 (pc + 1) lv rest (rm_p X9 mb (rm_u r 9 (rj_up (r 9) z w)) σ))  : rj_Go X9 y9 cc nL rt9 d9 P9 pc lv (rj_i w :: rj_i z :: .ref (mb + 3) :: rest) (rm_p X9 mb r σ) := by
  obtain ⟨v0, τ0, hp0, g1, g2, g0⟩ := kk
  exact ⟨v0, τ0, hp0, g1, g2, rm_s9 h0 h1 hdg g0⟩
theorem grm_g10 (hy : y9.cls = RX12) (hdg : decode cc pc = .ok (.getfield 21, 3)) (kk : rj_Go X9 y9 cc nL rt9 d9 P9 (pc + 3) lv (.ref (mb + 4) :: rest) (rm_p X9 mb r σ))  : rj_Go X9 y9 cc nL rt9 d9 P9 pc lv (.ref mb :: rest) (rm_p X9 mb r σ) := by
  obtain ⟨v0, τ0, hp0, g1, g2, g0⟩ := kk
  exact ⟨v0, τ0, hp0, g1, g2, rm_g10 hy hdg g0⟩
theorem grm_l10 (h0 : 0 ≤ z) (h1 : z < 64) (hdg : decode cc pc = .ok (.baload, 1)) (kk : rj_Go X9 y9 cc nL rt9 d9 P9 (pc + 1) lv (rj_i (r 10 z) :: rest) (rm_p X9 mb r σ))  : rj_Go X9 y9 cc nL rt9 d9 P9 pc lv (rj_i z :: .ref (mb + 4) :: rest) (rm_p X9 mb r σ) := by
  obtain ⟨v0, τ0, hp0, g1, g2, g0⟩ := kk
  exact ⟨v0, τ0, hp0, g1, g2, rm_l10 h0 h1 hdg g0⟩
theorem grm_s10 (h0 : 0 ≤ z) (h1 : z < 64) (hw : w = 0 ∨ w = 1) (hdg : decode cc pc = .ok (.bastore, 1)) (kk : rj_Go X9 y9 cc nL rt9 d9 P9 (pc + 1) lv rest (rm_p X9 mb (rm_u r 10 (rj_up (r 10) z w)) σ))  : rj_Go X9 y9 cc nL rt9 d9 P9 pc lv (rj_i w :: rj_i z :: .ref (mb + 4) :: rest) (rm_p X9 mb r σ) := by
  obtain ⟨v0, τ0, hp0, g1, g2, g0⟩ := kk
  exact ⟨v0, τ0, hp0, g1, g2, rm_s10 h0 h1 hw hdg g0⟩
theorem grm_g12 (hy : y9.cls = RX12) (hdg : decode cc pc = .ok (.getfield 25, 3)) (kk : rj_Go X9 y9 cc nL rt9 d9 P9 (pc + 3) lv (.ref (mb + 5) :: rest) (rm_p X9 mb r σ))  : rj_Go X9 y9 cc nL rt9 d9 P9 pc lv (.ref mb :: rest) (rm_p X9 mb r σ) := by
  obtain ⟨v0, τ0, hp0, g1, g2, g0⟩ := kk
  exact ⟨v0, τ0, hp0, g1, g2, rm_g12 hy hdg g0⟩
theorem grm_l12 (h0 : 0 ≤ z) (h1 : z < 63) (hdg : decode cc pc = .ok (.iaload, 1)) (kk : rj_Go X9 y9 cc nL rt9 d9 P9 (pc + 1) lv (rj_i (r 12 z) :: rest) (rm_p X9 mb r σ))  : rj_Go X9 y9 cc nL rt9 d9 P9 pc lv (rj_i z :: .ref (mb + 5) :: rest) (rm_p X9 mb r σ) := by
  obtain ⟨v0, τ0, hp0, g1, g2, g0⟩ := kk
  exact ⟨v0, τ0, hp0, g1, g2, rm_l12 h0 h1 hdg g0⟩
theorem grm_s12 (h0 : 0 ≤ z) (h1 : z < 63) (hdg : decode cc pc = .ok (.iastore, 1)) (kk : rj_Go X9 y9 cc nL rt9 d9 P9 (pc + 1) lv rest (rm_p X9 mb (rm_u r 12 (rj_up (r 12) z w)) σ))  : rj_Go X9 y9 cc nL rt9 d9 P9 pc lv (rj_i w :: rj_i z :: .ref (mb + 5) :: rest) (rm_p X9 mb r σ) := by
  obtain ⟨v0, τ0, hp0, g1, g2, g0⟩ := kk
  exact ⟨v0, τ0, hp0, g1, g2, rm_s12 h0 h1 hdg g0⟩
theorem grm_g13 (hy : y9.cls = RX12) (hdg : decode cc pc = .ok (.getfield 28, 3)) (kk : rj_Go X9 y9 cc nL rt9 d9 P9 (pc + 3) lv (.ref (mb + 6) :: rest) (rm_p X9 mb r σ))  : rj_Go X9 y9 cc nL rt9 d9 P9 pc lv (.ref mb :: rest) (rm_p X9 mb r σ) := by
  obtain ⟨v0, τ0, hp0, g1, g2, g0⟩ := kk
  exact ⟨v0, τ0, hp0, g1, g2, rm_g13 hy hdg g0⟩
theorem grm_l13 (h0 : 0 ≤ z) (h1 : z < 8) (hdg : decode cc pc = .ok (.iaload, 1)) (kk : rj_Go X9 y9 cc nL rt9 d9 P9 (pc + 1) lv (rj_i (r 13 z) :: rest) (rm_p X9 mb r σ))  : rj_Go X9 y9 cc nL rt9 d9 P9 pc lv (rj_i z :: .ref (mb + 6) :: rest) (rm_p X9 mb r σ) := by
  obtain ⟨v0, τ0, hp0, g1, g2, g0⟩ := kk
  exact ⟨v0, τ0, hp0, g1, g2, rm_l13 h0 h1 hdg g0⟩
theorem grm_s13 (h0 : 0 ≤ z) (h1 : z < 8) (hdg : decode cc pc = .ok (.iastore, 1)) (kk : rj_Go X9 y9 cc nL rt9 d9 P9 (pc + 1) lv rest (rm_p X9 mb (rm_u r 13 (rj_up (r 13) z w)) σ))  : rj_Go X9 y9 cc nL rt9 d9 P9 pc lv (rj_i w :: rj_i z :: .ref (mb + 6) :: rest) (rm_p X9 mb r σ) := by
  obtain ⟨v0, τ0, hp0, g1, g2, g0⟩ := kk
  exact ⟨v0, τ0, hp0, g1, g2, rm_s13 h0 h1 hdg g0⟩
theorem grm_g14 (hy : y9.cls = RX12) (hdg : decode cc pc = .ok (.getfield 31, 3)) (kk : rj_Go X9 y9 cc nL rt9 d9 P9 (pc + 3) lv (.ref (mb + 7) :: rest) (rm_p X9 mb r σ))  : rj_Go X9 y9 cc nL rt9 d9 P9 pc lv (.ref mb :: rest) (rm_p X9 mb r σ) := by
  obtain ⟨v0, τ0, hp0, g1, g2, g0⟩ := kk
  exact ⟨v0, τ0, hp0, g1, g2, rm_g14 hy hdg g0⟩
theorem grm_l14 (h0 : 0 ≤ z) (h1 : z < 48) (hdg : decode cc pc = .ok (.baload, 1)) (kk : rj_Go X9 y9 cc nL rt9 d9 P9 (pc + 1) lv (rj_i (r 14 z) :: rest) (rm_p X9 mb r σ))  : rj_Go X9 y9 cc nL rt9 d9 P9 pc lv (rj_i z :: .ref (mb + 7) :: rest) (rm_p X9 mb r σ) := by
  obtain ⟨v0, τ0, hp0, g1, g2, g0⟩ := kk
  exact ⟨v0, τ0, hp0, g1, g2, rm_l14 h0 h1 hdg g0⟩
theorem grm_s14 (h0 : 0 ≤ z) (h1 : z < 48) (hw : w = 0 ∨ w = 1) (hdg : decode cc pc = .ok (.bastore, 1)) (kk : rj_Go X9 y9 cc nL rt9 d9 P9 (pc + 1) lv rest (rm_p X9 mb (rm_u r 14 (rj_up (r 14) z w)) σ))  : rj_Go X9 y9 cc nL rt9 d9 P9 pc lv (rj_i w :: rj_i z :: .ref (mb + 7) :: rest) (rm_p X9 mb r σ) := by
  obtain ⟨v0, τ0, hp0, g1, g2, g0⟩ := kk
  exact ⟨v0, τ0, hp0, g1, g2, rm_s14 h0 h1 hw hdg g0⟩
theorem grm_g15 (hy : y9.cls = RX12) (hdg : decode cc pc = .ok (.getfield 34, 3)) (kk : rj_Go X9 y9 cc nL rt9 d9 P9 (pc + 3) lv (.ref (mb + 8) :: rest) (rm_p X9 mb r σ))  : rj_Go X9 y9 cc nL rt9 d9 P9 pc lv (.ref mb :: rest) (rm_p X9 mb r σ) := by
  obtain ⟨v0, τ0, hp0, g1, g2, g0⟩ := kk
  exact ⟨v0, τ0, hp0, g1, g2, rm_g15 hy hdg g0⟩
theorem grm_l15 (h0 : 0 ≤ z) (h1 : z < 8) (hdg : decode cc pc = .ok (.iaload, 1)) (kk : rj_Go X9 y9 cc nL rt9 d9 P9 (pc + 1) lv (rj_i (r 15 z) :: rest) (rm_p X9 mb r σ))  : rj_Go X9 y9 cc nL rt9 d9 P9 pc lv (rj_i z :: .ref (mb + 8) :: rest) (rm_p X9 mb r σ) := by
  obtain ⟨v0, τ0, hp0, g1, g2, g0⟩ := kk
  exact ⟨v0, τ0, hp0, g1, g2, rm_l15 h0 h1 hdg g0⟩
theorem grm_s15 (h0 : 0 ≤ z) (h1 : z < 8) (hdg : decode cc pc = .ok (.iastore, 1)) (kk : rj_Go X9 y9 cc nL rt9 d9 P9 (pc + 1) lv rest (rm_p X9 mb (rm_u r 15 (rj_up (r 15) z w)) σ))  : rj_Go X9 y9 cc nL rt9 d9 P9 pc lv (rj_i w :: rj_i z :: .ref (mb + 8) :: rest) (rm_p X9 mb r σ) := by
  obtain ⟨v0, τ0, hp0, g1, g2, g0⟩ := kk
  exact ⟨v0, τ0, hp0, g1, g2, rm_s15 h0 h1 hdg g0⟩
theorem grm_g16 (hy : y9.cls = RX12) (hdg : decode cc pc = .ok (.getfield 37, 3)) (kk : rj_Go X9 y9 cc nL rt9 d9 P9 (pc + 3) lv (.ref (mb + 9) :: rest) (rm_p X9 mb r σ))  : rj_Go X9 y9 cc nL rt9 d9 P9 pc lv (.ref mb :: rest) (rm_p X9 mb r σ) := by
  obtain ⟨v0, τ0, hp0, g1, g2, g0⟩ := kk
  exact ⟨v0, τ0, hp0, g1, g2, rm_g16 hy hdg g0⟩
theorem grm_l16 (h0 : 0 ≤ z) (h1 : z < 6) (hdg : decode cc pc = .ok (.iaload, 1)) (kk : rj_Go X9 y9 cc nL rt9 d9 P9 (pc + 1) lv (rj_i (r 16 z) :: rest) (rm_p X9 mb r σ))  : rj_Go X9 y9 cc nL rt9 d9 P9 pc lv (rj_i z :: .ref (mb + 9) :: rest) (rm_p X9 mb r σ) := by
  obtain ⟨v0, τ0, hp0, g1, g2, g0⟩ := kk
  exact ⟨v0, τ0, hp0, g1, g2, rm_l16 h0 h1 hdg g0⟩
theorem grm_s16 (h0 : 0 ≤ z) (h1 : z < 6) (hdg : decode cc pc = .ok (.iastore, 1)) (kk : rj_Go X9 y9 cc nL rt9 d9 P9 (pc + 1) lv rest (rm_p X9 mb (rm_u r 16 (rj_up (r 16) z w)) σ))  : rj_Go X9 y9 cc nL rt9 d9 P9 pc lv (rj_i w :: rj_i z :: .ref (mb + 9) :: rest) (rm_p X9 mb r σ) := by
  obtain ⟨v0, τ0, hp0, g1, g2, g0⟩ := kk
  exact ⟨v0, τ0, hp0, g1, g2, rm_s16 h0 h1 hdg g0⟩
theorem grm_g17 (hy : y9.cls = RX12) (hdg : decode cc pc = .ok (.getfield 40, 3)) (kk : rj_Go X9 y9 cc nL rt9 d9 P9 (pc + 3) lv (.ref (mb + 10) :: rest) (rm_p X9 mb r σ))  : rj_Go X9 y9 cc nL rt9 d9 P9 pc lv (.ref mb :: rest) (rm_p X9 mb r σ) := by
  obtain ⟨v0, τ0, hp0, g1, g2, g0⟩ := kk
  exact ⟨v0, τ0, hp0, g1, g2, rm_g17 hy hdg g0⟩
theorem grm_l17 (h0 : 0 ≤ z) (h1 : z < 20) (hdg : decode cc pc = .ok (.iaload, 1)) (kk : rj_Go X9 y9 cc nL rt9 d9 P9 (pc + 1) lv (rj_i (r 17 z) :: rest) (rm_p X9 mb r σ))  : rj_Go X9 y9 cc nL rt9 d9 P9 pc lv (rj_i z :: .ref (mb + 10) :: rest) (rm_p X9 mb r σ) := by
  obtain ⟨v0, τ0, hp0, g1, g2, g0⟩ := kk
  exact ⟨v0, τ0, hp0, g1, g2, rm_l17 h0 h1 hdg g0⟩
theorem grm_s17 (h0 : 0 ≤ z) (h1 : z < 20) (hdg : decode cc pc = .ok (.iastore, 1)) (kk : rj_Go X9 y9 cc nL rt9 d9 P9 (pc + 1) lv rest (rm_p X9 mb (rm_u r 17 (rj_up (r 17) z w)) σ))  : rj_Go X9 y9 cc nL rt9 d9 P9 pc lv (rj_i w :: rj_i z :: .ref (mb + 10) :: rest) (rm_p X9 mb r σ) := by
  obtain ⟨v0, τ0, hp0, g1, g2, g0⟩ := kk
  exact ⟨v0, τ0, hp0, g1, g2, rm_s17 h0 h1 hdg g0⟩
end GO
