/-! MASKS: eight truths as bits -/
def sp_nb (P : Int → Bool) : Nat → Nat
  | 0 => 0
  | n + 1 => sp_nb P n + (if P (n : Int) then 2 ^ n else 0)
theorem sp_nb_i (P : Int → Bool) : ∀ n : Nat, sp_bits P n = ((sp_nb P n : Nat) : Int)
  | 0 => rfl
  | n + 1 => by
    rw [sp_bits, sp_nb, sp_nb_i P n, Int.natCast_add]
    split
    · rw [rj_n2]
    · rfl
theorem sp_nb_lt (P : Int → Bool) : ∀ n : Nat, sp_nb P n < 2 ^ n
  | 0 => by simp [sp_nb]
  | n + 1 => by
    have h := sp_nb_lt P n
    rw [sp_nb, Nat.pow_succ]
    split <;> omega
theorem sp_nb_t (P : Int → Bool) : ∀ n i : Nat, (sp_nb P n).testBit i = (decide (i < n) && P (i : Int))
  | 0, i => by simp [sp_nb]
  | n + 1, i => by
    have ih := sp_nb_t P n i
    have hl := sp_nb_lt P n
    rw [sp_nb]
    by_cases hP : P (n : Int) = true
    · rw [if_pos hP]
      have e : sp_nb P n + 2 ^ n = 2 ^ n * 1 ||| sp_nb P n := by rw [← Nat.two_pow_add_eq_or_of_lt hl 1]; omega
      rw [e, Nat.testBit_or, Nat.mul_one, ih]
      by_cases hi : i = n
      · subst hi; rw [Nat.testBit_two_pow_self]; simp [hP]
      · rw [Nat.testBit_two_pow_of_ne (fun q => hi q.symm), Bool.false_or]
        by_cases h2 : i < n
        · simp [h2, show i < n + 1 by omega]
        · simp [h2, show ¬ i < n + 1 by omega]
    · rw [if_neg hP, Nat.add_zero, ih]
      by_cases hi : i = n
      · subst hi; simp [hP]
      · by_cases h2 : i < n
        · simp [h2, show i < n + 1 by omega]
        · simp [h2, show ¬ i < n + 1 by omega]
theorem sp_nb_and (P Q : Int → Bool) (n : Nat) : sp_nb P n &&& sp_nb Q n = sp_nb (fun q => P q && Q q) n := by
  apply Nat.eq_of_testBit_eq
  intro i
  rw [Nat.testBit_and, sp_nb_t, sp_nb_t, sp_nb_t]
  cases decide (i < n) <;> simp
theorem sp_nb_or (P Q : Int → Bool) (n : Nat) : sp_nb P n ||| sp_nb Q n = sp_nb (fun q => P q || Q q) n := by
  apply Nat.eq_of_testBit_eq
  intro i
  rw [Nat.testBit_or, sp_nb_t, sp_nb_t, sp_nb_t]
  cases decide (i < n) <;> simp
theorem sp_nb_xor (P Q : Int → Bool) (n : Nat) : sp_nb P n ^^^ sp_nb Q n = sp_nb (fun q => P q ^^ Q q) n := by
  apply Nat.eq_of_testBit_eq
  intro i
  rw [Nat.testBit_xor, sp_nb_t, sp_nb_t, sp_nb_t]
  cases decide (i < n) <;> simp
theorem sp_nb_ext {P Q : Int → Bool} : ∀ {n : Nat}, (∀ q : Int, 0 ≤ q → q < n → P q = Q q) → sp_nb P n = sp_nb Q n
  | 0, _ => rfl
  | n + 1, h => by rw [sp_nb, sp_nb, sp_nb_ext (fun q a b => h q a (by omega)), h n (by omega) (by omega)]
theorem sp_bits_ext {P Q : Int → Bool} {n : Nat} (h : ∀ q : Int, 0 ≤ q → q < n → P q = Q q) : sp_bits P n = sp_bits Q n := by rw [sp_nb_i, sp_nb_i, sp_nb_ext h]
theorem sp_nb_255 : sp_nb (fun _ => true) 8 = 255 := by decide
theorem sp_bits_0 (P : Int → Bool) (n : Nat) : sp_bits P n = 0 ↔ ∀ q : Int, 0 ≤ q → q < n → P q = false := by
  constructor
  · intro h q q0 q1
    obtain ⟨i, rfl⟩ := Int.eq_ofNat_of_zero_le q0
    have ht := sp_nb_t P n i
    have hz : sp_nb P n = 0 := by have := sp_nb_i P n; omega
    rw [hz, Nat.zero_testBit] at ht
    have hi : i < n := by omega
    simpa [hi] using ht.symm
  · intro h
    rw [sp_bits_ext (Q := fun _ => false) h]
    clear h
    induction n with
    | zero => rfl
    | succ n ih => rw [sp_bits, ih]; rfl
theorem sp_bits_bt (P : Int → Bool) {n : Nat} {q : Int} (q0 : 0 ≤ q) (q1 : q < n) : sp_btx (sp_bits P n) q = rj_b (P q = true) := by
  obtain ⟨i, rfl⟩ := Int.eq_ofNat_of_zero_le q0
  have ht := sp_nb_t P n i
  have hi : i < n := by omega
  rw [Nat.testBit_eq_decide_div_mod_eq] at ht
  simp only [hi, decide_true, Bool.true_and] at ht
  unfold sp_btx
  rw [sp_nb_i]
  have e : ((sp_nb P n : Nat) : Int) / 2 ^ ((i : Int)).toNat % 2 = ((sp_nb P n / 2 ^ i % 2 : Nat) : Int) := by
    rw [Int.toNat_natCast, ← rj_n2, Int.natCast_emod, Int.natCast_ediv]; rfl
  rw [e]
  by_cases hP : P (i : Int) = true
  · rw [rj_bt hP]; rw [hP] at ht; have := of_decide_eq_true ht; omega
  · rw [rj_bf hP]
    have : ¬ sp_nb P n / 2 ^ i % 2 = 1 := fun q => by rw [q] at ht; exact hP (by simpa using ht.symm)
    omega
theorem nI_and (x y : Nat) : nI x &&& nI y = nI (x &&& y) := by
  apply Int32.toBitVec.inj
  show BitVec.ofNat 32 x &&& BitVec.ofNat 32 y = BitVec.ofNat 32 (x &&& y)
  exact BitVec.ofNat_and.symm
theorem nI_or (x y : Nat) : nI x ||| nI y = nI (x ||| y) := by
  apply Int32.toBitVec.inj
  show BitVec.ofNat 32 x ||| BitVec.ofNat 32 y = BitVec.ofNat 32 (x ||| y)
  exact BitVec.ofNat_or.symm
theorem nI_xor (x y : Nat) : nI x ^^^ nI y = nI (x ^^^ y) := by
  apply Int32.toBitVec.inj
  show BitVec.ofNat 32 x ^^^ BitVec.ofNat 32 y = BitVec.ofNat 32 (x ^^^ y)
  exact BitVec.ofNat_xor.symm
theorem rj_mand (P Q : Int → Bool) (n : Nat) : Int32.ofInt (sp_bits P n) &&& Int32.ofInt (sp_bits Q n) = Int32.ofInt (sp_bits (fun q => P q && Q q) n) := by
  rw [sp_nb_i, sp_nb_i, sp_nb_i, ← rj_nI, ← rj_nI, ← rj_nI, nI_and, sp_nb_and]
theorem rj_mor (P Q : Int → Bool) (n : Nat) : Int32.ofInt (sp_bits P n) ||| Int32.ofInt (sp_bits Q n) = Int32.ofInt (sp_bits (fun q => P q || Q q) n) := by
  rw [sp_nb_i, sp_nb_i, sp_nb_i, ← rj_nI, ← rj_nI, ← rj_nI, nI_or, sp_nb_or]
theorem rj_mxor (P Q : Int → Bool) (n : Nat) : Int32.ofInt (sp_bits P n) ^^^ Int32.ofInt (sp_bits Q n) = Int32.ofInt (sp_bits (fun q => P q ^^ Q q) n) := by
  rw [sp_nb_i, sp_nb_i, sp_nb_i, ← rj_nI, ← rj_nI, ← rj_nI, nI_xor, sp_nb_xor]
theorem sp_b255 : sp_bits (fun _ => true) 8 = 255 := by rw [sp_nb_i, sp_nb_255]; rfl
section BM
variable {X9 : rj_X} {y9 : MethodName} {cc : ByteArray} {nL : Nat} {rt9 : Option FieldType} {d9 : Nat} {P9 : Option Value → rj_H → Prop} {pc : Nat} {lv : List (Nat × Value)} {rest : List Value} {σ : rj_H}
theorem go_andM (P Q : Int → Bool) (n : Nat) (hdg : decode cc pc = .ok (.iand, 1)) (kk : rj_Go X9 y9 cc nL rt9 d9 P9 (pc + 1) lv (rj_i (sp_bits (fun q => P q && Q q) n) :: rest) σ) : rj_Go X9 y9 cc nL rt9 d9 P9 pc lv (rj_i (sp_bits Q n) :: rj_i (sp_bits P n) :: rest) σ := by
  refine go_iand hdg ?_
  rw [rj_mand]
  exact kk
theorem go_orM (P Q : Int → Bool) (n : Nat) (hdg : decode cc pc = .ok (.ior, 1)) (kk : rj_Go X9 y9 cc nL rt9 d9 P9 (pc + 1) lv (rj_i (sp_bits (fun q => P q || Q q) n) :: rest) σ) : rj_Go X9 y9 cc nL rt9 d9 P9 pc lv (rj_i (sp_bits Q n) :: rj_i (sp_bits P n) :: rest) σ := by
  refine go_ior hdg ?_
  rw [rj_mor]
  exact kk
theorem go_notM (P : Int → Bool) (hdg : decode cc pc = .ok (.ixor, 1)) (kk : rj_Go X9 y9 cc nL rt9 d9 P9 (pc + 1) lv (rj_i (sp_bits (fun q => !P q) 8) :: rest) σ) : rj_Go X9 y9 cc nL rt9 d9 P9 pc lv (rj_i 255 :: rj_i (sp_bits P 8) :: rest) σ := by
  refine go_ixor hdg ?_
  rw [← sp_b255, rj_mxor, sp_bits_ext (Q := fun q => !P q) (fun q _ _ => by cases P q <;> rfl)]
  exact kk
/-- P & ~Q, the second as ~ leaves it -/
theorem go_xorm {a : Int} (hdg : decode cc pc = .ok (.ixor, 1)) (kk : rj_Go X9 y9 cc nL rt9 d9 P9 (pc + 1) lv (.int (Int32.ofInt a ^^^ Int32.ofInt (-1)) :: rest) σ) : rj_Go X9 y9 cc nL rt9 d9 P9 pc lv (rj_i (-1) :: rj_i a :: rest) σ := go_ixor hdg kk
theorem rj_andn (x y : Int32) : x &&& (y ^^^ Int32.ofInt (-1)) = (x &&& y) ^^^ x := by
  have e : Int32.ofInt (-1) = (-1 : Int32) := rfl
  rw [e]
  apply Int32.toBitVec.inj
  show x.toBitVec &&& (y.toBitVec ^^^ (-1 : Int32).toBitVec) = (x.toBitVec &&& y.toBitVec) ^^^ x.toBitVec
  have e2 : (-1 : Int32).toBitVec = BitVec.allOnes 32 := by decide
  rw [e2]
  apply BitVec.eq_of_getLsbD_eq
  intro i hi
  simp only [BitVec.getLsbD_and, BitVec.getLsbD_xor, BitVec.getLsbD_allOnes, hi, decide_true]
  cases x.toBitVec.getLsbD i <;> cases y.toBitVec.getLsbD i <;> rfl
theorem go_andnM (P Q : Int → Bool) (n : Nat) (hdg : decode cc pc = .ok (.iand, 1)) (kk : rj_Go X9 y9 cc nL rt9 d9 P9 (pc + 1) lv (rj_i (sp_bits (fun q => P q && !Q q) n) :: rest) σ) : rj_Go X9 y9 cc nL rt9 d9 P9 pc lv (.int (Int32.ofInt (sp_bits Q n) ^^^ Int32.ofInt (-1)) :: rj_i (sp_bits P n) :: rest) σ := by
  refine go_iand hdg ?_
  rw [rj_andn]
  rw [rj_mand, rj_mxor, sp_bits_ext (Q := fun q => P q && !Q q) (fun q _ _ => by cases P q <;> cases Q q <;> rfl)]
  exact kk
/-- 255 & ~Q -/
theorem go_255nM (Q : Int → Bool) (hdg : decode cc pc = .ok (.iand, 1)) (kk : rj_Go X9 y9 cc nL rt9 d9 P9 (pc + 1) lv (rj_i (sp_bits (fun q => !Q q) 8) :: rest) σ) : rj_Go X9 y9 cc nL rt9 d9 P9 pc lv (.int (Int32.ofInt (sp_bits Q 8) ^^^ Int32.ofInt (-1)) :: rj_i 255 :: rest) σ := by
  rw [← sp_b255]
  exact go_andnM _ _ _ hdg (by simpa using kk)
end BM
