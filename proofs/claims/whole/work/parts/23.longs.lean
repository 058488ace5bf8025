/-! rows over whole numbers in longs -/
theorem rj_Ladd (a b : Int) : Int64.ofInt a + Int64.ofInt b = Int64.ofInt (a + b) := (Int64.ofInt_add a b).symm
theorem rj_Lmul (a b : Int) : Int64.ofInt a * Int64.ofInt b = Int64.ofInt (a * b) := (Int64.ofInt_mul a b).symm
theorem rj_Lsub (a b : Int) : Int64.ofInt a - Int64.ofInt b = Int64.ofInt (a - b) := by
  rw [Int64.sub_eq_add_neg, ← Int64.ofInt_neg, rj_Ladd]; rfl
theorem rj_Lti {z : Int} (h0 : -9223372036854775808 ≤ z) (h1 : z < 9223372036854775808) : (Int64.ofInt z).toInt = z := Int64.toInt_ofInt_of_le (by omega) (by omega)
theorem rj_lN (n : Nat) : lN n = Int64.ofInt (n : Int) := by
  first
  | rfl
  | (unfold lN; exact (Int64.ofInt_eq_ofNat).symm)
  | (unfold lN; simp)
theorem rj_Ldiv {a b : Int} (ha : 0 ≤ a ∧ a < 9223372036854775808) (hb : 0 < b ∧ b < 9223372036854775808) : Int64.ofInt a / Int64.ofInt b = Int64.ofInt (a / b) := by
  obtain ⟨n, rfl⟩ := Int.eq_ofNat_of_zero_le ha.1
  obtain ⟨k, rfl⟩ := Int.eq_ofNat_of_zero_le (Int.le_of_lt hb.1)
  have h := pk_lDiv (a := n) (b := k) (by omega) (by omega) (by omega)
  rw [rj_lN, rj_lN, rj_lN] at h
  exact h
theorem rj_Lrem {a b : Int} (ha : 0 ≤ a ∧ a < 9223372036854775808) (hb : 0 < b ∧ b < 9223372036854775808) : Int64.ofInt a - Int64.ofInt a / Int64.ofInt b * Int64.ofInt b = Int64.ofInt (a % b) := by
  rw [rj_Ldiv ha hb, rj_Lmul, rj_Lsub]
  congr 1
  have := Int.emod_add_mul_ediv a b
  have h2 : a / b * b = b * (a / b) := Int.mul_comm _ _
  omega
theorem rj_Le {a b : Int} (ha : -9223372036854775808 ≤ a ∧ a < 9223372036854775808) (hb : -9223372036854775808 ≤ b ∧ b < 9223372036854775808) : Int64.ofInt a = Int64.ofInt b ↔ a = b := by
  constructor
  · intro h
    have h2 := rj_Lti ha.1 ha.2
    rw [h, rj_Lti hb.1 hb.2] at h2
    exact h2.symm
  · intro h; rw [h]
theorem rj_Llt {a b : Int} (ha : -9223372036854775808 ≤ a ∧ a < 9223372036854775808) (hb : -9223372036854775808 ≤ b ∧ b < 9223372036854775808) : Int64.ofInt a < Int64.ofInt b ↔ a < b := by
  rw [Int64.lt_iff_toInt_lt, rj_Lti ha.1 ha.2, rj_Lti hb.1 hb.2]
def sp_cmp (a b : Int) : Int := if b < a then 1 else if a = b then 0 else -1
theorem rj_Lcmp {a b : Int} (ha : -9223372036854775808 ≤ a ∧ a < 9223372036854775808) (hb : -9223372036854775808 ≤ b ∧ b < 9223372036854775808) : lg_cmp (Int64.ofInt a) (Int64.ofInt b) = Int32.ofInt (sp_cmp a b) := by
  unfold lg_cmp sp_cmp
  by_cases h : b < a
  · rw [if_pos ((rj_Llt hb ha).mpr h), if_pos h]; rfl
  · rw [if_neg (fun q => h ((rj_Llt hb ha).mp q)), if_neg h]
    by_cases h2 : a = b
    · rw [if_pos (by rw [h2]), if_pos h2]; rfl
    · rw [if_neg (fun q => h2 ((rj_Le ha hb).mp q)), if_neg h2]; rfl
theorem rj_Li2l {a : Int} (ha : -2147483648 ≤ a ∧ a < 2147483648) : (Int32.ofInt a).toInt64 = Int64.ofInt a := by
  rw [← Int64.toInt_inj, Int32.toInt_toInt64, rj_ti ha.1 ha.2, rj_Lti (by omega) (by omega)]
theorem rj_Ll2i (a : Int) : (Int64.ofInt a).toInt32 = Int32.ofInt a := by
  first
  | exact Int64.toInt32_ofInt a
  | simp
section LG
variable {X9 : rj_X} {y9 : MethodName} {cc : ByteArray} {nL : Nat} {rt9 : Option FieldType} {d9 : Nat} {P9 : Option Value → rj_H → Prop} {pc : Nat} {lv lv' : List (Nat × Value)} {rest : List Value} {σ : rj_H} {a b : Int}
theorem go_laddI (hdg : decode cc pc = .ok (.ladd, 1)) (k : rj_Go X9 y9 cc nL rt9 d9 P9 (pc + 1) lv (rj_l (a + b) :: rest) σ) : rj_Go X9 y9 cc nL rt9 d9 P9 pc lv (rj_l b :: rj_l a :: rest) σ := go_ladd hdg (by rw [rj_Ladd]; exact k)
theorem go_lmulI (hdg : decode cc pc = .ok (.lmul, 1)) (k : rj_Go X9 y9 cc nL rt9 d9 P9 (pc + 1) lv (rj_l (a * b) :: rest) σ) : rj_Go X9 y9 cc nL rt9 d9 P9 pc lv (rj_l b :: rj_l a :: rest) σ := go_lmul hdg (by rw [rj_Lmul]; exact k)
theorem go_ldivI (ha : 0 ≤ a ∧ a < 9223372036854775808) (hb : 0 < b ∧ b < 9223372036854775808) (hdg : decode cc pc = .ok (.ldiv, 1)) (k : rj_Go X9 y9 cc nL rt9 d9 P9 (pc + 1) lv (rj_l (a / b) :: rest) σ) : rj_Go X9 y9 cc nL rt9 d9 P9 pc lv (rj_l b :: rj_l a :: rest) σ := go_ldiv hdg (fun h => by have := (rj_Le (a := b) (b := 0) (by omega) (by omega)).mp h; omega) (by rw [rj_Ldiv ha hb]; exact k)
theorem go_lremI (ha : 0 ≤ a ∧ a < 9223372036854775808) (hb : 0 < b ∧ b < 9223372036854775808) (hdg : decode cc pc = .ok (.lrem, 1)) (k : rj_Go X9 y9 cc nL rt9 d9 P9 (pc + 1) lv (rj_l (a % b) :: rest) σ) : rj_Go X9 y9 cc nL rt9 d9 P9 pc lv (rj_l b :: rj_l a :: rest) σ := go_lrem hdg (fun h => by have := (rj_Le (a := b) (b := 0) (by omega) (by omega)).mp h; omega) (by rw [rj_Lrem ha hb]; exact k)
theorem go_lcmpI (ha : -9223372036854775808 ≤ a ∧ a < 9223372036854775808) (hb : -9223372036854775808 ≤ b ∧ b < 9223372036854775808) (hdg : decode cc pc = .ok (.lcmp, 1)) (k : rj_Go X9 y9 cc nL rt9 d9 P9 (pc + 1) lv (rj_i (sp_cmp a b) :: rest) σ) : rj_Go X9 y9 cc nL rt9 d9 P9 pc lv (rj_l b :: rj_l a :: rest) σ := go_lcmp hdg (by rw [rj_Lcmp ha hb]; exact k)
theorem go_i2lI (ha : -2147483648 ≤ a ∧ a < 2147483648) (hdg : decode cc pc = .ok (.i2l, 1)) (k : rj_Go X9 y9 cc nL rt9 d9 P9 (pc + 1) lv (rj_l a :: rest) σ) : rj_Go X9 y9 cc nL rt9 d9 P9 pc lv (rj_i a :: rest) σ := go_i2l hdg (rj_Li2l ha) k
theorem go_l2iI (hdg : decode cc pc = .ok (.l2i, 1)) (k : rj_Go X9 y9 cc nL rt9 d9 P9 (pc + 1) lv (rj_i a :: rest) σ) : rj_Go X9 y9 cc nL rt9 d9 P9 pc lv (rj_l a :: rest) σ := go_l2i hdg (rj_Ll2i a) k
theorem go_lconst0 (hdg : decode cc pc = .ok (.lconst 0, 1)) (k : rj_Go X9 y9 cc nL rt9 d9 P9 (pc + 1) lv (rj_l 0 :: rest) σ) : rj_Go X9 y9 cc nL rt9 d9 P9 pc lv rest σ := go_lconst hdg (by decide) k
theorem go_lconst1 (hdg : decode cc pc = .ok (.lconst 1, 1)) (k : rj_Go X9 y9 cc nL rt9 d9 P9 (pc + 1) lv (rj_l 1 :: rest) σ) : rj_Go X9 y9 cc nL rt9 d9 P9 pc lv rest σ := go_lconst hdg (by decide) k
theorem rj_vl {a b : Int} (h : a = b) : some (rj_l a) = some (rj_l b) := by rw [h]
theorem rj_lL {i : Nat} {a b : Int} {t t' : List (Nat × Value)} (e : a = b) (h : t = t') : (i, rj_l a) :: t = (i, rj_l b) :: t' := by rw [e, h]
end LG
