/-! rows over whole numbers; sorted locals -/
def rj_b (P : Prop) [Decidable P] : Int := if P then 1 else 0
theorem rj_bt {P : Prop} [Decidable P] (h : P) : rj_b P = 1 := if_pos h
theorem rj_bf {P : Prop} [Decidable P] (h : ¬ P) : rj_b P = 0 := if_neg h
theorem rj_b01 (P : Prop) [Decidable P] : rj_b P = 0 ∨ rj_b P = 1 := by unfold rj_b; split <;> simp
theorem rj_bc {P Q : Prop} [Decidable P] [Decidable Q] (h : P ↔ Q) : rj_b P = rj_b Q := by
  unfold rj_b
  by_cases hp : P
  · rw [if_pos hp, if_pos (h.mp hp)]
  · rw [if_neg hp, if_neg (fun q => hp (h.mpr q))]
theorem rj_nb (P : Prop) [Decidable P] : narrow .boolean (.int (Int32.ofInt (rj_b P))) = .int (Int32.ofInt (rj_b P)) := by
  unfold rj_b; split <;> rfl
theorem rj_n01 {z : Int} (h : z = 0 ∨ z = 1) : narrow .boolean (.int (Int32.ofInt z)) = .int (Int32.ofInt z) := by
  rcases h with rfl | rfl <;> rfl
theorem rj_oadd (a b : Int) : Int32.ofInt a + Int32.ofInt b = Int32.ofInt (a + b) := (Int32.ofInt_add a b).symm
theorem rj_oneg (a : Int) : -Int32.ofInt a = Int32.ofInt (-a) := (Int32.ofInt_neg a).symm
theorem rj_osub (a b : Int) : Int32.ofInt a - Int32.ofInt b = Int32.ofInt (a - b) := by
  rw [Int32.sub_eq_add_neg, rj_oneg, rj_oadd]; rfl
theorem rj_omul (a b : Int) : Int32.ofInt a * Int32.ofInt b = Int32.ofInt (a * b) := (Int32.ofInt_mul a b).symm
theorem rj_all (x : Int32) : ∃ z : Int, x = Int32.ofInt z ∧ -2147483648 ≤ z ∧ z < 2147483648 := ⟨x.toInt, (Int32.ofInt_toInt x).symm, by have := x.le_toInt; omega, by have := x.toInt_lt; omega⟩
theorem rj_nI (n : Nat) : nI n = Int32.ofInt (n : Int) := by
  first
  | rfl
  | (unfold nI; exact (Int32.ofInt_eq_ofNat).symm)
  | (unfold nI; simp)
theorem rj_odiv {a b : Int} (ha : 0 ≤ a ∧ a < 2147483648) (hb : 0 < b ∧ b < 2147483648) : Int32.ofInt a / Int32.ofInt b = Int32.ofInt (a / b) := by
  obtain ⟨n, rfl⟩ := Int.eq_ofNat_of_zero_le ha.1
  obtain ⟨k, rfl⟩ := Int.eq_ofNat_of_zero_le (Int.le_of_lt hb.1)
  have h := pk_div (a := n) (d := k) (by omega) (by omega) (by omega)
  rw [rj_nI, rj_nI, rj_nI] at h
  exact h
theorem rj_orem {a b : Int} (ha : 0 ≤ a ∧ a < 2147483648) (hb : 0 < b ∧ b < 2147483648) : Int32.ofInt a - Int32.ofInt a / Int32.ofInt b * Int32.ofInt b = Int32.ofInt (a % b) := by
  rw [rj_odiv ha hb, rj_omul, rj_osub]
  congr 1
  have := Int.emod_add_mul_ediv a b
  have h2 : a / b * b = b * (a / b) := Int.mul_comm _ _
  omega
theorem rj_e0 {a : Int} (ha : -2147483648 ≤ a ∧ a < 2147483648) : Int32.ofInt a = 0 ↔ a = 0 := by
  constructor
  · intro h
    have h2 := rj_ti ha.1 ha.2
    rw [h] at h2
    exact h2.symm
  · intro h; rw [h]; rfl
theorem rj_ee {a b : Int} (ha : -2147483648 ≤ a ∧ a < 2147483648) (hb : -2147483648 ≤ b ∧ b < 2147483648) : Int32.ofInt a = Int32.ofInt b ↔ a = b := by
  constructor
  · intro h
    have h2 := rj_ti ha.1 ha.2
    rw [h, rj_ti hb.1 hb.2] at h2
    exact h2.symm
  · intro h; rw [h]
theorem rj_lt {a b : Int} (ha : -2147483648 ≤ a ∧ a < 2147483648) (hb : -2147483648 ≤ b ∧ b < 2147483648) : Int32.ofInt a < Int32.ofInt b ↔ a < b := by
  rw [Int32.lt_iff_toInt_lt, rj_ti ha.1 ha.2, rj_ti hb.1 hb.2]
theorem rj_le {a b : Int} (ha : -2147483648 ≤ a ∧ a < 2147483648) (hb : -2147483648 ≤ b ∧ b < 2147483648) : Int32.ofInt a ≤ Int32.ofInt b ↔ a ≤ b := by
  rw [Int32.le_iff_toInt_le, rj_ti ha.1 ha.2, rj_ti hb.1 hb.2]
/-- locals in order: a slot's new value -/
def rj_is : List (Nat × Value) → Nat → Value → List (Nat × Value)
  | [], i, x => [(i, x)]
  | (j, v) :: t, i, x => if i < j then (i, x) :: (j, v) :: t else (j, v) :: rj_is t i x
theorem rj_is_mem {i : Nat} {x : Value} : ∀ (l : List (Nat × Value)) (q : Nat × Value), q ∈ rj_is l i x → q ∈ (i, x) :: l
  | [], q, h => h
  | (j, v) :: t, q, h => by
    unfold rj_is at h
    split at h
    · exact h
    · rcases List.mem_cons.mp h with h | h
      · rw [h]; exact List.mem_cons_of_mem _ List.mem_cons_self
      · rcases List.mem_cons.mp (rj_is_mem t q h) with h | h
        · rw [h]; exact List.mem_cons_self
        · exact List.mem_cons_of_mem _ (List.mem_cons_of_mem _ h)
section RJI
variable {X9 : rj_X} {y9 : MethodName} {cc : ByteArray} {nL : Nat} {rt9 : Option FieldType} {d9 : Nat} {v9 : Option Value} {τ9 : rj_H} {pc : Nat} {lv lv' : List (Nat × Value)} {rest : List Value} {σ : rj_H} {a b : Int}
theorem rj_addI (hdg : decode cc pc = .ok (.iadd, 1)) (k : rj_Run X9 y9 cc nL rt9 d9 v9 τ9 (pc + 1) lv (rj_i (a + b) :: rest) σ) : rj_Run X9 y9 cc nL rt9 d9 v9 τ9 pc lv (rj_i b :: rj_i a :: rest) σ := rj_iadd hdg (by rw [rj_oadd a b]; exact k)
theorem rj_subI (hdg : decode cc pc = .ok (.isub, 1)) (k : rj_Run X9 y9 cc nL rt9 d9 v9 τ9 (pc + 1) lv (rj_i (a - b) :: rest) σ) : rj_Run X9 y9 cc nL rt9 d9 v9 τ9 pc lv (rj_i b :: rj_i a :: rest) σ := rj_isub hdg (by rw [rj_osub a b]; exact k)
theorem rj_mulI (hdg : decode cc pc = .ok (.imul, 1)) (k : rj_Run X9 y9 cc nL rt9 d9 v9 τ9 (pc + 1) lv (rj_i (a * b) :: rest) σ) : rj_Run X9 y9 cc nL rt9 d9 v9 τ9 pc lv (rj_i b :: rj_i a :: rest) σ := rj_imul hdg (by rw [rj_omul a b]; exact k)
theorem rj_negI (hdg : decode cc pc = .ok (.ineg, 1)) (k : rj_Run X9 y9 cc nL rt9 d9 v9 τ9 (pc + 1) lv (rj_i (-a) :: rest) σ) : rj_Run X9 y9 cc nL rt9 d9 v9 τ9 pc lv (rj_i a :: rest) σ := rj_ineg hdg (by rw [rj_oneg a]; exact k)
theorem rj_divI (ha : 0 ≤ a ∧ a < 2147483648) (hb : 0 < b ∧ b < 2147483648) (hdg : decode cc pc = .ok (.idiv, 1)) (k : rj_Run X9 y9 cc nL rt9 d9 v9 τ9 (pc + 1) lv (rj_i (a / b) :: rest) σ) : rj_Run X9 y9 cc nL rt9 d9 v9 τ9 pc lv (rj_i b :: rj_i a :: rest) σ := rj_idiv hdg (fun h => by have := (rj_e0 (by omega)).mp h; omega) (by rw [rj_odiv ha hb]; exact k)
theorem rj_remI (ha : 0 ≤ a ∧ a < 2147483648) (hb : 0 < b ∧ b < 2147483648) (hdg : decode cc pc = .ok (.irem, 1)) (k : rj_Run X9 y9 cc nL rt9 d9 v9 τ9 (pc + 1) lv (rj_i (a % b) :: rest) σ) : rj_Run X9 y9 cc nL rt9 d9 v9 τ9 pc lv (rj_i b :: rj_i a :: rest) σ := rj_irem hdg (fun h => by have := (rj_e0 (by omega)).mp h; omega) (by rw [rj_orem ha hb]; exact k)
theorem rj_icmp_eqI {off : Int} {tgt : Nat} (ha : -2147483648 ≤ a ∧ a < 2147483648) (hb : -2147483648 ≤ b ∧ b < 2147483648) (hdg : decode cc pc = .ok (.if_icmp .eq off, 3)) (ht : (pc : Int) + off = (tgt : Int)) (kt : a = b → rj_Run X9 y9 cc nL rt9 d9 v9 τ9 tgt lv rest σ) (kf : ¬ a = b → rj_Run X9 y9 cc nL rt9 d9 v9 τ9 (pc + 3) lv rest σ) : rj_Run X9 y9 cc nL rt9 d9 v9 τ9 pc lv (rj_i b :: rj_i a :: rest) σ := rj_icmp_eq hdg ht (fun z => kt ((rj_ee ha hb).mp z)) (fun z => kf (fun q => z ((rj_ee ha hb).mpr q)))
theorem rj_if_eqI {off : Int} {tgt : Nat} (ha : -2147483648 ≤ a ∧ a < 2147483648) (hdg : decode cc pc = .ok (.ifCond .eq off, 3)) (ht : (pc : Int) + off = (tgt : Int)) (kt : a = 0 → rj_Run X9 y9 cc nL rt9 d9 v9 τ9 tgt lv rest σ) (kf : ¬ a = 0 → rj_Run X9 y9 cc nL rt9 d9 v9 τ9 (pc + 3) lv rest σ) : rj_Run X9 y9 cc nL rt9 d9 v9 τ9 pc lv (rj_i a :: rest) σ := by
  have h0 : -2147483648 ≤ (0 : Int) ∧ (0 : Int) < 2147483648 := by decide
  exact rj_if_eq hdg ht (fun z => kt ((rj_e0 ha).mp z)) (fun z => kf (fun q => z ((rj_e0 ha).mpr q)))
theorem rj_icmp_neI {off : Int} {tgt : Nat} (ha : -2147483648 ≤ a ∧ a < 2147483648) (hb : -2147483648 ≤ b ∧ b < 2147483648) (hdg : decode cc pc = .ok (.if_icmp .ne off, 3)) (ht : (pc : Int) + off = (tgt : Int)) (kt : ¬ a = b → rj_Run X9 y9 cc nL rt9 d9 v9 τ9 tgt lv rest σ) (kf : a = b → rj_Run X9 y9 cc nL rt9 d9 v9 τ9 (pc + 3) lv rest σ) : rj_Run X9 y9 cc nL rt9 d9 v9 τ9 pc lv (rj_i b :: rj_i a :: rest) σ := rj_icmp_ne hdg ht (fun z => kt (fun q => z ((rj_ee ha hb).mpr q))) (fun z => kf ((rj_ee ha hb).mp z))
theorem rj_if_neI {off : Int} {tgt : Nat} (ha : -2147483648 ≤ a ∧ a < 2147483648) (hdg : decode cc pc = .ok (.ifCond .ne off, 3)) (ht : (pc : Int) + off = (tgt : Int)) (kt : ¬ a = 0 → rj_Run X9 y9 cc nL rt9 d9 v9 τ9 tgt lv rest σ) (kf : a = 0 → rj_Run X9 y9 cc nL rt9 d9 v9 τ9 (pc + 3) lv rest σ) : rj_Run X9 y9 cc nL rt9 d9 v9 τ9 pc lv (rj_i a :: rest) σ := by
  have h0 : -2147483648 ≤ (0 : Int) ∧ (0 : Int) < 2147483648 := by decide
  exact rj_if_ne hdg ht (fun z => kt (fun q => z ((rj_e0 ha).mpr q))) (fun z => kf ((rj_e0 ha).mp z))
theorem rj_icmp_ltI {off : Int} {tgt : Nat} (ha : -2147483648 ≤ a ∧ a < 2147483648) (hb : -2147483648 ≤ b ∧ b < 2147483648) (hdg : decode cc pc = .ok (.if_icmp .lt off, 3)) (ht : (pc : Int) + off = (tgt : Int)) (kt : a < b → rj_Run X9 y9 cc nL rt9 d9 v9 τ9 tgt lv rest σ) (kf : ¬ a < b → rj_Run X9 y9 cc nL rt9 d9 v9 τ9 (pc + 3) lv rest σ) : rj_Run X9 y9 cc nL rt9 d9 v9 τ9 pc lv (rj_i b :: rj_i a :: rest) σ := rj_icmp_lt hdg ht (fun z => kt ((rj_lt ha hb).mp z)) (fun z => kf (fun q => z ((rj_lt ha hb).mpr q)))
theorem rj_if_ltI {off : Int} {tgt : Nat} (ha : -2147483648 ≤ a ∧ a < 2147483648) (hdg : decode cc pc = .ok (.ifCond .lt off, 3)) (ht : (pc : Int) + off = (tgt : Int)) (kt : a < 0 → rj_Run X9 y9 cc nL rt9 d9 v9 τ9 tgt lv rest σ) (kf : ¬ a < 0 → rj_Run X9 y9 cc nL rt9 d9 v9 τ9 (pc + 3) lv rest σ) : rj_Run X9 y9 cc nL rt9 d9 v9 τ9 pc lv (rj_i a :: rest) σ := by
  have h0 : -2147483648 ≤ (0 : Int) ∧ (0 : Int) < 2147483648 := by decide
  exact rj_if_lt hdg ht (fun z => kt ((rj_lt ha h0).mp z)) (fun z => kf (fun q => z ((rj_lt ha h0).mpr q)))
theorem rj_icmp_geI {off : Int} {tgt : Nat} (ha : -2147483648 ≤ a ∧ a < 2147483648) (hb : -2147483648 ≤ b ∧ b < 2147483648) (hdg : decode cc pc = .ok (.if_icmp .ge off, 3)) (ht : (pc : Int) + off = (tgt : Int)) (kt : b ≤ a → rj_Run X9 y9 cc nL rt9 d9 v9 τ9 tgt lv rest σ) (kf : ¬ b ≤ a → rj_Run X9 y9 cc nL rt9 d9 v9 τ9 (pc + 3) lv rest σ) : rj_Run X9 y9 cc nL rt9 d9 v9 τ9 pc lv (rj_i b :: rj_i a :: rest) σ := rj_icmp_ge hdg ht (fun z => kt ((rj_le hb ha).mp z)) (fun z => kf (fun q => z ((rj_le hb ha).mpr q)))
theorem rj_if_geI {off : Int} {tgt : Nat} (ha : -2147483648 ≤ a ∧ a < 2147483648) (hdg : decode cc pc = .ok (.ifCond .ge off, 3)) (ht : (pc : Int) + off = (tgt : Int)) (kt : 0 ≤ a → rj_Run X9 y9 cc nL rt9 d9 v9 τ9 tgt lv rest σ) (kf : ¬ 0 ≤ a → rj_Run X9 y9 cc nL rt9 d9 v9 τ9 (pc + 3) lv rest σ) : rj_Run X9 y9 cc nL rt9 d9 v9 τ9 pc lv (rj_i a :: rest) σ := by
  have h0 : -2147483648 ≤ (0 : Int) ∧ (0 : Int) < 2147483648 := by decide
  exact rj_if_ge hdg ht (fun z => kt ((rj_le h0 ha).mp z)) (fun z => kf (fun q => z ((rj_le h0 ha).mpr q)))
theorem rj_icmp_gtI {off : Int} {tgt : Nat} (ha : -2147483648 ≤ a ∧ a < 2147483648) (hb : -2147483648 ≤ b ∧ b < 2147483648) (hdg : decode cc pc = .ok (.if_icmp .gt off, 3)) (ht : (pc : Int) + off = (tgt : Int)) (kt : b < a → rj_Run X9 y9 cc nL rt9 d9 v9 τ9 tgt lv rest σ) (kf : ¬ b < a → rj_Run X9 y9 cc nL rt9 d9 v9 τ9 (pc + 3) lv rest σ) : rj_Run X9 y9 cc nL rt9 d9 v9 τ9 pc lv (rj_i b :: rj_i a :: rest) σ := rj_icmp_gt hdg ht (fun z => kt ((rj_lt hb ha).mp z)) (fun z => kf (fun q => z ((rj_lt hb ha).mpr q)))
theorem rj_if_gtI {off : Int} {tgt : Nat} (ha : -2147483648 ≤ a ∧ a < 2147483648) (hdg : decode cc pc = .ok (.ifCond .gt off, 3)) (ht : (pc : Int) + off = (tgt : Int)) (kt : 0 < a → rj_Run X9 y9 cc nL rt9 d9 v9 τ9 tgt lv rest σ) (kf : ¬ 0 < a → rj_Run X9 y9 cc nL rt9 d9 v9 τ9 (pc + 3) lv rest σ) : rj_Run X9 y9 cc nL rt9 d9 v9 τ9 pc lv (rj_i a :: rest) σ := by
  have h0 : -2147483648 ≤ (0 : Int) ∧ (0 : Int) < 2147483648 := by decide
  exact rj_if_gt hdg ht (fun z => kt ((rj_lt h0 ha).mp z)) (fun z => kf (fun q => z ((rj_lt h0 ha).mpr q)))
theorem rj_icmp_leI {off : Int} {tgt : Nat} (ha : -2147483648 ≤ a ∧ a < 2147483648) (hb : -2147483648 ≤ b ∧ b < 2147483648) (hdg : decode cc pc = .ok (.if_icmp .le off, 3)) (ht : (pc : Int) + off = (tgt : Int)) (kt : a ≤ b → rj_Run X9 y9 cc nL rt9 d9 v9 τ9 tgt lv rest σ) (kf : ¬ a ≤ b → rj_Run X9 y9 cc nL rt9 d9 v9 τ9 (pc + 3) lv rest σ) : rj_Run X9 y9 cc nL rt9 d9 v9 τ9 pc lv (rj_i b :: rj_i a :: rest) σ := rj_icmp_le hdg ht (fun z => kt ((rj_le ha hb).mp z)) (fun z => kf (fun q => z ((rj_le ha hb).mpr q)))
theorem rj_if_leI {off : Int} {tgt : Nat} (ha : -2147483648 ≤ a ∧ a < 2147483648) (hdg : decode cc pc = .ok (.ifCond .le off, 3)) (ht : (pc : Int) + off = (tgt : Int)) (kt : a ≤ 0 → rj_Run X9 y9 cc nL rt9 d9 v9 τ9 tgt lv rest σ) (kf : ¬ a ≤ 0 → rj_Run X9 y9 cc nL rt9 d9 v9 τ9 (pc + 3) lv rest σ) : rj_Run X9 y9 cc nL rt9 d9 v9 τ9 pc lv (rj_i a :: rest) σ := by
  have h0 : -2147483648 ≤ (0 : Int) ∧ (0 : Int) < 2147483648 := by decide
  exact rj_if_le hdg ht (fun z => kt ((rj_le ha h0).mp z)) (fun z => kf (fun q => z ((rj_le ha h0).mpr q)))
theorem rj_if_eqB {P : Prop} [Decidable P] {off : Int} {tgt : Nat} (hdg : decode cc pc = .ok (.ifCond .eq off, 3)) (ht : (pc : Int) + off = (tgt : Int)) (kt : ¬ P → rj_Run X9 y9 cc nL rt9 d9 v9 τ9 tgt lv rest σ) (kf : P → rj_Run X9 y9 cc nL rt9 d9 v9 τ9 (pc + 3) lv rest σ) : rj_Run X9 y9 cc nL rt9 d9 v9 τ9 pc lv (rj_i (rj_b P) :: rest) σ := rj_if_eqI (by rcases rj_b01 P with h | h <;> omega) hdg ht (fun h => kt fun q => by rw [rj_bt q] at h; omega) (fun h => kf (Decidable.byContradiction fun q => h (rj_bf q)))
theorem rj_if_neB {P : Prop} [Decidable P] {off : Int} {tgt : Nat} (hdg : decode cc pc = .ok (.ifCond .ne off, 3)) (ht : (pc : Int) + off = (tgt : Int)) (kt : P → rj_Run X9 y9 cc nL rt9 d9 v9 τ9 tgt lv rest σ) (kf : ¬ P → rj_Run X9 y9 cc nL rt9 d9 v9 τ9 (pc + 3) lv rest σ) : rj_Run X9 y9 cc nL rt9 d9 v9 τ9 pc lv (rj_i (rj_b P) :: rest) σ := rj_if_neI (by rcases rj_b01 P with h | h <;> omega) hdg ht (fun h => kt (Decidable.byContradiction fun q => h (rj_bf q))) (fun h => kf fun q => by rw [rj_bt q] at h; omega)
theorem rj_iincI {i k0 : Nat} {n : Int} (hk : lv[k0]? = some (i, rj_i a)) (hn : i < nL) (hl : rj_is (lv.filter (fun q => !(q.1 == i) && !(q.1 + 1 == i && q.2.category == 2))) i (rj_i (a + n)) = lv') (hdg : decode cc pc = .ok (.iinc i n, 3)) (k : rj_Run X9 y9 cc nL rt9 d9 v9 τ9 (pc + 3) lv' rest σ) : rj_Run X9 y9 cc nL rt9 d9 v9 τ9 pc lv rest σ := rj_iinc hdg hk (rj_oadd a n) hn (fun q hq => by subst hl; exact rj_is_mem _ q hq) k
theorem rj_istore_nS {k0 : Fin 4} {i : Nat} {x : Int32} (hi : (k0 : Nat) = i) (hn : i < nL) (hl : rj_is (lv.filter (fun q => !(q.1 == i) && !(q.1 + 1 == i && q.2.category == 2))) i (.int x) = lv') (hdg : decode cc pc = .ok (.istore_n k0, 1)) (k : rj_Run X9 y9 cc nL rt9 d9 v9 τ9 (pc + 1) lv' rest σ) : rj_Run X9 y9 cc nL rt9 d9 v9 τ9 pc lv (.int x :: rest) σ := rj_istore_n hdg hi hn (fun q hq => by subst hl; exact rj_is_mem _ q hq) k
theorem rj_istoreS {i : Nat} {x : Int32} (hn : i < nL) (hl : rj_is (lv.filter (fun q => !(q.1 == i) && !(q.1 + 1 == i && q.2.category == 2))) i (.int x) = lv') (hdg : decode cc pc = .ok (.istore i, 2)) (k : rj_Run X9 y9 cc nL rt9 d9 v9 τ9 (pc + 2) lv' rest σ) : rj_Run X9 y9 cc nL rt9 d9 v9 τ9 pc lv (.int x :: rest) σ := rj_istore hdg hn (fun q hq => by subst hl; exact rj_is_mem _ q hq) k
theorem rj_lstore_nS {k0 : Fin 4} {i : Nat} {x : Int64} (hi : (k0 : Nat) = i) (hn : i + 1 < nL) (hl : rj_is (lv.filter (fun q => !(q.1 == i) && (!(q.1 == i + 1) && !(q.1 + 1 == i && q.2.category == 2)))) i (.long x) = lv') (hdg : decode cc pc = .ok (.lstore_n k0, 1)) (k : rj_Run X9 y9 cc nL rt9 d9 v9 τ9 (pc + 1) lv' rest σ) : rj_Run X9 y9 cc nL rt9 d9 v9 τ9 pc lv (.long x :: rest) σ := rj_lstore_n hdg hi hn (fun q hq => by subst hl; exact rj_is_mem _ q hq) k
theorem rj_lstoreS {i : Nat} {x : Int64} (hn : i + 1 < nL) (hl : rj_is (lv.filter (fun q => !(q.1 == i) && (!(q.1 == i + 1) && !(q.1 + 1 == i && q.2.category == 2)))) i (.long x) = lv') (hdg : decode cc pc = .ok (.lstore i, 2)) (k : rj_Run X9 y9 cc nL rt9 d9 v9 τ9 (pc + 2) lv' rest σ) : rj_Run X9 y9 cc nL rt9 d9 v9 τ9 pc lv (.long x :: rest) σ := rj_lstore hdg hn (fun q hq => by subst hl; exact rj_is_mem _ q hq) k
theorem rj_astore_nS {k0 : Fin 4} {i : Nat} {x : Nat} (hi : (k0 : Nat) = i) (hn : i < nL) (hl : rj_is (lv.filter (fun q => !(q.1 == i) && !(q.1 + 1 == i && q.2.category == 2))) i (.ref x) = lv') (hdg : decode cc pc = .ok (.astore_n k0, 1)) (k : rj_Run X9 y9 cc nL rt9 d9 v9 τ9 (pc + 1) lv' rest σ) : rj_Run X9 y9 cc nL rt9 d9 v9 τ9 pc lv (.ref x :: rest) σ := rj_astore_n hdg hi hn (fun q hq => by subst hl; exact rj_is_mem _ q hq) k
theorem rj_astoreS {i : Nat} {x : Nat} (hn : i < nL) (hl : rj_is (lv.filter (fun q => !(q.1 == i) && !(q.1 + 1 == i && q.2.category == 2))) i (.ref x) = lv') (hdg : decode cc pc = .ok (.astore i, 2)) (k : rj_Run X9 y9 cc nL rt9 d9 v9 τ9 (pc + 2) lv' rest σ) : rj_Run X9 y9 cc nL rt9 d9 v9 τ9 pc lv (.ref x :: rest) σ := rj_astore hdg hn (fun q hq => by subst hl; exact rj_is_mem _ q hq) k
theorem rj_astore_nSN {k0 : Fin 4} {i : Nat} (hi : (k0 : Nat) = i) (hn : i < nL) (hl : rj_is (lv.filter (fun q => !(q.1 == i) && !(q.1 + 1 == i && q.2.category == 2))) i (.null) = lv') (hdg : decode cc pc = .ok (.astore_n k0, 1)) (k : rj_Run X9 y9 cc nL rt9 d9 v9 τ9 (pc + 1) lv' rest σ) : rj_Run X9 y9 cc nL rt9 d9 v9 τ9 pc lv (.null :: rest) σ := rj_astore_nN hdg hi hn (fun q hq => by subst hl; exact rj_is_mem _ q hq) k
/-- ends -/
theorem rj_retI {z : Int} {ty : FieldType} (hr : rt9 = some ty) (hn : narrow ty (rj_i z) = rj_i z) (hv : v9 = some (rj_i z)) (ht : σ = τ9) (hdg : decode cc pc = .ok (.ireturn, 1)) : rj_Run X9 y9 cc nL rt9 d9 v9 τ9 pc lv [rj_i z] σ := rj_ret rfl (by rw [hv]; rfl) (by rw [hv]; exact ⟨hdg, ty, hr, hn⟩) ht
theorem rj_retL {z : Int64} (hr : rt9 = some .long) (hv : v9 = some (.long z)) (ht : σ = τ9) (hdg : decode cc pc = .ok (.lreturn, 1)) : rj_Run X9 y9 cc nL rt9 d9 v9 τ9 pc lv [.long z] σ := rj_ret rfl (by rw [hv]; rfl) (by rw [hv]; exact ⟨hr, hdg⟩) ht
theorem rj_retV (hr : rt9 = none) (hv : v9 = none) (ht : σ = τ9) (hdg : decode cc pc = .ok (.return_, 1)) : rj_Run X9 y9 cc nL rt9 d9 v9 τ9 pc lv [] σ := rj_ret rfl (by rw [hv]; rfl) (by rw [hv]; exact ⟨hr, hdg⟩) ht
theorem rj_retA {z : Nat} {n : String} (hr : rt9 = some (.object n)) (hv : v9 = some (.ref z)) (ht : σ = τ9) (hdg : decode cc pc = .ok (.areturn, 1)) : rj_Run X9 y9 cc nL rt9 d9 v9 τ9 pc lv [.ref z] σ := rj_ret rfl (by rw [hv]; rfl) (by rw [hv]; exact ⟨hdg, n, hr⟩) ht
theorem rj_retN {n : String} (hr : rt9 = some (.object n)) (hv : v9 = some .null) (ht : σ = τ9) (hdg : decode cc pc = .ok (.areturn, 1)) : rj_Run X9 y9 cc nL rt9 d9 v9 τ9 pc lv [.null] σ := rj_ret rfl (by rw [hv]; rfl) (by rw [hv]; exact ⟨hdg, n, hr⟩) ht
end RJI
