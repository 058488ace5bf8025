/-! THE REFERENCE, 13: power, choose, divisor -/
def sp_ch (n : Int) : Nat → Int
  | 0 => 1
  | i + 1 => sp_ch n i * (n - (i : Int)) / ((i : Int) + 1)
theorem sp_ch_d : ∀ n : Nat, n ≤ 8 → ∀ i : Nat, i ≤ n → 0 ≤ sp_ch (n : Int) i ∧ sp_ch (n : Int) i ≤ 70 := by decide +kernel
theorem sp_ch_b {n : Int} {i : Nat} (hn : 0 ≤ n ∧ n ≤ 8) (hi : (i : Int) ≤ n) : 0 ≤ sp_ch n i ∧ sp_ch n i ≤ 70 := by
  obtain ⟨k, rfl⟩ := Int.eq_ofNat_of_zero_le hn.1
  exact sp_ch_d k (by omega) i (by omega)
theorem go_retLI {X9 : rj_X} {y9 : MethodName} {cc : ByteArray} {nL : Nat} {rt9 : Option FieldType} {d9 : Nat} {P9 : Option Value → rj_H → Prop} {pc : Nat} {lv : List (Nat × Value)} {σ : rj_H} {z : Int} (hr : rt9 = some .long) (hp : P9 (some (rj_l z)) σ) (hdg : decode cc pc = .ok (.lreturn, 1)) : rj_Go X9 y9 cc nL rt9 d9 P9 pc lv [rj_l z] σ := go_retL hr hp hdg
set_option maxRecDepth 20000 in
/-- m_power -/
theorem m_power {X9 : rj_X} {σ : rj_H} {d : Nat} {b e9 : Int} (hn : 0 ≤ e9 ∧ e9 ≤ 100) : rj_Cl X9 d yX12_power cX12_power 6 (some .long) [rj_l b, rj_i e9] σ (fun w9 τ => w9 = some (rj_l (b ^ e9.toNat)) ∧ τ = σ) := by
  refine go_call (by decide +kernel) (Nat.le_of_ble_eq_true rfl) ?_
  refine go_eq (pc' := 0) (lv' := [(0, rj_l b), (2, rj_i e9)]) (st' := []) rfl rfl rfl rfl ?_
  refine go_lconst1 dX12_power_0 ?_
  refine go_lstore_nS (lv' := [(0, rj_l b), (2, rj_i e9), (3, rj_l 1)]) rfl (by decide) rfl dX12_power_1 ?_
  refine go_iconst (v := Int32.ofInt 0) dX12_power_2 rfl ?_
  refine go_istoreS (lv' := [(0, rj_l b), (2, rj_i e9), (3, rj_l 1), (5, rj_i 0)]) (by decide) rfl dX12_power_3 ?_
  have loop : ∀ n k : Nat, k + n = e9.toNat → rj_Go X9 yX12_power cX12_power 6 (some .long) d (fun w9 τ => w9 = some (rj_l (b ^ e9.toNat)) ∧ τ = σ) 5 [(0, rj_l b), (2, rj_i e9), (3, rj_l (b ^ k)), (5, rj_i (k : Int))] [] σ := by
    intro n
    induction n with
    | zero =>
      intro k hk 
      refine go_iload dX12_power_5 3 rfl ?_
      refine go_iload_n dX12_power_7 rfl 1 rfl ?_
      refine go_icmp_geI (tgt := 21) (by omega) (by omega) dX12_power_8 (by decide) (fun c_8 => ?_) (fun c_8 => ?_)
      · refine go_lload_n dX12_power_21 rfl 2 rfl ?_
        refine go_retLI rfl ?_ dX12_power_22
        exact ⟨rj_vl (by rw [show e9.toNat = k by omega]), rfl⟩
      · exact absurd c_8 (by omega)
    | succ n ih =>
      intro k hk 
      refine go_iload dX12_power_5 3 rfl ?_
      refine go_iload_n dX12_power_7 rfl 1 rfl ?_
      refine go_icmp_geI (tgt := 21) (by omega) (by omega) dX12_power_8 (by decide) (fun c_8 => ?_) (fun c_8 => ?_)
      · exact absurd c_8 (by omega)
      · refine go_lload_n dX12_power_11 rfl 2 rfl ?_
        refine go_lload_n dX12_power_12 rfl 0 rfl ?_
        refine go_lmulI dX12_power_13 ?_
        refine go_lstore_nS (lv' := [(0, rj_l b), (2, rj_i e9), (3, rj_l ((b ^ k) * b)), (5, rj_i (k : Int))]) rfl (by decide) rfl dX12_power_14 ?_
        refine go_iincI (a := (k : Int)) (n := 1) (k0 := 3) (lv' := [(0, rj_l b), (2, rj_i e9), (3, rj_l ((b ^ k) * b)), (5, rj_i ((k : Int) + 1))]) rfl (by decide) rfl dX12_power_15 ?_
        refine go_goto (tgt := 5) dX12_power_18 (by decide) ?_
        exact go_eq rfl (lv' := [(0, rj_l b), (2, rj_i e9), (3, rj_l (b ^ (k + 1))), (5, rj_i ((k + 1 : Nat) : Int))]) (rj_lk (rj_lk (rj_lL (by rw [Int.pow_succ]) (rj_lj (by omega) rfl)))) rfl rfl (ih (k + 1) (by omega))
  exact go_eq rfl (lv' := [(0, rj_l b), (2, rj_i e9), (3, rj_l (b ^ 0)), (5, rj_i ((0 : Nat) : Int))]) (rj_lk (rj_lk (rj_lL (by rw [Int.pow_zero]) (rj_lj (rfl) rfl)))) rfl rfl (loop e9.toNat 0 (by omega))
set_option maxRecDepth 20000 in
/-- m_choose -/
theorem m_choose {X9 : rj_X} {σ : rj_H} {d : Nat} {m9 k9 : Int} (hn : 0 ≤ m9 ∧ m9 ≤ 8) (hk9 : 0 ≤ k9 ∧ k9 ≤ m9) : rj_Cl X9 d yX12_choose cX12_choose 5 (some .long) [rj_i m9, rj_i k9] σ (fun w9 τ => w9 = some (rj_l (sp_ch m9 k9.toNat)) ∧ τ = σ) := by
  refine go_call (by decide +kernel) (Nat.le_of_ble_eq_true rfl) ?_
  refine go_eq (pc' := 0) (lv' := [(0, rj_i m9), (1, rj_i k9)]) (st' := []) rfl rfl rfl rfl ?_
  refine go_lconst1 dX12_choose_0 ?_
  refine go_lstore_nS (lv' := [(0, rj_i m9), (1, rj_i k9), (2, rj_l 1)]) rfl (by decide) rfl dX12_choose_1 ?_
  refine go_iconst (v := Int32.ofInt 0) dX12_choose_2 rfl ?_
  refine go_istoreS (lv' := [(0, rj_i m9), (1, rj_i k9), (2, rj_l 1), (4, rj_i 0)]) (by decide) rfl dX12_choose_3 ?_
  have loop : ∀ n k : Nat, k + n = k9.toNat → rj_Go X9 yX12_choose cX12_choose 5 (some .long) d (fun w9 τ => w9 = some (rj_l (sp_ch m9 k9.toNat)) ∧ τ = σ) 5 [(0, rj_i m9), (1, rj_i k9), (2, rj_l (sp_ch m9 k)), (4, rj_i (k : Int))] [] σ := by
    intro n
    induction n with
    | zero =>
      intro k hk 
      refine go_iload dX12_choose_5 3 rfl ?_
      refine go_iload_n dX12_choose_7 rfl 1 rfl ?_
      refine go_icmp_geI (tgt := 31) (by omega) (by omega) dX12_choose_8 (by decide) (fun c_8 => ?_) (fun c_8 => ?_)
      · refine go_lload_n dX12_choose_31 rfl 2 rfl ?_
        refine go_retLI rfl ?_ dX12_choose_32
        exact ⟨rj_vl (by rw [show k9.toNat = k by omega]), rfl⟩
      · exact absurd c_8 (by omega)
    | succ n ih =>
      intro k hk 
      have cb := sp_ch_b (i := k) hn (by omega)
      have pb := rj_pb (a := sp_ch m9 k) (b := m9 - (k : Int)) (A := 70) (B := 8) (by omega) (by omega)
      have pn := Int.mul_nonneg cb.1 (show 0 ≤ m9 - (k : Int) by omega)
      refine go_iload dX12_choose_5 3 rfl ?_
      refine go_iload_n dX12_choose_7 rfl 1 rfl ?_
      refine go_icmp_geI (tgt := 31) (by omega) (by omega) dX12_choose_8 (by decide) (fun c_8 => ?_) (fun c_8 => ?_)
      · exact absurd c_8 (by omega)
      · refine go_lload_n dX12_choose_11 rfl 2 rfl ?_
        refine go_iload_n dX12_choose_12 rfl 0 rfl ?_
        refine go_iload dX12_choose_13 3 rfl ?_
        refine go_subI dX12_choose_15 ?_
        refine go_i2lI (by omega) dX12_choose_16 ?_
        refine go_lmulI dX12_choose_17 ?_
        refine go_iload dX12_choose_18 3 rfl ?_
        refine go_iconst (v := Int32.ofInt 1) dX12_choose_20 rfl ?_
        refine go_addI dX12_choose_21 ?_
        refine go_i2lI (by omega) dX12_choose_22 ?_
        refine go_ldivI (by omega) (by omega) dX12_choose_23 ?_
        refine go_lstore_nS (lv' := [(0, rj_i m9), (1, rj_i k9), (2, rj_l (((sp_ch m9 k) * (m9 - (k : Int))) / ((k : Int) + 1))), (4, rj_i (k : Int))]) rfl (by decide) rfl dX12_choose_24 ?_
        refine go_iincI (a := (k : Int)) (n := 1) (k0 := 3) (lv' := [(0, rj_i m9), (1, rj_i k9), (2, rj_l (((sp_ch m9 k) * (m9 - (k : Int))) / ((k : Int) + 1))), (4, rj_i ((k : Int) + 1))]) rfl (by decide) rfl dX12_choose_25 ?_
        refine go_goto (tgt := 5) dX12_choose_28 (by decide) ?_
        exact go_eq rfl (lv' := [(0, rj_i m9), (1, rj_i k9), (2, rj_l (sp_ch m9 (k + 1))), (4, rj_i ((k + 1 : Nat) : Int))]) (rj_lk (rj_lk (rj_lL (rfl) (rj_lj (by omega) rfl)))) rfl rfl (ih (k + 1) (by omega))
  exact go_eq rfl (lv' := [(0, rj_i m9), (1, rj_i k9), (2, rj_l (sp_ch m9 0)), (4, rj_i ((0 : Nat) : Int))]) (rj_lk (rj_lk (rj_lL (rfl) (rj_lj (rfl) rfl)))) rfl rfl (loop k9.toNat 0 (by omega))
set_option maxRecDepth 20000 in
/-- m_divisor -/
theorem m_divisor {X9 : rj_X} {σ : rj_H} {d : Nat} {a b : Int} (ha : 0 ≤ a ∧ a < 9223372036854775808) (hb : 0 ≤ b ∧ b < 9223372036854775808) : rj_Cl X9 d yX12_divisor cX12_divisor 10 (some .long) [rj_l a, rj_l b] σ (fun w9 τ => w9 = some (rj_l ((Nat.gcd a.toNat b.toNat : Nat) : Int)) ∧ τ = σ) := by
  refine go_call (by decide +kernel) (Nat.le_of_ble_eq_true rfl) ?_
  refine go_eq (pc' := 0) (lv' := [(0, rj_l a), (2, rj_l b)]) (st' := []) rfl rfl rfl rfl ?_
  refine go_lload_n dX12_divisor_0 rfl 0 rfl ?_
  refine go_lstoreS (lv' := [(0, rj_l a), (2, rj_l b), (4, rj_l a)]) (by decide) rfl dX12_divisor_1 ?_
  refine go_lload_n dX12_divisor_3 rfl 1 rfl ?_
  refine go_lstoreS (lv' := [(0, rj_l a), (2, rj_l b), (4, rj_l a), (6, rj_l b)]) (by decide) rfl dX12_divisor_4 ?_
  have loop : ∀ n x y : Nat, y < n → (x : Int) < 9223372036854775808 → (y : Int) < 9223372036854775808 → Nat.gcd a.toNat b.toNat = Nat.gcd x y → rj_Go X9 yX12_divisor cX12_divisor 10 (some .long) d (fun w9 τ => w9 = some (rj_l ((Nat.gcd a.toNat b.toNat : Nat) : Int)) ∧ τ = σ) 6 [(0, rj_l a), (2, rj_l b), (4, rj_l (x : Int)), (6, rj_l (y : Int))] [] σ := by
    intro n
    induction n with
    | zero => exact fun x y h => absurd h (by omega)
    | succ n ih =>
      intro x y hy hx1 hy1 hG
      refine go_lload dX12_divisor_6 3 rfl ?_
      refine go_lconst0 dX12_divisor_8 ?_
      refine go_lcmpI (by omega) (by omega) dX12_divisor_9 ?_
      refine go_if_eqI (tgt := 31) (by unfold sp_cmp; split <;> (try split) <;> omega) dX12_divisor_10 (by decide) (fun c_10 => ?_) (fun c_10 => ?_)
      · refine go_lload dX12_divisor_31 2 rfl ?_
        refine go_retLI rfl ?_ dX12_divisor_33
        exact ⟨rj_vl (by have h9 : y = 0 := (by unfold sp_cmp at c_10; split at c_10 <;> (try split at c_10) <;> omega); rw [hG, h9, Nat.gcd_zero_right]), rfl⟩
      · refine go_lload dX12_divisor_13 2 rfl ?_
        refine go_lload dX12_divisor_15 3 rfl ?_
        refine go_lremI (by omega) (by unfold sp_cmp at c_10; split at c_10 <;> (try split at c_10) <;> omega) dX12_divisor_17 ?_
        refine go_lstoreS (lv' := [(0, rj_l a), (2, rj_l b), (4, rj_l (x : Int)), (6, rj_l (y : Int)), (8, rj_l ((x : Int) % (y : Int)))]) (by decide) rfl dX12_divisor_18 ?_
        refine go_lload dX12_divisor_20 3 rfl ?_
        refine go_lstoreS (lv' := [(0, rj_l a), (2, rj_l b), (4, rj_l (y : Int)), (6, rj_l (y : Int)), (8, rj_l ((x : Int) % (y : Int)))]) (by decide) rfl dX12_divisor_22 ?_
        refine go_lload dX12_divisor_24 4 rfl ?_
        refine go_lstoreS (lv' := [(0, rj_l a), (2, rj_l b), (4, rj_l (y : Int)), (6, rj_l ((x : Int) % (y : Int))), (8, rj_l ((x : Int) % (y : Int)))]) (by decide) rfl dX12_divisor_26 ?_
        refine go_goto (tgt := 6) dX12_divisor_28 (by decide) ?_
        have hy0 : 0 < y := by (unfold sp_cmp at c_10; split at c_10 <;> (try split at c_10) <;> omega)
        have hm := Nat.mod_lt x hy0
        refine go_sub (lv' := [(0, rj_l a), (2, rj_l b), (4, rj_l (y : Int)), (6, rj_l ((x : Int) % (y : Int)))]) (by intro q hq; simp only [List.mem_cons, List.not_mem_nil, or_false] at hq ⊢; rcases hq with rfl | rfl | rfl | rfl <;> simp) ?_
        exact go_eq rfl (lv' := [(0, rj_l a), (2, rj_l b), (4, rj_l ((y : Nat) : Int)), (6, rj_l ((x % y : Nat) : Int))]) (rj_lk (rj_lk (rj_lL (rfl) (rj_lL (by omega) rfl)))) rfl rfl (ih y (x % y) (by omega) (by omega) (by omega) (by rw [hG, Nat.gcd_comm x y, Nat.gcd_rec y x, Nat.gcd_comm]))
  obtain ⟨x, hx⟩ := Int.eq_ofNat_of_zero_le ha.1
  obtain ⟨y, hy⟩ := Int.eq_ofNat_of_zero_le hb.1
  exact go_eq rfl (lv' := [(0, rj_l a), (2, rj_l b), (4, rj_l (x : Int)), (6, rj_l (y : Int))]) (rj_lk (rj_lk (rj_lL (hx) (rj_lL (hy) rfl)))) rfl rfl (loop (y + 1) x y (by omega) (by omega) (by omega) (by rw [hx, hy]; rfl))
