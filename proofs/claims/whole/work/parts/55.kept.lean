/-! THE CLASS: kept -/
theorem sp_eu {dv rs n : Nat} (h : (rs ≤ dv ∧ dv * rs < 2 ^ (n + 1)) ∨ (dv < rs ∧ dv * rs < 2 ^ n)) (h0 : 0 < rs) : dv % rs ≤ rs ∧ rs * (dv % rs) < 2 ^ n := by
  have h1 := Nat.mod_lt dv h0
  rcases h with ⟨h2, h3⟩ | ⟨h2, h3⟩
  · have h4 := Nat.mod_add_div dv rs
    have h5 : 1 ≤ dv / rs := Nat.div_pos h2 h0
    have h6 : rs * 1 ≤ rs * (dv / rs) := Nat.mul_le_mul_left rs h5
    have h7 : rs * (dv % rs + rs) ≤ rs * dv := Nat.mul_le_mul_left rs (by omega)
    have h8 : rs * (dv % rs) ≤ rs * rs := Nat.mul_le_mul_left rs (by omega)
    rw [Nat.mul_add] at h7
    rw [Nat.mul_comm dv rs, Nat.pow_succ] at h3
    omega
  · rw [Nat.mod_eq_of_lt h2, Nat.mul_comm]
    exact ⟨by omega, h3⟩
theorem sp_eu0 {dv rs : Nat} (h : (rs ≤ dv ∧ dv * rs < 2 ^ 0)) : rs = 0 := by
  rcases Nat.eq_zero_or_pos rs with h1 | h1
  · exact h1
  · have := Nat.mul_le_mul h.1 (Nat.le_refl rs)
    have h2 : 1 * 1 ≤ rs * rs := Nat.mul_le_mul h1 h1
    have h3 := h.2
    omega
set_option maxRecDepth 20000 in
/-- x_power -/
theorem x_power {X9 : rj_X} {σ : rj_H} {d : Nat} {b e9 : Int} (hn : 0 ≤ e9 ∧ e9 ≤ 100) : rj_Cl X9 d yX11_power cX11_power 6 (some .long) [rj_l b, rj_i e9] σ (fun w9 τ => w9 = some (rj_l (b ^ e9.toNat)) ∧ τ = σ) := by
  refine go_call (by decide +kernel) (Nat.le_of_ble_eq_true rfl) ?_
  refine go_eq (pc' := 0) (lv' := [(0, rj_l b), (2, rj_i e9)]) (st' := []) rfl rfl rfl rfl ?_
  refine go_lconst1 dX11_power_0 ?_
  refine go_lstore_nS (lv' := [(0, rj_l b), (2, rj_i e9), (3, rj_l 1)]) rfl (by decide) rfl dX11_power_1 ?_
  refine go_iconst (v := Int32.ofInt 0) dX11_power_2 rfl ?_
  refine go_istoreS (lv' := [(0, rj_l b), (2, rj_i e9), (3, rj_l 1), (5, rj_i 0)]) (by decide) rfl dX11_power_3 ?_
  have loop : ∀ n k : Nat, k + n = e9.toNat → rj_Go X9 yX11_power cX11_power 6 (some .long) d (fun w9 τ => w9 = some (rj_l (b ^ e9.toNat)) ∧ τ = σ) 5 [(0, rj_l b), (2, rj_i e9), (3, rj_l (b ^ k)), (5, rj_i (k : Int))] [] σ := by
    intro n
    induction n with
    | zero =>
      intro k hk 
      refine go_iload dX11_power_5 3 rfl ?_
      refine go_iload_n dX11_power_7 rfl 1 rfl ?_
      refine go_icmp_geI (tgt := 21) (by omega) (by omega) dX11_power_8 (by decide) (fun c_8 => ?_) (fun c_8 => ?_)
      · refine go_lload_n dX11_power_21 rfl 2 rfl ?_
        refine go_retLI rfl ?_ dX11_power_22
        exact ⟨rj_vl (by rw [show e9.toNat = k by omega]), rfl⟩
      · exact absurd c_8 (by omega)
    | succ n ih =>
      intro k hk 
      refine go_iload dX11_power_5 3 rfl ?_
      refine go_iload_n dX11_power_7 rfl 1 rfl ?_
      refine go_icmp_geI (tgt := 21) (by omega) (by omega) dX11_power_8 (by decide) (fun c_8 => ?_) (fun c_8 => ?_)
      · exact absurd c_8 (by omega)
      · refine go_lload_n dX11_power_11 rfl 2 rfl ?_
        refine go_lload_n dX11_power_12 rfl 0 rfl ?_
        refine go_lmulI dX11_power_13 ?_
        refine go_lstore_nS (lv' := [(0, rj_l b), (2, rj_i e9), (3, rj_l ((b ^ k) * b)), (5, rj_i (k : Int))]) rfl (by decide) rfl dX11_power_14 ?_
        refine go_iincI (a := (k : Int)) (n := 1) (k0 := 3) (lv' := [(0, rj_l b), (2, rj_i e9), (3, rj_l ((b ^ k) * b)), (5, rj_i ((k : Int) + 1))]) rfl (by decide) rfl dX11_power_15 ?_
        refine go_goto (tgt := 5) dX11_power_18 (by decide) ?_
        exact go_eq rfl (lv' := [(0, rj_l b), (2, rj_i e9), (3, rj_l (b ^ (k + 1))), (5, rj_i ((k + 1 : Nat) : Int))]) (rj_lk (rj_lk (rj_lL ((Int.pow_succ b k).symm) (rj_lj (by omega) rfl)))) rfl rfl (ih (k + 1) (by omega))
  exact go_eq rfl (lv' := [(0, rj_l b), (2, rj_i e9), (3, rj_l (b ^ 0)), (5, rj_i ((0 : Nat) : Int))]) (rj_lk (rj_lk (rj_lL ((Int.pow_zero b).symm) (rj_lj (rfl) rfl)))) rfl rfl (loop e9.toNat 0 (by omega))
set_option maxRecDepth 20000 in
/-- x_gcd -/
theorem x_gcd {X9 : rj_X} {σ : rj_H} {d : Nat} {a b : Int} (ha : 0 ≤ a ∧ a < 9223372036854775808) (hb : 0 ≤ b ∧ b ≤ 100000000) : rj_Cl X9 d yX11_commonDivisor cX11_commonDivisor 11 (some .long) [rj_l a, rj_l b] σ (fun w9 τ => w9 = some (rj_l ((Nat.gcd a.toNat b.toNat : Nat) : Int)) ∧ τ = σ) := by
  refine go_call (by decide +kernel) (Nat.le_of_ble_eq_true rfl) ?_
  refine go_eq (pc' := 0) (lv' := [(0, rj_l a), (2, rj_l b)]) (st' := []) rfl rfl rfl rfl ?_
  refine go_lload_n dX11_commonDivisor_0 rfl 1 rfl ?_
  refine go_lstoreS (lv' := [(0, rj_l a), (2, rj_l b), (4, rj_l b)]) (by decide) rfl dX11_commonDivisor_1 ?_
  refine go_lload_n dX11_commonDivisor_3 rfl 0 rfl ?_
  refine go_lstoreS (lv' := [(0, rj_l a), (2, rj_l b), (4, rj_l b), (6, rj_l a)]) (by decide) rfl dX11_commonDivisor_4 ?_
  refine go_iconst (v := Int32.ofInt 0) dX11_commonDivisor_6 rfl ?_
  refine go_istoreS (lv' := [(0, rj_l a), (2, rj_l b), (4, rj_l b), (6, rj_l a), (8, rj_i 0)]) (by decide) rfl dX11_commonDivisor_7 ?_
  have loop : ∀ n k x y : Nat, k + n = 100 → (x : Int) < 9223372036854775808 → (y : Int) < 9223372036854775808 → ((y ≤ x ∧ x * y < 2 ^ n) ∨ (x < y ∧ x * y < 2 ^ (n - 1) ∧ 1 ≤ n)) → Nat.gcd a.toNat b.toNat = Nat.gcd x y → rj_Go X9 yX11_commonDivisor cX11_commonDivisor 11 (some .long) d (fun w9 τ => w9 = some (rj_l ((Nat.gcd a.toNat b.toNat : Nat) : Int)) ∧ τ = σ) 9 [(0, rj_l a), (2, rj_l b), (4, rj_l (x : Int)), (6, rj_l (y : Int)), (8, rj_i (k : Int))] [] σ := by
    intro n
    induction n with
    | zero =>
      intro k x y hk hx1 hy1 hI9 hG
      have hy0 : y = 0 := sp_eu0 (by rcases hI9 with h | h; (· exact h); (· omega))
      subst hy0
      refine go_iload dX11_commonDivisor_9 4 rfl ?_
      refine go_bipush (v := Int32.ofInt 100) dX11_commonDivisor_11 (by decide) ?_
      refine go_icmp_geI (tgt := 44) (by omega) (by omega) dX11_commonDivisor_13 (by decide) (fun c_13 => ?_) (fun c_13 => ?_)
      · refine go_lload dX11_commonDivisor_44 2 rfl ?_
        refine go_retLI rfl ?_ dX11_commonDivisor_46
        exact ⟨rj_vl (by rw [hG, Nat.gcd_zero_right]), rfl⟩
      · exact absurd c_13 (by omega)
    | succ n ih =>
      intro k x y hk hx1 hy1 hI9 hG
      refine go_iload dX11_commonDivisor_9 4 rfl ?_
      refine go_bipush (v := Int32.ofInt 100) dX11_commonDivisor_11 (by decide) ?_
      refine go_icmp_geI (tgt := 44) (by omega) (by omega) dX11_commonDivisor_13 (by decide) (fun c_13 => ?_) (fun c_13 => ?_)
      · exact absurd c_13 (by omega)
      · refine go_lload dX11_commonDivisor_16 3 rfl ?_
        refine go_lconst0 dX11_commonDivisor_18 ?_
        refine go_lcmpI (by omega) (by omega) dX11_commonDivisor_19 ?_
        refine go_if_eqI (tgt := 44) (by unfold sp_cmp; split <;> (try split) <;> omega) dX11_commonDivisor_20 (by decide) (fun c_20 => ?_) (fun c_20 => ?_)
        · refine go_lload dX11_commonDivisor_44 2 rfl ?_
          refine go_retLI rfl ?_ dX11_commonDivisor_46
          exact ⟨rj_vl (by have h9 : y = 0 := (by unfold sp_cmp at c_20; split at c_20 <;> (try split at c_20) <;> omega); rw [hG, h9, Nat.gcd_zero_right]), rfl⟩
        · refine go_lload dX11_commonDivisor_23 2 rfl ?_
          refine go_lload dX11_commonDivisor_25 3 rfl ?_
          refine go_lremI (by omega) (by unfold sp_cmp at c_20; split at c_20 <;> (try split at c_20) <;> omega) dX11_commonDivisor_27 ?_
          refine go_lstoreS (lv' := [(0, rj_l a), (2, rj_l b), (4, rj_l (x : Int)), (6, rj_l (y : Int)), (8, rj_i (k : Int)), (9, rj_l ((x : Int) % (y : Int)))]) (by decide) rfl dX11_commonDivisor_28 ?_
          refine go_lload dX11_commonDivisor_30 3 rfl ?_
          refine go_lstoreS (lv' := [(0, rj_l a), (2, rj_l b), (4, rj_l (y : Int)), (6, rj_l (y : Int)), (8, rj_i (k : Int)), (9, rj_l ((x : Int) % (y : Int)))]) (by decide) rfl dX11_commonDivisor_32 ?_
          refine go_lload dX11_commonDivisor_34 5 rfl ?_
          refine go_lstoreS (lv' := [(0, rj_l a), (2, rj_l b), (4, rj_l (y : Int)), (6, rj_l ((x : Int) % (y : Int))), (8, rj_i (k : Int)), (9, rj_l ((x : Int) % (y : Int)))]) (by decide) rfl dX11_commonDivisor_36 ?_
          refine go_iincI (a := (k : Int)) (n := 1) (k0 := 4) (lv' := [(0, rj_l a), (2, rj_l b), (4, rj_l (y : Int)), (6, rj_l ((x : Int) % (y : Int))), (8, rj_i ((k : Int) + 1)), (9, rj_l ((x : Int) % (y : Int)))]) rfl (by decide) rfl dX11_commonDivisor_38 ?_
          refine go_goto (tgt := 9) dX11_commonDivisor_41 (by decide) ?_
          have hy0 : 0 < y := by (unfold sp_cmp at c_20; split at c_20 <;> (try split at c_20) <;> omega)
          have he := sp_eu (dv := x) (rs := y) (n := n) (by rcases hI9 with h | h; (· exact Or.inl h); (· exact Or.inr ⟨h.1, h.2.1⟩)) hy0
          have hm := Nat.mod_lt x hy0
          refine go_sub (lv' := [(0, rj_l a), (2, rj_l b), (4, rj_l (y : Int)), (6, rj_l ((x : Int) % (y : Int))), (8, rj_i ((k : Int) + 1))]) (by intro q hq; simp only [List.mem_cons, List.not_mem_nil, or_false] at hq ⊢; rcases hq with rfl | rfl | rfl | rfl | rfl <;> simp) ?_
          exact go_eq rfl (lv' := [(0, rj_l a), (2, rj_l b), (4, rj_l ((y : Nat) : Int)), (6, rj_l ((x % y : Nat) : Int)), (8, rj_i ((k + 1 : Nat) : Int))]) (rj_lk (rj_lk (rj_lL (rfl) (rj_lL (by omega) (rj_lj (by omega) rfl))))) rfl rfl (ih (k + 1) y (x % y) (by omega) (by omega) (by omega) (Or.inl he) (by rw [hG, Nat.gcd_comm x y, Nat.gcd_rec y x, Nat.gcd_comm]))
  obtain ⟨x, hx⟩ := Int.eq_ofNat_of_zero_le hb.1
  obtain ⟨y, hy⟩ := Int.eq_ofNat_of_zero_le ha.1
  have hxy : x * y < 2 ^ 99 := Nat.lt_of_le_of_lt (Nat.mul_le_mul (show x ≤ 100000000 by omega) (show y ≤ 9223372036854775807 by omega)) (by decide)
  exact go_eq rfl (lv' := [(0, rj_l a), (2, rj_l b), (4, rj_l (x : Int)), (6, rj_l (y : Int)), (8, rj_i ((0 : Nat) : Int))]) (rj_lk (rj_lk (rj_lL (hx) (rj_lL (hy) (rj_lj (rfl) rfl))))) rfl rfl (loop 100 0 x y (by omega) (by omega) (by omega) (by rcases Nat.lt_or_ge x y with h | h; (· exact Or.inr ⟨h, hxy, by omega⟩); (· exact Or.inl ⟨h, Nat.lt_trans hxy (by decide)⟩)) (by rw [hx, hy, Nat.gcd_comm]; rfl))
def sp_wy (n : Int) (i : Nat) : Int := sp_ch n (i - 1)
def sp_su (c n : Int) (k i : Nat) : Int := sp_upN c n k (i - k)
theorem sp_su_s {c n : Int} {k i : Nat} (h : k ≤ i) : sp_su c n k (i + 1) = sp_su c n k i + sp_odd c n i := by
  unfold sp_su
  rw [show i + 1 - k = (i - k) + 1 by omega, sp_upN, show k + (i - k) = i by omega]
theorem sp_su_n {c n : Int} {k i : Nat} (h : i < k) : sp_su c n k (i + 1) = sp_su c n k i := by
  unfold sp_su
  rw [show i + 1 - k = 0 by omega, show i - k = 0 by omega]
theorem sp_ch_e (n : Int) (k : Nat) (hk : 0 < k) : sp_ch n (k - 1) * (n - (k : Int) + 1) / (k : Int) = sp_ch n k := by
  obtain ⟨j, rfl⟩ : ∃ j, k = j + 1 := ⟨k - 1, by omega⟩
  rw [sp_ch, show j + 1 - 1 = j by omega, show n - ((j + 1 : Nat) : Int) + 1 = n - (j : Int) by omega, show ((j + 1 : Nat) : Int) = (j : Int) + 1 by omega]
set_option maxRecDepth 20000 in
/-- x_odds -/
theorem x_odds {X9 : rj_X} {σ : rj_H} {d cb vv vk : Nat} {c : rm_R} {n9 least : Int} (hd : 1 ≤ d) {s : Int → Int} {ad : Nat → Int → Nat} (hR : rc_R X9 cb vv vk c σ s ad) (hI : sp_I s) (hn : 0 ≤ n9 ∧ n9 ≤ 8) (hl : 0 ≤ least ∧ least ≤ 8) : rj_Cl X9 d yX11_oddsOfClear cX11_oddsOfClear 10 (some .long) [.ref cb, rj_i n9, rj_i least] (rc_p X9 cb vv vk c σ) (fun w9 τ => w9 = some (rj_l (sp_upA (sp_tells s 284 0) n9 least.toNat)) ∧ τ = rc_p X9 cb vv vk c σ) := by
  obtain ⟨⟨h0, h1, h2, h3, h4, h5, h6, h7⟩, hM, hP, hW, hL, hV⟩ := id hI
  obtain ⟨v1, v2, v3, v4⟩ := id hV
  refine go_call (by decide +kernel) (Nat.le_of_ble_eq_true rfl) ?_
  refine go_eq (pc' := 0) (lv' := [(0, .ref cb), (1, rj_i n9), (2, rj_i least)]) (st' := []) rfl rfl rfl rfl ?_
  refine go_lconst0 dX11_oddsOfClear_0 ?_
  refine go_lstore_nS (lv' := [(0, .ref cb), (1, rj_i n9), (2, rj_i least), (3, rj_l 0)]) rfl (by decide) rfl dX11_oddsOfClear_1 ?_
  refine go_lconst1 dX11_oddsOfClear_2 ?_
  refine go_lstoreS (lv' := [(0, .ref cb), (1, rj_i n9), (2, rj_i least), (3, rj_l 0), (5, rj_l 1)]) (by decide) rfl dX11_oddsOfClear_3 ?_
  refine go_iconst (v := Int32.ofInt 0) dX11_oddsOfClear_5 rfl ?_
  refine go_istoreS (lv' := [(0, .ref cb), (1, rj_i n9), (2, rj_i least), (3, rj_l 0), (5, rj_l 1), (7, rj_i 0)]) (by decide) rfl dX11_oddsOfClear_6 ?_
  have loop : ∀ n k : Nat, k + n = (n9 + 1).toNat → rj_Go X9 yX11_oddsOfClear cX11_oddsOfClear 10 (some .long) d (fun w9 τ => w9 = some (rj_l (sp_upA (sp_tells s 284 0) n9 least.toNat)) ∧ τ = rc_p X9 cb vv vk c σ) 8 [(0, .ref cb), (1, rj_i n9), (2, rj_i least), (3, rj_l (sp_su (sp_tells s 284 0) n9 least.toNat k)), (5, rj_l (sp_wy n9 k)), (7, rj_i (k : Int))] [] (rc_p X9 cb vv vk c σ) := by
    intro n
    induction n with
    | zero =>
      intro k hk 
      refine go_iload dX11_oddsOfClear_8 5 rfl ?_
      refine go_iload_n dX11_oddsOfClear_10 rfl 1 rfl ?_
      refine go_icmp_gtI (tgt := 95) (by omega) (by omega) dX11_oddsOfClear_11 (by decide) (fun c_11 => ?_) (fun c_11 => ?_)
      · refine go_lload_n dX11_oddsOfClear_95 rfl 3 rfl ?_
        refine go_retLI rfl ?_ dX11_oddsOfClear_96
        exact ⟨rj_vl (by rw [show k = (n9 + 1).toNat by omega]; unfold sp_su sp_upA; congr 1; omega), rfl⟩
      · exact absurd c_11 (by omega)
    | succ n ih =>
      intro k hk 
      have cb9 : 0 ≤ sp_wy n9 k ∧ sp_wy n9 k ≤ 70 := sp_ch_b (by omega) (by omega)
      refine go_iload dX11_oddsOfClear_8 5 rfl ?_
      refine go_iload_n dX11_oddsOfClear_10 rfl 1 rfl ?_
      refine go_icmp_gtI (tgt := 95) (by omega) (by omega) dX11_oddsOfClear_11 (by decide) (fun c_11 => ?_) (fun c_11 => ?_)
      · exact absurd c_11 (by omega)
      · refine go_iload dX11_oddsOfClear_14 5 rfl ?_
        refine go_if_leI (tgt := 35) (by omega) dX11_oddsOfClear_16 (by decide) (fun c_16 => ?_) (fun c_16 => ?_)
        · rw [show sp_wy n9 k = sp_ch n9 k from by unfold sp_wy; rw [show k = 0 by omega]]
          refine go_bipush (v := Int32.ofInt 10) dX11_oddsOfClear_35 (by decide) ?_
          refine go_aload_n dX11_oddsOfClear_37 rfl 0 rfl ?_
          refine rc_gx hR.V (k := 0) (by decide) fX11_12 rfl dX11_oddsOfClear_38 ?_
          refine rc_gs hR.V (k := 8) (v := .ref (ad 2 0)) (by decide) fX11_124 hR.vref dX11_oddsOfClear_41 ?_
          refine rc_gv7 hR fX11_347 dX11_oddsOfClear_44 ?_
          refine go_subI dX11_oddsOfClear_47 ?_
          refine go_i2lI (by omega) dX11_oddsOfClear_48 ?_
          refine go_iload dX11_oddsOfClear_49 5 rfl ?_
          refine go_callS (d1 := d - 1) wSX11_208 rfl (by omega) (x_power (b := 10 - (sp_tells s 284 0)) (e9 := (k : Int)) (by omega)) rfl (Nat.le_of_ble_eq_true rfl) dX11_oddsOfClear_51 (fun w σ1 hP9 => ?_)
          obtain ⟨rfl, rfl⟩ := hP9
          refine go_aload_n dX11_oddsOfClear_54 rfl 0 rfl ?_
          refine rc_gx hR.V (k := 0) (by decide) fX11_12 rfl dX11_oddsOfClear_55 ?_
          refine rc_gs hR.V (k := 8) (v := .ref (ad 2 0)) (by decide) fX11_124 hR.vref dX11_oddsOfClear_58 ?_
          refine rc_gv7 hR fX11_347 dX11_oddsOfClear_61 ?_
          refine go_i2lI (by omega) dX11_oddsOfClear_64 ?_
          refine go_iload_n dX11_oddsOfClear_65 rfl 1 rfl ?_
          refine go_iload dX11_oddsOfClear_66 5 rfl ?_
          refine go_subI dX11_oddsOfClear_68 ?_
          refine go_callS (d1 := d - 1) wSX11_208 rfl (by omega) (x_power (b := sp_tells s 284 0) (e9 := n9 - (k : Int)) (by omega)) rfl (Nat.le_of_ble_eq_true rfl) dX11_oddsOfClear_69 (fun w σ1 hP9 => ?_)
          obtain ⟨rfl, rfl⟩ := hP9
          refine go_lmulI dX11_oddsOfClear_72 ?_
          refine go_lstoreS (lv' := [(0, .ref cb), (1, rj_i n9), (2, rj_i least), (3, rj_l (sp_su (sp_tells s 284 0) n9 least.toNat k)), (5, rj_l (sp_ch n9 k)), (7, rj_i (k : Int)), (8, rj_l (((10 - (sp_tells s 284 0)) ^ (k : Int).toNat) * ((sp_tells s 284 0) ^ (n9 - (k : Int)).toNat)))]) (by decide) rfl dX11_oddsOfClear_73 ?_
          refine go_iload dX11_oddsOfClear_75 5 rfl ?_
          refine go_iload_n dX11_oddsOfClear_77 rfl 2 rfl ?_
          refine go_icmp_ltI (tgt := 89) (by omega) (by omega) dX11_oddsOfClear_78 (by decide) (fun c_78 => ?_) (fun c_78 => ?_)
          · refine go_iincI (a := (k : Int)) (n := 1) (k0 := 5) (lv' := [(0, .ref cb), (1, rj_i n9), (2, rj_i least), (3, rj_l (sp_su (sp_tells s 284 0) n9 least.toNat k)), (5, rj_l (sp_ch n9 k)), (7, rj_i ((k : Int) + 1)), (8, rj_l (((10 - (sp_tells s 284 0)) ^ (k : Int).toNat) * ((sp_tells s 284 0) ^ (n9 - (k : Int)).toNat)))]) rfl (by decide) rfl dX11_oddsOfClear_89 ?_
            refine go_goto (tgt := 8) dX11_oddsOfClear_92 (by decide) ?_
            refine go_sub (lv' := [(0, .ref cb), (1, rj_i n9), (2, rj_i least), (3, rj_l (sp_su (sp_tells s 284 0) n9 least.toNat k)), (5, rj_l (sp_ch n9 k)), (7, rj_i ((k : Int) + 1))]) (by intro q hq; simp only [List.mem_cons, List.not_mem_nil, or_false] at hq ⊢; rcases hq with rfl | rfl | rfl | rfl | rfl | rfl <;> simp) ?_
            exact go_eq rfl (lv' := [(0, .ref cb), (1, rj_i n9), (2, rj_i least), (3, rj_l (sp_su (sp_tells s 284 0) n9 least.toNat (k + 1))), (5, rj_l (sp_wy n9 (k + 1))), (7, rj_i ((k + 1 : Nat) : Int))]) (rj_lk (rj_lk (rj_lk (rj_lL ((sp_su_n (by omega)).symm) (rj_lL (rfl) (rj_lj (by omega) rfl)))))) rfl rfl (ih (k + 1) (by omega))
          · refine go_lload_n dX11_oddsOfClear_81 rfl 3 rfl ?_
            refine go_lload dX11_oddsOfClear_82 4 rfl ?_
            refine go_lload dX11_oddsOfClear_84 6 rfl ?_
            refine go_lmulI dX11_oddsOfClear_86 ?_
            refine go_laddI dX11_oddsOfClear_87 ?_
            refine go_lstore_nS (lv' := [(0, .ref cb), (1, rj_i n9), (2, rj_i least), (3, rj_l ((sp_su (sp_tells s 284 0) n9 least.toNat k) + ((sp_ch n9 k) * (((10 - (sp_tells s 284 0)) ^ (k : Int).toNat) * ((sp_tells s 284 0) ^ (n9 - (k : Int)).toNat))))), (5, rj_l (sp_ch n9 k)), (7, rj_i (k : Int)), (8, rj_l (((10 - (sp_tells s 284 0)) ^ (k : Int).toNat) * ((sp_tells s 284 0) ^ (n9 - (k : Int)).toNat)))]) rfl (by decide) rfl dX11_oddsOfClear_88 ?_
            refine go_iincI (a := (k : Int)) (n := 1) (k0 := 5) (lv' := [(0, .ref cb), (1, rj_i n9), (2, rj_i least), (3, rj_l ((sp_su (sp_tells s 284 0) n9 least.toNat k) + ((sp_ch n9 k) * (((10 - (sp_tells s 284 0)) ^ (k : Int).toNat) * ((sp_tells s 284 0) ^ (n9 - (k : Int)).toNat))))), (5, rj_l (sp_ch n9 k)), (7, rj_i ((k : Int) + 1)), (8, rj_l (((10 - (sp_tells s 284 0)) ^ (k : Int).toNat) * ((sp_tells s 284 0) ^ (n9 - (k : Int)).toNat)))]) rfl (by decide) rfl dX11_oddsOfClear_89 ?_
            refine go_goto (tgt := 8) dX11_oddsOfClear_92 (by decide) ?_
            refine go_sub (lv' := [(0, .ref cb), (1, rj_i n9), (2, rj_i least), (3, rj_l ((sp_su (sp_tells s 284 0) n9 least.toNat k) + ((sp_ch n9 k) * (((10 - (sp_tells s 284 0)) ^ (k : Int).toNat) * ((sp_tells s 284 0) ^ (n9 - (k : Int)).toNat))))), (5, rj_l (sp_ch n9 k)), (7, rj_i ((k : Int) + 1))]) (by intro q hq; simp only [List.mem_cons, List.not_mem_nil, or_false] at hq ⊢; rcases hq with rfl | rfl | rfl | rfl | rfl | rfl <;> simp) ?_
            exact go_eq rfl (lv' := [(0, .ref cb), (1, rj_i n9), (2, rj_i least), (3, rj_l (sp_su (sp_tells s 284 0) n9 least.toNat (k + 1))), (5, rj_l (sp_wy n9 (k + 1))), (7, rj_i ((k + 1 : Nat) : Int))]) (rj_lk (rj_lk (rj_lk (rj_lL (by rw [sp_su_s (by omega)]; unfold sp_odd; rw [Int.mul_assoc]; rfl) (rj_lL (rfl) (rj_lj (by omega) rfl)))))) rfl rfl (ih (k + 1) (by omega))
        · refine go_lload dX11_oddsOfClear_19 4 rfl ?_
          refine go_iload_n dX11_oddsOfClear_21 rfl 1 rfl ?_
          refine go_iload dX11_oddsOfClear_22 5 rfl ?_
          refine go_subI dX11_oddsOfClear_24 ?_
          refine go_iconst (v := Int32.ofInt 1) dX11_oddsOfClear_25 rfl ?_
          refine go_addI dX11_oddsOfClear_26 ?_
          refine go_i2lI (by omega) dX11_oddsOfClear_27 ?_
          refine go_lmulI dX11_oddsOfClear_28 ?_
          refine go_iload dX11_oddsOfClear_29 5 rfl ?_
          refine go_i2lI (by omega) dX11_oddsOfClear_31 ?_
          refine go_ldivI (by have := Int.mul_nonneg cb9.1 (show 0 ≤ n9 - (k : Int) + 1 by omega); have := rj_pb (a := sp_wy n9 k) (b := n9 - (k : Int) + 1) (A := 70) (B := 9) (by omega) (by omega); omega) (by omega) dX11_oddsOfClear_32 ?_
          refine go_lstoreS (lv' := [(0, .ref cb), (1, rj_i n9), (2, rj_i least), (3, rj_l (sp_su (sp_tells s 284 0) n9 least.toNat k)), (5, rj_l (((sp_wy n9 k) * ((n9 - (k : Int)) + 1)) / (k : Int))), (7, rj_i (k : Int))]) (by decide) rfl dX11_oddsOfClear_33 ?_
          rw [show ((sp_wy n9 k) * ((n9 - (k : Int)) + 1)) / (k : Int) = sp_ch n9 k from by show sp_ch n9 (k - 1) * _ / _ = _; exact sp_ch_e n9 k (by omega)]
          refine go_bipush (v := Int32.ofInt 10) dX11_oddsOfClear_35 (by decide) ?_
          refine go_aload_n dX11_oddsOfClear_37 rfl 0 rfl ?_
          refine rc_gx hR.V (k := 0) (by decide) fX11_12 rfl dX11_oddsOfClear_38 ?_
          refine rc_gs hR.V (k := 8) (v := .ref (ad 2 0)) (by decide) fX11_124 hR.vref dX11_oddsOfClear_41 ?_
          refine rc_gv7 hR fX11_347 dX11_oddsOfClear_44 ?_
          refine go_subI dX11_oddsOfClear_47 ?_
          refine go_i2lI (by omega) dX11_oddsOfClear_48 ?_
          refine go_iload dX11_oddsOfClear_49 5 rfl ?_
          refine go_callS (d1 := d - 1) wSX11_208 rfl (by omega) (x_power (b := 10 - (sp_tells s 284 0)) (e9 := (k : Int)) (by omega)) rfl (Nat.le_of_ble_eq_true rfl) dX11_oddsOfClear_51 (fun w σ1 hP9 => ?_)
          obtain ⟨rfl, rfl⟩ := hP9
          refine go_aload_n dX11_oddsOfClear_54 rfl 0 rfl ?_
          refine rc_gx hR.V (k := 0) (by decide) fX11_12 rfl dX11_oddsOfClear_55 ?_
          refine rc_gs hR.V (k := 8) (v := .ref (ad 2 0)) (by decide) fX11_124 hR.vref dX11_oddsOfClear_58 ?_
          refine rc_gv7 hR fX11_347 dX11_oddsOfClear_61 ?_
          refine go_i2lI (by omega) dX11_oddsOfClear_64 ?_
          refine go_iload_n dX11_oddsOfClear_65 rfl 1 rfl ?_
          refine go_iload dX11_oddsOfClear_66 5 rfl ?_
          refine go_subI dX11_oddsOfClear_68 ?_
          refine go_callS (d1 := d - 1) wSX11_208 rfl (by omega) (x_power (b := sp_tells s 284 0) (e9 := n9 - (k : Int)) (by omega)) rfl (Nat.le_of_ble_eq_true rfl) dX11_oddsOfClear_69 (fun w σ1 hP9 => ?_)
          obtain ⟨rfl, rfl⟩ := hP9
          refine go_lmulI dX11_oddsOfClear_72 ?_
          refine go_lstoreS (lv' := [(0, .ref cb), (1, rj_i n9), (2, rj_i least), (3, rj_l (sp_su (sp_tells s 284 0) n9 least.toNat k)), (5, rj_l (sp_ch n9 k)), (7, rj_i (k : Int)), (8, rj_l (((10 - (sp_tells s 284 0)) ^ (k : Int).toNat) * ((sp_tells s 284 0) ^ (n9 - (k : Int)).toNat)))]) (by decide) rfl dX11_oddsOfClear_73 ?_
          refine go_iload dX11_oddsOfClear_75 5 rfl ?_
          refine go_iload_n dX11_oddsOfClear_77 rfl 2 rfl ?_
          refine go_icmp_ltI (tgt := 89) (by omega) (by omega) dX11_oddsOfClear_78 (by decide) (fun c_78 => ?_) (fun c_78 => ?_)
          · refine go_iincI (a := (k : Int)) (n := 1) (k0 := 5) (lv' := [(0, .ref cb), (1, rj_i n9), (2, rj_i least), (3, rj_l (sp_su (sp_tells s 284 0) n9 least.toNat k)), (5, rj_l (sp_ch n9 k)), (7, rj_i ((k : Int) + 1)), (8, rj_l (((10 - (sp_tells s 284 0)) ^ (k : Int).toNat) * ((sp_tells s 284 0) ^ (n9 - (k : Int)).toNat)))]) rfl (by decide) rfl dX11_oddsOfClear_89 ?_
            refine go_goto (tgt := 8) dX11_oddsOfClear_92 (by decide) ?_
            refine go_sub (lv' := [(0, .ref cb), (1, rj_i n9), (2, rj_i least), (3, rj_l (sp_su (sp_tells s 284 0) n9 least.toNat k)), (5, rj_l (sp_ch n9 k)), (7, rj_i ((k : Int) + 1))]) (by intro q hq; simp only [List.mem_cons, List.not_mem_nil, or_false] at hq ⊢; rcases hq with rfl | rfl | rfl | rfl | rfl | rfl <;> simp) ?_
            exact go_eq rfl (lv' := [(0, .ref cb), (1, rj_i n9), (2, rj_i least), (3, rj_l (sp_su (sp_tells s 284 0) n9 least.toNat (k + 1))), (5, rj_l (sp_wy n9 (k + 1))), (7, rj_i ((k + 1 : Nat) : Int))]) (rj_lk (rj_lk (rj_lk (rj_lL ((sp_su_n (by omega)).symm) (rj_lL (rfl) (rj_lj (by omega) rfl)))))) rfl rfl (ih (k + 1) (by omega))
          · refine go_lload_n dX11_oddsOfClear_81 rfl 3 rfl ?_
            refine go_lload dX11_oddsOfClear_82 4 rfl ?_
            refine go_lload dX11_oddsOfClear_84 6 rfl ?_
            refine go_lmulI dX11_oddsOfClear_86 ?_
            refine go_laddI dX11_oddsOfClear_87 ?_
            refine go_lstore_nS (lv' := [(0, .ref cb), (1, rj_i n9), (2, rj_i least), (3, rj_l ((sp_su (sp_tells s 284 0) n9 least.toNat k) + ((sp_ch n9 k) * (((10 - (sp_tells s 284 0)) ^ (k : Int).toNat) * ((sp_tells s 284 0) ^ (n9 - (k : Int)).toNat))))), (5, rj_l (sp_ch n9 k)), (7, rj_i (k : Int)), (8, rj_l (((10 - (sp_tells s 284 0)) ^ (k : Int).toNat) * ((sp_tells s 284 0) ^ (n9 - (k : Int)).toNat)))]) rfl (by decide) rfl dX11_oddsOfClear_88 ?_
            refine go_iincI (a := (k : Int)) (n := 1) (k0 := 5) (lv' := [(0, .ref cb), (1, rj_i n9), (2, rj_i least), (3, rj_l ((sp_su (sp_tells s 284 0) n9 least.toNat k) + ((sp_ch n9 k) * (((10 - (sp_tells s 284 0)) ^ (k : Int).toNat) * ((sp_tells s 284 0) ^ (n9 - (k : Int)).toNat))))), (5, rj_l (sp_ch n9 k)), (7, rj_i ((k : Int) + 1)), (8, rj_l (((10 - (sp_tells s 284 0)) ^ (k : Int).toNat) * ((sp_tells s 284 0) ^ (n9 - (k : Int)).toNat)))]) rfl (by decide) rfl dX11_oddsOfClear_89 ?_
            refine go_goto (tgt := 8) dX11_oddsOfClear_92 (by decide) ?_
            refine go_sub (lv' := [(0, .ref cb), (1, rj_i n9), (2, rj_i least), (3, rj_l ((sp_su (sp_tells s 284 0) n9 least.toNat k) + ((sp_ch n9 k) * (((10 - (sp_tells s 284 0)) ^ (k : Int).toNat) * ((sp_tells s 284 0) ^ (n9 - (k : Int)).toNat))))), (5, rj_l (sp_ch n9 k)), (7, rj_i ((k : Int) + 1))]) (by intro q hq; simp only [List.mem_cons, List.not_mem_nil, or_false] at hq ⊢; rcases hq with rfl | rfl | rfl | rfl | rfl | rfl <;> simp) ?_
            exact go_eq rfl (lv' := [(0, .ref cb), (1, rj_i n9), (2, rj_i least), (3, rj_l (sp_su (sp_tells s 284 0) n9 least.toNat (k + 1))), (5, rj_l (sp_wy n9 (k + 1))), (7, rj_i ((k + 1 : Nat) : Int))]) (rj_lk (rj_lk (rj_lk (rj_lL (by rw [sp_su_s (by omega)]; unfold sp_odd; rw [Int.mul_assoc]; rfl) (rj_lL (rfl) (rj_lj (by omega) rfl)))))) rfl rfl (ih (k + 1) (by omega))
  exact go_eq rfl (lv' := [(0, .ref cb), (1, rj_i n9), (2, rj_i least), (3, rj_l (sp_su (sp_tells s 284 0) n9 least.toNat 0)), (5, rj_l (sp_wy n9 0)), (7, rj_i ((0 : Nat) : Int))]) (rj_lk (rj_lk (rj_lk (rj_lL (by unfold sp_su; rw [show 0 - least.toNat = 0 by omega]; rfl) (rj_lL (rfl) (rj_lj (rfl) rfl)))))) rfl rfl (loop (n9 + 1).toNat 0 (by omega))
theorem sp_qnL {s : Int → Int} {p : Int} (h0 : 0 ≤ s 0 ∧ s 0 ≤ 6) (hM : sp_IM s) : sp_sum (fun q8 => rj_b ((fun q7 => sp_any s (s 4) p q7 (s 0).toNat) q8 = true)) 8 = sp_qn s p := by
  unfold sp_qn
  refine sp_sum_ext 8 (fun q _ _ => ?_)
  show rj_b (sp_any s (s 4) p q (s 0).toNat = true) = sp_q1 s p q
  rw [sp_anyL h0 hM]
  unfold rj_b sp_q1
  by_cases h : 0 < sp_lat s (s 4) p q
  · rw [if_pos h, if_pos (decide_eq_true h)]
  · rw [if_neg h, if_neg (by rw [decide_eq_false h]; decide)]
set_option maxRecDepth 20000 in
/-- x_kept -/
theorem x_kept {X9 : rj_X} {σ : rj_H} {d cb vv vk : Nat} {c : rm_R} {p k9 part : Int} (hd : 7 ≤ d) (hp : -2147483648 ≤ p ∧ p < 2147483648) (hk9 : -2147483648 ≤ k9 ∧ k9 < 2147483648) (hpart : -2147483648 ≤ part ∧ part < 2147483648) {s : Int → Int} {ad : Nat → Int → Nat} (hR : rc_R X9 cb vv vk c σ s ad) (hI : sp_I s) : rj_Cl X9 d yX11_kept cX11_kept 11 (some .long) [.ref cb, rj_i p, rj_i k9, rj_i part] (rc_p X9 cb vv vk c σ) (fun w9 τ => w9 = some (rj_l (sp_keptF s p k9 part)) ∧ ∃ c0, rc_t 92 c c0 ∧ τ = rc_p X9 cb vv vk c0 σ) := by
  obtain ⟨⟨h0, h1, h2, h3, h4, h5, h6, h7⟩, hM, hP, hW, hL, hV⟩ := id hI
  obtain ⟨v1, v2, v3, v4⟩ := id hV
  refine go_call (by decide +kernel) (Nat.le_of_ble_eq_true rfl) ?_
  refine go_eq (pc' := 0) (lv' := [(0, .ref cb), (1, rj_i p), (2, rj_i k9), (3, rj_i part)]) (st' := []) rfl rfl rfl rfl ?_
  refine go_aload_n dX11_kept_0 rfl 0 rfl ?_
  refine rc_gx hR.V (k := 0) (by decide) fX11_12 rfl dX11_kept_1 ?_
  refine go_iload_n dX11_kept_4 rfl 1 rfl ?_
  refine go_callV (d1 := d - 1) wVX11_104 kX5 (rc_a1 hR.V) rfl (by omega) (x_hasPatch (p := p) (by omega) hR hI) rfl (Nat.le_of_ble_eq_true rfl) dX11_kept_5 (fun w σ1 hP9 => ?_)
  obtain ⟨rfl, rfl⟩ := hP9
  refine go_if_eqB (tgt := 30) dX11_kept_8 (by decide) (fun c_8 => ?_) (fun c_8 => ?_)
  · refine go_ldc2 (z := Int64.ofInt (-9223372036854775808)) (by exact qX11_200) dX11_kept_30 ?_
    refine go_retLI rfl ?_ dX11_kept_33
    exact ⟨rj_vl (by unfold sp_keptF; rw [if_neg (by omega)]), c, rc_t.rf, rfl⟩
  · refine go_iload_n dX11_kept_11 rfl 2 rfl ?_
    refine go_if_ltI (tgt := 30) (by omega) dX11_kept_12 (by decide) (fun c_12 => ?_) (fun c_12 => ?_)
    · refine go_ldc2 (z := Int64.ofInt (-9223372036854775808)) (by exact qX11_200) dX11_kept_30 ?_
      refine go_retLI rfl ?_ dX11_kept_33
      exact ⟨rj_vl (by unfold sp_keptF; rw [if_neg (by omega)]), c, rc_t.rf, rfl⟩
    · refine go_iload_n dX11_kept_15 rfl 2 rfl ?_
      refine go_bipush (v := Int32.ofInt 8) dX11_kept_16 (by decide) ?_
      refine go_icmp_gtI (tgt := 30) (by omega) (by omega) dX11_kept_18 (by decide) (fun c_18 => ?_) (fun c_18 => ?_)
      · refine go_ldc2 (z := Int64.ofInt (-9223372036854775808)) (by exact qX11_200) dX11_kept_30 ?_
        refine go_retLI rfl ?_ dX11_kept_33
        exact ⟨rj_vl (by unfold sp_keptF; rw [if_neg (by omega)]), c, rc_t.rf, rfl⟩
      · refine go_iload_n dX11_kept_21 rfl 3 rfl ?_
        refine go_if_ltI (tgt := 30) (by omega) dX11_kept_22 (by decide) (fun c_22 => ?_) (fun c_22 => ?_)
        · refine go_ldc2 (z := Int64.ofInt (-9223372036854775808)) (by exact qX11_200) dX11_kept_30 ?_
          refine go_retLI rfl ?_ dX11_kept_33
          exact ⟨rj_vl (by unfold sp_keptF; rw [if_neg (by omega)]), c, rc_t.rf, rfl⟩
        · refine go_iload_n dX11_kept_25 rfl 3 rfl ?_
          refine go_iconst (v := Int32.ofInt 1) dX11_kept_26 rfl ?_
          refine go_icmp_leI (tgt := 34) (by omega) (by omega) dX11_kept_27 (by decide) (fun c_27 => ?_) (fun c_27 => ?_)
          · refine go_aload_n dX11_kept_34 rfl 0 rfl ?_
            refine rc_gx hR.V (k := 0) (by decide) fX11_12 rfl dX11_kept_35 ?_
            refine go_iload_n dX11_kept_38 rfl 1 rfl ?_
            refine go_aload_n dX11_kept_39 rfl 0 rfl ?_
            refine rc_gx hR.V (k := 0) (by decide) fX11_12 rfl dX11_kept_40 ?_
            refine rc_gs hR.V (k := 11) (v := rj_i (s 4)) (by decide) fX11_136 (rj_vi hR.n4) dX11_kept_43 ?_
            refine go_callV (d1 := d - 1) wVX11_162 kX5 (rc_a1 hR.V) rfl (by omega) (x_lightQ (p := p) (D := s 4) (by omega) hR hI (by omega) (by omega)) rfl (Nat.le_of_ble_eq_true rfl) dX11_kept_46 (fun w σ1 hP9 => ?_)
            obtain ⟨rfl, c1, hc1, rfl⟩ := hP9
            have hr1 : rc_t 92 c c1 := hc1
            refine go_callS (d1 := d - 1) wSX11_186 rfl (by omega) (j_bit (fun q7 => sp_any s (s 4) p q7 (s 0).toNat)) rfl (Nat.le_of_ble_eq_true rfl) dX11_kept_49 (fun w σ1 hP9 => ?_)
            obtain ⟨rfl, rfl⟩ := hP9
            rw [show sp_sum (fun q8 => rj_b ((fun q7 => sp_any s (s 4) p q7 (s 0).toNat) q8 = true)) 8 = sp_qn s p from sp_qnL h0 hM]
            have qb := sp_qn_b s p
            have pb := sp_pow_b2 (c := 10) (by omega) (e := (sp_qn s p).toNat) (by omega)
            have p1 : (1 : Int) ≤ 10 ^ (sp_qn s p).toNat := by have := Int.pow_pos (n := 10) (m := (sp_qn s p).toNat) (by decide); omega
            have ub : 0 ≤ sp_upA (sp_tells s 284 0) (sp_qn s p) k9.toNat ∧ sp_upA (sp_tells s 284 0) (sp_qn s p) k9.toNat ≤ 700000000000000000 * 9 := by unfold sp_upA; have := sp_upN_b (c := (sp_tells s 284 0)) (n := sp_qn s p) (by omega) (by omega) k9.toNat (sp_qn s p + 1 - (k9.toNat : Int)).toNat; by_cases hh : (k9.toNat : Int) ≤ sp_qn s p + 1; (· have h2 := this (by omega); omega); (· rw [show (sp_qn s p + 1 - (k9.toNat : Int)).toNat = 0 by omega]; simp [sp_upN])
            obtain ⟨g9, hg9⟩ : ∃ g : Nat, g = Nat.gcd (sp_upA (sp_tells s 284 0) (sp_qn s p) k9.toNat).toNat ((10 : Int) ^ (sp_qn s p).toNat).toNat := ⟨_, rfl⟩
            have gb : 1 ≤ g9 := by rw [hg9]; exact Nat.gcd_pos_of_pos_right _ (by omega)
            have gb2 : g9 ≤ 100000000 := by have := Nat.gcd_le_right (sp_upA (sp_tells s 284 0) (sp_qn s p) k9.toNat).toNat (show 0 < ((10 : Int) ^ (sp_qn s p).toNat).toNat by omega); omega
            refine go_istoreS (lv' := [(0, .ref cb), (1, rj_i p), (2, rj_i k9), (3, rj_i part), (4, rj_i (sp_qn s p))]) (by decide) rfl dX11_kept_52 ?_
            refine go_aload_n dX11_kept_54 rfl 0 rfl ?_
            refine go_iload dX11_kept_55 4 rfl ?_
            refine go_iload_n dX11_kept_57 rfl 2 rfl ?_
            refine go_callV (d1 := d - 1) wVX11_202 kX11 (rc_a0 (hR.t (hr1.le (by decide))).V) rfl (by omega) (x_odds (n9 := sp_qn s p) (least := k9) (by omega) (hR.t (hr1.le (by decide))) hI (by omega) (by omega)) rfl (Nat.le_of_ble_eq_true rfl) dX11_kept_58 (fun w σ1 hP9 => ?_)
            obtain ⟨rfl, rfl⟩ := hP9
            refine go_lstoreS (lv' := [(0, .ref cb), (1, rj_i p), (2, rj_i k9), (3, rj_i part), (4, rj_i (sp_qn s p)), (5, rj_l (sp_upA (sp_tells s 284 0) (sp_qn s p) k9.toNat))]) (by decide) rfl dX11_kept_61 ?_
            refine go_ldc2 (z := Int64.ofInt 10) (by exact qX11_206) dX11_kept_63 ?_
            refine go_iload dX11_kept_66 4 rfl ?_
            refine go_callS (d1 := d - 1) wSX11_208 rfl (by omega) (x_power (b := 10) (e9 := sp_qn s p) (by omega)) rfl (Nat.le_of_ble_eq_true rfl) dX11_kept_68 (fun w σ1 hP9 => ?_)
            obtain ⟨rfl, rfl⟩ := hP9
            refine go_lstoreS (lv' := [(0, .ref cb), (1, rj_i p), (2, rj_i k9), (3, rj_i part), (4, rj_i (sp_qn s p)), (5, rj_l (sp_upA (sp_tells s 284 0) (sp_qn s p) k9.toNat)), (7, rj_l (10 ^ (sp_qn s p).toNat))]) (by decide) rfl dX11_kept_71 ?_
            refine go_lload dX11_kept_73 5 rfl ?_
            refine go_lload dX11_kept_75 6 rfl ?_
            refine go_callS (d1 := d - 1) wSX11_212 rfl (by omega) (x_gcd (a := sp_upA (sp_tells s 284 0) (sp_qn s p) k9.toNat) (b := 10 ^ (sp_qn s p).toNat) (by omega) (by omega)) rfl (Nat.le_of_ble_eq_true rfl) dX11_kept_77 (fun w σ1 hP9 => ?_)
            obtain ⟨rfl, rfl⟩ := hP9
            rw [← hg9]
            refine go_lstoreS (lv' := [(0, .ref cb), (1, rj_i p), (2, rj_i k9), (3, rj_i part), (4, rj_i (sp_qn s p)), (5, rj_l (sp_upA (sp_tells s 284 0) (sp_qn s p) k9.toNat)), (7, rj_l (10 ^ (sp_qn s p).toNat)), (9, rj_l (g9 : Int))]) (by decide) rfl dX11_kept_80 ?_
            refine go_iload_n dX11_kept_82 rfl 3 rfl ?_
            refine go_if_neI (tgt := 91) (by omega) dX11_kept_83 (by decide) (fun c_83 => ?_) (fun c_83 => ?_)
            · refine go_lload dX11_kept_91 6 rfl ?_
              refine go_lload dX11_kept_93 7 rfl ?_
              refine go_lconst1 dX11_kept_95 ?_
              refine go_mmaxL (a := (g9 : Int)) (b := 1) (by omega) (by omega) wSX11_216 (by omega) (Nat.le_of_ble_eq_true rfl) dX11_kept_96 ?_
              refine go_ldivI (by omega) (by split <;> omega) dX11_kept_99 ?_
              refine go_retLI rfl ?_ dX11_kept_100
              exact ⟨rj_vl (by have e1 : (if (1 : Int) < (g9 : Int) then (g9 : Int) else 1) = (g9 : Int) := (by split <;> omega); rw [e1]; unfold sp_keptF; rw [if_pos (by omega), if_neg (by omega), ← hg9]), c1, hr1, rfl⟩
            · refine go_lload dX11_kept_86 5 rfl ?_
              refine go_goto (tgt := 93) dX11_kept_88 (by decide) ?_
              refine go_lload dX11_kept_93 7 rfl ?_
              refine go_lconst1 dX11_kept_95 ?_
              refine go_mmaxL (a := (g9 : Int)) (b := 1) (by omega) (by omega) wSX11_216 (by omega) (Nat.le_of_ble_eq_true rfl) dX11_kept_96 ?_
              refine go_ldivI (by omega) (by split <;> omega) dX11_kept_99 ?_
              refine go_retLI rfl ?_ dX11_kept_100
              exact ⟨rj_vl (by have e1 : (if (1 : Int) < (g9 : Int) then (g9 : Int) else 1) = (g9 : Int) := (by split <;> omega); rw [e1]; unfold sp_keptF; rw [if_pos (by omega), if_pos (by omega), ← hg9]), c1, hr1, rfl⟩
          · refine go_ldc2 (z := Int64.ofInt (-9223372036854775808)) (by exact qX11_200) dX11_kept_30 ?_
            refine go_retLI rfl ?_ dX11_kept_33
            exact ⟨rj_vl (by unfold sp_keptF; rw [if_neg (by omega)]), c, rc_t.rf, rfl⟩
