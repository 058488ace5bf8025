/-! THE CLASS: take -/
theorem sp_p2 : ∀ n : Nat, n ≤ 6 → (1 : Int) ≤ 2 ^ n ∧ (2 : Int) ^ n ≤ 64 := by decide
theorem sp_tk_i (s : Int → Int) (coin : Int) : ∀ k : Nat, (sp_tk s coin k).2.1 = sp_ts (sp_lq s) (sp_tk s coin k).1 (s 0).toNat ∧ (sp_tk s coin k).2.2 = sp_ts (sp_co s) (sp_tk s coin k).1 (s 0).toNat
  | 0 => ⟨(sp_ts0 _ _).symm, (sp_ts0 _ _).symm⟩
  | k + 1 => by
    rw [sp_tk, sp_tkS]
    split
    · exact ⟨rfl, rfl⟩
    · exact sp_tk_i s coin k
/-- the row of lits -/
abbrev rc_lt (s : Int → Int) (c : rm_R) : Prop := ∀ j : Int, 0 ≤ j → j < s 0 → c 90 j = sp_lq s j
set_option maxRecDepth 20000 in
/-- x_litOf -/
theorem x_litOf {X9 : rj_X} {σ : rj_H} {d cb vv vk : Nat} {c : rm_R} {x : Int} (hd : 1 ≤ d) {s : Int → Int} {ad : Nat → Int → Nat} (hR : rc_R X9 cb vv vk c σ s ad) (hI : sp_I s) (hx9 : 0 ≤ x ∧ x < 256) (hl9 : rc_lt s c) : rj_Cl X9 d yX11_litOf cX11_litOf 4 (some .int) [.ref cb, rj_i x] (rc_p X9 cb vv vk c σ) (fun w9 τ => w9 = some (rj_i (sp_ts (sp_lq s) x (s 0).toNat)) ∧ τ = rc_p X9 cb vv vk c σ) := by
  obtain ⟨⟨h0, h1, h2, h3, h4, h5, h6, h7⟩, hM, hP, hW, hL, hV⟩ := id hI
  obtain ⟨v1, v2, v3, v4⟩ := id hV
  refine go_call (by decide +kernel) (Nat.le_of_ble_eq_true rfl) ?_
  refine go_eq (pc' := 0) (lv' := [(0, .ref cb), (1, rj_i x)]) (st' := []) rfl rfl rfl rfl ?_
  refine go_iconst (v := Int32.ofInt 0) dX11_litOf_0 rfl ?_
  refine go_istore_nS (lv' := [(0, .ref cb), (1, rj_i x), (2, rj_i 0)]) rfl (by decide) rfl dX11_litOf_1 ?_
  refine go_iconst (v := Int32.ofInt 0) dX11_litOf_2 rfl ?_
  refine go_istore_nS (lv' := [(0, .ref cb), (1, rj_i x), (2, rj_i 0), (3, rj_i 0)]) rfl (by decide) rfl dX11_litOf_3 ?_
  have loop : ∀ n k : Nat, k + n = (s 0).toNat → rj_Go X9 yX11_litOf cX11_litOf 4 (some .int) d (fun w9 τ => w9 = some (rj_i (sp_ts (sp_lq s) x (s 0).toNat)) ∧ τ = rc_p X9 cb vv vk c σ) 4 [(0, .ref cb), (1, rj_i x), (2, rj_i (sp_ts (sp_lq s) x k)), (3, rj_i (k : Int))] [] (rc_p X9 cb vv vk c σ) := by
    intro n
    induction n with
    | zero =>
      intro k hk 
      refine go_iload_n dX11_litOf_4 rfl 3 rfl ?_
      refine go_aload_n dX11_litOf_5 rfl 0 rfl ?_
      refine rc_gx hR.V (k := 0) (by decide) fX11_12 rfl dX11_litOf_6 ?_
      refine rc_gs hR.V (k := 1) (v := rj_i (s 0)) (by decide) fX11_60 (rj_vi hR.n0) dX11_litOf_9 ?_
      refine go_icmp_geI (tgt := 38) (by omega) (by omega) dX11_litOf_12 (by decide) (fun c_12 => ?_) (fun c_12 => ?_)
      · refine go_iload_n dX11_litOf_38 rfl 2 rfl ?_
        refine go_retI rfl rfl ?_ dX11_litOf_39
        exact ⟨rj_vi (by rw [show (s 0).toNat = k by omega]), rfl⟩
      · exact absurd c_12 (by omega)
    | succ n ih =>
      intro k hk 
      refine go_iload_n dX11_litOf_4 rfl 3 rfl ?_
      refine go_aload_n dX11_litOf_5 rfl 0 rfl ?_
      refine rc_gx hR.V (k := 0) (by decide) fX11_12 rfl dX11_litOf_6 ?_
      refine rc_gs hR.V (k := 1) (v := rj_i (s 0)) (by decide) fX11_60 (rj_vi hR.n0) dX11_litOf_9 ?_
      refine go_icmp_geI (tgt := 38) (by omega) (by omega) dX11_litOf_12 (by decide) (fun c_12 => ?_) (fun c_12 => ?_)
      · exact absurd c_12 (by omega)
      · refine go_iload_n dX11_litOf_15 rfl 1 rfl ?_
        refine go_iload_n dX11_litOf_16 rfl 3 rfl ?_
        refine go_callS (d1 := d - 1) wSX11_225 rfl (by omega) (x_isInI (x := x) (m := (k : Int)) (by omega) (by omega)) rfl (Nat.le_of_ble_eq_true rfl) dX11_litOf_17 (fun w σ1 hP9 => ?_)
        obtain ⟨rfl, rfl⟩ := hP9
        refine go_if_eqB (tgt := 32) dX11_litOf_20 (by decide) (fun c_20 => ?_) (fun c_20 => ?_)
        · refine go_iincI (a := (k : Int)) (n := 1) (k0 := 3) (lv' := [(0, .ref cb), (1, rj_i x), (2, rj_i (sp_ts (sp_lq s) x k)), (3, rj_i ((k : Int) + 1))]) rfl (by decide) rfl dX11_litOf_32 ?_
          refine go_goto (tgt := 4) dX11_litOf_35 (by decide) ?_
          exact go_eq rfl (lv' := [(0, .ref cb), (1, rj_i x), (2, rj_i (sp_ts (sp_lq s) x (k + 1))), (3, rj_i ((k + 1 : Nat) : Int))]) (rj_lk (rj_lk (rj_lj (by rw [sp_ts_s, if_neg c_20, Int.add_zero]) (rj_lj (by omega) rfl)))) rfl rfl (ih (k + 1) (by omega))
        · refine go_iload_n dX11_litOf_23 rfl 2 rfl ?_
          refine go_aload_n dX11_litOf_24 rfl 0 rfl ?_
          refine rc_gx hR.V (k := 8) (by decide) fX11_47 rfl dX11_litOf_25 ?_
          refine go_iload_n dX11_litOf_28 rfl 3 rfl ?_
          refine rc_ld hR.V (n := 90) (L := 6) rfl rfl (by omega) (by omega) (by decide) dX11_litOf_29 ?_
          rw [show c 90 (k : Int) = sp_lq s k from (hl9 k (by omega) (by omega))]
          refine go_addI dX11_litOf_30 ?_
          refine go_istore_nS (lv' := [(0, .ref cb), (1, rj_i x), (2, rj_i ((sp_ts (sp_lq s) x k) + (sp_lq s k))), (3, rj_i (k : Int))]) rfl (by decide) rfl dX11_litOf_31 ?_
          refine go_iincI (a := (k : Int)) (n := 1) (k0 := 3) (lv' := [(0, .ref cb), (1, rj_i x), (2, rj_i ((sp_ts (sp_lq s) x k) + (sp_lq s k))), (3, rj_i ((k : Int) + 1))]) rfl (by decide) rfl dX11_litOf_32 ?_
          refine go_goto (tgt := 4) dX11_litOf_35 (by decide) ?_
          exact go_eq rfl (lv' := [(0, .ref cb), (1, rj_i x), (2, rj_i (sp_ts (sp_lq s) x (k + 1))), (3, rj_i ((k + 1 : Nat) : Int))]) (rj_lk (rj_lk (rj_lj (by rw [sp_ts_s, if_pos c_20]) (rj_lj (by omega) rfl)))) rfl rfl (ih (k + 1) (by omega))
  exact go_eq rfl (lv' := [(0, .ref cb), (1, rj_i x), (2, rj_i (sp_ts (sp_lq s) x 0)), (3, rj_i ((0 : Nat) : Int))]) (rj_lk (rj_lk (rj_lj (rfl) (rj_lj (rfl) rfl)))) rfl rfl (loop (s 0).toNat 0 (by omega))
set_option maxRecDepth 20000 in
/-- x_costOf -/
theorem x_costOf {X9 : rj_X} {σ : rj_H} {d cb vv vk : Nat} {c : rm_R} {x : Int} (hd : 1 ≤ d) {s : Int → Int} {ad : Nat → Int → Nat} (hR : rc_R X9 cb vv vk c σ s ad) (hI : sp_I s) (hx9 : 0 ≤ x ∧ x < 256) : rj_Cl X9 d yX11_costOf cX11_costOf 4 (some .int) [.ref cb, rj_i x] (rc_p X9 cb vv vk c σ) (fun w9 τ => w9 = some (rj_i (sp_ts (sp_co s) x (s 0).toNat)) ∧ τ = rc_p X9 cb vv vk c σ) := by
  obtain ⟨⟨h0, h1, h2, h3, h4, h5, h6, h7⟩, hM, hP, hW, hL, hV⟩ := id hI
  obtain ⟨v1, v2, v3, v4⟩ := id hV
  refine go_call (by decide +kernel) (Nat.le_of_ble_eq_true rfl) ?_
  refine go_eq (pc' := 0) (lv' := [(0, .ref cb), (1, rj_i x)]) (st' := []) rfl rfl rfl rfl ?_
  refine go_iconst (v := Int32.ofInt 0) dX11_costOf_0 rfl ?_
  refine go_istore_nS (lv' := [(0, .ref cb), (1, rj_i x), (2, rj_i 0)]) rfl (by decide) rfl dX11_costOf_1 ?_
  refine go_iconst (v := Int32.ofInt 0) dX11_costOf_2 rfl ?_
  refine go_istore_nS (lv' := [(0, .ref cb), (1, rj_i x), (2, rj_i 0), (3, rj_i 0)]) rfl (by decide) rfl dX11_costOf_3 ?_
  have loop : ∀ n k : Nat, k + n = (s 0).toNat → rj_Go X9 yX11_costOf cX11_costOf 4 (some .int) d (fun w9 τ => w9 = some (rj_i (sp_ts (sp_co s) x (s 0).toNat)) ∧ τ = rc_p X9 cb vv vk c σ) 4 [(0, .ref cb), (1, rj_i x), (2, rj_i (sp_ts (sp_co s) x k)), (3, rj_i (k : Int))] [] (rc_p X9 cb vv vk c σ) := by
    intro n
    induction n with
    | zero =>
      intro k hk 
      refine go_iload_n dX11_costOf_4 rfl 3 rfl ?_
      refine go_aload_n dX11_costOf_5 rfl 0 rfl ?_
      refine rc_gx hR.V (k := 0) (by decide) fX11_12 rfl dX11_costOf_6 ?_
      refine rc_gs hR.V (k := 1) (v := rj_i (s 0)) (by decide) fX11_60 (rj_vi hR.n0) dX11_costOf_9 ?_
      refine go_icmp_geI (tgt := 44) (by omega) (by omega) dX11_costOf_12 (by decide) (fun c_12 => ?_) (fun c_12 => ?_)
      · refine go_iload_n dX11_costOf_44 rfl 2 rfl ?_
        refine go_retI rfl rfl ?_ dX11_costOf_45
        exact ⟨rj_vi (by rw [show (s 0).toNat = k by omega]), rfl⟩
      · exact absurd c_12 (by omega)
    | succ n ih =>
      intro k hk 
      refine go_iload_n dX11_costOf_4 rfl 3 rfl ?_
      refine go_aload_n dX11_costOf_5 rfl 0 rfl ?_
      refine rc_gx hR.V (k := 0) (by decide) fX11_12 rfl dX11_costOf_6 ?_
      refine rc_gs hR.V (k := 1) (v := rj_i (s 0)) (by decide) fX11_60 (rj_vi hR.n0) dX11_costOf_9 ?_
      refine go_icmp_geI (tgt := 44) (by omega) (by omega) dX11_costOf_12 (by decide) (fun c_12 => ?_) (fun c_12 => ?_)
      · exact absurd c_12 (by omega)
      · refine go_iload_n dX11_costOf_15 rfl 1 rfl ?_
        refine go_iload_n dX11_costOf_16 rfl 3 rfl ?_
        refine go_callS (d1 := d - 1) wSX11_225 rfl (by omega) (x_isInI (x := x) (m := (k : Int)) (by omega) (by omega)) rfl (Nat.le_of_ble_eq_true rfl) dX11_costOf_17 (fun w σ1 hP9 => ?_)
        obtain ⟨rfl, rfl⟩ := hP9
        refine go_if_eqB (tgt := 38) dX11_costOf_20 (by decide) (fun c_20 => ?_) (fun c_20 => ?_)
        · refine go_iincI (a := (k : Int)) (n := 1) (k0 := 3) (lv' := [(0, .ref cb), (1, rj_i x), (2, rj_i (sp_ts (sp_co s) x k)), (3, rj_i ((k : Int) + 1))]) rfl (by decide) rfl dX11_costOf_38 ?_
          refine go_goto (tgt := 4) dX11_costOf_41 (by decide) ?_
          exact go_eq rfl (lv' := [(0, .ref cb), (1, rj_i x), (2, rj_i (sp_ts (sp_co s) x (k + 1))), (3, rj_i ((k + 1 : Nat) : Int))]) (rj_lk (rj_lk (rj_lj (by rw [sp_ts_s, if_neg c_20, Int.add_zero]) (rj_lj (by omega) rfl)))) rfl rfl (ih (k + 1) (by omega))
        · refine go_iload_n dX11_costOf_23 rfl 2 rfl ?_
          refine go_aload_n dX11_costOf_24 rfl 0 rfl ?_
          refine rc_gx hR.V (k := 0) (by decide) fX11_12 rfl dX11_costOf_25 ?_
          refine rc_gs hR.V (k := 0) (v := .ref (cb + 2)) (by decide) fX11_64 rfl dX11_costOf_28 ?_
          refine go_iload_n dX11_costOf_31 rfl 3 rfl ?_
          refine rc_em hR (m := (k : Int)) (by omega) (by omega) h0 dX11_costOf_32 ?_
          refine rc_gm (hR.mir (k : Int) (by omega) (by omega)).2 ((hM (k : Int) (by omega) (by omega)).1) (k := 6) (by decide) fX11_344 rfl dX11_costOf_33 ?_
          refine go_addI dX11_costOf_36 ?_
          refine go_istore_nS (lv' := [(0, .ref cb), (1, rj_i x), (2, rj_i ((sp_ts (sp_co s) x k) + (s (160 + (k : Int))))), (3, rj_i (k : Int))]) rfl (by decide) rfl dX11_costOf_37 ?_
          refine go_iincI (a := (k : Int)) (n := 1) (k0 := 3) (lv' := [(0, .ref cb), (1, rj_i x), (2, rj_i ((sp_ts (sp_co s) x k) + (s (160 + (k : Int))))), (3, rj_i ((k : Int) + 1))]) rfl (by decide) rfl dX11_costOf_38 ?_
          refine go_goto (tgt := 4) dX11_costOf_41 (by decide) ?_
          exact go_eq rfl (lv' := [(0, .ref cb), (1, rj_i x), (2, rj_i (sp_ts (sp_co s) x (k + 1))), (3, rj_i ((k + 1 : Nat) : Int))]) (rj_lk (rj_lk (rj_lj (by rw [sp_ts_s, if_pos c_20]; rfl) (rj_lj (by omega) rfl)))) rfl rfl (ih (k + 1) (by omega))
  exact go_eq rfl (lv' := [(0, .ref cb), (1, rj_i x), (2, rj_i (sp_ts (sp_co s) x 0)), (3, rj_i ((0 : Nat) : Int))]) (rj_lk (rj_lk (rj_lj (rfl) (rj_lj (rfl) rfl)))) rfl rfl (loop (s 0).toNat 0 (by omega))
set_option maxRecDepth 20000 in
/-- x_bestSet -/
theorem x_bestSet {X9 : rj_X} {σ : rj_H} {d cb vv vk : Nat} {c : rm_R} {coin : Int} (hd : 2 ≤ d) {s : Int → Int} {ad : Nat → Int → Nat} (hR : rc_R X9 cb vv vk c σ s ad) (hI : sp_I s) (hl9 : rc_lt s c) (hcn : 0 ≤ coin ∧ coin ≤ 300) : rj_Cl X9 d yX11_bestSet cX11_bestSet 6 (some .int) [.ref cb, rj_i coin] (rc_p X9 cb vv vk c σ) (fun w9 τ => w9 = some (rj_i ((sp_tk s coin (2 ^ (s 0).toNat)).1)) ∧ τ = rc_p X9 cb vv vk c σ) := by
  obtain ⟨⟨h0, h1, h2, h3, h4, h5, h6, h7⟩, hM, hP, hW, hL, hV⟩ := id hI
  obtain ⟨v1, v2, v3, v4⟩ := id hV
  have hcm : ∀ m : Int, 0 ≤ m → m < s 0 → 0 ≤ s (160 + m) ∧ s (160 + m) ≤ 99 := fun m a b => (hM m a b).2.2.2.2.2.1
  have hp2 := sp_p2 (s 0).toNat (by omega)
  have hpn := rj_n2 (s 0).toNat
  refine go_call (by decide +kernel) (Nat.le_of_ble_eq_true rfl) ?_
  refine go_eq (pc' := 0) (lv' := [(0, .ref cb), (1, rj_i coin)]) (st' := []) rfl rfl rfl rfl ?_
  refine go_iconst (v := Int32.ofInt 0) dX11_bestSet_0 rfl ?_
  refine go_istore_nS (lv' := [(0, .ref cb), (1, rj_i coin), (2, rj_i 0)]) rfl (by decide) rfl dX11_bestSet_1 ?_
  refine go_iconst (v := Int32.ofInt 1) dX11_bestSet_2 rfl ?_
  refine go_istore_nS (lv' := [(0, .ref cb), (1, rj_i coin), (2, rj_i 0), (3, rj_i 1)]) rfl (by decide) rfl dX11_bestSet_3 ?_
  have loop : ∀ n k : Nat, k + n = ((2 : Int) ^ (s 0).toNat).toNat → 1 ≤ k → rj_Go X9 yX11_bestSet cX11_bestSet 6 (some .int) d (fun w9 τ => w9 = some (rj_i ((sp_tk s coin (2 ^ (s 0).toNat)).1)) ∧ τ = rc_p X9 cb vv vk c σ) 4 [(0, .ref cb), (1, rj_i coin), (2, rj_i ((sp_tk s coin k).1)), (3, rj_i (k : Int))] [] (rc_p X9 cb vv vk c σ) := by
    intro n
    induction n with
    | zero =>
      intro k hk h1k
      refine go_iload_n dX11_bestSet_4 rfl 3 rfl ?_
      refine go_iconst (v := Int32.ofInt 1) dX11_bestSet_5 rfl ?_
      refine go_aload_n dX11_bestSet_6 rfl 0 rfl ?_
      refine rc_gx hR.V (k := 0) (by decide) fX11_12 rfl dX11_bestSet_7 ?_
      refine rc_gs hR.V (k := 1) (v := rj_i (s 0)) (by decide) fX11_60 (rj_vi hR.n0) dX11_bestSet_10 ?_
      refine go_shlI (k := s 0) (by omega) dX11_bestSet_13 ?_
      refine go_icmp_geI (tgt := 71) (by omega) (by omega) dX11_bestSet_14 (by decide) (fun c_14 => ?_) (fun c_14 => ?_)
      · refine go_iload_n dX11_bestSet_71 rfl 2 rfl ?_
        refine go_retI rfl rfl ?_ dX11_bestSet_72
        exact ⟨rj_vi (by rw [show k = 2 ^ (s 0).toNat by omega]), rfl⟩
      · exact absurd c_14 (by omega)
    | succ n ih =>
      intro k hk h1k
      have ti := sp_tk_i s coin k
      have tb := sp_tk_b (coin := coin) h0 hcm k
      have bk1 := sp_ts_b (f := sp_lq s) (B := 8) (by omega) (N := (s 0).toNat) (fun k a b => sp_lq_b s k) ((k : Int)) (Nat.le_refl _)
      have bk2 := sp_ts_b (f := sp_co s) (B := 99) (by omega) (N := (s 0).toNat) (fun k a b => hcm k a (by omega)) ((k : Int)) (Nat.le_refl _)
      have bb1 := sp_ts_b (f := sp_lq s) (B := 8) (by omega) (N := (s 0).toNat) (fun k a b => sp_lq_b s k) ((sp_tk s coin k).1) (Nat.le_refl _)
      have bb2 := sp_ts_b (f := sp_co s) (B := 99) (by omega) (N := (s 0).toNat) (fun k a b => hcm k a (by omega)) ((sp_tk s coin k).1) (Nat.le_refl _)
      refine go_iload_n dX11_bestSet_4 rfl 3 rfl ?_
      refine go_iconst (v := Int32.ofInt 1) dX11_bestSet_5 rfl ?_
      refine go_aload_n dX11_bestSet_6 rfl 0 rfl ?_
      refine rc_gx hR.V (k := 0) (by decide) fX11_12 rfl dX11_bestSet_7 ?_
      refine rc_gs hR.V (k := 1) (v := rj_i (s 0)) (by decide) fX11_60 (rj_vi hR.n0) dX11_bestSet_10 ?_
      refine go_shlI (k := s 0) (by omega) dX11_bestSet_13 ?_
      refine go_icmp_geI (tgt := 71) (by omega) (by omega) dX11_bestSet_14 (by decide) (fun c_14 => ?_) (fun c_14 => ?_)
      · exact absurd c_14 (by omega)
      · refine go_aload_n dX11_bestSet_17 rfl 0 rfl ?_
        refine go_iload_n dX11_bestSet_18 rfl 3 rfl ?_
        refine go_callV (d1 := d - 1) wVX11_194 kX11 (rc_a0 hR.V) rfl (by omega) (x_litOf (x := (k : Int)) (by omega) hR hI (by omega) hl9) rfl (Nat.le_of_ble_eq_true rfl) dX11_bestSet_19 (fun w σ1 hP9 => ?_)
        obtain ⟨rfl, rfl⟩ := hP9
        refine go_aload_n dX11_bestSet_22 rfl 0 rfl ?_
        refine go_iload_n dX11_bestSet_23 rfl 2 rfl ?_
        refine go_callV (d1 := d - 1) wVX11_194 kX11 (rc_a0 hR.V) rfl (by omega) (x_litOf (x := (sp_tk s coin k).1) (by omega) hR hI (by omega) hl9) rfl (Nat.le_of_ble_eq_true rfl) dX11_bestSet_24 (fun w σ1 hP9 => ?_)
        obtain ⟨rfl, rfl⟩ := hP9
        refine go_subI dX11_bestSet_27 ?_
        refine go_istoreS (lv' := [(0, .ref cb), (1, rj_i coin), (2, rj_i ((sp_tk s coin k).1)), (3, rj_i (k : Int)), (4, rj_i ((sp_ts (sp_lq s) (k : Int) (s 0).toNat) - (sp_ts (sp_lq s) ((sp_tk s coin k).1) (s 0).toNat)))]) (by decide) rfl dX11_bestSet_28 ?_
        refine go_aload_n dX11_bestSet_30 rfl 0 rfl ?_
        refine go_iload_n dX11_bestSet_31 rfl 3 rfl ?_
        refine go_callV (d1 := d - 1) wVX11_197 kX11 (rc_a0 hR.V) rfl (by omega) (x_costOf (x := (k : Int)) (by omega) hR hI (by omega)) rfl (Nat.le_of_ble_eq_true rfl) dX11_bestSet_32 (fun w σ1 hP9 => ?_)
        obtain ⟨rfl, rfl⟩ := hP9
        refine go_istoreS (lv' := [(0, .ref cb), (1, rj_i coin), (2, rj_i ((sp_tk s coin k).1)), (3, rj_i (k : Int)), (4, rj_i ((sp_ts (sp_lq s) (k : Int) (s 0).toNat) - (sp_ts (sp_lq s) ((sp_tk s coin k).1) (s 0).toNat))), (5, rj_i (sp_ts (sp_co s) (k : Int) (s 0).toNat))]) (by decide) rfl dX11_bestSet_35 ?_
        refine go_iload dX11_bestSet_37 5 rfl ?_
        refine go_iload_n dX11_bestSet_39 rfl 1 rfl ?_
        refine go_icmp_gtI (tgt := 65) (by omega) (by omega) dX11_bestSet_40 (by decide) (fun c_40 => ?_) (fun c_40 => ?_)
        · refine go_iincI (a := (k : Int)) (n := 1) (k0 := 3) (lv' := [(0, .ref cb), (1, rj_i coin), (2, rj_i ((sp_tk s coin k).1)), (3, rj_i ((k : Int) + 1)), (4, rj_i ((sp_ts (sp_lq s) (k : Int) (s 0).toNat) - (sp_ts (sp_lq s) ((sp_tk s coin k).1) (s 0).toNat))), (5, rj_i (sp_ts (sp_co s) (k : Int) (s 0).toNat))]) rfl (by decide) rfl dX11_bestSet_65 ?_
          refine go_goto (tgt := 4) dX11_bestSet_68 (by decide) ?_
          refine go_sub (lv' := [(0, .ref cb), (1, rj_i coin), (2, rj_i ((sp_tk s coin k).1)), (3, rj_i ((k : Int) + 1))]) (by intro q hq; simp only [List.mem_cons, List.not_mem_nil, or_false] at hq ⊢; rcases hq with rfl | rfl | rfl | rfl <;> simp) ?_
          exact go_eq rfl (lv' := [(0, .ref cb), (1, rj_i coin), (2, rj_i ((sp_tk s coin (k + 1)).1)), (3, rj_i ((k + 1 : Nat) : Int))]) (rj_lk (rj_lk (rj_lj (by rw [sp_tk, sp_tkS, if_neg (by rw [ti.1, ti.2]; omega)]) (rj_lj (by omega) rfl)))) rfl rfl (ih (k + 1) (by omega) (by omega))
        · refine go_iload dX11_bestSet_43 4 rfl ?_
          refine go_if_gtI (tgt := 63) (by omega) dX11_bestSet_45 (by decide) (fun c_45 => ?_) (fun c_45 => ?_)
          · refine go_iload_n dX11_bestSet_63 rfl 3 rfl ?_
            refine go_istore_nS (lv' := [(0, .ref cb), (1, rj_i coin), (2, rj_i (k : Int)), (3, rj_i (k : Int)), (4, rj_i ((sp_ts (sp_lq s) (k : Int) (s 0).toNat) - (sp_ts (sp_lq s) ((sp_tk s coin k).1) (s 0).toNat))), (5, rj_i (sp_ts (sp_co s) (k : Int) (s 0).toNat))]) rfl (by decide) rfl dX11_bestSet_64 ?_
            refine go_iincI (a := (k : Int)) (n := 1) (k0 := 3) (lv' := [(0, .ref cb), (1, rj_i coin), (2, rj_i (k : Int)), (3, rj_i ((k : Int) + 1)), (4, rj_i ((sp_ts (sp_lq s) (k : Int) (s 0).toNat) - (sp_ts (sp_lq s) ((sp_tk s coin k).1) (s 0).toNat))), (5, rj_i (sp_ts (sp_co s) (k : Int) (s 0).toNat))]) rfl (by decide) rfl dX11_bestSet_65 ?_
            refine go_goto (tgt := 4) dX11_bestSet_68 (by decide) ?_
            refine go_sub (lv' := [(0, .ref cb), (1, rj_i coin), (2, rj_i (k : Int)), (3, rj_i ((k : Int) + 1))]) (by intro q hq; simp only [List.mem_cons, List.not_mem_nil, or_false] at hq ⊢; rcases hq with rfl | rfl | rfl | rfl <;> simp) ?_
            exact go_eq rfl (lv' := [(0, .ref cb), (1, rj_i coin), (2, rj_i ((sp_tk s coin (k + 1)).1)), (3, rj_i ((k + 1 : Nat) : Int))]) (rj_lk (rj_lk (rj_lj (by rw [sp_tk, sp_tkS, if_pos (by rw [ti.1, ti.2]; omega)]) (rj_lj (by omega) rfl)))) rfl rfl (ih (k + 1) (by omega) (by omega))
          · refine go_iload dX11_bestSet_48 4 rfl ?_
            refine go_if_neI (tgt := 65) (by omega) dX11_bestSet_50 (by decide) (fun c_50 => ?_) (fun c_50 => ?_)
            · refine go_iincI (a := (k : Int)) (n := 1) (k0 := 3) (lv' := [(0, .ref cb), (1, rj_i coin), (2, rj_i ((sp_tk s coin k).1)), (3, rj_i ((k : Int) + 1)), (4, rj_i ((sp_ts (sp_lq s) (k : Int) (s 0).toNat) - (sp_ts (sp_lq s) ((sp_tk s coin k).1) (s 0).toNat))), (5, rj_i (sp_ts (sp_co s) (k : Int) (s 0).toNat))]) rfl (by decide) rfl dX11_bestSet_65 ?_
              refine go_goto (tgt := 4) dX11_bestSet_68 (by decide) ?_
              refine go_sub (lv' := [(0, .ref cb), (1, rj_i coin), (2, rj_i ((sp_tk s coin k).1)), (3, rj_i ((k : Int) + 1))]) (by intro q hq; simp only [List.mem_cons, List.not_mem_nil, or_false] at hq ⊢; rcases hq with rfl | rfl | rfl | rfl <;> simp) ?_
              exact go_eq rfl (lv' := [(0, .ref cb), (1, rj_i coin), (2, rj_i ((sp_tk s coin (k + 1)).1)), (3, rj_i ((k + 1 : Nat) : Int))]) (rj_lk (rj_lk (rj_lj (by rw [sp_tk, sp_tkS, if_neg (by rw [ti.1, ti.2]; omega)]) (rj_lj (by omega) rfl)))) rfl rfl (ih (k + 1) (by omega) (by omega))
            · refine go_iload dX11_bestSet_53 5 rfl ?_
              refine go_aload_n dX11_bestSet_55 rfl 0 rfl ?_
              refine go_iload_n dX11_bestSet_56 rfl 2 rfl ?_
              refine go_callV (d1 := d - 1) wVX11_197 kX11 (rc_a0 hR.V) rfl (by omega) (x_costOf (x := (sp_tk s coin k).1) (by omega) hR hI (by omega)) rfl (Nat.le_of_ble_eq_true rfl) dX11_bestSet_57 (fun w σ1 hP9 => ?_)
              obtain ⟨rfl, rfl⟩ := hP9
              refine go_icmp_geI (tgt := 65) (by omega) (by omega) dX11_bestSet_60 (by decide) (fun c_60 => ?_) (fun c_60 => ?_)
              · refine go_iincI (a := (k : Int)) (n := 1) (k0 := 3) (lv' := [(0, .ref cb), (1, rj_i coin), (2, rj_i ((sp_tk s coin k).1)), (3, rj_i ((k : Int) + 1)), (4, rj_i ((sp_ts (sp_lq s) (k : Int) (s 0).toNat) - (sp_ts (sp_lq s) ((sp_tk s coin k).1) (s 0).toNat))), (5, rj_i (sp_ts (sp_co s) (k : Int) (s 0).toNat))]) rfl (by decide) rfl dX11_bestSet_65 ?_
                refine go_goto (tgt := 4) dX11_bestSet_68 (by decide) ?_
                refine go_sub (lv' := [(0, .ref cb), (1, rj_i coin), (2, rj_i ((sp_tk s coin k).1)), (3, rj_i ((k : Int) + 1))]) (by intro q hq; simp only [List.mem_cons, List.not_mem_nil, or_false] at hq ⊢; rcases hq with rfl | rfl | rfl | rfl <;> simp) ?_
                exact go_eq rfl (lv' := [(0, .ref cb), (1, rj_i coin), (2, rj_i ((sp_tk s coin (k + 1)).1)), (3, rj_i ((k + 1 : Nat) : Int))]) (rj_lk (rj_lk (rj_lj (by rw [sp_tk, sp_tkS, if_neg (by rw [ti.1, ti.2]; omega)]) (rj_lj (by omega) rfl)))) rfl rfl (ih (k + 1) (by omega) (by omega))
              · refine go_iload_n dX11_bestSet_63 rfl 3 rfl ?_
                refine go_istore_nS (lv' := [(0, .ref cb), (1, rj_i coin), (2, rj_i (k : Int)), (3, rj_i (k : Int)), (4, rj_i ((sp_ts (sp_lq s) (k : Int) (s 0).toNat) - (sp_ts (sp_lq s) ((sp_tk s coin k).1) (s 0).toNat))), (5, rj_i (sp_ts (sp_co s) (k : Int) (s 0).toNat))]) rfl (by decide) rfl dX11_bestSet_64 ?_
                refine go_iincI (a := (k : Int)) (n := 1) (k0 := 3) (lv' := [(0, .ref cb), (1, rj_i coin), (2, rj_i (k : Int)), (3, rj_i ((k : Int) + 1)), (4, rj_i ((sp_ts (sp_lq s) (k : Int) (s 0).toNat) - (sp_ts (sp_lq s) ((sp_tk s coin k).1) (s 0).toNat))), (5, rj_i (sp_ts (sp_co s) (k : Int) (s 0).toNat))]) rfl (by decide) rfl dX11_bestSet_65 ?_
                refine go_goto (tgt := 4) dX11_bestSet_68 (by decide) ?_
                refine go_sub (lv' := [(0, .ref cb), (1, rj_i coin), (2, rj_i (k : Int)), (3, rj_i ((k : Int) + 1))]) (by intro q hq; simp only [List.mem_cons, List.not_mem_nil, or_false] at hq ⊢; rcases hq with rfl | rfl | rfl | rfl <;> simp) ?_
                exact go_eq rfl (lv' := [(0, .ref cb), (1, rj_i coin), (2, rj_i ((sp_tk s coin (k + 1)).1)), (3, rj_i ((k + 1 : Nat) : Int))]) (rj_lk (rj_lk (rj_lj (by rw [sp_tk, sp_tkS, if_pos (by rw [ti.1, ti.2]; omega)]) (rj_lj (by omega) rfl)))) rfl rfl (ih (k + 1) (by omega) (by omega))
  exact go_eq rfl (lv' := [(0, .ref cb), (1, rj_i coin), (2, rj_i ((sp_tk s coin 1).1)), (3, rj_i ((1 : Nat) : Int))]) (rj_lk (rj_lk (rj_lj (by rw [sp_tk1]) (rj_lj (rfl) rfl)))) rfl rfl (loop (((2 : Int) ^ (s 0).toNat).toNat - 1) 1 (by omega) (by omega))
set_option maxRecDepth 20000 in
/-- x_take -/
theorem x_take {X9 : rj_X} {σ : rj_H} {d cb vv vk : Nat} {c : rm_R} {coin w : Int} (hd : 4 ≤ d) (hcoin : -2147483648 ≤ coin ∧ coin < 2147483648) (hw : -2147483648 ≤ w ∧ w < 2147483648) {s : Int → Int} {ad : Nat → Int → Nat} (hR : rc_R X9 cb vv vk c σ s ad) (hI : sp_I s) : rj_Cl X9 d yX11_take cX11_take 4 (some .int) [.ref cb, rj_i coin, rj_i w] (rc_p X9 cb vv vk c σ) (fun w9 τ => w9 = some (rj_i (sp_takeF s coin w)) ∧ ∃ c0, rc_t 65 c c0 ∧ τ = rc_p X9 cb vv vk c0 σ) := by
  obtain ⟨⟨h0, h1, h2, h3, h4, h5, h6, h7⟩, hM, hP, hW, hL, hV⟩ := id hI
  obtain ⟨v1, v2, v3, v4⟩ := id hV
  have hcm : ∀ m : Int, 0 ≤ m → m < s 0 → 0 ≤ s (160 + m) ∧ s (160 + m) ≤ 99 := fun m a b => (hM m a b).2.2.2.2.2.1
  have hp2 := sp_p2 (s 0).toNat (by omega)
  have hpn := rj_n2 (s 0).toNat
  refine go_call (by decide +kernel) (Nat.le_of_ble_eq_true rfl) ?_
  refine go_eq (pc' := 0) (lv' := [(0, .ref cb), (1, rj_i coin), (2, rj_i w)]) (st' := []) rfl rfl rfl rfl ?_
  refine go_iload_n dX11_take_0 rfl 2 rfl ?_
  refine go_if_ltI (tgt := 9) (by omega) dX11_take_1 (by decide) (fun c_1 => ?_) (fun c_1 => ?_)
  · refine go_iconst (v := Int32.ofInt (-1)) dX11_take_9 rfl ?_
    refine go_retI rfl rfl ?_ dX11_take_10
    exact ⟨rj_vi (by unfold sp_takeF; rw [if_neg (by omega)]), c, rc_t.rf, rfl⟩
  · refine go_iload_n dX11_take_4 rfl 2 rfl ?_
    refine go_iconst (v := Int32.ofInt 2) dX11_take_5 rfl ?_
    refine go_icmp_leI (tgt := 11) (by omega) (by omega) dX11_take_6 (by decide) (fun c_6 => ?_) (fun c_6 => ?_)
    · refine go_iload_n dX11_take_11 rfl 1 rfl ?_
      refine go_iconst (v := Int32.ofInt 0) dX11_take_12 rfl ?_
      refine go_sipush (v := Int32.ofInt 300) dX11_take_13 (by decide) ?_
      refine go_callS (d1 := d - 1) wSX11_72 rfl (by omega) (x_within (v := coin) (lo := 0) (hi := 300) (by omega) (by omega) (by omega)) rfl (Nat.le_of_ble_eq_true rfl) dX11_take_16 (fun w σ1 hP9 => ?_)
      obtain ⟨rfl, rfl⟩ := hP9
      refine go_if_neB (tgt := 25) dX11_take_19 (by decide) (fun c_19 => ?_) (fun c_19 => ?_)
      · refine go_iconst (v := Int32.ofInt 0) dX11_take_25 rfl ?_
        refine go_istore_nS (lv' := [(0, .ref cb), (1, rj_i coin), (2, rj_i w), (3, rj_i 0)]) rfl (by decide) rfl dX11_take_26 ?_
        have loop : ∀ (n2 k : Nat) (cl : rm_R), k + n2 = (s 0).toNat → rc_t 65 c cl → (∀ j : Int, 0 ≤ j → j < (k : Int) → cl 90 j = sp_lq s j) → rj_Go X9 yX11_take cX11_take 4 (some .int) d (fun w9 τ => w9 = some (rj_i (sp_takeF s coin w)) ∧ ∃ c0, rc_t 65 c c0 ∧ τ = rc_p X9 cb vv vk c0 σ) 27 [(0, .ref cb), (1, rj_i coin), (2, rj_i w), (3, rj_i (k : Int))] [] (rc_p X9 cb vv vk cl σ) := by
          intro n2
          induction n2 with
          | zero =>
            intro k cl hk hl hA
            have ti := sp_tk_i s coin (2 ^ (s 0).toNat)
            have tb := sp_tk_b (coin := coin) h0 hcm (2 ^ (s 0).toNat)
            refine go_iload_n dX11_take_27 rfl 3 rfl ?_
            refine go_aload_n dX11_take_28 rfl 0 rfl ?_
            refine rc_gx (hR.t hl).V (k := 0) (by decide) fX11_12 rfl dX11_take_29 ?_
            refine rc_gs (hR.t hl).V (k := 1) (v := rj_i (s 0)) (by decide) fX11_60 (rj_vi (hR.t hl).n0) dX11_take_32 ?_
            refine go_icmp_geI (tgt := 69) (by omega) (by omega) dX11_take_35 (by decide) (fun c_35 => ?_) (fun c_35 => ?_)
            · refine go_aload_n dX11_take_69 rfl 0 rfl ?_
              refine go_iload_n dX11_take_70 rfl 1 rfl ?_
              refine go_callV (d1 := d - 1) wVX11_191 kX11 (rc_a0 (hR.t hl).V) rfl (by omega) (x_bestSet (coin := coin) (by omega) (hR.t hl) hI (fun j a b => hA j a (by omega)) (by omega)) rfl (Nat.le_of_ble_eq_true rfl) dX11_take_71 (fun w σ1 hP9 => ?_)
              obtain ⟨rfl, rfl⟩ := hP9
              refine go_istore_nS (lv' := [(0, .ref cb), (1, rj_i coin), (2, rj_i w), (3, rj_i ((sp_tk s coin (2 ^ (s 0).toNat)).1))]) rfl (by decide) rfl dX11_take_74 ?_
              refine go_iload_n dX11_take_75 rfl 2 rfl ?_
              refine go_if_neI (tgt := 81) (by omega) dX11_take_76 (by decide) (fun c_76 => ?_) (fun c_76 => ?_)
              · refine go_iload_n dX11_take_81 rfl 2 rfl ?_
                refine go_iconst (v := Int32.ofInt 1) dX11_take_82 rfl ?_
                refine go_icmp_neI (tgt := 94) (by omega) (by omega) dX11_take_83 (by decide) (fun c_83 => ?_) (fun c_83 => ?_)
                · refine go_aload_n dX11_take_94 rfl 0 rfl ?_
                  refine go_iload_n dX11_take_95 rfl 3 rfl ?_
                  refine go_callV (d1 := d - 1) wVX11_197 kX11 (rc_a0 (hR.t hl).V) rfl (by omega) (x_costOf (x := (sp_tk s coin (2 ^ (s 0).toNat)).1) (by omega) (hR.t hl) hI (by omega)) rfl (Nat.le_of_ble_eq_true rfl) dX11_take_96 (fun w σ1 hP9 => ?_)
                  obtain ⟨rfl, rfl⟩ := hP9
                  refine go_retI rfl rfl ?_ dX11_take_99
                  exact ⟨rj_vi (by unfold sp_takeF; rw [if_pos (by omega), if_pos (by omega)]; rw [if_neg (by omega), if_neg (by omega)]; exact ti.2.symm), cl, hl, rfl⟩
                · refine go_aload_n dX11_take_86 rfl 0 rfl ?_
                  refine go_iload_n dX11_take_87 rfl 3 rfl ?_
                  refine go_callV (d1 := d - 1) wVX11_194 kX11 (rc_a0 (hR.t hl).V) rfl (by omega) (x_litOf (x := (sp_tk s coin (2 ^ (s 0).toNat)).1) (by omega) (hR.t hl) hI (by omega) (fun j a b => hA j a (by omega))) rfl (Nat.le_of_ble_eq_true rfl) dX11_take_88 (fun w σ1 hP9 => ?_)
                  obtain ⟨rfl, rfl⟩ := hP9
                  refine go_goto (tgt := 99) dX11_take_91 (by decide) ?_
                  refine go_retI rfl rfl ?_ dX11_take_99
                  exact ⟨rj_vi (by unfold sp_takeF; rw [if_pos (by omega), if_pos (by omega)]; rw [if_neg (by omega), if_pos (by omega)]; exact ti.1.symm), cl, hl, rfl⟩
              · refine go_iload_n dX11_take_79 rfl 3 rfl ?_
                refine go_retI rfl rfl ?_ dX11_take_80
                exact ⟨rj_vi (by unfold sp_takeF; rw [if_pos (by omega), if_pos (by omega)]; rw [if_pos (by omega)]), cl, hl, rfl⟩
            · exact absurd c_35 (by omega)
          | succ n2 ih =>
            intro k cl hk hl hA
            refine go_iload_n dX11_take_27 rfl 3 rfl ?_
            refine go_aload_n dX11_take_28 rfl 0 rfl ?_
            refine rc_gx (hR.t hl).V (k := 0) (by decide) fX11_12 rfl dX11_take_29 ?_
            refine rc_gs (hR.t hl).V (k := 1) (v := rj_i (s 0)) (by decide) fX11_60 (rj_vi (hR.t hl).n0) dX11_take_32 ?_
            refine go_icmp_geI (tgt := 69) (by omega) (by omega) dX11_take_35 (by decide) (fun c_35 => ?_) (fun c_35 => ?_)
            · exact absurd c_35 (by omega)
            · refine go_aload_n dX11_take_38 rfl 0 rfl ?_
              refine rc_gx (hR.t hl).V (k := 8) (by decide) fX11_47 rfl dX11_take_39 ?_
              refine go_iload_n dX11_take_42 rfl 3 rfl ?_
              refine go_aload_n dX11_take_43 rfl 0 rfl ?_
              refine rc_gx (hR.t hl).V (k := 0) (by decide) fX11_12 rfl dX11_take_44 ?_
              refine go_aload_n dX11_take_47 rfl 0 rfl ?_
              refine rc_gx (hR.t hl).V (k := 0) (by decide) fX11_12 rfl dX11_take_48 ?_
              refine rc_gs (hR.t hl).V (k := 0) (v := .ref (cb + 2)) (by decide) fX11_64 rfl dX11_take_51 ?_
              refine go_iload_n dX11_take_54 rfl 3 rfl ?_
              refine rc_em (hR.t hl) (m := (k : Int)) (by omega) (by omega) h0 dX11_take_55 ?_
              refine go_callV (d1 := d - 1) wVX11_132 kX5 (rc_a1 (hR.t hl).V) rfl (by omega) (x_lit (m := (k : Int)) (by omega) (hR.t hl) hI (by omega)) rfl (Nat.le_of_ble_eq_true rfl) dX11_take_56 (fun w σ1 hP9 => ?_)
              obtain ⟨rfl, c21, hc21, rfl⟩ := hP9
              have hr21 : rc_t 65 c c21 := hl.tr (hc21.le (by decide))
              refine go_callS (d1 := d - 1) wSX11_186 rfl (by omega) (j_bit (fun q7 => sp_so s (s 4) (-11) (k : Int) 99 q7)) rfl (Nat.le_of_ble_eq_true rfl) dX11_take_59 (fun w σ1 hP9 => ?_)
              obtain ⟨rfl, rfl⟩ := hP9
              refine rc_st (hR.t hr21).V (n := 90) (L := 6) rfl (fun _ => rfl) (by omega) (by omega) (by decide) dX11_take_62 ?_
              refine go_iincI (a := (k : Int)) (n := 1) (k0 := 3) (lv' := [(0, .ref cb), (1, rj_i coin), (2, rj_i w), (3, rj_i ((k : Int) + 1))]) rfl (by decide) rfl dX11_take_63 ?_
              refine go_goto (tgt := 27) dX11_take_66 (by decide) ?_
              exact go_eq rfl (lv' := [(0, .ref cb), (1, rj_i coin), (2, rj_i w), (3, rj_i ((k + 1 : Nat) : Int))]) (rj_lk (rj_lk (rj_lk (rj_lj (by omega) rfl)))) rfl rfl (ih (k + 1) (rm_u c21 90 (rj_up (c21 90) (k : Int) (sp_sum (fun q8 => rj_b ((fun q7 => sp_so s (s 4) (-11) (k : Int) 99 q7) q8 = true)) 8))) (by omega) (hr21.tr (rc_t.u (by omega))) (by intro j j0 j1; rw [rm_u_eq]; by_cases hj : j = (k : Int); (· subst hj; rw [rj_up_eq]; rfl); (· rw [rj_up_ne _ _ hj, hc21 90 (by decide)]; exact hA j j0 (by omega))))
        exact go_eq rfl (lv' := [(0, .ref cb), (1, rj_i coin), (2, rj_i w), (3, rj_i ((0 : Nat) : Int))]) (rj_lk (rj_lk (rj_lk (rj_lj (rfl) rfl)))) rfl rfl (loop (s 0).toNat 0 c (by omega) rc_t.rf (fun j a b => by omega))
      · refine go_bipush (v := Int32.ofInt (-2)) dX11_take_22 (by decide) ?_
        refine go_retI rfl rfl ?_ dX11_take_24
        exact ⟨rj_vi (by unfold sp_takeF; rw [if_pos (by omega), if_neg (by omega)]), c, rc_t.rf, rfl⟩
    · refine go_iconst (v := Int32.ofInt (-1)) dX11_take_9 rfl ?_
      refine go_retI rfl rfl ?_ dX11_take_10
      exact ⟨rj_vi (by unfold sp_takeF; rw [if_neg (by omega)]), c, rc_t.rf, rfl⟩
