/-! THE CLASS: the scene, 2: the plan's light -/
def sp_thr (s : Int → Int) (D m p q : Int) : Bool := decide (s (236 + 8 * m + q) = p) && sp_can s D m p q
def sp_any (s : Int → Int) (D p q : Int) : Nat → Bool
  | 0 => false
  | k + 1 => sp_any s D p q k || sp_thr s D (k : Int) p q
theorem sp_bits_0f (n : Nat) : sp_bits (fun _ => false) n = 0 := (sp_bits_0 _ n).mpr (fun _ _ _ => rfl)
set_option maxRecDepth 20000 in
/-- x_planQ -/
theorem x_planQ {X9 : rj_X} {σ : rj_H} {d cb vv vk : Nat} {c : rm_R} {m p : Int} {s : Int → Int} {ad : Nat → Int → Nat} (hR : rc_R X9 cb vv vk c σ s ad) (hI : sp_I s) (hm : 0 ≤ m ∧ m < s 0) (hp : -1 ≤ p ∧ p < 7) : rj_Cl X9 d yX5_planQuarters cX5_planQuarters 5 (some .int) [.ref (cb + 1), rj_i m, rj_i p] (rc_p X9 cb vv vk c σ) (fun w9 τ => w9 = some (rj_i (sp_bits (fun q => decide (s (236 + 8 * m + q) = p)) 8)) ∧ τ = rc_p X9 cb vv vk c σ) := by
  obtain ⟨⟨h0, h1, h2, h3, h4, h5, h6, h7⟩, hM, hP, hW, hL, hV⟩ := id hI
  obtain ⟨v1, v2, v3, v4⟩ := id hV
  refine go_call (by decide +kernel) (Nat.le_of_ble_eq_true rfl) ?_
  refine go_eq (pc' := 0) (lv' := [(0, .ref (cb + 1)), (1, rj_i m), (2, rj_i p)]) (st' := []) rfl rfl rfl rfl ?_
  refine go_iconst (v := Int32.ofInt 0) dX5_planQuarters_0 rfl ?_
  refine go_istore_nS (lv' := [(0, .ref (cb + 1)), (1, rj_i m), (2, rj_i p), (3, rj_i 0)]) rfl (by decide) rfl dX5_planQuarters_1 ?_
  refine go_iconst (v := Int32.ofInt 0) dX5_planQuarters_2 rfl ?_
  refine go_istoreS (lv' := [(0, .ref (cb + 1)), (1, rj_i m), (2, rj_i p), (3, rj_i 0), (4, rj_i 0)]) (by decide) rfl dX5_planQuarters_3 ?_
  have loop : ∀ n k : Nat, k + n = (8 : Int).toNat → rj_Go X9 yX5_planQuarters cX5_planQuarters 5 (some .int) d (fun w9 τ => w9 = some (rj_i (sp_bits (fun q => decide (s (236 + 8 * m + q) = p)) 8)) ∧ τ = rc_p X9 cb vv vk c σ) 5 [(0, .ref (cb + 1)), (1, rj_i m), (2, rj_i p), (3, rj_i (sp_bits (fun q => decide (s (236 + 8 * m + q) = p)) k)), (4, rj_i (k : Int))] [] (rc_p X9 cb vv vk c σ) := by
    intro n
    induction n with
    | zero =>
      intro k hk 
      refine go_iload dX5_planQuarters_5 4 rfl ?_
      refine go_bipush (v := Int32.ofInt 8) dX5_planQuarters_7 (by decide) ?_
      refine go_icmp_geI (tgt := 38) (by omega) (by omega) dX5_planQuarters_9 (by decide) (fun c_9 => ?_) (fun c_9 => ?_)
      · refine go_iload_n dX5_planQuarters_38 rfl 3 rfl ?_
        refine go_retI rfl rfl ?_ dX5_planQuarters_39
        exact ⟨rj_vi (by rw [show 8 = k by omega]), rfl⟩
      · exact absurd c_9 (by omega)
    | succ n ih =>
      intro k hk 
      have hLk := hL m k (by omega) (by omega) (by omega) (by omega)
      refine go_iload dX5_planQuarters_5 4 rfl ?_
      refine go_bipush (v := Int32.ofInt 8) dX5_planQuarters_7 (by decide) ?_
      refine go_icmp_geI (tgt := 38) (by omega) (by omega) dX5_planQuarters_9 (by decide) (fun c_9 => ?_) (fun c_9 => ?_)
      · exact absurd c_9 (by omega)
      · refine go_aload_n dX5_planQuarters_12 rfl 0 rfl ?_
        refine rc_gs hR.V (k := 10) (v := .ref (cb + 18)) (by decide) fX5_55 rfl dX5_planQuarters_13 ?_
        refine go_iload_n dX5_planQuarters_16 rfl 1 rfl ?_
        refine rc_r19 hR.V (z := m) (by omega) (by omega) dX5_planQuarters_17 ?_
        refine go_iload dX5_planQuarters_18 4 rfl ?_
        refine rc_il hR (m := m) (q := (k : Int)) (by omega) (by omega) (by omega) (by omega) dX5_planQuarters_20 ?_
        refine go_iload_n dX5_planQuarters_21 rfl 2 rfl ?_
        refine go_icmp_neI (tgt := 32) (by omega) (by omega) dX5_planQuarters_22 (by decide) (fun c_22 => ?_) (fun c_22 => ?_)
        · refine go_iincI (a := (k : Int)) (n := 1) (k0 := 4) (lv' := [(0, .ref (cb + 1)), (1, rj_i m), (2, rj_i p), (3, rj_i (sp_bits (fun q => decide (s (236 + 8 * m + q) = p)) k)), (4, rj_i ((k : Int) + 1))]) rfl (by decide) rfl dX5_planQuarters_32 ?_
          refine go_goto (tgt := 5) dX5_planQuarters_35 (by decide) ?_
          exact go_eq rfl (lv' := [(0, .ref (cb + 1)), (1, rj_i m), (2, rj_i p), (3, rj_i (sp_bits (fun q => decide (s (236 + 8 * m + q) = p)) (k + 1))), (4, rj_i ((k + 1 : Nat) : Int))]) (rj_lk (rj_lk (rj_lk (rj_lj (by rw [sp_bits, if_neg (by simpa using c_22)]; omega) (rj_lj (by omega) rfl))))) rfl rfl (ih (k + 1) (by omega))
        · refine go_iload_n dX5_planQuarters_25 rfl 3 rfl ?_
          refine go_iconst (v := Int32.ofInt 1) dX5_planQuarters_26 rfl ?_
          refine go_iload dX5_planQuarters_27 4 rfl ?_
          refine go_shl1 (k := k) (by omega) dX5_planQuarters_29 ?_
          refine go_orI ⟨k, by omega, (sp_bits_b (fun q => decide (s (236 + 8 * m + q) = p)) k).1, (sp_bits_b (fun q => decide (s (236 + 8 * m + q) = p)) k).2, by simp⟩ dX5_planQuarters_30 ?_
          refine go_istore_nS (lv' := [(0, .ref (cb + 1)), (1, rj_i m), (2, rj_i p), (3, rj_i ((sp_bits (fun q => decide (s (236 + 8 * m + q) = p)) k) + (2 ^ k))), (4, rj_i (k : Int))]) rfl (by decide) rfl dX5_planQuarters_31 ?_
          refine go_iincI (a := (k : Int)) (n := 1) (k0 := 4) (lv' := [(0, .ref (cb + 1)), (1, rj_i m), (2, rj_i p), (3, rj_i ((sp_bits (fun q => decide (s (236 + 8 * m + q) = p)) k) + (2 ^ k))), (4, rj_i ((k : Int) + 1))]) rfl (by decide) rfl dX5_planQuarters_32 ?_
          refine go_goto (tgt := 5) dX5_planQuarters_35 (by decide) ?_
          exact go_eq rfl (lv' := [(0, .ref (cb + 1)), (1, rj_i m), (2, rj_i p), (3, rj_i (sp_bits (fun q => decide (s (236 + 8 * m + q) = p)) (k + 1))), (4, rj_i ((k + 1 : Nat) : Int))]) (rj_lk (rj_lk (rj_lk (rj_lj (by rw [sp_bits, if_pos (by simpa using c_22)]) (rj_lj (by omega) rfl))))) rfl rfl (ih (k + 1) (by omega))
  exact go_eq rfl (lv' := [(0, .ref (cb + 1)), (1, rj_i m), (2, rj_i p), (3, rj_i (sp_bits (fun q => decide (s (236 + 8 * m + q) = p)) 0)), (4, rj_i ((0 : Nat) : Int))]) (rj_lk (rj_lk (rj_lk (rj_lj (rfl) (rj_lj (rfl) rfl))))) rfl rfl (loop 8 0 rfl)
set_option maxRecDepth 20000 in
/-- x_thrown -/
theorem x_thrown {X9 : rj_X} {σ : rj_H} {d cb vv vk : Nat} {c : rm_R} {m p D : Int} (hd : 5 ≤ d) {s : Int → Int} {ad : Nat → Int → Nat} (hR : rc_R X9 cb vv vk c σ s ad) (hI : sp_I s) (hm : 0 ≤ m ∧ m < s 0) (hp : 0 ≤ p ∧ p < s 1) (hD : 0 ≤ D ∧ D ≤ 200) : rj_Cl X9 d yX5_thrownQuarters cX5_thrownQuarters 5 (some .int) [.ref (cb + 1), rj_i m, rj_i p, rj_i D] (rc_p X9 cb vv vk c σ) (fun w9 τ => w9 = some (rj_i (sp_bits (fun q => sp_thr s D m p q) 8)) ∧ ∃ c0, rc_t 92 c c0 ∧ τ = rc_p X9 cb vv vk c0 σ) := by
  obtain ⟨⟨h0, h1, h2, h3, h4, h5, h6, h7⟩, hM, hP, hW, hL, hV⟩ := id hI
  obtain ⟨v1, v2, v3, v4⟩ := id hV
  refine go_call (by decide +kernel) (Nat.le_of_ble_eq_true rfl) ?_
  refine go_eq (pc' := 0) (lv' := [(0, .ref (cb + 1)), (1, rj_i m), (2, rj_i p), (3, rj_i D)]) (st' := []) rfl rfl rfl rfl ?_
  refine go_aload_n dX5_thrownQuarters_0 rfl 0 rfl ?_
  refine go_iload_n dX5_thrownQuarters_1 rfl 1 rfl ?_
  refine go_iload_n dX5_thrownQuarters_2 rfl 2 rfl ?_
  refine go_callV (d1 := d - 1) wVX5_117 kX5 (rc_a1 hR.V) rfl (by omega) (x_planQ (m := m) (p := p) hR hI (by omega) (by omega)) rfl (Nat.le_of_ble_eq_true rfl) dX5_thrownQuarters_3 (fun w σ1 hP9 => ?_)
  obtain ⟨rfl, rfl⟩ := hP9
  refine go_istoreS (lv' := [(0, .ref (cb + 1)), (1, rj_i m), (2, rj_i p), (3, rj_i D), (4, rj_i (sp_bits (fun q => decide (s (236 + 8 * m + q) = p)) 8))]) (by decide) rfl dX5_thrownQuarters_6 ?_
  refine go_iload dX5_thrownQuarters_8 4 rfl ?_
  refine go_if_neI (tgt := 17) (by have := sp_bits_b (fun q => decide (s (236 + 8 * m + q) = p)) 8; omega) dX5_thrownQuarters_10 (by decide) (fun c_10 => ?_) (fun c_10 => ?_)
  · refine go_iload dX5_thrownQuarters_17 4 rfl ?_
    refine go_aload_n dX5_thrownQuarters_19 rfl 0 rfl ?_
    refine go_aload_n dX5_thrownQuarters_20 rfl 0 rfl ?_
    refine rc_gs hR.V (k := 0) (v := .ref (cb + 2)) (by decide) fX5_11 rfl dX5_thrownQuarters_21 ?_
    refine go_iload_n dX5_thrownQuarters_24 rfl 1 rfl ?_
    refine rc_em hR (m := m) (by omega) (by omega) h0 dX5_thrownQuarters_25 ?_
    refine go_iload_n dX5_thrownQuarters_26 rfl 2 rfl ?_
    refine go_iload_n dX5_thrownQuarters_27 rfl 3 rfl ?_
    refine go_callV (d1 := d - 1) wVX5_120 kX5 (rc_a1 hR.V) rfl (by omega) (x_can (m := m) (p := p) (D := D) (by omega) hR hI (by omega) (by omega) (by omega)) rfl (Nat.le_of_ble_eq_true rfl) dX5_thrownQuarters_28 (fun w σ1 hP9 => ?_)
    obtain ⟨rfl, c1, hc1, rfl⟩ := hP9
    have hr1 : rc_t 92 c c1 := hc1
    refine go_andM (fun q => decide (s (236 + 8 * m + q) = p)) (fun q => sp_can s D m p q) 8 dX5_thrownQuarters_31 ?_
    refine go_retI rfl rfl ?_ dX5_thrownQuarters_32
    exact ⟨rj_vi (rfl), c1, hr1, rfl⟩
  · refine go_iconst (v := Int32.ofInt 0) dX5_thrownQuarters_13 rfl ?_
    refine go_goto (tgt := 32) dX5_thrownQuarters_14 (by decide) ?_
    refine go_retI rfl rfl ?_ dX5_thrownQuarters_32
    exact ⟨rj_vi (((sp_bits_0 _ 8).mpr (fun q q0 q1 => by unfold sp_thr; rw [(sp_bits_0 _ 8).mp c_10 q q0 q1]; rfl)).symm), c, rc_t.rf, rfl⟩
set_option maxRecDepth 20000 in
/-- x_lightQ -/
theorem x_lightQ {X9 : rj_X} {σ : rj_H} {d cb vv vk : Nat} {c : rm_R} {p D : Int} (hd : 6 ≤ d) {s : Int → Int} {ad : Nat → Int → Nat} (hR : rc_R X9 cb vv vk c σ s ad) (hI : sp_I s) (hp : 0 ≤ p ∧ p < s 1) (hD : 0 ≤ D ∧ D ≤ 200) : rj_Cl X9 d yX5_lightQuarters cX5_lightQuarters 5 (some .int) [.ref (cb + 1), rj_i p, rj_i D] (rc_p X9 cb vv vk c σ) (fun w9 τ => w9 = some (rj_i (sp_bits (fun q => sp_any s D p q (s 0).toNat) 8)) ∧ ∃ c0, rc_t 92 c c0 ∧ τ = rc_p X9 cb vv vk c0 σ) := by
  obtain ⟨⟨h0, h1, h2, h3, h4, h5, h6, h7⟩, hM, hP, hW, hL, hV⟩ := id hI
  obtain ⟨v1, v2, v3, v4⟩ := id hV
  refine go_call (by decide +kernel) (Nat.le_of_ble_eq_true rfl) ?_
  refine go_eq (pc' := 0) (lv' := [(0, .ref (cb + 1)), (1, rj_i p), (2, rj_i D)]) (st' := []) rfl rfl rfl rfl ?_
  refine go_iconst (v := Int32.ofInt 0) dX5_lightQuarters_0 rfl ?_
  refine go_istore_nS (lv' := [(0, .ref (cb + 1)), (1, rj_i p), (2, rj_i D), (3, rj_i 0)]) rfl (by decide) rfl dX5_lightQuarters_1 ?_
  refine go_iconst (v := Int32.ofInt 0) dX5_lightQuarters_2 rfl ?_
  refine go_istoreS (lv' := [(0, .ref (cb + 1)), (1, rj_i p), (2, rj_i D), (3, rj_i 0), (4, rj_i 0)]) (by decide) rfl dX5_lightQuarters_3 ?_
  have loop : ∀ (n2 k : Nat) (cl : rm_R), k + n2 = (s 0).toNat → rc_t 92 c cl → rj_Go X9 yX5_lightQuarters cX5_lightQuarters 5 (some .int) d (fun w9 τ => w9 = some (rj_i (sp_bits (fun q => sp_any s D p q (s 0).toNat) 8)) ∧ ∃ c0, rc_t 92 c c0 ∧ τ = rc_p X9 cb vv vk c0 σ) 5 [(0, .ref (cb + 1)), (1, rj_i p), (2, rj_i D), (3, rj_i (sp_bits (fun q => sp_any s D p q k) 8)), (4, rj_i (k : Int))] [] (rc_p X9 cb vv vk cl σ) := by
    intro n2
    induction n2 with
    | zero =>
      intro k cl hk hl
      refine go_iload dX5_lightQuarters_5 4 rfl ?_
      refine go_aload_n dX5_lightQuarters_7 rfl 0 rfl ?_
      refine rc_gs (hR.t (hl.le (by decide))).V (k := 1) (v := rj_i (s 0)) (by decide) fX5_17 (rj_vi (hR.t (hl.le (by decide))).n0) dX5_lightQuarters_8 ?_
      refine go_icmp_geI (tgt := 31) (by omega) (by omega) dX5_lightQuarters_11 (by decide) (fun c_11 => ?_) (fun c_11 => ?_)
      · refine go_iload_n dX5_lightQuarters_31 rfl 3 rfl ?_
        refine go_retI rfl rfl ?_ dX5_lightQuarters_32
        exact ⟨rj_vi (by rw [show (s 0).toNat = k by omega]), cl, hl, rfl⟩
      · exact absurd c_11 (by omega)
    | succ n2 ih =>
      intro k cl hk hl
      refine go_iload dX5_lightQuarters_5 4 rfl ?_
      refine go_aload_n dX5_lightQuarters_7 rfl 0 rfl ?_
      refine rc_gs (hR.t (hl.le (by decide))).V (k := 1) (v := rj_i (s 0)) (by decide) fX5_17 (rj_vi (hR.t (hl.le (by decide))).n0) dX5_lightQuarters_8 ?_
      refine go_icmp_geI (tgt := 31) (by omega) (by omega) dX5_lightQuarters_11 (by decide) (fun c_11 => ?_) (fun c_11 => ?_)
      · exact absurd c_11 (by omega)
      · refine go_iload_n dX5_lightQuarters_14 rfl 3 rfl ?_
        refine go_aload_n dX5_lightQuarters_15 rfl 0 rfl ?_
        refine go_iload dX5_lightQuarters_16 4 rfl ?_
        refine go_iload_n dX5_lightQuarters_18 rfl 1 rfl ?_
        refine go_iload_n dX5_lightQuarters_19 rfl 2 rfl ?_
        refine go_callV (d1 := d - 1) wVX5_124 kX5 (rc_a1 (hR.t (hl.le (by decide))).V) rfl (by omega) (x_thrown (m := (k : Int)) (p := p) (D := D) (by omega) (hR.t (hl.le (by decide))) hI (by omega) (by omega) (by omega)) rfl (Nat.le_of_ble_eq_true rfl) dX5_lightQuarters_20 (fun w σ1 hP9 => ?_)
        obtain ⟨rfl, c21, hc21, rfl⟩ := hP9
        have hr21 : rc_t 92 c c21 := hl.tr hc21
        refine go_orM (fun q => sp_any s D p q k) (fun q => sp_thr s D (k : Int) p q) 8 dX5_lightQuarters_23 ?_
        refine go_istore_nS (lv' := [(0, .ref (cb + 1)), (1, rj_i p), (2, rj_i D), (3, rj_i (sp_bits (fun q8 => (fun q => sp_any s D p q k) q8 || (fun q => sp_thr s D (k : Int) p q) q8) 8)), (4, rj_i (k : Int))]) rfl (by decide) rfl dX5_lightQuarters_24 ?_
        refine go_iincI (a := (k : Int)) (n := 1) (k0 := 4) (lv' := [(0, .ref (cb + 1)), (1, rj_i p), (2, rj_i D), (3, rj_i (sp_bits (fun q8 => (fun q => sp_any s D p q k) q8 || (fun q => sp_thr s D (k : Int) p q) q8) 8)), (4, rj_i ((k : Int) + 1))]) rfl (by decide) rfl dX5_lightQuarters_25 ?_
        refine go_goto (tgt := 5) dX5_lightQuarters_28 (by decide) ?_
        exact go_eq rfl (lv' := [(0, .ref (cb + 1)), (1, rj_i p), (2, rj_i D), (3, rj_i (sp_bits (fun q => sp_any s D p q (k + 1)) 8)), (4, rj_i ((k + 1 : Nat) : Int))]) (rj_lk (rj_lk (rj_lk (rj_lj (rfl) (rj_lj (by omega) rfl))))) rfl rfl (ih (k + 1) c21 (by omega) hr21)
  exact go_eq rfl (lv' := [(0, .ref (cb + 1)), (1, rj_i p), (2, rj_i D), (3, rj_i (sp_bits (fun q => sp_any s D p q 0) 8)), (4, rj_i ((0 : Nat) : Int))]) (rj_lk (rj_lk (rj_lk (rj_lj ((sp_bits_0f 8).symm) (rj_lj (rfl) rfl))))) rfl rfl (loop (s 0).toNat 0 c (by omega) rc_t.rf)
def sp_lo1 (s : Int → Int) (p m : Int) : Int := sp_sum (fun q => rj_b (sp_thr s (s 4) m p q = true)) 8 * sp_light s m
theorem sp_sb8 (P : Int → Bool) : 0 ≤ sp_sum (fun q => rj_b (P q = true)) 8 ∧ sp_sum (fun q => rj_b (P q = true)) 8 ≤ 8 := by
  have h := sp_sum_b (f := fun q => rj_b (P q = true)) (B := 1) (N := 8) (fun k _ _ => by have := rj_b01 (P k = true); omega) 8 (Nat.le_refl _)
  omega
set_option maxRecDepth 20000 in
/-- x_lightOf -/
theorem x_lightOf {X9 : rj_X} {σ : rj_H} {d cb vv vk : Nat} {c : rm_R} {p : Int} (hd : 6 ≤ d) {s : Int → Int} {ad : Nat → Int → Nat} (hR : rc_R X9 cb vv vk c σ s ad) (hI : sp_I s) (hp : 0 ≤ p ∧ p < s 1) : rj_Cl X9 d yX5_lightOf cX5_lightOf 4 (some .int) [.ref (cb + 1), rj_i p] (rc_p X9 cb vv vk c σ) (fun w9 τ => w9 = some (rj_i (sp_sum (sp_lo1 s p) (s 0).toNat)) ∧ ∃ c0, rc_t 92 c c0 ∧ τ = rc_p X9 cb vv vk c0 σ) := by
  obtain ⟨⟨h0, h1, h2, h3, h4, h5, h6, h7⟩, hM, hP, hW, hL, hV⟩ := id hI
  obtain ⟨v1, v2, v3, v4⟩ := id hV
  refine go_call (by decide +kernel) (Nat.le_of_ble_eq_true rfl) ?_
  refine go_eq (pc' := 0) (lv' := [(0, .ref (cb + 1)), (1, rj_i p)]) (st' := []) rfl rfl rfl rfl ?_
  refine go_iconst (v := Int32.ofInt 0) dX5_lightOf_0 rfl ?_
  refine go_istore_nS (lv' := [(0, .ref (cb + 1)), (1, rj_i p), (2, rj_i 0)]) rfl (by decide) rfl dX5_lightOf_1 ?_
  refine go_iconst (v := Int32.ofInt 0) dX5_lightOf_2 rfl ?_
  refine go_istore_nS (lv' := [(0, .ref (cb + 1)), (1, rj_i p), (2, rj_i 0), (3, rj_i 0)]) rfl (by decide) rfl dX5_lightOf_3 ?_
  have loop : ∀ (n2 k : Nat) (cl : rm_R), k + n2 = (s 0).toNat → rc_t 92 c cl → rj_Go X9 yX5_lightOf cX5_lightOf 4 (some .int) d (fun w9 τ => w9 = some (rj_i (sp_sum (sp_lo1 s p) (s 0).toNat)) ∧ ∃ c0, rc_t 92 c c0 ∧ τ = rc_p X9 cb vv vk c0 σ) 4 [(0, .ref (cb + 1)), (1, rj_i p), (2, rj_i (sp_sum (sp_lo1 s p) k)), (3, rj_i (k : Int))] [] (rc_p X9 cb vv vk cl σ) := by
    intro n2
    induction n2 with
    | zero =>
      intro k cl hk hl
      refine go_iload_n dX5_lightOf_4 rfl 3 rfl ?_
      refine go_aload_n dX5_lightOf_5 rfl 0 rfl ?_
      refine rc_gs (hR.t (hl.le (by decide))).V (k := 1) (v := rj_i (s 0)) (by decide) fX5_17 (rj_vi (hR.t (hl.le (by decide))).n0) dX5_lightOf_6 ?_
      refine go_icmp_geI (tgt := 44) (by omega) (by omega) dX5_lightOf_9 (by decide) (fun c_9 => ?_) (fun c_9 => ?_)
      · refine go_iload_n dX5_lightOf_44 rfl 2 rfl ?_
        refine go_retI rfl rfl ?_ dX5_lightOf_45
        exact ⟨rj_vi (by rw [show (s 0).toNat = k by omega]), cl, hl, rfl⟩
      · exact absurd c_9 (by omega)
    | succ n2 ih =>
      intro k cl hk hl
      refine go_iload_n dX5_lightOf_4 rfl 3 rfl ?_
      refine go_aload_n dX5_lightOf_5 rfl 0 rfl ?_
      refine rc_gs (hR.t (hl.le (by decide))).V (k := 1) (v := rj_i (s 0)) (by decide) fX5_17 (rj_vi (hR.t (hl.le (by decide))).n0) dX5_lightOf_6 ?_
      refine go_icmp_geI (tgt := 44) (by omega) (by omega) dX5_lightOf_9 (by decide) (fun c_9 => ?_) (fun c_9 => ?_)
      · exact absurd c_9 (by omega)
      · refine go_iload_n dX5_lightOf_12 rfl 2 rfl ?_
        refine go_aload_n dX5_lightOf_13 rfl 0 rfl ?_
        refine go_iload_n dX5_lightOf_14 rfl 3 rfl ?_
        refine go_iload_n dX5_lightOf_15 rfl 1 rfl ?_
        refine go_aload_n dX5_lightOf_16 rfl 0 rfl ?_
        refine rc_gs (hR.t (hl.le (by decide))).V (k := 11) (v := rj_i (s 4)) (by decide) fX5_58 (rj_vi (hR.t (hl.le (by decide))).n4) dX5_lightOf_17 ?_
        refine go_callV (d1 := d - 1) wVX5_124 kX5 (rc_a1 (hR.t (hl.le (by decide))).V) rfl (by omega) (x_thrown (m := (k : Int)) (p := p) (D := s 4) (by omega) (hR.t (hl.le (by decide))) hI (by omega) (by omega) (by omega)) rfl (Nat.le_of_ble_eq_true rfl) dX5_lightOf_20 (fun w σ1 hP9 => ?_)
        obtain ⟨rfl, c21, hc21, rfl⟩ := hP9
        have hr21 : rc_t 92 c c21 := hl.tr hc21
        refine go_callS (d1 := d - 1) wSX5_128 rfl (by omega) (j_bit (fun q => sp_thr s (s 4) (k : Int) p q)) rfl (Nat.le_of_ble_eq_true rfl) dX5_lightOf_23 (fun w σ1 hP9 => ?_)
        obtain ⟨rfl, rfl⟩ := hP9
        refine go_aload_n dX5_lightOf_26 rfl 0 rfl ?_
        refine rc_gs (hR.t (hr21.le (by decide))).V (k := 0) (v := .ref (cb + 2)) (by decide) fX5_11 rfl dX5_lightOf_27 ?_
        refine go_iload_n dX5_lightOf_30 rfl 3 rfl ?_
        refine rc_em (hR.t (hr21.le (by decide))) (m := (k : Int)) (by omega) (by omega) h0 dX5_lightOf_31 ?_
        refine rv_light5 (m := (k : Int)) ((hR.t (hr21.le (by decide))).mir (k : Int) (by omega) (by omega)).2 (hM (k : Int) (by omega) (by omega)).1 (by omega) (Nat.le_of_ble_eq_true rfl) dX5_lightOf_32 ?_
        refine go_mulI dX5_lightOf_35 ?_
        refine go_addI dX5_lightOf_36 ?_
        refine go_istore_nS (lv' := [(0, .ref (cb + 1)), (1, rj_i p), (2, rj_i ((sp_sum (sp_lo1 s p) k) + ((sp_sum (fun q => rj_b ((fun q => sp_thr s (s 4) (k : Int) p q) q = true)) 8) * (sp_light s (k : Int))))), (3, rj_i (k : Int))]) rfl (by decide) rfl dX5_lightOf_37 ?_
        refine go_iincI (a := (k : Int)) (n := 1) (k0 := 3) (lv' := [(0, .ref (cb + 1)), (1, rj_i p), (2, rj_i ((sp_sum (sp_lo1 s p) k) + ((sp_sum (fun q => rj_b ((fun q => sp_thr s (s 4) (k : Int) p q) q = true)) 8) * (sp_light s (k : Int))))), (3, rj_i ((k : Int) + 1))]) rfl (by decide) rfl dX5_lightOf_38 ?_
        refine go_goto (tgt := 4) dX5_lightOf_41 (by decide) ?_
        exact go_eq rfl (lv' := [(0, .ref (cb + 1)), (1, rj_i p), (2, rj_i (sp_sum (sp_lo1 s p) (k + 1))), (3, rj_i ((k + 1 : Nat) : Int))]) (rj_lk (rj_lk (rj_lj (rfl) (rj_lj (by omega) rfl)))) rfl rfl (ih (k + 1) c21 (by omega) hr21)
  exact go_eq rfl (lv' := [(0, .ref (cb + 1)), (1, rj_i p), (2, rj_i (sp_sum (sp_lo1 s p) 0)), (3, rj_i ((0 : Nat) : Int))]) (rj_lk (rj_lk (rj_lj (rfl) (rj_lj (rfl) rfl)))) rfl rfl (loop (s 0).toNat 0 c (by omega) rc_t.rf)
set_option maxRecDepth 20000 in
/-- x_snow -/
theorem x_snow {X9 : rj_X} {σ : rj_H} {d cb vv vk : Nat} {c : rm_R} {p D sn : Int} (hd : 7 ≤ d) {s : Int → Int} {ad : Nat → Int → Nat} (hR : rc_R X9 cb vv vk c σ s ad) (hI : sp_I s) (hp : 0 ≤ p ∧ p < s 1) (hD : 0 ≤ D ∧ D ≤ 200) (hsn : -100 ≤ sn ∧ sn ≤ 100) : rj_Cl X9 d yX5_snowBehind cX5_snowBehind 5 (some .int) [.ref (cb + 1), rj_i p, rj_i sn, rj_i D] (rc_p X9 cb vv vk c σ) (fun w9 τ => w9 = some (rj_i (if 0 < sn - sp_sum (fun q => rj_b (((fun q => sp_so s D (-13) 99 p q || sp_any s D p q (s 0).toNat)) q = true)) 8 then sn - sp_sum (fun q => rj_b (((fun q => sp_so s D (-13) 99 p q || sp_any s D p q (s 0).toNat)) q = true)) 8 else 0)) ∧ ∃ c0, rc_t 92 c c0 ∧ τ = rc_p X9 cb vv vk c0 σ) := by
  obtain ⟨⟨h0, h1, h2, h3, h4, h5, h6, h7⟩, hM, hP, hW, hL, hV⟩ := id hI
  obtain ⟨v1, v2, v3, v4⟩ := id hV
  refine go_call (by decide +kernel) (Nat.le_of_ble_eq_true rfl) ?_
  refine go_eq (pc' := 0) (lv' := [(0, .ref (cb + 1)), (1, rj_i p), (2, rj_i sn), (3, rj_i D)]) (st' := []) rfl rfl rfl rfl ?_
  refine go_aload_n dX5_snowBehind_0 rfl 0 rfl ?_
  refine go_iload_n dX5_snowBehind_1 rfl 1 rfl ?_
  refine go_iload_n dX5_snowBehind_2 rfl 3 rfl ?_
  refine go_callV (d1 := d - 1) wVX5_138 kX5 (rc_a1 hR.V) rfl (by omega) (x_own (p := p) (D := D) (by omega) hR hI (by omega) (by omega)) rfl (Nat.le_of_ble_eq_true rfl) dX5_snowBehind_3 (fun w σ1 hP9 => ?_)
  obtain ⟨rfl, c1, hc1, rfl⟩ := hP9
  have hr1 : rc_t 92 c c1 := hc1
  refine go_aload_n dX5_snowBehind_6 rfl 0 rfl ?_
  refine go_iload_n dX5_snowBehind_7 rfl 1 rfl ?_
  refine go_iload_n dX5_snowBehind_8 rfl 3 rfl ?_
  refine go_callV (d1 := d - 1) wVX5_141 kX5 (rc_a1 (hR.t (hr1.le (by decide))).V) rfl (by omega) (x_lightQ (p := p) (D := D) (by omega) (hR.t (hr1.le (by decide))) hI (by omega) (by omega)) rfl (Nat.le_of_ble_eq_true rfl) dX5_snowBehind_9 (fun w σ1 hP9 => ?_)
  obtain ⟨rfl, c2, hc2, rfl⟩ := hP9
  have hr2 : rc_t 92 c c2 := hr1.tr hc2
  refine go_orM (fun q => sp_so s D (-13) 99 p q) (fun q => sp_any s D p q (s 0).toNat) 8 dX5_snowBehind_12 ?_
  refine go_istoreS (lv' := [(0, .ref (cb + 1)), (1, rj_i p), (2, rj_i sn), (3, rj_i D), (4, rj_i (sp_bits (fun q8 => (fun q => sp_so s D (-13) 99 p q) q8 || (fun q => sp_any s D p q (s 0).toNat) q8) 8))]) (by decide) rfl dX5_snowBehind_13 ?_
  refine go_iconst (v := Int32.ofInt 0) dX5_snowBehind_15 rfl ?_
  refine go_iload_n dX5_snowBehind_16 rfl 2 rfl ?_
  refine go_iload dX5_snowBehind_17 4 rfl ?_
  refine go_callS (d1 := d - 1) wSX5_128 rfl (by omega) (j_bit (fun q8 => (fun q => sp_so s D (-13) 99 p q) q8 || (fun q => sp_any s D p q (s 0).toNat) q8)) rfl (Nat.le_of_ble_eq_true rfl) dX5_snowBehind_19 (fun w σ1 hP9 => ?_)
  obtain ⟨rfl, rfl⟩ := hP9
  refine go_subI dX5_snowBehind_22 ?_
  refine go_mmax (a := 0) (b := sn - (sp_sum (fun q => rj_b ((fun q8 => (fun q => sp_so s D (-13) 99 p q) q8 || (fun q => sp_any s D p q (s 0).toNat) q8) q = true)) 8)) (by omega) (by have h : 0 ≤ sp_sum (fun q => rj_b ((fun q8 => (fun q => sp_so s D (-13) 99 p q) q8 || (fun q => sp_any s D p q (s 0).toNat) q8) q = true)) 8 ∧ sp_sum (fun q => rj_b ((fun q8 => (fun q => sp_so s D (-13) 99 p q) q8 || (fun q => sp_any s D p q (s 0).toNat) q8) q = true)) 8 ≤ 8 := sp_sb8 _; omega) wSX5_144 (by omega) (Nat.le_of_ble_eq_true rfl) dX5_snowBehind_23 ?_
  refine go_retI rfl rfl ?_ dX5_snowBehind_26
  exact ⟨rfl, c2, hr2, rfl⟩
