/-! THE CLASS: the scene -/
theorem sp_opn_f {s : Int → Int} {x y hi u v lo : Int} {k : Nat} (h : sp_opn s x y hi u v lo k = false) : ∀ n : Nat, sp_opn s x y hi u v lo (k + n) = false
  | 0 => h
  | n + 1 => by
    show (sp_opn s x y hi u v lo (k + n) && _) = false
    rw [sp_opn_f h n]; rfl
theorem sp_opn_no {s : Int → Int} {x y hi u v lo : Int} {k : Nat} (h : sp_btw s (k : Int) x y hi u v lo) (hk : (k : Int) < s 2) : sp_open s x y hi u v lo = false := by
  have h1 : sp_opn s x y hi u v lo (k + 1) = false := by
    show (_ && !decide _) = false
    rw [decide_eq_true h]; simp
  have h2 := sp_opn_f h1 ((s 2).toNat - (k + 1))
  rw [show k + 1 + ((s 2).toNat - (k + 1)) = (s 2).toNat by omega] at h2
  exact h2
set_option maxRecDepth 20000 in
/-- x_wallB -/
theorem x_wallB {X9 : rj_X} {σ : rj_H} {d cb vv vk : Nat} {c : rm_R} {m u v lo : Int} (hd : 1 ≤ d) {s : Int → Int} {ad : Nat → Int → Nat} (hR : rc_R X9 cb vv vk c σ s ad) (hI : sp_I s) (hm : 0 ≤ m ∧ m < s 0) (hu : sp_at u) (hv : sp_at v) (hlo : sp_at lo) : rj_Cl X9 d yX5_isWallBetween cX5_isWallBetween 6 (some .boolean) [.ref (cb + 1), .ref (ad 0 m), rj_i u, rj_i v, rj_i lo] (rc_p X9 cb vv vk c σ) (fun w9 τ => w9 = some (rj_i (rj_b (sp_open s (s (136 + m)) (s (142 + m)) (s (148 + m)) u v lo = false))) ∧ τ = rc_p X9 cb vv vk c σ) := by
  obtain ⟨⟨h0, h1, h2, h3, h4, h5, h6, h7⟩, hM, hP, hW, hL, hV⟩ := id hI
  obtain ⟨v1, v2, v3, v4⟩ := id hV
  obtain ⟨m1, m2, m3, m4, m5, m6, m7⟩ := hM m (by omega) (by omega)
  refine go_call (by decide +kernel) (Nat.le_of_ble_eq_true rfl) ?_
  refine go_eq (pc' := 0) (lv' := [(0, .ref (cb + 1)), (1, .ref (ad 0 m)), (2, rj_i u), (3, rj_i v), (4, rj_i lo)]) (st' := []) rfl rfl rfl rfl ?_
  refine go_iconst (v := Int32.ofInt 0) dX5_isWallBetween_0 rfl ?_
  refine go_istoreS (lv' := [(0, .ref (cb + 1)), (1, .ref (ad 0 m)), (2, rj_i u), (3, rj_i v), (4, rj_i lo), (5, rj_i 0)]) (by decide) rfl dX5_isWallBetween_1 ?_
  have loop : ∀ n k : Nat, k + n = (s 2).toNat → sp_opn s (s (136 + m)) (s (142 + m)) (s (148 + m)) u v lo k = true → rj_Go X9 yX5_isWallBetween cX5_isWallBetween 6 (some .boolean) d (fun w9 τ => w9 = some (rj_i (rj_b (sp_open s (s (136 + m)) (s (142 + m)) (s (148 + m)) u v lo = false))) ∧ τ = rc_p X9 cb vv vk c σ) 3 [(0, .ref (cb + 1)), (1, .ref (ad 0 m)), (2, rj_i u), (3, rj_i v), (4, rj_i lo), (5, rj_i (k : Int))] [] (rc_p X9 cb vv vk c σ) := by
    intro n
    induction n with
    | zero =>
      intro k hk ho
      refine go_iload dX5_isWallBetween_3 5 rfl ?_
      refine go_aload_n dX5_isWallBetween_5 rfl 0 rfl ?_
      refine rc_gs hR.V (k := 5) (v := rj_i (s 2)) (by decide) fX5_35 (rj_vi hR.n2) dX5_isWallBetween_6 ?_
      refine go_icmp_geI (tgt := 38) (by omega) (by omega) dX5_isWallBetween_9 (by decide) (fun c_9 => ?_) (fun c_9 => ?_)
      · refine go_iconst (v := Int32.ofInt 0) dX5_isWallBetween_38 rfl ?_
        refine go_retI rfl (rj_n01 (by decide)) ?_ dX5_isWallBetween_39
        exact ⟨rj_vi (rj_bf (by unfold sp_open; rw [show (s 2).toNat = k by omega, ho]; simp)).symm, rfl⟩
      · exact absurd c_9 (by omega)
    | succ n ih =>
      intro k hk ho
      obtain ⟨w1, w2, w3, w4, w5⟩ := hW k (by omega) (by omega)
      refine go_iload dX5_isWallBetween_3 5 rfl ?_
      refine go_aload_n dX5_isWallBetween_5 rfl 0 rfl ?_
      refine rc_gs hR.V (k := 5) (v := rj_i (s 2)) (by decide) fX5_35 (rj_vi hR.n2) dX5_isWallBetween_6 ?_
      refine go_icmp_geI (tgt := 38) (by omega) (by omega) dX5_isWallBetween_9 (by decide) (fun c_9 => ?_) (fun c_9 => ?_)
      · exact absurd c_9 (by omega)
      · refine go_aload_n dX5_isWallBetween_12 rfl 0 rfl ?_
        refine rc_gs hR.V (k := 4) (v := .ref (cb + 10)) (by decide) fX5_31 rfl dX5_isWallBetween_13 ?_
        refine go_iload dX5_isWallBetween_16 5 rfl ?_
        refine rc_ew hR (w := (k : Int)) (by omega) (by omega) h2 dX5_isWallBetween_18 ?_
        refine go_aload_n dX5_isWallBetween_19 rfl 1 rfl ?_
        refine go_iload_n dX5_isWallBetween_20 rfl 2 rfl ?_
        refine go_iload_n dX5_isWallBetween_21 rfl 3 rfl ?_
        refine go_iload dX5_isWallBetween_22 4 rfl ?_
        refine go_callV (d1 := d - 1) wVX5_92 kX10 (rc_wa (hR.wal (k : Int) (by omega) (by omega)).2) rfl (by omega) (x_btw (m := m) (w := (k : Int)) (u := u) (v := v) (lo := lo) (hR.mir m (by omega) (by omega)).2 (by omega) (hR.wal k (by omega) (by omega)).2 m2 m3 (by omega) hu hv hlo w1 w2 w3 w4 (by omega)) rfl (Nat.le_of_ble_eq_true rfl) dX5_isWallBetween_24 (fun w σ1 hP9 => ?_)
        obtain ⟨rfl, rfl⟩ := hP9
        refine go_if_eqB (tgt := 32) dX5_isWallBetween_27 (by decide) (fun c_27 => ?_) (fun c_27 => ?_)
        · refine go_iincI (a := (k : Int)) (n := 1) (k0 := 5) (lv' := [(0, .ref (cb + 1)), (1, .ref (ad 0 m)), (2, rj_i u), (3, rj_i v), (4, rj_i lo), (5, rj_i ((k : Int) + 1))]) rfl (by decide) rfl dX5_isWallBetween_32 ?_
          refine go_goto (tgt := 3) dX5_isWallBetween_35 (by decide) ?_
          exact go_eq rfl (lv' := [(0, .ref (cb + 1)), (1, .ref (ad 0 m)), (2, rj_i u), (3, rj_i v), (4, rj_i lo), (5, rj_i ((k + 1 : Nat) : Int))]) (rj_lk (rj_lk (rj_lk (rj_lk (rj_lk (rj_lj (by omega) rfl)))))) rfl rfl (ih (k + 1) (by omega) (by rw [sp_opn, ho, decide_eq_false c_27]; rfl))
        · refine go_iconst (v := Int32.ofInt 1) dX5_isWallBetween_30 rfl ?_
          refine go_retI rfl (rj_n01 (by decide)) ?_ dX5_isWallBetween_31
          exact ⟨rj_vi (rj_bt (sp_opn_no c_27 (by omega))).symm, rfl⟩
  exact go_eq rfl (lv' := [(0, .ref (cb + 1)), (1, .ref (ad 0 m)), (2, rj_i u), (3, rj_i v), (4, rj_i lo), (5, rj_i ((0 : Nat) : Int))]) (rj_lk (rj_lk (rj_lk (rj_lk (rj_lk (rj_lj (rfl) rfl)))))) rfl rfl (loop (s 2).toNat 0 (by omega) rfl)
set_option maxRecDepth 20000 in
/-- x_wayFree -/
theorem x_wayFree {X9 : rj_X} {σ : rj_H} {d cb vv vk : Nat} {c : rm_R} {m p : Int} (hd : 2 ≤ d) {s : Int → Int} {ad : Nat → Int → Nat} (hR : rc_R X9 cb vv vk c σ s ad) (hI : sp_I s) (hm : 0 ≤ m ∧ m < s 0) (hp : 0 ≤ p ∧ p < s 1) : rj_Cl X9 d yX5_isWayFree cX5_isWayFree 3 (some .boolean) [.ref (cb + 1), .ref (ad 0 m), rj_i p] (rc_p X9 cb vv vk c σ) (fun w9 τ => w9 = some (rj_i (rj_b (sp_free s m p = true))) ∧ τ = rc_p X9 cb vv vk c σ) := by
  obtain ⟨⟨h0, h1, h2, h3, h4, h5, h6, h7⟩, hM, hP, hW, hL, hV⟩ := id hI
  obtain ⟨v1, v2, v3, v4⟩ := id hV
  obtain ⟨m1, m2, m3, m4, m5, m6, m7⟩ := hM m (by omega) (by omega)
  obtain ⟨p1, p2, p3, p4⟩ := hP p (by omega) (by omega)
  refine go_call (by decide +kernel) (Nat.le_of_ble_eq_true rfl) ?_
  refine go_eq (pc' := 0) (lv' := [(0, .ref (cb + 1)), (1, .ref (ad 0 m)), (2, rj_i p)]) (st' := []) rfl rfl rfl rfl ?_
  refine go_aload_n dX5_isWayFree_0 rfl 0 rfl ?_
  refine go_aload_n dX5_isWayFree_1 rfl 1 rfl ?_
  refine go_aload_n dX5_isWayFree_2 rfl 0 rfl ?_
  refine rc_gs hR.V (k := 2) (v := .ref (cb + 3)) (by decide) fX5_23 rfl dX5_isWayFree_3 ?_
  refine go_iload_n dX5_isWayFree_6 rfl 2 rfl ?_
  refine rc_r4 hR.V (z := p) (by omega) (by omega) dX5_isWayFree_7 ?_
  refine go_iconst (v := Int32.ofInt 0) dX5_isWayFree_8 rfl ?_
  refine rc_ip0 hR (p := p) (by omega) (by omega) h1 dX5_isWayFree_9 ?_
  refine go_aload_n dX5_isWayFree_10 rfl 0 rfl ?_
  refine rc_gs hR.V (k := 2) (v := .ref (cb + 3)) (by decide) fX5_23 rfl dX5_isWayFree_11 ?_
  refine go_iload_n dX5_isWayFree_14 rfl 2 rfl ?_
  refine rc_r4 hR.V (z := p) (by omega) (by omega) dX5_isWayFree_15 ?_
  refine go_iconst (v := Int32.ofInt 1) dX5_isWayFree_16 rfl ?_
  refine rc_ip1 hR (p := p) (by omega) (by omega) h1 dX5_isWayFree_17 ?_
  refine go_iconst (v := Int32.ofInt 0) dX5_isWayFree_18 rfl ?_
  refine go_callV (d1 := d - 1) wVX5_96 kX5 (rc_a1 hR.V) rfl (by omega) (x_wallB (m := m) (u := s (172 + p)) (v := s (178 + p)) (lo := 0) (by omega) hR hI (by omega) (by omega) (by omega) (by omega)) rfl (Nat.le_of_ble_eq_true rfl) dX5_isWayFree_19 (fun w σ1 hP9 => ?_)
  obtain ⟨rfl, rfl⟩ := hP9
  refine go_if_neB (tgt := 29) dX5_isWayFree_22 (by decide) (fun c_22 => ?_) (fun c_22 => ?_)
  · refine go_iconst (v := Int32.ofInt 0) dX5_isWayFree_29 rfl ?_
    refine go_retI rfl (rj_n01 (by decide)) ?_ dX5_isWayFree_30
    exact ⟨rj_vi (rj_bf (by unfold sp_free; rw [c_22]; decide)).symm, rfl⟩
  · refine go_iconst (v := Int32.ofInt 1) dX5_isWayFree_25 rfl ?_
    refine go_goto (tgt := 30) dX5_isWayFree_26 (by decide) ?_
    refine go_retI rfl (rj_n01 (by decide)) ?_ dX5_isWayFree_30
    exact ⟨rj_vi (rj_bt (by unfold sp_free; simpa using c_22)).symm, rfl⟩
theorem x_quarters {X9 : rj_X} {σ : rj_H} {d cb vv vk : Nat} {c : rm_R} {m p D wd hh : Int} (hd : 2 ≤ d) {s : Int → Int} {ad : Nat → Int → Nat} (hR : rc_R X9 cb vv vk c σ s ad) (hI : sp_I s) (hwd : 0 ≤ wd ∧ wd ≤ 2) (hm9 : 0 ≤ m ∧ m ≤ 99) (hp9 : 0 ≤ p ∧ p ≤ 99) (hD9 : 0 ≤ D ∧ D ≤ 200) (hh9 : 0 ≤ hh ∧ hh ≤ 99) (hhh : hh = if m = 99 then 0 else s (148 + m)) : rj_Cl X9 d yX9_quartersOf cX9_quartersOf 9 (some .int) [.ref (ad 2 0), rj_i wd, rj_i m, rj_i p, rj_i D, rj_i hh] (rc_p X9 cb vv vk c σ) (fun w9 τ => w9 = some (rj_i (sp_bits (fun q => sp_so s D (-11 - wd) m p q) 8)) ∧ ∃ c0, rc_t 92 c c0 ∧ τ = rc_p X9 cb vv vk c0 σ) := by
  obtain ⟨a1, a2, a3, gs, gw, ge, vj, vm, rst, hl, hv, hr⟩ := hR.vy
  exact v_quarters hd hR.V hv hr rfl hwd hm9 hp9 hD9 hh9 hhh
theorem rc_va2 {X9 : rj_X} {σ : rj_H} {cb vv vk : Nat} {c : rm_R} {s : Int → Int} {ad : Nat → Int → Nat} (hR : rc_R X9 cb vv vk c σ s ad) : ∃ fs, (rc_p X9 cb vv vk c σ).2.2 (ad 2 0) = some (.inr (9, fs)) := by
  obtain ⟨a1, a2, a3, gs, gw, ge, vj, vm, rst, hl, hv, hr⟩ := hR.vy
  exact ⟨_, rc_va hv⟩
set_option maxRecDepth 20000 in
/-- x_lit -/
theorem x_lit {X9 : rj_X} {σ : rj_H} {d cb vv vk : Nat} {c : rm_R} {m : Int} (hd : 3 ≤ d) {s : Int → Int} {ad : Nat → Int → Nat} (hR : rc_R X9 cb vv vk c σ s ad) (hI : sp_I s) (hm : 0 ≤ m ∧ m < s 0) : rj_Cl X9 d yX5_litQuarters cX5_litQuarters 2 (some .int) [.ref (cb + 1), .ref (ad 0 m)] (rc_p X9 cb vv vk c σ) (fun w9 τ => w9 = some (rj_i (sp_bits (fun q => sp_so s (s 4) (-11) m 99 q) 8)) ∧ ∃ c0, rc_t 92 c c0 ∧ τ = rc_p X9 cb vv vk c0 σ) := by
  obtain ⟨⟨h0, h1, h2, h3, h4, h5, h6, h7⟩, hM, hP, hW, hL, hV⟩ := id hI
  obtain ⟨v1, v2, v3, v4⟩ := id hV
  obtain ⟨m1, m2, m3, m4, m5, m6, m7⟩ := hM m (by omega) (by omega)
  refine go_call (by decide +kernel) (Nat.le_of_ble_eq_true rfl) ?_
  refine go_eq (pc' := 0) (lv' := [(0, .ref (cb + 1)), (1, .ref (ad 0 m))]) (st' := []) rfl rfl rfl rfl ?_
  refine go_aload_n dX5_litQuarters_0 rfl 0 rfl ?_
  refine rc_gs hR.V (k := 8) (v := .ref (ad 2 0)) (by decide) fX5_48 hR.vref dX5_litQuarters_1 ?_
  refine go_iconst (v := Int32.ofInt 0) dX5_litQuarters_4 rfl ?_
  refine go_aload_n dX5_litQuarters_5 rfl 1 rfl ?_
  refine rc_gm (hR.mir m (by omega) (by omega)).2 ((hM m (by omega) (by omega)).1) (k := 1) (by decide) fX5_99 rfl dX5_litQuarters_6 ?_
  refine go_bipush (v := Int32.ofInt 99) dX5_litQuarters_9 (by decide) ?_
  refine go_aload_n dX5_litQuarters_11 rfl 0 rfl ?_
  refine rc_gs hR.V (k := 11) (v := rj_i (s 4)) (by decide) fX5_58 (rj_vi hR.n4) dX5_litQuarters_12 ?_
  refine go_aload_n dX5_litQuarters_15 rfl 1 rfl ?_
  refine rc_gm (hR.mir m (by omega) (by omega)).2 ((hM m (by omega) (by omega)).1) (k := 4) (by decide) fX5_102 rfl dX5_litQuarters_16 ?_
  obtain ⟨fs19, hfs19⟩ := rc_va2 hR
  refine go_callV (d1 := d - 1) wVX5_105 kX9 hfs19 rfl (by omega) (x_quarters (m := m) (p := 99) (D := s 4) (wd := 0) (hh := s (148 + m)) (by omega) hR hI (by omega) (by omega) (by omega) (by omega) (by omega) (by rw [if_neg (by omega)])) rfl (Nat.le_of_ble_eq_true rfl) dX5_litQuarters_19 (fun w σ1 hP9 => ?_)
  obtain ⟨rfl, c1, hc1, rfl⟩ := hP9
  have hr1 : rc_t 92 c c1 := hc1
  refine go_retI rfl rfl ?_ dX5_litQuarters_22
  exact ⟨rfl, c1, hr1, rfl⟩
set_option maxRecDepth 20000 in
/-- x_own -/
theorem x_own {X9 : rj_X} {σ : rj_H} {d cb vv vk : Nat} {c : rm_R} {p D : Int} (hd : 3 ≤ d) {s : Int → Int} {ad : Nat → Int → Nat} (hR : rc_R X9 cb vv vk c σ s ad) (hI : sp_I s) (hp : 0 ≤ p ∧ p < s 1) (hD : 0 ≤ D ∧ D ≤ 200) : rj_Cl X9 d yX5_ownQuarters cX5_ownQuarters 3 (some .int) [.ref (cb + 1), rj_i p, rj_i D] (rc_p X9 cb vv vk c σ) (fun w9 τ => w9 = some (rj_i (sp_bits (fun q => sp_so s D (-13) 99 p q) 8)) ∧ ∃ c0, rc_t 92 c c0 ∧ τ = rc_p X9 cb vv vk c0 σ) := by
  obtain ⟨⟨h0, h1, h2, h3, h4, h5, h6, h7⟩, hM, hP, hW, hL, hV⟩ := id hI
  obtain ⟨v1, v2, v3, v4⟩ := id hV
  refine go_call (by decide +kernel) (Nat.le_of_ble_eq_true rfl) ?_
  refine go_eq (pc' := 0) (lv' := [(0, .ref (cb + 1)), (1, rj_i p), (2, rj_i D)]) (st' := []) rfl rfl rfl rfl ?_
  refine go_aload_n dX5_ownQuarters_0 rfl 0 rfl ?_
  refine rc_gs hR.V (k := 8) (v := .ref (ad 2 0)) (by decide) fX5_48 hR.vref dX5_ownQuarters_1 ?_
  refine go_iconst (v := Int32.ofInt 2) dX5_ownQuarters_4 rfl ?_
  refine go_bipush (v := Int32.ofInt 99) dX5_ownQuarters_5 (by decide) ?_
  refine go_iload_n dX5_ownQuarters_7 rfl 1 rfl ?_
  refine go_iload_n dX5_ownQuarters_8 rfl 2 rfl ?_
  refine go_iconst (v := Int32.ofInt 0) dX5_ownQuarters_9 rfl ?_
  obtain ⟨fs10, hfs10⟩ := rc_va2 hR
  refine go_callV (d1 := d - 1) wVX5_105 kX9 hfs10 rfl (by omega) (x_quarters (m := 99) (p := p) (D := D) (wd := 2) (hh := 0) (by omega) hR hI (by omega) (by omega) (by omega) (by omega) (by omega) rfl) rfl (Nat.le_of_ble_eq_true rfl) dX5_ownQuarters_10 (fun w σ1 hP9 => ?_)
  obtain ⟨rfl, c1, hc1, rfl⟩ := hP9
  have hr1 : rc_t 92 c c1 := hc1
  refine go_retI rfl rfl ?_ dX5_ownQuarters_13
  exact ⟨rfl, c1, hr1, rfl⟩
set_option maxRecDepth 20000 in
/-- x_can -/
theorem x_can {X9 : rj_X} {σ : rj_H} {d cb vv vk : Nat} {c : rm_R} {m p D : Int} (hd : 4 ≤ d) {s : Int → Int} {ad : Nat → Int → Nat} (hR : rc_R X9 cb vv vk c σ s ad) (hI : sp_I s) (hm : 0 ≤ m ∧ m < s 0) (hp : 0 ≤ p ∧ p < s 1) (hD : 0 ≤ D ∧ D ≤ 200) : rj_Cl X9 d yX5_canQuarters cX5_canQuarters 6 (some .int) [.ref (cb + 1), .ref (ad 0 m), rj_i p, rj_i D] (rc_p X9 cb vv vk c σ) (fun w9 τ => w9 = some (rj_i (sp_bits (fun q => sp_can s D m p q) 8)) ∧ ∃ c0, rc_t 92 c c0 ∧ τ = rc_p X9 cb vv vk c0 σ) := by
  obtain ⟨⟨h0, h1, h2, h3, h4, h5, h6, h7⟩, hM, hP, hW, hL, hV⟩ := id hI
  obtain ⟨v1, v2, v3, v4⟩ := id hV
  obtain ⟨m1, m2, m3, m4, m5, m6, m7⟩ := hM m (by omega) (by omega)
  obtain ⟨p1, p2, p3, p4⟩ := hP p (by omega) (by omega)
  refine go_call (by decide +kernel) (Nat.le_of_ble_eq_true rfl) ?_
  refine go_eq (pc' := 0) (lv' := [(0, .ref (cb + 1)), (1, .ref (ad 0 m)), (2, rj_i p), (3, rj_i D)]) (st' := []) rfl rfl rfl rfl ?_
  refine go_aload_n dX5_canQuarters_0 rfl 1 rfl ?_
  refine go_iload_n dX5_canQuarters_1 rfl 2 rfl ?_
  refine go_aload_n dX5_canQuarters_2 rfl 0 rfl ?_
  refine rc_gs hR.V (k := 2) (v := .ref (cb + 3)) (by decide) fX5_23 rfl dX5_canQuarters_3 ?_
  refine go_iload_n dX5_canQuarters_6 rfl 2 rfl ?_
  refine rc_r4 hR.V (z := p) (by omega) (by omega) dX5_canQuarters_7 ?_
  refine go_iconst (v := Int32.ofInt 0) dX5_canQuarters_8 rfl ?_
  refine rc_ip0 hR (p := p) (by omega) (by omega) h1 dX5_canQuarters_9 ?_
  refine go_aload_n dX5_canQuarters_10 rfl 0 rfl ?_
  refine rc_gs hR.V (k := 2) (v := .ref (cb + 3)) (by decide) fX5_23 rfl dX5_canQuarters_11 ?_
  refine go_iload_n dX5_canQuarters_14 rfl 2 rfl ?_
  refine rc_r4 hR.V (z := p) (by omega) (by omega) dX5_canQuarters_15 ?_
  refine go_iconst (v := Int32.ofInt 1) dX5_canQuarters_16 rfl ?_
  refine rc_ip1 hR (p := p) (by omega) (by omega) h1 dX5_canQuarters_17 ?_
  refine rv_may (m := m) (hR.mir m (by omega) (by omega)).2 (by omega) (by omega) (by omega) m2 m3 (by omega) p1 p2 (sp_may_k m2 m3 p1 p2) (Nat.le_of_ble_eq_true rfl) dX5_canQuarters_18 ?_
  refine go_if_neB (tgt := 26) dX5_canQuarters_21 (by decide) (fun c_21 => ?_) (fun c_21 => ?_)
  · refine go_aload_n dX5_canQuarters_26 rfl 0 rfl ?_
    refine go_aload_n dX5_canQuarters_27 rfl 1 rfl ?_
    refine go_iload_n dX5_canQuarters_28 rfl 2 rfl ?_
    refine go_callV (d1 := d - 1) wVX5_113 kX5 (rc_a1 hR.V) rfl (by omega) (x_wayFree (m := m) (p := p) (by omega) hR hI (by omega) (by omega)) rfl (Nat.le_of_ble_eq_true rfl) dX5_canQuarters_29 (fun w σ1 hP9 => ?_)
    obtain ⟨rfl, rfl⟩ := hP9
    refine go_if_neB (tgt := 37) dX5_canQuarters_32 (by decide) (fun c_32 => ?_) (fun c_32 => ?_)
    · refine go_aload_n dX5_canQuarters_37 rfl 0 rfl ?_
      refine rc_gs hR.V (k := 8) (v := .ref (ad 2 0)) (by decide) fX5_48 hR.vref dX5_canQuarters_38 ?_
      refine go_iconst (v := Int32.ofInt 0) dX5_canQuarters_41 rfl ?_
      refine go_aload_n dX5_canQuarters_42 rfl 1 rfl ?_
      refine rc_gm (hR.mir m (by omega) (by omega)).2 ((hM m (by omega) (by omega)).1) (k := 1) (by decide) fX5_99 rfl dX5_canQuarters_43 ?_
      refine go_bipush (v := Int32.ofInt 99) dX5_canQuarters_46 (by decide) ?_
      refine go_iload_n dX5_canQuarters_48 rfl 3 rfl ?_
      refine go_aload_n dX5_canQuarters_49 rfl 1 rfl ?_
      refine rc_gm (hR.mir m (by omega) (by omega)).2 ((hM m (by omega) (by omega)).1) (k := 4) (by decide) fX5_102 rfl dX5_canQuarters_50 ?_
      obtain ⟨fs53, hfs53⟩ := rc_va2 hR
      refine go_callV (d1 := d - 1) wVX5_105 kX9 hfs53 rfl (by omega) (x_quarters (m := m) (p := 99) (D := D) (wd := 0) (hh := s (148 + m)) (by omega) hR hI (by omega) (by omega) (by omega) (by omega) (by omega) (by rw [if_neg (by omega)])) rfl (Nat.le_of_ble_eq_true rfl) dX5_canQuarters_53 (fun w σ1 hP9 => ?_)
      obtain ⟨rfl, c1, hc1, rfl⟩ := hP9
      have hr1 : rc_t 92 c c1 := hc1
      refine go_istoreS (lv' := [(0, .ref (cb + 1)), (1, .ref (ad 0 m)), (2, rj_i p), (3, rj_i D), (4, rj_i (sp_bits (fun q => sp_so s D (-11) m 99 q) 8))]) (by decide) rfl dX5_canQuarters_56 ?_
      refine go_aload_n dX5_canQuarters_58 rfl 0 rfl ?_
      refine rc_gs (hR.t (hr1.le (by decide))).V (k := 8) (v := .ref (ad 2 0)) (by decide) fX5_48 (hR.t (hr1.le (by decide))).vref dX5_canQuarters_59 ?_
      refine go_iconst (v := Int32.ofInt 1) dX5_canQuarters_62 rfl ?_
      refine go_aload_n dX5_canQuarters_63 rfl 1 rfl ?_
      refine rc_gm ((hR.t (hr1.le (by decide))).mir m (by omega) (by omega)).2 ((hM m (by omega) (by omega)).1) (k := 1) (by decide) fX5_99 rfl dX5_canQuarters_64 ?_
      refine go_iload_n dX5_canQuarters_67 rfl 2 rfl ?_
      refine go_iload_n dX5_canQuarters_68 rfl 3 rfl ?_
      refine go_aload_n dX5_canQuarters_69 rfl 1 rfl ?_
      refine rc_gm ((hR.t (hr1.le (by decide))).mir m (by omega) (by omega)).2 ((hM m (by omega) (by omega)).1) (k := 4) (by decide) fX5_102 rfl dX5_canQuarters_70 ?_
      obtain ⟨fs73, hfs73⟩ := rc_va2 (hR.t (hr1.le (by decide)))
      refine go_callV (d1 := d - 1) wVX5_105 kX9 hfs73 rfl (by omega) (x_quarters (m := m) (p := p) (D := D) (wd := 1) (hh := s (148 + m)) (by omega) (hR.t (hr1.le (by decide))) hI (by omega) (by omega) (by omega) (by omega) (by omega) (by rw [if_neg (by omega)])) rfl (Nat.le_of_ble_eq_true rfl) dX5_canQuarters_73 (fun w σ1 hP9 => ?_)
      obtain ⟨rfl, c2, hc2, rfl⟩ := hP9
      have hr2 : rc_t 92 c c2 := hr1.tr hc2
      refine go_istoreS (lv' := [(0, .ref (cb + 1)), (1, .ref (ad 0 m)), (2, rj_i p), (3, rj_i D), (4, rj_i (sp_bits (fun q => sp_so s D (-11) m 99 q) 8)), (5, rj_i (sp_bits (fun q => sp_so s D (-12) m p q) 8))]) (by decide) rfl dX5_canQuarters_76 ?_
      refine go_iload dX5_canQuarters_78 4 rfl ?_
      refine go_iload dX5_canQuarters_80 5 rfl ?_
      refine go_iconst (v := Int32.ofInt (-1)) dX5_canQuarters_82 rfl ?_
      refine go_xorm dX5_canQuarters_83 ?_
      refine go_andnM (fun q => sp_so s D (-11) m 99 q) (fun q => sp_so s D (-12) m p q) 8 dX5_canQuarters_84 ?_
      refine go_retI rfl rfl ?_ dX5_canQuarters_85
      exact ⟨rj_vi (sp_bits_ext (fun q _ _ => by unfold sp_can; rw [c_21, c_32]; simp)), c2, hr2, rfl⟩
    · refine go_iconst (v := Int32.ofInt 0) dX5_canQuarters_35 rfl ?_
      refine go_retI rfl rfl ?_ dX5_canQuarters_36
      exact ⟨rj_vi (((sp_bits_0 _ 8).mpr (fun q _ _ => by unfold sp_can; rw [Bool.eq_false_iff.mpr c_32]; simp)).symm), c, rc_t.rf, rfl⟩
  · refine go_iconst (v := Int32.ofInt 0) dX5_canQuarters_24 rfl ?_
    refine go_retI rfl rfl ?_ dX5_canQuarters_25
    exact ⟨rj_vi (((sp_bits_0 _ 8).mpr (fun q _ _ => by unfold sp_can; rw [Bool.eq_false_iff.mpr c_21]; simp)).symm), c, rc_t.rf, rfl⟩
