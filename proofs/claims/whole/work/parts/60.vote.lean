/-! THE CLASS: holds -/
set_option maxRecDepth 20000 in
/-- x_beats -/
theorem x_beats {X9 : rj_X} {σ : rj_H} {d cb vv vk : Nat} {c : rm_R} {a b : Int} {s : Int → Int} {ad : Nat → Int → Nat} (hR : rc_R X9 cb vv vk c σ s ad) (hI : sp_I s) (h81 : s 8 = s 1) (ha : 0 ≤ a ∧ a < s 1) (hb : 0 ≤ b ∧ b < s 1) : rj_Cl X9 d yX11_beats cX11_beats 3 (some .boolean) [.ref cb, rj_i a, rj_i b] (rc_p X9 cb vv vk c σ) (fun w9 τ => w9 = some (rj_i (rj_b (sp_vb s a b = true))) ∧ τ = rc_p X9 cb vv vk c σ) := by
  obtain ⟨⟨h0, h1, h2, h3, h4, h5, h6, h7⟩, hM, hP, hW, hL, hV⟩ := id hI
  obtain ⟨v1, v2, v3, v4⟩ := id hV
  have vb9 := sp_vn_b (s := s) (a := a) (b := b) h5
  refine go_call (by decide +kernel) (Nat.le_of_ble_eq_true rfl) ?_
  refine go_eq (pc' := 0) (lv' := [(0, .ref cb), (1, rj_i a), (2, rj_i b)]) (st' := []) rfl rfl rfl rfl ?_
  refine go_iconst (v := Int32.ofInt 2) dX11_beats_0 rfl ?_
  refine go_aload_n dX11_beats_1 rfl 0 rfl ?_
  refine rc_gx hR.V (k := 0) (by decide) fX11_12 rfl dX11_beats_2 ?_
  refine rc_gs hR.V (k := 12) (v := .ref (cb + 25)) (by decide) fX11_243 rfl dX11_beats_5 ?_
  refine go_iload_n dX11_beats_8 rfl 1 rfl ?_
  refine rc_r26 hR.V (z := a) (by omega) (by omega) dX11_beats_9 ?_
  refine go_iload_n dX11_beats_10 rfl 2 rfl ?_
  refine rc_ia hR (a := a) (e := b) (by omega) (by omega) (by omega) (by omega) (Or.inr (by omega)) dX11_beats_11 ?_
  refine go_mulI dX11_beats_12 ?_
  refine go_aload_n dX11_beats_13 rfl 0 rfl ?_
  refine rc_gx hR.V (k := 0) (by decide) fX11_12 rfl dX11_beats_14 ?_
  refine rc_gs hR.V (k := 13) (v := rj_i (s 5)) (by decide) fX11_240 (rj_vi hR.n5) dX11_beats_17 ?_
  refine go_icmp_leI (tgt := 27) (by omega) (by omega) dX11_beats_20 (by decide) (fun c_20 => ?_) (fun c_20 => ?_)
  · refine go_iconst (v := Int32.ofInt 0) dX11_beats_27 rfl ?_
    refine go_retI rfl (rj_n01 (by decide)) ?_ dX11_beats_28
    exact ⟨rj_vi (rj_bf (fun q => by have := (sp_vb_i h5.1).mp q; omega)).symm, rfl⟩
  · refine go_iconst (v := Int32.ofInt 1) dX11_beats_23 rfl ?_
    refine go_goto (tgt := 28) dX11_beats_24 (by decide) ?_
    refine go_retI rfl (rj_n01 (by decide)) ?_ dX11_beats_28
    exact ⟨rj_vi (rj_bt ((sp_vb_i h5.1).mpr (by omega))).symm, rfl⟩
set_option maxRecDepth 20000 in
/-- x_beaten -/
theorem x_beaten {X9 : rj_X} {σ : rj_H} {d cb vv vk : Nat} {c : rm_R} {a : Int} (hd : 1 ≤ d) {s : Int → Int} {ad : Nat → Int → Nat} (hR : rc_R X9 cb vv vk c σ s ad) (hI : sp_I s) (h81 : s 8 = s 1) (ha : 0 ≤ a ∧ a < s 1) : rj_Cl X9 d yX11_beatenBy cX11_beatenBy 4 (some .int) [.ref cb, rj_i a] (rc_p X9 cb vv vk c σ) (fun w9 τ => w9 = some (rj_i (sp_ven s a)) ∧ τ = rc_p X9 cb vv vk c σ) := by
  obtain ⟨⟨h0, h1, h2, h3, h4, h5, h6, h7⟩, hM, hP, hW, hL, hV⟩ := id hI
  obtain ⟨v1, v2, v3, v4⟩ := id hV
  refine go_call (by decide +kernel) (Nat.le_of_ble_eq_true rfl) ?_
  refine go_eq (pc' := 0) (lv' := [(0, .ref cb), (1, rj_i a)]) (st' := []) rfl rfl rfl rfl ?_
  refine go_iconst (v := Int32.ofInt 0) dX11_beatenBy_0 rfl ?_
  refine go_istore_nS (lv' := [(0, .ref cb), (1, rj_i a), (2, rj_i 0)]) rfl (by decide) rfl dX11_beatenBy_1 ?_
  refine go_iconst (v := Int32.ofInt 0) dX11_beatenBy_2 rfl ?_
  refine go_istore_nS (lv' := [(0, .ref cb), (1, rj_i a), (2, rj_i 0), (3, rj_i 0)]) rfl (by decide) rfl dX11_beatenBy_3 ?_
  have loop : ∀ n k : Nat, k + n = (s 1).toNat → rj_Go X9 yX11_beatenBy cX11_beatenBy 4 (some .int) d (fun w9 τ => w9 = some (rj_i (sp_ven s a)) ∧ τ = rc_p X9 cb vv vk c σ) 4 [(0, .ref cb), (1, rj_i a), (2, rj_i (sp_sum (sp_ve s a) k)), (3, rj_i (k : Int))] [] (rc_p X9 cb vv vk c σ) := by
    intro n
    induction n with
    | zero =>
      intro k hk 
      refine go_iload_n dX11_beatenBy_4 rfl 3 rfl ?_
      refine go_aload_n dX11_beatenBy_5 rfl 0 rfl ?_
      refine rc_gx hR.V (k := 0) (by decide) fX11_12 rfl dX11_beatenBy_6 ?_
      refine rc_gs hR.V (k := 3) (v := rj_i (s 1)) (by decide) fX11_76 (rj_vi hR.n1) dX11_beatenBy_9 ?_
      refine go_icmp_geI (tgt := 33) (by omega) (by omega) dX11_beatenBy_12 (by decide) (fun c_12 => ?_) (fun c_12 => ?_)
      · refine go_iload_n dX11_beatenBy_33 rfl 2 rfl ?_
        refine go_retI rfl rfl ?_ dX11_beatenBy_34
        exact ⟨rj_vi (by unfold sp_ven; rw [show (s 1).toNat = k by omega]), rfl⟩
      · exact absurd c_12 (by omega)
    | succ n ih =>
      intro k hk 
      refine go_iload_n dX11_beatenBy_4 rfl 3 rfl ?_
      refine go_aload_n dX11_beatenBy_5 rfl 0 rfl ?_
      refine rc_gx hR.V (k := 0) (by decide) fX11_12 rfl dX11_beatenBy_6 ?_
      refine rc_gs hR.V (k := 3) (v := rj_i (s 1)) (by decide) fX11_76 (rj_vi hR.n1) dX11_beatenBy_9 ?_
      refine go_icmp_geI (tgt := 33) (by omega) (by omega) dX11_beatenBy_12 (by decide) (fun c_12 => ?_) (fun c_12 => ?_)
      · exact absurd c_12 (by omega)
      · refine go_aload_n dX11_beatenBy_15 rfl 0 rfl ?_
        refine go_iload_n dX11_beatenBy_16 rfl 1 rfl ?_
        refine go_iload_n dX11_beatenBy_17 rfl 3 rfl ?_
        refine go_callV (d1 := d - 1) wVX11_363 kX11 (rc_a0 hR.V) rfl (by omega) (x_beats (a := a) (b := (k : Int)) hR hI h81 (by omega) (by omega)) rfl (Nat.le_of_ble_eq_true rfl) dX11_beatenBy_18 (fun w σ1 hP9 => ?_)
        obtain ⟨rfl, rfl⟩ := hP9
        refine go_if_eqB (tgt := 27) dX11_beatenBy_21 (by decide) (fun c_21 => ?_) (fun c_21 => ?_)
        · refine go_iincI (a := (k : Int)) (n := 1) (k0 := 3) (lv' := [(0, .ref cb), (1, rj_i a), (2, rj_i (sp_sum (sp_ve s a) k)), (3, rj_i ((k : Int) + 1))]) rfl (by decide) rfl dX11_beatenBy_27 ?_
          refine go_goto (tgt := 4) dX11_beatenBy_30 (by decide) ?_
          exact go_eq rfl (lv' := [(0, .ref cb), (1, rj_i a), (2, rj_i (sp_sum (sp_ve s a) (k + 1))), (3, rj_i ((k + 1 : Nat) : Int))]) (rj_lk (rj_lk (rj_lj (by rw [sp_sum]; unfold sp_ve; rw [if_neg c_21, Int.add_zero]) (rj_lj (by omega) rfl)))) rfl rfl (ih (k + 1) (by omega))
        · refine go_iincI (a := sp_sum (sp_ve s a) k) (n := 1) (k0 := 2) (lv' := [(0, .ref cb), (1, rj_i a), (2, rj_i (sp_sum (sp_ve s a) k + 1)), (3, rj_i (k : Int))]) rfl (by decide) rfl dX11_beatenBy_24 ?_
          refine go_iincI (a := (k : Int)) (n := 1) (k0 := 3) (lv' := [(0, .ref cb), (1, rj_i a), (2, rj_i (sp_sum (sp_ve s a) k + 1)), (3, rj_i ((k : Int) + 1))]) rfl (by decide) rfl dX11_beatenBy_27 ?_
          refine go_goto (tgt := 4) dX11_beatenBy_30 (by decide) ?_
          exact go_eq rfl (lv' := [(0, .ref cb), (1, rj_i a), (2, rj_i (sp_sum (sp_ve s a) (k + 1))), (3, rj_i ((k + 1 : Nat) : Int))]) (rj_lk (rj_lk (rj_lj (by rw [sp_sum]; unfold sp_ve; rw [if_pos c_21]) (rj_lj (by omega) rfl)))) rfl rfl (ih (k + 1) (by omega))
  exact go_eq rfl (lv' := [(0, .ref cb), (1, rj_i a), (2, rj_i (sp_sum (sp_ve s a) 0)), (3, rj_i ((0 : Nat) : Int))]) (rj_lk (rj_lk (rj_lj (rfl) (rj_lj (rfl) rfl)))) rfl rfl (loop (s 1).toNat 0 (by omega))
set_option maxRecDepth 20000 in
/-- x_winner -/
theorem x_winner {X9 : rj_X} {σ : rj_H} {d cb vv vk : Nat} {c : rm_R} (hd : 2 ≤ d) {s : Int → Int} {ad : Nat → Int → Nat} (hR : rc_R X9 cb vv vk c σ s ad) (hI : sp_I s) (h81 : s 8 = s 1) : rj_Cl X9 d yX11_winner cX11_winner 2 (some .int) [.ref cb] (rc_p X9 cb vv vk c σ) (fun w9 τ => w9 = some (rj_i (sp_wn s (s 1).toNat 0)) ∧ τ = rc_p X9 cb vv vk c σ) := by
  obtain ⟨⟨h0, h1, h2, h3, h4, h5, h6, h7⟩, hM, hP, hW, hL, hV⟩ := id hI
  obtain ⟨v1, v2, v3, v4⟩ := id hV
  refine go_call (by decide +kernel) (Nat.le_of_ble_eq_true rfl) ?_
  refine go_eq (pc' := 0) (lv' := [(0, .ref cb)]) (st' := []) rfl rfl rfl rfl ?_
  refine go_iconst (v := Int32.ofInt 0) dX11_winner_0 rfl ?_
  refine go_istore_nS (lv' := [(0, .ref cb), (1, rj_i 0)]) rfl (by decide) rfl dX11_winner_1 ?_
  have loop : ∀ n k : Nat, k + n = (s 1).toNat → (sp_wn s (s 1).toNat 0) = sp_wn s n k → rj_Go X9 yX11_winner cX11_winner 2 (some .int) d (fun w9 τ => w9 = some (rj_i (sp_wn s (s 1).toNat 0)) ∧ τ = rc_p X9 cb vv vk c σ) 2 [(0, .ref cb), (1, rj_i (k : Int))] [] (rc_p X9 cb vv vk c σ) := by
    intro n
    induction n with
    | zero =>
      intro k hk hF
      refine go_iload_n dX11_winner_2 rfl 1 rfl ?_
      refine go_aload_n dX11_winner_3 rfl 0 rfl ?_
      refine rc_gx hR.V (k := 0) (by decide) fX11_12 rfl dX11_winner_4 ?_
      refine rc_gs hR.V (k := 3) (v := rj_i (s 1)) (by decide) fX11_76 (rj_vi hR.n1) dX11_winner_7 ?_
      refine go_icmp_geI (tgt := 38) (by omega) (by omega) dX11_winner_10 (by decide) (fun c_10 => ?_) (fun c_10 => ?_)
      · refine go_bipush (v := Int32.ofInt (-5)) dX11_winner_38 (by decide) ?_
        refine go_retI rfl rfl ?_ dX11_winner_40
        exact ⟨rj_vi (by rw [hF]; rfl), rfl⟩
      · exact absurd c_10 (by omega)
    | succ n ih =>
      intro k hk hF
      have vb9 := sp_ven_b (s := s) (a := (k : Int)) h1
      refine go_iload_n dX11_winner_2 rfl 1 rfl ?_
      refine go_aload_n dX11_winner_3 rfl 0 rfl ?_
      refine rc_gx hR.V (k := 0) (by decide) fX11_12 rfl dX11_winner_4 ?_
      refine rc_gs hR.V (k := 3) (v := rj_i (s 1)) (by decide) fX11_76 (rj_vi hR.n1) dX11_winner_7 ?_
      refine go_icmp_geI (tgt := 38) (by omega) (by omega) dX11_winner_10 (by decide) (fun c_10 => ?_) (fun c_10 => ?_)
      · exact absurd c_10 (by omega)
      · refine go_aload_n dX11_winner_13 rfl 0 rfl ?_
        refine go_iload_n dX11_winner_14 rfl 1 rfl ?_
        refine go_callV (d1 := d - 1) wVX11_258 kX11 (rc_a0 hR.V) rfl (by omega) (x_beaten (a := (k : Int)) (by omega) hR hI h81 (by omega)) rfl (Nat.le_of_ble_eq_true rfl) dX11_winner_15 (fun w σ1 hP9 => ?_)
        obtain ⟨rfl, rfl⟩ := hP9
        refine go_aload_n dX11_winner_18 rfl 0 rfl ?_
        refine rc_gx hR.V (k := 0) (by decide) fX11_12 rfl dX11_winner_19 ?_
        refine rc_gs hR.V (k := 3) (v := rj_i (s 1)) (by decide) fX11_76 (rj_vi hR.n1) dX11_winner_22 ?_
        refine go_iconst (v := Int32.ofInt 1) dX11_winner_25 rfl ?_
        refine go_subI dX11_winner_26 ?_
        refine go_icmp_neI (tgt := 32) (by omega) (by omega) dX11_winner_27 (by decide) (fun c_27 => ?_) (fun c_27 => ?_)
        · refine go_iincI (a := (k : Int)) (n := 1) (k0 := 1) (lv' := [(0, .ref cb), (1, rj_i ((k : Int) + 1))]) rfl (by decide) rfl dX11_winner_32 ?_
          refine go_goto (tgt := 2) dX11_winner_35 (by decide) ?_
          exact go_eq rfl (lv' := [(0, .ref cb), (1, rj_i ((k + 1 : Nat) : Int))]) (rj_lk (rj_lj (by omega) rfl)) rfl rfl (ih (k + 1) (by omega) (by rw [hF, sp_wn, if_neg (by omega)]))
        · refine go_iload_n dX11_winner_30 rfl 1 rfl ?_
          refine go_retI rfl rfl ?_ dX11_winner_31
          exact ⟨rj_vi (by rw [hF, sp_wn, if_pos (by omega)]), rfl⟩
  exact go_eq rfl (lv' := [(0, .ref cb), (1, rj_i ((0 : Nat) : Int))]) (rj_lk (rj_lj (by omega) rfl)) rfl rfl (loop ((s 1).toNat - 0) 0 (by omega) (rfl))
set_option maxRecDepth 20000 in
/-- x_ahead -/
theorem x_ahead {X9 : rj_X} {σ : rj_H} {d cb vv vk : Nat} {c : rm_R} {p : Int} (hd : 2 ≤ d) {s : Int → Int} {ad : Nat → Int → Nat} (hR : rc_R X9 cb vv vk c σ s ad) (hI : sp_I s) (h81 : s 8 = s 1) (hp : 0 ≤ p ∧ p < s 1) : rj_Cl X9 d yX11_aheadInOrder cX11_aheadInOrder 6 (some .int) [.ref cb, rj_i p] (rc_p X9 cb vv vk c σ) (fun w9 τ => w9 = some (rj_i (sp_vpo s p)) ∧ τ = rc_p X9 cb vv vk c σ) := by
  obtain ⟨⟨h0, h1, h2, h3, h4, h5, h6, h7⟩, hM, hP, hW, hL, hV⟩ := id hI
  obtain ⟨v1, v2, v3, v4⟩ := id hV
  have vb8 := sp_ven_b (s := s) (a := p) h1
  refine go_call (by decide +kernel) (Nat.le_of_ble_eq_true rfl) ?_
  refine go_eq (pc' := 0) (lv' := [(0, .ref cb), (1, rj_i p)]) (st' := []) rfl rfl rfl rfl ?_
  refine go_aload_n dX11_aheadInOrder_0 rfl 0 rfl ?_
  refine go_iload_n dX11_aheadInOrder_1 rfl 1 rfl ?_
  refine go_callV (d1 := d - 1) wVX11_258 kX11 (rc_a0 hR.V) rfl (by omega) (x_beaten (a := p) (by omega) hR hI h81 (by omega)) rfl (Nat.le_of_ble_eq_true rfl) dX11_aheadInOrder_2 (fun w σ1 hP9 => ?_)
  obtain ⟨rfl, rfl⟩ := hP9
  refine go_istore_nS (lv' := [(0, .ref cb), (1, rj_i p), (2, rj_i (sp_ven s p))]) rfl (by decide) rfl dX11_aheadInOrder_5 ?_
  refine go_iconst (v := Int32.ofInt 0) dX11_aheadInOrder_6 rfl ?_
  refine go_istore_nS (lv' := [(0, .ref cb), (1, rj_i p), (2, rj_i (sp_ven s p)), (3, rj_i 0)]) rfl (by decide) rfl dX11_aheadInOrder_7 ?_
  refine go_iconst (v := Int32.ofInt 0) dX11_aheadInOrder_8 rfl ?_
  refine go_istoreS (lv' := [(0, .ref cb), (1, rj_i p), (2, rj_i (sp_ven s p)), (3, rj_i 0), (4, rj_i 0)]) (by decide) rfl dX11_aheadInOrder_9 ?_
  have loop : ∀ n k : Nat, k + n = (s 1).toNat → rj_Go X9 yX11_aheadInOrder cX11_aheadInOrder 6 (some .int) d (fun w9 τ => w9 = some (rj_i (sp_vpo s p)) ∧ τ = rc_p X9 cb vv vk c σ) 11 [(0, .ref cb), (1, rj_i p), (2, rj_i (sp_ven s p)), (3, rj_i (sp_sum (sp_vp s p) k)), (4, rj_i (k : Int))] [] (rc_p X9 cb vv vk c σ) := by
    intro n
    induction n with
    | zero =>
      intro k hk 
      refine go_iload dX11_aheadInOrder_11 4 rfl ?_
      refine go_aload_n dX11_aheadInOrder_13 rfl 0 rfl ?_
      refine rc_gx hR.V (k := 0) (by decide) fX11_12 rfl dX11_aheadInOrder_14 ?_
      refine rc_gs hR.V (k := 3) (v := rj_i (s 1)) (by decide) fX11_76 (rj_vi hR.n1) dX11_aheadInOrder_17 ?_
      refine go_icmp_geI (tgt := 58) (by omega) (by omega) dX11_aheadInOrder_20 (by decide) (fun c_20 => ?_) (fun c_20 => ?_)
      · refine go_iload_n dX11_aheadInOrder_58 rfl 3 rfl ?_
        refine go_retI rfl rfl ?_ dX11_aheadInOrder_59
        exact ⟨rj_vi (by unfold sp_vpo; rw [show (s 1).toNat = k by omega]), rfl⟩
      · exact absurd c_20 (by omega)
    | succ n ih =>
      intro k hk 
      have vb9 := sp_ven_b (s := s) (a := (k : Int)) h1
      refine go_iload dX11_aheadInOrder_11 4 rfl ?_
      refine go_aload_n dX11_aheadInOrder_13 rfl 0 rfl ?_
      refine rc_gx hR.V (k := 0) (by decide) fX11_12 rfl dX11_aheadInOrder_14 ?_
      refine rc_gs hR.V (k := 3) (v := rj_i (s 1)) (by decide) fX11_76 (rj_vi hR.n1) dX11_aheadInOrder_17 ?_
      refine go_icmp_geI (tgt := 58) (by omega) (by omega) dX11_aheadInOrder_20 (by decide) (fun c_20 => ?_) (fun c_20 => ?_)
      · exact absurd c_20 (by omega)
      · refine go_aload_n dX11_aheadInOrder_23 rfl 0 rfl ?_
        refine go_iload dX11_aheadInOrder_24 4 rfl ?_
        refine go_callV (d1 := d - 1) wVX11_258 kX11 (rc_a0 hR.V) rfl (by omega) (x_beaten (a := (k : Int)) (by omega) hR hI h81 (by omega)) rfl (Nat.le_of_ble_eq_true rfl) dX11_aheadInOrder_26 (fun w σ1 hP9 => ?_)
        obtain ⟨rfl, rfl⟩ := hP9
        refine go_istoreS (lv' := [(0, .ref cb), (1, rj_i p), (2, rj_i (sp_ven s p)), (3, rj_i (sp_sum (sp_vp s p) k)), (4, rj_i (k : Int)), (5, rj_i (sp_ven s (k : Int)))]) (by decide) rfl dX11_aheadInOrder_29 ?_
        refine go_iload dX11_aheadInOrder_31 5 rfl ?_
        refine go_iload_n dX11_aheadInOrder_33 rfl 2 rfl ?_
        refine go_icmp_gtI (tgt := 49) (by omega) (by omega) dX11_aheadInOrder_34 (by decide) (fun c_34 => ?_) (fun c_34 => ?_)
        · refine go_iincI (a := sp_sum (sp_vp s p) k) (n := 1) (k0 := 3) (lv' := [(0, .ref cb), (1, rj_i p), (2, rj_i (sp_ven s p)), (3, rj_i (sp_sum (sp_vp s p) k + 1)), (4, rj_i (k : Int)), (5, rj_i (sp_ven s (k : Int)))]) rfl (by decide) rfl dX11_aheadInOrder_49 ?_
          refine go_iincI (a := (k : Int)) (n := 1) (k0 := 4) (lv' := [(0, .ref cb), (1, rj_i p), (2, rj_i (sp_ven s p)), (3, rj_i (sp_sum (sp_vp s p) k + 1)), (4, rj_i ((k : Int) + 1)), (5, rj_i (sp_ven s (k : Int)))]) rfl (by decide) rfl dX11_aheadInOrder_52 ?_
          refine go_goto (tgt := 11) dX11_aheadInOrder_55 (by decide) ?_
          refine go_sub (lv' := [(0, .ref cb), (1, rj_i p), (2, rj_i (sp_ven s p)), (3, rj_i (sp_sum (sp_vp s p) k + 1)), (4, rj_i ((k : Int) + 1))]) (by intro q hq; simp only [List.mem_cons, List.not_mem_nil, or_false] at hq ⊢; rcases hq with rfl | rfl | rfl | rfl | rfl <;> simp) ?_
          exact go_eq rfl (lv' := [(0, .ref cb), (1, rj_i p), (2, rj_i (sp_ven s p)), (3, rj_i (sp_sum (sp_vp s p) (k + 1))), (4, rj_i ((k + 1 : Nat) : Int))]) (rj_lk (rj_lk (rj_lk (rj_lj (by rw [sp_sum]; unfold sp_vp; rw [if_pos (by omega)]) (rj_lj (by omega) rfl))))) rfl rfl (ih (k + 1) (by omega))
        · refine go_iload dX11_aheadInOrder_37 5 rfl ?_
          refine go_iload_n dX11_aheadInOrder_39 rfl 2 rfl ?_
          refine go_icmp_neI (tgt := 52) (by omega) (by omega) dX11_aheadInOrder_40 (by decide) (fun c_40 => ?_) (fun c_40 => ?_)
          · refine go_iincI (a := (k : Int)) (n := 1) (k0 := 4) (lv' := [(0, .ref cb), (1, rj_i p), (2, rj_i (sp_ven s p)), (3, rj_i (sp_sum (sp_vp s p) k)), (4, rj_i ((k : Int) + 1)), (5, rj_i (sp_ven s (k : Int)))]) rfl (by decide) rfl dX11_aheadInOrder_52 ?_
            refine go_goto (tgt := 11) dX11_aheadInOrder_55 (by decide) ?_
            refine go_sub (lv' := [(0, .ref cb), (1, rj_i p), (2, rj_i (sp_ven s p)), (3, rj_i (sp_sum (sp_vp s p) k)), (4, rj_i ((k : Int) + 1))]) (by intro q hq; simp only [List.mem_cons, List.not_mem_nil, or_false] at hq ⊢; rcases hq with rfl | rfl | rfl | rfl | rfl <;> simp) ?_
            exact go_eq rfl (lv' := [(0, .ref cb), (1, rj_i p), (2, rj_i (sp_ven s p)), (3, rj_i (sp_sum (sp_vp s p) (k + 1))), (4, rj_i ((k + 1 : Nat) : Int))]) (rj_lk (rj_lk (rj_lk (rj_lj (by rw [sp_sum]; unfold sp_vp; rw [if_neg (by omega), Int.add_zero]) (rj_lj (by omega) rfl))))) rfl rfl (ih (k + 1) (by omega))
          · refine go_iload dX11_aheadInOrder_43 4 rfl ?_
            refine go_iload_n dX11_aheadInOrder_45 rfl 1 rfl ?_
            refine go_icmp_geI (tgt := 52) (by omega) (by omega) dX11_aheadInOrder_46 (by decide) (fun c_46 => ?_) (fun c_46 => ?_)
            · refine go_iincI (a := (k : Int)) (n := 1) (k0 := 4) (lv' := [(0, .ref cb), (1, rj_i p), (2, rj_i (sp_ven s p)), (3, rj_i (sp_sum (sp_vp s p) k)), (4, rj_i ((k : Int) + 1)), (5, rj_i (sp_ven s (k : Int)))]) rfl (by decide) rfl dX11_aheadInOrder_52 ?_
              refine go_goto (tgt := 11) dX11_aheadInOrder_55 (by decide) ?_
              refine go_sub (lv' := [(0, .ref cb), (1, rj_i p), (2, rj_i (sp_ven s p)), (3, rj_i (sp_sum (sp_vp s p) k)), (4, rj_i ((k : Int) + 1))]) (by intro q hq; simp only [List.mem_cons, List.not_mem_nil, or_false] at hq ⊢; rcases hq with rfl | rfl | rfl | rfl | rfl <;> simp) ?_
              exact go_eq rfl (lv' := [(0, .ref cb), (1, rj_i p), (2, rj_i (sp_ven s p)), (3, rj_i (sp_sum (sp_vp s p) (k + 1))), (4, rj_i ((k + 1 : Nat) : Int))]) (rj_lk (rj_lk (rj_lk (rj_lj (by rw [sp_sum]; unfold sp_vp; rw [if_neg (by omega), Int.add_zero]) (rj_lj (by omega) rfl))))) rfl rfl (ih (k + 1) (by omega))
            · refine go_iincI (a := sp_sum (sp_vp s p) k) (n := 1) (k0 := 3) (lv' := [(0, .ref cb), (1, rj_i p), (2, rj_i (sp_ven s p)), (3, rj_i (sp_sum (sp_vp s p) k + 1)), (4, rj_i (k : Int)), (5, rj_i (sp_ven s (k : Int)))]) rfl (by decide) rfl dX11_aheadInOrder_49 ?_
              refine go_iincI (a := (k : Int)) (n := 1) (k0 := 4) (lv' := [(0, .ref cb), (1, rj_i p), (2, rj_i (sp_ven s p)), (3, rj_i (sp_sum (sp_vp s p) k + 1)), (4, rj_i ((k : Int) + 1)), (5, rj_i (sp_ven s (k : Int)))]) rfl (by decide) rfl dX11_aheadInOrder_52 ?_
              refine go_goto (tgt := 11) dX11_aheadInOrder_55 (by decide) ?_
              refine go_sub (lv' := [(0, .ref cb), (1, rj_i p), (2, rj_i (sp_ven s p)), (3, rj_i (sp_sum (sp_vp s p) k + 1)), (4, rj_i ((k : Int) + 1))]) (by intro q hq; simp only [List.mem_cons, List.not_mem_nil, or_false] at hq ⊢; rcases hq with rfl | rfl | rfl | rfl | rfl <;> simp) ?_
              exact go_eq rfl (lv' := [(0, .ref cb), (1, rj_i p), (2, rj_i (sp_ven s p)), (3, rj_i (sp_sum (sp_vp s p) (k + 1))), (4, rj_i ((k + 1 : Nat) : Int))]) (rj_lk (rj_lk (rj_lk (rj_lj (by rw [sp_sum]; unfold sp_vp; rw [if_pos (by omega)]) (rj_lj (by omega) rfl))))) rfl rfl (ih (k + 1) (by omega))
  exact go_eq rfl (lv' := [(0, .ref cb), (1, rj_i p), (2, rj_i (sp_ven s p)), (3, rj_i (sp_sum (sp_vp s p) 0)), (4, rj_i ((0 : Nat) : Int))]) (rj_lk (rj_lk (rj_lk (rj_lj (rfl) (rj_lj (rfl) rfl))))) rfl rfl (loop (s 1).toNat 0 (by omega))
set_option maxRecDepth 20000 in
/-- x_inOrder -/
theorem x_inOrder {X9 : rj_X} {σ : rj_H} {d cb vv vk : Nat} {c : rm_R} {i : Int} (hd : 3 ≤ d) {s : Int → Int} {ad : Nat → Int → Nat} (hR : rc_R X9 cb vv vk c σ s ad) (hI : sp_I s) (h81 : s 8 = s 1) (hi : 0 ≤ i ∧ i < s 1) : rj_Cl X9 d yX11_patchInOrder cX11_patchInOrder 3 (some .int) [.ref cb, rj_i i] (rc_p X9 cb vv vk c σ) (fun w9 τ => w9 = some (rj_i (sp_io s i (s 1).toNat 0)) ∧ τ = rc_p X9 cb vv vk c σ) := by
  obtain ⟨⟨h0, h1, h2, h3, h4, h5, h6, h7⟩, hM, hP, hW, hL, hV⟩ := id hI
  obtain ⟨v1, v2, v3, v4⟩ := id hV
  refine go_call (by decide +kernel) (Nat.le_of_ble_eq_true rfl) ?_
  refine go_eq (pc' := 0) (lv' := [(0, .ref cb), (1, rj_i i)]) (st' := []) rfl rfl rfl rfl ?_
  refine go_iconst (v := Int32.ofInt 0) dX11_patchInOrder_0 rfl ?_
  refine go_istore_nS (lv' := [(0, .ref cb), (1, rj_i i), (2, rj_i 0)]) rfl (by decide) rfl dX11_patchInOrder_1 ?_
  have loop : ∀ n k : Nat, k + n = (s 1).toNat → sp_io s i (s 1).toNat 0 = sp_io s i n k → (∃ p : Nat, k ≤ p ∧ p < k + n ∧ sp_vpo s (p : Int) = i) → rj_Go X9 yX11_patchInOrder cX11_patchInOrder 3 (some .int) d (fun w9 τ => w9 = some (rj_i (sp_io s i (s 1).toNat 0)) ∧ τ = rc_p X9 cb vv vk c σ) 2 [(0, .ref cb), (1, rj_i i), (2, rj_i (k : Int))] [] (rc_p X9 cb vv vk c σ) := by
    intro n
    induction n with
    | zero => intro k hk hF hE; obtain ⟨p, e1, e2, e3⟩ := hE; omega
    | succ n ih =>
      intro k hk hF hE
      have vb9 := sp_vpo_b (s := s) (p := (k : Int)) h1
      refine go_iload_n dX11_patchInOrder_2 rfl 2 rfl ?_
      refine go_aload_n dX11_patchInOrder_3 rfl 0 rfl ?_
      refine rc_gx hR.V (k := 0) (by decide) fX11_12 rfl dX11_patchInOrder_4 ?_
      refine rc_gs hR.V (k := 3) (v := rj_i (s 1)) (by decide) fX11_76 (rj_vi hR.n1) dX11_patchInOrder_7 ?_
      refine go_icmp_geI (tgt := 30) (by omega) (by omega) dX11_patchInOrder_10 (by decide) (fun c_10 => ?_) (fun c_10 => ?_)
      · exact absurd c_10 (by omega)
      · refine go_aload_n dX11_patchInOrder_13 rfl 0 rfl ?_
        refine go_iload_n dX11_patchInOrder_14 rfl 2 rfl ?_
        refine go_callV (d1 := d - 1) wVX11_366 kX11 (rc_a0 hR.V) rfl (by omega) (x_ahead (p := (k : Int)) (by omega) hR hI h81 (by omega)) rfl (Nat.le_of_ble_eq_true rfl) dX11_patchInOrder_15 (fun w σ1 hP9 => ?_)
        obtain ⟨rfl, rfl⟩ := hP9
        refine go_iload_n dX11_patchInOrder_18 rfl 1 rfl ?_
        refine go_icmp_neI (tgt := 24) (by omega) (by omega) dX11_patchInOrder_19 (by decide) (fun c_19 => ?_) (fun c_19 => ?_)
        · refine go_iincI (a := (k : Int)) (n := 1) (k0 := 2) (lv' := [(0, .ref cb), (1, rj_i i), (2, rj_i ((k : Int) + 1))]) rfl (by decide) rfl dX11_patchInOrder_24 ?_
          refine go_goto (tgt := 2) dX11_patchInOrder_27 (by decide) ?_
          exact go_eq rfl (lv' := [(0, .ref cb), (1, rj_i i), (2, rj_i ((k + 1 : Nat) : Int))]) (rj_lk (rj_lk (rj_lj (by omega) rfl))) rfl rfl (ih (k + 1) (by omega) (by rw [hF, sp_io, if_neg (by omega)]) (by obtain ⟨p, e1, e2, e3⟩ := hE; exact ⟨p, by rcases Nat.eq_or_lt_of_le e1 with e | e; (· subst e; exact absurd e3 c_19); (· omega), by omega, e3⟩))
        · refine go_iload_n dX11_patchInOrder_22 rfl 2 rfl ?_
          refine go_retI rfl rfl ?_ dX11_patchInOrder_23
          exact ⟨rj_vi (by rw [hF, sp_io, if_pos (by omega)]), rfl⟩
  obtain ⟨q9, q1, q2⟩ := sp_all_h (s := s) h1.1 i hi.1 hi.2
  exact go_eq rfl (lv' := [(0, .ref cb), (1, rj_i i), (2, rj_i ((0 : Nat) : Int))]) (rj_lk (rj_lk (rj_lj (rfl) rfl))) rfl rfl (loop (s 1).toNat 0 (by omega) rfl ⟨q9, by omega, by omega, q2⟩)
set_option maxRecDepth 20000 in
set_option maxHeartbeats 2000000 in
/-- x_ring -/
theorem x_ring {X9 : rj_X} {σ : rj_H} {d cb vv vk : Nat} {c : rm_R} (hd : 1 ≤ d) {s : Int → Int} {ad : Nat → Int → Nat} (hR : rc_R X9 cb vv vk c σ s ad) (hI : sp_I s) (h81 : s 8 = s 1) : rj_Cl X9 d yX11_ring cX11_ring 4 (some .int) [.ref cb] (rc_p X9 cb vv vk c σ) (fun w9 τ => w9 = some (rj_i (sp_ring s)) ∧ τ = rc_p X9 cb vv vk c σ) := by
  obtain ⟨⟨h0, h1, h2, h3, h4, h5, h6, h7⟩, hM, hP, hW, hL, hV⟩ := id hI
  obtain ⟨v1, v2, v3, v4⟩ := id hV
  refine go_call (by decide +kernel) (Nat.le_of_ble_eq_true rfl) ?_
  refine go_eq (pc' := 0) (lv' := [(0, .ref cb)]) (st' := []) rfl rfl rfl rfl ?_
  refine go_iconst (v := Int32.ofInt 0) dX11_ring_0 rfl ?_
  refine go_istore_nS (lv' := [(0, .ref cb), (1, rj_i 0)]) rfl (by decide) rfl dX11_ring_1 ?_
  have loopA : ∀ (nA : Nat) (ka : Nat), ka + nA = (s 1).toNat → (∀ a9 b9 c9 : Nat, a9 < ka → (b9 : Int) < s 1 → (c9 : Int) < s 1 → ¬ sp_rg s a9 b9 c9) → rj_Go X9 yX11_ring cX11_ring 4 (some .int) d (fun w9 τ => w9 = some (rj_i (sp_ring s)) ∧ τ = rc_p X9 cb vv vk c σ) 2 [(0, .ref cb), (1, rj_i (ka : Int))] [] (rc_p X9 cb vv vk c σ) := by
    intro nA
    induction nA with
    | zero =>
      intro ka hka hA
      refine go_iload_n dX11_ring_2 rfl 1 rfl ?_
      refine go_aload_n dX11_ring_3 rfl 0 rfl ?_
      refine rc_gx hR.V (k := 0) (by decide) fX11_12 rfl dX11_ring_4 ?_
      refine rc_gs hR.V (k := 3) (v := rj_i (s 1)) (by decide) fX11_76 (rj_vi hR.n1) dX11_ring_7 ?_
      refine go_icmp_geI (tgt := 96) (by omega) (by omega) dX11_ring_10 (by decide) (fun c_10 => ?_) (fun c_10 => ?_)
      · refine go_bipush (v := Int32.ofInt (-5)) dX11_ring_96 (by decide) ?_
        refine go_retI rfl rfl ?_ dX11_ring_98
        exact ⟨rj_vi (sp_ring_no (fun a9 b9 c9 q1 q2 q3 => hA a9 b9 c9 (by omega) q2 q3)).symm, rfl⟩
      · exact absurd c_10 (by omega)
    | succ nA ihA =>
      intro ka hka hA
      refine go_iload_n dX11_ring_2 rfl 1 rfl ?_
      refine go_aload_n dX11_ring_3 rfl 0 rfl ?_
      refine rc_gx hR.V (k := 0) (by decide) fX11_12 rfl dX11_ring_4 ?_
      refine rc_gs hR.V (k := 3) (v := rj_i (s 1)) (by decide) fX11_76 (rj_vi hR.n1) dX11_ring_7 ?_
      refine go_icmp_geI (tgt := 96) (by omega) (by omega) dX11_ring_10 (by decide) (fun c_10 => ?_) (fun c_10 => ?_)
      · exact absurd c_10 (by omega)
      · refine go_iconst (v := Int32.ofInt 0) dX11_ring_13 rfl ?_
        refine go_istore_nS (lv' := [(0, .ref cb), (1, rj_i (ka : Int)), (2, rj_i 0)]) rfl (by decide) rfl dX11_ring_14 ?_
        have loopB : ∀ (nB : Nat) (kb : Nat), kb + nB = (s 1).toNat → (∀ b9 c9 : Nat, b9 < kb → (c9 : Int) < s 1 → ¬ sp_rg s ka b9 c9) → rj_Go X9 yX11_ring cX11_ring 4 (some .int) d (fun w9 τ => w9 = some (rj_i (sp_ring s)) ∧ τ = rc_p X9 cb vv vk c σ) 15 [(0, .ref cb), (1, rj_i (ka : Int)), (2, rj_i (kb : Int))] [] (rc_p X9 cb vv vk c σ) := by
          intro nB
          induction nB with
          | zero =>
            intro kb hkb hB
            refine go_iload_n dX11_ring_15 rfl 2 rfl ?_
            refine go_aload_n dX11_ring_16 rfl 0 rfl ?_
            refine rc_gx hR.V (k := 0) (by decide) fX11_12 rfl dX11_ring_17 ?_
            refine rc_gs hR.V (k := 3) (v := rj_i (s 1)) (by decide) fX11_76 (rj_vi hR.n1) dX11_ring_20 ?_
            refine go_icmp_geI (tgt := 90) (by omega) (by omega) dX11_ring_23 (by decide) (fun c_23 => ?_) (fun c_23 => ?_)
            · refine go_iincI (a := (ka : Int)) (n := 1) (k0 := 1) (lv' := [(0, .ref cb), (1, rj_i ((ka : Int) + 1)), (2, rj_i (kb : Int))]) rfl (by decide) rfl dX11_ring_90 ?_
              refine go_goto (tgt := 2) dX11_ring_93 (by decide) ?_
              refine go_sub (lv' := [(0, .ref cb), (1, rj_i ((ka : Int) + 1))]) (by intro q hq; simp only [List.mem_cons, List.not_mem_nil, or_false] at hq ⊢; rcases hq with rfl | rfl <;> simp) ?_
              exact go_eq rfl (lv' := [(0, .ref cb), (1, rj_i ((ka + 1 : Nat) : Int))]) (rj_lk (rj_lj (by omega) rfl)) rfl rfl (ihA (ka + 1) (by omega) (fun a9 b9 c9 q1 q2 q3 => by rcases Nat.lt_succ_iff_lt_or_eq.mp q1 with e | e; (· exact hA a9 b9 c9 e q2 q3); (· subst e; exact hB b9 c9 (by omega) q3)))
            · exact absurd c_23 (by omega)
          | succ nB ihB =>
            intro kb hkb hB
            refine go_iload_n dX11_ring_15 rfl 2 rfl ?_
            refine go_aload_n dX11_ring_16 rfl 0 rfl ?_
            refine rc_gx hR.V (k := 0) (by decide) fX11_12 rfl dX11_ring_17 ?_
            refine rc_gs hR.V (k := 3) (v := rj_i (s 1)) (by decide) fX11_76 (rj_vi hR.n1) dX11_ring_20 ?_
            refine go_icmp_geI (tgt := 90) (by omega) (by omega) dX11_ring_23 (by decide) (fun c_23 => ?_) (fun c_23 => ?_)
            · exact absurd c_23 (by omega)
            · refine go_iconst (v := Int32.ofInt 0) dX11_ring_26 rfl ?_
              refine go_istore_nS (lv' := [(0, .ref cb), (1, rj_i (ka : Int)), (2, rj_i (kb : Int)), (3, rj_i 0)]) rfl (by decide) rfl dX11_ring_27 ?_
              have loopC : ∀ (nC : Nat) (kc : Nat), kc + nC = (s 1).toNat → (∀ c9 : Nat, c9 < kc → ¬ sp_rg s ka kb c9) → rj_Go X9 yX11_ring cX11_ring 4 (some .int) d (fun w9 τ => w9 = some (rj_i (sp_ring s)) ∧ τ = rc_p X9 cb vv vk c σ) 28 [(0, .ref cb), (1, rj_i (ka : Int)), (2, rj_i (kb : Int)), (3, rj_i (kc : Int))] [] (rc_p X9 cb vv vk c σ) := by
                intro nC
                induction nC with
                | zero =>
                  intro kc hkc hC
                  refine go_iload_n dX11_ring_28 rfl 3 rfl ?_
                  refine go_aload_n dX11_ring_29 rfl 0 rfl ?_
                  refine rc_gx hR.V (k := 0) (by decide) fX11_12 rfl dX11_ring_30 ?_
                  refine rc_gs hR.V (k := 3) (v := rj_i (s 1)) (by decide) fX11_76 (rj_vi hR.n1) dX11_ring_33 ?_
                  refine go_icmp_geI (tgt := 84) (by omega) (by omega) dX11_ring_36 (by decide) (fun c_36 => ?_) (fun c_36 => ?_)
                  · refine go_iincI (a := (kb : Int)) (n := 1) (k0 := 2) (lv' := [(0, .ref cb), (1, rj_i (ka : Int)), (2, rj_i ((kb : Int) + 1)), (3, rj_i (kc : Int))]) rfl (by decide) rfl dX11_ring_84 ?_
                    refine go_goto (tgt := 15) dX11_ring_87 (by decide) ?_
                    refine go_sub (lv' := [(0, .ref cb), (1, rj_i (ka : Int)), (2, rj_i ((kb : Int) + 1))]) (by intro q hq; simp only [List.mem_cons, List.not_mem_nil, or_false] at hq ⊢; rcases hq with rfl | rfl | rfl <;> simp) ?_
                    exact go_eq rfl (lv' := [(0, .ref cb), (1, rj_i (ka : Int)), (2, rj_i ((kb + 1 : Nat) : Int))]) (rj_lk (rj_lk (rj_lj (by omega) rfl))) rfl rfl (ihB (kb + 1) (by omega) (fun b9 c9 q1 q2 => by rcases Nat.lt_succ_iff_lt_or_eq.mp q1 with e | e; (· exact hB b9 c9 e q2); (· subst e; exact hC c9 (by omega))))
                  · exact absurd c_36 (by omega)
                | succ nC ihC =>
                  intro kc hkc hC
                  refine go_iload_n dX11_ring_28 rfl 3 rfl ?_
                  refine go_aload_n dX11_ring_29 rfl 0 rfl ?_
                  refine rc_gx hR.V (k := 0) (by decide) fX11_12 rfl dX11_ring_30 ?_
                  refine rc_gs hR.V (k := 3) (v := rj_i (s 1)) (by decide) fX11_76 (rj_vi hR.n1) dX11_ring_33 ?_
                  refine go_icmp_geI (tgt := 84) (by omega) (by omega) dX11_ring_36 (by decide) (fun c_36 => ?_) (fun c_36 => ?_)
                  · exact absurd c_36 (by omega)
                  · refine go_aload_n dX11_ring_39 rfl 0 rfl ?_
                    refine go_iload_n dX11_ring_40 rfl 1 rfl ?_
                    refine go_iload_n dX11_ring_41 rfl 2 rfl ?_
                    refine go_callV (d1 := d - 1) wVX11_363 kX11 (rc_a0 hR.V) rfl (by omega) (x_beats (a := (ka : Int)) (b := (kb : Int)) hR hI h81 (by omega) (by omega)) rfl (Nat.le_of_ble_eq_true rfl) dX11_ring_42 (fun w σ1 hP9 => ?_)
                    obtain ⟨rfl, rfl⟩ := hP9
                    refine go_if_eqB (tgt := 78) dX11_ring_45 (by decide) (fun c_45 => ?_) (fun c_45 => ?_)
                    · refine go_iincI (a := (kc : Int)) (n := 1) (k0 := 3) (lv' := [(0, .ref cb), (1, rj_i (ka : Int)), (2, rj_i (kb : Int)), (3, rj_i ((kc : Int) + 1))]) rfl (by decide) rfl dX11_ring_78 ?_
                      refine go_goto (tgt := 28) dX11_ring_81 (by decide) ?_
                      exact go_eq rfl (lv' := [(0, .ref cb), (1, rj_i (ka : Int)), (2, rj_i (kb : Int)), (3, rj_i ((kc + 1 : Nat) : Int))]) (rj_lk (rj_lk (rj_lk (rj_lj (by omega) rfl)))) rfl rfl (ihC (kc + 1) (by omega) (fun c9 q1 => by rcases Nat.lt_succ_iff_lt_or_eq.mp q1 with e | e; (· exact hC c9 e); (· subst e; exact fun q => c_45 q.1)))
                    · refine go_aload_n dX11_ring_48 rfl 0 rfl ?_
                      refine go_iload_n dX11_ring_49 rfl 2 rfl ?_
                      refine go_iload_n dX11_ring_50 rfl 3 rfl ?_
                      refine go_callV (d1 := d - 1) wVX11_363 kX11 (rc_a0 hR.V) rfl (by omega) (x_beats (a := (kb : Int)) (b := (kc : Int)) hR hI h81 (by omega) (by omega)) rfl (Nat.le_of_ble_eq_true rfl) dX11_ring_51 (fun w σ1 hP9 => ?_)
                      obtain ⟨rfl, rfl⟩ := hP9
                      refine go_if_eqB (tgt := 78) dX11_ring_54 (by decide) (fun c_54 => ?_) (fun c_54 => ?_)
                      · refine go_iincI (a := (kc : Int)) (n := 1) (k0 := 3) (lv' := [(0, .ref cb), (1, rj_i (ka : Int)), (2, rj_i (kb : Int)), (3, rj_i ((kc : Int) + 1))]) rfl (by decide) rfl dX11_ring_78 ?_
                        refine go_goto (tgt := 28) dX11_ring_81 (by decide) ?_
                        exact go_eq rfl (lv' := [(0, .ref cb), (1, rj_i (ka : Int)), (2, rj_i (kb : Int)), (3, rj_i ((kc + 1 : Nat) : Int))]) (rj_lk (rj_lk (rj_lk (rj_lj (by omega) rfl)))) rfl rfl (ihC (kc + 1) (by omega) (fun c9 q1 => by rcases Nat.lt_succ_iff_lt_or_eq.mp q1 with e | e; (· exact hC c9 e); (· subst e; exact fun q => c_54 q.2.1)))
                      · refine go_aload_n dX11_ring_57 rfl 0 rfl ?_
                        refine go_iload_n dX11_ring_58 rfl 3 rfl ?_
                        refine go_iload_n dX11_ring_59 rfl 1 rfl ?_
                        refine go_callV (d1 := d - 1) wVX11_363 kX11 (rc_a0 hR.V) rfl (by omega) (x_beats (a := (kc : Int)) (b := (ka : Int)) hR hI h81 (by omega) (by omega)) rfl (Nat.le_of_ble_eq_true rfl) dX11_ring_60 (fun w σ1 hP9 => ?_)
                        obtain ⟨rfl, rfl⟩ := hP9
                        refine go_if_eqB (tgt := 78) dX11_ring_63 (by decide) (fun c_63 => ?_) (fun c_63 => ?_)
                        · refine go_iincI (a := (kc : Int)) (n := 1) (k0 := 3) (lv' := [(0, .ref cb), (1, rj_i (ka : Int)), (2, rj_i (kb : Int)), (3, rj_i ((kc : Int) + 1))]) rfl (by decide) rfl dX11_ring_78 ?_
                          refine go_goto (tgt := 28) dX11_ring_81 (by decide) ?_
                          exact go_eq rfl (lv' := [(0, .ref cb), (1, rj_i (ka : Int)), (2, rj_i (kb : Int)), (3, rj_i ((kc + 1 : Nat) : Int))]) (rj_lk (rj_lk (rj_lk (rj_lj (by omega) rfl)))) rfl rfl (ihC (kc + 1) (by omega) (fun c9 q1 => by rcases Nat.lt_succ_iff_lt_or_eq.mp q1 with e | e; (· exact hC c9 e); (· subst e; exact fun q => c_63 q.2.2)))
                        · refine go_bipush (v := Int32.ofInt 100) dX11_ring_66 (by decide) ?_
                          refine go_iload_n dX11_ring_68 rfl 1 rfl ?_
                          refine go_mulI dX11_ring_69 ?_
                          refine go_bipush (v := Int32.ofInt 10) dX11_ring_70 (by decide) ?_
                          refine go_iload_n dX11_ring_72 rfl 2 rfl ?_
                          refine go_mulI dX11_ring_73 ?_
                          refine go_addI dX11_ring_74 ?_
                          refine go_iload_n dX11_ring_75 rfl 3 rfl ?_
                          refine go_addI dX11_ring_76 ?_
                          refine go_retI rfl rfl ?_ dX11_ring_77
                          exact ⟨rj_vi (sp_ring_hit (by omega) (by omega) (by omega) ⟨c_45, c_54, c_63⟩ hA hB hC).symm, rfl⟩
              exact go_eq rfl (lv' := [(0, .ref cb), (1, rj_i (ka : Int)), (2, rj_i (kb : Int)), (3, rj_i ((0 : Nat) : Int))]) (rj_lk (rj_lk (rj_lk (rj_lj (rfl) rfl)))) rfl rfl (loopC (s 1).toNat 0 (by omega) (fun c9 q => absurd q (by omega)))
        exact go_eq rfl (lv' := [(0, .ref cb), (1, rj_i (ka : Int)), (2, rj_i ((0 : Nat) : Int))]) (rj_lk (rj_lk (rj_lj (rfl) rfl))) rfl rfl (loopB (s 1).toNat 0 (by omega) (fun b9 c9 q => absurd q (by omega)))
  exact go_eq rfl (lv' := [(0, .ref cb), (1, rj_i ((0 : Nat) : Int))]) (rj_lk (rj_lj (rfl) rfl)) rfl rfl (loopA (s 1).toNat 0 (by omega) (fun a9 b9 c9 q => absurd q (by omega)))
set_option maxRecDepth 20000 in
set_option maxHeartbeats 2000000 in
/-- x_holds -/
theorem x_holds {X9 : rj_X} {σ : rj_H} {d cb vv vk : Nat} {c : rm_R} {w : Int} (hd : 4 ≤ d) (hw : -2147483648 ≤ w ∧ w < 2147483648) {s : Int → Int} {ad : Nat → Int → Nat} (hR : rc_R X9 cb vv vk c σ s ad) (hI : sp_I s) (h8 : 0 ≤ s 8 ∧ s 8 ≤ 6) (h58 : 0 < s 5 → 1 ≤ s 8) : rj_Cl X9 d yX11_holds cX11_holds 4 (some .int) [.ref cb, rj_i w] (rc_p X9 cb vv vk c σ) (fun w9 τ => w9 = some (rj_i (sp_holdsF s w)) ∧ τ = rc_p X9 cb vv vk c σ) := by
  obtain ⟨⟨h0, h1, h2, h3, h4, h5, h6, h7⟩, hM, hP, hW, hL, hV⟩ := id hI
  obtain ⟨v1, v2, v3, v4⟩ := id hV
  refine go_call (by decide +kernel) (Nat.le_of_ble_eq_true rfl) ?_
  refine go_eq (pc' := 0) (lv' := [(0, .ref cb), (1, rj_i w)]) (st' := []) rfl rfl rfl rfl ?_
  refine go_iload_n dX11_holds_0 rfl 1 rfl ?_
  refine go_bipush (v := Int32.ofInt 10) dX11_holds_1 (by decide) ?_
  refine go_icmp_ltI (tgt := 24) (by omega) (by omega) dX11_holds_3 (by decide) (fun c_3 => ?_) (fun c_3 => ?_)
  · refine go_iconst (v := Int32.ofInt 0) dX11_holds_24 rfl ?_
    refine go_istore_nS (lv' := [(0, .ref cb), (1, rj_i w), (2, rj_i 0)]) rfl (by decide) rfl dX11_holds_25 ?_
    refine go_iload_n dX11_holds_26 rfl 1 rfl ?_
    refine go_bipush (v := Int32.ofInt 20) dX11_holds_27 (by decide) ?_
    refine go_icmp_ltI (tgt := 50) (by omega) (by omega) dX11_holds_29 (by decide) (fun c_29 => ?_) (fun c_29 => ?_)
    · refine go_iconst (v := Int32.ofInt 0) dX11_holds_50 rfl ?_
      refine go_istore_nS (lv' := [(0, .ref cb), (1, rj_i w), (2, rj_i 0), (3, rj_i 0)]) rfl (by decide) rfl dX11_holds_51 ?_
      refine go_iload_n dX11_holds_52 rfl 1 rfl ?_
      refine go_if_eqI (tgt := 71) (by omega) dX11_holds_53 (by decide) (fun c_53 => ?_) (fun c_53 => ?_)
      · refine go_aload_n dX11_holds_71 rfl 0 rfl ?_
        refine rc_gx hR.V (k := 0) (by decide) fX11_12 rfl dX11_holds_72 ?_
        refine rc_gs hR.V (k := 13) (v := rj_i (s 5)) (by decide) fX11_240 (rj_vi hR.n5) dX11_holds_75 ?_
        refine go_if_eqI (tgt := 91) (by omega) dX11_holds_78 (by decide) (fun c_78 => ?_) (fun c_78 => ?_)
        · refine go_bipush (v := Int32.ofInt (-3)) dX11_holds_91 (by decide) ?_
          refine go_retI rfl rfl ?_ dX11_holds_93
          exact ⟨rj_vi (by unfold sp_holdsF; rw [if_neg (by omega), if_pos (by omega)]), rfl⟩
        · refine go_aload_n dX11_holds_81 rfl 0 rfl ?_
          refine rc_gx hR.V (k := 0) (by decide) fX11_12 rfl dX11_holds_82 ?_
          refine go_callV (d1 := d - 1) wVX11_233 kX5 (rc_a1 hR.V) rfl (by omega) (x_newPatch hR hI h8) rfl (Nat.le_of_ble_eq_true rfl) dX11_holds_85 (fun w σ1 hP9 => ?_)
          obtain ⟨rfl, rfl⟩ := hP9
          refine go_if_eqB (tgt := 94) dX11_holds_88 (by decide) (fun c_88 => ?_) (fun c_88 => ?_)
          · have h81 : s 8 = s 1 := by omega
            refine go_iload_n dX11_holds_94 rfl 2 rfl ?_
            refine go_if_eqI (tgt := 107) (by omega) dX11_holds_95 (by decide) (fun c_95 => ?_) (fun c_95 => ?_)
            · refine go_iload_n dX11_holds_107 rfl 3 rfl ?_
              refine go_if_eqI (tgt := 120) (by omega) dX11_holds_108 (by decide) (fun c_108 => ?_) (fun c_108 => ?_)
              · refine go_iload_n dX11_holds_120 rfl 1 rfl ?_
                refine go_if_neI (tgt := 131) (by omega) dX11_holds_121 (by decide) (fun c_121 => ?_) (fun c_121 => ?_)
                · refine go_aload_n dX11_holds_131 rfl 0 rfl ?_
                  refine go_callV (d1 := d - 1) wVX11_264 kX11 (rc_a0 hR.V) rfl (by omega) (x_ring (by omega) hR hI h81) rfl (Nat.le_of_ble_eq_true rfl) dX11_holds_132 (fun w σ1 hP9 => ?_)
                  obtain ⟨rfl, rfl⟩ := hP9
                  refine go_retI rfl rfl ?_ dX11_holds_135
                  exact ⟨rj_vi (by unfold sp_holdsF; rw [if_neg (by omega), if_neg (by omega), if_neg (by omega), if_pos (by omega)]), rfl⟩
                · refine go_aload_n dX11_holds_124 rfl 0 rfl ?_
                  refine go_callV (d1 := d - 1) wVX11_261 kX11 (rc_a0 hR.V) rfl (by omega) (x_winner (by omega) hR hI h81) rfl (Nat.le_of_ble_eq_true rfl) dX11_holds_125 (fun w σ1 hP9 => ?_)
                  obtain ⟨rfl, rfl⟩ := hP9
                  refine go_goto (tgt := 135) dX11_holds_128 (by decide) ?_
                  refine go_retI rfl rfl ?_ dX11_holds_135
                  exact ⟨rj_vi (by unfold sp_holdsF; rw [if_neg (by omega), if_neg (by omega), if_pos (by omega)]; exact sp_wn_e (by omega) h5.1 _ _ (by omega) (fun j hj => absurd hj (by omega))), rfl⟩
              · exact absurd c_108 (by omega)
            · exact absurd c_95 (by omega)
          · refine go_bipush (v := Int32.ofInt (-3)) dX11_holds_91 (by decide) ?_
            refine go_retI rfl rfl ?_ dX11_holds_93
            exact ⟨rj_vi (by unfold sp_holdsF; rw [if_neg (by omega), if_pos (by omega)]), rfl⟩
      · refine go_iload_n dX11_holds_56 rfl 1 rfl ?_
        refine go_iconst (v := Int32.ofInt 1) dX11_holds_57 rfl ?_
        refine go_icmp_eqI (tgt := 71) (by omega) (by omega) dX11_holds_58 (by decide) (fun c_58 => ?_) (fun c_58 => ?_)
        · refine go_aload_n dX11_holds_71 rfl 0 rfl ?_
          refine rc_gx hR.V (k := 0) (by decide) fX11_12 rfl dX11_holds_72 ?_
          refine rc_gs hR.V (k := 13) (v := rj_i (s 5)) (by decide) fX11_240 (rj_vi hR.n5) dX11_holds_75 ?_
          refine go_if_eqI (tgt := 91) (by omega) dX11_holds_78 (by decide) (fun c_78 => ?_) (fun c_78 => ?_)
          · refine go_bipush (v := Int32.ofInt (-3)) dX11_holds_91 (by decide) ?_
            refine go_retI rfl rfl ?_ dX11_holds_93
            exact ⟨rj_vi (by unfold sp_holdsF; rw [if_neg (by omega), if_pos (by omega)]), rfl⟩
          · refine go_aload_n dX11_holds_81 rfl 0 rfl ?_
            refine rc_gx hR.V (k := 0) (by decide) fX11_12 rfl dX11_holds_82 ?_
            refine go_callV (d1 := d - 1) wVX11_233 kX5 (rc_a1 hR.V) rfl (by omega) (x_newPatch hR hI h8) rfl (Nat.le_of_ble_eq_true rfl) dX11_holds_85 (fun w σ1 hP9 => ?_)
            obtain ⟨rfl, rfl⟩ := hP9
            refine go_if_eqB (tgt := 94) dX11_holds_88 (by decide) (fun c_88 => ?_) (fun c_88 => ?_)
            · have h81 : s 8 = s 1 := by omega
              refine go_iload_n dX11_holds_94 rfl 2 rfl ?_
              refine go_if_eqI (tgt := 107) (by omega) dX11_holds_95 (by decide) (fun c_95 => ?_) (fun c_95 => ?_)
              · refine go_iload_n dX11_holds_107 rfl 3 rfl ?_
                refine go_if_eqI (tgt := 120) (by omega) dX11_holds_108 (by decide) (fun c_108 => ?_) (fun c_108 => ?_)
                · refine go_iload_n dX11_holds_120 rfl 1 rfl ?_
                  refine go_if_neI (tgt := 131) (by omega) dX11_holds_121 (by decide) (fun c_121 => ?_) (fun c_121 => ?_)
                  · refine go_aload_n dX11_holds_131 rfl 0 rfl ?_
                    refine go_callV (d1 := d - 1) wVX11_264 kX11 (rc_a0 hR.V) rfl (by omega) (x_ring (by omega) hR hI h81) rfl (Nat.le_of_ble_eq_true rfl) dX11_holds_132 (fun w σ1 hP9 => ?_)
                    obtain ⟨rfl, rfl⟩ := hP9
                    refine go_retI rfl rfl ?_ dX11_holds_135
                    exact ⟨rj_vi (by unfold sp_holdsF; rw [if_neg (by omega), if_neg (by omega), if_neg (by omega), if_pos (by omega)]), rfl⟩
                  · refine go_aload_n dX11_holds_124 rfl 0 rfl ?_
                    refine go_callV (d1 := d - 1) wVX11_261 kX11 (rc_a0 hR.V) rfl (by omega) (x_winner (by omega) hR hI h81) rfl (Nat.le_of_ble_eq_true rfl) dX11_holds_125 (fun w σ1 hP9 => ?_)
                    obtain ⟨rfl, rfl⟩ := hP9
                    refine go_goto (tgt := 135) dX11_holds_128 (by decide) ?_
                    refine go_retI rfl rfl ?_ dX11_holds_135
                    exact ⟨rj_vi (by unfold sp_holdsF; rw [if_neg (by omega), if_neg (by omega), if_pos (by omega)]; exact sp_wn_e (by omega) h5.1 _ _ (by omega) (fun j hj => absurd hj (by omega))), rfl⟩
                · exact absurd c_108 (by omega)
              · exact absurd c_95 (by omega)
            · refine go_bipush (v := Int32.ofInt (-3)) dX11_holds_91 (by decide) ?_
              refine go_retI rfl rfl ?_ dX11_holds_93
              exact ⟨rj_vi (by unfold sp_holdsF; rw [if_neg (by omega), if_pos (by omega)]), rfl⟩
        · refine go_iload_n dX11_holds_61 rfl 2 rfl ?_
          refine go_if_neI (tgt := 71) (by omega) dX11_holds_62 (by decide) (fun c_62 => ?_) (fun c_62 => ?_)
          · exact absurd c_62 (by omega)
          · refine go_iload_n dX11_holds_65 rfl 3 rfl ?_
            refine go_if_neI (tgt := 71) (by omega) dX11_holds_66 (by decide) (fun c_66 => ?_) (fun c_66 => ?_)
            · exact absurd c_66 (by omega)
            · refine go_iconst (v := Int32.ofInt (-1)) dX11_holds_69 rfl ?_
              refine go_retI rfl rfl ?_ dX11_holds_70
              exact ⟨rj_vi (by unfold sp_holdsF; rw [if_pos (by omega)]), rfl⟩
    · refine go_iload_n dX11_holds_32 rfl 1 rfl ?_
      refine go_bipush (v := Int32.ofInt 20) dX11_holds_33 (by decide) ?_
      refine go_aload_n dX11_holds_35 rfl 0 rfl ?_
      refine rc_gx hR.V (k := 0) (by decide) fX11_12 rfl dX11_holds_36 ?_
      refine rc_gs hR.V (k := 3) (v := rj_i (s 1)) (by decide) fX11_76 (rj_vi hR.n1) dX11_holds_39 ?_
      refine go_addI dX11_holds_42 ?_
      refine go_icmp_geI (tgt := 50) (by omega) (by omega) dX11_holds_43 (by decide) (fun c_43 => ?_) (fun c_43 => ?_)
      · refine go_iconst (v := Int32.ofInt 0) dX11_holds_50 rfl ?_
        refine go_istore_nS (lv' := [(0, .ref cb), (1, rj_i w), (2, rj_i 0), (3, rj_i 0)]) rfl (by decide) rfl dX11_holds_51 ?_
        refine go_iload_n dX11_holds_52 rfl 1 rfl ?_
        refine go_if_eqI (tgt := 71) (by omega) dX11_holds_53 (by decide) (fun c_53 => ?_) (fun c_53 => ?_)
        · refine go_aload_n dX11_holds_71 rfl 0 rfl ?_
          refine rc_gx hR.V (k := 0) (by decide) fX11_12 rfl dX11_holds_72 ?_
          refine rc_gs hR.V (k := 13) (v := rj_i (s 5)) (by decide) fX11_240 (rj_vi hR.n5) dX11_holds_75 ?_
          refine go_if_eqI (tgt := 91) (by omega) dX11_holds_78 (by decide) (fun c_78 => ?_) (fun c_78 => ?_)
          · refine go_bipush (v := Int32.ofInt (-3)) dX11_holds_91 (by decide) ?_
            refine go_retI rfl rfl ?_ dX11_holds_93
            exact ⟨rj_vi (by unfold sp_holdsF; rw [if_neg (by omega), if_pos (by omega)]), rfl⟩
          · refine go_aload_n dX11_holds_81 rfl 0 rfl ?_
            refine rc_gx hR.V (k := 0) (by decide) fX11_12 rfl dX11_holds_82 ?_
            refine go_callV (d1 := d - 1) wVX11_233 kX5 (rc_a1 hR.V) rfl (by omega) (x_newPatch hR hI h8) rfl (Nat.le_of_ble_eq_true rfl) dX11_holds_85 (fun w σ1 hP9 => ?_)
            obtain ⟨rfl, rfl⟩ := hP9
            refine go_if_eqB (tgt := 94) dX11_holds_88 (by decide) (fun c_88 => ?_) (fun c_88 => ?_)
            · have h81 : s 8 = s 1 := by omega
              refine go_iload_n dX11_holds_94 rfl 2 rfl ?_
              refine go_if_eqI (tgt := 107) (by omega) dX11_holds_95 (by decide) (fun c_95 => ?_) (fun c_95 => ?_)
              · refine go_iload_n dX11_holds_107 rfl 3 rfl ?_
                refine go_if_eqI (tgt := 120) (by omega) dX11_holds_108 (by decide) (fun c_108 => ?_) (fun c_108 => ?_)
                · refine go_iload_n dX11_holds_120 rfl 1 rfl ?_
                  refine go_if_neI (tgt := 131) (by omega) dX11_holds_121 (by decide) (fun c_121 => ?_) (fun c_121 => ?_)
                  · refine go_aload_n dX11_holds_131 rfl 0 rfl ?_
                    refine go_callV (d1 := d - 1) wVX11_264 kX11 (rc_a0 hR.V) rfl (by omega) (x_ring (by omega) hR hI h81) rfl (Nat.le_of_ble_eq_true rfl) dX11_holds_132 (fun w σ1 hP9 => ?_)
                    obtain ⟨rfl, rfl⟩ := hP9
                    refine go_retI rfl rfl ?_ dX11_holds_135
                    exact ⟨rj_vi (by unfold sp_holdsF; rw [if_neg (by omega), if_neg (by omega), if_neg (by omega), if_pos (by omega)]), rfl⟩
                  · refine go_aload_n dX11_holds_124 rfl 0 rfl ?_
                    refine go_callV (d1 := d - 1) wVX11_261 kX11 (rc_a0 hR.V) rfl (by omega) (x_winner (by omega) hR hI h81) rfl (Nat.le_of_ble_eq_true rfl) dX11_holds_125 (fun w σ1 hP9 => ?_)
                    obtain ⟨rfl, rfl⟩ := hP9
                    refine go_goto (tgt := 135) dX11_holds_128 (by decide) ?_
                    refine go_retI rfl rfl ?_ dX11_holds_135
                    exact ⟨rj_vi (by unfold sp_holdsF; rw [if_neg (by omega), if_neg (by omega), if_pos (by omega)]; exact sp_wn_e (by omega) h5.1 _ _ (by omega) (fun j hj => absurd hj (by omega))), rfl⟩
                · exact absurd c_108 (by omega)
              · exact absurd c_95 (by omega)
            · refine go_bipush (v := Int32.ofInt (-3)) dX11_holds_91 (by decide) ?_
              refine go_retI rfl rfl ?_ dX11_holds_93
              exact ⟨rj_vi (by unfold sp_holdsF; rw [if_neg (by omega), if_pos (by omega)]), rfl⟩
        · refine go_iload_n dX11_holds_56 rfl 1 rfl ?_
          refine go_iconst (v := Int32.ofInt 1) dX11_holds_57 rfl ?_
          refine go_icmp_eqI (tgt := 71) (by omega) (by omega) dX11_holds_58 (by decide) (fun c_58 => ?_) (fun c_58 => ?_)
          · refine go_aload_n dX11_holds_71 rfl 0 rfl ?_
            refine rc_gx hR.V (k := 0) (by decide) fX11_12 rfl dX11_holds_72 ?_
            refine rc_gs hR.V (k := 13) (v := rj_i (s 5)) (by decide) fX11_240 (rj_vi hR.n5) dX11_holds_75 ?_
            refine go_if_eqI (tgt := 91) (by omega) dX11_holds_78 (by decide) (fun c_78 => ?_) (fun c_78 => ?_)
            · refine go_bipush (v := Int32.ofInt (-3)) dX11_holds_91 (by decide) ?_
              refine go_retI rfl rfl ?_ dX11_holds_93
              exact ⟨rj_vi (by unfold sp_holdsF; rw [if_neg (by omega), if_pos (by omega)]), rfl⟩
            · refine go_aload_n dX11_holds_81 rfl 0 rfl ?_
              refine rc_gx hR.V (k := 0) (by decide) fX11_12 rfl dX11_holds_82 ?_
              refine go_callV (d1 := d - 1) wVX11_233 kX5 (rc_a1 hR.V) rfl (by omega) (x_newPatch hR hI h8) rfl (Nat.le_of_ble_eq_true rfl) dX11_holds_85 (fun w σ1 hP9 => ?_)
              obtain ⟨rfl, rfl⟩ := hP9
              refine go_if_eqB (tgt := 94) dX11_holds_88 (by decide) (fun c_88 => ?_) (fun c_88 => ?_)
              · have h81 : s 8 = s 1 := by omega
                refine go_iload_n dX11_holds_94 rfl 2 rfl ?_
                refine go_if_eqI (tgt := 107) (by omega) dX11_holds_95 (by decide) (fun c_95 => ?_) (fun c_95 => ?_)
                · refine go_iload_n dX11_holds_107 rfl 3 rfl ?_
                  refine go_if_eqI (tgt := 120) (by omega) dX11_holds_108 (by decide) (fun c_108 => ?_) (fun c_108 => ?_)
                  · refine go_iload_n dX11_holds_120 rfl 1 rfl ?_
                    refine go_if_neI (tgt := 131) (by omega) dX11_holds_121 (by decide) (fun c_121 => ?_) (fun c_121 => ?_)
                    · refine go_aload_n dX11_holds_131 rfl 0 rfl ?_
                      refine go_callV (d1 := d - 1) wVX11_264 kX11 (rc_a0 hR.V) rfl (by omega) (x_ring (by omega) hR hI h81) rfl (Nat.le_of_ble_eq_true rfl) dX11_holds_132 (fun w σ1 hP9 => ?_)
                      obtain ⟨rfl, rfl⟩ := hP9
                      refine go_retI rfl rfl ?_ dX11_holds_135
                      exact ⟨rj_vi (by unfold sp_holdsF; rw [if_neg (by omega), if_neg (by omega), if_neg (by omega), if_pos (by omega)]), rfl⟩
                    · refine go_aload_n dX11_holds_124 rfl 0 rfl ?_
                      refine go_callV (d1 := d - 1) wVX11_261 kX11 (rc_a0 hR.V) rfl (by omega) (x_winner (by omega) hR hI h81) rfl (Nat.le_of_ble_eq_true rfl) dX11_holds_125 (fun w σ1 hP9 => ?_)
                      obtain ⟨rfl, rfl⟩ := hP9
                      refine go_goto (tgt := 135) dX11_holds_128 (by decide) ?_
                      refine go_retI rfl rfl ?_ dX11_holds_135
                      exact ⟨rj_vi (by unfold sp_holdsF; rw [if_neg (by omega), if_neg (by omega), if_pos (by omega)]; exact sp_wn_e (by omega) h5.1 _ _ (by omega) (fun j hj => absurd hj (by omega))), rfl⟩
                  · exact absurd c_108 (by omega)
                · exact absurd c_95 (by omega)
              · refine go_bipush (v := Int32.ofInt (-3)) dX11_holds_91 (by decide) ?_
                refine go_retI rfl rfl ?_ dX11_holds_93
                exact ⟨rj_vi (by unfold sp_holdsF; rw [if_neg (by omega), if_pos (by omega)]), rfl⟩
          · refine go_iload_n dX11_holds_61 rfl 2 rfl ?_
            refine go_if_neI (tgt := 71) (by omega) dX11_holds_62 (by decide) (fun c_62 => ?_) (fun c_62 => ?_)
            · exact absurd c_62 (by omega)
            · refine go_iload_n dX11_holds_65 rfl 3 rfl ?_
              refine go_if_neI (tgt := 71) (by omega) dX11_holds_66 (by decide) (fun c_66 => ?_) (fun c_66 => ?_)
              · exact absurd c_66 (by omega)
              · refine go_iconst (v := Int32.ofInt (-1)) dX11_holds_69 rfl ?_
                refine go_retI rfl rfl ?_ dX11_holds_70
                exact ⟨rj_vi (by unfold sp_holdsF; rw [if_pos (by omega)]), rfl⟩
      · refine go_iconst (v := Int32.ofInt 1) dX11_holds_46 rfl ?_
        refine go_goto (tgt := 51) dX11_holds_47 (by decide) ?_
        refine go_istore_nS (lv' := [(0, .ref cb), (1, rj_i w), (2, rj_i 0), (3, rj_i 1)]) rfl (by decide) rfl dX11_holds_51 ?_
        refine go_iload_n dX11_holds_52 rfl 1 rfl ?_
        refine go_if_eqI (tgt := 71) (by omega) dX11_holds_53 (by decide) (fun c_53 => ?_) (fun c_53 => ?_)
        · refine go_aload_n dX11_holds_71 rfl 0 rfl ?_
          refine rc_gx hR.V (k := 0) (by decide) fX11_12 rfl dX11_holds_72 ?_
          refine rc_gs hR.V (k := 13) (v := rj_i (s 5)) (by decide) fX11_240 (rj_vi hR.n5) dX11_holds_75 ?_
          refine go_if_eqI (tgt := 91) (by omega) dX11_holds_78 (by decide) (fun c_78 => ?_) (fun c_78 => ?_)
          · refine go_bipush (v := Int32.ofInt (-3)) dX11_holds_91 (by decide) ?_
            refine go_retI rfl rfl ?_ dX11_holds_93
            exact ⟨rj_vi (by unfold sp_holdsF; rw [if_neg (by omega), if_pos (by omega)]), rfl⟩
          · refine go_aload_n dX11_holds_81 rfl 0 rfl ?_
            refine rc_gx hR.V (k := 0) (by decide) fX11_12 rfl dX11_holds_82 ?_
            refine go_callV (d1 := d - 1) wVX11_233 kX5 (rc_a1 hR.V) rfl (by omega) (x_newPatch hR hI h8) rfl (Nat.le_of_ble_eq_true rfl) dX11_holds_85 (fun w σ1 hP9 => ?_)
            obtain ⟨rfl, rfl⟩ := hP9
            refine go_if_eqB (tgt := 94) dX11_holds_88 (by decide) (fun c_88 => ?_) (fun c_88 => ?_)
            · have h81 : s 8 = s 1 := by omega
              refine go_iload_n dX11_holds_94 rfl 2 rfl ?_
              refine go_if_eqI (tgt := 107) (by omega) dX11_holds_95 (by decide) (fun c_95 => ?_) (fun c_95 => ?_)
              · refine go_iload_n dX11_holds_107 rfl 3 rfl ?_
                refine go_if_eqI (tgt := 120) (by omega) dX11_holds_108 (by decide) (fun c_108 => ?_) (fun c_108 => ?_)
                · exact absurd c_108 (by omega)
                · refine go_aload_n dX11_holds_111 rfl 0 rfl ?_
                  refine go_iload_n dX11_holds_112 rfl 1 rfl ?_
                  refine go_bipush (v := Int32.ofInt 20) dX11_holds_113 (by decide) ?_
                  refine go_subI dX11_holds_115 ?_
                  refine go_callV (d1 := d - 1) wVX11_258 kX11 (rc_a0 hR.V) rfl (by omega) (x_beaten (a := w - 20) (by omega) hR hI h81 (by omega)) rfl (Nat.le_of_ble_eq_true rfl) dX11_holds_116 (fun w σ1 hP9 => ?_)
                  obtain ⟨rfl, rfl⟩ := hP9
                  refine go_retI rfl rfl ?_ dX11_holds_119
                  exact ⟨rj_vi (by unfold sp_holdsF; rw [if_neg (by omega), if_neg (by omega), if_neg (by omega), if_neg (by omega), if_neg (by omega)]), rfl⟩
              · exact absurd c_95 (by omega)
            · refine go_bipush (v := Int32.ofInt (-3)) dX11_holds_91 (by decide) ?_
              refine go_retI rfl rfl ?_ dX11_holds_93
              exact ⟨rj_vi (by unfold sp_holdsF; rw [if_neg (by omega), if_pos (by omega)]), rfl⟩
        · refine go_iload_n dX11_holds_56 rfl 1 rfl ?_
          refine go_iconst (v := Int32.ofInt 1) dX11_holds_57 rfl ?_
          refine go_icmp_eqI (tgt := 71) (by omega) (by omega) dX11_holds_58 (by decide) (fun c_58 => ?_) (fun c_58 => ?_)
          · refine go_aload_n dX11_holds_71 rfl 0 rfl ?_
            refine rc_gx hR.V (k := 0) (by decide) fX11_12 rfl dX11_holds_72 ?_
            refine rc_gs hR.V (k := 13) (v := rj_i (s 5)) (by decide) fX11_240 (rj_vi hR.n5) dX11_holds_75 ?_
            refine go_if_eqI (tgt := 91) (by omega) dX11_holds_78 (by decide) (fun c_78 => ?_) (fun c_78 => ?_)
            · refine go_bipush (v := Int32.ofInt (-3)) dX11_holds_91 (by decide) ?_
              refine go_retI rfl rfl ?_ dX11_holds_93
              exact ⟨rj_vi (by unfold sp_holdsF; rw [if_neg (by omega), if_pos (by omega)]), rfl⟩
            · refine go_aload_n dX11_holds_81 rfl 0 rfl ?_
              refine rc_gx hR.V (k := 0) (by decide) fX11_12 rfl dX11_holds_82 ?_
              refine go_callV (d1 := d - 1) wVX11_233 kX5 (rc_a1 hR.V) rfl (by omega) (x_newPatch hR hI h8) rfl (Nat.le_of_ble_eq_true rfl) dX11_holds_85 (fun w σ1 hP9 => ?_)
              obtain ⟨rfl, rfl⟩ := hP9
              refine go_if_eqB (tgt := 94) dX11_holds_88 (by decide) (fun c_88 => ?_) (fun c_88 => ?_)
              · have h81 : s 8 = s 1 := by omega
                refine go_iload_n dX11_holds_94 rfl 2 rfl ?_
                refine go_if_eqI (tgt := 107) (by omega) dX11_holds_95 (by decide) (fun c_95 => ?_) (fun c_95 => ?_)
                · refine go_iload_n dX11_holds_107 rfl 3 rfl ?_
                  refine go_if_eqI (tgt := 120) (by omega) dX11_holds_108 (by decide) (fun c_108 => ?_) (fun c_108 => ?_)
                  · exact absurd c_108 (by omega)
                  · refine go_aload_n dX11_holds_111 rfl 0 rfl ?_
                    refine go_iload_n dX11_holds_112 rfl 1 rfl ?_
                    refine go_bipush (v := Int32.ofInt 20) dX11_holds_113 (by decide) ?_
                    refine go_subI dX11_holds_115 ?_
                    refine go_callV (d1 := d - 1) wVX11_258 kX11 (rc_a0 hR.V) rfl (by omega) (x_beaten (a := w - 20) (by omega) hR hI h81 (by omega)) rfl (Nat.le_of_ble_eq_true rfl) dX11_holds_116 (fun w σ1 hP9 => ?_)
                    obtain ⟨rfl, rfl⟩ := hP9
                    refine go_retI rfl rfl ?_ dX11_holds_119
                    exact ⟨rj_vi (by unfold sp_holdsF; rw [if_neg (by omega), if_neg (by omega), if_neg (by omega), if_neg (by omega), if_neg (by omega)]), rfl⟩
                · exact absurd c_95 (by omega)
              · refine go_bipush (v := Int32.ofInt (-3)) dX11_holds_91 (by decide) ?_
                refine go_retI rfl rfl ?_ dX11_holds_93
                exact ⟨rj_vi (by unfold sp_holdsF; rw [if_neg (by omega), if_pos (by omega)]), rfl⟩
          · refine go_iload_n dX11_holds_61 rfl 2 rfl ?_
            refine go_if_neI (tgt := 71) (by omega) dX11_holds_62 (by decide) (fun c_62 => ?_) (fun c_62 => ?_)
            · exact absurd c_62 (by omega)
            · refine go_iload_n dX11_holds_65 rfl 3 rfl ?_
              refine go_if_neI (tgt := 71) (by omega) dX11_holds_66 (by decide) (fun c_66 => ?_) (fun c_66 => ?_)
              · refine go_aload_n dX11_holds_71 rfl 0 rfl ?_
                refine rc_gx hR.V (k := 0) (by decide) fX11_12 rfl dX11_holds_72 ?_
                refine rc_gs hR.V (k := 13) (v := rj_i (s 5)) (by decide) fX11_240 (rj_vi hR.n5) dX11_holds_75 ?_
                refine go_if_eqI (tgt := 91) (by omega) dX11_holds_78 (by decide) (fun c_78 => ?_) (fun c_78 => ?_)
                · refine go_bipush (v := Int32.ofInt (-3)) dX11_holds_91 (by decide) ?_
                  refine go_retI rfl rfl ?_ dX11_holds_93
                  exact ⟨rj_vi (by unfold sp_holdsF; rw [if_neg (by omega), if_pos (by omega)]), rfl⟩
                · refine go_aload_n dX11_holds_81 rfl 0 rfl ?_
                  refine rc_gx hR.V (k := 0) (by decide) fX11_12 rfl dX11_holds_82 ?_
                  refine go_callV (d1 := d - 1) wVX11_233 kX5 (rc_a1 hR.V) rfl (by omega) (x_newPatch hR hI h8) rfl (Nat.le_of_ble_eq_true rfl) dX11_holds_85 (fun w σ1 hP9 => ?_)
                  obtain ⟨rfl, rfl⟩ := hP9
                  refine go_if_eqB (tgt := 94) dX11_holds_88 (by decide) (fun c_88 => ?_) (fun c_88 => ?_)
                  · have h81 : s 8 = s 1 := by omega
                    refine go_iload_n dX11_holds_94 rfl 2 rfl ?_
                    refine go_if_eqI (tgt := 107) (by omega) dX11_holds_95 (by decide) (fun c_95 => ?_) (fun c_95 => ?_)
                    · refine go_iload_n dX11_holds_107 rfl 3 rfl ?_
                      refine go_if_eqI (tgt := 120) (by omega) dX11_holds_108 (by decide) (fun c_108 => ?_) (fun c_108 => ?_)
                      · exact absurd c_108 (by omega)
                      · refine go_aload_n dX11_holds_111 rfl 0 rfl ?_
                        refine go_iload_n dX11_holds_112 rfl 1 rfl ?_
                        refine go_bipush (v := Int32.ofInt 20) dX11_holds_113 (by decide) ?_
                        refine go_subI dX11_holds_115 ?_
                        refine go_callV (d1 := d - 1) wVX11_258 kX11 (rc_a0 hR.V) rfl (by omega) (x_beaten (a := w - 20) (by omega) hR hI h81 (by omega)) rfl (Nat.le_of_ble_eq_true rfl) dX11_holds_116 (fun w σ1 hP9 => ?_)
                        obtain ⟨rfl, rfl⟩ := hP9
                        refine go_retI rfl rfl ?_ dX11_holds_119
                        exact ⟨rj_vi (by unfold sp_holdsF; rw [if_neg (by omega), if_neg (by omega), if_neg (by omega), if_neg (by omega), if_neg (by omega)]), rfl⟩
                    · exact absurd c_95 (by omega)
                  · refine go_bipush (v := Int32.ofInt (-3)) dX11_holds_91 (by decide) ?_
                    refine go_retI rfl rfl ?_ dX11_holds_93
                    exact ⟨rj_vi (by unfold sp_holdsF; rw [if_neg (by omega), if_pos (by omega)]), rfl⟩
              · exact absurd c_66 (by omega)
  · refine go_iload_n dX11_holds_6 rfl 1 rfl ?_
    refine go_bipush (v := Int32.ofInt 10) dX11_holds_7 (by decide) ?_
    refine go_aload_n dX11_holds_9 rfl 0 rfl ?_
    refine rc_gx hR.V (k := 0) (by decide) fX11_12 rfl dX11_holds_10 ?_
    refine rc_gs hR.V (k := 3) (v := rj_i (s 1)) (by decide) fX11_76 (rj_vi hR.n1) dX11_holds_13 ?_
    refine go_addI dX11_holds_16 ?_
    refine go_icmp_geI (tgt := 24) (by omega) (by omega) dX11_holds_17 (by decide) (fun c_17 => ?_) (fun c_17 => ?_)
    · refine go_iconst (v := Int32.ofInt 0) dX11_holds_24 rfl ?_
      refine go_istore_nS (lv' := [(0, .ref cb), (1, rj_i w), (2, rj_i 0)]) rfl (by decide) rfl dX11_holds_25 ?_
      refine go_iload_n dX11_holds_26 rfl 1 rfl ?_
      refine go_bipush (v := Int32.ofInt 20) dX11_holds_27 (by decide) ?_
      refine go_icmp_ltI (tgt := 50) (by omega) (by omega) dX11_holds_29 (by decide) (fun c_29 => ?_) (fun c_29 => ?_)
      · refine go_iconst (v := Int32.ofInt 0) dX11_holds_50 rfl ?_
        refine go_istore_nS (lv' := [(0, .ref cb), (1, rj_i w), (2, rj_i 0), (3, rj_i 0)]) rfl (by decide) rfl dX11_holds_51 ?_
        refine go_iload_n dX11_holds_52 rfl 1 rfl ?_
        refine go_if_eqI (tgt := 71) (by omega) dX11_holds_53 (by decide) (fun c_53 => ?_) (fun c_53 => ?_)
        · refine go_aload_n dX11_holds_71 rfl 0 rfl ?_
          refine rc_gx hR.V (k := 0) (by decide) fX11_12 rfl dX11_holds_72 ?_
          refine rc_gs hR.V (k := 13) (v := rj_i (s 5)) (by decide) fX11_240 (rj_vi hR.n5) dX11_holds_75 ?_
          refine go_if_eqI (tgt := 91) (by omega) dX11_holds_78 (by decide) (fun c_78 => ?_) (fun c_78 => ?_)
          · refine go_bipush (v := Int32.ofInt (-3)) dX11_holds_91 (by decide) ?_
            refine go_retI rfl rfl ?_ dX11_holds_93
            exact ⟨rj_vi (by unfold sp_holdsF; rw [if_neg (by omega), if_pos (by omega)]), rfl⟩
          · refine go_aload_n dX11_holds_81 rfl 0 rfl ?_
            refine rc_gx hR.V (k := 0) (by decide) fX11_12 rfl dX11_holds_82 ?_
            refine go_callV (d1 := d - 1) wVX11_233 kX5 (rc_a1 hR.V) rfl (by omega) (x_newPatch hR hI h8) rfl (Nat.le_of_ble_eq_true rfl) dX11_holds_85 (fun w σ1 hP9 => ?_)
            obtain ⟨rfl, rfl⟩ := hP9
            refine go_if_eqB (tgt := 94) dX11_holds_88 (by decide) (fun c_88 => ?_) (fun c_88 => ?_)
            · have h81 : s 8 = s 1 := by omega
              refine go_iload_n dX11_holds_94 rfl 2 rfl ?_
              refine go_if_eqI (tgt := 107) (by omega) dX11_holds_95 (by decide) (fun c_95 => ?_) (fun c_95 => ?_)
              · refine go_iload_n dX11_holds_107 rfl 3 rfl ?_
                refine go_if_eqI (tgt := 120) (by omega) dX11_holds_108 (by decide) (fun c_108 => ?_) (fun c_108 => ?_)
                · refine go_iload_n dX11_holds_120 rfl 1 rfl ?_
                  refine go_if_neI (tgt := 131) (by omega) dX11_holds_121 (by decide) (fun c_121 => ?_) (fun c_121 => ?_)
                  · refine go_aload_n dX11_holds_131 rfl 0 rfl ?_
                    refine go_callV (d1 := d - 1) wVX11_264 kX11 (rc_a0 hR.V) rfl (by omega) (x_ring (by omega) hR hI h81) rfl (Nat.le_of_ble_eq_true rfl) dX11_holds_132 (fun w σ1 hP9 => ?_)
                    obtain ⟨rfl, rfl⟩ := hP9
                    refine go_retI rfl rfl ?_ dX11_holds_135
                    exact ⟨rj_vi (by unfold sp_holdsF; rw [if_neg (by omega), if_neg (by omega), if_neg (by omega), if_pos (by omega)]), rfl⟩
                  · refine go_aload_n dX11_holds_124 rfl 0 rfl ?_
                    refine go_callV (d1 := d - 1) wVX11_261 kX11 (rc_a0 hR.V) rfl (by omega) (x_winner (by omega) hR hI h81) rfl (Nat.le_of_ble_eq_true rfl) dX11_holds_125 (fun w σ1 hP9 => ?_)
                    obtain ⟨rfl, rfl⟩ := hP9
                    refine go_goto (tgt := 135) dX11_holds_128 (by decide) ?_
                    refine go_retI rfl rfl ?_ dX11_holds_135
                    exact ⟨rj_vi (by unfold sp_holdsF; rw [if_neg (by omega), if_neg (by omega), if_pos (by omega)]; exact sp_wn_e (by omega) h5.1 _ _ (by omega) (fun j hj => absurd hj (by omega))), rfl⟩
                · exact absurd c_108 (by omega)
              · exact absurd c_95 (by omega)
            · refine go_bipush (v := Int32.ofInt (-3)) dX11_holds_91 (by decide) ?_
              refine go_retI rfl rfl ?_ dX11_holds_93
              exact ⟨rj_vi (by unfold sp_holdsF; rw [if_neg (by omega), if_pos (by omega)]), rfl⟩
        · refine go_iload_n dX11_holds_56 rfl 1 rfl ?_
          refine go_iconst (v := Int32.ofInt 1) dX11_holds_57 rfl ?_
          refine go_icmp_eqI (tgt := 71) (by omega) (by omega) dX11_holds_58 (by decide) (fun c_58 => ?_) (fun c_58 => ?_)
          · refine go_aload_n dX11_holds_71 rfl 0 rfl ?_
            refine rc_gx hR.V (k := 0) (by decide) fX11_12 rfl dX11_holds_72 ?_
            refine rc_gs hR.V (k := 13) (v := rj_i (s 5)) (by decide) fX11_240 (rj_vi hR.n5) dX11_holds_75 ?_
            refine go_if_eqI (tgt := 91) (by omega) dX11_holds_78 (by decide) (fun c_78 => ?_) (fun c_78 => ?_)
            · refine go_bipush (v := Int32.ofInt (-3)) dX11_holds_91 (by decide) ?_
              refine go_retI rfl rfl ?_ dX11_holds_93
              exact ⟨rj_vi (by unfold sp_holdsF; rw [if_neg (by omega), if_pos (by omega)]), rfl⟩
            · refine go_aload_n dX11_holds_81 rfl 0 rfl ?_
              refine rc_gx hR.V (k := 0) (by decide) fX11_12 rfl dX11_holds_82 ?_
              refine go_callV (d1 := d - 1) wVX11_233 kX5 (rc_a1 hR.V) rfl (by omega) (x_newPatch hR hI h8) rfl (Nat.le_of_ble_eq_true rfl) dX11_holds_85 (fun w σ1 hP9 => ?_)
              obtain ⟨rfl, rfl⟩ := hP9
              refine go_if_eqB (tgt := 94) dX11_holds_88 (by decide) (fun c_88 => ?_) (fun c_88 => ?_)
              · have h81 : s 8 = s 1 := by omega
                refine go_iload_n dX11_holds_94 rfl 2 rfl ?_
                refine go_if_eqI (tgt := 107) (by omega) dX11_holds_95 (by decide) (fun c_95 => ?_) (fun c_95 => ?_)
                · refine go_iload_n dX11_holds_107 rfl 3 rfl ?_
                  refine go_if_eqI (tgt := 120) (by omega) dX11_holds_108 (by decide) (fun c_108 => ?_) (fun c_108 => ?_)
                  · refine go_iload_n dX11_holds_120 rfl 1 rfl ?_
                    refine go_if_neI (tgt := 131) (by omega) dX11_holds_121 (by decide) (fun c_121 => ?_) (fun c_121 => ?_)
                    · refine go_aload_n dX11_holds_131 rfl 0 rfl ?_
                      refine go_callV (d1 := d - 1) wVX11_264 kX11 (rc_a0 hR.V) rfl (by omega) (x_ring (by omega) hR hI h81) rfl (Nat.le_of_ble_eq_true rfl) dX11_holds_132 (fun w σ1 hP9 => ?_)
                      obtain ⟨rfl, rfl⟩ := hP9
                      refine go_retI rfl rfl ?_ dX11_holds_135
                      exact ⟨rj_vi (by unfold sp_holdsF; rw [if_neg (by omega), if_neg (by omega), if_neg (by omega), if_pos (by omega)]), rfl⟩
                    · refine go_aload_n dX11_holds_124 rfl 0 rfl ?_
                      refine go_callV (d1 := d - 1) wVX11_261 kX11 (rc_a0 hR.V) rfl (by omega) (x_winner (by omega) hR hI h81) rfl (Nat.le_of_ble_eq_true rfl) dX11_holds_125 (fun w σ1 hP9 => ?_)
                      obtain ⟨rfl, rfl⟩ := hP9
                      refine go_goto (tgt := 135) dX11_holds_128 (by decide) ?_
                      refine go_retI rfl rfl ?_ dX11_holds_135
                      exact ⟨rj_vi (by unfold sp_holdsF; rw [if_neg (by omega), if_neg (by omega), if_pos (by omega)]; exact sp_wn_e (by omega) h5.1 _ _ (by omega) (fun j hj => absurd hj (by omega))), rfl⟩
                  · exact absurd c_108 (by omega)
                · exact absurd c_95 (by omega)
              · refine go_bipush (v := Int32.ofInt (-3)) dX11_holds_91 (by decide) ?_
                refine go_retI rfl rfl ?_ dX11_holds_93
                exact ⟨rj_vi (by unfold sp_holdsF; rw [if_neg (by omega), if_pos (by omega)]), rfl⟩
          · refine go_iload_n dX11_holds_61 rfl 2 rfl ?_
            refine go_if_neI (tgt := 71) (by omega) dX11_holds_62 (by decide) (fun c_62 => ?_) (fun c_62 => ?_)
            · exact absurd c_62 (by omega)
            · refine go_iload_n dX11_holds_65 rfl 3 rfl ?_
              refine go_if_neI (tgt := 71) (by omega) dX11_holds_66 (by decide) (fun c_66 => ?_) (fun c_66 => ?_)
              · exact absurd c_66 (by omega)
              · refine go_iconst (v := Int32.ofInt (-1)) dX11_holds_69 rfl ?_
                refine go_retI rfl rfl ?_ dX11_holds_70
                exact ⟨rj_vi (by unfold sp_holdsF; rw [if_pos (by omega)]), rfl⟩
      · refine go_iload_n dX11_holds_32 rfl 1 rfl ?_
        refine go_bipush (v := Int32.ofInt 20) dX11_holds_33 (by decide) ?_
        refine go_aload_n dX11_holds_35 rfl 0 rfl ?_
        refine rc_gx hR.V (k := 0) (by decide) fX11_12 rfl dX11_holds_36 ?_
        refine rc_gs hR.V (k := 3) (v := rj_i (s 1)) (by decide) fX11_76 (rj_vi hR.n1) dX11_holds_39 ?_
        refine go_addI dX11_holds_42 ?_
        refine go_icmp_geI (tgt := 50) (by omega) (by omega) dX11_holds_43 (by decide) (fun c_43 => ?_) (fun c_43 => ?_)
        · refine go_iconst (v := Int32.ofInt 0) dX11_holds_50 rfl ?_
          refine go_istore_nS (lv' := [(0, .ref cb), (1, rj_i w), (2, rj_i 0), (3, rj_i 0)]) rfl (by decide) rfl dX11_holds_51 ?_
          refine go_iload_n dX11_holds_52 rfl 1 rfl ?_
          refine go_if_eqI (tgt := 71) (by omega) dX11_holds_53 (by decide) (fun c_53 => ?_) (fun c_53 => ?_)
          · refine go_aload_n dX11_holds_71 rfl 0 rfl ?_
            refine rc_gx hR.V (k := 0) (by decide) fX11_12 rfl dX11_holds_72 ?_
            refine rc_gs hR.V (k := 13) (v := rj_i (s 5)) (by decide) fX11_240 (rj_vi hR.n5) dX11_holds_75 ?_
            refine go_if_eqI (tgt := 91) (by omega) dX11_holds_78 (by decide) (fun c_78 => ?_) (fun c_78 => ?_)
            · refine go_bipush (v := Int32.ofInt (-3)) dX11_holds_91 (by decide) ?_
              refine go_retI rfl rfl ?_ dX11_holds_93
              exact ⟨rj_vi (by unfold sp_holdsF; rw [if_neg (by omega), if_pos (by omega)]), rfl⟩
            · refine go_aload_n dX11_holds_81 rfl 0 rfl ?_
              refine rc_gx hR.V (k := 0) (by decide) fX11_12 rfl dX11_holds_82 ?_
              refine go_callV (d1 := d - 1) wVX11_233 kX5 (rc_a1 hR.V) rfl (by omega) (x_newPatch hR hI h8) rfl (Nat.le_of_ble_eq_true rfl) dX11_holds_85 (fun w σ1 hP9 => ?_)
              obtain ⟨rfl, rfl⟩ := hP9
              refine go_if_eqB (tgt := 94) dX11_holds_88 (by decide) (fun c_88 => ?_) (fun c_88 => ?_)
              · have h81 : s 8 = s 1 := by omega
                refine go_iload_n dX11_holds_94 rfl 2 rfl ?_
                refine go_if_eqI (tgt := 107) (by omega) dX11_holds_95 (by decide) (fun c_95 => ?_) (fun c_95 => ?_)
                · refine go_iload_n dX11_holds_107 rfl 3 rfl ?_
                  refine go_if_eqI (tgt := 120) (by omega) dX11_holds_108 (by decide) (fun c_108 => ?_) (fun c_108 => ?_)
                  · refine go_iload_n dX11_holds_120 rfl 1 rfl ?_
                    refine go_if_neI (tgt := 131) (by omega) dX11_holds_121 (by decide) (fun c_121 => ?_) (fun c_121 => ?_)
                    · refine go_aload_n dX11_holds_131 rfl 0 rfl ?_
                      refine go_callV (d1 := d - 1) wVX11_264 kX11 (rc_a0 hR.V) rfl (by omega) (x_ring (by omega) hR hI h81) rfl (Nat.le_of_ble_eq_true rfl) dX11_holds_132 (fun w σ1 hP9 => ?_)
                      obtain ⟨rfl, rfl⟩ := hP9
                      refine go_retI rfl rfl ?_ dX11_holds_135
                      exact ⟨rj_vi (by unfold sp_holdsF; rw [if_neg (by omega), if_neg (by omega), if_neg (by omega), if_pos (by omega)]), rfl⟩
                    · refine go_aload_n dX11_holds_124 rfl 0 rfl ?_
                      refine go_callV (d1 := d - 1) wVX11_261 kX11 (rc_a0 hR.V) rfl (by omega) (x_winner (by omega) hR hI h81) rfl (Nat.le_of_ble_eq_true rfl) dX11_holds_125 (fun w σ1 hP9 => ?_)
                      obtain ⟨rfl, rfl⟩ := hP9
                      refine go_goto (tgt := 135) dX11_holds_128 (by decide) ?_
                      refine go_retI rfl rfl ?_ dX11_holds_135
                      exact ⟨rj_vi (by unfold sp_holdsF; rw [if_neg (by omega), if_neg (by omega), if_pos (by omega)]; exact sp_wn_e (by omega) h5.1 _ _ (by omega) (fun j hj => absurd hj (by omega))), rfl⟩
                  · exact absurd c_108 (by omega)
                · exact absurd c_95 (by omega)
              · refine go_bipush (v := Int32.ofInt (-3)) dX11_holds_91 (by decide) ?_
                refine go_retI rfl rfl ?_ dX11_holds_93
                exact ⟨rj_vi (by unfold sp_holdsF; rw [if_neg (by omega), if_pos (by omega)]), rfl⟩
          · refine go_iload_n dX11_holds_56 rfl 1 rfl ?_
            refine go_iconst (v := Int32.ofInt 1) dX11_holds_57 rfl ?_
            refine go_icmp_eqI (tgt := 71) (by omega) (by omega) dX11_holds_58 (by decide) (fun c_58 => ?_) (fun c_58 => ?_)
            · refine go_aload_n dX11_holds_71 rfl 0 rfl ?_
              refine rc_gx hR.V (k := 0) (by decide) fX11_12 rfl dX11_holds_72 ?_
              refine rc_gs hR.V (k := 13) (v := rj_i (s 5)) (by decide) fX11_240 (rj_vi hR.n5) dX11_holds_75 ?_
              refine go_if_eqI (tgt := 91) (by omega) dX11_holds_78 (by decide) (fun c_78 => ?_) (fun c_78 => ?_)
              · refine go_bipush (v := Int32.ofInt (-3)) dX11_holds_91 (by decide) ?_
                refine go_retI rfl rfl ?_ dX11_holds_93
                exact ⟨rj_vi (by unfold sp_holdsF; rw [if_neg (by omega), if_pos (by omega)]), rfl⟩
              · refine go_aload_n dX11_holds_81 rfl 0 rfl ?_
                refine rc_gx hR.V (k := 0) (by decide) fX11_12 rfl dX11_holds_82 ?_
                refine go_callV (d1 := d - 1) wVX11_233 kX5 (rc_a1 hR.V) rfl (by omega) (x_newPatch hR hI h8) rfl (Nat.le_of_ble_eq_true rfl) dX11_holds_85 (fun w σ1 hP9 => ?_)
                obtain ⟨rfl, rfl⟩ := hP9
                refine go_if_eqB (tgt := 94) dX11_holds_88 (by decide) (fun c_88 => ?_) (fun c_88 => ?_)
                · have h81 : s 8 = s 1 := by omega
                  refine go_iload_n dX11_holds_94 rfl 2 rfl ?_
                  refine go_if_eqI (tgt := 107) (by omega) dX11_holds_95 (by decide) (fun c_95 => ?_) (fun c_95 => ?_)
                  · refine go_iload_n dX11_holds_107 rfl 3 rfl ?_
                    refine go_if_eqI (tgt := 120) (by omega) dX11_holds_108 (by decide) (fun c_108 => ?_) (fun c_108 => ?_)
                    · refine go_iload_n dX11_holds_120 rfl 1 rfl ?_
                      refine go_if_neI (tgt := 131) (by omega) dX11_holds_121 (by decide) (fun c_121 => ?_) (fun c_121 => ?_)
                      · refine go_aload_n dX11_holds_131 rfl 0 rfl ?_
                        refine go_callV (d1 := d - 1) wVX11_264 kX11 (rc_a0 hR.V) rfl (by omega) (x_ring (by omega) hR hI h81) rfl (Nat.le_of_ble_eq_true rfl) dX11_holds_132 (fun w σ1 hP9 => ?_)
                        obtain ⟨rfl, rfl⟩ := hP9
                        refine go_retI rfl rfl ?_ dX11_holds_135
                        exact ⟨rj_vi (by unfold sp_holdsF; rw [if_neg (by omega), if_neg (by omega), if_neg (by omega), if_pos (by omega)]), rfl⟩
                      · refine go_aload_n dX11_holds_124 rfl 0 rfl ?_
                        refine go_callV (d1 := d - 1) wVX11_261 kX11 (rc_a0 hR.V) rfl (by omega) (x_winner (by omega) hR hI h81) rfl (Nat.le_of_ble_eq_true rfl) dX11_holds_125 (fun w σ1 hP9 => ?_)
                        obtain ⟨rfl, rfl⟩ := hP9
                        refine go_goto (tgt := 135) dX11_holds_128 (by decide) ?_
                        refine go_retI rfl rfl ?_ dX11_holds_135
                        exact ⟨rj_vi (by unfold sp_holdsF; rw [if_neg (by omega), if_neg (by omega), if_pos (by omega)]; exact sp_wn_e (by omega) h5.1 _ _ (by omega) (fun j hj => absurd hj (by omega))), rfl⟩
                    · exact absurd c_108 (by omega)
                  · exact absurd c_95 (by omega)
                · refine go_bipush (v := Int32.ofInt (-3)) dX11_holds_91 (by decide) ?_
                  refine go_retI rfl rfl ?_ dX11_holds_93
                  exact ⟨rj_vi (by unfold sp_holdsF; rw [if_neg (by omega), if_pos (by omega)]), rfl⟩
            · refine go_iload_n dX11_holds_61 rfl 2 rfl ?_
              refine go_if_neI (tgt := 71) (by omega) dX11_holds_62 (by decide) (fun c_62 => ?_) (fun c_62 => ?_)
              · exact absurd c_62 (by omega)
              · refine go_iload_n dX11_holds_65 rfl 3 rfl ?_
                refine go_if_neI (tgt := 71) (by omega) dX11_holds_66 (by decide) (fun c_66 => ?_) (fun c_66 => ?_)
                · exact absurd c_66 (by omega)
                · refine go_iconst (v := Int32.ofInt (-1)) dX11_holds_69 rfl ?_
                  refine go_retI rfl rfl ?_ dX11_holds_70
                  exact ⟨rj_vi (by unfold sp_holdsF; rw [if_pos (by omega)]), rfl⟩
        · refine go_iconst (v := Int32.ofInt 1) dX11_holds_46 rfl ?_
          refine go_goto (tgt := 51) dX11_holds_47 (by decide) ?_
          refine go_istore_nS (lv' := [(0, .ref cb), (1, rj_i w), (2, rj_i 0), (3, rj_i 1)]) rfl (by decide) rfl dX11_holds_51 ?_
          refine go_iload_n dX11_holds_52 rfl 1 rfl ?_
          refine go_if_eqI (tgt := 71) (by omega) dX11_holds_53 (by decide) (fun c_53 => ?_) (fun c_53 => ?_)
          · refine go_aload_n dX11_holds_71 rfl 0 rfl ?_
            refine rc_gx hR.V (k := 0) (by decide) fX11_12 rfl dX11_holds_72 ?_
            refine rc_gs hR.V (k := 13) (v := rj_i (s 5)) (by decide) fX11_240 (rj_vi hR.n5) dX11_holds_75 ?_
            refine go_if_eqI (tgt := 91) (by omega) dX11_holds_78 (by decide) (fun c_78 => ?_) (fun c_78 => ?_)
            · refine go_bipush (v := Int32.ofInt (-3)) dX11_holds_91 (by decide) ?_
              refine go_retI rfl rfl ?_ dX11_holds_93
              exact ⟨rj_vi (by unfold sp_holdsF; rw [if_neg (by omega), if_pos (by omega)]), rfl⟩
            · refine go_aload_n dX11_holds_81 rfl 0 rfl ?_
              refine rc_gx hR.V (k := 0) (by decide) fX11_12 rfl dX11_holds_82 ?_
              refine go_callV (d1 := d - 1) wVX11_233 kX5 (rc_a1 hR.V) rfl (by omega) (x_newPatch hR hI h8) rfl (Nat.le_of_ble_eq_true rfl) dX11_holds_85 (fun w σ1 hP9 => ?_)
              obtain ⟨rfl, rfl⟩ := hP9
              refine go_if_eqB (tgt := 94) dX11_holds_88 (by decide) (fun c_88 => ?_) (fun c_88 => ?_)
              · have h81 : s 8 = s 1 := by omega
                refine go_iload_n dX11_holds_94 rfl 2 rfl ?_
                refine go_if_eqI (tgt := 107) (by omega) dX11_holds_95 (by decide) (fun c_95 => ?_) (fun c_95 => ?_)
                · refine go_iload_n dX11_holds_107 rfl 3 rfl ?_
                  refine go_if_eqI (tgt := 120) (by omega) dX11_holds_108 (by decide) (fun c_108 => ?_) (fun c_108 => ?_)
                  · exact absurd c_108 (by omega)
                  · refine go_aload_n dX11_holds_111 rfl 0 rfl ?_
                    refine go_iload_n dX11_holds_112 rfl 1 rfl ?_
                    refine go_bipush (v := Int32.ofInt 20) dX11_holds_113 (by decide) ?_
                    refine go_subI dX11_holds_115 ?_
                    refine go_callV (d1 := d - 1) wVX11_258 kX11 (rc_a0 hR.V) rfl (by omega) (x_beaten (a := w - 20) (by omega) hR hI h81 (by omega)) rfl (Nat.le_of_ble_eq_true rfl) dX11_holds_116 (fun w σ1 hP9 => ?_)
                    obtain ⟨rfl, rfl⟩ := hP9
                    refine go_retI rfl rfl ?_ dX11_holds_119
                    exact ⟨rj_vi (by unfold sp_holdsF; rw [if_neg (by omega), if_neg (by omega), if_neg (by omega), if_neg (by omega), if_neg (by omega)]), rfl⟩
                · exact absurd c_95 (by omega)
              · refine go_bipush (v := Int32.ofInt (-3)) dX11_holds_91 (by decide) ?_
                refine go_retI rfl rfl ?_ dX11_holds_93
                exact ⟨rj_vi (by unfold sp_holdsF; rw [if_neg (by omega), if_pos (by omega)]), rfl⟩
          · refine go_iload_n dX11_holds_56 rfl 1 rfl ?_
            refine go_iconst (v := Int32.ofInt 1) dX11_holds_57 rfl ?_
            refine go_icmp_eqI (tgt := 71) (by omega) (by omega) dX11_holds_58 (by decide) (fun c_58 => ?_) (fun c_58 => ?_)
            · refine go_aload_n dX11_holds_71 rfl 0 rfl ?_
              refine rc_gx hR.V (k := 0) (by decide) fX11_12 rfl dX11_holds_72 ?_
              refine rc_gs hR.V (k := 13) (v := rj_i (s 5)) (by decide) fX11_240 (rj_vi hR.n5) dX11_holds_75 ?_
              refine go_if_eqI (tgt := 91) (by omega) dX11_holds_78 (by decide) (fun c_78 => ?_) (fun c_78 => ?_)
              · refine go_bipush (v := Int32.ofInt (-3)) dX11_holds_91 (by decide) ?_
                refine go_retI rfl rfl ?_ dX11_holds_93
                exact ⟨rj_vi (by unfold sp_holdsF; rw [if_neg (by omega), if_pos (by omega)]), rfl⟩
              · refine go_aload_n dX11_holds_81 rfl 0 rfl ?_
                refine rc_gx hR.V (k := 0) (by decide) fX11_12 rfl dX11_holds_82 ?_
                refine go_callV (d1 := d - 1) wVX11_233 kX5 (rc_a1 hR.V) rfl (by omega) (x_newPatch hR hI h8) rfl (Nat.le_of_ble_eq_true rfl) dX11_holds_85 (fun w σ1 hP9 => ?_)
                obtain ⟨rfl, rfl⟩ := hP9
                refine go_if_eqB (tgt := 94) dX11_holds_88 (by decide) (fun c_88 => ?_) (fun c_88 => ?_)
                · have h81 : s 8 = s 1 := by omega
                  refine go_iload_n dX11_holds_94 rfl 2 rfl ?_
                  refine go_if_eqI (tgt := 107) (by omega) dX11_holds_95 (by decide) (fun c_95 => ?_) (fun c_95 => ?_)
                  · refine go_iload_n dX11_holds_107 rfl 3 rfl ?_
                    refine go_if_eqI (tgt := 120) (by omega) dX11_holds_108 (by decide) (fun c_108 => ?_) (fun c_108 => ?_)
                    · exact absurd c_108 (by omega)
                    · refine go_aload_n dX11_holds_111 rfl 0 rfl ?_
                      refine go_iload_n dX11_holds_112 rfl 1 rfl ?_
                      refine go_bipush (v := Int32.ofInt 20) dX11_holds_113 (by decide) ?_
                      refine go_subI dX11_holds_115 ?_
                      refine go_callV (d1 := d - 1) wVX11_258 kX11 (rc_a0 hR.V) rfl (by omega) (x_beaten (a := w - 20) (by omega) hR hI h81 (by omega)) rfl (Nat.le_of_ble_eq_true rfl) dX11_holds_116 (fun w σ1 hP9 => ?_)
                      obtain ⟨rfl, rfl⟩ := hP9
                      refine go_retI rfl rfl ?_ dX11_holds_119
                      exact ⟨rj_vi (by unfold sp_holdsF; rw [if_neg (by omega), if_neg (by omega), if_neg (by omega), if_neg (by omega), if_neg (by omega)]), rfl⟩
                  · exact absurd c_95 (by omega)
                · refine go_bipush (v := Int32.ofInt (-3)) dX11_holds_91 (by decide) ?_
                  refine go_retI rfl rfl ?_ dX11_holds_93
                  exact ⟨rj_vi (by unfold sp_holdsF; rw [if_neg (by omega), if_pos (by omega)]), rfl⟩
            · refine go_iload_n dX11_holds_61 rfl 2 rfl ?_
              refine go_if_neI (tgt := 71) (by omega) dX11_holds_62 (by decide) (fun c_62 => ?_) (fun c_62 => ?_)
              · exact absurd c_62 (by omega)
              · refine go_iload_n dX11_holds_65 rfl 3 rfl ?_
                refine go_if_neI (tgt := 71) (by omega) dX11_holds_66 (by decide) (fun c_66 => ?_) (fun c_66 => ?_)
                · refine go_aload_n dX11_holds_71 rfl 0 rfl ?_
                  refine rc_gx hR.V (k := 0) (by decide) fX11_12 rfl dX11_holds_72 ?_
                  refine rc_gs hR.V (k := 13) (v := rj_i (s 5)) (by decide) fX11_240 (rj_vi hR.n5) dX11_holds_75 ?_
                  refine go_if_eqI (tgt := 91) (by omega) dX11_holds_78 (by decide) (fun c_78 => ?_) (fun c_78 => ?_)
                  · refine go_bipush (v := Int32.ofInt (-3)) dX11_holds_91 (by decide) ?_
                    refine go_retI rfl rfl ?_ dX11_holds_93
                    exact ⟨rj_vi (by unfold sp_holdsF; rw [if_neg (by omega), if_pos (by omega)]), rfl⟩
                  · refine go_aload_n dX11_holds_81 rfl 0 rfl ?_
                    refine rc_gx hR.V (k := 0) (by decide) fX11_12 rfl dX11_holds_82 ?_
                    refine go_callV (d1 := d - 1) wVX11_233 kX5 (rc_a1 hR.V) rfl (by omega) (x_newPatch hR hI h8) rfl (Nat.le_of_ble_eq_true rfl) dX11_holds_85 (fun w σ1 hP9 => ?_)
                    obtain ⟨rfl, rfl⟩ := hP9
                    refine go_if_eqB (tgt := 94) dX11_holds_88 (by decide) (fun c_88 => ?_) (fun c_88 => ?_)
                    · have h81 : s 8 = s 1 := by omega
                      refine go_iload_n dX11_holds_94 rfl 2 rfl ?_
                      refine go_if_eqI (tgt := 107) (by omega) dX11_holds_95 (by decide) (fun c_95 => ?_) (fun c_95 => ?_)
                      · refine go_iload_n dX11_holds_107 rfl 3 rfl ?_
                        refine go_if_eqI (tgt := 120) (by omega) dX11_holds_108 (by decide) (fun c_108 => ?_) (fun c_108 => ?_)
                        · exact absurd c_108 (by omega)
                        · refine go_aload_n dX11_holds_111 rfl 0 rfl ?_
                          refine go_iload_n dX11_holds_112 rfl 1 rfl ?_
                          refine go_bipush (v := Int32.ofInt 20) dX11_holds_113 (by decide) ?_
                          refine go_subI dX11_holds_115 ?_
                          refine go_callV (d1 := d - 1) wVX11_258 kX11 (rc_a0 hR.V) rfl (by omega) (x_beaten (a := w - 20) (by omega) hR hI h81 (by omega)) rfl (Nat.le_of_ble_eq_true rfl) dX11_holds_116 (fun w σ1 hP9 => ?_)
                          obtain ⟨rfl, rfl⟩ := hP9
                          refine go_retI rfl rfl ?_ dX11_holds_119
                          exact ⟨rj_vi (by unfold sp_holdsF; rw [if_neg (by omega), if_neg (by omega), if_neg (by omega), if_neg (by omega), if_neg (by omega)]), rfl⟩
                      · exact absurd c_95 (by omega)
                    · refine go_bipush (v := Int32.ofInt (-3)) dX11_holds_91 (by decide) ?_
                      refine go_retI rfl rfl ?_ dX11_holds_93
                      exact ⟨rj_vi (by unfold sp_holdsF; rw [if_neg (by omega), if_pos (by omega)]), rfl⟩
                · exact absurd c_66 (by omega)
    · refine go_iconst (v := Int32.ofInt 1) dX11_holds_20 rfl ?_
      refine go_goto (tgt := 25) dX11_holds_21 (by decide) ?_
      refine go_istore_nS (lv' := [(0, .ref cb), (1, rj_i w), (2, rj_i 1)]) rfl (by decide) rfl dX11_holds_25 ?_
      refine go_iload_n dX11_holds_26 rfl 1 rfl ?_
      refine go_bipush (v := Int32.ofInt 20) dX11_holds_27 (by decide) ?_
      refine go_icmp_ltI (tgt := 50) (by omega) (by omega) dX11_holds_29 (by decide) (fun c_29 => ?_) (fun c_29 => ?_)
      · refine go_iconst (v := Int32.ofInt 0) dX11_holds_50 rfl ?_
        refine go_istore_nS (lv' := [(0, .ref cb), (1, rj_i w), (2, rj_i 1), (3, rj_i 0)]) rfl (by decide) rfl dX11_holds_51 ?_
        refine go_iload_n dX11_holds_52 rfl 1 rfl ?_
        refine go_if_eqI (tgt := 71) (by omega) dX11_holds_53 (by decide) (fun c_53 => ?_) (fun c_53 => ?_)
        · refine go_aload_n dX11_holds_71 rfl 0 rfl ?_
          refine rc_gx hR.V (k := 0) (by decide) fX11_12 rfl dX11_holds_72 ?_
          refine rc_gs hR.V (k := 13) (v := rj_i (s 5)) (by decide) fX11_240 (rj_vi hR.n5) dX11_holds_75 ?_
          refine go_if_eqI (tgt := 91) (by omega) dX11_holds_78 (by decide) (fun c_78 => ?_) (fun c_78 => ?_)
          · refine go_bipush (v := Int32.ofInt (-3)) dX11_holds_91 (by decide) ?_
            refine go_retI rfl rfl ?_ dX11_holds_93
            exact ⟨rj_vi (by unfold sp_holdsF; rw [if_neg (by omega), if_pos (by omega)]), rfl⟩
          · refine go_aload_n dX11_holds_81 rfl 0 rfl ?_
            refine rc_gx hR.V (k := 0) (by decide) fX11_12 rfl dX11_holds_82 ?_
            refine go_callV (d1 := d - 1) wVX11_233 kX5 (rc_a1 hR.V) rfl (by omega) (x_newPatch hR hI h8) rfl (Nat.le_of_ble_eq_true rfl) dX11_holds_85 (fun w σ1 hP9 => ?_)
            obtain ⟨rfl, rfl⟩ := hP9
            refine go_if_eqB (tgt := 94) dX11_holds_88 (by decide) (fun c_88 => ?_) (fun c_88 => ?_)
            · have h81 : s 8 = s 1 := by omega
              refine go_iload_n dX11_holds_94 rfl 2 rfl ?_
              refine go_if_eqI (tgt := 107) (by omega) dX11_holds_95 (by decide) (fun c_95 => ?_) (fun c_95 => ?_)
              · exact absurd c_95 (by omega)
              · refine go_aload_n dX11_holds_98 rfl 0 rfl ?_
                refine go_iload_n dX11_holds_99 rfl 1 rfl ?_
                refine go_bipush (v := Int32.ofInt 10) dX11_holds_100 (by decide) ?_
                refine go_subI dX11_holds_102 ?_
                refine go_callV (d1 := d - 1) wVX11_255 kX11 (rc_a0 hR.V) rfl (by omega) (x_inOrder (i := w - 10) (by omega) hR hI h81 (by omega)) rfl (Nat.le_of_ble_eq_true rfl) dX11_holds_103 (fun w σ1 hP9 => ?_)
                obtain ⟨rfl, rfl⟩ := hP9
                refine go_retI rfl rfl ?_ dX11_holds_106
                exact ⟨rj_vi (by unfold sp_holdsF; rw [if_neg (by omega), if_neg (by omega), if_neg (by omega), if_neg (by omega), if_pos (by omega)]), rfl⟩
            · refine go_bipush (v := Int32.ofInt (-3)) dX11_holds_91 (by decide) ?_
              refine go_retI rfl rfl ?_ dX11_holds_93
              exact ⟨rj_vi (by unfold sp_holdsF; rw [if_neg (by omega), if_pos (by omega)]), rfl⟩
        · refine go_iload_n dX11_holds_56 rfl 1 rfl ?_
          refine go_iconst (v := Int32.ofInt 1) dX11_holds_57 rfl ?_
          refine go_icmp_eqI (tgt := 71) (by omega) (by omega) dX11_holds_58 (by decide) (fun c_58 => ?_) (fun c_58 => ?_)
          · refine go_aload_n dX11_holds_71 rfl 0 rfl ?_
            refine rc_gx hR.V (k := 0) (by decide) fX11_12 rfl dX11_holds_72 ?_
            refine rc_gs hR.V (k := 13) (v := rj_i (s 5)) (by decide) fX11_240 (rj_vi hR.n5) dX11_holds_75 ?_
            refine go_if_eqI (tgt := 91) (by omega) dX11_holds_78 (by decide) (fun c_78 => ?_) (fun c_78 => ?_)
            · refine go_bipush (v := Int32.ofInt (-3)) dX11_holds_91 (by decide) ?_
              refine go_retI rfl rfl ?_ dX11_holds_93
              exact ⟨rj_vi (by unfold sp_holdsF; rw [if_neg (by omega), if_pos (by omega)]), rfl⟩
            · refine go_aload_n dX11_holds_81 rfl 0 rfl ?_
              refine rc_gx hR.V (k := 0) (by decide) fX11_12 rfl dX11_holds_82 ?_
              refine go_callV (d1 := d - 1) wVX11_233 kX5 (rc_a1 hR.V) rfl (by omega) (x_newPatch hR hI h8) rfl (Nat.le_of_ble_eq_true rfl) dX11_holds_85 (fun w σ1 hP9 => ?_)
              obtain ⟨rfl, rfl⟩ := hP9
              refine go_if_eqB (tgt := 94) dX11_holds_88 (by decide) (fun c_88 => ?_) (fun c_88 => ?_)
              · have h81 : s 8 = s 1 := by omega
                refine go_iload_n dX11_holds_94 rfl 2 rfl ?_
                refine go_if_eqI (tgt := 107) (by omega) dX11_holds_95 (by decide) (fun c_95 => ?_) (fun c_95 => ?_)
                · exact absurd c_95 (by omega)
                · refine go_aload_n dX11_holds_98 rfl 0 rfl ?_
                  refine go_iload_n dX11_holds_99 rfl 1 rfl ?_
                  refine go_bipush (v := Int32.ofInt 10) dX11_holds_100 (by decide) ?_
                  refine go_subI dX11_holds_102 ?_
                  refine go_callV (d1 := d - 1) wVX11_255 kX11 (rc_a0 hR.V) rfl (by omega) (x_inOrder (i := w - 10) (by omega) hR hI h81 (by omega)) rfl (Nat.le_of_ble_eq_true rfl) dX11_holds_103 (fun w σ1 hP9 => ?_)
                  obtain ⟨rfl, rfl⟩ := hP9
                  refine go_retI rfl rfl ?_ dX11_holds_106
                  exact ⟨rj_vi (by unfold sp_holdsF; rw [if_neg (by omega), if_neg (by omega), if_neg (by omega), if_neg (by omega), if_pos (by omega)]), rfl⟩
              · refine go_bipush (v := Int32.ofInt (-3)) dX11_holds_91 (by decide) ?_
                refine go_retI rfl rfl ?_ dX11_holds_93
                exact ⟨rj_vi (by unfold sp_holdsF; rw [if_neg (by omega), if_pos (by omega)]), rfl⟩
          · refine go_iload_n dX11_holds_61 rfl 2 rfl ?_
            refine go_if_neI (tgt := 71) (by omega) dX11_holds_62 (by decide) (fun c_62 => ?_) (fun c_62 => ?_)
            · refine go_aload_n dX11_holds_71 rfl 0 rfl ?_
              refine rc_gx hR.V (k := 0) (by decide) fX11_12 rfl dX11_holds_72 ?_
              refine rc_gs hR.V (k := 13) (v := rj_i (s 5)) (by decide) fX11_240 (rj_vi hR.n5) dX11_holds_75 ?_
              refine go_if_eqI (tgt := 91) (by omega) dX11_holds_78 (by decide) (fun c_78 => ?_) (fun c_78 => ?_)
              · refine go_bipush (v := Int32.ofInt (-3)) dX11_holds_91 (by decide) ?_
                refine go_retI rfl rfl ?_ dX11_holds_93
                exact ⟨rj_vi (by unfold sp_holdsF; rw [if_neg (by omega), if_pos (by omega)]), rfl⟩
              · refine go_aload_n dX11_holds_81 rfl 0 rfl ?_
                refine rc_gx hR.V (k := 0) (by decide) fX11_12 rfl dX11_holds_82 ?_
                refine go_callV (d1 := d - 1) wVX11_233 kX5 (rc_a1 hR.V) rfl (by omega) (x_newPatch hR hI h8) rfl (Nat.le_of_ble_eq_true rfl) dX11_holds_85 (fun w σ1 hP9 => ?_)
                obtain ⟨rfl, rfl⟩ := hP9
                refine go_if_eqB (tgt := 94) dX11_holds_88 (by decide) (fun c_88 => ?_) (fun c_88 => ?_)
                · have h81 : s 8 = s 1 := by omega
                  refine go_iload_n dX11_holds_94 rfl 2 rfl ?_
                  refine go_if_eqI (tgt := 107) (by omega) dX11_holds_95 (by decide) (fun c_95 => ?_) (fun c_95 => ?_)
                  · exact absurd c_95 (by omega)
                  · refine go_aload_n dX11_holds_98 rfl 0 rfl ?_
                    refine go_iload_n dX11_holds_99 rfl 1 rfl ?_
                    refine go_bipush (v := Int32.ofInt 10) dX11_holds_100 (by decide) ?_
                    refine go_subI dX11_holds_102 ?_
                    refine go_callV (d1 := d - 1) wVX11_255 kX11 (rc_a0 hR.V) rfl (by omega) (x_inOrder (i := w - 10) (by omega) hR hI h81 (by omega)) rfl (Nat.le_of_ble_eq_true rfl) dX11_holds_103 (fun w σ1 hP9 => ?_)
                    obtain ⟨rfl, rfl⟩ := hP9
                    refine go_retI rfl rfl ?_ dX11_holds_106
                    exact ⟨rj_vi (by unfold sp_holdsF; rw [if_neg (by omega), if_neg (by omega), if_neg (by omega), if_neg (by omega), if_pos (by omega)]), rfl⟩
                · refine go_bipush (v := Int32.ofInt (-3)) dX11_holds_91 (by decide) ?_
                  refine go_retI rfl rfl ?_ dX11_holds_93
                  exact ⟨rj_vi (by unfold sp_holdsF; rw [if_neg (by omega), if_pos (by omega)]), rfl⟩
            · exact absurd c_62 (by omega)
      · refine go_iload_n dX11_holds_32 rfl 1 rfl ?_
        refine go_bipush (v := Int32.ofInt 20) dX11_holds_33 (by decide) ?_
        refine go_aload_n dX11_holds_35 rfl 0 rfl ?_
        refine rc_gx hR.V (k := 0) (by decide) fX11_12 rfl dX11_holds_36 ?_
        refine rc_gs hR.V (k := 3) (v := rj_i (s 1)) (by decide) fX11_76 (rj_vi hR.n1) dX11_holds_39 ?_
        refine go_addI dX11_holds_42 ?_
        refine go_icmp_geI (tgt := 50) (by omega) (by omega) dX11_holds_43 (by decide) (fun c_43 => ?_) (fun c_43 => ?_)
        · refine go_iconst (v := Int32.ofInt 0) dX11_holds_50 rfl ?_
          refine go_istore_nS (lv' := [(0, .ref cb), (1, rj_i w), (2, rj_i 1), (3, rj_i 0)]) rfl (by decide) rfl dX11_holds_51 ?_
          refine go_iload_n dX11_holds_52 rfl 1 rfl ?_
          refine go_if_eqI (tgt := 71) (by omega) dX11_holds_53 (by decide) (fun c_53 => ?_) (fun c_53 => ?_)
          · refine go_aload_n dX11_holds_71 rfl 0 rfl ?_
            refine rc_gx hR.V (k := 0) (by decide) fX11_12 rfl dX11_holds_72 ?_
            refine rc_gs hR.V (k := 13) (v := rj_i (s 5)) (by decide) fX11_240 (rj_vi hR.n5) dX11_holds_75 ?_
            refine go_if_eqI (tgt := 91) (by omega) dX11_holds_78 (by decide) (fun c_78 => ?_) (fun c_78 => ?_)
            · refine go_bipush (v := Int32.ofInt (-3)) dX11_holds_91 (by decide) ?_
              refine go_retI rfl rfl ?_ dX11_holds_93
              exact ⟨rj_vi (by unfold sp_holdsF; rw [if_neg (by omega), if_pos (by omega)]), rfl⟩
            · refine go_aload_n dX11_holds_81 rfl 0 rfl ?_
              refine rc_gx hR.V (k := 0) (by decide) fX11_12 rfl dX11_holds_82 ?_
              refine go_callV (d1 := d - 1) wVX11_233 kX5 (rc_a1 hR.V) rfl (by omega) (x_newPatch hR hI h8) rfl (Nat.le_of_ble_eq_true rfl) dX11_holds_85 (fun w σ1 hP9 => ?_)
              obtain ⟨rfl, rfl⟩ := hP9
              refine go_if_eqB (tgt := 94) dX11_holds_88 (by decide) (fun c_88 => ?_) (fun c_88 => ?_)
              · have h81 : s 8 = s 1 := by omega
                refine go_iload_n dX11_holds_94 rfl 2 rfl ?_
                refine go_if_eqI (tgt := 107) (by omega) dX11_holds_95 (by decide) (fun c_95 => ?_) (fun c_95 => ?_)
                · exact absurd c_95 (by omega)
                · refine go_aload_n dX11_holds_98 rfl 0 rfl ?_
                  refine go_iload_n dX11_holds_99 rfl 1 rfl ?_
                  refine go_bipush (v := Int32.ofInt 10) dX11_holds_100 (by decide) ?_
                  refine go_subI dX11_holds_102 ?_
                  refine go_callV (d1 := d - 1) wVX11_255 kX11 (rc_a0 hR.V) rfl (by omega) (x_inOrder (i := w - 10) (by omega) hR hI h81 (by omega)) rfl (Nat.le_of_ble_eq_true rfl) dX11_holds_103 (fun w σ1 hP9 => ?_)
                  obtain ⟨rfl, rfl⟩ := hP9
                  refine go_retI rfl rfl ?_ dX11_holds_106
                  exact ⟨rj_vi (by unfold sp_holdsF; rw [if_neg (by omega), if_neg (by omega), if_neg (by omega), if_neg (by omega), if_pos (by omega)]), rfl⟩
              · refine go_bipush (v := Int32.ofInt (-3)) dX11_holds_91 (by decide) ?_
                refine go_retI rfl rfl ?_ dX11_holds_93
                exact ⟨rj_vi (by unfold sp_holdsF; rw [if_neg (by omega), if_pos (by omega)]), rfl⟩
          · refine go_iload_n dX11_holds_56 rfl 1 rfl ?_
            refine go_iconst (v := Int32.ofInt 1) dX11_holds_57 rfl ?_
            refine go_icmp_eqI (tgt := 71) (by omega) (by omega) dX11_holds_58 (by decide) (fun c_58 => ?_) (fun c_58 => ?_)
            · refine go_aload_n dX11_holds_71 rfl 0 rfl ?_
              refine rc_gx hR.V (k := 0) (by decide) fX11_12 rfl dX11_holds_72 ?_
              refine rc_gs hR.V (k := 13) (v := rj_i (s 5)) (by decide) fX11_240 (rj_vi hR.n5) dX11_holds_75 ?_
              refine go_if_eqI (tgt := 91) (by omega) dX11_holds_78 (by decide) (fun c_78 => ?_) (fun c_78 => ?_)
              · refine go_bipush (v := Int32.ofInt (-3)) dX11_holds_91 (by decide) ?_
                refine go_retI rfl rfl ?_ dX11_holds_93
                exact ⟨rj_vi (by unfold sp_holdsF; rw [if_neg (by omega), if_pos (by omega)]), rfl⟩
              · refine go_aload_n dX11_holds_81 rfl 0 rfl ?_
                refine rc_gx hR.V (k := 0) (by decide) fX11_12 rfl dX11_holds_82 ?_
                refine go_callV (d1 := d - 1) wVX11_233 kX5 (rc_a1 hR.V) rfl (by omega) (x_newPatch hR hI h8) rfl (Nat.le_of_ble_eq_true rfl) dX11_holds_85 (fun w σ1 hP9 => ?_)
                obtain ⟨rfl, rfl⟩ := hP9
                refine go_if_eqB (tgt := 94) dX11_holds_88 (by decide) (fun c_88 => ?_) (fun c_88 => ?_)
                · have h81 : s 8 = s 1 := by omega
                  refine go_iload_n dX11_holds_94 rfl 2 rfl ?_
                  refine go_if_eqI (tgt := 107) (by omega) dX11_holds_95 (by decide) (fun c_95 => ?_) (fun c_95 => ?_)
                  · exact absurd c_95 (by omega)
                  · refine go_aload_n dX11_holds_98 rfl 0 rfl ?_
                    refine go_iload_n dX11_holds_99 rfl 1 rfl ?_
                    refine go_bipush (v := Int32.ofInt 10) dX11_holds_100 (by decide) ?_
                    refine go_subI dX11_holds_102 ?_
                    refine go_callV (d1 := d - 1) wVX11_255 kX11 (rc_a0 hR.V) rfl (by omega) (x_inOrder (i := w - 10) (by omega) hR hI h81 (by omega)) rfl (Nat.le_of_ble_eq_true rfl) dX11_holds_103 (fun w σ1 hP9 => ?_)
                    obtain ⟨rfl, rfl⟩ := hP9
                    refine go_retI rfl rfl ?_ dX11_holds_106
                    exact ⟨rj_vi (by unfold sp_holdsF; rw [if_neg (by omega), if_neg (by omega), if_neg (by omega), if_neg (by omega), if_pos (by omega)]), rfl⟩
                · refine go_bipush (v := Int32.ofInt (-3)) dX11_holds_91 (by decide) ?_
                  refine go_retI rfl rfl ?_ dX11_holds_93
                  exact ⟨rj_vi (by unfold sp_holdsF; rw [if_neg (by omega), if_pos (by omega)]), rfl⟩
            · refine go_iload_n dX11_holds_61 rfl 2 rfl ?_
              refine go_if_neI (tgt := 71) (by omega) dX11_holds_62 (by decide) (fun c_62 => ?_) (fun c_62 => ?_)
              · refine go_aload_n dX11_holds_71 rfl 0 rfl ?_
                refine rc_gx hR.V (k := 0) (by decide) fX11_12 rfl dX11_holds_72 ?_
                refine rc_gs hR.V (k := 13) (v := rj_i (s 5)) (by decide) fX11_240 (rj_vi hR.n5) dX11_holds_75 ?_
                refine go_if_eqI (tgt := 91) (by omega) dX11_holds_78 (by decide) (fun c_78 => ?_) (fun c_78 => ?_)
                · refine go_bipush (v := Int32.ofInt (-3)) dX11_holds_91 (by decide) ?_
                  refine go_retI rfl rfl ?_ dX11_holds_93
                  exact ⟨rj_vi (by unfold sp_holdsF; rw [if_neg (by omega), if_pos (by omega)]), rfl⟩
                · refine go_aload_n dX11_holds_81 rfl 0 rfl ?_
                  refine rc_gx hR.V (k := 0) (by decide) fX11_12 rfl dX11_holds_82 ?_
                  refine go_callV (d1 := d - 1) wVX11_233 kX5 (rc_a1 hR.V) rfl (by omega) (x_newPatch hR hI h8) rfl (Nat.le_of_ble_eq_true rfl) dX11_holds_85 (fun w σ1 hP9 => ?_)
                  obtain ⟨rfl, rfl⟩ := hP9
                  refine go_if_eqB (tgt := 94) dX11_holds_88 (by decide) (fun c_88 => ?_) (fun c_88 => ?_)
                  · have h81 : s 8 = s 1 := by omega
                    refine go_iload_n dX11_holds_94 rfl 2 rfl ?_
                    refine go_if_eqI (tgt := 107) (by omega) dX11_holds_95 (by decide) (fun c_95 => ?_) (fun c_95 => ?_)
                    · exact absurd c_95 (by omega)
                    · refine go_aload_n dX11_holds_98 rfl 0 rfl ?_
                      refine go_iload_n dX11_holds_99 rfl 1 rfl ?_
                      refine go_bipush (v := Int32.ofInt 10) dX11_holds_100 (by decide) ?_
                      refine go_subI dX11_holds_102 ?_
                      refine go_callV (d1 := d - 1) wVX11_255 kX11 (rc_a0 hR.V) rfl (by omega) (x_inOrder (i := w - 10) (by omega) hR hI h81 (by omega)) rfl (Nat.le_of_ble_eq_true rfl) dX11_holds_103 (fun w σ1 hP9 => ?_)
                      obtain ⟨rfl, rfl⟩ := hP9
                      refine go_retI rfl rfl ?_ dX11_holds_106
                      exact ⟨rj_vi (by unfold sp_holdsF; rw [if_neg (by omega), if_neg (by omega), if_neg (by omega), if_neg (by omega), if_pos (by omega)]), rfl⟩
                  · refine go_bipush (v := Int32.ofInt (-3)) dX11_holds_91 (by decide) ?_
                    refine go_retI rfl rfl ?_ dX11_holds_93
                    exact ⟨rj_vi (by unfold sp_holdsF; rw [if_neg (by omega), if_pos (by omega)]), rfl⟩
              · exact absurd c_62 (by omega)
        · refine go_iconst (v := Int32.ofInt 1) dX11_holds_46 rfl ?_
          refine go_goto (tgt := 51) dX11_holds_47 (by decide) ?_
          refine go_istore_nS (lv' := [(0, .ref cb), (1, rj_i w), (2, rj_i 1), (3, rj_i 1)]) rfl (by decide) rfl dX11_holds_51 ?_
          refine go_iload_n dX11_holds_52 rfl 1 rfl ?_
          refine go_if_eqI (tgt := 71) (by omega) dX11_holds_53 (by decide) (fun c_53 => ?_) (fun c_53 => ?_)
          · refine go_aload_n dX11_holds_71 rfl 0 rfl ?_
            refine rc_gx hR.V (k := 0) (by decide) fX11_12 rfl dX11_holds_72 ?_
            refine rc_gs hR.V (k := 13) (v := rj_i (s 5)) (by decide) fX11_240 (rj_vi hR.n5) dX11_holds_75 ?_
            refine go_if_eqI (tgt := 91) (by omega) dX11_holds_78 (by decide) (fun c_78 => ?_) (fun c_78 => ?_)
            · refine go_bipush (v := Int32.ofInt (-3)) dX11_holds_91 (by decide) ?_
              refine go_retI rfl rfl ?_ dX11_holds_93
              exact ⟨rj_vi (by unfold sp_holdsF; rw [if_neg (by omega), if_pos (by omega)]), rfl⟩
            · refine go_aload_n dX11_holds_81 rfl 0 rfl ?_
              refine rc_gx hR.V (k := 0) (by decide) fX11_12 rfl dX11_holds_82 ?_
              refine go_callV (d1 := d - 1) wVX11_233 kX5 (rc_a1 hR.V) rfl (by omega) (x_newPatch hR hI h8) rfl (Nat.le_of_ble_eq_true rfl) dX11_holds_85 (fun w σ1 hP9 => ?_)
              obtain ⟨rfl, rfl⟩ := hP9
              refine go_if_eqB (tgt := 94) dX11_holds_88 (by decide) (fun c_88 => ?_) (fun c_88 => ?_)
              · have h81 : s 8 = s 1 := by omega
                refine go_iload_n dX11_holds_94 rfl 2 rfl ?_
                refine go_if_eqI (tgt := 107) (by omega) dX11_holds_95 (by decide) (fun c_95 => ?_) (fun c_95 => ?_)
                · exact absurd c_95 (by omega)
                · refine go_aload_n dX11_holds_98 rfl 0 rfl ?_
                  refine go_iload_n dX11_holds_99 rfl 1 rfl ?_
                  refine go_bipush (v := Int32.ofInt 10) dX11_holds_100 (by decide) ?_
                  refine go_subI dX11_holds_102 ?_
                  refine go_callV (d1 := d - 1) wVX11_255 kX11 (rc_a0 hR.V) rfl (by omega) (x_inOrder (i := w - 10) (by omega) hR hI h81 (by omega)) rfl (Nat.le_of_ble_eq_true rfl) dX11_holds_103 (fun w σ1 hP9 => ?_)
                  obtain ⟨rfl, rfl⟩ := hP9
                  refine go_retI rfl rfl ?_ dX11_holds_106
                  exact ⟨rj_vi (by unfold sp_holdsF; rw [if_neg (by omega), if_neg (by omega), if_neg (by omega), if_neg (by omega), if_pos (by omega)]), rfl⟩
              · refine go_bipush (v := Int32.ofInt (-3)) dX11_holds_91 (by decide) ?_
                refine go_retI rfl rfl ?_ dX11_holds_93
                exact ⟨rj_vi (by unfold sp_holdsF; rw [if_neg (by omega), if_pos (by omega)]), rfl⟩
          · refine go_iload_n dX11_holds_56 rfl 1 rfl ?_
            refine go_iconst (v := Int32.ofInt 1) dX11_holds_57 rfl ?_
            refine go_icmp_eqI (tgt := 71) (by omega) (by omega) dX11_holds_58 (by decide) (fun c_58 => ?_) (fun c_58 => ?_)
            · refine go_aload_n dX11_holds_71 rfl 0 rfl ?_
              refine rc_gx hR.V (k := 0) (by decide) fX11_12 rfl dX11_holds_72 ?_
              refine rc_gs hR.V (k := 13) (v := rj_i (s 5)) (by decide) fX11_240 (rj_vi hR.n5) dX11_holds_75 ?_
              refine go_if_eqI (tgt := 91) (by omega) dX11_holds_78 (by decide) (fun c_78 => ?_) (fun c_78 => ?_)
              · refine go_bipush (v := Int32.ofInt (-3)) dX11_holds_91 (by decide) ?_
                refine go_retI rfl rfl ?_ dX11_holds_93
                exact ⟨rj_vi (by unfold sp_holdsF; rw [if_neg (by omega), if_pos (by omega)]), rfl⟩
              · refine go_aload_n dX11_holds_81 rfl 0 rfl ?_
                refine rc_gx hR.V (k := 0) (by decide) fX11_12 rfl dX11_holds_82 ?_
                refine go_callV (d1 := d - 1) wVX11_233 kX5 (rc_a1 hR.V) rfl (by omega) (x_newPatch hR hI h8) rfl (Nat.le_of_ble_eq_true rfl) dX11_holds_85 (fun w σ1 hP9 => ?_)
                obtain ⟨rfl, rfl⟩ := hP9
                refine go_if_eqB (tgt := 94) dX11_holds_88 (by decide) (fun c_88 => ?_) (fun c_88 => ?_)
                · have h81 : s 8 = s 1 := by omega
                  refine go_iload_n dX11_holds_94 rfl 2 rfl ?_
                  refine go_if_eqI (tgt := 107) (by omega) dX11_holds_95 (by decide) (fun c_95 => ?_) (fun c_95 => ?_)
                  · exact absurd c_95 (by omega)
                  · refine go_aload_n dX11_holds_98 rfl 0 rfl ?_
                    refine go_iload_n dX11_holds_99 rfl 1 rfl ?_
                    refine go_bipush (v := Int32.ofInt 10) dX11_holds_100 (by decide) ?_
                    refine go_subI dX11_holds_102 ?_
                    refine go_callV (d1 := d - 1) wVX11_255 kX11 (rc_a0 hR.V) rfl (by omega) (x_inOrder (i := w - 10) (by omega) hR hI h81 (by omega)) rfl (Nat.le_of_ble_eq_true rfl) dX11_holds_103 (fun w σ1 hP9 => ?_)
                    obtain ⟨rfl, rfl⟩ := hP9
                    refine go_retI rfl rfl ?_ dX11_holds_106
                    exact ⟨rj_vi (by unfold sp_holdsF; rw [if_neg (by omega), if_neg (by omega), if_neg (by omega), if_neg (by omega), if_pos (by omega)]), rfl⟩
                · refine go_bipush (v := Int32.ofInt (-3)) dX11_holds_91 (by decide) ?_
                  refine go_retI rfl rfl ?_ dX11_holds_93
                  exact ⟨rj_vi (by unfold sp_holdsF; rw [if_neg (by omega), if_pos (by omega)]), rfl⟩
            · refine go_iload_n dX11_holds_61 rfl 2 rfl ?_
              refine go_if_neI (tgt := 71) (by omega) dX11_holds_62 (by decide) (fun c_62 => ?_) (fun c_62 => ?_)
              · refine go_aload_n dX11_holds_71 rfl 0 rfl ?_
                refine rc_gx hR.V (k := 0) (by decide) fX11_12 rfl dX11_holds_72 ?_
                refine rc_gs hR.V (k := 13) (v := rj_i (s 5)) (by decide) fX11_240 (rj_vi hR.n5) dX11_holds_75 ?_
                refine go_if_eqI (tgt := 91) (by omega) dX11_holds_78 (by decide) (fun c_78 => ?_) (fun c_78 => ?_)
                · refine go_bipush (v := Int32.ofInt (-3)) dX11_holds_91 (by decide) ?_
                  refine go_retI rfl rfl ?_ dX11_holds_93
                  exact ⟨rj_vi (by unfold sp_holdsF; rw [if_neg (by omega), if_pos (by omega)]), rfl⟩
                · refine go_aload_n dX11_holds_81 rfl 0 rfl ?_
                  refine rc_gx hR.V (k := 0) (by decide) fX11_12 rfl dX11_holds_82 ?_
                  refine go_callV (d1 := d - 1) wVX11_233 kX5 (rc_a1 hR.V) rfl (by omega) (x_newPatch hR hI h8) rfl (Nat.le_of_ble_eq_true rfl) dX11_holds_85 (fun w σ1 hP9 => ?_)
                  obtain ⟨rfl, rfl⟩ := hP9
                  refine go_if_eqB (tgt := 94) dX11_holds_88 (by decide) (fun c_88 => ?_) (fun c_88 => ?_)
                  · have h81 : s 8 = s 1 := by omega
                    refine go_iload_n dX11_holds_94 rfl 2 rfl ?_
                    refine go_if_eqI (tgt := 107) (by omega) dX11_holds_95 (by decide) (fun c_95 => ?_) (fun c_95 => ?_)
                    · exact absurd c_95 (by omega)
                    · refine go_aload_n dX11_holds_98 rfl 0 rfl ?_
                      refine go_iload_n dX11_holds_99 rfl 1 rfl ?_
                      refine go_bipush (v := Int32.ofInt 10) dX11_holds_100 (by decide) ?_
                      refine go_subI dX11_holds_102 ?_
                      refine go_callV (d1 := d - 1) wVX11_255 kX11 (rc_a0 hR.V) rfl (by omega) (x_inOrder (i := w - 10) (by omega) hR hI h81 (by omega)) rfl (Nat.le_of_ble_eq_true rfl) dX11_holds_103 (fun w σ1 hP9 => ?_)
                      obtain ⟨rfl, rfl⟩ := hP9
                      refine go_retI rfl rfl ?_ dX11_holds_106
                      exact ⟨rj_vi (by unfold sp_holdsF; rw [if_neg (by omega), if_neg (by omega), if_neg (by omega), if_neg (by omega), if_pos (by omega)]), rfl⟩
                  · refine go_bipush (v := Int32.ofInt (-3)) dX11_holds_91 (by decide) ?_
                    refine go_retI rfl rfl ?_ dX11_holds_93
                    exact ⟨rj_vi (by unfold sp_holdsF; rw [if_neg (by omega), if_pos (by omega)]), rfl⟩
              · exact absurd c_62 (by omega)
