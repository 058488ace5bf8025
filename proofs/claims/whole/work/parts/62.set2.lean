/-! THE CLASS: plan, patch, clear -/
theorem e_plan {X9 : rj_X} {cb vv vk : Nat} {c : rm_R} {σ : rj_H} {s : Int → Int} {ad : Nat → Int → Nat} {m q p : Int} (hR : rc_R X9 cb vv vk c σ s ad) (hI : sp_I s) (hm : 0 ≤ m ∧ m < 6) (hq : 0 ≤ q ∧ q < 8) : rc_R X9 cb vv vk (rm_u c (19 + m.toNat) (rj_up (c (19 + m.toNat)) q p)) σ (rj_up s (236 + 8 * m + q) p) ad := by
  obtain ⟨⟨h0, h1, h2, h3, h4, h5, h6, h7⟩, hM, hP, hW, hL, hV⟩ := id hI
  obtain ⟨v1, v2, v3, v4⟩ := id hV
  obtain ⟨r1, r2, ⟨g1, g2, g3, g4, g5, g6, g7⟩, r4⟩ := hR
  have e : ∀ j : Int, (j < 236 ∨ 284 ≤ j) → rj_up s (236 + 8 * m + q) p j = s j := fun j hj => rj_up_ne _ _ (by omega)
  have ec : ∀ k : Nat, k < 19 ∨ 25 ≤ k → rm_u c (19 + m.toNat) (rj_up (c (19 + m.toNat)) q p) k = c k := fun k hk => rm_u_ne _ _ (by omega)
  refine ⟨r1, r2, ⟨?_, rg_mir g2 h0.2 (e 0 (by omega)) (fun j a b => e j (by omega)) (ec 2 (by omega)), rg_pat g3 (e 1 (by omega)) (fun j a b => e j (by omega)) (fun k a b => ec k (by omega)), rg_wal g4 h2.2 (e 2 (by omega)) (fun j a b => e j (by omega)) (ec 10 (by omega)), rg_tap g5 h6.2 (e 6 (by omega)) (fun j a b => e j (by omega)) (ec 11 (by omega)), ?_, rg_ahd g7 h5 (e 5 (by omega)) (e 8 (by omega)) (fun j a b => e j (by omega)) (fun k a b => ec k (by omega))⟩, rg_vy r4 h7 v1 (e 7 (by omega)) (fun j a b => e j (by omega))⟩
  · rw [ec 1 (by omega), e 0 (by omega), e 1 (by omega), e 2 (by omega), e 6 (by omega), e 3 (by omega), e 4 (by omega), e 5 (by omega), e 8 (by omega)]; exact g1
  · intro m' q' a0 a1 b0 b1
    by_cases hmm : m' = m
    · subst hmm
      rw [show 1 + (18 + m'.toNat) = 19 + m'.toNat by omega, rm_u_eq]
      by_cases hqq : q' = q
      · subst hqq; rw [rj_up_eq, rj_up_eq]
      · rw [rj_up_ne _ _ hqq, rj_up_ne _ _ (by omega)]
        have := g6 m' q' a0 a1 b0 b1
        rw [show 1 + (18 + m'.toNat) = 19 + m'.toNat by omega] at this; exact this
    · rw [rm_u_ne _ _ (by omega), rj_up_ne _ _ (by omega)]; exact g6 m' q' a0 a1 b0 b1
set_option maxRecDepth 20000 in
/-- x_plan -/
theorem x_plan {X9 : rj_X} {σ : rj_H} {d cb vv vk : Nat} {c : rm_R} {m q p : Int} (hd : 2 ≤ d) (hm : -2147483648 ≤ m ∧ m < 2147483648) (hq : -2147483648 ≤ q ∧ q < 2147483648) (hp : -2147483648 ≤ p ∧ p < 2147483648) {s : Int → Int} {ad : Nat → Int → Nat} (hR : rc_R X9 cb vv vk c σ s ad) (hI : sp_I s) : rj_Cl X9 d yX11_plan cX11_plan 6 (some .int) [.ref cb, rj_i m, rj_i q, rj_i p] (rc_p X9 cb vv vk c σ) (fun w9 τ => w9 = some (rj_i (sp_planF s m q p)) ∧ rc_E X9 cb vv vk c σ ad (sp_planS s m q p) τ) := by
  obtain ⟨⟨h0, h1, h2, h3, h4, h5, h6, h7⟩, hM, hP, hW, hL, hV⟩ := id hI
  obtain ⟨v1, v2, v3, v4⟩ := id hV
  refine go_call (by decide +kernel) (Nat.le_of_ble_eq_true rfl) ?_
  refine go_eq (pc' := 0) (lv' := [(0, .ref cb), (1, rj_i m), (2, rj_i q), (3, rj_i p)]) (st' := []) rfl rfl rfl rfl ?_
  refine go_aload_n dX11_plan_0 rfl 0 rfl ?_
  refine rc_gx hR.V (k := 0) (by decide) fX11_12 rfl dX11_plan_1 ?_
  refine go_iload_n dX11_plan_4 rfl 1 rfl ?_
  by_cases hm : 0 ≤ m ∧ m < s 0
  · refine go_callV (d1 := d - 1) wVX11_94 kX5 (rc_a1 hR.V) rfl (by omega) (x_mirrorAt_y (m := m) (by omega) hR hI hm) rfl (Nat.le_of_ble_eq_true rfl) dX11_plan_5 (fun w σ1 hP9 => ?_)
    obtain ⟨rfl, rfl⟩ := hP9
    refine go_ifnull dX11_plan_8 ?_
    refine go_iload_n dX11_plan_11 rfl 2 rfl ?_
    refine go_callS (d1 := d - 1) wSX11_143 rfl (by omega) (x_quarter (q := q) (by omega)) rfl (Nat.le_of_ble_eq_true rfl) dX11_plan_12 (fun w σ1 hP9 => ?_)
    obtain ⟨rfl, rfl⟩ := hP9
    refine go_if_neB (tgt := 20) dX11_plan_15 (by decide) (fun c_15 => ?_) (fun c_15 => ?_)
    · refine go_iload_n dX11_plan_20 rfl 3 rfl ?_
      refine go_iconst (v := Int32.ofInt (-1)) dX11_plan_21 rfl ?_
      refine go_icmp_eqI (tgt := 38) (by omega) (by omega) dX11_plan_22 (by decide) (fun c_22 => ?_) (fun c_22 => ?_)
      · have l1 := hL m q (by omega) (by omega) (by omega) (by omega)
        refine go_aload_n dX11_plan_38 rfl 0 rfl ?_
        refine rc_gx hR.V (k := 0) (by decide) fX11_12 rfl dX11_plan_39 ?_
        refine rc_gs hR.V (k := 10) (v := .ref (cb + 18)) (by decide) fX11_146 rfl dX11_plan_42 ?_
        refine go_iload_n dX11_plan_45 rfl 1 rfl ?_
        refine rc_r19 hR.V (z := m) (by omega) (by omega) dX11_plan_46 ?_
        refine go_astoreS (lv' := [(0, .ref cb), (1, rj_i m), (2, rj_i q), (3, rj_i p), (4, .ref (cb + (19 + m.toNat)))]) (by decide) rfl dX11_plan_47 ?_
        refine go_aload dX11_plan_49 4 rfl ?_
        refine go_iload_n dX11_plan_51 rfl 2 rfl ?_
        refine rc_il hR (m := m) (q := q) (by omega) (by omega) (by omega) (by omega) dX11_plan_52 ?_
        refine go_istoreS (lv' := [(0, .ref cb), (1, rj_i m), (2, rj_i q), (3, rj_i p), (4, .ref (cb + (19 + m.toNat))), (5, rj_i (s (236 + 8 * m + q)))]) (by decide) rfl dX11_plan_53 ?_
        refine go_aload dX11_plan_55 4 rfl ?_
        refine go_iload_n dX11_plan_57 rfl 2 rfl ?_
        refine go_iload_n dX11_plan_58 rfl 3 rfl ?_
        refine rc_s19 hR.V (i := m) (by omega) (by omega) (by omega) (by omega) dX11_plan_59 ?_
        refine go_iload dX11_plan_60 5 rfl ?_
        refine go_callS (d1 := d - 1) wSX11_149 rfl (by omega) (x_orN (v := s (236 + 8 * m + q)) (by omega)) rfl (Nat.le_of_ble_eq_true rfl) dX11_plan_62 (fun w σ1 hP9 => ?_)
        obtain ⟨rfl, rfl⟩ := hP9
        refine go_retI rfl rfl ?_ dX11_plan_65
        exact ⟨rj_vi (by unfold sp_planF; rw [if_pos (by omega : (0 ≤ m ∧ m < s 0) ∧ (0 ≤ q ∧ q < 8) ∧ -1 ≤ p ∧ p < s 1)]; (repeat' split) <;> omega), _, (by unfold sp_planS; rw [if_pos (by omega)]; exact e_plan hR hI (by omega) (by omega)), rc_kp.u (by omega), rfl⟩
      · refine go_aload_n dX11_plan_25 rfl 0 rfl ?_
        refine rc_gx hR.V (k := 0) (by decide) fX11_12 rfl dX11_plan_26 ?_
        refine go_iload_n dX11_plan_29 rfl 3 rfl ?_
        refine go_callV (d1 := d - 1) wVX11_104 kX5 (rc_a1 hR.V) rfl (by omega) (x_hasPatch (p := p) (by omega) hR hI) rfl (Nat.le_of_ble_eq_true rfl) dX11_plan_30 (fun w σ1 hP9 => ?_)
        obtain ⟨rfl, rfl⟩ := hP9
        refine go_if_neB (tgt := 38) dX11_plan_33 (by decide) (fun c_33 => ?_) (fun c_33 => ?_)
        · have l1 := hL m q (by omega) (by omega) (by omega) (by omega)
          refine go_aload_n dX11_plan_38 rfl 0 rfl ?_
          refine rc_gx hR.V (k := 0) (by decide) fX11_12 rfl dX11_plan_39 ?_
          refine rc_gs hR.V (k := 10) (v := .ref (cb + 18)) (by decide) fX11_146 rfl dX11_plan_42 ?_
          refine go_iload_n dX11_plan_45 rfl 1 rfl ?_
          refine rc_r19 hR.V (z := m) (by omega) (by omega) dX11_plan_46 ?_
          refine go_astoreS (lv' := [(0, .ref cb), (1, rj_i m), (2, rj_i q), (3, rj_i p), (4, .ref (cb + (19 + m.toNat)))]) (by decide) rfl dX11_plan_47 ?_
          refine go_aload dX11_plan_49 4 rfl ?_
          refine go_iload_n dX11_plan_51 rfl 2 rfl ?_
          refine rc_il hR (m := m) (q := q) (by omega) (by omega) (by omega) (by omega) dX11_plan_52 ?_
          refine go_istoreS (lv' := [(0, .ref cb), (1, rj_i m), (2, rj_i q), (3, rj_i p), (4, .ref (cb + (19 + m.toNat))), (5, rj_i (s (236 + 8 * m + q)))]) (by decide) rfl dX11_plan_53 ?_
          refine go_aload dX11_plan_55 4 rfl ?_
          refine go_iload_n dX11_plan_57 rfl 2 rfl ?_
          refine go_iload_n dX11_plan_58 rfl 3 rfl ?_
          refine rc_s19 hR.V (i := m) (by omega) (by omega) (by omega) (by omega) dX11_plan_59 ?_
          refine go_iload dX11_plan_60 5 rfl ?_
          refine go_callS (d1 := d - 1) wSX11_149 rfl (by omega) (x_orN (v := s (236 + 8 * m + q)) (by omega)) rfl (Nat.le_of_ble_eq_true rfl) dX11_plan_62 (fun w σ1 hP9 => ?_)
          obtain ⟨rfl, rfl⟩ := hP9
          refine go_retI rfl rfl ?_ dX11_plan_65
          exact ⟨rj_vi (by unfold sp_planF; rw [if_pos (by omega : (0 ≤ m ∧ m < s 0) ∧ (0 ≤ q ∧ q < 8) ∧ -1 ≤ p ∧ p < s 1)]; (repeat' split) <;> omega), _, (by unfold sp_planS; rw [if_pos (by omega)]; exact e_plan hR hI (by omega) (by omega)), rc_kp.u (by omega), rfl⟩
        · refine go_iconst (v := Int32.ofInt (-1)) dX11_plan_36 rfl ?_
          refine go_retI rfl rfl ?_ dX11_plan_37
          exact ⟨rj_vi (by unfold sp_planF; rw [if_neg (by omega)]), c, (by unfold sp_planS; rw [if_neg (by omega)]; exact hR), rc_kp.rf, rfl⟩
    · refine go_iconst (v := Int32.ofInt (-1)) dX11_plan_18 rfl ?_
      refine go_retI rfl rfl ?_ dX11_plan_19
      exact ⟨rj_vi (by unfold sp_planF; rw [if_neg (by omega)]), c, (by unfold sp_planS; rw [if_neg (by omega)]; exact hR), rc_kp.rf, rfl⟩
  · refine go_callV (d1 := d - 1) wVX11_94 kX5 (rc_a1 hR.V) rfl (by omega) (x_mirrorAt_n0 (m := m) (by omega) (by omega) hR hI hm) rfl (Nat.le_of_ble_eq_true rfl) dX11_plan_5 (fun w σ1 hP9 => ?_)
    obtain ⟨rfl, rfl⟩ := hP9
    refine go_ifnullN (tgt := 18) dX11_plan_8 (by decide) ?_
    refine go_iconst (v := Int32.ofInt (-1)) dX11_plan_18 rfl ?_
    refine go_retI rfl rfl ?_ dX11_plan_19
    exact ⟨rj_vi (by unfold sp_planF; rw [if_neg (by omega)]), c, (by unfold sp_planS; rw [if_neg (by omega)]; exact hR), rc_kp.rf, rfl⟩
