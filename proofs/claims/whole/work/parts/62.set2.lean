/-! THE CLASS: plan, patch, clear -/
theorem e_plan {X9 : rj_X} {cb vv vk : Nat} {c : rm_R} {σ : rj_H} {s : Int → Int} {ad : Nat → Int → Nat} {m q p : Int} (hR : rc_R X9 cb vv vk c σ s ad) (hI : sp_I s) (hm : 0 ≤ m ∧ m < 6) (hq : 0 ≤ q ∧ q < 8) : rc_R X9 cb vv vk (rm_u c (19 + m.toNat) (rj_up (c (19 + m.toNat)) q p)) σ (rj_up s (236 + 8 * m + q) p) ad := by
  obtain ⟨⟨h0, h1, h2, h3, h4, h5, h6, h7⟩, hM, hP, hW, hL, hV⟩ := id hI
  obtain ⟨v1, v2, v3, v4⟩ := id hV
  obtain ⟨r1, r2, ⟨g1, g2, g3, g4, g5, g6, g7⟩, r4⟩ := hR
  have e : ∀ j : Int, (j < 236 ∨ 284 ≤ j) → rj_up s (236 + 8 * m + q) p j = s j := fun j hj => rj_up_ne _ _ (by omega)
  have ec : ∀ k : Nat, k < 19 ∨ 25 ≤ k → rm_u c (19 + m.toNat) (rj_up (c (19 + m.toNat)) q p) k = c k := fun k hk => rm_u_ne _ _ (by omega)
  refine ⟨r1, r2, ⟨?_, rg_mir g2 h0.2 (e 0 (by omega)) (fun j a b => e j (by omega)) (ec 2 (by omega)), rg_pat g3 (e 1 (by omega)) (fun j a b => e j (by omega)) (fun k a b => ec k (by omega)), rg_wal g4 h2.2 (e 2 (by omega)) (fun j a b => e j (by omega)) (ec 10 (by omega)), rg_tap g5 h6.2 (e 6 (by omega)) (fun j a b => e j (by omega)) (ec 11 (by omega)), ?_, rg_ahd g7 h5 (e 5 (by omega)) (e 8 (by omega)) (fun j a b => e j (by omega)) (fun k a b => ec k (by omega))⟩, rg_vy r4 h7 v1 (e 7 (by omega)) (fun j a b => e j (by omega))⟩
  · rw [ec 1 (by omega), e 0 (by omega), e 1 (by omega), e 2 (by omega), e 6 (by omega), e 3 (by omega), e 4 (by omega), e 5 (by omega), e 8 (by omega)]; exact g1
  · intro m' q' a0 a1 b0 b1
    by_cases hmm : m' = m
    · subst hmm
      rw [show 1 + (18 + m'.toNat) = 19 + m'.toNat by omega, rm_u_eq]
      by_cases hqq : q' = q
      · subst hqq; rw [rj_up_eq, rj_up_eq]
      · rw [rj_up_ne _ _ hqq, rj_up_ne _ _ (by omega)]
        have := g6 m' q' a0 a1 b0 b1
        rw [show 1 + (18 + m'.toNat) = 19 + m'.toNat by omega] at this; exact this
    · rw [rm_u_ne _ _ (by omega), rj_up_ne _ _ (by omega)]; exact g6 m' q' a0 a1 b0 b1
set_option maxRecDepth 20000 in
/-- x_plan -/
theorem x_plan {X9 : rj_X} {σ : rj_H} {d cb vv vk : Nat} {c : rm_R} {m q p : Int} (hd : 2 ≤ d) (hm : -2147483648 ≤ m ∧ m < 2147483648) (hq : -2147483648 ≤ q ∧ q < 2147483648) (hp : -2147483648 ≤ p ∧ p < 2147483648) {s : Int → Int} {ad : Nat → Int → Nat} (hR : rc_R X9 cb vv vk c σ s ad) (hI : sp_I s) : rj_Cl X9 d yX11_plan cX11_plan 6 (some .int) [.ref cb, rj_i m, rj_i q, rj_i p] (rc_p X9 cb vv vk c σ) (fun w9 τ => w9 = some (rj_i (sp_planF s m q p)) ∧ rc_E X9 cb vv vk c σ ad (sp_planS s m q p) τ) := by
  obtain ⟨⟨h0, h1, h2, h3, h4, h5, h6, h7⟩, hM, hP, hW, hL, hV⟩ := id hI
  obtain ⟨v1, v2, v3, v4⟩ := id hV
  refine go_call (by decide +kernel) (Nat.le_of_ble_eq_true rfl) ?_
  refine go_eq (pc' := 0) (lv' := [(0, .ref cb), (1, rj_i m), (2, rj_i q), (3, rj_i p)]) (st' := []) rfl rfl rfl rfl ?_
  refine go_aload_n dX11_plan_0 rfl 0 rfl ?_
  refine rc_gx hR.V (k := 0) (by decide) fX11_12 rfl dX11_plan_1 ?_
  refine go_iload_n dX11_plan_4 rfl 1 rfl ?_
  by_cases hm : 0 ≤ m ∧ m < s 0
  · refine go_callV (d1 := d - 1) wVX11_94 kX5 (rc_a1 hR.V) rfl (by omega) (x_mirrorAt_y (m := m) (by omega) hR hI hm) rfl (Nat.le_of_ble_eq_true rfl) dX11_plan_5 (fun w σ1 hP9 => ?_)
    obtain ⟨rfl, rfl⟩ := hP9
    refine go_ifnull dX11_plan_8 ?_
    refine go_iload_n dX11_plan_11 rfl 2 rfl ?_
    refine go_callS (d1 := d - 1) wSX11_143 rfl (by omega) (x_quarter (q := q) (by omega)) rfl (Nat.le_of_ble_eq_true rfl) dX11_plan_12 (fun w σ1 hP9 => ?_)
    obtain ⟨rfl, rfl⟩ := hP9
    refine go_if_neB (tgt := 20) dX11_plan_15 (by decide) (fun c_15 => ?_) (fun c_15 => ?_)
    · refine go_iload_n dX11_plan_20 rfl 3 rfl ?_
      refine go_iconst (v := Int32.ofInt (-1)) dX11_plan_21 rfl ?_
      refine go_icmp_eqI (tgt := 38) (by omega) (by omega) dX11_plan_22 (by decide) (fun c_22 => ?_) (fun c_22 => ?_)
      · have l1 := hL m q (by omega) (by omega) (by omega) (by omega)
        refine go_aload_n dX11_plan_38 rfl 0 rfl ?_
        refine rc_gx hR.V (k := 0) (by decide) fX11_12 rfl dX11_plan_39 ?_
        refine rc_gs hR.V (k := 10) (v := .ref (cb + 18)) (by decide) fX11_146 rfl dX11_plan_42 ?_
        refine go_iload_n dX11_plan_45 rfl 1 rfl ?_
        refine rc_r19 hR.V (z := m) (by omega) (by omega) dX11_plan_46 ?_
        refine go_astoreS (lv' := [(0, .ref cb), (1, rj_i m), (2, rj_i q), (3, rj_i p), (4, .ref (cb + (19 + m.toNat)))]) (by decide) rfl dX11_plan_47 ?_
        refine go_aload dX11_plan_49 4 rfl ?_
        refine go_iload_n dX11_plan_51 rfl 2 rfl ?_
        refine rc_il hR (m := m) (q := q) (by omega) (by omega) (by omega) (by omega) dX11_plan_52 ?_
        refine go_istoreS (lv' := [(0, .ref cb), (1, rj_i m), (2, rj_i q), (3, rj_i p), (4, .ref (cb + (19 + m.toNat))), (5, rj_i (s (236 + 8 * m + q)))]) (by decide) rfl dX11_plan_53 ?_
        refine go_aload dX11_plan_55 4 rfl ?_
        refine go_iload_n dX11_plan_57 rfl 2 rfl ?_
        refine go_iload_n dX11_plan_58 rfl 3 rfl ?_
        refine rc_s19 hR.V (i := m) (by omega) (by omega) (by omega) (by omega) dX11_plan_59 ?_
        refine go_iload dX11_plan_60 5 rfl ?_
        refine go_callS (d1 := d - 1) wSX11_149 rfl (by omega) (x_orN (v := s (236 + 8 * m + q)) (by omega)) rfl (Nat.le_of_ble_eq_true rfl) dX11_plan_62 (fun w σ1 hP9 => ?_)
        obtain ⟨rfl, rfl⟩ := hP9
        refine go_retI rfl rfl ?_ dX11_plan_65
        exact ⟨rj_vi (by unfold sp_planF; rw [if_pos (by omega : (0 ≤ m ∧ m < s 0) ∧ (0 ≤ q ∧ q < 8) ∧ -1 ≤ p ∧ p < s 1)]; (repeat' split) <;> omega), _, (by unfold sp_planS; rw [if_pos (by omega)]; exact e_plan hR hI (by omega) (by omega)), rc_kp.u (by omega), rfl⟩
      · refine go_aload_n dX11_plan_25 rfl 0 rfl ?_
        refine rc_gx hR.V (k := 0) (by decide) fX11_12 rfl dX11_plan_26 ?_
        refine go_iload_n dX11_plan_29 rfl 3 rfl ?_
        refine go_callV (d1 := d - 1) wVX11_104 kX5 (rc_a1 hR.V) rfl (by omega) (x_hasPatch (p := p) (by omega) hR hI) rfl (Nat.le_of_ble_eq_true rfl) dX11_plan_30 (fun w σ1 hP9 => ?_)
        obtain ⟨rfl, rfl⟩ := hP9
        refine go_if_neB (tgt := 38) dX11_plan_33 (by decide) (fun c_33 => ?_) (fun c_33 => ?_)
        · have l1 := hL m q (by omega) (by omega) (by omega) (by omega)
          refine go_aload_n dX11_plan_38 rfl 0 rfl ?_
          refine rc_gx hR.V (k := 0) (by decide) fX11_12 rfl dX11_plan_39 ?_
          refine rc_gs hR.V (k := 10) (v := .ref (cb + 18)) (by decide) fX11_146 rfl dX11_plan_42 ?_
          refine go_iload_n dX11_plan_45 rfl 1 rfl ?_
          refine rc_r19 hR.V (z := m) (by omega) (by omega) dX11_plan_46 ?_
          refine go_astoreS (lv' := [(0, .ref cb), (1, rj_i m), (2, rj_i q), (3, rj_i p), (4, .ref (cb + (19 + m.toNat)))]) (by decide) rfl dX11_plan_47 ?_
          refine go_aload dX11_plan_49 4 rfl ?_
          refine go_iload_n dX11_plan_51 rfl 2 rfl ?_
          refine rc_il hR (m := m) (q := q) (by omega) (by omega) (by omega) (by omega) dX11_plan_52 ?_
          refine go_istoreS (lv' := [(0, .ref cb), (1, rj_i m), (2, rj_i q), (3, rj_i p), (4, .ref (cb + (19 + m.toNat))), (5, rj_i (s (236 + 8 * m + q)))]) (by decide) rfl dX11_plan_53 ?_
          refine go_aload dX11_plan_55 4 rfl ?_
          refine go_iload_n dX11_plan_57 rfl 2 rfl ?_
          refine go_iload_n dX11_plan_58 rfl 3 rfl ?_
          refine rc_s19 hR.V (i := m) (by omega) (by omega) (by omega) (by omega) dX11_plan_59 ?_
          refine go_iload dX11_plan_60 5 rfl ?_
          refine go_callS (d1 := d - 1) wSX11_149 rfl (by omega) (x_orN (v := s (236 + 8 * m + q)) (by omega)) rfl (Nat.le_of_ble_eq_true rfl) dX11_plan_62 (fun w σ1 hP9 => ?_)
          obtain ⟨rfl, rfl⟩ := hP9
          refine go_retI rfl rfl ?_ dX11_plan_65
          exact ⟨rj_vi (by unfold sp_planF; rw [if_pos (by omega : (0 ≤ m ∧ m < s 0) ∧ (0 ≤ q ∧ q < 8) ∧ -1 ≤ p ∧ p < s 1)]; (repeat' split) <;> omega), _, (by unfold sp_planS; rw [if_pos (by omega)]; exact e_plan hR hI (by omega) (by omega)), rc_kp.u (by omega), rfl⟩
        · refine go_iconst (v := Int32.ofInt (-1)) dX11_plan_36 rfl ?_
          refine go_retI rfl rfl ?_ dX11_plan_37
          exact ⟨rj_vi (by unfold sp_planF; rw [if_neg (by omega)]), c, (by unfold sp_planS; rw [if_neg (by omega)]; exact hR), rc_kp.rf, rfl⟩
    · refine go_iconst (v := Int32.ofInt (-1)) dX11_plan_18 rfl ?_
      refine go_retI rfl rfl ?_ dX11_plan_19
      exact ⟨rj_vi (by unfold sp_planF; rw [if_neg (by omega)]), c, (by unfold sp_planS; rw [if_neg (by omega)]; exact hR), rc_kp.rf, rfl⟩
  · refine go_callV (d1 := d - 1) wVX11_94 kX5 (rc_a1 hR.V) rfl (by omega) (x_mirrorAt_n0 (m := m) (by omega) (by omega) hR hI hm) rfl (Nat.le_of_ble_eq_true rfl) dX11_plan_5 (fun w σ1 hP9 => ?_)
    obtain ⟨rfl, rfl⟩ := hP9
    refine go_ifnullN (tgt := 18) dX11_plan_8 (by decide) ?_
    refine go_iconst (v := Int32.ofInt (-1)) dX11_plan_18 rfl ?_
    refine go_retI rfl rfl ?_ dX11_plan_19
    exact ⟨rj_vi (by unfold sp_planF; rw [if_neg (by omega)]), c, (by unfold sp_planS; rw [if_neg (by omega)]; exact hR), rc_kp.rf, rfl⟩
theorem rg_4 {c c1 c2 c3 c4 c5 : rm_R} {N : Nat} {v0 v1 v2 v3 w : Int} (e1 : c1 = rm_u c N (rj_up (c N) 0 v0)) (e2 : c2 = rm_u c1 N (rj_up (c1 N) 1 v1)) (e3 : c3 = rm_u c2 N (rj_up (c2 N) 2 v2)) (e4 : c4 = rm_u c3 N (rj_up (c3 N) 3 v3)) (e5 : c5 = rm_u c4 1 (rj_up (c4 1) 3 w)) (hN : N ≠ 1) : (∀ k : Nat, k ≠ 1 → k ≠ N → c5 k = c k) ∧ c5 1 = rj_up (c 1) 3 w ∧ c5 N 0 = v0 ∧ c5 N 1 = v1 ∧ c5 N 2 = v2 ∧ c5 N 3 = v3 := by
  subst e1; subst e2; subst e3; subst e4; subst e5
  refine ⟨fun k a b => ?_, ?_, ?_⟩
  · rw [rm_u_ne _ _ a, rm_u_ne _ _ b, rm_u_ne _ _ b, rm_u_ne _ _ b, rm_u_ne _ _ b]
  · rw [rm_u_eq, rm_u_ne _ _ (Ne.symm hN), rm_u_ne _ _ (Ne.symm hN), rm_u_ne _ _ (Ne.symm hN), rm_u_ne _ _ (Ne.symm hN)]
  · rw [rm_u_ne _ _ hN, rm_u_eq, rm_u_eq, rm_u_eq, rm_u_eq]
    exact ⟨rfl, rfl, rfl, rfl⟩
theorem e_patch {X9 : rj_X} {cb vv vk : Nat} {c c0 : rm_R} {σ : rj_H} {s : Int → Int} {ad : Nat → Int → Nat} {pt w sn : Int} (hR : rc_R X9 cb vv vk c σ s ad) (hI : sp_I s) (h16 : s 1 < 6) (e : (∀ k : Nat, k ≠ 1 → k ≠ 4 + (s 1).toNat → c0 k = c k) ∧ c0 1 = rj_up (c 1) 3 (s 1 + 1) ∧ c0 (4 + (s 1).toNat) 0 = pt / 100 ∧ c0 (4 + (s 1).toNat) 1 = pt % 100 ∧ c0 (4 + (s 1).toNat) 2 = w ∧ c0 (4 + (s 1).toNat) 3 = sn) : rc_R X9 cb vv vk c0 σ (sp_patU s pt w sn) ad := by
  obtain ⟨⟨h0, h1, h2, h3, h4, h5, h6, h7⟩, hM, hP, hW, hL, hV⟩ := id hI
  obtain ⟨v1, v2, v3, v4⟩ := id hV
  obtain ⟨r1, r2, ⟨g1, g2, g3, g4, g5, g6, g7⟩, r4⟩ := hR
  obtain ⟨ec, ec1, e0, e1, e2, e3⟩ := e
  have E : ∀ j : Int, j ≠ 1 → (j < 172 ∨ 196 ≤ j) → sp_patU s pt w sn j = s j := fun j a b => by
    unfold sp_patU
    rw [rj_up_ne _ _ a, rj_up_ne _ _ (by omega), rj_up_ne _ _ (by omega), rj_up_ne _ _ (by omega), rj_up_ne _ _ (by omega)]
  have E1 : sp_patU s pt w sn 1 = s 1 + 1 := by unfold sp_patU; exact rj_up_eq _ _ _
  have Ex : ∀ j : Int, j ≠ 1 → j ≠ 172 + s 1 → j ≠ 178 + s 1 → j ≠ 184 + s 1 → j ≠ 190 + s 1 → sp_patU s pt w sn j = s j := fun j a b c d f => by
    unfold sp_patU
    rw [rj_up_ne _ _ a, rj_up_ne _ _ f, rj_up_ne _ _ d, rj_up_ne _ _ c, rj_up_ne _ _ b]
  refine ⟨r1, r2, ⟨?_, rg_mir g2 h0.2 (E 0 (by omega) (by omega)) (fun j a b => E j (by omega) (by omega)) (ec 2 (by omega) (by omega)), ?_, rg_wal g4 h2.2 (E 2 (by omega) (by omega)) (fun j a b => E j (by omega) (by omega)) (ec 10 (by omega) (by omega)), rg_tap g5 h6.2 (E 6 (by omega) (by omega)) (fun j a b => E j (by omega) (by omega)) (ec 11 (by omega) (by omega)), rg_pln g6 (fun j a b => E j (by omega) (by omega)) (fun k a b => ec k (by omega) (by omega)), rg_ahd g7 h5 (E 5 (by omega) (by omega)) (E 8 (by omega) (by omega)) (fun j a b => E j (by omega) (by omega)) (fun k a b => ec k (by omega) (by omega))⟩, rg_vy r4 h7 v1 (E 7 (by omega) (by omega)) (fun j a b => E j (by omega) (by omega))⟩
  · rw [ec1, E 0 (by omega) (by omega), E1, E 2 (by omega) (by omega), E 6 (by omega) (by omega), E 3 (by omega) (by omega), E 4 (by omega) (by omega), E 5 (by omega) (by omega), E 8 (by omega) (by omega)]
    obtain ⟨b1, b2, b3, b4, b5, b6, b7, b8, b9⟩ := g1
    exact ⟨by rw [rj_up_ne _ _ (by decide)]; exact b1, rj_up_eq _ _ _, by rw [rj_up_ne _ _ (by decide)]; exact b3, by rw [rj_up_ne _ _ (by decide)]; exact b4, by rw [rj_up_ne _ _ (by decide)]; exact b5, by rw [rj_up_ne _ _ (by decide)]; exact b6, by rw [rj_up_ne _ _ (by decide)]; exact b7, by rw [rj_up_ne _ _ (by decide)]; exact b8, by rw [rj_up_ne _ _ (by decide)]; exact b9⟩
  · intro p p0 p1 p2
    rw [E1] at p1
    by_cases hp : p = s 1
    · subst hp
      rw [show 1 + (3 + (s 1).toNat) = 4 + (s 1).toNat by omega, e0, e1, e2, e3]
      unfold sp_patU
      refine ⟨?_, ?_, ?_, ?_⟩
      · rw [rj_up_ne _ _ (by omega), rj_up_ne _ _ (by omega), rj_up_ne _ _ (by omega), rj_up_ne _ _ (by omega), rj_up_eq]
      · rw [rj_up_ne _ _ (by omega), rj_up_ne _ _ (by omega), rj_up_ne _ _ (by omega), rj_up_eq]
      · rw [rj_up_ne _ _ (by omega), rj_up_ne _ _ (by omega), rj_up_eq]
      · rw [rj_up_ne _ _ (by omega), rj_up_eq]
    · rw [ec _ (by omega) (by omega), Ex (172 + p) (by omega) (by omega) (by omega) (by omega) (by omega), Ex (178 + p) (by omega) (by omega) (by omega) (by omega) (by omega), Ex (184 + p) (by omega) (by omega) (by omega) (by omega) (by omega), Ex (190 + p) (by omega) (by omega) (by omega) (by omega) (by omega)]
      exact g3 p p0 (by omega) p2
set_option maxRecDepth 20000 in
/-- x_patch -/
theorem x_patch {X9 : rj_X} {σ : rj_H} {d cb vv vk : Nat} {c : rm_R} {pt w sn : Int} (hd : 1 ≤ d) (hpt : -2147483648 ≤ pt ∧ pt < 2147483648) (hw : -2147483648 ≤ w ∧ w < 2147483648) (hsn : -2147483648 ≤ sn ∧ sn < 2147483648) {s : Int → Int} {ad : Nat → Int → Nat} (hR : rc_R X9 cb vv vk c σ s ad) (hI : sp_I s) : rj_Cl X9 d yX11_patch cX11_patch 6 (some .int) [.ref cb, rj_i pt, rj_i w, rj_i sn] (rc_p X9 cb vv vk c σ) (fun w9 τ => w9 = some (rj_i (sp_patF s pt w sn)) ∧ rc_E X9 cb vv vk c σ ad (sp_patS s pt w sn) τ) := by
  obtain ⟨⟨h0, h1, h2, h3, h4, h5, h6, h7⟩, hM, hP, hW, hL, hV⟩ := id hI
  obtain ⟨v1, v2, v3, v4⟩ := id hV
  refine go_call (by decide +kernel) (Nat.le_of_ble_eq_true rfl) ?_
  refine go_eq (pc' := 0) (lv' := [(0, .ref cb), (1, rj_i pt), (2, rj_i w), (3, rj_i sn)]) (st' := []) rfl rfl rfl rfl ?_
  refine go_iload_n dX11_patch_0 rfl 1 rfl ?_
  refine go_callS (d1 := d - 1) wSX11_53 rfl (by omega) (x_point (a := pt) (by omega)) rfl (Nat.le_of_ble_eq_true rfl) dX11_patch_1 (fun w σ1 hP9 => ?_)
  obtain ⟨rfl, rfl⟩ := hP9
  refine go_if_eqB (tgt := 27) dX11_patch_4 (by decide) (fun c_4 => ?_) (fun c_4 => ?_)
  · refine go_bipush (v := Int32.ofInt (-2)) dX11_patch_27 (by decide) ?_
    refine go_retI rfl rfl ?_ dX11_patch_29
    exact ⟨rj_vi (by unfold sp_patF; (repeat' split) <;> omega), c, (by unfold sp_patS; rw [if_neg (by omega)]; exact hR), rc_kp.rf, rfl⟩
  · refine go_iload_n dX11_patch_7 rfl 2 rfl ?_
    refine go_iconst (v := Int32.ofInt 0) dX11_patch_8 rfl ?_
    refine go_bipush (v := Int32.ofInt 20) dX11_patch_9 (by decide) ?_
    refine go_callS (d1 := d - 1) wSX11_72 rfl (by omega) (x_within (v := w) (lo := 0) (hi := 20) (by omega) (by omega) (by omega)) rfl (Nat.le_of_ble_eq_true rfl) dX11_patch_11 (fun w σ1 hP9 => ?_)
    obtain ⟨rfl, rfl⟩ := hP9
    refine go_if_eqB (tgt := 27) dX11_patch_14 (by decide) (fun c_14 => ?_) (fun c_14 => ?_)
    · refine go_bipush (v := Int32.ofInt (-2)) dX11_patch_27 (by decide) ?_
      refine go_retI rfl rfl ?_ dX11_patch_29
      exact ⟨rj_vi (by unfold sp_patF; (repeat' split) <;> omega), c, (by unfold sp_patS; rw [if_neg (by omega)]; exact hR), rc_kp.rf, rfl⟩
    · refine go_iload_n dX11_patch_17 rfl 3 rfl ?_
      refine go_iconst (v := Int32.ofInt 0) dX11_patch_18 rfl ?_
      refine go_bipush (v := Int32.ofInt 20) dX11_patch_19 (by decide) ?_
      refine go_callS (d1 := d - 1) wSX11_72 rfl (by omega) (x_within (v := sn) (lo := 0) (hi := 20) (by omega) (by omega) (by omega)) rfl (Nat.le_of_ble_eq_true rfl) dX11_patch_21 (fun w σ1 hP9 => ?_)
      obtain ⟨rfl, rfl⟩ := hP9
      refine go_if_neB (tgt := 30) dX11_patch_24 (by decide) (fun c_24 => ?_) (fun c_24 => ?_)
      · refine go_aload_n dX11_patch_30 rfl 0 rfl ?_
        refine rc_gx hR.V (k := 0) (by decide) fX11_12 rfl dX11_patch_31 ?_
        refine rc_gs hR.V (k := 3) (v := rj_i (s 1)) (by decide) fX11_76 (rj_vi hR.n1) dX11_patch_34 ?_
        refine go_bipush (v := Int32.ofInt 6) dX11_patch_37 (by decide) ?_
        refine go_icmp_ltI (tgt := 45) (by omega) (by omega) dX11_patch_39 (by decide) (fun c_39 => ?_) (fun c_39 => ?_)
        · refine go_aload_n dX11_patch_45 rfl 0 rfl ?_
          refine rc_gx hR.V (k := 0) (by decide) fX11_12 rfl dX11_patch_46 ?_
          refine rc_gs hR.V (k := 3) (v := rj_i (s 1)) (by decide) fX11_76 (rj_vi hR.n1) dX11_patch_49 ?_
          refine go_istoreS (lv' := [(0, .ref cb), (1, rj_i pt), (2, rj_i w), (3, rj_i sn), (4, rj_i (s 1))]) (by decide) rfl dX11_patch_52 ?_
          refine go_aload_n dX11_patch_54 rfl 0 rfl ?_
          refine rc_gx hR.V (k := 0) (by decide) fX11_12 rfl dX11_patch_55 ?_
          refine rc_gs hR.V (k := 2) (v := .ref (cb + 3)) (by decide) fX11_79 rfl dX11_patch_58 ?_
          refine go_iload dX11_patch_61 4 rfl ?_
          refine rc_r4 hR.V (z := s 1) (by omega) (by omega) dX11_patch_63 ?_
          refine go_astoreS (lv' := [(0, .ref cb), (1, rj_i pt), (2, rj_i w), (3, rj_i sn), (4, rj_i (s 1)), (5, .ref (cb + (4 + (s 1).toNat)))]) (by decide) rfl dX11_patch_64 ?_
          refine go_aload dX11_patch_66 5 rfl ?_
          refine go_iconst (v := Int32.ofInt 0) dX11_patch_68 rfl ?_
          refine go_iload_n dX11_patch_69 rfl 1 rfl ?_
          refine go_bipush (v := Int32.ofInt 100) dX11_patch_70 (by decide) ?_
          refine go_divI (by omega) (by omega) dX11_patch_72 ?_
          refine rc_s4 hR.V (i := (s 1)) (by omega) (by omega) (by omega) (by omega) dX11_patch_73 ?_
          obtain ⟨c1, e1⟩ : ∃ x_, x_ = (rm_u c (4 + (s 1).toNat) (rj_up (c (4 + (s 1).toNat)) 0 (pt / 100))) := ⟨_, rfl⟩
          rw [← e1]
          have q1_1 : c1 1 = (c 1) := by rw [e1]; exact (show (rm_u c (4 + (s 1).toNat) (rj_up (c (4 + (s 1).toNat)) 0 (pt / 100))) 1 = (c 1) from ((rm_u_ne _ _ (by omega)).trans (show c 1 = (c 1) from rfl)))
          have hk1 : rc_kp c c1 := by rw [e1]; exact (rc_kp.rf.tr (rc_kp.u (by omega)))
          refine go_aload dX11_patch_74 5 rfl ?_
          refine go_iconst (v := Int32.ofInt 1) dX11_patch_76 rfl ?_
          refine go_iload_n dX11_patch_77 rfl 1 rfl ?_
          refine go_bipush (v := Int32.ofInt 100) dX11_patch_78 (by decide) ?_
          refine go_remI (by omega) (by omega) dX11_patch_80 ?_
          refine rc_s4 hR.V (i := (s 1)) (by omega) (by omega) (by omega) (by omega) dX11_patch_81 ?_
          obtain ⟨c2, e2⟩ : ∃ x_, x_ = (rm_u c1 (4 + (s 1).toNat) (rj_up (c1 (4 + (s 1).toNat)) 1 (pt % 100))) := ⟨_, rfl⟩
          rw [← e2]
          have q2_1 : c2 1 = (c 1) := by rw [e2]; exact (show (rm_u c1 (4 + (s 1).toNat) (rj_up (c1 (4 + (s 1).toNat)) 1 (pt % 100))) 1 = (c 1) from ((rm_u_ne _ _ (by omega)).trans (show c1 1 = (c 1) from q1_1)))
          have hk2 : rc_kp c c2 := by rw [e2]; exact (hk1.tr (rc_kp.u (by omega)))
          refine go_aload dX11_patch_82 5 rfl ?_
          refine go_iconst (v := Int32.ofInt 2) dX11_patch_84 rfl ?_
          refine go_iload_n dX11_patch_85 rfl 2 rfl ?_
          refine rc_s4 hR.V (i := (s 1)) (by omega) (by omega) (by omega) (by omega) dX11_patch_86 ?_
          obtain ⟨c3, e3⟩ : ∃ x_, x_ = (rm_u c2 (4 + (s 1).toNat) (rj_up (c2 (4 + (s 1).toNat)) 2 w)) := ⟨_, rfl⟩
          rw [← e3]
          have q3_1 : c3 1 = (c 1) := by rw [e3]; exact (show (rm_u c2 (4 + (s 1).toNat) (rj_up (c2 (4 + (s 1).toNat)) 2 w)) 1 = (c 1) from ((rm_u_ne _ _ (by omega)).trans (show c2 1 = (c 1) from q2_1)))
          have hk3 : rc_kp c c3 := by rw [e3]; exact (hk2.tr (rc_kp.u (by omega)))
          refine go_aload dX11_patch_87 5 rfl ?_
          refine go_iconst (v := Int32.ofInt 3) dX11_patch_89 rfl ?_
          refine go_iload_n dX11_patch_90 rfl 3 rfl ?_
          refine rc_s4 hR.V (i := (s 1)) (by omega) (by omega) (by omega) (by omega) dX11_patch_91 ?_
          obtain ⟨c4, e4⟩ : ∃ x_, x_ = (rm_u c3 (4 + (s 1).toNat) (rj_up (c3 (4 + (s 1).toNat)) 3 sn)) := ⟨_, rfl⟩
          rw [← e4]
          have q4_1 : c4 1 = (c 1) := by rw [e4]; exact (show (rm_u c3 (4 + (s 1).toNat) (rj_up (c3 (4 + (s 1).toNat)) 3 sn)) 1 = (c 1) from ((rm_u_ne _ _ (by omega)).trans (show c3 1 = (c 1) from q3_1)))
          have hk4 : rc_kp c c4 := by rw [e4]; exact (hk3.tr (rc_kp.u (by omega)))
          refine go_aload_n dX11_patch_92 rfl 0 rfl ?_
          refine rc_gx hR.V (k := 0) (by decide) fX11_12 rfl dX11_patch_93 ?_
          refine go_dup dX11_patch_96 rfl ?_
          refine rc_gs hR.V (k := 3) (by decide) fX11_76 rfl dX11_patch_97 ?_
          rw [show c4 1 = (c 1) from q4_1]
          rw [show c 1 3 = s 1 from hR.n1]
          refine go_iconst (v := Int32.ofInt 1) dX11_patch_100 rfl ?_
          refine go_addI dX11_patch_101 ?_
          refine rc_ps3 hR.V fX11_76 dX11_patch_102 ?_
          obtain ⟨c5, e5⟩ : ∃ x_, x_ = (rm_u c4 1 (rj_up (c4 1) 3 ((s 1) + 1))) := ⟨_, rfl⟩
          rw [← e5]
          have q5_1 : c5 1 = (rj_up (c 1) 3 ((s 1) + 1)) := by rw [e5]; exact (show (rm_u c4 1 (rj_up (c4 1) 3 ((s 1) + 1))) 1 = (rj_up (c 1) 3 ((s 1) + 1)) from (congrArg (fun zz => rj_up zz 3 ((s 1) + 1)) (show c4 1 = (c 1) from q4_1)))
          have hk5 : rc_kp c c5 := by rw [e5]; exact (hk4.tr (rc_kp.u (by omega)))
          refine go_iload dX11_patch_105 4 rfl ?_
          refine go_retI rfl rfl ?_ dX11_patch_107
          exact ⟨rj_vi (by unfold sp_patF; (repeat' split) <;> omega), _, (by unfold sp_patS; rw [if_pos (by omega)]; exact e_patch hR hI (by omega) (rg_4 e1 e2 e3 e4 e5 (by omega))), hk5, rfl⟩
        · refine go_bipush (v := Int32.ofInt (-4)) dX11_patch_42 (by decide) ?_
          refine go_retI rfl rfl ?_ dX11_patch_44
          exact ⟨rj_vi (by unfold sp_patF; (repeat' split) <;> omega), c, (by unfold sp_patS; rw [if_neg (by omega)]; exact hR), rc_kp.rf, rfl⟩
      · refine go_bipush (v := Int32.ofInt (-2)) dX11_patch_27 (by decide) ?_
        refine go_retI rfl rfl ?_ dX11_patch_29
        exact ⟨rj_vi (by unfold sp_patF; (repeat' split) <;> omega), c, (by unfold sp_patS; rw [if_neg (by omega)]; exact hR), rc_kp.rf, rfl⟩
theorem e_clear {X9 : rj_X} {cb vv vk : Nat} {c c0 : rm_R} {σ : rj_H} {s : Int → Int} {ad : Nat → Int → Nat} (hR : rc_R X9 cb vv vk c σ s ad) (hI : sp_I s) (ec : ∀ k : Nat, k ≠ 1 → (k < 26 ∨ 32 ≤ k) → c0 k = c k) (ec1 : c0 1 = rj_up (c 1) 13 0) (ez : ∀ k : Nat, 26 ≤ k → k < 32 → ∀ e : Int, 0 ≤ e → e < 6 → c0 k e = 0) : rc_R X9 cb vv vk c0 σ (rj_up s 5 0) ad := by
  obtain ⟨⟨h0, h1, h2, h3, h4, h5, h6, h7⟩, hM, hP, hW, hL, hV⟩ := id hI
  obtain ⟨v1, v2, v3, v4⟩ := id hV
  obtain ⟨r1, r2, ⟨g1, g2, g3, g4, g5, g6, g7⟩, r4⟩ := hR
  have E : ∀ j : Int, j ≠ 5 → rj_up s 5 0 j = s j := fun j a => rj_up_ne _ _ a
  refine ⟨r1, r2, ⟨?_, rg_mir g2 h0.2 (E 0 (by omega)) (fun j a b => E j (by omega)) (ec 2 (by omega) (by omega)), rg_pat g3 (E 1 (by omega)) (fun j a b => E j (by omega)) (fun k a b => ec k (by omega) (by omega)), rg_wal g4 h2.2 (E 2 (by omega)) (fun j a b => E j (by omega)) (ec 10 (by omega) (by omega)), rg_tap g5 h6.2 (E 6 (by omega)) (fun j a b => E j (by omega)) (ec 11 (by omega) (by omega)), rg_pln g6 (fun j a b => E j (by omega)) (fun k a b => ec k (by omega) (by omega)), ?_⟩, rg_vy r4 h7 v1 (E 7 (by omega)) (fun j a b => E j (by omega))⟩
  · rw [ec1, E 0 (by omega), E 1 (by omega), E 2 (by omega), E 6 (by omega), E 3 (by omega), E 4 (by omega), show rj_up s 5 0 5 = 0 from rj_up_eq _ _ _, E 8 (by omega)]
    obtain ⟨b1, b2, b3, b4, b5, b6, b7, b8, b9⟩ := g1
    exact ⟨by rw [rj_up_ne _ _ (by decide)]; exact b1, by rw [rj_up_ne _ _ (by decide)]; exact b2, by rw [rj_up_ne _ _ (by decide)]; exact b3, by rw [rj_up_ne _ _ (by decide)]; exact b4, by rw [rj_up_ne _ _ (by decide)]; exact b5, by rw [rj_up_ne _ _ (by decide)]; exact b6, by rw [rj_up_ne _ _ (by decide)]; exact b7, rj_up_eq _ _ _, by rw [rj_up_ne _ _ (by decide)]; exact b9⟩
  · intro a e a0 a1 e0 e1 hh
    rw [ez _ (by omega) (by omega) e e0 e1]
    unfold sp_vn
    rw [rj_up_eq]; rfl
set_option maxRecDepth 20000 in
/-- x_clear -/
theorem x_clear {X9 : rj_X} {σ : rj_H} {d cb vv vk : Nat} {c : rm_R} (hd : 1 ≤ d) {s : Int → Int} {ad : Nat → Int → Nat} (hR : rc_R X9 cb vv vk c σ s ad) (hI : sp_I s) : rj_Cl X9 d yX11_clear cX11_clear 3 (some .int) [.ref cb] (rc_p X9 cb vv vk c σ) (fun w9 τ => w9 = some (rj_i (s 5)) ∧ rc_E X9 cb vv vk c σ ad (rj_up s 5 0) τ) := by
  obtain ⟨⟨h0, h1, h2, h3, h4, h5, h6, h7⟩, hM, hP, hW, hL, hV⟩ := id hI
  obtain ⟨v1, v2, v3, v4⟩ := id hV
  refine go_call (by decide +kernel) (Nat.le_of_ble_eq_true rfl) ?_
  refine go_eq (pc' := 0) (lv' := [(0, .ref cb)]) (st' := []) rfl rfl rfl rfl ?_
  refine go_aload_n dX11_clear_0 rfl 0 rfl ?_
  refine rc_gx hR.V (k := 0) (by decide) fX11_12 rfl dX11_clear_1 ?_
  refine rc_gs hR.V (k := 13) (v := rj_i (s 5)) (by decide) fX11_240 (rj_vi hR.n5) dX11_clear_4 ?_
  refine go_istore_nS (lv' := [(0, .ref cb), (1, rj_i (s 5))]) rfl (by decide) rfl dX11_clear_7 ?_
  refine go_aload_n dX11_clear_8 rfl 0 rfl ?_
  refine rc_gx hR.V (k := 0) (by decide) fX11_12 rfl dX11_clear_9 ?_
  refine go_iconst (v := Int32.ofInt 0) dX11_clear_12 rfl ?_
  refine rc_ps13 hR.V fX11_240 dX11_clear_13 ?_
  refine go_iconst (v := Int32.ofInt 0) dX11_clear_16 rfl ?_
  refine go_istore_nS (lv' := [(0, .ref cb), (1, rj_i (s 5)), (2, rj_i 0)]) rfl (by decide) rfl dX11_clear_17 ?_
  have loopx : ∀ (nx : Nat) (k : Nat) (cl : rm_R), k + nx = 6 → cl 1 = rj_up (c 1) 13 0 → rc_kp c cl → (∀ j : Nat, j ≠ 1 → (j < 26 ∨ 32 ≤ j) → cl j = c j) → (∀ j : Nat, 26 ≤ j → j < 26 + k → ∀ e : Int, 0 ≤ e → e < 6 → cl j e = 0) → rj_Go X9 yX11_clear cX11_clear 3 (some .int) d (fun w9 τ => w9 = some (rj_i (s 5)) ∧ rc_E X9 cb vv vk c σ ad (rj_up s 5 0) τ) 18 [(0, .ref cb), (1, rj_i (s 5)), (2, rj_i (k : Int))] [] (rc_p X9 cb vv vk cl σ) := by
    intro nx
    induction nx with
    | zero =>
      intro k cl hk h1l hkl hol hzl
      refine go_iload_n dX11_clear_18 rfl 2 rfl ?_
      refine go_bipush (v := Int32.ofInt 6) dX11_clear_19 (by decide) ?_
      refine go_icmp_geI (tgt := 43) (by omega) (by omega) dX11_clear_21 (by decide) (fun c_21 => ?_) (fun c_21 => ?_)
      · refine go_iload_n dX11_clear_43 rfl 1 rfl ?_
        refine go_retI rfl rfl ?_ dX11_clear_44
        exact ⟨rfl, cl, e_clear hR hI hol h1l (fun j a b => hzl j a (by omega)), hkl, rfl⟩
      · exact absurd c_21 (by omega)
    | succ nx ihx =>
      intro k cl hk h1l hkl hol hzl
      refine go_iload_n dX11_clear_18 rfl 2 rfl ?_
      refine go_bipush (v := Int32.ofInt 6) dX11_clear_19 (by decide) ?_
      refine go_icmp_geI (tgt := 43) (by omega) (by omega) dX11_clear_21 (by decide) (fun c_21 => ?_) (fun c_21 => ?_)
      · exact absurd c_21 (by omega)
      · refine go_aload_n dX11_clear_24 rfl 0 rfl ?_
        refine rc_gx hR.V (k := 0) (by decide) fX11_12 rfl dX11_clear_25 ?_
        refine rc_gs hR.V (k := 12) (v := .ref (cb + 25)) (by decide) fX11_243 rfl dX11_clear_28 ?_
        refine go_iload_n dX11_clear_31 rfl 2 rfl ?_
        refine rc_r26 hR.V (z := (k : Int)) (by omega) (by omega) dX11_clear_32 ?_
        refine go_iconst (v := Int32.ofInt 0) dX11_clear_33 rfl ?_
        refine go_callS (d1 := d - 1) wSX11_249 rfl (by omega) (x_fill (n := 26 + (k : Int).toNat) (L := 6) hR.V (rc_k26 (X9 := X9) (cb := cb) _ (by omega)).1 (rc_k26 _ (by omega)).2 (by decide) (by omega)) rfl (Nat.le_of_ble_eq_true rfl) dX11_clear_34 (fun w σ1 hP9 => ?_)
        obtain ⟨rfl, rfl⟩ := hP9
        refine go_iincI (a := (k : Int)) (n := 1) (k0 := 2) (lv' := [(0, .ref cb), (1, rj_i (s 5)), (2, rj_i ((k : Int) + 1))]) rfl (by decide) rfl dX11_clear_37 ?_
        refine go_goto (tgt := 18) dX11_clear_40 (by decide) ?_
        exact go_eq rfl (lv' := [(0, .ref cb), (1, rj_i (s 5)), (2, rj_i ((k + 1 : Nat) : Int))]) (rj_lk (rj_lk (rj_lj (by omega) rfl))) rfl rfl (ihx (k + 1) (rm_u cl (26 + (k : Int).toNat) (rj_fl ((6 : Nat) : Int) 0 (cl (26 + (k : Int).toNat)))) (by omega) (show (rm_u cl (26 + (k : Int).toNat) (rj_fl ((6 : Nat) : Int) 0 (cl (26 + (k : Int).toNat)))) 1 = (rj_up (c 1) 13 0) from ((rm_u_ne _ _ (by omega)).trans (show cl 1 = (rj_up (c 1) 13 0) from h1l))) (hkl.tr (rc_kp.u (by omega))) (fun j a b => by rw [rm_u_ne _ _ (by omega)]; exact hol j a b) (fun j a b e e0 e1 => by by_cases hj : j = 26 + (k : Int).toNat; (· subst hj; rw [rm_u_eq]; unfold rj_fl; rw [if_pos (by omega)]); (· rw [rm_u_ne _ _ hj]; exact hzl j a (by omega) e e0 e1)))
  exact go_eq rfl (lv' := [(0, .ref cb), (1, rj_i (s 5)), (2, rj_i ((0 : Nat) : Int))]) (rj_lk (rj_lk (rj_lj (rfl) rfl))) rfl rfl (loopx 6 0 (rm_u c 1 (rj_up (c 1) 13 0)) (by omega) (show (rm_u c 1 (rj_up (c 1) 13 0)) 1 = (rj_up (c 1) 13 0) from (congrArg (fun zz => rj_up zz 13 0) (show c 1 = (c 1) from rfl))) (rc_kp.rf.tr (rc_kp.u (by omega))) (fun j a b => rm_u_ne _ _ a) (fun j a b => by omega))
