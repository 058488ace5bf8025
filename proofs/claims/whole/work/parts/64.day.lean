/-! THE CLASS: day -/
theorem e_snow {X9 : rj_X} {cb vv vk : Nat} {c : rm_R} {σ : rj_H} {s : Int → Int} {ad : Nat → Int → Nat} {p v : Int} (hR : rc_R X9 cb vv vk c σ s ad) (hI : sp_I s) (hp : 0 ≤ p ∧ p < 6) : rc_R X9 cb vv vk (rm_u c (4 + p.toNat) (rj_up (c (4 + p.toNat)) 3 v)) σ (rj_up s (190 + p) v) ad := by
  obtain ⟨⟨h0, h1, h2, h3, h4, h5, h6, h7⟩, hM, hP, hW, hL, hV⟩ := id hI
  obtain ⟨v1, v2, v3, v4⟩ := id hV
  obtain ⟨r1, r2, ⟨g1, g2, g3, g4, g5, g6, g7⟩, r4⟩ := hR
  have E : ∀ j : Int, (j < 190 ∨ 196 ≤ j) → rj_up s (190 + p) v j = s j := fun j a => rj_up_ne _ _ (by omega)
  have ec : ∀ k : Nat, k < 4 ∨ 10 ≤ k → rm_u c (4 + p.toNat) (rj_up (c (4 + p.toNat)) 3 v) k = c k := fun k a => rm_u_ne _ _ (by omega)
  refine ⟨r1, r2, ⟨?_, rg_mir g2 h0.2 (E 0 (by omega)) (fun j a b => E j (by omega)) (ec 2 (by omega)), ?_, rg_wal g4 h2.2 (E 2 (by omega)) (fun j a b => E j (by omega)) (ec 10 (by omega)), rg_tap g5 h6.2 (E 6 (by omega)) (fun j a b => E j (by omega)) (ec 11 (by omega)), rg_pln g6 (fun j a b => E j (by omega)) (fun k a b => ec k (by omega)), rg_ahd g7 h5 (E 5 (by omega)) (E 8 (by omega)) (fun j a b => E j (by omega)) (fun k a b => ec k (by omega))⟩, rg_vy r4 h7 v1 (E 7 (by omega)) (fun j a b => E j (by omega))⟩
  · rw [ec 1 (by omega), E 0 (by omega), E 1 (by omega), E 2 (by omega), E 6 (by omega), E 3 (by omega), E 4 (by omega), E 5 (by omega), E 8 (by omega)]; exact g1
  · intro p' p0 p1 p2
    rw [E 1 (by omega)] at p1
    by_cases hpp : p' = p
    · subst hpp
      have g := g3 p' p0 p1 p2
      rw [show 1 + (3 + p'.toNat) = 4 + p'.toNat by omega] at g ⊢
      rw [rm_u_eq, E (172 + p') (by omega), E (178 + p') (by omega), E (184 + p') (by omega)]
      exact ⟨by rw [rj_up_ne _ _ (by decide)]; exact g.1, by rw [rj_up_ne _ _ (by decide)]; exact g.2.1, by rw [rj_up_ne _ _ (by decide)]; exact g.2.2.1, by rw [rj_up_eq, rj_up_eq]⟩
    · rw [rm_u_ne _ _ (by omega), rj_up_ne s _ (show 172 + p' ≠ 190 + p by omega), rj_up_ne s _ (show 178 + p' ≠ 190 + p by omega), rj_up_ne s _ (show 184 + p' ≠ 190 + p by omega), rj_up_ne s _ (show 190 + p' ≠ 190 + p by omega)]
      exact g3 p' p0 p1 p2
theorem e_today {X9 : rj_X} {cb vv vk : Nat} {c : rm_R} {σ : rj_H} {s : Int → Int} {ad : Nat → Int → Nat} {v : Int} (hR : rc_R X9 cb vv vk c σ s ad) (hI : sp_I s) : rc_R X9 cb vv vk (rm_u c 1 (rj_up (c 1) 11 v)) σ (rj_up s 4 v) ad := by
  obtain ⟨⟨h0, h1, h2, h3, h4, h5, h6, h7⟩, hM, hP, hW, hL, hV⟩ := id hI
  obtain ⟨v1, v2, v3, v4⟩ := id hV
  obtain ⟨r1, r2, ⟨g1, g2, g3, g4, g5, g6, g7⟩, r4⟩ := hR
  have E : ∀ j : Int, j ≠ 4 → rj_up s 4 v j = s j := fun j a => rj_up_ne _ _ a
  have ec : ∀ k : Nat, k ≠ 1 → rm_u c 1 (rj_up (c 1) 11 v) k = c k := fun k a => rm_u_ne _ _ a
  refine ⟨r1, r2, ⟨?_, rg_mir g2 h0.2 (E 0 (by omega)) (fun j a b => E j (by omega)) (ec 2 (by omega)), rg_pat g3 (E 1 (by omega)) (fun j a b => E j (by omega)) (fun k a b => ec k (by omega)), rg_wal g4 h2.2 (E 2 (by omega)) (fun j a b => E j (by omega)) (ec 10 (by omega)), rg_tap g5 h6.2 (E 6 (by omega)) (fun j a b => E j (by omega)) (ec 11 (by omega)), rg_pln g6 (fun j a b => E j (by omega)) (fun k a b => ec k (by omega)), rg_ahd g7 h5 (E 5 (by omega)) (E 8 (by omega)) (fun j a b => E j (by omega)) (fun k a b => ec k (by omega))⟩, rg_vy r4 h7 v1 (E 7 (by omega)) (fun j a b => E j (by omega))⟩
  · rw [rm_u_eq, E 0 (by omega), E 1 (by omega), E 2 (by omega), E 6 (by omega), E 3 (by omega), show rj_up s 4 v 4 = v from rj_up_eq _ _ _, E 5 (by omega), E 8 (by omega)]
    obtain ⟨b1, b2, b3, b4, b5, b6, b7, b8, b9⟩ := g1
    exact ⟨by rw [rj_up_ne _ _ (by decide)]; exact b1, by rw [rj_up_ne _ _ (by decide)]; exact b2, by rw [rj_up_ne _ _ (by decide)]; exact b3, by rw [rj_up_ne _ _ (by decide)]; exact b4, by rw [rj_up_ne _ _ (by decide)]; exact b5, by rw [rj_up_ne _ _ (by decide)]; exact b6, rj_up_eq _ _ _, by rw [rj_up_ne _ _ (by decide)]; exact b8, by rw [rj_up_ne _ _ (by decide)]; exact b9⟩
set_option maxRecDepth 20000 in
/-- x_day -/
theorem x_day {X9 : rj_X} {σ : rj_H} {d cb vv vk : Nat} {c : rm_R} (hd : 8 ≤ d) {s : Int → Int} {ad : Nat → Int → Nat} (hR : rc_R X9 cb vv vk c σ s ad) (hI : sp_I s) : rj_Cl X9 d yX11_day cX11_day 3 (some .int) [.ref cb] (rc_p X9 cb vv vk c σ) (fun w9 τ => w9 = some (rj_i (sp_dayF s)) ∧ rc_E X9 cb vv vk c σ ad (sp_dayS s) τ) := by
  obtain ⟨⟨h0, h1, h2, h3, h4, h5, h6, h7⟩, hM, hP, hW, hL, hV⟩ := id hI
  obtain ⟨v1, v2, v3, v4⟩ := id hV
  refine go_call (by decide +kernel) (Nat.le_of_ble_eq_true rfl) ?_
  refine go_eq (pc' := 0) (lv' := [(0, .ref cb)]) (st' := []) rfl rfl rfl rfl ?_
  refine go_aload_n dX11_day_0 rfl 0 rfl ?_
  refine rc_gx hR.V (k := 0) (by decide) fX11_12 rfl dX11_day_1 ?_
  refine rc_gs hR.V (k := 11) (v := rj_i (s 4)) (by decide) fX11_136 (rj_vi hR.n4) dX11_day_4 ?_
  refine go_bipush (v := Int32.ofInt 89) dX11_day_7 (by decide) ?_
  refine go_icmp_ltI (tgt := 15) (by omega) (by omega) dX11_day_9 (by decide) (fun c_9 => ?_) (fun c_9 => ?_)
  · refine go_iconst (v := Int32.ofInt 0) dX11_day_15 rfl ?_
    refine go_istore_nS (lv' := [(0, .ref cb), (1, rj_i 0)]) rfl (by decide) rfl dX11_day_16 ?_
    obtain ⟨P9x, hP9x⟩ : ∃ Q : Option Value → rj_H → Prop, Q = (fun w9 τ => w9 = some (rj_i (sp_dayF s)) ∧ rc_E X9 cb vv vk c σ ad (sp_dayS s) τ) := ⟨_, rfl⟩
    rw [← hP9x]
    have hfin : ∀ (c1 : rm_R) (s1 : Int → Int), rc_kp c c1 → rc_R X9 cb vv vk c1 σ (rj_up s1 4 (s 4 + 1)) ad → s1 = sp_dayK s (s 1).toNat → P9x (some (rj_i (s 4 + 1))) (rc_p X9 cb vv vk c1 σ) := fun c1 s1 k1 k2 k3 => by subst k3; rw [hP9x]; exact ⟨rj_vi (by unfold sp_dayF; rw [if_neg (by omega)]), c1, (by unfold sp_dayS; rw [if_neg (by omega)]; exact k2), k1, rfl⟩
    obtain ⟨s0, hs0⟩ : ∃ s0, s0 = s := ⟨s, rfl⟩
    obtain ⟨c9, hc9⟩ : ∃ c9, c9 = c := ⟨c, rfl⟩
    rw [← hs0, ← hc9] at hfin
    have hI0 := hI
    rw [← hs0] at hI0
    have loopx : ∀ (nx : Nat) (k : Nat) (s : Int → Int) (c : rm_R), k + nx = (s0 1).toNat → s = sp_dayK s0 k → s 1 = s0 1 → s 4 = s0 4 → sp_I s → rc_R X9 cb vv vk c σ s ad → rc_kp c9 c → rj_Go X9 yX11_day cX11_day 3 (some .int) d P9x 17 [(0, .ref cb), (1, rj_i (k : Int))] [] (rc_p X9 cb vv vk c σ) := by
      intro nx
      induction nx with
      | zero =>
        intro k s c hk hk1 k3 k4 hI hR hkp
        obtain ⟨⟨h0, h1, h2, h3, h4, h5, h6, h7⟩, hM, hP, hW, hL, hV⟩ := id hI
        refine go_iload_n dX11_day_17 rfl 1 rfl ?_
        refine go_aload_n dX11_day_18 rfl 0 rfl ?_
        refine rc_gx hR.V (k := 0) (by decide) fX11_12 rfl dX11_day_19 ?_
        refine rc_gs hR.V (k := 3) (v := rj_i (s 1)) (by decide) fX11_76 (rj_vi hR.n1) dX11_day_22 ?_
        refine go_icmp_geI (tgt := 65) (by omega) (by omega) dX11_day_25 (by decide) (fun c_25 => ?_) (fun c_25 => ?_)
        · refine go_aload_n dX11_day_65 rfl 0 rfl ?_
          refine rc_gx hR.V (k := 0) (by decide) fX11_12 rfl dX11_day_66 ?_
          refine go_dup dX11_day_69 rfl ?_
          refine rc_gs hR.V (k := 11) (v := rj_i (s 4)) (by decide) fX11_136 (rj_vi hR.n4) dX11_day_70 ?_
          refine go_iconst (v := Int32.ofInt 1) dX11_day_73 rfl ?_
          refine go_addI dX11_day_74 ?_
          refine rc_ps11 hR.V fX11_136 dX11_day_75 ?_
          refine go_aload_n dX11_day_78 rfl 0 rfl ?_
          refine rc_gx hR.V (k := 0) (by decide) fX11_12 rfl dX11_day_79 ?_
          refine rc_gs hR.V (k := 11) (by decide) fX11_136 rfl dX11_day_82 ?_
          rw [show (rm_u c 1 (rj_up (c 1) 11 ((s 4) + 1))) 1 = (rj_up (c 1) 11 ((s 4) + 1)) from rfl]
          rw [show (rj_up (c 1) 11 ((s 4) + 1)) 11 = s 4 + 1 from rj_up_eq _ _ _]
          refine go_retI rfl rfl ?_ dX11_day_85
          exact (by rw [show s 4 = s0 4 from k4]; exact hfin _ s (hkp.tr (rc_kp.u (by omega))) (e_today hR hI) (by rw [hk1, show k = (s0 1).toNat by omega]))
        · exact absurd c_25 (by omega)
      | succ nx ihx =>
        intro k s c hk hk1 k3 k4 hI hR hkp
        obtain ⟨⟨h0, h1, h2, h3, h4, h5, h6, h7⟩, hM, hP, hW, hL, hV⟩ := id hI
        obtain ⟨v1, v2, v3, v4⟩ := id hV
        obtain ⟨p1, p2, p3, p4⟩ := hP (k : Int) (by omega) (by omega)
        have hag := sp_dayK_ag hI0 (k + 1) (by omega)
        refine go_iload_n dX11_day_17 rfl 1 rfl ?_
        refine go_aload_n dX11_day_18 rfl 0 rfl ?_
        refine rc_gx hR.V (k := 0) (by decide) fX11_12 rfl dX11_day_19 ?_
        refine rc_gs hR.V (k := 3) (v := rj_i (s 1)) (by decide) fX11_76 (rj_vi hR.n1) dX11_day_22 ?_
        refine go_icmp_geI (tgt := 65) (by omega) (by omega) dX11_day_25 (by decide) (fun c_25 => ?_) (fun c_25 => ?_)
        · exact absurd c_25 (by omega)
        · refine go_aload_n dX11_day_28 rfl 0 rfl ?_
          refine rc_gx hR.V (k := 0) (by decide) fX11_12 rfl dX11_day_29 ?_
          refine rc_gs hR.V (k := 2) (v := .ref (cb + 3)) (by decide) fX11_79 rfl dX11_day_32 ?_
          refine go_iload_n dX11_day_35 rfl 1 rfl ?_
          refine rc_r4 hR.V (z := (k : Int)) (by omega) (by omega) dX11_day_36 ?_
          refine go_astore_nS (lv' := [(0, .ref cb), (1, rj_i (k : Int)), (2, .ref (cb + (4 + (k : Int).toNat)))]) rfl (by decide) rfl dX11_day_37 ?_
          refine go_aload_n dX11_day_38 rfl 2 rfl ?_
          refine go_iconst (v := Int32.ofInt 3) dX11_day_39 rfl ?_
          refine go_aload_n dX11_day_40 rfl 0 rfl ?_
          refine rc_gx hR.V (k := 0) (by decide) fX11_12 rfl dX11_day_41 ?_
          refine go_iload_n dX11_day_44 rfl 1 rfl ?_
          refine go_aload_n dX11_day_45 rfl 2 rfl ?_
          refine go_iconst (v := Int32.ofInt 3) dX11_day_46 rfl ?_
          refine rc_ip3 hR (p := (k : Int)) (by omega) (by omega) h1 dX11_day_47 ?_
          refine go_aload_n dX11_day_48 rfl 0 rfl ?_
          refine rc_gx hR.V (k := 0) (by decide) fX11_12 rfl dX11_day_49 ?_
          refine rc_gs hR.V (k := 11) (v := rj_i (s 4)) (by decide) fX11_136 (rj_vi hR.n4) dX11_day_52 ?_
          refine go_callV (d1 := d - 1) wVX11_221 kX5 (rc_a1 hR.V) rfl (by omega) (x_snow (p := (k : Int)) (sn := s (190 + (k : Int))) (D := s 4) (by omega) hR hI (by omega) (by omega) (by omega)) rfl (Nat.le_of_ble_eq_true rfl) dX11_day_55 (fun w σ1 hP9 => ?_)
          obtain ⟨rfl, c21, hc21, rfl⟩ := hP9
          have hr21 : rc_t 65 c c21 := (hc21.le (by decide))
          refine rc_s4 (hR.t hr21).V (i := (k : Int)) (by omega) (by omega) (by omega) (by omega) dX11_day_58 ?_
          refine go_iincI (a := (k : Int)) (n := 1) (k0 := 1) (lv' := [(0, .ref cb), (1, rj_i ((k : Int) + 1)), (2, .ref (cb + (4 + (k : Int).toNat)))]) rfl (by decide) rfl dX11_day_59 ?_
          refine go_goto (tgt := 17) dX11_day_62 (by decide) ?_
          have hnew : sp_dayK s0 (k + 1) = rj_up s (190 + (k : Int)) (if s (190 + (k : Int)) - sp_sunny s (s0 4) (k : Int) < 0 then 0 else s (190 + (k : Int)) - sp_sunny s (s0 4) (k : Int)) := by rw [sp_dayK, ← hk1]
          rw [sp_sunnyL h0 hM, k4, show (if 0 < s (190 + (k : Int)) - sp_sunny s (s0 4) (k : Int) then s (190 + (k : Int)) - sp_sunny s (s0 4) (k : Int) else 0) = (if s (190 + (k : Int)) - sp_sunny s (s0 4) (k : Int) < 0 then 0 else s (190 + (k : Int)) - sp_sunny s (s0 4) (k : Int)) from by (repeat' split) <;> omega]
          refine go_sub (lv' := [(0, .ref cb), (1, rj_i ((k : Int) + 1))]) (by intro q hq; simp only [List.mem_cons, List.not_mem_nil, or_false] at hq ⊢; rcases hq with rfl | rfl <;> simp) ?_
          exact go_eq rfl (lv' := [(0, .ref cb), (1, rj_i ((k + 1 : Nat) : Int))]) (rj_lk (rj_lj (by omega) rfl)) rfl rfl (ihx (k + 1) _ _ (by omega) hnew.symm (by rw [rj_up_ne _ _ (by omega)]; exact k3) (by rw [rj_up_ne _ _ (by omega)]; exact k4) (by rw [← hnew]; exact hag.2) (e_snow (hR.t hr21) hI (by omega)) (hkp.tr ((rc_kp.t hr21).tr (rc_kp.u (by omega)))))
    exact go_eq rfl (lv' := [(0, .ref cb), (1, rj_i ((0 : Nat) : Int))]) (rj_lk (rj_lj (rfl) rfl)) rfl rfl (loopx (s0 1).toNat 0 s c (by omega) hs0.symm (by rw [hs0]) (by rw [hs0]) hI hR (by rw [hc9]; exact rc_kp.rf))
  · refine go_bipush (v := Int32.ofInt (-3)) dX11_day_12 (by decide) ?_
    refine go_retI rfl rfl ?_ dX11_day_14
    exact ⟨rj_vi (by unfold sp_dayF; rw [if_pos (by omega)]), c, (by unfold sp_dayS; rw [if_pos (by omega)]; exact hR), rc_kp.rf, rfl⟩
