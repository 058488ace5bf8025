/-! THE CLASS: act, passed -/
/-- the current scene's relation reads the cells below 32 -/
theorem rc_R.b {X9 : rj_X} {cb vv vk : Nat} {c c' : rm_R} {σ : rj_H} {s : Int → Int} {ad : Nat → Int → Nat} (h : rc_R X9 cb vv vk c σ s ad) (k : rc_t 32 c c') : rc_R X9 cb vv vk c' σ s ad := by
  obtain ⟨h1, h2, ⟨g1, g2, g3, g4, g5, g6, g7⟩, h4⟩ := h
  refine ⟨h1, h2, ⟨by rw [k 1 (by omega)]; exact g1, fun m a e => by rw [k _ (by omega)]; exact g2 m a e, fun p a e f => by rw [k _ (by omega)]; exact g3 p a e f, fun w a e => by rw [k _ (by omega)]; exact g4 w a e, fun j a e => by rw [k _ (by omega)]; exact g5 j a e, fun m q a e f g => by rw [k _ (by omega)]; exact g6 m q a e f g, fun a e f g i j l => by rw [k _ (by omega)]; exact g7 a e f g i j l⟩, h4⟩
theorem rc_tr_t {c : rm_R} {b : Int → Int} {n : Int} : rc_t 63 c (rc_tr c b n) := fun k h => rc_tr_o (by omega) (by omega)
set_option maxRecDepth 20000 in
/-- x_act -/
theorem x_act {X9 : rj_X} {σ : rj_H} {d cb vv vk : Nat} {c : rm_R} {m a x : Int} (hd : 12 ≤ d) (hm : -2147483648 ≤ m ∧ m < 2147483648) (ha : -2147483648 ≤ a ∧ a < 2147483648) (hx : -2147483648 ≤ x ∧ x < 2147483648) {s : Int → Int} {ad : Nat → Int → Nat} (hR : rc_R X9 cb vv vk c σ s ad) (hI : sp_I s) : rj_Cl X9 d yX11_act cX11_act 5 (some .int) [.ref cb, rj_i m, rj_i a, rj_i x] (rc_p X9 cb vv vk c σ) (fun w9 τ => w9 = some (rj_i (sp_actA s m a x (c 64)).1) ∧ τ = rc_p X9 cb vv vk (rc_tr c (sp_actA s m a x (c 64)).2.1 (sp_actA s m a x (c 64)).2.2) σ) := by
  obtain ⟨⟨h0, h1, h2, h3, h4, h5, h6, h7⟩, hM, hP, hW, hL, hV⟩ := id hI
  obtain ⟨v1, v2, v3, v4⟩ := id hV
  have hR2 : rc_R X9 cb vv vk (rc_tr c (c 64) 0) σ s ad := hR.b (rc_tr_t.le (by decide))
  refine go_call (by decide +kernel) (Nat.le_of_ble_eq_true rfl) ?_
  refine go_eq (pc' := 0) (lv' := [(0, .ref cb), (1, rj_i m), (2, rj_i a), (3, rj_i x)]) (st' := []) rfl rfl rfl rfl ?_
  refine go_aload_n dX11_act_0 rfl 0 rfl ?_
  refine rc_gx hR.V (k := 3) (by decide) fX11_28 rfl dX11_act_1 ?_
  refine go_callV (d1 := d - 1) wVX11_267 kX7 (rc_a63 hR.V) rfl (by omega) (x_begin hR.V) rfl (Nat.le_of_ble_eq_true rfl) dX11_act_4 (fun w σ1 hP9 => ?_)
  obtain ⟨rfl, rfl⟩ := hP9
  refine go_aload_n dX11_act_7 rfl 0 rfl ?_
  refine rc_gx hR2.V (k := 0) (by decide) fX11_12 rfl dX11_act_8 ?_
  refine go_iload_n dX11_act_11 rfl 1 rfl ?_
  by_cases hm : 0 ≤ m ∧ m < s 0
  · refine go_callV (d1 := d - 1) wVX11_94 kX5 (rc_a1 hR2.V) rfl (by omega) (x_mirrorAt_y (m := m) (by omega) hR2 hI hm) rfl (Nat.le_of_ble_eq_true rfl) dX11_act_12 (fun w σ1 hP9 => ?_)
    obtain ⟨rfl, rfl⟩ := hP9
    refine go_astoreS (lv' := [(0, .ref cb), (1, rj_i m), (2, rj_i a), (3, rj_i x), (4, .ref (ad 0 m))]) (by decide) rfl dX11_act_15 ?_
    refine go_aload dX11_act_17 4 rfl ?_
    refine go_ifnonnull (tgt := 24) dX11_act_19 (by decide) ?_
    refine go_iload_n dX11_act_24 rfl 2 rfl ?_
    rcases (show a = 0 ∨ a = 1 ∨ a = 2 ∨ (a < 0 ∨ 2 < a) by omega) with rfl | rfl | rfl | hw2
    · refine go_tableIn (off := 27) (tgt := 52) dX11_act_25 (by decide) (by decide) (by decide) (by decide) ?_
      refine go_aload dX11_act_52 4 rfl ?_
      refine go_iload_n dX11_act_54 rfl 3 rfl ?_
      refine go_aload_n dX11_act_55 rfl 0 rfl ?_
      refine rc_gx hR2.V (k := 3) (by decide) fX11_28 rfl dX11_act_56 ?_
      refine rv_actc (m := m) (x := x) (b := c 64) (n := 0) (hR.mir m (by omega) (by omega)).2 (hM m (by omega) (by omega)).1 (by omega) hR.V (by omega) (by decide) dX11_act_59 ?_
      refine go_retI rfl rfl ?_ dX11_act_62
      have e9 : sp_actA s m 0 x (c 64) = (sp_ca (s (130 + m)) m x (c 64) 0) := by unfold sp_actA; rw [if_pos (by omega), if_pos rfl]
      rw [e9]
      exact ⟨rfl, rfl⟩
    · refine go_tableIn (off := 38) (tgt := 63) dX11_act_25 (by decide) (by decide) (by decide) (by decide) ?_
      refine go_aload dX11_act_63 4 rfl ?_
      refine go_iload_n dX11_act_65 rfl 3 rfl ?_
      refine go_aload_n dX11_act_66 rfl 0 rfl ?_
      refine rc_gx hR2.V (k := 3) (by decide) fX11_28 rfl dX11_act_67 ?_
      refine rv_actt (m := m) (x := x) (b := c 64) (n := 0) (hR.mir m (by omega) (by omega)).2 (hM m (by omega) (by omega)).1 (by omega) hR.V (by omega) (by decide) dX11_act_70 ?_
      refine go_retI rfl rfl ?_ dX11_act_73
      have e9 : sp_actA s m 1 x (c 64) = (sp_tu (s (130 + m)) m (s (166 + m)) x (c 64) 0) := by unfold sp_actA; rw [if_pos (by omega), if_neg (by omega), if_pos rfl]
      rw [e9]
      exact ⟨rfl, rfl⟩
    · refine go_tableIn (off := 49) (tgt := 74) dX11_act_25 (by decide) (by decide) (by decide) (by decide) ?_
      refine go_aload dX11_act_74 4 rfl ?_
      refine go_iload_n dX11_act_76 rfl 3 rfl ?_
      refine go_aload_n dX11_act_77 rfl 0 rfl ?_
      refine rc_gx hR2.V (k := 3) (by decide) fX11_28 rfl dX11_act_78 ?_
      refine rv_actl (m := m) (x := x) (b := c 64) (n := 0) (hR.mir m (by omega) (by omega)).2 (hM m (by omega) (by omega)).1 (by omega) hR.V (by omega) (by decide) dX11_act_81 ?_
      refine go_retI rfl rfl ?_ dX11_act_84
      have e9 : sp_actA s m 2 x (c 64) = (sp_te (s (130 + m)) m (s (166 + m)) x (c 64) 0) := by unfold sp_actA; rw [if_pos (by omega), if_neg (by omega), if_neg (by omega)]
      rw [e9]
      exact ⟨rfl, rfl⟩
    · refine go_tableOut (tgt := 85) dX11_act_25 (by rw [rj_ti (by omega) (by omega)]; exact hw2) (by decide) ?_
      refine go_iconst (v := Int32.ofInt 0) dX11_act_85 rfl ?_
      refine go_retI rfl rfl ?_ dX11_act_86
      have e9 : sp_actA s m a x (c 64) = ((0, c 64, 0) : sp_A) := by unfold sp_actA; rw [if_neg (by omega)]
      rw [e9]
      exact ⟨rfl, rfl⟩
  · refine go_callV (d1 := d - 1) wVX11_94 kX5 (rc_a1 hR2.V) rfl (by omega) (x_mirrorAt_n0 (m := m) (by omega) (by omega) hR2 hI hm) rfl (Nat.le_of_ble_eq_true rfl) dX11_act_12 (fun w σ1 hP9 => ?_)
    obtain ⟨rfl, rfl⟩ := hP9
    refine go_astoreSN (lv' := [(0, .ref cb), (1, rj_i m), (2, rj_i a), (3, rj_i x), (4, .null)]) (by decide) rfl dX11_act_15 ?_
    refine go_aloadN dX11_act_17 4 rfl ?_
    refine go_ifnonnullN dX11_act_19 ?_
    refine go_iconst (v := Int32.ofInt 0) dX11_act_22 rfl ?_
    refine go_retI rfl rfl ?_ dX11_act_23
    have e9 : sp_actA s m a x (c 64) = ((0, c 64, 0) : sp_A) := by unfold sp_actA; rw [if_neg (by omega)]
    rw [e9]
    exact ⟨rfl, rfl⟩
