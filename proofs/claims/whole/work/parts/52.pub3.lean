/-! THE CLASS: has, worth, coarse, gone, passed, as, count, trace -/
set_option maxRecDepth 20000 in
/-- x_has -/
theorem x_has {X9 : rj_X} {σ : rj_H} {d cb vv vk : Nat} {c : rm_R} {p w : Int} (hd : 7 ≤ d) (hp : -2147483648 ≤ p ∧ p < 2147483648) (hw : -2147483648 ≤ w ∧ w < 2147483648) {s : Int → Int} {ad : Nat → Int → Nat} (hR : rc_R X9 cb vv vk c σ s ad) (hI : sp_I s) : rj_Cl X9 d yX11_has cX11_has 5 (some .int) [.ref cb, rj_i p, rj_i w] (rc_p X9 cb vv vk c σ) (fun w9 τ => w9 = some (rj_i (sp_hasF s p w)) ∧ ∃ c0, rc_t 92 c c0 ∧ τ = rc_p X9 cb vv vk c0 σ) := by
  obtain ⟨⟨h0, h1, h2, h3, h4, h5, h6, h7⟩, hM, hP, hW, hL, hV⟩ := id hI
  obtain ⟨v1, v2, v3, v4⟩ := id hV
  refine go_call (by decide +kernel) (Nat.le_of_ble_eq_true rfl) ?_
  refine go_eq (pc' := 0) (lv' := [(0, .ref cb), (1, rj_i p), (2, rj_i w)]) (st' := []) rfl rfl rfl rfl ?_
  refine go_aload_n dX11_has_0 rfl 0 rfl ?_
  refine rc_gx hR.V (k := 0) (by decide) fX11_12 rfl dX11_has_1 ?_
  refine go_iload_n dX11_has_4 rfl 1 rfl ?_
  refine go_callV (d1 := d - 1) wVX11_104 kX5 (rc_a1 hR.V) rfl (by omega) (x_hasPatch (p := p) (by omega) hR hI) rfl (Nat.le_of_ble_eq_true rfl) dX11_has_5 (fun w σ1 hP9 => ?_)
  obtain ⟨rfl, rfl⟩ := hP9
  refine go_if_eqB (tgt := 20) dX11_has_8 (by decide) (fun c_8 => ?_) (fun c_8 => ?_)
  · refine go_iconst (v := Int32.ofInt (-1)) dX11_has_20 rfl ?_
    refine go_retI rfl rfl ?_ dX11_has_21
    exact ⟨rj_vi (by unfold sp_hasF; rw [if_neg (by omega)]), c, rc_t.rf, rfl⟩
  · refine go_iload_n dX11_has_11 rfl 2 rfl ?_
    refine go_if_ltI (tgt := 20) (by omega) dX11_has_12 (by decide) (fun c_12 => ?_) (fun c_12 => ?_)
    · refine go_iconst (v := Int32.ofInt (-1)) dX11_has_20 rfl ?_
      refine go_retI rfl rfl ?_ dX11_has_21
      exact ⟨rj_vi (by unfold sp_hasF; rw [if_neg (by omega)]), c, rc_t.rf, rfl⟩
    · refine go_iload_n dX11_has_15 rfl 2 rfl ?_
      refine go_iconst (v := Int32.ofInt 2) dX11_has_16 rfl ?_
      refine go_icmp_leI (tgt := 22) (by omega) (by omega) dX11_has_17 (by decide) (fun c_17 => ?_) (fun c_17 => ?_)
      · refine go_iload_n dX11_has_22 rfl 2 rfl ?_
        refine go_if_neI (tgt := 35) (by omega) dX11_has_23 (by decide) (fun c_23 => ?_) (fun c_23 => ?_)
        · refine go_aload_n dX11_has_35 rfl 0 rfl ?_
          refine rc_gx hR.V (k := 0) (by decide) fX11_12 rfl dX11_has_36 ?_
          refine go_iload_n dX11_has_39 rfl 1 rfl ?_
          refine go_aload_n dX11_has_40 rfl 0 rfl ?_
          refine rc_gx hR.V (k := 0) (by decide) fX11_12 rfl dX11_has_41 ?_
          refine rc_gs hR.V (k := 11) (v := rj_i (s 4)) (by decide) fX11_136 (rj_vi hR.n4) dX11_has_44 ?_
          refine go_callV (d1 := d - 1) wVX11_158 kX5 (rc_a1 hR.V) rfl (by omega) (x_own (p := p) (D := s 4) (by omega) hR hI (by omega) (by omega)) rfl (Nat.le_of_ble_eq_true rfl) dX11_has_47 (fun w σ1 hP9 => ?_)
          obtain ⟨rfl, c1, hc1, rfl⟩ := hP9
          have hr1 : rc_t 92 c c1 := hc1
          refine go_istore_nS (lv' := [(0, .ref cb), (1, rj_i p), (2, rj_i w), (3, rj_i (sp_bits (fun q7 => sp_so s (s 4) (-13) 99 p q7) 8))]) rfl (by decide) rfl dX11_has_50 ?_
          refine go_iload_n dX11_has_51 rfl 2 rfl ?_
          refine go_iconst (v := Int32.ofInt 2) dX11_has_52 rfl ?_
          refine go_icmp_neI (tgt := 58) (by omega) (by omega) dX11_has_53 (by decide) (fun c_53 => ?_) (fun c_53 => ?_)
          · refine go_iload_n dX11_has_58 rfl 3 rfl ?_
            refine go_aload_n dX11_has_59 rfl 0 rfl ?_
            refine rc_gx (hR.t (hr1.le (by decide))).V (k := 0) (by decide) fX11_12 rfl dX11_has_60 ?_
            refine go_iload_n dX11_has_63 rfl 1 rfl ?_
            refine go_aload_n dX11_has_64 rfl 0 rfl ?_
            refine rc_gx (hR.t (hr1.le (by decide))).V (k := 0) (by decide) fX11_12 rfl dX11_has_65 ?_
            refine rc_gs (hR.t (hr1.le (by decide))).V (k := 11) (v := rj_i (s 4)) (by decide) fX11_136 (rj_vi (hR.t (hr1.le (by decide))).n4) dX11_has_68 ?_
            refine go_callV (d1 := d - 1) wVX11_162 kX5 (rc_a1 (hR.t (hr1.le (by decide))).V) rfl (by omega) (x_lightQ (p := p) (D := s 4) (by omega) (hR.t (hr1.le (by decide))) hI (by omega) (by omega)) rfl (Nat.le_of_ble_eq_true rfl) dX11_has_71 (fun w σ1 hP9 => ?_)
            obtain ⟨rfl, c2, hc2, rfl⟩ := hP9
            have hr2 : rc_t 92 c c2 := hr1.tr hc2
            refine go_orM (fun q7 => sp_so s (s 4) (-13) 99 p q7) (fun q7 => sp_any s (s 4) p q7 (s 0).toNat) 8 dX11_has_74 ?_
            refine go_istoreS (lv' := [(0, .ref cb), (1, rj_i p), (2, rj_i w), (3, rj_i (sp_bits (fun q7 => sp_so s (s 4) (-13) 99 p q7) 8)), (4, rj_i (sp_bits (fun q8 => (fun q7 => sp_so s (s 4) (-13) 99 p q7) q8 || (fun q7 => sp_any s (s 4) p q7 (s 0).toNat) q8) 8))]) (by decide) rfl dX11_has_75 ?_
            refine go_sipush (v := Int32.ofInt 255) dX11_has_77 (by decide) ?_
            refine go_iload dX11_has_80 4 rfl ?_
            refine go_iconst (v := Int32.ofInt (-1)) dX11_has_82 rfl ?_
            refine go_xorm dX11_has_83 ?_
            refine go_255nM (fun q8 => (fun q7 => sp_so s (s 4) (-13) 99 p q7) q8 || (fun q7 => sp_any s (s 4) p q7 (s 0).toNat) q8) dX11_has_84 ?_
            refine go_retI rfl rfl ?_ dX11_has_85
            exact ⟨rj_vi (by unfold sp_hasF; rw [if_pos (by omega), if_neg (by omega)]; exact sp_bits_ext (fun q _ _ => by unfold sp_hasB; show (!(sp_so s (s 4) (-13) 99 p q || sp_any s (s 4) p q (s 0).toNat)) = _; rw [if_neg (by omega), sp_anyL h0 hM]; have hl := sp_lat_n (s := s) (D := s 4) (p := p) (q := q) h0 hM; rw [show decide (sp_lat s (s 4) p q = 0) = !decide (0 < sp_lat s (s 4) p q) from by rw [← decide_not]; exact decide_eq_decide.mpr (by omega), Bool.not_or])), c2, hr2, rfl⟩
          · refine go_iload_n dX11_has_56 rfl 3 rfl ?_
            refine go_retI rfl rfl ?_ dX11_has_57
            exact ⟨rj_vi (by unfold sp_hasF; rw [if_pos (by omega), if_neg (by omega)]; exact sp_bits_ext (fun q _ _ => by unfold sp_hasB; rw [if_pos (by omega)])), c1, hr1, rfl⟩
        · refine go_aload_n dX11_has_26 rfl 0 rfl ?_
          refine rc_gx hR.V (k := 0) (by decide) fX11_12 rfl dX11_has_27 ?_
          refine go_iload_n dX11_has_30 rfl 1 rfl ?_
          refine go_callV (d1 := d - 1) wVX11_155 kX5 (rc_a1 hR.V) rfl (by omega) (x_lightOf (p := p) (by omega) hR hI (by omega)) rfl (Nat.le_of_ble_eq_true rfl) dX11_has_31 (fun w σ1 hP9 => ?_)
          obtain ⟨rfl, c1, hc1, rfl⟩ := hP9
          have hr1 : rc_t 92 c c1 := hc1
          refine go_retI rfl rfl ?_ dX11_has_34
          exact ⟨rj_vi (by unfold sp_hasF; rw [if_pos (by omega), if_pos (by omega), sp_has_lo]), c1, hr1, rfl⟩
      · refine go_iconst (v := Int32.ofInt (-1)) dX11_has_20 rfl ?_
        refine go_retI rfl rfl ?_ dX11_has_21
        exact ⟨rj_vi (by unfold sp_hasF; rw [if_neg (by omega)]), c, rc_t.rf, rfl⟩
set_option maxRecDepth 20000 in
/-- x_planWorth -/
theorem x_planWorth {X9 : rj_X} {σ : rj_H} {d cb vv vk : Nat} {c : rm_R} (hd : 7 ≤ d) {s : Int → Int} {ad : Nat → Int → Nat} (hR : rc_R X9 cb vv vk c σ s ad) (hI : sp_I s) : rj_Cl X9 d yX11_planWorth cX11_planWorth 3 (some .int) [.ref cb] (rc_p X9 cb vv vk c σ) (fun w9 τ => w9 = some (rj_i (sp_sum (sp_wv s (s 4)) (s 1).toNat)) ∧ ∃ c0, rc_t 92 c c0 ∧ τ = rc_p X9 cb vv vk c0 σ) := by
  obtain ⟨⟨h0, h1, h2, h3, h4, h5, h6, h7⟩, hM, hP, hW, hL, hV⟩ := id hI
  obtain ⟨v1, v2, v3, v4⟩ := id hV
  refine go_call (by decide +kernel) (Nat.le_of_ble_eq_true rfl) ?_
  refine go_eq (pc' := 0) (lv' := [(0, .ref cb)]) (st' := []) rfl rfl rfl rfl ?_
  refine go_iconst (v := Int32.ofInt 0) dX11_planWorth_0 rfl ?_
  refine go_istore_nS (lv' := [(0, .ref cb), (1, rj_i 0)]) rfl (by decide) rfl dX11_planWorth_1 ?_
  refine go_iconst (v := Int32.ofInt 0) dX11_planWorth_2 rfl ?_
  refine go_istore_nS (lv' := [(0, .ref cb), (1, rj_i 0), (2, rj_i 0)]) rfl (by decide) rfl dX11_planWorth_3 ?_
  have loop : ∀ (n2 k : Nat) (cl : rm_R), k + n2 = (s 1).toNat → rc_t 92 c cl → rj_Go X9 yX11_planWorth cX11_planWorth 3 (some .int) d (fun w9 τ => w9 = some (rj_i (sp_sum (sp_wv s (s 4)) (s 1).toNat)) ∧ ∃ c0, rc_t 92 c c0 ∧ τ = rc_p X9 cb vv vk c0 σ) 4 [(0, .ref cb), (1, rj_i (sp_sum (sp_wv s (s 4)) k)), (2, rj_i (k : Int))] [] (rc_p X9 cb vv vk cl σ) := by
    intro n2
    induction n2 with
    | zero =>
      intro k cl hk hl
      refine go_iload_n dX11_planWorth_4 rfl 2 rfl ?_
      refine go_aload_n dX11_planWorth_5 rfl 0 rfl ?_
      refine rc_gx (hR.t (hl.le (by decide))).V (k := 0) (by decide) fX11_12 rfl dX11_planWorth_6 ?_
      refine rc_gs (hR.t (hl.le (by decide))).V (k := 3) (v := rj_i (s 1)) (by decide) fX11_76 (rj_vi (hR.t (hl.le (by decide))).n1) dX11_planWorth_9 ?_
      refine go_icmp_geI (tgt := 44) (by omega) (by omega) dX11_planWorth_12 (by decide) (fun c_12 => ?_) (fun c_12 => ?_)
      · refine go_iload_n dX11_planWorth_44 rfl 1 rfl ?_
        refine go_retI rfl rfl ?_ dX11_planWorth_45
        exact ⟨rj_vi (by rw [show (s 1).toNat = k by omega]), cl, hl, rfl⟩
      · exact absurd c_12 (by omega)
    | succ n2 ih =>
      intro k cl hk hl
      refine go_iload_n dX11_planWorth_4 rfl 2 rfl ?_
      refine go_aload_n dX11_planWorth_5 rfl 0 rfl ?_
      refine rc_gx (hR.t (hl.le (by decide))).V (k := 0) (by decide) fX11_12 rfl dX11_planWorth_6 ?_
      refine rc_gs (hR.t (hl.le (by decide))).V (k := 3) (v := rj_i (s 1)) (by decide) fX11_76 (rj_vi (hR.t (hl.le (by decide))).n1) dX11_planWorth_9 ?_
      refine go_icmp_geI (tgt := 44) (by omega) (by omega) dX11_planWorth_12 (by decide) (fun c_12 => ?_) (fun c_12 => ?_)
      · exact absurd c_12 (by omega)
      · refine go_iload_n dX11_planWorth_15 rfl 1 rfl ?_
        refine go_aload_n dX11_planWorth_16 rfl 0 rfl ?_
        refine rc_gx (hR.t (hl.le (by decide))).V (k := 0) (by decide) fX11_12 rfl dX11_planWorth_17 ?_
        refine rc_gs (hR.t (hl.le (by decide))).V (k := 2) (v := .ref (cb + 3)) (by decide) fX11_79 rfl dX11_planWorth_20 ?_
        refine go_iload_n dX11_planWorth_23 rfl 2 rfl ?_
        refine rc_r4 (hR.t (hl.le (by decide))).V (z := (k : Int)) (by omega) (by omega) dX11_planWorth_24 ?_
        refine go_iconst (v := Int32.ofInt 2) dX11_planWorth_25 rfl ?_
        refine rc_ip2 (hR.t (hl.le (by decide))) (p := (k : Int)) (by omega) (by omega) h1 dX11_planWorth_26 ?_
        refine go_aload_n dX11_planWorth_27 rfl 0 rfl ?_
        refine rc_gx (hR.t (hl.le (by decide))).V (k := 0) (by decide) fX11_12 rfl dX11_planWorth_28 ?_
        refine go_iload_n dX11_planWorth_31 rfl 2 rfl ?_
        refine go_callV (d1 := d - 1) wVX11_155 kX5 (rc_a1 (hR.t (hl.le (by decide))).V) rfl (by omega) (x_lightOf (p := (k : Int)) (by omega) (hR.t (hl.le (by decide))) hI (by omega)) rfl (Nat.le_of_ble_eq_true rfl) dX11_planWorth_32 (fun w σ1 hP9 => ?_)
        obtain ⟨rfl, c21, hc21, rfl⟩ := hP9
        have hr21 : rc_t 92 c c21 := hl.tr hc21
        refine go_mulI dX11_planWorth_35 ?_
        refine go_addI dX11_planWorth_36 ?_
        refine go_istore_nS (lv' := [(0, .ref cb), (1, rj_i ((sp_sum (sp_wv s (s 4)) k) + ((s (184 + (k : Int))) * (sp_sum (sp_lo1 s (k : Int)) (s 0).toNat)))), (2, rj_i (k : Int))]) rfl (by decide) rfl dX11_planWorth_37 ?_
        refine go_iincI (a := (k : Int)) (n := 1) (k0 := 2) (lv' := [(0, .ref cb), (1, rj_i ((sp_sum (sp_wv s (s 4)) k) + ((s (184 + (k : Int))) * (sp_sum (sp_lo1 s (k : Int)) (s 0).toNat)))), (2, rj_i ((k : Int) + 1))]) rfl (by decide) rfl dX11_planWorth_38 ?_
        refine go_goto (tgt := 4) dX11_planWorth_41 (by decide) ?_
        exact go_eq rfl (lv' := [(0, .ref cb), (1, rj_i (sp_sum (sp_wv s (s 4)) (k + 1))), (2, rj_i ((k + 1 : Nat) : Int))]) (rj_lk (rj_lj (by rw [sp_sum]; unfold sp_wv; rw [sp_has_lo]) (rj_lj (by omega) rfl))) rfl rfl (ih (k + 1) c21 (by omega) hr21)
  exact go_eq rfl (lv' := [(0, .ref cb), (1, rj_i (sp_sum (sp_wv s (s 4)) 0)), (2, rj_i ((0 : Nat) : Int))]) (rj_lk (rj_lj (rfl) (rj_lj (rfl) rfl))) rfl rfl (loop (s 1).toNat 0 c (by omega) rc_t.rf)
def sp_cw (z : Int) : Int := if z = -5 then -1 else z
theorem sp_cw_b {z : Int} (h : -5 ≤ z) (h2 : z = -5 ∨ 0 ≤ z) : (sp_cw z < 0 ↔ z = -5) ∧ -1 ≤ sp_cw z ∧ (sp_cw z = -1 ∨ sp_cw z = z) := by unfold sp_cw; split <;> omega
set_option maxRecDepth 20000 in
/-- x_worstOff -/
theorem x_worstOff {X9 : rj_X} {σ : rj_H} {d cb vv vk : Nat} {c : rm_R} (hd : 7 ≤ d) {s : Int → Int} {ad : Nat → Int → Nat} (hR : rc_R X9 cb vv vk c σ s ad) (hI : sp_I s) : rj_Cl X9 d yX11_worstOff cX11_worstOff 5 (some .int) [.ref cb] (rc_p X9 cb vv vk c σ) (fun w9 τ => w9 = some (rj_i (sp_cw (sp_worst s (s 4)))) ∧ ∃ c0, rc_t 92 c c0 ∧ τ = rc_p X9 cb vv vk c0 σ) := by
  obtain ⟨⟨h0, h1, h2, h3, h4, h5, h6, h7⟩, hM, hP, hW, hL, hV⟩ := id hI
  obtain ⟨v1, v2, v3, v4⟩ := id hV
  refine go_call (by decide +kernel) (Nat.le_of_ble_eq_true rfl) ?_
  refine go_eq (pc' := 0) (lv' := [(0, .ref cb)]) (st' := []) rfl rfl rfl rfl ?_
  refine go_iconst (v := Int32.ofInt (-1)) dX11_worstOff_0 rfl ?_
  refine go_istore_nS (lv' := [(0, .ref cb), (1, rj_i (-1))]) rfl (by decide) rfl dX11_worstOff_1 ?_
  refine go_iconst (v := Int32.ofInt 0) dX11_worstOff_2 rfl ?_
  refine go_istore_nS (lv' := [(0, .ref cb), (1, rj_i (-1)), (2, rj_i 0)]) rfl (by decide) rfl dX11_worstOff_3 ?_
  refine go_iconst (v := Int32.ofInt 0) dX11_worstOff_4 rfl ?_
  refine go_istore_nS (lv' := [(0, .ref cb), (1, rj_i (-1)), (2, rj_i 0), (3, rj_i 0)]) rfl (by decide) rfl dX11_worstOff_5 ?_
  have loop : ∀ (n2 k : Nat) (cl : rm_R), k + n2 = (s 1).toNat → rc_t 92 c cl → rj_Go X9 yX11_worstOff cX11_worstOff 5 (some .int) d (fun w9 τ => w9 = some (rj_i (sp_cw (sp_worst s (s 4)))) ∧ ∃ c0, rc_t 92 c c0 ∧ τ = rc_p X9 cb vv vk c0 σ) 6 [(0, .ref cb), (1, rj_i (sp_cw (sp_wz s (s 4) k).1)), (2, rj_i ((sp_wz s (s 4) k).2)), (3, rj_i (k : Int))] [] (rc_p X9 cb vv vk cl σ) := by
    intro n2
    induction n2 with
    | zero =>
      intro k cl hk hl
      have wb := sp_wz_b (D := s 4) h0 hM k
      have cw := sp_cw_b (z := (sp_wz s (s 4) k).1) (by omega) (by omega)
      refine go_iload_n dX11_worstOff_6 rfl 3 rfl ?_
      refine go_aload_n dX11_worstOff_7 rfl 0 rfl ?_
      refine rc_gx (hR.t (hl.le (by decide))).V (k := 0) (by decide) fX11_12 rfl dX11_worstOff_8 ?_
      refine rc_gs (hR.t (hl.le (by decide))).V (k := 3) (v := rj_i (s 1)) (by decide) fX11_76 (rj_vi (hR.t (hl.le (by decide))).n1) dX11_worstOff_11 ?_
      refine go_icmp_geI (tgt := 48) (by omega) (by omega) dX11_worstOff_14 (by decide) (fun c_14 => ?_) (fun c_14 => ?_)
      · refine go_iload_n dX11_worstOff_48 rfl 1 rfl ?_
        refine go_retI rfl rfl ?_ dX11_worstOff_49
        exact ⟨rj_vi (by unfold sp_worst; rw [show (s 1).toNat = k by omega]), cl, hl, rfl⟩
      · exact absurd c_14 (by omega)
    | succ n2 ih =>
      intro k cl hk hl
      have wb := sp_wz_b (D := s 4) h0 hM k
      have cw := sp_cw_b (z := (sp_wz s (s 4) k).1) (by omega) (by omega)
      have hb := sp_has_b (D := s 4) (p := (k : Int)) h0 hM
      rw [sp_has_lo] at hb
      refine go_iload_n dX11_worstOff_6 rfl 3 rfl ?_
      refine go_aload_n dX11_worstOff_7 rfl 0 rfl ?_
      refine rc_gx (hR.t (hl.le (by decide))).V (k := 0) (by decide) fX11_12 rfl dX11_worstOff_8 ?_
      refine rc_gs (hR.t (hl.le (by decide))).V (k := 3) (v := rj_i (s 1)) (by decide) fX11_76 (rj_vi (hR.t (hl.le (by decide))).n1) dX11_worstOff_11 ?_
      refine go_icmp_geI (tgt := 48) (by omega) (by omega) dX11_worstOff_14 (by decide) (fun c_14 => ?_) (fun c_14 => ?_)
      · exact absurd c_14 (by omega)
      · refine go_aload_n dX11_worstOff_17 rfl 0 rfl ?_
        refine rc_gx (hR.t (hl.le (by decide))).V (k := 0) (by decide) fX11_12 rfl dX11_worstOff_18 ?_
        refine go_iload_n dX11_worstOff_21 rfl 3 rfl ?_
        refine go_callV (d1 := d - 1) wVX11_155 kX5 (rc_a1 (hR.t (hl.le (by decide))).V) rfl (by omega) (x_lightOf (p := (k : Int)) (by omega) (hR.t (hl.le (by decide))) hI (by omega)) rfl (Nat.le_of_ble_eq_true rfl) dX11_worstOff_22 (fun w σ1 hP9 => ?_)
        obtain ⟨rfl, c21, hc21, rfl⟩ := hP9
        have hr21 : rc_t 92 c c21 := hl.tr hc21
        refine go_istoreS (lv' := [(0, .ref cb), (1, rj_i (sp_cw (sp_wz s (s 4) k).1)), (2, rj_i ((sp_wz s (s 4) k).2)), (3, rj_i (k : Int)), (4, rj_i (sp_sum (sp_lo1 s (k : Int)) (s 0).toNat))]) (by decide) rfl dX11_worstOff_25 ?_
        refine go_iload_n dX11_worstOff_27 rfl 1 rfl ?_
        refine go_if_ltI (tgt := 37) (by omega) dX11_worstOff_28 (by decide) (fun c_28 => ?_) (fun c_28 => ?_)
        · refine go_iload dX11_worstOff_37 4 rfl ?_
          refine go_istore_nS (lv' := [(0, .ref cb), (1, rj_i (sp_cw (sp_wz s (s 4) k).1)), (2, rj_i (sp_sum (sp_lo1 s (k : Int)) (s 0).toNat)), (3, rj_i (k : Int)), (4, rj_i (sp_sum (sp_lo1 s (k : Int)) (s 0).toNat))]) rfl (by decide) rfl dX11_worstOff_39 ?_
          refine go_iload_n dX11_worstOff_40 rfl 3 rfl ?_
          refine go_istore_nS (lv' := [(0, .ref cb), (1, rj_i (k : Int)), (2, rj_i (sp_sum (sp_lo1 s (k : Int)) (s 0).toNat)), (3, rj_i (k : Int)), (4, rj_i (sp_sum (sp_lo1 s (k : Int)) (s 0).toNat))]) rfl (by decide) rfl dX11_worstOff_41 ?_
          refine go_iincI (a := (k : Int)) (n := 1) (k0 := 3) (lv' := [(0, .ref cb), (1, rj_i (k : Int)), (2, rj_i (sp_sum (sp_lo1 s (k : Int)) (s 0).toNat)), (3, rj_i ((k : Int) + 1)), (4, rj_i (sp_sum (sp_lo1 s (k : Int)) (s 0).toNat))]) rfl (by decide) rfl dX11_worstOff_42 ?_
          refine go_goto (tgt := 6) dX11_worstOff_45 (by decide) ?_
          refine go_sub (lv' := [(0, .ref cb), (1, rj_i (k : Int)), (2, rj_i (sp_sum (sp_lo1 s (k : Int)) (s 0).toNat)), (3, rj_i ((k : Int) + 1))]) (by intro q hq; simp only [List.mem_cons, List.not_mem_nil, or_false] at hq ⊢; rcases hq with rfl | rfl | rfl | rfl <;> simp) ?_
          exact go_eq rfl (lv' := [(0, .ref cb), (1, rj_i (sp_cw (sp_wz s (s 4) (k + 1)).1)), (2, rj_i ((sp_wz s (s 4) (k + 1)).2)), (3, rj_i ((k + 1 : Nat) : Int))]) (rj_lk (rj_lj (by rw [sp_wz, if_pos (by rw [sp_has_lo]; omega)]; show (k : Int) = sp_cw (k : Int); unfold sp_cw; rw [if_neg (by omega)]) (rj_lj (by rw [sp_wz, if_pos (by rw [sp_has_lo]; omega)]; exact (sp_has_lo s k).symm) (rj_lj (by omega) rfl)))) rfl rfl (ih (k + 1) c21 (by omega) hr21)
        · refine go_iload dX11_worstOff_31 4 rfl ?_
          refine go_iload_n dX11_worstOff_33 rfl 2 rfl ?_
          refine go_icmp_geI (tgt := 42) (by omega) (by omega) dX11_worstOff_34 (by decide) (fun c_34 => ?_) (fun c_34 => ?_)
          · refine go_iincI (a := (k : Int)) (n := 1) (k0 := 3) (lv' := [(0, .ref cb), (1, rj_i (sp_cw (sp_wz s (s 4) k).1)), (2, rj_i ((sp_wz s (s 4) k).2)), (3, rj_i ((k : Int) + 1)), (4, rj_i (sp_sum (sp_lo1 s (k : Int)) (s 0).toNat))]) rfl (by decide) rfl dX11_worstOff_42 ?_
            refine go_goto (tgt := 6) dX11_worstOff_45 (by decide) ?_
            refine go_sub (lv' := [(0, .ref cb), (1, rj_i (sp_cw (sp_wz s (s 4) k).1)), (2, rj_i ((sp_wz s (s 4) k).2)), (3, rj_i ((k : Int) + 1))]) (by intro q hq; simp only [List.mem_cons, List.not_mem_nil, or_false] at hq ⊢; rcases hq with rfl | rfl | rfl | rfl <;> simp) ?_
            exact go_eq rfl (lv' := [(0, .ref cb), (1, rj_i (sp_cw (sp_wz s (s 4) (k + 1)).1)), (2, rj_i ((sp_wz s (s 4) (k + 1)).2)), (3, rj_i ((k + 1 : Nat) : Int))]) (rj_lk (rj_lj (by rw [sp_wz, if_neg (by rw [sp_has_lo]; omega)]) (rj_lj (by rw [sp_wz, if_neg (by rw [sp_has_lo]; omega)]) (rj_lj (by omega) rfl)))) rfl rfl (ih (k + 1) c21 (by omega) hr21)
          · refine go_iload dX11_worstOff_37 4 rfl ?_
            refine go_istore_nS (lv' := [(0, .ref cb), (1, rj_i (sp_cw (sp_wz s (s 4) k).1)), (2, rj_i (sp_sum (sp_lo1 s (k : Int)) (s 0).toNat)), (3, rj_i (k : Int)), (4, rj_i (sp_sum (sp_lo1 s (k : Int)) (s 0).toNat))]) rfl (by decide) rfl dX11_worstOff_39 ?_
            refine go_iload_n dX11_worstOff_40 rfl 3 rfl ?_
            refine go_istore_nS (lv' := [(0, .ref cb), (1, rj_i (k : Int)), (2, rj_i (sp_sum (sp_lo1 s (k : Int)) (s 0).toNat)), (3, rj_i (k : Int)), (4, rj_i (sp_sum (sp_lo1 s (k : Int)) (s 0).toNat))]) rfl (by decide) rfl dX11_worstOff_41 ?_
            refine go_iincI (a := (k : Int)) (n := 1) (k0 := 3) (lv' := [(0, .ref cb), (1, rj_i (k : Int)), (2, rj_i (sp_sum (sp_lo1 s (k : Int)) (s 0).toNat)), (3, rj_i ((k : Int) + 1)), (4, rj_i (sp_sum (sp_lo1 s (k : Int)) (s 0).toNat))]) rfl (by decide) rfl dX11_worstOff_42 ?_
            refine go_goto (tgt := 6) dX11_worstOff_45 (by decide) ?_
            refine go_sub (lv' := [(0, .ref cb), (1, rj_i (k : Int)), (2, rj_i (sp_sum (sp_lo1 s (k : Int)) (s 0).toNat)), (3, rj_i ((k : Int) + 1))]) (by intro q hq; simp only [List.mem_cons, List.not_mem_nil, or_false] at hq ⊢; rcases hq with rfl | rfl | rfl | rfl <;> simp) ?_
            exact go_eq rfl (lv' := [(0, .ref cb), (1, rj_i (sp_cw (sp_wz s (s 4) (k + 1)).1)), (2, rj_i ((sp_wz s (s 4) (k + 1)).2)), (3, rj_i ((k + 1 : Nat) : Int))]) (rj_lk (rj_lj (by rw [sp_wz, if_pos (by rw [sp_has_lo]; omega)]; show (k : Int) = sp_cw (k : Int); unfold sp_cw; rw [if_neg (by omega)]) (rj_lj (by rw [sp_wz, if_pos (by rw [sp_has_lo]; omega)]; exact (sp_has_lo s k).symm) (rj_lj (by omega) rfl)))) rfl rfl (ih (k + 1) c21 (by omega) hr21)
  exact go_eq rfl (lv' := [(0, .ref cb), (1, rj_i (sp_cw (sp_wz s (s 4) 0).1)), (2, rj_i ((sp_wz s (s 4) 0).2)), (3, rj_i ((0 : Nat) : Int))]) (rj_lk (rj_lj (rfl) (rj_lj (rfl) (rj_lj (rfl) rfl)))) rfl rfl (loop (s 1).toNat 0 c (by omega) rc_t.rf)
set_option maxRecDepth 20000 in
/-- x_worth -/
theorem x_worth {X9 : rj_X} {σ : rj_H} {d cb vv vk : Nat} {c : rm_R} {w : Int} (hd : 8 ≤ d) (hw : -2147483648 ≤ w ∧ w < 2147483648) {s : Int → Int} {ad : Nat → Int → Nat} (hR : rc_R X9 cb vv vk c σ s ad) (hI : sp_I s) : rj_Cl X9 d yX11_worth cX11_worth 2 (some .int) [.ref cb, rj_i w] (rc_p X9 cb vv vk c σ) (fun w9 τ => w9 = some (rj_i (sp_worthF s w)) ∧ ∃ c0, rc_t 92 c c0 ∧ τ = rc_p X9 cb vv vk c0 σ) := by
  obtain ⟨⟨h0, h1, h2, h3, h4, h5, h6, h7⟩, hM, hP, hW, hL, hV⟩ := id hI
  obtain ⟨v1, v2, v3, v4⟩ := id hV
  refine go_call (by decide +kernel) (Nat.le_of_ble_eq_true rfl) ?_
  refine go_eq (pc' := 0) (lv' := [(0, .ref cb), (1, rj_i w)]) (st' := []) rfl rfl rfl rfl ?_
  refine go_iload_n dX11_worth_0 rfl 1 rfl ?_
  refine go_if_ltI (tgt := 9) (by omega) dX11_worth_1 (by decide) (fun c_1 => ?_) (fun c_1 => ?_)
  · refine go_iconst (v := Int32.ofInt (-1)) dX11_worth_9 rfl ?_
    refine go_retI rfl rfl ?_ dX11_worth_10
    exact ⟨rj_vi (by unfold sp_worthF; rw [if_neg (by omega)]), c, rc_t.rf, rfl⟩
  · refine go_iload_n dX11_worth_4 rfl 1 rfl ?_
    refine go_iconst (v := Int32.ofInt 1) dX11_worth_5 rfl ?_
    refine go_icmp_leI (tgt := 11) (by omega) (by omega) dX11_worth_6 (by decide) (fun c_6 => ?_) (fun c_6 => ?_)
    · refine go_iload_n dX11_worth_11 rfl 1 rfl ?_
      refine go_if_neI (tgt := 22) (by omega) dX11_worth_12 (by decide) (fun c_12 => ?_) (fun c_12 => ?_)
      · refine go_aload_n dX11_worth_22 rfl 0 rfl ?_
        refine go_callV (d1 := d - 1) wVX11_169 kX11 (rc_a0 hR.V) rfl (by omega) (x_worstOff (by omega) hR hI) rfl (Nat.le_of_ble_eq_true rfl) dX11_worth_23 (fun w σ1 hP9 => ?_)
        obtain ⟨rfl, c1, hc1, rfl⟩ := hP9
        have hr1 : rc_t 92 c c1 := hc1
        refine go_callS (d1 := d - 1) wSX11_149 rfl (by omega) (x_orN (v := sp_cw (sp_worst s (s 4))) (by have wb := sp_wz_b (D := s 4) h0 hM (s 1).toNat; have cw := sp_cw_b (z := (sp_wz s (s 4) (s 1).toNat).1) (by omega) (by omega); unfold sp_worst sp_cw at *; (repeat' split) <;> omega)) rfl (Nat.le_of_ble_eq_true rfl) dX11_worth_26 (fun w σ1 hP9 => ?_)
        obtain ⟨rfl, rfl⟩ := hP9
        refine go_retI rfl rfl ?_ dX11_worth_29
        exact ⟨rj_vi (by have e : sp_worthF s w = sp_worst s (s 4) := (by unfold sp_worthF; rw [if_pos (by omega), if_pos (by omega)]); rw [e]; have wb := sp_wz_b (D := s 4) h0 hM (s 1).toNat; unfold sp_worst sp_cw; (repeat' split) <;> omega), c1, hr1, rfl⟩
      · refine go_aload_n dX11_worth_15 rfl 0 rfl ?_
        refine go_callV (d1 := d - 1) wVX11_165 kX11 (rc_a0 hR.V) rfl (by omega) (x_planWorth (by omega) hR hI) rfl (Nat.le_of_ble_eq_true rfl) dX11_worth_16 (fun w σ1 hP9 => ?_)
        obtain ⟨rfl, c1, hc1, rfl⟩ := hP9
        have hr1 : rc_t 92 c c1 := hc1
        refine go_goto (tgt := 29) dX11_worth_19 (by decide) ?_
        refine go_retI rfl rfl ?_ dX11_worth_29
        exact ⟨rj_vi (by unfold sp_worthF; rw [if_pos (by omega), if_neg (by omega)]), c1, hr1, rfl⟩
    · refine go_iconst (v := Int32.ofInt (-1)) dX11_worth_9 rfl ?_
      refine go_retI rfl rfl ?_ dX11_worth_10
      exact ⟨rj_vi (by unfold sp_worthF; rw [if_neg (by omega)]), c, rc_t.rf, rfl⟩
theorem sp_left_mono (s : Int → Int) (p : Int) (n : Nat) : sp_left s p (n + 1) ≤ sp_left s p n := by rw [sp_left]; have := sp_sunny_b s (s 4 + (n : Int)) p; omega
def sp_lz (s : Int → Int) (p : Int) (n : Nat) : Int := if sp_left s p n < 0 then 0 else sp_left s p n
theorem sp_lzs {s : Int → Int} {p S : Int} {k : Nat} (h : S = sp_sunny s (s 4 + (k : Int)) p) (hz : sp_lz s p k = sp_left s p k ∧ 0 < sp_left s p k) : (if 0 < sp_lz s p k - S then sp_lz s p k - S else 0) = sp_lz s p (k + 1) := by
  rw [h, hz.1]
  unfold sp_lz
  rw [sp_left]
  (repeat' split) <;> omega
set_option maxRecDepth 20000 in
/-- x_gone -/
theorem x_gone {X9 : rj_X} {σ : rj_H} {d cb vv vk : Nat} {c : rm_R} {p : Int} (hd : 8 ≤ d) (hp : -2147483648 ≤ p ∧ p < 2147483648) {s : Int → Int} {ad : Nat → Int → Nat} (hR : rc_R X9 cb vv vk c σ s ad) (hI : sp_I s) : rj_Cl X9 d yX11_gone cX11_gone 4 (some .int) [.ref cb, rj_i p] (rc_p X9 cb vv vk c σ) (fun w9 τ => w9 = some (rj_i (sp_goneF s p)) ∧ ∃ c0, rc_t 92 c c0 ∧ τ = rc_p X9 cb vv vk c0 σ) := by
  obtain ⟨⟨h0, h1, h2, h3, h4, h5, h6, h7⟩, hM, hP, hW, hL, hV⟩ := id hI
  obtain ⟨v1, v2, v3, v4⟩ := id hV
  refine go_call (by decide +kernel) (Nat.le_of_ble_eq_true rfl) ?_
  refine go_eq (pc' := 0) (lv' := [(0, .ref cb), (1, rj_i p)]) (st' := []) rfl rfl rfl rfl ?_
  refine go_aload_n dX11_gone_0 rfl 0 rfl ?_
  refine rc_gx hR.V (k := 0) (by decide) fX11_12 rfl dX11_gone_1 ?_
  refine go_iload_n dX11_gone_4 rfl 1 rfl ?_
  refine go_callV (d1 := d - 1) wVX11_104 kX5 (rc_a1 hR.V) rfl (by omega) (x_hasPatch (p := p) (by omega) hR hI) rfl (Nat.le_of_ble_eq_true rfl) dX11_gone_5 (fun w σ1 hP9 => ?_)
  obtain ⟨rfl, rfl⟩ := hP9
  refine go_if_neB (tgt := 13) dX11_gone_8 (by decide) (fun c_8 => ?_) (fun c_8 => ?_)
  · obtain ⟨p1, p2, p3, p4⟩ := hP p (by omega) (by omega)
    refine go_aload_n dX11_gone_13 rfl 0 rfl ?_
    refine rc_gx hR.V (k := 0) (by decide) fX11_12 rfl dX11_gone_14 ?_
    refine rc_gs hR.V (k := 2) (v := .ref (cb + 3)) (by decide) fX11_79 rfl dX11_gone_17 ?_
    refine go_iload_n dX11_gone_20 rfl 1 rfl ?_
    refine rc_r4 hR.V (z := p) (by omega) (by omega) dX11_gone_21 ?_
    refine go_iconst (v := Int32.ofInt 3) dX11_gone_22 rfl ?_
    refine rc_ip3 hR (p := p) (by omega) (by omega) h1 dX11_gone_23 ?_
    refine go_istore_nS (lv' := [(0, .ref cb), (1, rj_i p), (2, rj_i (s (190 + p)))]) rfl (by decide) rfl dX11_gone_24 ?_
    refine go_iconst (v := Int32.ofInt 0) dX11_gone_25 rfl ?_
    refine go_istore_nS (lv' := [(0, .ref cb), (1, rj_i p), (2, rj_i (s (190 + p))), (3, rj_i 0)]) rfl (by decide) rfl dX11_gone_26 ?_
    have loop : ∀ (n2 k : Nat) (cl : rm_R), k + n2 = (31 : Int).toNat → rc_t 92 c cl → sp_goneF s p = sp_goneN s p n2 k → rj_Go X9 yX11_gone cX11_gone 4 (some .int) d (fun w9 τ => w9 = some (rj_i (sp_goneF s p)) ∧ ∃ c0, rc_t 92 c c0 ∧ τ = rc_p X9 cb vv vk c0 σ) 27 [(0, .ref cb), (1, rj_i p), (2, rj_i (sp_lz s p k)), (3, rj_i (k : Int))] [] (rc_p X9 cb vv vk cl σ) := by
      intro n2
      induction n2 with
      | zero =>
        intro k cl hk hl hg
        have lb := sp_left_b (s := s) (p := p) (by omega) k
        refine go_iload_n dX11_gone_27 rfl 3 rfl ?_
        refine go_bipush (v := Int32.ofInt 30) dX11_gone_28 (by decide) ?_
        refine go_icmp_gtI (tgt := 64) (by omega) (by omega) dX11_gone_30 (by decide) (fun c_30 => ?_) (fun c_30 => ?_)
        · refine go_bipush (v := Int32.ofInt (-5)) dX11_gone_64 (by decide) ?_
          refine go_retI rfl rfl ?_ dX11_gone_66
          exact ⟨rj_vi (by rw [hg]; rfl), cl, hl, rfl⟩
        · exact absurd c_30 (by omega)
      | succ n2 ih =>
        intro k cl hk hl hg
        have lb := sp_left_b (s := s) (p := p) (by omega) k
        have hz2 : sp_lz s p k = 0 ∨ (sp_lz s p k = sp_left s p k ∧ 0 < sp_left s p k) := by unfold sp_lz; split <;> omega
        have hz3 : sp_lz s p k = 0 → sp_left s p k ≤ 0 := fun q => by unfold sp_lz at q; split at q <;> omega
        refine go_iload_n dX11_gone_27 rfl 3 rfl ?_
        refine go_bipush (v := Int32.ofInt 30) dX11_gone_28 (by decide) ?_
        refine go_icmp_gtI (tgt := 64) (by omega) (by omega) dX11_gone_30 (by decide) (fun c_30 => ?_) (fun c_30 => ?_)
        · exact absurd c_30 (by omega)
        · refine go_iload_n dX11_gone_33 rfl 2 rfl ?_
          refine go_if_neI (tgt := 39) (by omega) dX11_gone_34 (by decide) (fun c_34 => ?_) (fun c_34 => ?_)
          · refine go_aload_n dX11_gone_39 rfl 0 rfl ?_
            refine rc_gx (hR.t (hl.le (by decide))).V (k := 0) (by decide) fX11_12 rfl dX11_gone_40 ?_
            refine go_iload_n dX11_gone_43 rfl 1 rfl ?_
            refine go_iload_n dX11_gone_44 rfl 2 rfl ?_
            refine go_aload_n dX11_gone_45 rfl 0 rfl ?_
            refine rc_gx (hR.t (hl.le (by decide))).V (k := 0) (by decide) fX11_12 rfl dX11_gone_46 ?_
            refine rc_gs (hR.t (hl.le (by decide))).V (k := 11) (v := rj_i (s 4)) (by decide) fX11_136 (rj_vi (hR.t (hl.le (by decide))).n4) dX11_gone_49 ?_
            refine go_iload_n dX11_gone_52 rfl 3 rfl ?_
            refine go_addI dX11_gone_53 ?_
            have hz : sp_lz s p k = sp_left s p k ∧ 0 < sp_left s p k := by omega
            refine go_callV (d1 := d - 1) wVX11_221 kX5 (rc_a1 (hR.t (hl.le (by decide))).V) rfl (by omega) (x_snow (p := p) (sn := sp_lz s p k) (D := (s 4) + (k : Int)) (by omega) (hR.t (hl.le (by decide))) hI (by omega) (by omega) (by omega)) rfl (Nat.le_of_ble_eq_true rfl) dX11_gone_54 (fun w σ1 hP9 => ?_)
            obtain ⟨rfl, c21, hc21, rfl⟩ := hP9
            have hr21 : rc_t 92 c c21 := hl.tr hc21
            refine go_istore_nS (lv' := [(0, .ref cb), (1, rj_i p), (2, rj_i (if 0 < (sp_lz s p k) - sp_sum (fun q => rj_b ((fun q => sp_so s ((s 4) + (k : Int)) (-13) 99 p q || sp_any s ((s 4) + (k : Int)) p q (s 0).toNat) q = true)) 8 then (sp_lz s p k) - sp_sum (fun q => rj_b ((fun q => sp_so s ((s 4) + (k : Int)) (-13) 99 p q || sp_any s ((s 4) + (k : Int)) p q (s 0).toNat) q = true)) 8 else 0)), (3, rj_i (k : Int))]) rfl (by decide) rfl dX11_gone_57 ?_
            refine go_iincI (a := (k : Int)) (n := 1) (k0 := 3) (lv' := [(0, .ref cb), (1, rj_i p), (2, rj_i (if 0 < (sp_lz s p k) - sp_sum (fun q => rj_b ((fun q => sp_so s ((s 4) + (k : Int)) (-13) 99 p q || sp_any s ((s 4) + (k : Int)) p q (s 0).toNat) q = true)) 8 then (sp_lz s p k) - sp_sum (fun q => rj_b ((fun q => sp_so s ((s 4) + (k : Int)) (-13) 99 p q || sp_any s ((s 4) + (k : Int)) p q (s 0).toNat) q = true)) 8 else 0)), (3, rj_i ((k : Int) + 1))]) rfl (by decide) rfl dX11_gone_58 ?_
            refine go_goto (tgt := 27) dX11_gone_61 (by decide) ?_
            exact go_eq rfl (lv' := [(0, .ref cb), (1, rj_i p), (2, rj_i (sp_lz s p (k + 1))), (3, rj_i ((k + 1 : Nat) : Int))]) (rj_lk (rj_lk (rj_lj (sp_lzs (sp_sunnyL h0 hM) hz) (rj_lj (by omega) rfl)))) rfl rfl (ih (k + 1) c21 (by omega) hr21 (by rw [hg, sp_goneN, if_neg (by omega)]))
          · refine go_iload_n dX11_gone_37 rfl 3 rfl ?_
            refine go_retI rfl rfl ?_ dX11_gone_38
            exact ⟨rj_vi (by rw [hg, sp_goneN, if_pos (by unfold sp_lz at c_34; split at c_34 <;> omega)]), cl, hl, rfl⟩
    have hz0 : s (190 + p) = sp_lz s p 0 := by unfold sp_lz; rw [sp_left, if_neg (by omega)]
    exact go_eq rfl (lv' := [(0, .ref cb), (1, rj_i p), (2, rj_i (sp_lz s p 0)), (3, rj_i ((0 : Nat) : Int))]) (rj_lk (rj_lk (rj_lj (hz0) (rj_lj (rfl) rfl)))) rfl rfl (loop 31 0 c rfl rc_t.rf (by unfold sp_goneF; rw [if_pos (by omega)]))
  · refine go_iconst (v := Int32.ofInt (-1)) dX11_gone_11 rfl ?_
    refine go_retI rfl rfl ?_ dX11_gone_12
    exact ⟨rj_vi (by unfold sp_goneF; rw [if_neg (by omega)]), c, rc_t.rf, rfl⟩
set_option maxRecDepth 20000 in
/-- x_trace -/
theorem x_trace {X9 : rj_X} {σ : rj_H} {d cb vv vk : Nat} {c : rm_R} {i n : Int} {b : Int → Int} (hd : 0 ≤ d) (hi : -2147483648 ≤ i ∧ i < 2147483648) {s : Int → Int} {ad : Nat → Int → Nat} (hR : rc_R X9 cb vv vk c σ s ad) (hI : sp_I s) (hb : c 64 = b) (hn : c 63 1 = n) (hn2 : 0 ≤ n ∧ n ≤ 1000) : rj_Cl X9 d yX11_trace cX11_trace 2 (some .int) [.ref cb, rj_i i] (rc_p X9 cb vv vk c σ) (fun w9 τ => w9 = some (rj_i (sp_traceF b n i)) ∧ τ = rc_p X9 cb vv vk c σ) := by
  obtain ⟨⟨h0, h1, h2, h3, h4, h5, h6, h7⟩, hM, hP, hW, hL, hV⟩ := id hI
  obtain ⟨v1, v2, v3, v4⟩ := id hV
  refine go_call (by decide +kernel) (Nat.le_of_ble_eq_true rfl) ?_
  refine go_eq (pc' := 0) (lv' := [(0, .ref cb), (1, rj_i i)]) (st' := []) rfl rfl rfl rfl ?_
  refine go_iload_n dX11_trace_0 rfl 1 rfl ?_
  refine go_if_ltI (tgt := 21) (by omega) dX11_trace_1 (by decide) (fun c_1 => ?_) (fun c_1 => ?_)
  · refine go_iconst (v := Int32.ofInt (-1)) dX11_trace_21 rfl ?_
    refine go_retI rfl rfl ?_ dX11_trace_22
    exact ⟨rj_vi (by unfold sp_traceF; rw [if_neg (by omega)]), rfl⟩
  · refine go_iload_n dX11_trace_4 rfl 1 rfl ?_
    refine go_aload_n dX11_trace_5 rfl 0 rfl ?_
    refine rc_gx hR.V (k := 3) (by decide) fX11_28 rfl dX11_trace_6 ?_
    refine rc_gt hR.V (k := 1) (by decide) fX11_280 rfl dX11_trace_9 ?_
    refine go_icmp_geI (tgt := 21) (by omega) (by omega) dX11_trace_12 (by decide) (fun c_12 => ?_) (fun c_12 => ?_)
    · refine go_iconst (v := Int32.ofInt (-1)) dX11_trace_21 rfl ?_
      refine go_retI rfl rfl ?_ dX11_trace_22
      exact ⟨rj_vi (by unfold sp_traceF; rw [if_neg (by omega)]), rfl⟩
    · refine go_iload_n dX11_trace_15 rfl 1 rfl ?_
      refine go_bipush (v := Int32.ofInt 20) dX11_trace_16 (by decide) ?_
      refine go_icmp_ltI (tgt := 23) (by omega) (by omega) dX11_trace_18 (by decide) (fun c_18 => ?_) (fun c_18 => ?_)
      · refine go_aload_n dX11_trace_23 rfl 0 rfl ?_
        refine rc_gx hR.V (k := 3) (by decide) fX11_28 rfl dX11_trace_24 ?_
        refine rc_gt hR.V (k := 0) (by decide) fX11_283 rfl dX11_trace_27 ?_
        refine go_iload_n dX11_trace_30 rfl 1 rfl ?_
        refine rc_ld hR.V (n := 64) (L := 20) rfl rfl (by omega) (by omega) (by decide) dX11_trace_31 ?_
        rw [show c 64 = b from hb]
        refine go_retI rfl rfl ?_ dX11_trace_32
        exact ⟨rj_vi (by unfold sp_traceF; rw [if_pos (by omega)]), rfl⟩
      · refine go_iconst (v := Int32.ofInt (-1)) dX11_trace_21 rfl ?_
        refine go_retI rfl rfl ?_ dX11_trace_22
        exact ⟨rj_vi (by unfold sp_traceF; rw [if_neg (by omega)]), rfl⟩
set_option maxRecDepth 20000 in
/-- x_count -/
theorem x_count {X9 : rj_X} {σ : rj_H} {d cb vv vk : Nat} {c : rm_R} {w n : Int} (hw : -2147483648 ≤ w ∧ w < 2147483648) {s : Int → Int} {ad : Nat → Int → Nat} (hR : rc_R X9 cb vv vk c σ s ad) (hI : sp_I s) (hn : c 63 1 = n) : rj_Cl X9 d yX11_count cX11_count 2 (some .int) [.ref cb, rj_i w] (rc_p X9 cb vv vk c σ) (fun w9 τ => w9 = some (rj_i (sp_countF s n w)) ∧ τ = rc_p X9 cb vv vk c σ) := by
  obtain ⟨⟨h0, h1, h2, h3, h4, h5, h6, h7⟩, hM, hP, hW, hL, hV⟩ := id hI
  obtain ⟨v1, v2, v3, v4⟩ := id hV
  refine go_call (by decide +kernel) (Nat.le_of_ble_eq_true rfl) ?_
  refine go_eq (pc' := 0) (lv' := [(0, .ref cb), (1, rj_i w)]) (st' := []) rfl rfl rfl rfl ?_
  refine go_iload_n dX11_count_0 rfl 1 rfl ?_
  rcases (show w = 0 ∨ w = 1 ∨ w = 2 ∨ w = 3 ∨ w = 4 ∨ w = 5 ∨ w = 6 ∨ w = 7 ∨ (w < 0 ∨ 7 < w) by omega) with rfl | rfl | rfl | rfl | rfl | rfl | rfl | rfl | hw2
  · refine go_tableIn (off := 47) (tgt := 48) dX11_count_1 (by decide) (by decide) (by decide) (by decide) ?_
    refine go_aload_n dX11_count_48 rfl 0 rfl ?_
    refine rc_gx hR.V (k := 0) (by decide) fX11_12 rfl dX11_count_49 ?_
    refine rc_gs hR.V (k := 1) (v := rj_i (s 0)) (by decide) fX11_60 (rj_vi hR.n0) dX11_count_52 ?_
    refine go_retI rfl rfl ?_ dX11_count_55
    exact ⟨rj_vi (by unfold sp_countF; rw [if_neg (by omega), if_pos (by omega)]), rfl⟩
  · refine go_tableIn (off := 55) (tgt := 56) dX11_count_1 (by decide) (by decide) (by decide) (by decide) ?_
    refine go_aload_n dX11_count_56 rfl 0 rfl ?_
    refine rc_gx hR.V (k := 0) (by decide) fX11_12 rfl dX11_count_57 ?_
    refine rc_gs hR.V (k := 3) (v := rj_i (s 1)) (by decide) fX11_76 (rj_vi hR.n1) dX11_count_60 ?_
    refine go_retI rfl rfl ?_ dX11_count_63
    exact ⟨rj_vi (by unfold sp_countF; rw [if_neg (by omega), if_pos (by omega)]), rfl⟩
  · refine go_tableIn (off := 63) (tgt := 64) dX11_count_1 (by decide) (by decide) (by decide) (by decide) ?_
    refine go_aload_n dX11_count_64 rfl 0 rfl ?_
    refine rc_gx hR.V (k := 0) (by decide) fX11_12 rfl dX11_count_65 ?_
    refine rc_gs hR.V (k := 5) (v := rj_i (s 2)) (by decide) fX11_82 (rj_vi hR.n2) dX11_count_68 ?_
    refine go_retI rfl rfl ?_ dX11_count_71
    exact ⟨rj_vi (by unfold sp_countF; rw [if_neg (by omega), if_pos (by omega)]), rfl⟩
  · refine go_tableIn (off := 71) (tgt := 72) dX11_count_1 (by decide) (by decide) (by decide) (by decide) ?_
    refine go_aload_n dX11_count_72 rfl 0 rfl ?_
    refine rc_gx hR.V (k := 0) (by decide) fX11_12 rfl dX11_count_73 ?_
    refine rc_gs hR.V (k := 9) (v := rj_i (s 3)) (by decide) fX11_114 (rj_vi hR.n3) dX11_count_76 ?_
    refine go_retI rfl rfl ?_ dX11_count_79
    exact ⟨rj_vi (by unfold sp_countF; rw [if_neg (by omega), if_pos (by omega)]), rfl⟩
  · refine go_tableIn (off := 79) (tgt := 80) dX11_count_1 (by decide) (by decide) (by decide) (by decide) ?_
    refine go_aload_n dX11_count_80 rfl 0 rfl ?_
    refine rc_gx hR.V (k := 0) (by decide) fX11_12 rfl dX11_count_81 ?_
    refine rc_gs hR.V (k := 11) (v := rj_i (s 4)) (by decide) fX11_136 (rj_vi hR.n4) dX11_count_84 ?_
    refine go_retI rfl rfl ?_ dX11_count_87
    exact ⟨rj_vi (by unfold sp_countF; rw [if_neg (by omega), if_pos (by omega)]), rfl⟩
  · refine go_tableIn (off := 87) (tgt := 88) dX11_count_1 (by decide) (by decide) (by decide) (by decide) ?_
    refine go_aload_n dX11_count_88 rfl 0 rfl ?_
    refine rc_gx hR.V (k := 0) (by decide) fX11_12 rfl dX11_count_89 ?_
    refine rc_gs hR.V (k := 13) (v := rj_i (s 5)) (by decide) fX11_240 (rj_vi hR.n5) dX11_count_92 ?_
    refine go_retI rfl rfl ?_ dX11_count_95
    exact ⟨rj_vi (by unfold sp_countF; rw [if_neg (by omega), if_pos (by omega)]), rfl⟩
  · refine go_tableIn (off := 95) (tgt := 96) dX11_count_1 (by decide) (by decide) (by decide) (by decide) ?_
    refine go_aload_n dX11_count_96 rfl 0 rfl ?_
    refine rc_gx hR.V (k := 0) (by decide) fX11_12 rfl dX11_count_97 ?_
    refine rc_gs hR.V (k := 7) (v := rj_i (s 6)) (by decide) fX11_107 (rj_vi hR.n6) dX11_count_100 ?_
    refine go_retI rfl rfl ?_ dX11_count_103
    exact ⟨rj_vi (by unfold sp_countF; rw [if_neg (by omega), if_pos (by omega)]), rfl⟩
  · refine go_tableIn (off := 103) (tgt := 104) dX11_count_1 (by decide) (by decide) (by decide) (by decide) ?_
    refine go_aload_n dX11_count_104 rfl 0 rfl ?_
    refine rc_gx hR.V (k := 3) (by decide) fX11_28 rfl dX11_count_105 ?_
    refine rc_gt hR.V (k := 1) (by decide) fX11_280 rfl dX11_count_108 ?_
    refine go_retI rfl rfl ?_ dX11_count_111
    exact ⟨rj_vi (by unfold sp_countF; rw [if_pos rfl]; exact hn), rfl⟩
  · refine go_tableOut (tgt := 112) dX11_count_1 (by rw [rj_ti (by omega) (by omega)]; exact hw2) (by decide) ?_
    refine go_iconst (v := Int32.ofInt (-1)) dX11_count_112 rfl ?_
    refine go_retI rfl rfl ?_ dX11_count_113
    exact ⟨rj_vi (by unfold sp_countF; rw [if_neg (by omega), if_neg (by omega)]), rfl⟩
theorem rv_inst296_isUnder {X9 : rj_X} {nL : Nat} {rt9 : Option FieldType} {d9 : Nat} {P9 : Option Value → rj_H → Prop} {pc : Nat} {lv : List (Nat × Value)} {rest : List Value} {σ : rj_H} {cb vv vk : Nat} {c : rm_R} {s : Int → Int} {m : Int} {a : Nat} (hm : rc_mir cb vv vk σ s m a) (hkd : 0 ≤ s (130 + m) ∧ s (130 + m) ≤ 6) (hdg : decode cX11_isUnder pc = .ok (.instanceof 296, 3)) (kk : rj_Go X9 yX11_isUnder cX11_isUnder nL rt9 d9 P9 (pc + 3) lv (rj_i (rj_b (sp_und (s (130 + m)) 1)) :: rest) (rc_p X9 cb vv vk c σ)) : rj_Go X9 yX11_isUnder cX11_isUnder nL rt9 d9 P9 pc lv (.ref a :: rest) (rc_p X9 cb vv vk c σ) := by
  have ha := rc_ma (X9 := X9) (c := c) hm
  have hlk : Cond.classLink RX11 296 "SunMirrors$Turned" ∈ rj_tbl := rj_inT 231 (by decide +kernel)
  rcases (show s (130 + m) = 0 ∨ s (130 + m) = 1 ∨ s (130 + m) = 2 ∨ s (130 + m) = 3 ∨ s (130 + m) = 4 ∨ s (130 + m) = 5 ∨ s (130 + m) = 6 by omega) with hk | hk | hk | hk | hk | hk | hk
  · have ha2 : (rc_p X9 cb vv vk c σ).2.2 a = some (.inr (2, rc_mf s m)) := by rw [hk] at ha; exact ha
    refine go_instN kX2 ha2 hlk (by simp [rj_ncs, RX2]) hdg ?_
    exact go_eq rfl rfl (congrArg (fun z => rj_i z :: rest) (show (0 : Int) = rj_b (sp_und (s (130 + m)) 1) from (rj_bf (by rw [hk]; decide)).symm)) rfl kk
  · have ha2 : (rc_p X9 cb vv vk c σ).2.2 a = some (.inr (8, rc_mf s m)) := by rw [hk] at ha; exact ha
    refine go_instS kX8 ha2 hlk hdg ?_
    exact go_eq rfl rfl (congrArg (fun z => rj_i z :: rest) (show (1 : Int) = rj_b (sp_und (s (130 + m)) 1) from (rj_bt (by rw [hk]; decide)).symm)) rfl kk
  · have ha2 : (rc_p X9 cb vv vk c σ).2.2 a = some (.inr (0, rc_mf s m)) := by rw [hk] at ha; exact ha
    refine go_instN kX0 ha2 hlk (by simp [rj_ncs, RX0]) hdg ?_
    exact go_eq rfl rfl (congrArg (fun z => rj_i z :: rest) (show (0 : Int) = rj_b (sp_und (s (130 + m)) 1) from (rj_bf (by rw [hk]; decide)).symm)) rfl kk
  · have ha2 : (rc_p X9 cb vv vk c σ).2.2 a = some (.inr (3, rc_mf s m)) := by rw [hk] at ha; exact ha
    refine go_instY kX3 ha2 hlk (by simp [rj_cas, RX3]) hdg ?_
    exact go_eq rfl rfl (congrArg (fun z => rj_i z :: rest) (show (1 : Int) = rj_b (sp_und (s (130 + m)) 1) from (rj_bt (by rw [hk]; decide)).symm)) rfl kk
  · have ha2 : (rc_p X9 cb vv vk c σ).2.2 a = some (.inr (1, rc_mf s m)) := by rw [hk] at ha; exact ha
    refine go_instY kX1 ha2 hlk (by simp [rj_cas, RX1]) hdg ?_
    exact go_eq rfl rfl (congrArg (fun z => rj_i z :: rest) (show (1 : Int) = rj_b (sp_und (s (130 + m)) 1) from (rj_bt (by rw [hk]; decide)).symm)) rfl kk
  · have ha2 : (rc_p X9 cb vv vk c σ).2.2 a = some (.inr (4, rc_mf s m)) := by rw [hk] at ha; exact ha
    refine go_instN kX4 ha2 hlk (by simp [rj_ncs, RX4]) hdg ?_
    exact go_eq rfl rfl (congrArg (fun z => rj_i z :: rest) (show (0 : Int) = rj_b (sp_und (s (130 + m)) 1) from (rj_bf (by rw [hk]; decide)).symm)) rfl kk
  · have ha2 : (rc_p X9 cb vv vk c σ).2.2 a = some (.inr (6, rc_mf s m)) := by rw [hk] at ha; exact ha
    refine go_instN kX6 ha2 hlk (by simp [rj_ncs, RX6]) hdg ?_
    exact go_eq rfl rfl (congrArg (fun z => rj_i z :: rest) (show (0 : Int) = rj_b (sp_und (s (130 + m)) 1) from (rj_bf (by rw [hk]; decide)).symm)) rfl kk
theorem rv_inst301_isUnder {X9 : rj_X} {nL : Nat} {rt9 : Option FieldType} {d9 : Nat} {P9 : Option Value → rj_H → Prop} {pc : Nat} {lv : List (Nat × Value)} {rest : List Value} {σ : rj_H} {cb vv vk : Nat} {c : rm_R} {s : Int → Int} {m : Int} {a : Nat} (hm : rc_mir cb vv vk σ s m a) (hkd : 0 ≤ s (130 + m) ∧ s (130 + m) ≤ 6) (hdg : decode cX11_isUnder pc = .ok (.instanceof 301, 3)) (kk : rj_Go X9 yX11_isUnder cX11_isUnder nL rt9 d9 P9 (pc + 3) lv (rj_i (rj_b (sp_und (s (130 + m)) 2)) :: rest) (rc_p X9 cb vv vk c σ)) : rj_Go X9 yX11_isUnder cX11_isUnder nL rt9 d9 P9 pc lv (.ref a :: rest) (rc_p X9 cb vv vk c σ) := by
  have ha := rc_ma (X9 := X9) (c := c) hm
  have hlk : Cond.classLink RX11 301 "SunMirrors$Fixed" ∈ rj_tbl := rj_inT 296 (by decide +kernel)
  rcases (show s (130 + m) = 0 ∨ s (130 + m) = 1 ∨ s (130 + m) = 2 ∨ s (130 + m) = 3 ∨ s (130 + m) = 4 ∨ s (130 + m) = 5 ∨ s (130 + m) = 6 by omega) with hk | hk | hk | hk | hk | hk | hk
  · have ha2 : (rc_p X9 cb vv vk c σ).2.2 a = some (.inr (2, rc_mf s m)) := by rw [hk] at ha; exact ha
    refine go_instN kX2 ha2 hlk (by simp [rj_ncs, RX2]) hdg ?_
    exact go_eq rfl rfl (congrArg (fun z => rj_i z :: rest) (show (0 : Int) = rj_b (sp_und (s (130 + m)) 2) from (rj_bf (by rw [hk]; decide)).symm)) rfl kk
  · have ha2 : (rc_p X9 cb vv vk c σ).2.2 a = some (.inr (8, rc_mf s m)) := by rw [hk] at ha; exact ha
    refine go_instN kX8 ha2 hlk (by simp [rj_ncs, RX8]) hdg ?_
    exact go_eq rfl rfl (congrArg (fun z => rj_i z :: rest) (show (0 : Int) = rj_b (sp_und (s (130 + m)) 2) from (rj_bf (by rw [hk]; decide)).symm)) rfl kk
  · have ha2 : (rc_p X9 cb vv vk c σ).2.2 a = some (.inr (0, rc_mf s m)) := by rw [hk] at ha; exact ha
    refine go_instS kX0 ha2 hlk hdg ?_
    exact go_eq rfl rfl (congrArg (fun z => rj_i z :: rest) (show (1 : Int) = rj_b (sp_und (s (130 + m)) 2) from (rj_bt (by rw [hk]; decide)).symm)) rfl kk
  · have ha2 : (rc_p X9 cb vv vk c σ).2.2 a = some (.inr (3, rc_mf s m)) := by rw [hk] at ha; exact ha
    refine go_instN kX3 ha2 hlk (by simp [rj_ncs, RX3]) hdg ?_
    exact go_eq rfl rfl (congrArg (fun z => rj_i z :: rest) (show (0 : Int) = rj_b (sp_und (s (130 + m)) 2) from (rj_bf (by rw [hk]; decide)).symm)) rfl kk
  · have ha2 : (rc_p X9 cb vv vk c σ).2.2 a = some (.inr (1, rc_mf s m)) := by rw [hk] at ha; exact ha
    refine go_instN kX1 ha2 hlk (by simp [rj_ncs, RX1]) hdg ?_
    exact go_eq rfl rfl (congrArg (fun z => rj_i z :: rest) (show (0 : Int) = rj_b (sp_und (s (130 + m)) 2) from (rj_bf (by rw [hk]; decide)).symm)) rfl kk
  · have ha2 : (rc_p X9 cb vv vk c σ).2.2 a = some (.inr (4, rc_mf s m)) := by rw [hk] at ha; exact ha
    refine go_instY kX4 ha2 hlk (by simp [rj_cas, RX4]) hdg ?_
    exact go_eq rfl rfl (congrArg (fun z => rj_i z :: rest) (show (1 : Int) = rj_b (sp_und (s (130 + m)) 2) from (rj_bt (by rw [hk]; decide)).symm)) rfl kk
  · have ha2 : (rc_p X9 cb vv vk c σ).2.2 a = some (.inr (6, rc_mf s m)) := by rw [hk] at ha; exact ha
    refine go_instY kX6 ha2 hlk (by simp [rj_cas, RX6]) hdg ?_
    exact go_eq rfl rfl (congrArg (fun z => rj_i z :: rest) (show (1 : Int) = rj_b (sp_und (s (130 + m)) 2) from (rj_bt (by rw [hk]; decide)).symm)) rfl kk
theorem rv_inst304_isUnder {X9 : rj_X} {nL : Nat} {rt9 : Option FieldType} {d9 : Nat} {P9 : Option Value → rj_H → Prop} {pc : Nat} {lv : List (Nat × Value)} {rest : List Value} {σ : rj_H} {cb vv vk : Nat} {c : rm_R} {s : Int → Int} {m : Int} {a : Nat} (hm : rc_mir cb vv vk σ s m a) (hkd : 0 ≤ s (130 + m) ∧ s (130 + m) ≤ 6) (hdg : decode cX11_isUnder pc = .ok (.instanceof 304, 3)) (kk : rj_Go X9 yX11_isUnder cX11_isUnder nL rt9 d9 P9 (pc + 3) lv (rj_i (rj_b (sp_und (s (130 + m)) 3)) :: rest) (rc_p X9 cb vv vk c σ)) : rj_Go X9 yX11_isUnder cX11_isUnder nL rt9 d9 P9 pc lv (.ref a :: rest) (rc_p X9 cb vv vk c σ) := by
  have ha := rc_ma (X9 := X9) (c := c) hm
  have hlk : Cond.classLink RX11 304 "SunMirrors$One" ∈ rj_tbl := rj_inT 311 (by decide +kernel)
  rcases (show s (130 + m) = 0 ∨ s (130 + m) = 1 ∨ s (130 + m) = 2 ∨ s (130 + m) = 3 ∨ s (130 + m) = 4 ∨ s (130 + m) = 5 ∨ s (130 + m) = 6 by omega) with hk | hk | hk | hk | hk | hk | hk
  · have ha2 : (rc_p X9 cb vv vk c σ).2.2 a = some (.inr (2, rc_mf s m)) := by rw [hk] at ha; exact ha
    refine go_instN kX2 ha2 hlk (by simp [rj_ncs, RX2]) hdg ?_
    exact go_eq rfl rfl (congrArg (fun z => rj_i z :: rest) (show (0 : Int) = rj_b (sp_und (s (130 + m)) 3) from (rj_bf (by rw [hk]; decide)).symm)) rfl kk
  · have ha2 : (rc_p X9 cb vv vk c σ).2.2 a = some (.inr (8, rc_mf s m)) := by rw [hk] at ha; exact ha
    refine go_instN kX8 ha2 hlk (by simp [rj_ncs, RX8]) hdg ?_
    exact go_eq rfl rfl (congrArg (fun z => rj_i z :: rest) (show (0 : Int) = rj_b (sp_und (s (130 + m)) 3) from (rj_bf (by rw [hk]; decide)).symm)) rfl kk
  · have ha2 : (rc_p X9 cb vv vk c σ).2.2 a = some (.inr (0, rc_mf s m)) := by rw [hk] at ha; exact ha
    refine go_instN kX0 ha2 hlk (by simp [rj_ncs, RX0]) hdg ?_
    exact go_eq rfl rfl (congrArg (fun z => rj_i z :: rest) (show (0 : Int) = rj_b (sp_und (s (130 + m)) 3) from (rj_bf (by rw [hk]; decide)).symm)) rfl kk
  · have ha2 : (rc_p X9 cb vv vk c σ).2.2 a = some (.inr (3, rc_mf s m)) := by rw [hk] at ha; exact ha
    refine go_instS kX3 ha2 hlk hdg ?_
    exact go_eq rfl rfl (congrArg (fun z => rj_i z :: rest) (show (1 : Int) = rj_b (sp_und (s (130 + m)) 3) from (rj_bt (by rw [hk]; decide)).symm)) rfl kk
  · have ha2 : (rc_p X9 cb vv vk c σ).2.2 a = some (.inr (1, rc_mf s m)) := by rw [hk] at ha; exact ha
    refine go_instN kX1 ha2 hlk (by simp [rj_ncs, RX1]) hdg ?_
    exact go_eq rfl rfl (congrArg (fun z => rj_i z :: rest) (show (0 : Int) = rj_b (sp_und (s (130 + m)) 3) from (rj_bf (by rw [hk]; decide)).symm)) rfl kk
  · have ha2 : (rc_p X9 cb vv vk c σ).2.2 a = some (.inr (4, rc_mf s m)) := by rw [hk] at ha; exact ha
    refine go_instN kX4 ha2 hlk (by simp [rj_ncs, RX4]) hdg ?_
    exact go_eq rfl rfl (congrArg (fun z => rj_i z :: rest) (show (0 : Int) = rj_b (sp_und (s (130 + m)) 3) from (rj_bf (by rw [hk]; decide)).symm)) rfl kk
  · have ha2 : (rc_p X9 cb vv vk c σ).2.2 a = some (.inr (6, rc_mf s m)) := by rw [hk] at ha; exact ha
    refine go_instN kX6 ha2 hlk (by simp [rj_ncs, RX6]) hdg ?_
    exact go_eq rfl rfl (congrArg (fun z => rj_i z :: rest) (show (0 : Int) = rj_b (sp_und (s (130 + m)) 3) from (rj_bf (by rw [hk]; decide)).symm)) rfl kk
theorem rv_inst307_isUnder {X9 : rj_X} {nL : Nat} {rt9 : Option FieldType} {d9 : Nat} {P9 : Option Value → rj_H → Prop} {pc : Nat} {lv : List (Nat × Value)} {rest : List Value} {σ : rj_H} {cb vv vk : Nat} {c : rm_R} {s : Int → Int} {m : Int} {a : Nat} (hm : rc_mir cb vv vk σ s m a) (hkd : 0 ≤ s (130 + m) ∧ s (130 + m) ≤ 6) (hdg : decode cX11_isUnder pc = .ok (.instanceof 307, 3)) (kk : rj_Go X9 yX11_isUnder cX11_isUnder nL rt9 d9 P9 (pc + 3) lv (rj_i (rj_b (sp_und (s (130 + m)) 4)) :: rest) (rc_p X9 cb vv vk c σ)) : rj_Go X9 yX11_isUnder cX11_isUnder nL rt9 d9 P9 pc lv (.ref a :: rest) (rc_p X9 cb vv vk c σ) := by
  have ha := rc_ma (X9 := X9) (c := c) hm
  have hlk : Cond.classLink RX11 307 "SunMirrors$Great" ∈ rj_tbl := rj_inT 326 (by decide +kernel)
  rcases (show s (130 + m) = 0 ∨ s (130 + m) = 1 ∨ s (130 + m) = 2 ∨ s (130 + m) = 3 ∨ s (130 + m) = 4 ∨ s (130 + m) = 5 ∨ s (130 + m) = 6 by omega) with hk | hk | hk | hk | hk | hk | hk
  · have ha2 : (rc_p X9 cb vv vk c σ).2.2 a = some (.inr (2, rc_mf s m)) := by rw [hk] at ha; exact ha
    refine go_instN kX2 ha2 hlk (by simp [rj_ncs, RX2]) hdg ?_
    exact go_eq rfl rfl (congrArg (fun z => rj_i z :: rest) (show (0 : Int) = rj_b (sp_und (s (130 + m)) 4) from (rj_bf (by rw [hk]; decide)).symm)) rfl kk
  · have ha2 : (rc_p X9 cb vv vk c σ).2.2 a = some (.inr (8, rc_mf s m)) := by rw [hk] at ha; exact ha
    refine go_instN kX8 ha2 hlk (by simp [rj_ncs, RX8]) hdg ?_
    exact go_eq rfl rfl (congrArg (fun z => rj_i z :: rest) (show (0 : Int) = rj_b (sp_und (s (130 + m)) 4) from (rj_bf (by rw [hk]; decide)).symm)) rfl kk
  · have ha2 : (rc_p X9 cb vv vk c σ).2.2 a = some (.inr (0, rc_mf s m)) := by rw [hk] at ha; exact ha
    refine go_instN kX0 ha2 hlk (by simp [rj_ncs, RX0]) hdg ?_
    exact go_eq rfl rfl (congrArg (fun z => rj_i z :: rest) (show (0 : Int) = rj_b (sp_und (s (130 + m)) 4) from (rj_bf (by rw [hk]; decide)).symm)) rfl kk
  · have ha2 : (rc_p X9 cb vv vk c σ).2.2 a = some (.inr (3, rc_mf s m)) := by rw [hk] at ha; exact ha
    refine go_instN kX3 ha2 hlk (by simp [rj_ncs, RX3]) hdg ?_
    exact go_eq rfl rfl (congrArg (fun z => rj_i z :: rest) (show (0 : Int) = rj_b (sp_und (s (130 + m)) 4) from (rj_bf (by rw [hk]; decide)).symm)) rfl kk
  · have ha2 : (rc_p X9 cb vv vk c σ).2.2 a = some (.inr (1, rc_mf s m)) := by rw [hk] at ha; exact ha
    refine go_instS kX1 ha2 hlk hdg ?_
    exact go_eq rfl rfl (congrArg (fun z => rj_i z :: rest) (show (1 : Int) = rj_b (sp_und (s (130 + m)) 4) from (rj_bt (by rw [hk]; decide)).symm)) rfl kk
  · have ha2 : (rc_p X9 cb vv vk c σ).2.2 a = some (.inr (4, rc_mf s m)) := by rw [hk] at ha; exact ha
    refine go_instN kX4 ha2 hlk (by simp [rj_ncs, RX4]) hdg ?_
    exact go_eq rfl rfl (congrArg (fun z => rj_i z :: rest) (show (0 : Int) = rj_b (sp_und (s (130 + m)) 4) from (rj_bf (by rw [hk]; decide)).symm)) rfl kk
  · have ha2 : (rc_p X9 cb vv vk c σ).2.2 a = some (.inr (6, rc_mf s m)) := by rw [hk] at ha; exact ha
    refine go_instN kX6 ha2 hlk (by simp [rj_ncs, RX6]) hdg ?_
    exact go_eq rfl rfl (congrArg (fun z => rj_i z :: rest) (show (0 : Int) = rj_b (sp_und (s (130 + m)) 4) from (rj_bf (by rw [hk]; decide)).symm)) rfl kk
theorem rv_inst310_isUnder {X9 : rj_X} {nL : Nat} {rt9 : Option FieldType} {d9 : Nat} {P9 : Option Value → rj_H → Prop} {pc : Nat} {lv : List (Nat × Value)} {rest : List Value} {σ : rj_H} {cb vv vk : Nat} {c : rm_R} {s : Int → Int} {m : Int} {a : Nat} (hm : rc_mir cb vv vk σ s m a) (hkd : 0 ≤ s (130 + m) ∧ s (130 + m) ≤ 6) (hdg : decode cX11_isUnder pc = .ok (.instanceof 310, 3)) (kk : rj_Go X9 yX11_isUnder cX11_isUnder nL rt9 d9 P9 (pc + 3) lv (rj_i (rj_b (sp_und (s (130 + m)) 5)) :: rest) (rc_p X9 cb vv vk c σ)) : rj_Go X9 yX11_isUnder cX11_isUnder nL rt9 d9 P9 pc lv (.ref a :: rest) (rc_p X9 cb vv vk c σ) := by
  have ha := rc_ma (X9 := X9) (c := c) hm
  have hlk : Cond.classLink RX11 310 "SunMirrors$Passing" ∈ rj_tbl := rj_inT 341 (by decide +kernel)
  rcases (show s (130 + m) = 0 ∨ s (130 + m) = 1 ∨ s (130 + m) = 2 ∨ s (130 + m) = 3 ∨ s (130 + m) = 4 ∨ s (130 + m) = 5 ∨ s (130 + m) = 6 by omega) with hk | hk | hk | hk | hk | hk | hk
  · have ha2 : (rc_p X9 cb vv vk c σ).2.2 a = some (.inr (2, rc_mf s m)) := by rw [hk] at ha; exact ha
    refine go_instN kX2 ha2 hlk (by simp [rj_ncs, RX2]) hdg ?_
    exact go_eq rfl rfl (congrArg (fun z => rj_i z :: rest) (show (0 : Int) = rj_b (sp_und (s (130 + m)) 5) from (rj_bf (by rw [hk]; decide)).symm)) rfl kk
  · have ha2 : (rc_p X9 cb vv vk c σ).2.2 a = some (.inr (8, rc_mf s m)) := by rw [hk] at ha; exact ha
    refine go_instN kX8 ha2 hlk (by simp [rj_ncs, RX8]) hdg ?_
    exact go_eq rfl rfl (congrArg (fun z => rj_i z :: rest) (show (0 : Int) = rj_b (sp_und (s (130 + m)) 5) from (rj_bf (by rw [hk]; decide)).symm)) rfl kk
  · have ha2 : (rc_p X9 cb vv vk c σ).2.2 a = some (.inr (0, rc_mf s m)) := by rw [hk] at ha; exact ha
    refine go_instN kX0 ha2 hlk (by simp [rj_ncs, RX0]) hdg ?_
    exact go_eq rfl rfl (congrArg (fun z => rj_i z :: rest) (show (0 : Int) = rj_b (sp_und (s (130 + m)) 5) from (rj_bf (by rw [hk]; decide)).symm)) rfl kk
  · have ha2 : (rc_p X9 cb vv vk c σ).2.2 a = some (.inr (3, rc_mf s m)) := by rw [hk] at ha; exact ha
    refine go_instN kX3 ha2 hlk (by simp [rj_ncs, RX3]) hdg ?_
    exact go_eq rfl rfl (congrArg (fun z => rj_i z :: rest) (show (0 : Int) = rj_b (sp_und (s (130 + m)) 5) from (rj_bf (by rw [hk]; decide)).symm)) rfl kk
  · have ha2 : (rc_p X9 cb vv vk c σ).2.2 a = some (.inr (1, rc_mf s m)) := by rw [hk] at ha; exact ha
    refine go_instN kX1 ha2 hlk (by simp [rj_ncs, RX1]) hdg ?_
    exact go_eq rfl rfl (congrArg (fun z => rj_i z :: rest) (show (0 : Int) = rj_b (sp_und (s (130 + m)) 5) from (rj_bf (by rw [hk]; decide)).symm)) rfl kk
  · have ha2 : (rc_p X9 cb vv vk c σ).2.2 a = some (.inr (4, rc_mf s m)) := by rw [hk] at ha; exact ha
    refine go_instS kX4 ha2 hlk hdg ?_
    exact go_eq rfl rfl (congrArg (fun z => rj_i z :: rest) (show (1 : Int) = rj_b (sp_und (s (130 + m)) 5) from (rj_bt (by rw [hk]; decide)).symm)) rfl kk
  · have ha2 : (rc_p X9 cb vv vk c σ).2.2 a = some (.inr (6, rc_mf s m)) := by rw [hk] at ha; exact ha
    refine go_instN kX6 ha2 hlk (by simp [rj_ncs, RX6]) hdg ?_
    exact go_eq rfl rfl (congrArg (fun z => rj_i z :: rest) (show (0 : Int) = rj_b (sp_und (s (130 + m)) 5) from (rj_bf (by rw [hk]; decide)).symm)) rfl kk
theorem rv_inst310_passesOn {X9 : rj_X} {nL : Nat} {rt9 : Option FieldType} {d9 : Nat} {P9 : Option Value → rj_H → Prop} {pc : Nat} {lv : List (Nat × Value)} {rest : List Value} {σ : rj_H} {cb vv vk : Nat} {c : rm_R} {s : Int → Int} {m : Int} {a : Nat} (hm : rc_mir cb vv vk σ s m a) (hkd : 0 ≤ s (130 + m) ∧ s (130 + m) ≤ 6) (hdg : decode cX11_passesOn pc = .ok (.instanceof 310, 3)) (kk : rj_Go X9 yX11_passesOn cX11_passesOn nL rt9 d9 P9 (pc + 3) lv (rj_i (rj_b (sp_und (s (130 + m)) 5)) :: rest) (rc_p X9 cb vv vk c σ)) : rj_Go X9 yX11_passesOn cX11_passesOn nL rt9 d9 P9 pc lv (.ref a :: rest) (rc_p X9 cb vv vk c σ) := by
  have ha := rc_ma (X9 := X9) (c := c) hm
  have hlk : Cond.classLink RX11 310 "SunMirrors$Passing" ∈ rj_tbl := rj_inT 341 (by decide +kernel)
  rcases (show s (130 + m) = 0 ∨ s (130 + m) = 1 ∨ s (130 + m) = 2 ∨ s (130 + m) = 3 ∨ s (130 + m) = 4 ∨ s (130 + m) = 5 ∨ s (130 + m) = 6 by omega) with hk | hk | hk | hk | hk | hk | hk
  · have ha2 : (rc_p X9 cb vv vk c σ).2.2 a = some (.inr (2, rc_mf s m)) := by rw [hk] at ha; exact ha
    refine go_instN kX2 ha2 hlk (by simp [rj_ncs, RX2]) hdg ?_
    exact go_eq rfl rfl (congrArg (fun z => rj_i z :: rest) (show (0 : Int) = rj_b (sp_und (s (130 + m)) 5) from (rj_bf (by rw [hk]; decide)).symm)) rfl kk
  · have ha2 : (rc_p X9 cb vv vk c σ).2.2 a = some (.inr (8, rc_mf s m)) := by rw [hk] at ha; exact ha
    refine go_instN kX8 ha2 hlk (by simp [rj_ncs, RX8]) hdg ?_
    exact go_eq rfl rfl (congrArg (fun z => rj_i z :: rest) (show (0 : Int) = rj_b (sp_und (s (130 + m)) 5) from (rj_bf (by rw [hk]; decide)).symm)) rfl kk
  · have ha2 : (rc_p X9 cb vv vk c σ).2.2 a = some (.inr (0, rc_mf s m)) := by rw [hk] at ha; exact ha
    refine go_instN kX0 ha2 hlk (by simp [rj_ncs, RX0]) hdg ?_
    exact go_eq rfl rfl (congrArg (fun z => rj_i z :: rest) (show (0 : Int) = rj_b (sp_und (s (130 + m)) 5) from (rj_bf (by rw [hk]; decide)).symm)) rfl kk
  · have ha2 : (rc_p X9 cb vv vk c σ).2.2 a = some (.inr (3, rc_mf s m)) := by rw [hk] at ha; exact ha
    refine go_instN kX3 ha2 hlk (by simp [rj_ncs, RX3]) hdg ?_
    exact go_eq rfl rfl (congrArg (fun z => rj_i z :: rest) (show (0 : Int) = rj_b (sp_und (s (130 + m)) 5) from (rj_bf (by rw [hk]; decide)).symm)) rfl kk
  · have ha2 : (rc_p X9 cb vv vk c σ).2.2 a = some (.inr (1, rc_mf s m)) := by rw [hk] at ha; exact ha
    refine go_instN kX1 ha2 hlk (by simp [rj_ncs, RX1]) hdg ?_
    exact go_eq rfl rfl (congrArg (fun z => rj_i z :: rest) (show (0 : Int) = rj_b (sp_und (s (130 + m)) 5) from (rj_bf (by rw [hk]; decide)).symm)) rfl kk
  · have ha2 : (rc_p X9 cb vv vk c σ).2.2 a = some (.inr (4, rc_mf s m)) := by rw [hk] at ha; exact ha
    refine go_instS kX4 ha2 hlk hdg ?_
    exact go_eq rfl rfl (congrArg (fun z => rj_i z :: rest) (show (1 : Int) = rj_b (sp_und (s (130 + m)) 5) from (rj_bt (by rw [hk]; decide)).symm)) rfl kk
  · have ha2 : (rc_p X9 cb vv vk c σ).2.2 a = some (.inr (6, rc_mf s m)) := by rw [hk] at ha; exact ha
    refine go_instN kX6 ha2 hlk (by simp [rj_ncs, RX6]) hdg ?_
    exact go_eq rfl rfl (congrArg (fun z => rj_i z :: rest) (show (0 : Int) = rj_b (sp_und (s (130 + m)) 5) from (rj_bf (by rw [hk]; decide)).symm)) rfl kk
theorem rv_inst313_isUnder {X9 : rj_X} {nL : Nat} {rt9 : Option FieldType} {d9 : Nat} {P9 : Option Value → rj_H → Prop} {pc : Nat} {lv : List (Nat × Value)} {rest : List Value} {σ : rj_H} {cb vv vk : Nat} {c : rm_R} {s : Int → Int} {m : Int} {a : Nat} (hm : rc_mir cb vv vk σ s m a) (hkd : 0 ≤ s (130 + m) ∧ s (130 + m) ≤ 6) (hdg : decode cX11_isUnder pc = .ok (.instanceof 313, 3)) (kk : rj_Go X9 yX11_isUnder cX11_isUnder nL rt9 d9 P9 (pc + 3) lv (rj_i (rj_b (sp_und (s (130 + m)) 6)) :: rest) (rc_p X9 cb vv vk c σ)) : rj_Go X9 yX11_isUnder cX11_isUnder nL rt9 d9 P9 pc lv (.ref a :: rest) (rc_p X9 cb vv vk c σ) := by
  have ha := rc_ma (X9 := X9) (c := c) hm
  have hlk : Cond.classLink RX11 313 "SunMirrors$Told" ∈ rj_tbl := rj_inT 356 (by decide +kernel)
  rcases (show s (130 + m) = 0 ∨ s (130 + m) = 1 ∨ s (130 + m) = 2 ∨ s (130 + m) = 3 ∨ s (130 + m) = 4 ∨ s (130 + m) = 5 ∨ s (130 + m) = 6 by omega) with hk | hk | hk | hk | hk | hk | hk
  · have ha2 : (rc_p X9 cb vv vk c σ).2.2 a = some (.inr (2, rc_mf s m)) := by rw [hk] at ha; exact ha
    refine go_instN kX2 ha2 hlk (by simp [rj_ncs, RX2]) hdg ?_
    exact go_eq rfl rfl (congrArg (fun z => rj_i z :: rest) (show (0 : Int) = rj_b (sp_und (s (130 + m)) 6) from (rj_bf (by rw [hk]; decide)).symm)) rfl kk
  · have ha2 : (rc_p X9 cb vv vk c σ).2.2 a = some (.inr (8, rc_mf s m)) := by rw [hk] at ha; exact ha
    refine go_instN kX8 ha2 hlk (by simp [rj_ncs, RX8]) hdg ?_
    exact go_eq rfl rfl (congrArg (fun z => rj_i z :: rest) (show (0 : Int) = rj_b (sp_und (s (130 + m)) 6) from (rj_bf (by rw [hk]; decide)).symm)) rfl kk
  · have ha2 : (rc_p X9 cb vv vk c σ).2.2 a = some (.inr (0, rc_mf s m)) := by rw [hk] at ha; exact ha
    refine go_instN kX0 ha2 hlk (by simp [rj_ncs, RX0]) hdg ?_
    exact go_eq rfl rfl (congrArg (fun z => rj_i z :: rest) (show (0 : Int) = rj_b (sp_und (s (130 + m)) 6) from (rj_bf (by rw [hk]; decide)).symm)) rfl kk
  · have ha2 : (rc_p X9 cb vv vk c σ).2.2 a = some (.inr (3, rc_mf s m)) := by rw [hk] at ha; exact ha
    refine go_instN kX3 ha2 hlk (by simp [rj_ncs, RX3]) hdg ?_
    exact go_eq rfl rfl (congrArg (fun z => rj_i z :: rest) (show (0 : Int) = rj_b (sp_und (s (130 + m)) 6) from (rj_bf (by rw [hk]; decide)).symm)) rfl kk
  · have ha2 : (rc_p X9 cb vv vk c σ).2.2 a = some (.inr (1, rc_mf s m)) := by rw [hk] at ha; exact ha
    refine go_instN kX1 ha2 hlk (by simp [rj_ncs, RX1]) hdg ?_
    exact go_eq rfl rfl (congrArg (fun z => rj_i z :: rest) (show (0 : Int) = rj_b (sp_und (s (130 + m)) 6) from (rj_bf (by rw [hk]; decide)).symm)) rfl kk
  · have ha2 : (rc_p X9 cb vv vk c σ).2.2 a = some (.inr (4, rc_mf s m)) := by rw [hk] at ha; exact ha
    refine go_instN kX4 ha2 hlk (by simp [rj_ncs, RX4]) hdg ?_
    exact go_eq rfl rfl (congrArg (fun z => rj_i z :: rest) (show (0 : Int) = rj_b (sp_und (s (130 + m)) 6) from (rj_bf (by rw [hk]; decide)).symm)) rfl kk
  · have ha2 : (rc_p X9 cb vv vk c σ).2.2 a = some (.inr (6, rc_mf s m)) := by rw [hk] at ha; exact ha
    refine go_instS kX6 ha2 hlk hdg ?_
    exact go_eq rfl rfl (congrArg (fun z => rj_i z :: rest) (show (1 : Int) = rj_b (sp_und (s (130 + m)) 6) from (rj_bt (by rw [hk]; decide)).symm)) rfl kk
set_option maxRecDepth 20000 in
/-- x_under -/
theorem x_under {X9 : rj_X} {σ : rj_H} {d cb vv vk : Nat} {c : rm_R} {m k : Int} {s : Int → Int} {ad : Nat → Int → Nat} (hR : rc_R X9 cb vv vk c σ s ad) (hI : sp_I s) (hm : 0 ≤ m ∧ m < s 0) (hk : 0 ≤ k ∧ k ≤ 6) : rj_Cl X9 d yX11_isUnder cX11_isUnder 2 (some .boolean) [.ref (ad 0 m), rj_i k] (rc_p X9 cb vv vk c σ) (fun w9 τ => w9 = some (rj_i (rj_b (sp_und (s (130 + m)) k))) ∧ τ = rc_p X9 cb vv vk c σ) := by
  obtain ⟨⟨h0, h1, h2, h3, h4, h5, h6, h7⟩, hM, hP, hW, hL, hV⟩ := id hI
  obtain ⟨v1, v2, v3, v4⟩ := id hV
  refine go_call (by decide +kernel) (Nat.le_of_ble_eq_true rfl) ?_
  refine go_eq (pc' := 0) (lv' := [(0, .ref (ad 0 m)), (1, rj_i k)]) (st' := []) rfl rfl rfl rfl ?_
  refine go_iload_n dX11_isUnder_0 rfl 1 rfl ?_
  rcases (show k = 0 ∨ k = 1 ∨ k = 2 ∨ k = 3 ∨ k = 4 ∨ k = 5 ∨ k = 6 by omega) with rfl | rfl | rfl | rfl | rfl | rfl | rfl
  · refine go_tableIn (off := 43) (tgt := 44) dX11_isUnder_1 (by decide) (by decide) (by decide) (by decide) ?_
    refine go_iconst (v := Int32.ofInt 1) dX11_isUnder_44 rfl ?_
    refine go_retI rfl (rj_n01 (by decide)) ?_ dX11_isUnder_45
    exact ⟨rj_vi (rj_bt (Or.inl rfl)).symm, rfl⟩
  · refine go_tableIn (off := 45) (tgt := 46) dX11_isUnder_1 (by decide) (by decide) (by decide) (by decide) ?_
    refine go_aload_n dX11_isUnder_46 rfl 0 rfl ?_
    refine rv_inst296_isUnder (m := m) (hR.mir m (by omega) (by omega)).2 (hM m (by omega) (by omega)).1 dX11_isUnder_47 ?_
    refine go_retI rfl (rj_nb _) ?_ dX11_isUnder_50
    exact ⟨rfl, rfl⟩
  · refine go_tableIn (off := 50) (tgt := 51) dX11_isUnder_1 (by decide) (by decide) (by decide) (by decide) ?_
    refine go_aload_n dX11_isUnder_51 rfl 0 rfl ?_
    refine rv_inst301_isUnder (m := m) (hR.mir m (by omega) (by omega)).2 (hM m (by omega) (by omega)).1 dX11_isUnder_52 ?_
    refine go_retI rfl (rj_nb _) ?_ dX11_isUnder_55
    exact ⟨rfl, rfl⟩
  · refine go_tableIn (off := 55) (tgt := 56) dX11_isUnder_1 (by decide) (by decide) (by decide) (by decide) ?_
    refine go_aload_n dX11_isUnder_56 rfl 0 rfl ?_
    refine rv_inst304_isUnder (m := m) (hR.mir m (by omega) (by omega)).2 (hM m (by omega) (by omega)).1 dX11_isUnder_57 ?_
    refine go_retI rfl (rj_nb _) ?_ dX11_isUnder_60
    exact ⟨rfl, rfl⟩
  · refine go_tableIn (off := 60) (tgt := 61) dX11_isUnder_1 (by decide) (by decide) (by decide) (by decide) ?_
    refine go_aload_n dX11_isUnder_61 rfl 0 rfl ?_
    refine rv_inst307_isUnder (m := m) (hR.mir m (by omega) (by omega)).2 (hM m (by omega) (by omega)).1 dX11_isUnder_62 ?_
    refine go_retI rfl (rj_nb _) ?_ dX11_isUnder_65
    exact ⟨rfl, rfl⟩
  · refine go_tableIn (off := 65) (tgt := 66) dX11_isUnder_1 (by decide) (by decide) (by decide) (by decide) ?_
    refine go_aload_n dX11_isUnder_66 rfl 0 rfl ?_
    refine rv_inst310_isUnder (m := m) (hR.mir m (by omega) (by omega)).2 (hM m (by omega) (by omega)).1 dX11_isUnder_67 ?_
    refine go_retI rfl (rj_nb _) ?_ dX11_isUnder_70
    exact ⟨rfl, rfl⟩
  · refine go_tableIn (off := 70) (tgt := 71) dX11_isUnder_1 (by decide) (by decide) (by decide) (by decide) ?_
    refine go_aload_n dX11_isUnder_71 rfl 0 rfl ?_
    refine rv_inst313_isUnder (m := m) (hR.mir m (by omega) (by omega)).2 (hM m (by omega) (by omega)).1 dX11_isUnder_72 ?_
    refine go_retI rfl (rj_nb _) ?_ dX11_isUnder_75
    exact ⟨rfl, rfl⟩
set_option maxRecDepth 20000 in
/-- x_as -/
theorem x_as {X9 : rj_X} {σ : rj_H} {d cb vv vk : Nat} {c : rm_R} {m k : Int} (hd : 2 ≤ d) (hm : -2147483648 ≤ m ∧ m < 2147483648) (hk : -2147483648 ≤ k ∧ k < 2147483648) {s : Int → Int} {ad : Nat → Int → Nat} (hR : rc_R X9 cb vv vk c σ s ad) (hI : sp_I s) : rj_Cl X9 d yX11_as cX11_as 4 (some .int) [.ref cb, rj_i m, rj_i k] (rc_p X9 cb vv vk c σ) (fun w9 τ => w9 = some (rj_i (sp_asF s m k)) ∧ τ = rc_p X9 cb vv vk c σ) := by
  obtain ⟨⟨h0, h1, h2, h3, h4, h5, h6, h7⟩, hM, hP, hW, hL, hV⟩ := id hI
  obtain ⟨v1, v2, v3, v4⟩ := id hV
  refine go_call (by decide +kernel) (Nat.le_of_ble_eq_true rfl) ?_
  refine go_eq (pc' := 0) (lv' := [(0, .ref cb), (1, rj_i m), (2, rj_i k)]) (st' := []) rfl rfl rfl rfl ?_
  refine go_aload_n dX11_as_0 rfl 0 rfl ?_
  refine rc_gx hR.V (k := 0) (by decide) fX11_12 rfl dX11_as_1 ?_
  refine go_iload_n dX11_as_4 rfl 1 rfl ?_
  by_cases hm : 0 ≤ m ∧ m < s 0
  · refine go_callV (d1 := d - 1) wVX11_94 kX5 (rc_a1 hR.V) rfl (by omega) (x_mirrorAt_y (m := m) (by omega) hR hI hm) rfl (Nat.le_of_ble_eq_true rfl) dX11_as_5 (fun w σ1 hP9 => ?_)
    obtain ⟨rfl, rfl⟩ := hP9
    refine go_astore_nS (lv' := [(0, .ref cb), (1, rj_i m), (2, rj_i k), (3, .ref (ad 0 m))]) rfl (by decide) rfl dX11_as_8 ?_
    refine go_aload_n dX11_as_9 rfl 3 rfl ?_
    refine go_ifnull dX11_as_10 ?_
    refine go_iload_n dX11_as_13 rfl 2 rfl ?_
    refine go_if_ltI (tgt := 23) (by omega) dX11_as_14 (by decide) (fun c_14 => ?_) (fun c_14 => ?_)
    · refine go_iconst (v := Int32.ofInt (-1)) dX11_as_23 rfl ?_
      refine go_retI rfl rfl ?_ dX11_as_24
      exact ⟨rj_vi (by unfold sp_asF; rw [if_neg (by omega)]), rfl⟩
    · refine go_iload_n dX11_as_17 rfl 2 rfl ?_
      refine go_bipush (v := Int32.ofInt 7) dX11_as_18 (by decide) ?_
      refine go_icmp_ltI (tgt := 25) (by omega) (by omega) dX11_as_20 (by decide) (fun c_20 => ?_) (fun c_20 => ?_)
      · refine go_aload_n dX11_as_25 rfl 3 rfl ?_
        refine go_iload_n dX11_as_26 rfl 2 rfl ?_
        refine go_callS (d1 := d - 1) wSX11_286 rfl (by omega) (x_under (m := m) (k := k) hR hI (by omega) (by omega)) rfl (Nat.le_of_ble_eq_true rfl) dX11_as_27 (fun w σ1 hP9 => ?_)
        obtain ⟨rfl, rfl⟩ := hP9
        refine go_if_eqB (tgt := 40) dX11_as_30 (by decide) (fun c_30 => ?_) (fun c_30 => ?_)
        · refine go_bipush (v := Int32.ofInt (-6)) dX11_as_40 (by decide) ?_
          refine go_retI rfl rfl ?_ dX11_as_42
          exact ⟨rj_vi (by unfold sp_asF; rw [if_pos (by omega), if_neg c_30]), rfl⟩
        · refine go_aload_n dX11_as_33 rfl 3 rfl ?_
          refine rc_gm (hR.mir m (by omega) (by omega)).2 ((hM m (by omega) (by omega)).1) (k := 7) (by decide) fX11_289 rfl dX11_as_34 ?_
          refine go_goto (tgt := 42) dX11_as_37 (by decide) ?_
          refine go_retI rfl rfl ?_ dX11_as_42
          exact ⟨rj_vi (by unfold sp_asF; rw [if_pos (by omega), if_pos c_30]), rfl⟩
      · refine go_iconst (v := Int32.ofInt (-1)) dX11_as_23 rfl ?_
        refine go_retI rfl rfl ?_ dX11_as_24
        exact ⟨rj_vi (by unfold sp_asF; rw [if_neg (by omega)]), rfl⟩
  · refine go_callV (d1 := d - 1) wVX11_94 kX5 (rc_a1 hR.V) rfl (by omega) (x_mirrorAt_n0 (m := m) (by omega) (by omega) hR hI hm) rfl (Nat.le_of_ble_eq_true rfl) dX11_as_5 (fun w σ1 hP9 => ?_)
    obtain ⟨rfl, rfl⟩ := hP9
    refine go_astore_nSN (lv' := [(0, .ref cb), (1, rj_i m), (2, rj_i k), (3, .null)]) rfl (by decide) rfl dX11_as_8 ?_
    refine go_aload_nN dX11_as_9 rfl 3 rfl ?_
    refine go_ifnullN (tgt := 23) dX11_as_10 (by decide) ?_
    refine go_iconst (v := Int32.ofInt (-1)) dX11_as_23 rfl ?_
    refine go_retI rfl rfl ?_ dX11_as_24
    exact ⟨rj_vi (by unfold sp_asF; rw [if_neg (by omega)]), rfl⟩
set_option maxRecDepth 20000 in
/-- x_passesOn -/
theorem x_passesOn {X9 : rj_X} {σ : rj_H} {d cb vv vk : Nat} {c : rm_R} {m g p : Int} (hd : 3 ≤ d) {s : Int → Int} {ad : Nat → Int → Nat} (hR : rc_R X9 cb vv vk c σ s ad) (hI : sp_I s) (hm : 0 ≤ m ∧ m < s 0) (hg : 0 ≤ g ∧ g < s 0) (hp : 0 ≤ p ∧ p < s 1) : rj_Cl X9 d yX11_passesOn cX11_passesOn 4 (some .boolean) [.ref cb, .ref (ad 0 m), .ref (ad 0 g), rj_i p] (rc_p X9 cb vv vk c σ) (fun w9 τ => w9 = some (rj_i (rj_b (s (130 + g) = 5 ∧ sp_open s (s (136 + m)) (s (142 + m)) (s (148 + m)) (s (136 + g)) (s (142 + g)) (s (148 + g)) = true ∧ sp_free s g p = true))) ∧ τ = rc_p X9 cb vv vk c σ) := by
  obtain ⟨⟨h0, h1, h2, h3, h4, h5, h6, h7⟩, hM, hP, hW, hL, hV⟩ := id hI
  obtain ⟨v1, v2, v3, v4⟩ := id hV
  obtain ⟨g1, g2, g3, g4, g5, g6, g7⟩ := hM g (by omega) (by omega)
  refine go_call (by decide +kernel) (Nat.le_of_ble_eq_true rfl) ?_
  refine go_eq (pc' := 0) (lv' := [(0, .ref cb), (1, .ref (ad 0 m)), (2, .ref (ad 0 g)), (3, rj_i p)]) (st' := []) rfl rfl rfl rfl ?_
  refine go_aload_n dX11_passesOn_0 rfl 2 rfl ?_
  refine rv_inst310_passesOn (m := g) (hR.mir g (by omega) (by omega)).2 (hM g (by omega) (by omega)).1 dX11_passesOn_1 ?_
  refine go_if_eqB (tgt := 46) dX11_passesOn_4 (by decide) (fun c_4 => ?_) (fun c_4 => ?_)
  · refine go_iconst (v := Int32.ofInt 0) dX11_passesOn_46 rfl ?_
    refine go_retI rfl (rj_n01 (by decide)) ?_ dX11_passesOn_47
    exact ⟨rj_vi ((rj_bf (fun q => c_4 (by unfold sp_und; omega))).symm), rfl⟩
  · refine go_aload_n dX11_passesOn_7 rfl 0 rfl ?_
    refine rc_gx hR.V (k := 0) (by decide) fX11_12 rfl dX11_passesOn_8 ?_
    refine go_aload_n dX11_passesOn_11 rfl 1 rfl ?_
    refine go_aload_n dX11_passesOn_12 rfl 2 rfl ?_
    refine rc_gm (hR.mir g (by omega) (by omega)).2 ((hM g (by omega) (by omega)).1) (k := 2) (by decide) fX11_350 rfl dX11_passesOn_13 ?_
    refine go_aload_n dX11_passesOn_16 rfl 2 rfl ?_
    refine rc_gm (hR.mir g (by omega) (by omega)).2 ((hM g (by omega) (by omega)).1) (k := 3) (by decide) fX11_353 rfl dX11_passesOn_17 ?_
    refine go_aload_n dX11_passesOn_20 rfl 2 rfl ?_
    refine rc_gm (hR.mir g (by omega) (by omega)).2 ((hM g (by omega) (by omega)).1) (k := 4) (by decide) fX11_356 rfl dX11_passesOn_21 ?_
    refine go_callV (d1 := d - 1) wVX11_359 kX5 (rc_a1 hR.V) rfl (by omega) (x_wallB (m := m) (u := s (136 + g)) (v := s (142 + g)) (lo := s (148 + g)) (by omega) hR hI (by omega) (by omega) (by omega) (by omega)) rfl (Nat.le_of_ble_eq_true rfl) dX11_passesOn_24 (fun w σ1 hP9 => ?_)
    obtain ⟨rfl, rfl⟩ := hP9
    refine go_if_neB (tgt := 46) dX11_passesOn_27 (by decide) (fun c_27 => ?_) (fun c_27 => ?_)
    · refine go_iconst (v := Int32.ofInt 0) dX11_passesOn_46 rfl ?_
      refine go_retI rfl (rj_n01 (by decide)) ?_ dX11_passesOn_47
      exact ⟨rj_vi ((rj_bf (fun q => by rw [q.2.1] at c_27; exact absurd c_27 (by decide))).symm), rfl⟩
    · refine go_aload_n dX11_passesOn_30 rfl 0 rfl ?_
      refine rc_gx hR.V (k := 0) (by decide) fX11_12 rfl dX11_passesOn_31 ?_
      refine go_aload_n dX11_passesOn_34 rfl 2 rfl ?_
      refine go_iload_n dX11_passesOn_35 rfl 3 rfl ?_
      refine go_callV (d1 := d - 1) wVX11_128 kX5 (rc_a1 hR.V) rfl (by omega) (x_wayFree (m := g) (p := p) (by omega) hR hI (by omega) (by omega)) rfl (Nat.le_of_ble_eq_true rfl) dX11_passesOn_36 (fun w σ1 hP9 => ?_)
      obtain ⟨rfl, rfl⟩ := hP9
      refine go_if_eqB (tgt := 46) dX11_passesOn_39 (by decide) (fun c_39 => ?_) (fun c_39 => ?_)
      · refine go_iconst (v := Int32.ofInt 0) dX11_passesOn_46 rfl ?_
        refine go_retI rfl (rj_n01 (by decide)) ?_ dX11_passesOn_47
        exact ⟨rj_vi ((rj_bf (fun q => c_39 q.2.2)).symm), rfl⟩
      · refine go_iconst (v := Int32.ofInt 1) dX11_passesOn_42 rfl ?_
        refine go_goto (tgt := 47) dX11_passesOn_43 (by decide) ?_
        refine go_retI rfl (rj_n01 (by decide)) ?_ dX11_passesOn_47
        exact ⟨rj_vi ((rj_bt (by refine ⟨?_, ?_, c_39⟩; (· unfold sp_und at c_4; omega); (· simpa using c_27))).symm), rfl⟩
set_option maxRecDepth 20000 in
/-- x_passed -/
theorem x_passed {X9 : rj_X} {σ : rj_H} {d cb vv vk : Nat} {c : rm_R} {m p q : Int} (hd : 4 ≤ d) (hm : -2147483648 ≤ m ∧ m < 2147483648) (hp : -2147483648 ≤ p ∧ p < 2147483648) (hq : -2147483648 ≤ q ∧ q < 2147483648) {s : Int → Int} {ad : Nat → Int → Nat} (hR : rc_R X9 cb vv vk c σ s ad) (hI : sp_I s) : rj_Cl X9 d yX11_passed cX11_passed 6 (some .int) [.ref cb, rj_i m, rj_i p, rj_i q] (rc_p X9 cb vv vk c σ) (fun w9 τ => w9 = some (rj_i (sp_pasF s m p q)) ∧ ∃ c0, rc_t 92 c c0 ∧ τ = rc_p X9 cb vv vk c0 σ) := by
  obtain ⟨⟨h0, h1, h2, h3, h4, h5, h6, h7⟩, hM, hP, hW, hL, hV⟩ := id hI
  obtain ⟨v1, v2, v3, v4⟩ := id hV
  refine go_call (by decide +kernel) (Nat.le_of_ble_eq_true rfl) ?_
  refine go_eq (pc' := 0) (lv' := [(0, .ref cb), (1, rj_i m), (2, rj_i p), (3, rj_i q)]) (st' := []) rfl rfl rfl rfl ?_
  refine go_aload_n dX11_passed_0 rfl 0 rfl ?_
  refine rc_gx hR.V (k := 0) (by decide) fX11_12 rfl dX11_passed_1 ?_
  refine go_iload_n dX11_passed_4 rfl 1 rfl ?_
  by_cases hm : 0 ≤ m ∧ m < s 0
  · refine go_callV (d1 := d - 1) wVX11_94 kX5 (rc_a1 hR.V) rfl (by omega) (x_mirrorAt_y (m := m) (by omega) hR hI hm) rfl (Nat.le_of_ble_eq_true rfl) dX11_passed_5 (fun w σ1 hP9 => ?_)
    obtain ⟨rfl, rfl⟩ := hP9
    refine go_astoreS (lv' := [(0, .ref cb), (1, rj_i m), (2, rj_i p), (3, rj_i q), (4, .ref (ad 0 m))]) (by decide) rfl dX11_passed_8 ?_
    refine go_aload dX11_passed_10 4 rfl ?_
    refine go_ifnull dX11_passed_12 ?_
    refine go_aload_n dX11_passed_15 rfl 0 rfl ?_
    refine rc_gx hR.V (k := 0) (by decide) fX11_12 rfl dX11_passed_16 ?_
    refine go_iload_n dX11_passed_19 rfl 2 rfl ?_
    refine go_callV (d1 := d - 1) wVX11_104 kX5 (rc_a1 hR.V) rfl (by omega) (x_hasPatch (p := p) (by omega) hR hI) rfl (Nat.le_of_ble_eq_true rfl) dX11_passed_20 (fun w σ1 hP9 => ?_)
    obtain ⟨rfl, rfl⟩ := hP9
    refine go_if_eqB (tgt := 33) dX11_passed_23 (by decide) (fun c_23 => ?_) (fun c_23 => ?_)
    · refine go_iconst (v := Int32.ofInt (-1)) dX11_passed_33 rfl ?_
      refine go_retI rfl rfl ?_ dX11_passed_34
      exact ⟨rj_vi (by unfold sp_pasF; rw [if_neg (by omega)]), c, rc_t.rf, rfl⟩
    · refine go_iload_n dX11_passed_26 rfl 3 rfl ?_
      refine go_callS (d1 := d - 1) wSX11_143 rfl (by omega) (x_quarter (q := q) (by omega)) rfl (Nat.le_of_ble_eq_true rfl) dX11_passed_27 (fun w σ1 hP9 => ?_)
      obtain ⟨rfl, rfl⟩ := hP9
      refine go_if_neB (tgt := 35) dX11_passed_30 (by decide) (fun c_30 => ?_) (fun c_30 => ?_)
      · refine go_aload_n dX11_passed_35 rfl 0 rfl ?_
        refine rc_gx hR.V (k := 0) (by decide) fX11_12 rfl dX11_passed_36 ?_
        refine go_aload dX11_passed_39 4 rfl ?_
        refine go_callV (d1 := d - 1) wVX11_132 kX5 (rc_a1 hR.V) rfl (by omega) (x_lit (m := m) (by omega) hR hI (by omega)) rfl (Nat.le_of_ble_eq_true rfl) dX11_passed_41 (fun w σ1 hP9 => ?_)
        obtain ⟨rfl, c1, hc1, rfl⟩ := hP9
        have hr1 : rc_t 92 c c1 := hc1
        refine go_iload_n dX11_passed_44 rfl 3 rfl ?_
        refine go_callS (d1 := d - 1) wSX11_225 rfl (by omega) (x_isInM (P := (fun q7 => sp_so s (s 4) (-11) m 99 q7)) (q := q) (by omega)) rfl (Nat.le_of_ble_eq_true rfl) dX11_passed_45 (fun w σ1 hP9 => ?_)
        obtain ⟨rfl, rfl⟩ := hP9
        refine go_if_neB (tgt := 54) dX11_passed_48 (by decide) (fun c_48 => ?_) (fun c_48 => ?_)
        · refine go_iconst (v := Int32.ofInt 0) dX11_passed_54 rfl ?_
          refine go_istoreS (lv' := [(0, .ref cb), (1, rj_i m), (2, rj_i p), (3, rj_i q), (4, .ref (ad 0 m)), (5, rj_i 0)]) (by decide) rfl dX11_passed_55 ?_
          have loop : ∀ (n2 k : Nat) (cl : rm_R), k + n2 = (s 0).toNat → rc_t 92 c cl → sp_pasF s m p q = sp_pasN s m p n2 k → rj_Go X9 yX11_passed cX11_passed 6 (some .int) d (fun w9 τ => w9 = some (rj_i (sp_pasF s m p q)) ∧ ∃ c0, rc_t 92 c c0 ∧ τ = rc_p X9 cb vv vk c0 σ) 57 [(0, .ref cb), (1, rj_i m), (2, rj_i p), (3, rj_i q), (4, .ref (ad 0 m)), (5, rj_i (k : Int))] [] (rc_p X9 cb vv vk cl σ) := by
            intro n2
            induction n2 with
            | zero =>
              intro k cl hk hl hg0
              refine go_iload dX11_passed_57 5 rfl ?_
              refine go_aload_n dX11_passed_59 rfl 0 rfl ?_
              refine rc_gx (hR.t (hl.le (by decide))).V (k := 0) (by decide) fX11_12 rfl dX11_passed_60 ?_
              refine rc_gs (hR.t (hl.le (by decide))).V (k := 1) (v := rj_i (s 0)) (by decide) fX11_60 (rj_vi (hR.t (hl.le (by decide))).n0) dX11_passed_63 ?_
              refine go_icmp_geI (tgt := 104) (by omega) (by omega) dX11_passed_66 (by decide) (fun c_66 => ?_) (fun c_66 => ?_)
              · refine go_bipush (v := Int32.ofInt (-5)) dX11_passed_104 (by decide) ?_
                refine go_retI rfl rfl ?_ dX11_passed_106
                exact ⟨rj_vi (by rw [hg0]; rfl), cl, hl, rfl⟩
              · exact absurd c_66 (by omega)
            | succ n2 ih =>
              intro k cl hk hl hg0
              refine go_iload dX11_passed_57 5 rfl ?_
              refine go_aload_n dX11_passed_59 rfl 0 rfl ?_
              refine rc_gx (hR.t (hl.le (by decide))).V (k := 0) (by decide) fX11_12 rfl dX11_passed_60 ?_
              refine rc_gs (hR.t (hl.le (by decide))).V (k := 1) (v := rj_i (s 0)) (by decide) fX11_60 (rj_vi (hR.t (hl.le (by decide))).n0) dX11_passed_63 ?_
              refine go_icmp_geI (tgt := 104) (by omega) (by omega) dX11_passed_66 (by decide) (fun c_66 => ?_) (fun c_66 => ?_)
              · exact absurd c_66 (by omega)
              · refine go_iload dX11_passed_69 5 rfl ?_
                refine go_iload_n dX11_passed_71 rfl 1 rfl ?_
                refine go_icmp_eqI (tgt := 98) (by omega) (by omega) dX11_passed_72 (by decide) (fun c_72 => ?_) (fun c_72 => ?_)
                · refine go_iincI (a := (k : Int)) (n := 1) (k0 := 5) (lv' := [(0, .ref cb), (1, rj_i m), (2, rj_i p), (3, rj_i q), (4, .ref (ad 0 m)), (5, rj_i ((k : Int) + 1))]) rfl (by decide) rfl dX11_passed_98 ?_
                  refine go_goto (tgt := 57) dX11_passed_101 (by decide) ?_
                  exact go_eq rfl (lv' := [(0, .ref cb), (1, rj_i m), (2, rj_i p), (3, rj_i q), (4, .ref (ad 0 m)), (5, rj_i ((k + 1 : Nat) : Int))]) (rj_lk (rj_lk (rj_lk (rj_lk (rj_lk (rj_lj (by omega) rfl)))))) rfl rfl (ih (k + 1) cl (by omega) hl (by rw [hg0, sp_pasN, if_neg (by unfold sp_pas; rw [decide_eq_false (show ¬ (k : Int) ≠ m by omega)]; simp)]))
                · refine go_aload_n dX11_passed_75 rfl 0 rfl ?_
                  refine go_aload dX11_passed_76 4 rfl ?_
                  refine go_aload_n dX11_passed_78 rfl 0 rfl ?_
                  refine rc_gx (hR.t (hl.le (by decide))).V (k := 0) (by decide) fX11_12 rfl dX11_passed_79 ?_
                  refine rc_gs (hR.t (hl.le (by decide))).V (k := 0) (v := .ref (cb + 2)) (by decide) fX11_64 rfl dX11_passed_82 ?_
                  refine go_iload dX11_passed_85 5 rfl ?_
                  refine rc_em (hR.t (hl.le (by decide))) (m := (k : Int)) (by omega) (by omega) h0 dX11_passed_87 ?_
                  refine go_iload_n dX11_passed_88 rfl 2 rfl ?_
                  refine go_callV (d1 := d - 1) wVX11_229 kX11 (rc_a0 (hR.t (hl.le (by decide))).V) rfl (by omega) (x_passesOn (m := m) (g := (k : Int)) (p := p) (by omega) (hR.t (hl.le (by decide))) hI (by omega) (by omega) (by omega)) rfl (Nat.le_of_ble_eq_true rfl) dX11_passed_89 (fun w σ1 hP9 => ?_)
                  obtain ⟨rfl, rfl⟩ := hP9
                  refine go_if_eqB (tgt := 98) dX11_passed_92 (by decide) (fun c_92 => ?_) (fun c_92 => ?_)
                  · refine go_iincI (a := (k : Int)) (n := 1) (k0 := 5) (lv' := [(0, .ref cb), (1, rj_i m), (2, rj_i p), (3, rj_i q), (4, .ref (ad 0 m)), (5, rj_i ((k : Int) + 1))]) rfl (by decide) rfl dX11_passed_98 ?_
                    refine go_goto (tgt := 57) dX11_passed_101 (by decide) ?_
                    exact go_eq rfl (lv' := [(0, .ref cb), (1, rj_i m), (2, rj_i p), (3, rj_i q), (4, .ref (ad 0 m)), (5, rj_i ((k + 1 : Nat) : Int))]) (rj_lk (rj_lk (rj_lk (rj_lk (rj_lk (rj_lj (by omega) rfl)))))) rfl rfl (ih (k + 1) cl (by omega) hl (by rw [hg0, sp_pasN, if_neg (by unfold sp_pas; simp only [Bool.and_eq_true, decide_eq_true_eq]; exact fun q => c_92 ⟨q.1.1.2, q.2, q.1.2⟩)]))
                  · refine go_iload dX11_passed_95 5 rfl ?_
                    refine go_retI rfl rfl ?_ dX11_passed_97
                    exact ⟨rj_vi (by rw [hg0, sp_pasN, if_pos (by unfold sp_pas; rw [decide_eq_true (show (k : Int) ≠ m by omega), decide_eq_true c_92.1, c_92.2.2, c_92.2.1]; rfl)]), cl, hl, rfl⟩
          exact go_eq rfl (lv' := [(0, .ref cb), (1, rj_i m), (2, rj_i p), (3, rj_i q), (4, .ref (ad 0 m)), (5, rj_i ((0 : Nat) : Int))]) (rj_lk (rj_lk (rj_lk (rj_lk (rj_lk (rj_lj (rfl) rfl)))))) rfl rfl (loop (s 0).toNat 0 c1 (by omega) hr1 (by unfold sp_pasF; rw [if_pos (by omega), if_pos c_48]))
        · refine go_bipush (v := Int32.ofInt (-5)) dX11_passed_51 (by decide) ?_
          refine go_retI rfl rfl ?_ dX11_passed_53
          exact ⟨rj_vi (by unfold sp_pasF; rw [if_pos (by omega), if_neg c_48]), c1, hr1, rfl⟩
      · refine go_iconst (v := Int32.ofInt (-1)) dX11_passed_33 rfl ?_
        refine go_retI rfl rfl ?_ dX11_passed_34
        exact ⟨rj_vi (by unfold sp_pasF; rw [if_neg (by omega)]), c, rc_t.rf, rfl⟩
  · refine go_callV (d1 := d - 1) wVX11_94 kX5 (rc_a1 hR.V) rfl (by omega) (x_mirrorAt_n0 (m := m) (by omega) (by omega) hR hI hm) rfl (Nat.le_of_ble_eq_true rfl) dX11_passed_5 (fun w σ1 hP9 => ?_)
    obtain ⟨rfl, rfl⟩ := hP9
    refine go_astoreSN (lv' := [(0, .ref cb), (1, rj_i m), (2, rj_i p), (3, rj_i q), (4, .null)]) (by decide) rfl dX11_passed_8 ?_
    refine go_aloadN dX11_passed_10 4 rfl ?_
    refine go_ifnullN (tgt := 33) dX11_passed_12 (by decide) ?_
    refine go_iconst (v := Int32.ofInt (-1)) dX11_passed_33 rfl ?_
    refine go_retI rfl rfl ?_ dX11_passed_34
    exact ⟨rj_vi (by unfold sp_pasF; rw [if_neg (by omega)]), c, rc_t.rf, rfl⟩
