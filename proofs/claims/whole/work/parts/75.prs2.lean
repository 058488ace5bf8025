/-! THE CLASS: its parser, second -/
set_option maxRecDepth 20000 in
/-- v_reads_y -/
theorem v_reads_y {X9 : rj_X} {σ : rj_H} {d va tx : Nat} {g : rm_R} {T : Int → Int} {e p n : Int} {c9 : Int} (hd : 1 ≤ d) (hX : pv_X X9 va tx σ T e) (hP : pv_P T e p n g) (hc : 0 ≤ c9 ∧ c9 ≤ 65535) (h9 : sp_hr T e p = c9) : rj_Cl X9 d yX9_reads cX9_reads 2 (some .boolean) [.ref va, rj_i c9] (pv_p X9 va tx g σ) (fun w9 τ => w9 = some (rj_i 1) ∧ τ = pv_p X9 va tx (pv_mv T e (p + 1) g) σ) := by
  obtain ⟨hX1, hX2, hX3, -⟩ := id hX
  obtain ⟨-, -, -, -, hp, hn⟩ := id hP
  have hr := sp_hr_b hX3 hp.1
  have hl0 : ([] : List Int).length = 0 := rfl
  refine go_call (by decide +kernel) (Nat.le_of_ble_eq_true rfl) ?_
  refine go_eq (pc' := 0) (lv' := [(0, .ref va), (1, rj_i c9)]) (st' := []) rfl rfl rfl rfl ?_
  refine go_aload_n dX9_reads_0 rfl 0 rfl ?_
  refine pv_g12 fX9_58 dX9_reads_1 ?_
  rw [(show g 0 12 = sp_hr T e p from (pv_e.rf hP).1.2)]
  refine go_iload_n dX9_reads_4 rfl 1 rfl ?_
  refine go_icmp_eqI (tgt := 10) (by omega) (by omega) dX9_reads_5 (by decide) (fun c_5 => ?_) (fun c_5 => ?_)
  · refine go_aload_n dX9_reads_10 rfl 0 rfl ?_
    refine go_callV (d1 := d - 1) wVX9_77 kX9 pv_0 rfl (by omega) (v_move (q := p) hX (by omega) (show g 0 11 = p from (pv_e.rf hP).1.1) (show g 0 10 = e from (pv_e.rf hP).2.2.1.2.2.2.trans hP.2.2.1)) rfl (Nat.le_of_ble_eq_true rfl) dX9_reads_11 (fun w σ1 hP9 => ?_)
    obtain ⟨rfl, rfl⟩ := hP9
    have hv1 := sp_hr_b (p := p) hX3 (by omega)
    have e1 := pv_mv_e hP
    have E1 := (pv_e.rf hP).tr e1
    have P1 := e1.P hP ⟨by omega, by omega, by simp; omega⟩
    obtain ⟨g1, eg1⟩ : ∃ x_, x_ = pv_mv T e (p + 1) g := ⟨_, rfl⟩
    rw [← eg1] at e1 E1 P1
    rw [← eg1]
    refine go_iconst (v := Int32.ofInt 1) dX9_reads_14 rfl ?_
    refine go_retI rfl (rj_n01 (by decide)) ?_ dX9_reads_15
    exact ⟨rfl, by rw [eg1]⟩
  · exact absurd h9 c_5
set_option maxRecDepth 20000 in
/-- v_reads_n -/
theorem v_reads_n {X9 : rj_X} {σ : rj_H} {d va tx : Nat} {g : rm_R} {T : Int → Int} {e p n : Int} {c9 : Int} (hX : pv_X X9 va tx σ T e) (hP : pv_P T e p n g) (hc : 0 ≤ c9 ∧ c9 ≤ 65535) (h9 : ¬ sp_hr T e p = c9) : rj_Cl X9 d yX9_reads cX9_reads 2 (some .boolean) [.ref va, rj_i c9] (pv_p X9 va tx g σ) (fun w9 τ => w9 = some (rj_i 0) ∧ τ = pv_p X9 va tx g σ) := by
  obtain ⟨hX1, hX2, hX3, -⟩ := id hX
  obtain ⟨-, -, -, -, hp, hn⟩ := id hP
  have hr := sp_hr_b hX3 hp.1
  have hl0 : ([] : List Int).length = 0 := rfl
  refine go_call (by decide +kernel) (Nat.le_of_ble_eq_true rfl) ?_
  refine go_eq (pc' := 0) (lv' := [(0, .ref va), (1, rj_i c9)]) (st' := []) rfl rfl rfl rfl ?_
  refine go_aload_n dX9_reads_0 rfl 0 rfl ?_
  refine pv_g12 fX9_58 dX9_reads_1 ?_
  rw [(show g 0 12 = sp_hr T e p from (pv_e.rf hP).1.2)]
  refine go_iload_n dX9_reads_4 rfl 1 rfl ?_
  refine go_icmp_eqI (tgt := 10) (by omega) (by omega) dX9_reads_5 (by decide) (fun c_5 => ?_) (fun c_5 => ?_)
  · exact absurd c_5 h9
  · refine go_iconst (v := Int32.ofInt 0) dX9_reads_8 rfl ?_
    refine go_retI rfl (rj_n01 (by decide)) ?_ dX9_reads_9
    exact ⟨rfl, rfl⟩
theorem v_addY {X9 : rj_X} {σ : rj_H} {d va tx : Nat} {g : rm_R} {T : Int → Int} {e p n x y : Int} (hX : pv_X X9 va tx σ T e) (hP : pv_P T e p n g) (hlt : n < p) (hy : y = sp_enc x) : rj_Cl X9 d yX9_addStep cX9_addStep 2 none [.ref va, rj_i y] (pv_p X9 va tx g σ) (fun w9 τ => w9 = none ∧ ∃ g2 : rm_R, pv_e T e g g2 p [x] ∧ τ = pv_p X9 va tx g2 σ) := by
  subst hy; exact v_add hX hP hlt rfl
set_option maxRecDepth 20000 in
/-- v_one_y -/
theorem v_one_y {X9 : rj_X} {σ : rj_H} {d va tx : Nat} {g : rm_R} {T : Int → Int} {e p n : Int} {i : Nat} (hd : 4 ≤ d) (hX : pv_X X9 va tx σ T e) (hP : pv_P T e p n g) (hi : i < 7) (h0 : 1 ≤ rj_sl i) (h9 : ¬ sp_am i (sp_hr T e p) = -1) : rj_Cl X9 d yX9_readOneOf cX9_readOneOf 3 (some .int) [.ref va, .ref (rj_sk X9 i)] (pv_p X9 va tx g σ) (fun w9 τ => w9 = some (rj_i (sp_am i (sp_hr T e p))) ∧ τ = pv_p X9 va tx (pv_mv T e (p + 1) g) σ) := by
  obtain ⟨hX1, hX2, hX3, -⟩ := id hX
  obtain ⟨-, -, -, -, hp, hn⟩ := id hP
  have hr := sp_hr_b hX3 hp.1
  have hl0 : ([] : List Int).length = 0 := rfl
  have hb := sp_am_b i (sp_hr T e p) hi
  have hl := (rj_sc_b i hi).1
  refine go_call (by decide +kernel) (Nat.le_of_ble_eq_true rfl) ?_
  refine go_eq (pc' := 0) (lv' := [(0, .ref va), (1, .ref (rj_sk X9 i))]) (st' := []) rfl rfl rfl rfl ?_
  refine go_aload_n dX9_readOneOf_0 rfl 0 rfl ?_
  refine pv_g12 fX9_58 dX9_readOneOf_1 ?_
  rw [(show g 0 12 = sp_hr T e p from (pv_e.rf hP).1.2)]
  refine go_if_geI (tgt := 11) (by omega) dX9_readOneOf_4 (by decide) (fun c_4 => ?_) (fun c_4 => ?_)
  · refine go_aload_n dX9_readOneOf_11 rfl 1 rfl ?_
    refine go_aload_n dX9_readOneOf_12 rfl 0 rfl ?_
    refine pv_g12 fX9_58 dX9_readOneOf_13 ?_
    rw [(show g 0 12 = sp_hr T e p from (pv_e.rf hP).1.2)]
    refine go_i2cI (by omega) dX9_readOneOf_16 ?_
    refine go_callVS (d1 := d - 1) wVX9_141 rfl hi rfl (by omega) (j_idx hi (by omega) (by omega) h0) rfl (Nat.le_of_ble_eq_true rfl) dX9_readOneOf_17 (fun w σ1 hP9 => ?_)
    obtain ⟨rfl, rfl⟩ := hP9
    refine go_istore_nS (lv' := [(0, .ref va), (1, .ref (rj_sk X9 i)), (2, rj_i (sp_am i (sp_hr T e p)))]) rfl (by decide) rfl dX9_readOneOf_20 ?_
    refine go_iload_n dX9_readOneOf_21 rfl 2 rfl ?_
    refine go_if_ltI (tgt := 29) (by omega) dX9_readOneOf_22 (by decide) (fun c_22 => ?_) (fun c_22 => ?_)
    · exact absurd c_22 (by omega)
    · refine go_aload_n dX9_readOneOf_25 rfl 0 rfl ?_
      refine go_callV (d1 := d - 1) wVX9_77 kX9 pv_0 rfl (by omega) (v_move (q := p) hX (by omega) (show g 0 11 = p from (pv_e.rf hP).1.1) (show g 0 10 = e from (pv_e.rf hP).2.2.1.2.2.2.trans hP.2.2.1)) rfl (Nat.le_of_ble_eq_true rfl) dX9_readOneOf_26 (fun w σ1 hP9 => ?_)
      obtain ⟨rfl, rfl⟩ := hP9
      have hv1 := sp_hr_b (p := p) hX3 (by omega)
      have e1 := pv_mv_e hP
      have E1 := (pv_e.rf hP).tr e1
      have P1 := e1.P hP ⟨by omega, by omega, by simp; omega⟩
      obtain ⟨g1, eg1⟩ : ∃ x_, x_ = pv_mv T e (p + 1) g := ⟨_, rfl⟩
      rw [← eg1] at e1 E1 P1
      rw [← eg1]
      refine go_iload_n dX9_readOneOf_29 rfl 2 rfl ?_
      refine go_retI rfl rfl ?_ dX9_readOneOf_30
      exact ⟨rfl, by rw [eg1]⟩
  · exact absurd c_4 (by omega)
set_option maxRecDepth 20000 in
/-- v_one_n -/
theorem v_one_n {X9 : rj_X} {σ : rj_H} {d va tx : Nat} {g : rm_R} {T : Int → Int} {e p n : Int} {i : Nat} (hd : 4 ≤ d) (hX : pv_X X9 va tx σ T e) (hP : pv_P T e p n g) (hi : i < 7) (h0 : 1 ≤ rj_sl i) (h9 : sp_am i (sp_hr T e p) = -1) : rj_Cl X9 d yX9_readOneOf cX9_readOneOf 3 (some .int) [.ref va, .ref (rj_sk X9 i)] (pv_p X9 va tx g σ) (fun w9 τ => w9 = some (rj_i (-1)) ∧ τ = pv_p X9 va tx g σ) := by
  obtain ⟨hX1, hX2, hX3, -⟩ := id hX
  obtain ⟨-, -, -, -, hp, hn⟩ := id hP
  have hr := sp_hr_b hX3 hp.1
  have hl0 : ([] : List Int).length = 0 := rfl
  have hb := sp_am_b i (sp_hr T e p) hi
  have hl := (rj_sc_b i hi).1
  refine go_call (by decide +kernel) (Nat.le_of_ble_eq_true rfl) ?_
  refine go_eq (pc' := 0) (lv' := [(0, .ref va), (1, .ref (rj_sk X9 i))]) (st' := []) rfl rfl rfl rfl ?_
  refine go_aload_n dX9_readOneOf_0 rfl 0 rfl ?_
  refine pv_g12 fX9_58 dX9_readOneOf_1 ?_
  rw [(show g 0 12 = sp_hr T e p from (pv_e.rf hP).1.2)]
  refine go_if_geI (tgt := 11) (by omega) dX9_readOneOf_4 (by decide) (fun c_4 => ?_) (fun c_4 => ?_)
  · refine go_aload_n dX9_readOneOf_11 rfl 1 rfl ?_
    refine go_aload_n dX9_readOneOf_12 rfl 0 rfl ?_
    refine pv_g12 fX9_58 dX9_readOneOf_13 ?_
    rw [(show g 0 12 = sp_hr T e p from (pv_e.rf hP).1.2)]
    refine go_i2cI (by omega) dX9_readOneOf_16 ?_
    refine go_callVS (d1 := d - 1) wVX9_141 rfl hi rfl (by omega) (j_idx hi (by omega) (by omega) h0) rfl (Nat.le_of_ble_eq_true rfl) dX9_readOneOf_17 (fun w σ1 hP9 => ?_)
    obtain ⟨rfl, rfl⟩ := hP9
    refine go_istore_nS (lv' := [(0, .ref va), (1, .ref (rj_sk X9 i)), (2, rj_i (sp_am i (sp_hr T e p)))]) rfl (by decide) rfl dX9_readOneOf_20 ?_
    refine go_iload_n dX9_readOneOf_21 rfl 2 rfl ?_
    refine go_if_ltI (tgt := 29) (by omega) dX9_readOneOf_22 (by decide) (fun c_22 => ?_) (fun c_22 => ?_)
    · refine go_iload_n dX9_readOneOf_29 rfl 2 rfl ?_
      refine go_retI rfl rfl ?_ dX9_readOneOf_30
      exact ⟨rj_vi (by omega), rfl⟩
    · exact absurd c_22 (by omega)
  · refine go_iconst (v := Int32.ofInt (-1)) dX9_readOneOf_7 rfl ?_
    refine go_goto (tgt := 20) dX9_readOneOf_8 (by decide) ?_
    refine go_istore_nS (lv' := [(0, .ref va), (1, .ref (rj_sk X9 i)), (2, rj_i (-1))]) rfl (by decide) rfl dX9_readOneOf_20 ?_
    refine go_iload_n dX9_readOneOf_21 rfl 2 rfl ?_
    refine go_if_ltI (tgt := 29) (by omega) dX9_readOneOf_22 (by decide) (fun c_22 => ?_) (fun c_22 => ?_)
    · refine go_iload_n dX9_readOneOf_29 rfl 2 rfl ?_
      refine go_retI rfl rfl ?_ dX9_readOneOf_30
      exact ⟨rj_vi (by omega), rfl⟩
    · exact absurd c_22 (by omega)
set_option maxRecDepth 20000 in
/-- v_num -/
theorem v_num {X9 : rj_X} {σ : rj_H} {d va tx : Nat} {g : rm_R} {T : Int → Int} {e p n : Int} (hd : 1 ≤ d) (hX : pv_X X9 va tx σ T e) (hP : pv_P T e p n g) : rj_Cl X9 d yX9_readNumber cX9_readNumber 3 (some .int) [.ref va] (pv_p X9 va tx g σ) (fun w9 τ => w9 = some (rj_i (if (sp_num T e p).1 = true then (sp_num T e p).2.2 else -1)) ∧ ∃ g2 : rm_R, pv_e T e g g2 (sp_num T e p).2.1 [] ∧ τ = pv_p X9 va tx g2 σ) := by
  obtain ⟨hX1, hX2, hX3, -⟩ := id hX
  obtain ⟨-, -, -, -, hp, hn⟩ := id hP
  have hr := sp_hr_b hX3 hp.1
  have hl0 : ([] : List Int).length = 0 := rfl
  refine go_call (by decide +kernel) (Nat.le_of_ble_eq_true rfl) ?_
  refine go_eq (pc' := 0) (lv' := [(0, .ref va)]) (st' := []) rfl rfl rfl rfl ?_
  refine go_iconst (v := Int32.ofInt (-1)) dX9_readNumber_0 rfl ?_
  refine go_istore_nS (lv' := [(0, .ref va), (1, rj_i (-1))]) rfl (by decide) rfl dX9_readNumber_1 ?_
  refine go_iconst (v := Int32.ofInt 0) dX9_readNumber_2 rfl ?_
  refine go_istore_nS (lv' := [(0, .ref va), (1, rj_i (-1)), (2, rj_i 0)]) rfl (by decide) rfl dX9_readNumber_3 ?_
  refine go_iload_n dX9_readNumber_4 rfl 2 rfl ?_
  refine go_iconst (v := Int32.ofInt 2) dX9_readNumber_5 rfl ?_
  refine go_icmp_geI (tgt := 58) (by omega) (by omega) dX9_readNumber_6 (by decide) (fun c_6 => ?_) (fun c_6 => ?_)
  · exact absurd c_6 (by omega)
  · refine go_iload_n dX9_readNumber_9 rfl 1 rfl ?_
    refine go_if_eqI (tgt := 58) (by omega) dX9_readNumber_10 (by decide) (fun c_10 => ?_) (fun c_10 => ?_)
    · exact absurd c_10 (by omega)
    · refine go_aload_n dX9_readNumber_13 rfl 0 rfl ?_
      refine pv_g12 fX9_58 dX9_readNumber_14 ?_
      rw [(show g 0 12 = sp_hr T e p from (pv_e.rf hP).1.2)]
      refine go_bipush (v := Int32.ofInt 48) dX9_readNumber_17 (by decide) ?_
      refine go_icmp_ltI (tgt := 58) (by omega) (by omega) dX9_readNumber_19 (by decide) (fun c_19 => ?_) (fun c_19 => ?_)
      · refine go_iload_n dX9_readNumber_58 rfl 1 rfl ?_
        refine go_retI rfl rfl ?_ dX9_readNumber_59
        exact ⟨rj_vi (by rw [(show sp_num T e p = (false, p, 0) from by unfold sp_num; rw [if_pos (by omega)])]; rfl), g, (by rw [(show sp_num T e p = (false, p, 0) from by unfold sp_num; rw [if_pos (by omega)])]; exact pv_e.rf hP), rfl⟩
      · refine go_aload_n dX9_readNumber_22 rfl 0 rfl ?_
        refine pv_g12 fX9_58 dX9_readNumber_23 ?_
        rw [(show g 0 12 = sp_hr T e p from (pv_e.rf hP).1.2)]
        refine go_bipush (v := Int32.ofInt 57) dX9_readNumber_26 (by decide) ?_
        refine go_icmp_gtI (tgt := 58) (by omega) (by omega) dX9_readNumber_28 (by decide) (fun c_28 => ?_) (fun c_28 => ?_)
        · refine go_iload_n dX9_readNumber_58 rfl 1 rfl ?_
          refine go_retI rfl rfl ?_ dX9_readNumber_59
          exact ⟨rj_vi (by rw [(show sp_num T e p = (false, p, 0) from by unfold sp_num; rw [if_pos (by omega)])]; rfl), g, (by rw [(show sp_num T e p = (false, p, 0) from by unfold sp_num; rw [if_pos (by omega)])]; exact pv_e.rf hP), rfl⟩
        · refine go_bipush (v := Int32.ofInt 10) dX9_readNumber_31 (by decide) ?_
          refine go_iload_n dX9_readNumber_33 rfl 1 rfl ?_
          refine go_iconst (v := Int32.ofInt 0) dX9_readNumber_34 rfl ?_
          refine go_mmax (a := (-1)) (b := 0) (by omega) (by omega) wSX9_144 (by omega) (Nat.le_of_ble_eq_true rfl) dX9_readNumber_35 ?_
          refine go_mulI dX9_readNumber_38 ?_
          refine go_aload_n dX9_readNumber_39 rfl 0 rfl ?_
          refine pv_g12 fX9_58 dX9_readNumber_40 ?_
          rw [(show g 0 12 = sp_hr T e p from (pv_e.rf hP).1.2)]
          refine go_addI dX9_readNumber_43 ?_
          refine go_bipush (v := Int32.ofInt 48) dX9_readNumber_44 (by decide) ?_
          refine go_subI dX9_readNumber_46 ?_
          refine go_istore_nS (lv' := [(0, .ref va), (1, rj_i (((10 * (if (-1) < 0 then 0 else (-1))) + (sp_hr T e p)) - 48)), (2, rj_i 0)]) rfl (by decide) rfl dX9_readNumber_47 ?_
          refine go_aload_n dX9_readNumber_48 rfl 0 rfl ?_
          refine go_callV (d1 := d - 1) wVX9_77 kX9 pv_0 rfl (by omega) (v_move (q := p) hX (by omega) (show g 0 11 = p from (pv_e.rf hP).1.1) (show g 0 10 = e from (pv_e.rf hP).2.2.1.2.2.2.trans hP.2.2.1)) rfl (Nat.le_of_ble_eq_true rfl) dX9_readNumber_49 (fun w σ1 hP9 => ?_)
          obtain ⟨rfl, rfl⟩ := hP9
          have hv1 := sp_hr_b (p := p) hX3 (by omega)
          have e1 := pv_mv_e hP
          have E1 := (pv_e.rf hP).tr e1
          have P1 := e1.P hP ⟨by omega, by omega, by simp; omega⟩
          obtain ⟨g1, eg1⟩ : ∃ x_, x_ = pv_mv T e (p + 1) g := ⟨_, rfl⟩
          rw [← eg1] at e1 E1 P1
          rw [← eg1]
          refine go_iincI (a := 0) (n := 1) (k0 := 2) (lv' := [(0, .ref va), (1, rj_i (((10 * (if (-1) < 0 then 0 else (-1))) + (sp_hr T e p)) - 48)), (2, rj_i (0 + 1))]) rfl (by decide) rfl dX9_readNumber_52 ?_
          refine go_goto (tgt := 4) dX9_readNumber_55 (by decide) ?_
          refine go_eq rfl (lv' := [(0, .ref va), (1, rj_i (sp_hr T e p - 48)), (2, rj_i 1)]) ((rj_lk (rj_lj (by omega) (rj_lj (by omega) rfl)))) rfl rfl ?_
          have hr2 := sp_hr_b (p := p + 1) hX3 (by omega)
          refine go_iload_n dX9_readNumber_4 rfl 2 rfl ?_
          refine go_iconst (v := Int32.ofInt 2) dX9_readNumber_5 rfl ?_
          refine go_icmp_geI (tgt := 58) (by omega) (by omega) dX9_readNumber_6 (by decide) (fun c_6 => ?_) (fun c_6 => ?_)
          · exact absurd c_6 (by omega)
          · refine go_iload_n dX9_readNumber_9 rfl 1 rfl ?_
            refine go_if_eqI (tgt := 58) (by omega) dX9_readNumber_10 (by decide) (fun c_10b => ?_) (fun c_10b => ?_)
            · refine go_iload_n dX9_readNumber_58 rfl 1 rfl ?_
              refine go_retI rfl rfl ?_ dX9_readNumber_59
              exact ⟨rj_vi (by rw [(show sp_num T e p = (true, p + 1, 0) from by unfold sp_num; rw [if_neg (by omega), if_pos (by omega)]), if_pos rfl] <;> (show sp_hr T e p - 48 = 0; omega)), g1, (by rw [(show sp_num T e p = (true, p + 1, 0) from by unfold sp_num; rw [if_neg (by omega), if_pos (by omega)])]; exact E1), rfl⟩
            · refine go_aload_n dX9_readNumber_13 rfl 0 rfl ?_
              refine pv_g12 fX9_58 dX9_readNumber_14 ?_
              rw [(show g1 0 12 = sp_hr T e (p + 1) from E1.1.2)]
              refine go_bipush (v := Int32.ofInt 48) dX9_readNumber_17 (by decide) ?_
              refine go_icmp_ltI (tgt := 58) (by omega) (by omega) dX9_readNumber_19 (by decide) (fun c_19b => ?_) (fun c_19b => ?_)
              · refine go_iload_n dX9_readNumber_58 rfl 1 rfl ?_
                refine go_retI rfl rfl ?_ dX9_readNumber_59
                exact ⟨rj_vi (by rw [(show sp_num T e p = (true, p + 1, sp_hr T e p - 48) from by unfold sp_num; rw [if_neg (by omega), if_neg (by omega), if_neg (by omega)]), if_pos rfl] <;> (show sp_hr T e p - 48 = sp_hr T e p - 48; omega)), g1, (by rw [(show sp_num T e p = (true, p + 1, sp_hr T e p - 48) from by unfold sp_num; rw [if_neg (by omega), if_neg (by omega), if_neg (by omega)])]; exact E1), rfl⟩
              · refine go_aload_n dX9_readNumber_22 rfl 0 rfl ?_
                refine pv_g12 fX9_58 dX9_readNumber_23 ?_
                rw [(show g1 0 12 = sp_hr T e (p + 1) from E1.1.2)]
                refine go_bipush (v := Int32.ofInt 57) dX9_readNumber_26 (by decide) ?_
                refine go_icmp_gtI (tgt := 58) (by omega) (by omega) dX9_readNumber_28 (by decide) (fun c_28b => ?_) (fun c_28b => ?_)
                · refine go_iload_n dX9_readNumber_58 rfl 1 rfl ?_
                  refine go_retI rfl rfl ?_ dX9_readNumber_59
                  exact ⟨rj_vi (by rw [(show sp_num T e p = (true, p + 1, sp_hr T e p - 48) from by unfold sp_num; rw [if_neg (by omega), if_neg (by omega), if_neg (by omega)]), if_pos rfl] <;> (show sp_hr T e p - 48 = sp_hr T e p - 48; omega)), g1, (by rw [(show sp_num T e p = (true, p + 1, sp_hr T e p - 48) from by unfold sp_num; rw [if_neg (by omega), if_neg (by omega), if_neg (by omega)])]; exact E1), rfl⟩
                · refine go_bipush (v := Int32.ofInt 10) dX9_readNumber_31 (by decide) ?_
                  refine go_iload_n dX9_readNumber_33 rfl 1 rfl ?_
                  refine go_iconst (v := Int32.ofInt 0) dX9_readNumber_34 rfl ?_
                  refine go_mmax (a := sp_hr T e p - 48) (b := 0) (by omega) (by omega) wSX9_144 (by omega) (Nat.le_of_ble_eq_true rfl) dX9_readNumber_35 ?_
                  refine go_mulI dX9_readNumber_38 ?_
                  refine go_aload_n dX9_readNumber_39 rfl 0 rfl ?_
                  refine pv_g12 fX9_58 dX9_readNumber_40 ?_
                  rw [(show g1 0 12 = sp_hr T e (p + 1) from E1.1.2)]
                  refine go_addI dX9_readNumber_43 ?_
                  refine go_bipush (v := Int32.ofInt 48) dX9_readNumber_44 (by decide) ?_
                  refine go_subI dX9_readNumber_46 ?_
                  refine go_istore_nS (lv' := [(0, .ref va), (1, rj_i (((10 * (if sp_hr T e p - 48 < 0 then 0 else sp_hr T e p - 48)) + (sp_hr T e (p + 1))) - 48)), (2, rj_i 1)]) rfl (by decide) rfl dX9_readNumber_47 ?_
                  refine go_aload_n dX9_readNumber_48 rfl 0 rfl ?_
                  refine go_callV (d1 := d - 1) wVX9_77 kX9 pv_0 rfl (by omega) (v_move (q := p + 1) hX (by omega) (show g1 0 11 = p + 1 from E1.1.1) (show g1 0 10 = e from E1.2.2.1.2.2.2.trans hP.2.2.1)) rfl (Nat.le_of_ble_eq_true rfl) dX9_readNumber_49 (fun w σ1 hP9 => ?_)
                  obtain ⟨rfl, rfl⟩ := hP9
                  have hv2 := sp_hr_b (p := p + 1) hX3 (by omega)
                  have e2 := pv_mv_e P1
                  have E2 := E1.tr e2
                  have P2 := e2.P P1 ⟨by omega, by omega, by simp; omega⟩
                  obtain ⟨g2, eg2⟩ : ∃ x_, x_ = pv_mv T e (p + 1 + 1) g1 := ⟨_, rfl⟩
                  rw [← eg2] at e2 E2 P2
                  rw [← eg2]
                  refine go_iincI (a := 1) (n := 1) (k0 := 2) (lv' := [(0, .ref va), (1, rj_i (((10 * (if sp_hr T e p - 48 < 0 then 0 else sp_hr T e p - 48)) + (sp_hr T e (p + 1))) - 48)), (2, rj_i (1 + 1))]) rfl (by decide) rfl dX9_readNumber_52 ?_
                  refine go_goto (tgt := 4) dX9_readNumber_55 (by decide) ?_
                  refine go_iload_n dX9_readNumber_4 rfl 2 rfl ?_
                  refine go_iconst (v := Int32.ofInt 2) dX9_readNumber_5 rfl ?_
                  refine go_icmp_geI (tgt := 58) (by omega) (by omega) dX9_readNumber_6 (by decide) (fun c_6 => ?_) (fun c_6 => ?_)
                  · refine go_iload_n dX9_readNumber_58 rfl 1 rfl ?_
                    refine go_retI rfl rfl ?_ dX9_readNumber_59
                    exact ⟨rj_vi (by rw [(show sp_num T e p = (true, p + 2, 10 * (sp_hr T e p - 48) + (sp_hr T e (p + 1) - 48)) from by unfold sp_num; rw [if_neg (by omega), if_neg (by omega), if_pos (by omega)]), if_pos rfl] <;> (show ((10 * (if sp_hr T e p - 48 < 0 then 0 else sp_hr T e p - 48)) + (sp_hr T e (p + 1))) - 48 = 10 * (sp_hr T e p - 48) + (sp_hr T e (p + 1) - 48); omega)), g2, (by rw [(show sp_num T e p = (true, p + 2, 10 * (sp_hr T e p - 48) + (sp_hr T e (p + 1) - 48)) from by unfold sp_num; rw [if_neg (by omega), if_neg (by omega), if_pos (by omega)])]; rw [show p + 2 = p + 1 + 1 by omega]; exact E2), rfl⟩
                  · exact absurd c_6 (by omega)
theorem v_num_y {X9 : rj_X} {σ : rj_H} {d va tx : Nat} {g : rm_R} {T : Int → Int} {e p n : Int} (hd : 1 ≤ d) (hX : pv_X X9 va tx σ T e) (hP : pv_P T e p n g) (h9 : (sp_num T e p).1 = true) : rj_Cl X9 d yX9_readNumber cX9_readNumber 3 (some .int) [.ref va] (pv_p X9 va tx g σ) (fun w9 τ => w9 = some (rj_i (sp_num T e p).2.2) ∧ ∃ g2 : rm_R, pv_e T e g g2 (sp_num T e p).2.1 [] ∧ τ = pv_p X9 va tx g2 σ) :=
  (v_num hd hX hP).mono (fun w τ h => ⟨h.1.trans (by rw [if_pos h9]), h.2⟩)
theorem v_num_n {X9 : rj_X} {σ : rj_H} {d va tx : Nat} {g : rm_R} {T : Int → Int} {e p n : Int} (hd : 1 ≤ d) (hX : pv_X X9 va tx σ T e) (hP : pv_P T e p n g) (h9 : ¬ (sp_num T e p).1 = true) : rj_Cl X9 d yX9_readNumber cX9_readNumber 3 (some .int) [.ref va] (pv_p X9 va tx g σ) (fun w9 τ => w9 = some (rj_i (-1)) ∧ ∃ g2 : rm_R, pv_e T e g g2 (sp_num T e p).2.1 [] ∧ τ = pv_p X9 va tx g2 σ) :=
  (v_num hd hX hP).mono (fun w τ h => ⟨h.1.trans (by rw [if_neg h9]), h.2⟩)
/-- a part of the parser -/
def pv_C (X9 : rj_X) (va tx : Nat) (σ : rj_H) (T : Int → Int) (e : Int) (D : Nat) (y : MethodName) (c : ByteArray) (nL : Nat) (o : Int) (F : Int → sp_R) : Prop := ∀ (d : Nat) (g : rm_R) (p n : Int), D ≤ d → pv_P T e p n g → rj_Cl X9 d y c nL (some .boolean) [.ref va, rj_i o] (pv_p X9 va tx g σ) (fun w9 τ => w9 = some (rj_i (rj_b ((F p).1 = true))) ∧ ∃ g2 : rm_R, pv_e T e g g2 (F p).2.1 (F p).2.2 ∧ τ = pv_p X9 va tx g2 σ)
theorem sp_enc3 {a b c : Int} (h1 : 0 ≤ a ∧ a < 5) (h2 : 0 ≤ b ∧ b < 3) (h3 : 0 ≤ c ∧ c ≤ 99) : 300 * a + 100 * b + c = sp_enc (a + 8 * b + 32 * c) := by
  unfold sp_enc
  rw [if_pos (by omega)]
  omega
set_option maxRecDepth 20000 in
/-- v_rtest -/
theorem v_rtest {X9 : rj_X} {σ : rj_H} {d va tx : Nat} {g : rm_R} {T : Int → Int} {e p n : Int} (hd : 5 ≤ d) (hX : pv_X X9 va tx σ T e) (hP : pv_P T e p n g) : rj_Cl X9 d yX9_readTest cX9_readTest 4 (some .boolean) [.ref va] (pv_p X9 va tx g σ) (fun w9 τ => w9 = some (rj_i (rj_b (((sp_tt1 T e p)).1 = true))) ∧ ∃ g2 : rm_R, pv_e T e g g2 ((sp_tt1 T e p)).2.1 ((sp_tt1 T e p)).2.2 ∧ τ = pv_p X9 va tx g2 σ) := by
  obtain ⟨hX1, hX2, hX3, -⟩ := id hX
  obtain ⟨-, -, -, -, hp, hn⟩ := id hP
  have hr := sp_hr_b hX3 hp.1
  have hl0 : ([] : List Int).length = 0 := rfl
  have ha1 := sp_am_b 5 (sp_hr T e p) (by decide)
  have ha2 := sp_am_b 6 (sp_hr T e (p + 1)) (by decide)
  have hl5 : rj_sl 5 = 5 := rfl
  have hl6 : rj_sl 6 = 3 := rfl
  have hr2 := sp_hr_b (p := p + 1) hX3 (by omega)
  refine go_call (by decide +kernel) (Nat.le_of_ble_eq_true rfl) ?_
  refine go_eq (pc' := 0) (lv' := [(0, .ref va)]) (st' := []) rfl rfl rfl rfl ?_
  refine go_aload_n dX9_readTest_0 rfl 0 rfl ?_
  refine go_ldcS (i := 5) (tx := "mpqdh") (by decide +kernel) dX9_readTest_1 ?_
  rw [show X9.2.2.2.2.2.1 5 = rj_sk X9 5 from rfl]
  by_cases hb_3_0 : ¬ sp_am 5 (sp_hr T e p) = -1
  · refine go_callV (d1 := d - 1) wVX9_135 kX9 pv_0 rfl (by omega) (v_one_y (i := 5) (by omega) hX hP (by decide) (by decide) hb_3_0) rfl (Nat.le_of_ble_eq_true rfl) dX9_readTest_3 (fun w σ1 hP9 => ?_)
    obtain ⟨rfl, rfl⟩ := hP9
    have hv1 := sp_hr_b (p := p) hX3 (by omega)
    have e1 := pv_mv_e hP
    have E1 := (pv_e.rf hP).tr e1
    have P1 := e1.P hP ⟨by omega, by omega, by simp; omega⟩
    obtain ⟨g1, eg1⟩ : ∃ x_, x_ = pv_mv T e (p + 1) g := ⟨_, rfl⟩
    rw [← eg1] at e1 E1 P1
    rw [← eg1]
    refine go_istore_nS (lv' := [(0, .ref va), (1, rj_i (sp_am 5 (sp_hr T e p)))]) rfl (by decide) rfl dX9_readTest_6 ?_
    refine go_iload_n dX9_readTest_7 rfl 1 rfl ?_
    refine go_if_geI (tgt := 13) (by omega) dX9_readTest_8 (by decide) (fun c_8 => ?_) (fun c_8 => ?_)
    · refine go_aload_n dX9_readTest_13 rfl 0 rfl ?_
      refine go_ldcS (i := 6) (tx := "<=>") (by decide +kernel) dX9_readTest_14 ?_
      rw [show X9.2.2.2.2.2.1 6 = rj_sk X9 6 from rfl]
      by_cases hb_16_1 : ¬ sp_am 6 (sp_hr T e (p + 1)) = -1
      · refine go_callV (d1 := d - 1) wVX9_135 kX9 pv_0 rfl (by omega) (v_one_y (i := 6) (by omega) hX P1 (by decide) (by decide) hb_16_1) rfl (Nat.le_of_ble_eq_true rfl) dX9_readTest_16 (fun w σ1 hP9 => ?_)
        obtain ⟨rfl, rfl⟩ := hP9
        have hv2 := sp_hr_b (p := p + 1) hX3 (by omega)
        have e2 := pv_mv_e P1
        have E2 := E1.tr e2
        have P2 := e2.P P1 ⟨by omega, by omega, by simp; omega⟩
        obtain ⟨g2, eg2⟩ : ∃ x_, x_ = pv_mv T e (p + 1 + 1) g1 := ⟨_, rfl⟩
        rw [← eg2] at e2 E2 P2
        rw [← eg2]
        refine go_istore_nS (lv' := [(0, .ref va), (1, rj_i (sp_am 5 (sp_hr T e p))), (2, rj_i (sp_am 6 (sp_hr T e (p + 1))))]) rfl (by decide) rfl dX9_readTest_19 ?_
        refine go_iload_n dX9_readTest_20 rfl 2 rfl ?_
        refine go_if_geI (tgt := 26) (by omega) dX9_readTest_21 (by decide) (fun c_21 => ?_) (fun c_21 => ?_)
        · refine go_aload_n dX9_readTest_26 rfl 0 rfl ?_
          have hm2 := sp_num_b (p := p + 1 + 1) hX3 (by omega)
          by_cases hq_27_2 : (sp_num T e (p + 1 + 1)).1 = true
          · refine go_callV (d1 := d - 1) wVX9_116 kX9 pv_0 rfl (by omega) (v_num_y (by omega) hX P2 hq_27_2) rfl (Nat.le_of_ble_eq_true rfl) dX9_readTest_27 (fun w σ1 hP9 => ?_)
            obtain ⟨rfl, g3, e3, rfl⟩ := hP9
            have E3 := E2.tr e3
            have P3 := e3.P P2 ⟨by omega, by omega, by simp; omega⟩
            refine go_istore_nS (lv' := [(0, .ref va), (1, rj_i (sp_am 5 (sp_hr T e p))), (2, rj_i (sp_am 6 (sp_hr T e (p + 1)))), (3, rj_i ((sp_num T e (p + 1 + 1)).2.2))]) rfl (by decide) rfl dX9_readTest_30 ?_
            refine go_iload_n dX9_readTest_31 rfl 3 rfl ?_
            refine go_if_geI (tgt := 37) (by omega) dX9_readTest_32 (by decide) (fun c_32 => ?_) (fun c_32 => ?_)
            · refine go_aload_n dX9_readTest_37 rfl 0 rfl ?_
              refine go_sipush (v := Int32.ofInt 300) dX9_readTest_38 (by decide) ?_
              refine go_iload_n dX9_readTest_41 rfl 1 rfl ?_
              refine go_mulI dX9_readTest_42 ?_
              refine go_bipush (v := Int32.ofInt 100) dX9_readTest_43 (by decide) ?_
              refine go_iload_n dX9_readTest_45 rfl 2 rfl ?_
              refine go_mulI dX9_readTest_46 ?_
              refine go_addI dX9_readTest_47 ?_
              refine go_iload_n dX9_readTest_48 rfl 3 rfl ?_
              refine go_addI dX9_readTest_49 ?_
              refine go_callV (d1 := d - 1) wVX9_125 kX9 pv_0 rfl (by omega) (v_addY (x := sp_am 5 (sp_hr T e p) + 8 * sp_am 6 (sp_hr T e (p + 1)) + 32 * (sp_num T e (p + 1 + 1)).2.2) hX P3 (by omega) (sp_enc3 (by omega) (by omega) (by omega))) rfl (Nat.le_of_ble_eq_true rfl) dX9_readTest_50 (fun w σ1 hP9 => ?_)
              obtain ⟨rfl, g4, e4, rfl⟩ := hP9
              have E4 := E3.tr e4
              refine go_iconst (v := Int32.ofInt 1) dX9_readTest_53 rfl ?_
              refine go_retI rfl (rj_n01 (by decide)) ?_ dX9_readTest_54
              have E9 : pv_e T e g g4 ((sp_num T e (p + 1 + 1)).2.1) [sp_am 5 (sp_hr T e p) + 8 * sp_am 6 (sp_hr T e (p + 1)) + 32 * (sp_num T e (p + 1 + 1)).2.2] := by simpa using E4
              exact pv_z1 (by unfold sp_tt1; rw [if_neg hb_3_0, if_neg hb_16_1, if_pos (by rw [show p + 2 = p + 1 + 1 by omega]; exact hq_27_2), show p + 2 = p + 1 + 1 by omega]) E9
            · exact absurd c_32 (by omega)
          · refine go_callV (d1 := d - 1) wVX9_116 kX9 pv_0 rfl (by omega) (v_num_n (by omega) hX P2 hq_27_2) rfl (Nat.le_of_ble_eq_true rfl) dX9_readTest_27 (fun w σ1 hP9 => ?_)
            obtain ⟨rfl, g3, e3, rfl⟩ := hP9
            have E3 := E2.tr e3
            have P3 := e3.P P2 ⟨by omega, by omega, by simp; omega⟩
            refine go_istore_nS (lv' := [(0, .ref va), (1, rj_i (sp_am 5 (sp_hr T e p))), (2, rj_i (sp_am 6 (sp_hr T e (p + 1)))), (3, rj_i (-1))]) rfl (by decide) rfl dX9_readTest_30 ?_
            refine go_iload_n dX9_readTest_31 rfl 3 rfl ?_
            refine go_if_geI (tgt := 37) (by omega) dX9_readTest_32 (by decide) (fun c_32 => ?_) (fun c_32 => ?_)
            · exact absurd c_32 (by omega)
            · refine go_iconst (v := Int32.ofInt 0) dX9_readTest_35 rfl ?_
              refine go_retI rfl (rj_n01 (by decide)) ?_ dX9_readTest_36
              have E9 : pv_e T e g g3 ((sp_num T e (p + 1 + 1)).2.1) [] := by simpa using E3
              exact pv_z0 (by unfold sp_tt1; rw [if_neg hb_3_0, if_neg hb_16_1, if_neg (by rw [show p + 2 = p + 1 + 1 by omega]; exact hq_27_2), show p + 2 = p + 1 + 1 by omega]) E9
        · exact absurd c_21 (by omega)
      · refine go_callV (d1 := d - 1) wVX9_135 kX9 pv_0 rfl (by omega) (v_one_n (i := 6) (by omega) hX P1 (by decide) (by decide) (Decidable.not_not.mp hb_16_1)) rfl (Nat.le_of_ble_eq_true rfl) dX9_readTest_16 (fun w σ1 hP9 => ?_)
        obtain ⟨rfl, rfl⟩ := hP9
        refine go_istore_nS (lv' := [(0, .ref va), (1, rj_i (sp_am 5 (sp_hr T e p))), (2, rj_i (-1))]) rfl (by decide) rfl dX9_readTest_19 ?_
        refine go_iload_n dX9_readTest_20 rfl 2 rfl ?_
        refine go_if_geI (tgt := 26) (by omega) dX9_readTest_21 (by decide) (fun c_21 => ?_) (fun c_21 => ?_)
        · exact absurd c_21 (by omega)
        · refine go_iconst (v := Int32.ofInt 0) dX9_readTest_24 rfl ?_
          refine go_retI rfl (rj_n01 (by decide)) ?_ dX9_readTest_25
          have E9 : pv_e T e g g1 (p + 1) [] := by simpa using E1
          exact pv_z0 (by unfold sp_tt1; rw [if_neg hb_3_0, if_pos (Decidable.not_not.mp hb_16_1)]) E9
    · exact absurd c_8 (by omega)
  · refine go_callV (d1 := d - 1) wVX9_135 kX9 pv_0 rfl (by omega) (v_one_n (i := 5) (by omega) hX hP (by decide) (by decide) (Decidable.not_not.mp hb_3_0)) rfl (Nat.le_of_ble_eq_true rfl) dX9_readTest_3 (fun w σ1 hP9 => ?_)
    obtain ⟨rfl, rfl⟩ := hP9
    refine go_istore_nS (lv' := [(0, .ref va), (1, rj_i (-1))]) rfl (by decide) rfl dX9_readTest_6 ?_
    refine go_iload_n dX9_readTest_7 rfl 1 rfl ?_
    refine go_if_geI (tgt := 13) (by omega) dX9_readTest_8 (by decide) (fun c_8 => ?_) (fun c_8 => ?_)
    · exact absurd c_8 (by omega)
    · refine go_iconst (v := Int32.ofInt 0) dX9_readTest_11 rfl ?_
      refine go_retI rfl (rj_n01 (by decide)) ?_ dX9_readTest_12
      exact pv_z0 (by unfold sp_tt1; rw [if_pos (Decidable.not_not.mp hb_3_0)]) (pv_e.rf hP)
