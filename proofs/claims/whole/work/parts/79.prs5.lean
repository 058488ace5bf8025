/-! THE CLASS: its parser, fifth -/
theorem sp_whn_1 {T : Int → Int} {e p kind : Int} {i : Nat} (h1 : (sp_sp T e i p).1 = true) (h2 : (sp_som T e (sp_fac T e 5) (sp_sp T e i p).2).1 = true) : sp_whn T e i kind p = (true, (sp_som T e (sp_fac T e 5) (sp_sp T e i p).2).2.1, (sp_som T e (sp_fac T e 5) (sp_sp T e i p).2).2.2 ++ [kind]) := by
  unfold sp_whn; rw [if_pos h1]; dsimp only; rw [if_pos h2, h2]
theorem sp_whn_2 {T : Int → Int} {e p kind : Int} {i : Nat} (h1 : (sp_sp T e i p).1 = true) (h2 : ¬ (sp_som T e (sp_fac T e 5) (sp_sp T e i p).2).1 = true) : sp_whn T e i kind p = (false, (sp_som T e (sp_fac T e 5) (sp_sp T e i p).2).2.1, (sp_som T e (sp_fac T e 5) (sp_sp T e i p).2).2.2) := by
  unfold sp_whn; rw [if_pos h1]; dsimp only; rw [if_neg h2, List.append_nil]
  have : (sp_som T e (sp_fac T e 5) (sp_sp T e i p).2).1 = false := by simpa using h2
  rw [this]
theorem sp_whn_3 {T : Int → Int} {e p kind : Int} {i : Nat} (h1 : ¬ (sp_sp T e i p).1 = true) : sp_whn T e i kind p = (false, (sp_sp T e i p).2, []) := by
  unfold sp_whn; rw [if_neg h1]
theorem sp_tel_1 {T : Int → Int} {e p most : Int} {i : Nat} (h1 : (sp_sp T e i p).1 = true) : sp_tel T e i most p = ((sp_num T e (sp_sp T e i p).2).1, (sp_num T e (sp_sp T e i p).2).2.1, if most < (sp_num T e (sp_sp T e i p).2).2.2 then most else (sp_num T e (sp_sp T e i p).2).2.2) := by
  unfold sp_tel; rw [if_pos h1]
theorem sp_tel_3 {T : Int → Int} {e p most : Int} {i : Nat} (h1 : ¬ (sp_sp T e i p).1 = true) : sp_tel T e i most p = (false, (sp_sp T e i p).2, 0) := by
  unfold sp_tel; rw [if_neg h1]
theorem pv_b1 {b : Bool} (h : ¬ b = true) : b = false := by simpa using h
set_option maxRecDepth 20000 in
/-- v_clause -/
theorem v_clause {X9 : rj_X} {σ : rj_H} {d va tx : Nat} {g : rm_R} {T : Int → Int} {e p n : Int} {m cl tn : Int} (hd : 25 ≤ d) (hX : pv_X X9 va tx σ T e) (hP : pv_P T e p n g) (hm : g 0 4 = m) (hm2 : 0 ≤ m ∧ m < 10) (hcl : g 0 7 = cl) (htn : g 0 8 = tn) : rj_Cl X9 d yX9_readClause cX9_readClause 1 (some .boolean) [.ref va] (pv_p X9 va tx g σ) (pv_Q X9 va tx σ T e g (sp_cla T e p cl tn)) := by
  obtain ⟨hX1, hX2, hX3, -⟩ := id hX
  obtain ⟨-, -, -, -, hp, hn⟩ := id hP
  have hr := sp_hr_b hX3 hp.1
  have hl0 : ([] : List Int).length = 0 := rfl
  refine go_call (by decide +kernel) (Nat.le_of_ble_eq_true rfl) ?_
  refine go_eq (pc' := 0) (lv' := [(0, .ref va)]) (st' := []) rfl rfl rfl rfl ?_
  refine go_aload_n dX9_readClause_0 rfl 0 rfl ?_
  refine pv_g12 fX9_58 dX9_readClause_1 ?_
  rw [(show g 0 12 = sp_hr T e p from (pv_e.rf hP).1.2)]
  rcases (show sp_hr T e p = 108 ∨ sp_hr T e p = 101 ∨ sp_hr T e p = 111 ∨ sp_hr T e p = 99 ∨ sp_hr T e p = 116 ∨ (sp_hr T e p ≠ 108 ∧ sp_hr T e p ≠ 101 ∧ sp_hr T e p ≠ 111 ∧ sp_hr T e p ≠ 99 ∧ sp_hr T e p ≠ 116) by omega) with hk | hk | hk | hk | hk | hk
  · rw [hk]
    refine go_lookup (off := 52) (tgt := 56) dX9_readClause_4 (by decide) (by decide) (by decide) ?_
    have hC : sp_cla T e p cl tn = ((sp_whn T e 0 (-11) p).1, (sp_whn T e 0 (-11) p).2.1, (sp_whn T e 0 (-11) p).2.2, cl, tn) := by unfold sp_cla; rw [if_pos hk]
    refine go_aload_n dX9_readClause_56 rfl 0 rfl ?_
    refine go_ldcS (i := 0) (tx := "lit ") (by decide +kernel) dX9_readClause_57 ?_
    rw [show X9.2.2.2.2.2.1 0 = rj_sk X9 0 from rfl]
    by_cases hw9 : (sp_sp T e 0 p).1 = true
    · refine go_callV (d1 := d - 1) wVX9_94 kX9 pv_0 rfl (by omega) (v_word_y (i := 0) (by omega) hX hP (by decide) hw9) rfl (Nat.le_of_ble_eq_true rfl) dX9_readClause_59 (fun w σ1 hP9 => ?_)
      have hkb := sp_sp_b (T := T) (e := e) (p := p) (i := 0) hX3 (by decide) hp
      obtain ⟨rfl, g1, e1, rfl⟩ := hP9
      have E1 := (pv_e.rf hP).tr e1
      have P1 := e1.P hP ⟨hkb.1, hkb.2, by simp; omega⟩
      have h7c : g1 0 7 = cl := e1.2.2.1.2.1.trans hcl
      have h8c : g1 0 8 = tn := e1.2.2.1.2.2.1.trans htn
      have h4c : g1 0 4 = m := e1.2.2.1.1.trans hm
      refine go_if_eqI (tgt := 77) (by omega) dX9_readClause_62 (by decide) (fun c_62 => ?_) (fun c_62 => ?_)
      · exact absurd c_62 (by omega)
      · refine go_aload_n dX9_readClause_65 rfl 0 rfl ?_
        refine go_iconst (v := Int32.ofInt 0) dX9_readClause_66 rfl ?_
        by_cases hq9 : (sp_som T e (sp_fac T e 5) (sp_sp T e 0 p).2).1 = true
        · refine go_callV (d1 := d - 1) wVX9_98 kX9 pv_0 rfl (by omega) (v_rule_y (m := m) (w := 0) (by omega) hX P1 h4c hm2 (by decide) hq9) rfl (Nat.le_of_ble_eq_true rfl) dX9_readClause_67 (fun w σ1 hP9 => ?_)
          obtain ⟨rfl, g2, K, rfl⟩ := hP9
          rw [h7c, h8c] at K
          refine go_if_eqI (tgt := 77) (by omega) dX9_readClause_70 (by decide) (fun c_70 => ?_) (fun c_70 => ?_)
          · exact absurd c_70 (by omega)
          · refine go_iconst (v := Int32.ofInt 1) dX9_readClause_73 rfl ?_
            refine go_goto (tgt := 78) dX9_readClause_74 (by decide) ?_
            refine go_retI rfl (rj_n01 (by decide)) ?_ dX9_readClause_78
            exact pv_y1 hP.2.2.1 (by rw [hC, sp_whn_1 hw9 hq9]) (by have k2 := e1.k0.tr K; exact k2)
        · refine go_callV (d1 := d - 1) wVX9_98 kX9 pv_0 rfl (by omega) (v_rule_n (m := m) (w := 0) (by omega) hX P1 h4c hm2 (by decide) hq9) rfl (Nat.le_of_ble_eq_true rfl) dX9_readClause_67 (fun w σ1 hP9 => ?_)
          obtain ⟨rfl, g2, e2, rfl⟩ := hP9
          refine go_if_eqI (tgt := 77) (by omega) dX9_readClause_70 (by decide) (fun c_70 => ?_) (fun c_70 => ?_)
          · refine go_iconst (v := Int32.ofInt 0) dX9_readClause_77 rfl ?_
            refine go_retI rfl (rj_n01 (by decide)) ?_ dX9_readClause_78
            exact pv_y0 (by rw [hC, sp_whn_2 hw9 hq9]) (e2.z P1)
          · exact absurd c_70 (by omega)
    · refine go_callV (d1 := d - 1) wVX9_94 kX9 pv_0 rfl (by omega) (v_word_n (i := 0) (by omega) hX hP (by decide) hw9) rfl (Nat.le_of_ble_eq_true rfl) dX9_readClause_59 (fun w σ1 hP9 => ?_)
      obtain ⟨rfl, g1, e1, rfl⟩ := hP9
      refine go_if_eqI (tgt := 77) (by omega) dX9_readClause_62 (by decide) (fun c_62 => ?_) (fun c_62 => ?_)
      · refine go_iconst (v := Int32.ofInt 0) dX9_readClause_77 rfl ?_
        refine go_retI rfl (rj_n01 (by decide)) ?_ dX9_readClause_78
        exact pv_y0 (by rw [hC, sp_whn_3 hw9]) (e1.z hP)
      · exact absurd c_62 (by omega)
  · rw [hk]
    refine go_lookup (off := 75) (tgt := 79) dX9_readClause_4 (by decide) (by decide) (by decide) ?_
    have hC : sp_cla T e p cl tn = ((sp_whn T e 1 (-12) p).1, (sp_whn T e 1 (-12) p).2.1, (sp_whn T e 1 (-12) p).2.2, cl, tn) := by unfold sp_cla; rw [if_neg (by omega), if_pos hk]
    refine go_aload_n dX9_readClause_79 rfl 0 rfl ?_
    refine go_ldcS (i := 1) (tx := "eyes ") (by decide +kernel) dX9_readClause_80 ?_
    rw [show X9.2.2.2.2.2.1 1 = rj_sk X9 1 from rfl]
    by_cases hw9 : (sp_sp T e 1 p).1 = true
    · refine go_callV (d1 := d - 1) wVX9_94 kX9 pv_0 rfl (by omega) (v_word_y (i := 1) (by omega) hX hP (by decide) hw9) rfl (Nat.le_of_ble_eq_true rfl) dX9_readClause_82 (fun w σ1 hP9 => ?_)
      have hkb := sp_sp_b (T := T) (e := e) (p := p) (i := 1) hX3 (by decide) hp
      obtain ⟨rfl, g1, e1, rfl⟩ := hP9
      have E1 := (pv_e.rf hP).tr e1
      have P1 := e1.P hP ⟨hkb.1, hkb.2, by simp; omega⟩
      have h7c : g1 0 7 = cl := e1.2.2.1.2.1.trans hcl
      have h8c : g1 0 8 = tn := e1.2.2.1.2.2.1.trans htn
      have h4c : g1 0 4 = m := e1.2.2.1.1.trans hm
      refine go_if_eqI (tgt := 100) (by omega) dX9_readClause_85 (by decide) (fun c_85 => ?_) (fun c_85 => ?_)
      · exact absurd c_85 (by omega)
      · refine go_aload_n dX9_readClause_88 rfl 0 rfl ?_
        refine go_iconst (v := Int32.ofInt 1) dX9_readClause_89 rfl ?_
        by_cases hq9 : (sp_som T e (sp_fac T e 5) (sp_sp T e 1 p).2).1 = true
        · refine go_callV (d1 := d - 1) wVX9_98 kX9 pv_0 rfl (by omega) (v_rule_y (m := m) (w := 1) (by omega) hX P1 h4c hm2 (by decide) hq9) rfl (Nat.le_of_ble_eq_true rfl) dX9_readClause_90 (fun w σ1 hP9 => ?_)
          obtain ⟨rfl, g2, K, rfl⟩ := hP9
          rw [h7c, h8c] at K
          refine go_if_eqI (tgt := 100) (by omega) dX9_readClause_93 (by decide) (fun c_93 => ?_) (fun c_93 => ?_)
          · exact absurd c_93 (by omega)
          · refine go_iconst (v := Int32.ofInt 1) dX9_readClause_96 rfl ?_
            refine go_goto (tgt := 101) dX9_readClause_97 (by decide) ?_
            refine go_retI rfl (rj_n01 (by decide)) ?_ dX9_readClause_101
            exact pv_y1 hP.2.2.1 (by rw [hC, sp_whn_1 hw9 hq9]) (by have k2 := e1.k0.tr K; exact k2)
        · refine go_callV (d1 := d - 1) wVX9_98 kX9 pv_0 rfl (by omega) (v_rule_n (m := m) (w := 1) (by omega) hX P1 h4c hm2 (by decide) hq9) rfl (Nat.le_of_ble_eq_true rfl) dX9_readClause_90 (fun w σ1 hP9 => ?_)
          obtain ⟨rfl, g2, e2, rfl⟩ := hP9
          refine go_if_eqI (tgt := 100) (by omega) dX9_readClause_93 (by decide) (fun c_93 => ?_) (fun c_93 => ?_)
          · refine go_iconst (v := Int32.ofInt 0) dX9_readClause_100 rfl ?_
            refine go_retI rfl (rj_n01 (by decide)) ?_ dX9_readClause_101
            exact pv_y0 (by rw [hC, sp_whn_2 hw9 hq9]) (e2.z P1)
          · exact absurd c_93 (by omega)
    · refine go_callV (d1 := d - 1) wVX9_94 kX9 pv_0 rfl (by omega) (v_word_n (i := 1) (by omega) hX hP (by decide) hw9) rfl (Nat.le_of_ble_eq_true rfl) dX9_readClause_82 (fun w σ1 hP9 => ?_)
      obtain ⟨rfl, g1, e1, rfl⟩ := hP9
      refine go_if_eqI (tgt := 100) (by omega) dX9_readClause_85 (by decide) (fun c_85 => ?_) (fun c_85 => ?_)
      · refine go_iconst (v := Int32.ofInt 0) dX9_readClause_100 rfl ?_
        refine go_retI rfl (rj_n01 (by decide)) ?_ dX9_readClause_101
        exact pv_y0 (by rw [hC, sp_whn_3 hw9]) (e1.z hP)
      · exact absurd c_85 (by omega)
  · rw [hk]
    refine go_lookup (off := 98) (tgt := 102) dX9_readClause_4 (by decide) (by decide) (by decide) ?_
    have hC : sp_cla T e p cl tn = ((sp_whn T e 2 (-13) p).1, (sp_whn T e 2 (-13) p).2.1, (sp_whn T e 2 (-13) p).2.2, cl, tn) := by unfold sp_cla; rw [if_neg (by omega), if_neg (by omega), if_pos hk]
    refine go_aload_n dX9_readClause_102 rfl 0 rfl ?_
    refine go_ldcS (i := 2) (tx := "own ") (by decide +kernel) dX9_readClause_103 ?_
    rw [show X9.2.2.2.2.2.1 2 = rj_sk X9 2 from rfl]
    by_cases hw9 : (sp_sp T e 2 p).1 = true
    · refine go_callV (d1 := d - 1) wVX9_94 kX9 pv_0 rfl (by omega) (v_word_y (i := 2) (by omega) hX hP (by decide) hw9) rfl (Nat.le_of_ble_eq_true rfl) dX9_readClause_105 (fun w σ1 hP9 => ?_)
      have hkb := sp_sp_b (T := T) (e := e) (p := p) (i := 2) hX3 (by decide) hp
      obtain ⟨rfl, g1, e1, rfl⟩ := hP9
      have E1 := (pv_e.rf hP).tr e1
      have P1 := e1.P hP ⟨hkb.1, hkb.2, by simp; omega⟩
      have h7c : g1 0 7 = cl := e1.2.2.1.2.1.trans hcl
      have h8c : g1 0 8 = tn := e1.2.2.1.2.2.1.trans htn
      have h4c : g1 0 4 = m := e1.2.2.1.1.trans hm
      refine go_if_eqI (tgt := 123) (by omega) dX9_readClause_108 (by decide) (fun c_108 => ?_) (fun c_108 => ?_)
      · exact absurd c_108 (by omega)
      · refine go_aload_n dX9_readClause_111 rfl 0 rfl ?_
        refine go_iconst (v := Int32.ofInt 2) dX9_readClause_112 rfl ?_
        by_cases hq9 : (sp_som T e (sp_fac T e 5) (sp_sp T e 2 p).2).1 = true
        · refine go_callV (d1 := d - 1) wVX9_98 kX9 pv_0 rfl (by omega) (v_rule_y (m := m) (w := 2) (by omega) hX P1 h4c hm2 (by decide) hq9) rfl (Nat.le_of_ble_eq_true rfl) dX9_readClause_113 (fun w σ1 hP9 => ?_)
          obtain ⟨rfl, g2, K, rfl⟩ := hP9
          rw [h7c, h8c] at K
          refine go_if_eqI (tgt := 123) (by omega) dX9_readClause_116 (by decide) (fun c_116 => ?_) (fun c_116 => ?_)
          · exact absurd c_116 (by omega)
          · refine go_iconst (v := Int32.ofInt 1) dX9_readClause_119 rfl ?_
            refine go_goto (tgt := 124) dX9_readClause_120 (by decide) ?_
            refine go_retI rfl (rj_n01 (by decide)) ?_ dX9_readClause_124
            exact pv_y1 hP.2.2.1 (by rw [hC, sp_whn_1 hw9 hq9]) (by have k2 := e1.k0.tr K; exact k2)
        · refine go_callV (d1 := d - 1) wVX9_98 kX9 pv_0 rfl (by omega) (v_rule_n (m := m) (w := 2) (by omega) hX P1 h4c hm2 (by decide) hq9) rfl (Nat.le_of_ble_eq_true rfl) dX9_readClause_113 (fun w σ1 hP9 => ?_)
          obtain ⟨rfl, g2, e2, rfl⟩ := hP9
          refine go_if_eqI (tgt := 123) (by omega) dX9_readClause_116 (by decide) (fun c_116 => ?_) (fun c_116 => ?_)
          · refine go_iconst (v := Int32.ofInt 0) dX9_readClause_123 rfl ?_
            refine go_retI rfl (rj_n01 (by decide)) ?_ dX9_readClause_124
            exact pv_y0 (by rw [hC, sp_whn_2 hw9 hq9]) (e2.z P1)
          · exact absurd c_116 (by omega)
    · refine go_callV (d1 := d - 1) wVX9_94 kX9 pv_0 rfl (by omega) (v_word_n (i := 2) (by omega) hX hP (by decide) hw9) rfl (Nat.le_of_ble_eq_true rfl) dX9_readClause_105 (fun w σ1 hP9 => ?_)
      obtain ⟨rfl, g1, e1, rfl⟩ := hP9
      refine go_if_eqI (tgt := 123) (by omega) dX9_readClause_108 (by decide) (fun c_108 => ?_) (fun c_108 => ?_)
      · refine go_iconst (v := Int32.ofInt 0) dX9_readClause_123 rfl ?_
        refine go_retI rfl (rj_n01 (by decide)) ?_ dX9_readClause_124
        exact pv_y0 (by rw [hC, sp_whn_3 hw9]) (e1.z hP)
      · exact absurd c_108 (by omega)
  · rw [hk]
    refine go_lookup (off := 121) (tgt := 125) dX9_readClause_4 (by decide) (by decide) (by decide) ?_
    have hC : sp_cla T e p cl tn = ((sp_tel T e 3 10 p).1, (sp_tel T e 3 10 p).2.1, [], if (sp_tel T e 3 10 p).1 = true then (sp_tel T e 3 10 p).2.2 else cl, tn) := by unfold sp_cla; rw [if_neg (by omega), if_neg (by omega), if_neg (by omega), if_pos hk]
    refine go_aload_n dX9_readClause_125 rfl 0 rfl ?_
    refine go_ldcS (i := 3) (tx := "cloud ") (by decide +kernel) dX9_readClause_126 ?_
    rw [show X9.2.2.2.2.2.1 3 = rj_sk X9 3 from rfl]
    by_cases hw9 : (sp_sp T e 3 p).1 = true
    · refine go_callV (d1 := d - 1) wVX9_94 kX9 pv_0 rfl (by omega) (v_word_y (i := 3) (by omega) hX hP (by decide) hw9) rfl (Nat.le_of_ble_eq_true rfl) dX9_readClause_128 (fun w σ1 hP9 => ?_)
      have hkb := sp_sp_b (T := T) (e := e) (p := p) (i := 3) hX3 (by decide) hp
      obtain ⟨rfl, g1, e1, rfl⟩ := hP9
      have E1 := (pv_e.rf hP).tr e1
      have P1 := e1.P hP ⟨hkb.1, hkb.2, by simp; omega⟩
      have h7c : g1 0 7 = cl := e1.2.2.1.2.1.trans hcl
      have h8c : g1 0 8 = tn := e1.2.2.1.2.2.1.trans htn
      have h4c : g1 0 4 = m := e1.2.2.1.1.trans hm
      refine go_if_eqI (tgt := 145) (by omega) dX9_readClause_131 (by decide) (fun c_131 => ?_) (fun c_131 => ?_)
      · exact absurd c_131 (by omega)
      · refine go_aload_n dX9_readClause_134 rfl 0 rfl ?_
        by_cases hq9 : (sp_num T e (sp_sp T e 3 p).2).1 = true
        · refine go_callV (d1 := d - 1) wVX9_108 kX9 pv_0 rfl (by omega) (v_cloud_y (by omega) hX P1 hq9) rfl (Nat.le_of_ble_eq_true rfl) dX9_readClause_135 (fun w σ1 hP9 => ?_)
          obtain ⟨rfl, g2, K, rfl⟩ := hP9
          rw [h8c] at K
          have hnb := sp_num_b (p := (sp_sp T e 3 p).2) hX3 (by omega)
          refine go_if_eqI (tgt := 145) (by omega) dX9_readClause_138 (by decide) (fun c_138 => ?_) (fun c_138 => ?_)
          · exact absurd c_138 (by omega)
          · refine go_iconst (v := Int32.ofInt 1) dX9_readClause_141 rfl ?_
            refine go_goto (tgt := 146) dX9_readClause_142 (by decide) ?_
            refine go_retI rfl (rj_n01 (by decide)) ?_ dX9_readClause_146
            exact pv_y1 hP.2.2.1 (by rw [hC, sp_tel_1 hw9]; dsimp only; rw [if_pos hq9, hq9]) (by have k2 := e1.k0.tr K; exact k2)
        · refine go_callV (d1 := d - 1) wVX9_108 kX9 pv_0 rfl (by omega) (v_cloud_n (by omega) hX P1 hq9) rfl (Nat.le_of_ble_eq_true rfl) dX9_readClause_135 (fun w σ1 hP9 => ?_)
          obtain ⟨rfl, g2, e2, rfl⟩ := hP9
          refine go_if_eqI (tgt := 145) (by omega) dX9_readClause_138 (by decide) (fun c_138 => ?_) (fun c_138 => ?_)
          · refine go_iconst (v := Int32.ofInt 0) dX9_readClause_145 rfl ?_
            refine go_retI rfl (rj_n01 (by decide)) ?_ dX9_readClause_146
            exact pv_y0 (by rw [hC, sp_tel_1 hw9]; dsimp only; rw [pv_b1 hq9]) ⟨e2.1, e2.2.1, e2.2.2.trans (e1.2.2.1.2.2.2.trans hP.2.2.1)⟩
          · exact absurd c_138 (by omega)
    · refine go_callV (d1 := d - 1) wVX9_94 kX9 pv_0 rfl (by omega) (v_word_n (i := 3) (by omega) hX hP (by decide) hw9) rfl (Nat.le_of_ble_eq_true rfl) dX9_readClause_128 (fun w σ1 hP9 => ?_)
      obtain ⟨rfl, g1, e1, rfl⟩ := hP9
      refine go_if_eqI (tgt := 145) (by omega) dX9_readClause_131 (by decide) (fun c_131 => ?_) (fun c_131 => ?_)
      · refine go_iconst (v := Int32.ofInt 0) dX9_readClause_145 rfl ?_
        refine go_retI rfl (rj_n01 (by decide)) ?_ dX9_readClause_146
        exact pv_y0 (by rw [hC, sp_tel_3 hw9]) (e1.z hP)
      · exact absurd c_131 (by omega)
  · rw [hk]
    refine go_lookup (off := 143) (tgt := 147) dX9_readClause_4 (by decide) (by decide) (by decide) ?_
    have hC : sp_cla T e p cl tn = ((sp_tel T e 4 99 p).1, (sp_tel T e 4 99 p).2.1, [], cl, if (sp_tel T e 4 99 p).1 = true then (sp_tel T e 4 99 p).2.2 else tn) := by unfold sp_cla; rw [if_neg (by omega), if_neg (by omega), if_neg (by omega), if_neg (by omega), if_pos hk]
    refine go_aload_n dX9_readClause_147 rfl 0 rfl ?_
    refine go_ldcS (i := 4) (tx := "turn ") (by decide +kernel) dX9_readClause_148 ?_
    rw [show X9.2.2.2.2.2.1 4 = rj_sk X9 4 from rfl]
    by_cases hw9 : (sp_sp T e 4 p).1 = true
    · refine go_callV (d1 := d - 1) wVX9_94 kX9 pv_0 rfl (by omega) (v_word_y (i := 4) (by omega) hX hP (by decide) hw9) rfl (Nat.le_of_ble_eq_true rfl) dX9_readClause_150 (fun w σ1 hP9 => ?_)
      have hkb := sp_sp_b (T := T) (e := e) (p := p) (i := 4) hX3 (by decide) hp
      obtain ⟨rfl, g1, e1, rfl⟩ := hP9
      have E1 := (pv_e.rf hP).tr e1
      have P1 := e1.P hP ⟨hkb.1, hkb.2, by simp; omega⟩
      have h7c : g1 0 7 = cl := e1.2.2.1.2.1.trans hcl
      have h8c : g1 0 8 = tn := e1.2.2.1.2.2.1.trans htn
      have h4c : g1 0 4 = m := e1.2.2.1.1.trans hm
      refine go_if_eqI (tgt := 167) (by omega) dX9_readClause_153 (by decide) (fun c_153 => ?_) (fun c_153 => ?_)
      · exact absurd c_153 (by omega)
      · refine go_aload_n dX9_readClause_156 rfl 0 rfl ?_
        by_cases hq9 : (sp_num T e (sp_sp T e 4 p).2).1 = true
        · refine go_callV (d1 := d - 1) wVX9_113 kX9 pv_0 rfl (by omega) (v_turn_y (by omega) hX P1 hq9) rfl (Nat.le_of_ble_eq_true rfl) dX9_readClause_157 (fun w σ1 hP9 => ?_)
          obtain ⟨rfl, g2, K, rfl⟩ := hP9
          rw [h7c] at K
          have hnb := sp_num_b (p := (sp_sp T e 4 p).2) hX3 (by omega)
          refine go_if_eqI (tgt := 167) (by omega) dX9_readClause_160 (by decide) (fun c_160 => ?_) (fun c_160 => ?_)
          · exact absurd c_160 (by omega)
          · refine go_iconst (v := Int32.ofInt 1) dX9_readClause_163 rfl ?_
            refine go_goto (tgt := 168) dX9_readClause_164 (by decide) ?_
            refine go_retI rfl (rj_n01 (by decide)) ?_ dX9_readClause_168
            exact pv_y1 hP.2.2.1 (by rw [hC, sp_tel_1 hw9]; dsimp only; rw [if_pos hq9, hq9, if_neg (show ¬ (99 : Int) < (sp_num T e (sp_sp T e 4 p).2).2.2 by omega)]) (by have k2 := e1.k0.tr K; exact k2)
        · refine go_callV (d1 := d - 1) wVX9_113 kX9 pv_0 rfl (by omega) (v_turn_n (by omega) hX P1 hq9) rfl (Nat.le_of_ble_eq_true rfl) dX9_readClause_157 (fun w σ1 hP9 => ?_)
          obtain ⟨rfl, g2, e2, rfl⟩ := hP9
          refine go_if_eqI (tgt := 167) (by omega) dX9_readClause_160 (by decide) (fun c_160 => ?_) (fun c_160 => ?_)
          · refine go_iconst (v := Int32.ofInt 0) dX9_readClause_167 rfl ?_
            refine go_retI rfl (rj_n01 (by decide)) ?_ dX9_readClause_168
            exact pv_y0 (by rw [hC, sp_tel_1 hw9]; dsimp only; rw [pv_b1 hq9]) ⟨e2.1, e2.2.1, e2.2.2.trans (e1.2.2.1.2.2.2.trans hP.2.2.1)⟩
          · exact absurd c_160 (by omega)
    · refine go_callV (d1 := d - 1) wVX9_94 kX9 pv_0 rfl (by omega) (v_word_n (i := 4) (by omega) hX hP (by decide) hw9) rfl (Nat.le_of_ble_eq_true rfl) dX9_readClause_150 (fun w σ1 hP9 => ?_)
      obtain ⟨rfl, g1, e1, rfl⟩ := hP9
      refine go_if_eqI (tgt := 167) (by omega) dX9_readClause_153 (by decide) (fun c_153 => ?_) (fun c_153 => ?_)
      · refine go_iconst (v := Int32.ofInt 0) dX9_readClause_167 rfl ?_
        refine go_retI rfl (rj_n01 (by decide)) ?_ dX9_readClause_168
        exact pv_y0 (by rw [hC, sp_tel_3 hw9]) (e1.z hP)
      · exact absurd c_153 (by omega)
  · refine go_lookup (off := 165) (tgt := 169) dX9_readClause_4 (by decide) (by rw [rj_ti (by omega) (by omega)]; simp only [Op.lookupswitch.offset_cons, Op.lookupswitch.offset_nil]; rw [if_neg (by omega), if_neg (by omega), if_neg (by omega), if_neg (by omega), if_neg (by omega)]) (by decide) ?_
    refine go_iconst (v := Int32.ofInt 0) dX9_readClause_169 rfl ?_
    refine go_retI rfl (rj_n01 (by decide)) ?_ dX9_readClause_170
    exact pv_y0 (L := []) (c := cl) (t := tn) (by unfold sp_cla; rw [if_neg hk.1, if_neg hk.2.1, if_neg hk.2.2.1, if_neg hk.2.2.2.1, if_neg hk.2.2.2.2]) ⟨hP.1, hP.2.1, hP.2.2.1⟩
