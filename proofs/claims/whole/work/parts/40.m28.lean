/-! THE REFERENCE, 28: clauseHere, valley -/
set_option maxRecDepth 20000 in
/-- m_clause -/
theorem m_clause {X9 : rj_X} {σ : rj_H} {d : Nat} {mb : Nat} {r : rm_R} {B : Int → Int} {l : List Int} {cl tn : Int} (hd : 25 ≤ d) {s T : Int → Int} {e a p o : Int} (hs : r 1 = s) (ha : r 4 0 = a) (hp : r 5 0 = p) (he : r 6 0 = e) (ho : r 8 0 = o) (hP : sp_P T e a p s) (h7 : r 7 0 = 0) (ho0 : o = 0) (hv : s = sp_vs B a l cl tn) (hB : sp_BB T e a B) : rj_Cl X9 d yX12_clauseHere cX12_clauseHere 1 none [.ref mb] (rm_p X9 mb r σ) (fun w9 τ => w9 = none ∧ ∃ r0, rm_e r r0 (sp_vs B a (l ++ (sp_cla T e p cl tn).2.2.1) (sp_cla T e p cl tn).2.2.2.1 (sp_cla T e p cl tn).2.2.2.2) ((sp_cla T e p cl tn).2.1) (rj_b ((sp_cla T e p cl tn).1 = false)) ∧ τ = rm_p X9 mb r0 σ) := by
  obtain ⟨pa, pp, pe, pT, pt, pc0, pc1⟩ := id hP
  have ph := sp_hr_b pT pp.1
  refine go_call (by decide +kernel) (Nat.le_of_ble_eq_true rfl) ?_
  refine go_eq (pc' := 0) (lv' := [(0, .ref mb)]) (st' := []) rfl rfl rfl rfl ?_
  refine go_aload_n dX12_clauseHere_0 rfl 0 rfl ?_
  refine go_callV (d1 := d - 1) wVX12_74 kX12 rm_ob rfl (by omega) (m_here (T := T) (a := a) (hs := (show r 1 = s from hs)) (hp := (show r 5 0 = p from hp)) (he := (show r 6 0 = e from he)) hP) rfl (Nat.le_of_ble_eq_true rfl) dX12_clauseHere_1 (fun w σ1 hP9 => ?_)
  obtain ⟨rfl, rfl⟩ := hP9
  rcases (show sp_hr T e p = 108 ∨ sp_hr T e p = 101 ∨ sp_hr T e p = 111 ∨ sp_hr T e p = 99 ∨ sp_hr T e p = 116 ∨ (sp_hr T e p ≠ 108 ∧ sp_hr T e p ≠ 101 ∧ sp_hr T e p ≠ 111 ∧ sp_hr T e p ≠ 99 ∧ sp_hr T e p ≠ 116) by omega) with hk | hk | hk | hk | hk | hk
  · rw [hk]
    refine go_lookup (off := 52) (tgt := 56) dX12_clauseHere_4 (by decide) (by decide) (by decide) ?_
    have hC : sp_cla T e p cl tn = ((sp_whn T e 0 (-11) p).1, (sp_whn T e 0 (-11) p).2.1, (sp_whn T e 0 (-11) p).2.2, cl, tn) := by unfold sp_cla; rw [if_pos hk]
    refine go_aload_n dX12_clauseHere_56 rfl 0 rfl ?_
    refine go_bipush (v := Int32.ofInt (-11)) dX12_clauseHere_57 (by decide) ?_
    refine go_ldcS (i := 0) (tx := "lit ") (by decide +kernel) dX12_clauseHere_59 ?_
    rw [show X9.2.2.2.2.2.1 0 = rj_sk X9 0 from rfl]
    refine go_callV (d1 := d - 1) wVX12_126 kX12 rm_ob rfl (by omega) (m_when (T := T) (i := 0) (kind := (-11)) (by omega) (by decide) (hs := (show r 1 = s from hs)) (ha := (show r 4 0 = a from ha)) (hp := (show r 5 0 = p from hp)) (he := (show r 6 0 = e from he)) (ho := (show r 8 0 = o from ho)) hP (show r 7 0 = 0 from h7) ho0) rfl (Nat.le_of_ble_eq_true rfl) dX12_clauseHere_61 (fun w σ1 hP9 => ?_)
    obtain ⟨rfl, r1, ⟨q1_1, q1_5, q1_7, qo1, qa1⟩, rfl⟩ := hP9
    have q1_4 : r1 4 0 = a := (congrFun (qa1 4 (by decide) (by decide) (by decide) (by decide)) 0).trans (show r 4 0 = a from ha)
    have q1_6 : r1 6 0 = e := (congrFun (qa1 6 (by decide) (by decide) (by decide) (by decide)) 0).trans (show r 6 0 = e from he)
    have q1_8 : r1 8 0 = o := qo1.trans (show r 8 0 = o from ho)
    have ao1 : ∀ j : Nat, j ≠ 1 → j ≠ 5 → j ≠ 7 → j ≠ 8 → r1 j = r j := fun j b1 b2 b3 b4 => (qa1 j b1 b2 b3 b4).trans ((fun j _ _ _ _ => rfl) j b1 b2 b3 b4)
    refine go_goto (tgt := 122) dX12_clauseHere_64 (by decide) ?_
    refine go_retV rfl ?_ dX12_clauseHere_122
    exact ⟨rfl, r1, ⟨((show r1 1 = sp_ems s a (sp_whn T e 0 (-11) p).2.2 from q1_1)).trans (by rw [hC, hv]; exact sp_vs_app _ _ _ _ _ _), ((show r1 5 0 = (sp_whn T e 0 (-11) p).2.1 from q1_5)).trans (by rw [hC]), ((show r1 7 0 = rj_b ((sp_whn T e 0 (-11) p).1 = false) from q1_7)).trans (by rw [hC]), ((show r1 8 0 = o from q1_8)).trans ho.symm, ao1⟩, rfl⟩
  · rw [hk]
    refine go_lookup (off := 63) (tgt := 67) dX12_clauseHere_4 (by decide) (by decide) (by decide) ?_
    have hC : sp_cla T e p cl tn = ((sp_whn T e 1 (-12) p).1, (sp_whn T e 1 (-12) p).2.1, (sp_whn T e 1 (-12) p).2.2, cl, tn) := by unfold sp_cla; rw [if_neg (by omega), if_pos hk]
    refine go_aload_n dX12_clauseHere_67 rfl 0 rfl ?_
    refine go_bipush (v := Int32.ofInt (-12)) dX12_clauseHere_68 (by decide) ?_
    refine go_ldcS (i := 1) (tx := "eyes ") (by decide +kernel) dX12_clauseHere_70 ?_
    rw [show X9.2.2.2.2.2.1 1 = rj_sk X9 1 from rfl]
    refine go_callV (d1 := d - 1) wVX12_126 kX12 rm_ob rfl (by omega) (m_when (T := T) (i := 1) (kind := (-12)) (by omega) (by decide) (hs := (show r 1 = s from hs)) (ha := (show r 4 0 = a from ha)) (hp := (show r 5 0 = p from hp)) (he := (show r 6 0 = e from he)) (ho := (show r 8 0 = o from ho)) hP (show r 7 0 = 0 from h7) ho0) rfl (Nat.le_of_ble_eq_true rfl) dX12_clauseHere_72 (fun w σ1 hP9 => ?_)
    obtain ⟨rfl, r1, ⟨q1_1, q1_5, q1_7, qo1, qa1⟩, rfl⟩ := hP9
    have q1_4 : r1 4 0 = a := (congrFun (qa1 4 (by decide) (by decide) (by decide) (by decide)) 0).trans (show r 4 0 = a from ha)
    have q1_6 : r1 6 0 = e := (congrFun (qa1 6 (by decide) (by decide) (by decide) (by decide)) 0).trans (show r 6 0 = e from he)
    have q1_8 : r1 8 0 = o := qo1.trans (show r 8 0 = o from ho)
    have ao1 : ∀ j : Nat, j ≠ 1 → j ≠ 5 → j ≠ 7 → j ≠ 8 → r1 j = r j := fun j b1 b2 b3 b4 => (qa1 j b1 b2 b3 b4).trans ((fun j _ _ _ _ => rfl) j b1 b2 b3 b4)
    refine go_goto (tgt := 122) dX12_clauseHere_75 (by decide) ?_
    refine go_retV rfl ?_ dX12_clauseHere_122
    exact ⟨rfl, r1, ⟨((show r1 1 = sp_ems s a (sp_whn T e 1 (-12) p).2.2 from q1_1)).trans (by rw [hC, hv]; exact sp_vs_app _ _ _ _ _ _), ((show r1 5 0 = (sp_whn T e 1 (-12) p).2.1 from q1_5)).trans (by rw [hC]), ((show r1 7 0 = rj_b ((sp_whn T e 1 (-12) p).1 = false) from q1_7)).trans (by rw [hC]), ((show r1 8 0 = o from q1_8)).trans ho.symm, ao1⟩, rfl⟩
  · rw [hk]
    refine go_lookup (off := 74) (tgt := 78) dX12_clauseHere_4 (by decide) (by decide) (by decide) ?_
    have hC : sp_cla T e p cl tn = ((sp_whn T e 2 (-13) p).1, (sp_whn T e 2 (-13) p).2.1, (sp_whn T e 2 (-13) p).2.2, cl, tn) := by unfold sp_cla; rw [if_neg (by omega), if_neg (by omega), if_pos hk]
    refine go_aload_n dX12_clauseHere_78 rfl 0 rfl ?_
    refine go_bipush (v := Int32.ofInt (-13)) dX12_clauseHere_79 (by decide) ?_
    refine go_ldcS (i := 2) (tx := "own ") (by decide +kernel) dX12_clauseHere_81 ?_
    rw [show X9.2.2.2.2.2.1 2 = rj_sk X9 2 from rfl]
    refine go_callV (d1 := d - 1) wVX12_126 kX12 rm_ob rfl (by omega) (m_when (T := T) (i := 2) (kind := (-13)) (by omega) (by decide) (hs := (show r 1 = s from hs)) (ha := (show r 4 0 = a from ha)) (hp := (show r 5 0 = p from hp)) (he := (show r 6 0 = e from he)) (ho := (show r 8 0 = o from ho)) hP (show r 7 0 = 0 from h7) ho0) rfl (Nat.le_of_ble_eq_true rfl) dX12_clauseHere_83 (fun w σ1 hP9 => ?_)
    obtain ⟨rfl, r1, ⟨q1_1, q1_5, q1_7, qo1, qa1⟩, rfl⟩ := hP9
    have q1_4 : r1 4 0 = a := (congrFun (qa1 4 (by decide) (by decide) (by decide) (by decide)) 0).trans (show r 4 0 = a from ha)
    have q1_6 : r1 6 0 = e := (congrFun (qa1 6 (by decide) (by decide) (by decide) (by decide)) 0).trans (show r 6 0 = e from he)
    have q1_8 : r1 8 0 = o := qo1.trans (show r 8 0 = o from ho)
    have ao1 : ∀ j : Nat, j ≠ 1 → j ≠ 5 → j ≠ 7 → j ≠ 8 → r1 j = r j := fun j b1 b2 b3 b4 => (qa1 j b1 b2 b3 b4).trans ((fun j _ _ _ _ => rfl) j b1 b2 b3 b4)
    refine go_goto (tgt := 122) dX12_clauseHere_86 (by decide) ?_
    refine go_retV rfl ?_ dX12_clauseHere_122
    exact ⟨rfl, r1, ⟨((show r1 1 = sp_ems s a (sp_whn T e 2 (-13) p).2.2 from q1_1)).trans (by rw [hC, hv]; exact sp_vs_app _ _ _ _ _ _), ((show r1 5 0 = (sp_whn T e 2 (-13) p).2.1 from q1_5)).trans (by rw [hC]), ((show r1 7 0 = rj_b ((sp_whn T e 2 (-13) p).1 = false) from q1_7)).trans (by rw [hC]), ((show r1 8 0 = o from q1_8)).trans ho.symm, ao1⟩, rfl⟩
  · rw [hk]
    refine go_lookup (off := 85) (tgt := 89) dX12_clauseHere_4 (by decide) (by decide) (by decide) ?_
    have hC : sp_cla T e p cl tn = ((sp_tel T e 3 10 p).1, (sp_tel T e 3 10 p).2.1, [], (if (sp_tel T e 3 10 p).1 = true then (sp_tel T e 3 10 p).2.2 else cl), tn) := by unfold sp_cla; rw [if_neg (by omega), if_neg (by omega), if_neg (by omega), if_pos hk]
    refine go_aload_n dX12_clauseHere_89 rfl 0 rfl ?_
    refine go_sipush (v := Int32.ofInt 284) dX12_clauseHere_90 (by decide) ?_
    refine go_ldcS (i := 3) (tx := "cloud ") (by decide +kernel) dX12_clauseHere_93 ?_
    rw [show X9.2.2.2.2.2.1 3 = rj_sk X9 3 from rfl]
    refine go_bipush (v := Int32.ofInt 10) dX12_clauseHere_95 (by decide) ?_
    refine go_callV (d1 := d - 1) wVX12_136 kX12 rm_ob rfl (by omega) (m_tellsHere (T := T) (i := 3) (w := 284) (most := 10) (by omega) (by decide) (by omega) (by omega) (hs := (show r 1 = s from hs)) (ha := (show r 4 0 = a from ha)) (hp := (show r 5 0 = p from hp)) (he := (show r 6 0 = e from he)) (ho := (show r 8 0 = o from ho)) hP (show r 7 0 = 0 from h7)) rfl (Nat.le_of_ble_eq_true rfl) dX12_clauseHere_97 (fun w σ1 hP9 => ?_)
    obtain ⟨rfl, r1, ⟨q1_1, q1_5, q1_7, qo1, qa1⟩, rfl⟩ := hP9
    have q1_4 : r1 4 0 = a := (congrFun (qa1 4 (by decide) (by decide) (by decide) (by decide)) 0).trans (show r 4 0 = a from ha)
    have q1_6 : r1 6 0 = e := (congrFun (qa1 6 (by decide) (by decide) (by decide) (by decide)) 0).trans (show r 6 0 = e from he)
    have q1_8 : r1 8 0 = o := qo1.trans (show r 8 0 = o from ho)
    have ao1 : ∀ j : Nat, j ≠ 1 → j ≠ 5 → j ≠ 7 → j ≠ 8 → r1 j = r j := fun j b1 b2 b3 b4 => (qa1 j b1 b2 b3 b4).trans ((fun j _ _ _ _ => rfl) j b1 b2 b3 b4)
    refine go_goto (tgt := 122) dX12_clauseHere_100 (by decide) ?_
    refine go_retV rfl ?_ dX12_clauseHere_122
    exact ⟨rfl, r1, ⟨((show r1 1 = (if (sp_tel T e 3 10 p).1 = true then rj_up s (284 + a) (sp_tel T e 3 10 p).2.2 else s) from q1_1)).trans (by rw [hC]; show (if (sp_tel T e 3 10 p).1 = true then rj_up s (284 + a) (sp_tel T e 3 10 p).2.2 else s) = sp_vs B a (l ++ []) (if (sp_tel T e 3 10 p).1 = true then (sp_tel T e 3 10 p).2.2 else cl) tn; rw [List.append_nil, hv]; by_cases hz : (sp_tel T e 3 10 p).1 = true; rw [if_pos hz, if_pos hz]; exact sp_vs_cl hB.1 hB.2.2.2.2; rw [if_neg hz, if_neg hz]), ((show r1 5 0 = (sp_tel T e 3 10 p).2.1 from q1_5)).trans (by rw [hC]), ((show r1 7 0 = rj_b ((sp_tel T e 3 10 p).1 = false) from q1_7)).trans (by rw [hC]), ((show r1 8 0 = o from q1_8)).trans ho.symm, ao1⟩, rfl⟩
  · rw [hk]
    refine go_lookup (off := 99) (tgt := 103) dX12_clauseHere_4 (by decide) (by decide) (by decide) ?_
    have hC : sp_cla T e p cl tn = ((sp_tel T e 4 99 p).1, (sp_tel T e 4 99 p).2.1, [], cl, (if (sp_tel T e 4 99 p).1 = true then (sp_tel T e 4 99 p).2.2 else tn)) := by unfold sp_cla; rw [if_neg (by omega), if_neg (by omega), if_neg (by omega), if_neg (by omega), if_pos hk]
    refine go_aload_n dX12_clauseHere_103 rfl 0 rfl ?_
    refine go_sipush (v := Int32.ofInt 289) dX12_clauseHere_104 (by decide) ?_
    refine go_ldcS (i := 4) (tx := "turn ") (by decide +kernel) dX12_clauseHere_107 ?_
    rw [show X9.2.2.2.2.2.1 4 = rj_sk X9 4 from rfl]
    refine go_bipush (v := Int32.ofInt 99) dX12_clauseHere_109 (by decide) ?_
    refine go_callV (d1 := d - 1) wVX12_136 kX12 rm_ob rfl (by omega) (m_tellsHere (T := T) (i := 4) (w := 289) (most := 99) (by omega) (by decide) (by omega) (by omega) (hs := (show r 1 = s from hs)) (ha := (show r 4 0 = a from ha)) (hp := (show r 5 0 = p from hp)) (he := (show r 6 0 = e from he)) (ho := (show r 8 0 = o from ho)) hP (show r 7 0 = 0 from h7)) rfl (Nat.le_of_ble_eq_true rfl) dX12_clauseHere_111 (fun w σ1 hP9 => ?_)
    obtain ⟨rfl, r1, ⟨q1_1, q1_5, q1_7, qo1, qa1⟩, rfl⟩ := hP9
    have q1_4 : r1 4 0 = a := (congrFun (qa1 4 (by decide) (by decide) (by decide) (by decide)) 0).trans (show r 4 0 = a from ha)
    have q1_6 : r1 6 0 = e := (congrFun (qa1 6 (by decide) (by decide) (by decide) (by decide)) 0).trans (show r 6 0 = e from he)
    have q1_8 : r1 8 0 = o := qo1.trans (show r 8 0 = o from ho)
    have ao1 : ∀ j : Nat, j ≠ 1 → j ≠ 5 → j ≠ 7 → j ≠ 8 → r1 j = r j := fun j b1 b2 b3 b4 => (qa1 j b1 b2 b3 b4).trans ((fun j _ _ _ _ => rfl) j b1 b2 b3 b4)
    refine go_goto (tgt := 122) dX12_clauseHere_114 (by decide) ?_
    refine go_retV rfl ?_ dX12_clauseHere_122
    exact ⟨rfl, r1, ⟨((show r1 1 = (if (sp_tel T e 4 99 p).1 = true then rj_up s (289 + a) (sp_tel T e 4 99 p).2.2 else s) from q1_1)).trans (by rw [hC]; show (if (sp_tel T e 4 99 p).1 = true then rj_up s (289 + a) (sp_tel T e 4 99 p).2.2 else s) = sp_vs B a (l ++ []) cl (if (sp_tel T e 4 99 p).1 = true then (sp_tel T e 4 99 p).2.2 else tn); rw [List.append_nil, hv]; by_cases hz : (sp_tel T e 4 99 p).1 = true; rw [if_pos hz, if_pos hz]; exact sp_vs_tn hB.1 hB.2.2.2.2; rw [if_neg hz, if_neg hz]), ((show r1 5 0 = (sp_tel T e 4 99 p).2.1 from q1_5)).trans (by rw [hC]), ((show r1 7 0 = rj_b ((sp_tel T e 4 99 p).1 = false) from q1_7)).trans (by rw [hC]), ((show r1 8 0 = o from q1_8)).trans ho.symm, ao1⟩, rfl⟩
  · refine go_lookup (off := 113) (tgt := 117) dX12_clauseHere_4 (by decide) (by rw [rj_ti (by omega) (by omega)]; simp only [Op.lookupswitch.offset_cons, Op.lookupswitch.offset_nil]; rw [if_neg (by omega), if_neg (by omega), if_neg (by omega), if_neg (by omega), if_neg (by omega)]) (by decide) ?_
    have hC : sp_cla T e p cl tn = (false, p, [], cl, tn) := by unfold sp_cla; rw [if_neg (by omega), if_neg (by omega), if_neg (by omega), if_neg (by omega), if_neg (by omega)]
    refine go_aload_n dX12_clauseHere_117 rfl 0 rfl ?_
    refine go_iconst (v := Int32.ofInt 1) dX12_clauseHere_118 rfl ?_
    refine grm_w7 rfl (by omega) dX12_clauseHere_119 ?_
    refine go_retV rfl ?_ dX12_clauseHere_122
    exact ⟨rfl, (rm_u r 7 (fun _ => 1)), ⟨((show (rm_u r 7 (fun _ => 1)) 1 = s from hs)).trans (by rw [hC]; show s = sp_vs B a (l ++ []) cl tn; rw [List.append_nil, hv]), ((show (rm_u r 7 (fun _ => 1)) 5 0 = p from hp)).trans (by rw [hC]), ((show (rm_u r 7 (fun _ => 1)) 7 0 = 1 from rfl)).trans (by rw [hC]; rfl), ((show (rm_u r 7 (fun _ => 1)) 8 0 = o from ho)).trans ho.symm, (fun j b1 b2 b3 b4 => (rm_u_ne _ _ b3).trans ((fun j _ _ _ _ => rfl) j b1 b2 b3 b4))⟩, rfl⟩
