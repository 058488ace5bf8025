/-! THE REFERENCE, 28: clauseHere, valley -/
set_option maxRecDepth 20000 in
/-- m_clause -/
theorem m_clause {X9 : rj_X} {σ : rj_H} {d : Nat} {mb : Nat} {r : rm_R} {B : Int → Int} {l : List Int} {cl tn : Int} (hd : 25 ≤ d) {s T : Int → Int} {e a p o : Int} (hs : r 1 = s) (ha : r 4 0 = a) (hp : r 5 0 = p) (he : r 6 0 = e) (ho : r 8 0 = o) (hP : sp_P T e a p s) (h7 : r 7 0 = 0) (ho0 : o = 0) (hv : s = sp_vs B a l cl tn) (hB : sp_BB T e a B) : rj_Cl X9 d yX12_clauseHere cX12_clauseHere 1 none [.ref mb] (rm_p X9 mb r σ) (fun w9 τ => w9 = none ∧ ∃ r0, rm_e r r0 (sp_vs B a (l ++ (sp_cla T e p cl tn).2.2.1) (sp_cla T e p cl tn).2.2.2.1 (sp_cla T e p cl tn).2.2.2.2) ((sp_cla T e p cl tn).2.1) (rj_b ((sp_cla T e p cl tn).1 = false)) ∧ τ = rm_p X9 mb r0 σ) := by
  obtain ⟨pa, pp, pe, pT, pt, pc0, pc1⟩ := id hP
  have ph := sp_hr_b pT pp.1
  refine go_call (by decide +kernel) (Nat.le_of_ble_eq_true rfl) ?_
  refine go_eq (pc' := 0) (lv' := [(0, .ref mb)]) (st' := []) rfl rfl rfl rfl ?_
  refine go_aload_n dX12_clauseHere_0 rfl 0 rfl ?_
  refine go_callV (d1 := d - 1) wVX12_74 kX12 rm_ob rfl (by omega) (m_here (T := T) (a := a) (hs := (show r 1 = s from hs)) (hp := (show r 5 0 = p from hp)) (he := (show r 6 0 = e from he)) hP) rfl (Nat.le_of_ble_eq_true rfl) dX12_clauseHere_1 (fun w σ1 hP9 => ?_)
  obtain ⟨rfl, rfl⟩ := hP9
  rcases (show sp_hr T e p = 108 ∨ sp_hr T e p = 101 ∨ sp_hr T e p = 111 ∨ sp_hr T e p = 99 ∨ sp_hr T e p = 116 ∨ (sp_hr T e p ≠ 108 ∧ sp_hr T e p ≠ 101 ∧ sp_hr T e p ≠ 111 ∧ sp_hr T e p ≠ 99 ∧ sp_hr T e p ≠ 116) by omega) with hk | hk | hk | hk | hk | hk
  · rw [hk]
    refine go_lookup (off := 52) (tgt := 56) dX12_clauseHere_4 (by decide) (by decide) (by decide) ?_
    have hC : sp_cla T e p cl tn = ((sp_whn T e 0 (-11) p).1, (sp_whn T e 0 (-11) p).2.1, (sp_whn T e 0 (-11) p).2.2, cl, tn) := by unfold sp_cla; rw [if_pos hk]
    refine go_aload_n dX12_clauseHere_56 rfl 0 rfl ?_
    refine go_bipush (v := Int32.ofInt (-11)) dX12_clauseHere_57 (by decide) ?_
    refine go_ldcS (i := 0) (tx := "lit ") (by decide +kernel) dX12_clauseHere_59 ?_
    rw [show X9.2.2.2.2.2.1 0 = rj_sk X9 0 from rfl]
    refine go_callV (d1 := d - 1) wVX12_126 kX12 rm_ob rfl (by omega) (m_when (T := T) (i := 0) (kind := (-11)) (by omega) (by decide) (hs := (show r 1 = s from hs)) (ha := (show r 4 0 = a from ha)) (hp := (show r 5 0 = p from hp)) (he := (show r 6 0 = e from he)) (ho := (show r 8 0 = o from ho)) hP (show r 7 0 = 0 from h7) ho0) rfl (Nat.le_of_ble_eq_true rfl) dX12_clauseHere_61 (fun w σ1 hP9 => ?_)
    obtain ⟨rfl, r1, ⟨q1_1, q1_5, q1_7, qo1, qa1⟩, rfl⟩ := hP9
    have q1_4 : r1 4 0 = a := (congrFun (qa1 4 (by decide) (by decide) (by decide) (by decide)) 0).trans (show r 4 0 = a from ha)
    have q1_6 : r1 6 0 = e := (congrFun (qa1 6 (by decide) (by decide) (by decide) (by decide)) 0).trans (show r 6 0 = e from he)
    have q1_8 : r1 8 0 = o := qo1.trans (show r 8 0 = o from ho)
    have ao1 : ∀ j : Nat, j ≠ 1 → j ≠ 5 → j ≠ 7 → j ≠ 8 → r1 j = r j := fun j b1 b2 b3 b4 => (qa1 j b1 b2 b3 b4).trans ((fun j _ _ _ _ => rfl) j b1 b2 b3 b4)
    refine go_goto (tgt := 122) dX12_clauseHere_64 (by decide) ?_
    refine go_retV rfl ?_ dX12_clauseHere_122
    exact ⟨rfl, r1, ⟨((show r1 1 = sp_ems s a (sp_whn T e 0 (-11) p).2.2 from q1_1)).trans (by rw [hC, hv]; exact sp_vs_app _ _ _ _ _ _), ((show r1 5 0 = (sp_whn T e 0 (-11) p).2.1 from q1_5)).trans (by rw [hC]), ((show r1 7 0 = rj_b ((sp_whn T e 0 (-11) p).1 = false) from q1_7)).trans (by rw [hC]), ((show r1 8 0 = o from q1_8)).trans ho.symm, ao1⟩, rfl⟩
  · rw [hk]
    refine go_lookup (off := 63) (tgt := 67) dX12_clauseHere_4 (by decide) (by decide) (by decide) ?_
    have hC : sp_cla T e p cl tn = ((sp_whn T e 1 (-12) p).1, (sp_whn T e 1 (-12) p).2.1, (sp_whn T e 1 (-12) p).2.2, cl, tn) := by unfold sp_cla; rw [if_neg (by omega), if_pos hk]
    refine go_aload_n dX12_clauseHere_67 rfl 0 rfl ?_
    refine go_bipush (v := Int32.ofInt (-12)) dX12_clauseHere_68 (by decide) ?_
    refine go_ldcS (i := 1) (tx := "eyes ") (by decide +kernel) dX12_clauseHere_70 ?_
    rw [show X9.2.2.2.2.2.1 1 = rj_sk X9 1 from rfl]
    refine go_callV (d1 := d - 1) wVX12_126 kX12 rm_ob rfl (by omega) (m_when (T := T) (i := 1) (kind := (-12)) (by omega) (by decide) (hs := (show r 1 = s from hs)) (ha := (show r 4 0 = a from ha)) (hp := (show r 5 0 = p from hp)) (he := (show r 6 0 = e from he)) (ho := (show r 8 0 = o from ho)) hP (show r 7 0 = 0 from h7) ho0) rfl (Nat.le_of_ble_eq_true rfl) dX12_clauseHere_72 (fun w σ1 hP9 => ?_)
    obtain ⟨rfl, r1, ⟨q1_1, q1_5, q1_7, qo1, qa1⟩, rfl⟩ := hP9
    have q1_4 : r1 4 0 = a := (congrFun (qa1 4 (by decide) (by decide) (by decide) (by decide)) 0).trans (show r 4 0 = a from ha)
    have q1_6 : r1 6 0 = e := (congrFun (qa1 6 (by decide) (by decide) (by decide) (by decide)) 0).trans (show r 6 0 = e from he)
    have q1_8 : r1 8 0 = o := qo1.trans (show r 8 0 = o from ho)
    have ao1 : ∀ j : Nat, j ≠ 1 → j ≠ 5 → j ≠ 7 → j ≠ 8 → r1 j = r j := fun j b1 b2 b3 b4 => (qa1 j b1 b2 b3 b4).trans ((fun j _ _ _ _ => rfl) j b1 b2 b3 b4)
    refine go_goto (tgt := 122) dX12_clauseHere_75 (by decide) ?_
    refine go_retV rfl ?_ dX12_clauseHere_122
    exact ⟨rfl, r1, ⟨((show r1 1 = sp_ems s a (sp_whn T e 1 (-12) p).2.2 from q1_1)).trans (by rw [hC, hv]; exact sp_vs_app _ _ _ _ _ _), ((show r1 5 0 = (sp_whn T e 1 (-12) p).2.1 from q1_5)).trans (by rw [hC]), ((show r1 7 0 = rj_b ((sp_whn T e 1 (-12) p).1 = false) from q1_7)).trans (by rw [hC]), ((show r1 8 0 = o from q1_8)).trans ho.symm, ao1⟩, rfl⟩
  · rw [hk]
    refine go_lookup (off := 74) (tgt := 78) dX12_clauseHere_4 (by decide) (by decide) (by decide) ?_
    have hC : sp_cla T e p cl tn = ((sp_whn T e 2 (-13) p).1, (sp_whn T e 2 (-13) p).2.1, (sp_whn T e 2 (-13) p).2.2, cl, tn) := by unfold sp_cla; rw [if_neg (by omega), if_neg (by omega), if_pos hk]
    refine go_aload_n dX12_clauseHere_78 rfl 0 rfl ?_
    refine go_bipush (v := Int32.ofInt (-13)) dX12_clauseHere_79 (by decide) ?_
    refine go_ldcS (i := 2) (tx := "own ") (by decide +kernel) dX12_clauseHere_81 ?_
    rw [show X9.2.2.2.2.2.1 2 = rj_sk X9 2 from rfl]
    refine go_callV (d1 := d - 1) wVX12_126 kX12 rm_ob rfl (by omega) (m_when (T := T) (i := 2) (kind := (-13)) (by omega) (by decide) (hs := (show r 1 = s from hs)) (ha := (show r 4 0 = a from ha)) (hp := (show r 5 0 = p from hp)) (he := (show r 6 0 = e from he)) (ho := (show r 8 0 = o from ho)) hP (show r 7 0 = 0 from h7) ho0) rfl (Nat.le_of_ble_eq_true rfl) dX12_clauseHere_83 (fun w σ1 hP9 => ?_)
    obtain ⟨rfl, r1, ⟨q1_1, q1_5, q1_7, qo1, qa1⟩, rfl⟩ := hP9
    have q1_4 : r1 4 0 = a := (congrFun (qa1 4 (by decide) (by decide) (by decide) (by decide)) 0).trans (show r 4 0 = a from ha)
    have q1_6 : r1 6 0 = e := (congrFun (qa1 6 (by decide) (by decide) (by decide) (by decide)) 0).trans (show r 6 0 = e from he)
    have q1_8 : r1 8 0 = o := qo1.trans (show r 8 0 = o from ho)
    have ao1 : ∀ j : Nat, j ≠ 1 → j ≠ 5 → j ≠ 7 → j ≠ 8 → r1 j = r j := fun j b1 b2 b3 b4 => (qa1 j b1 b2 b3 b4).trans ((fun j _ _ _ _ => rfl) j b1 b2 b3 b4)
    refine go_goto (tgt := 122) dX12_clauseHere_86 (by decide) ?_
    refine go_retV rfl ?_ dX12_clauseHere_122
    exact ⟨rfl, r1, ⟨((show r1 1 = sp_ems s a (sp_whn T e 2 (-13) p).2.2 from q1_1)).trans (by rw [hC, hv]; exact sp_vs_app _ _ _ _ _ _), ((show r1 5 0 = (sp_whn T e 2 (-13) p).2.1 from q1_5)).trans (by rw [hC]), ((show r1 7 0 = rj_b ((sp_whn T e 2 (-13) p).1 = false) from q1_7)).trans (by rw [hC]), ((show r1 8 0 = o from q1_8)).trans ho.symm, ao1⟩, rfl⟩
  · rw [hk]
    refine go_lookup (off := 85) (tgt := 89) dX12_clauseHere_4 (by decide) (by decide) (by decide) ?_
    have hC : sp_cla T e p cl tn = ((sp_tel T e 3 10 p).1, (sp_tel T e 3 10 p).2.1, [], (if (sp_tel T e 3 10 p).1 = true then (sp_tel T e 3 10 p).2.2 else cl), tn) := by unfold sp_cla; rw [if_neg (by omega), if_neg (by omega), if_neg (by omega), if_pos hk]
    refine go_aload_n dX12_clauseHere_89 rfl 0 rfl ?_
    refine go_sipush (v := Int32.ofInt 284) dX12_clauseHere_90 (by decide) ?_
    refine go_ldcS (i := 3) (tx := "cloud ") (by decide +kernel) dX12_clauseHere_93 ?_
    rw [show X9.2.2.2.2.2.1 3 = rj_sk X9 3 from rfl]
    refine go_bipush (v := Int32.ofInt 10) dX12_clauseHere_95 (by decide) ?_
    refine go_callV (d1 := d - 1) wVX12_136 kX12 rm_ob rfl (by omega) (m_tellsHere (T := T) (i := 3) (w := 284) (most := 10) (by omega) (by decide) (by omega) (by omega) (hs := (show r 1 = s from hs)) (ha := (show r 4 0 = a from ha)) (hp := (show r 5 0 = p from hp)) (he := (show r 6 0 = e from he)) (ho := (show r 8 0 = o from ho)) hP (show r 7 0 = 0 from h7)) rfl (Nat.le_of_ble_eq_true rfl) dX12_clauseHere_97 (fun w σ1 hP9 => ?_)
    obtain ⟨rfl, r1, ⟨q1_1, q1_5, q1_7, qo1, qa1⟩, rfl⟩ := hP9
    have q1_4 : r1 4 0 = a := (congrFun (qa1 4 (by decide) (by decide) (by decide) (by decide)) 0).trans (show r 4 0 = a from ha)
    have q1_6 : r1 6 0 = e := (congrFun (qa1 6 (by decide) (by decide) (by decide) (by decide)) 0).trans (show r 6 0 = e from he)
    have q1_8 : r1 8 0 = o := qo1.trans (show r 8 0 = o from ho)
    have ao1 : ∀ j : Nat, j ≠ 1 → j ≠ 5 → j ≠ 7 → j ≠ 8 → r1 j = r j := fun j b1 b2 b3 b4 => (qa1 j b1 b2 b3 b4).trans ((fun j _ _ _ _ => rfl) j b1 b2 b3 b4)
    refine go_goto (tgt := 122) dX12_clauseHere_100 (by decide) ?_
    refine go_retV rfl ?_ dX12_clauseHere_122
    exact ⟨rfl, r1, ⟨((show r1 1 = (if (sp_tel T e 3 10 p).1 = true then rj_up s (284 + a) (sp_tel T e 3 10 p).2.2 else s) from q1_1)).trans (by rw [hC]; show (if (sp_tel T e 3 10 p).1 = true then rj_up s (284 + a) (sp_tel T e 3 10 p).2.2 else s) = sp_vs B a (l ++ []) (if (sp_tel T e 3 10 p).1 = true then (sp_tel T e 3 10 p).2.2 else cl) tn; rw [List.append_nil, hv]; by_cases hz : (sp_tel T e 3 10 p).1 = true; rw [if_pos hz, if_pos hz]; exact sp_vs_cl hB.1 hB.2.2.2.2; rw [if_neg hz, if_neg hz]), ((show r1 5 0 = (sp_tel T e 3 10 p).2.1 from q1_5)).trans (by rw [hC]), ((show r1 7 0 = rj_b ((sp_tel T e 3 10 p).1 = false) from q1_7)).trans (by rw [hC]), ((show r1 8 0 = o from q1_8)).trans ho.symm, ao1⟩, rfl⟩
  · rw [hk]
    refine go_lookup (off := 99) (tgt := 103) dX12_clauseHere_4 (by decide) (by decide) (by decide) ?_
    have hC : sp_cla T e p cl tn = ((sp_tel T e 4 99 p).1, (sp_tel T e 4 99 p).2.1, [], cl, (if (sp_tel T e 4 99 p).1 = true then (sp_tel T e 4 99 p).2.2 else tn)) := by unfold sp_cla; rw [if_neg (by omega), if_neg (by omega), if_neg (by omega), if_neg (by omega), if_pos hk]
    refine go_aload_n dX12_clauseHere_103 rfl 0 rfl ?_
    refine go_sipush (v := Int32.ofInt 289) dX12_clauseHere_104 (by decide) ?_
    refine go_ldcS (i := 4) (tx := "turn ") (by decide +kernel) dX12_clauseHere_107 ?_
    rw [show X9.2.2.2.2.2.1 4 = rj_sk X9 4 from rfl]
    refine go_bipush (v := Int32.ofInt 99) dX12_clauseHere_109 (by decide) ?_
    refine go_callV (d1 := d - 1) wVX12_136 kX12 rm_ob rfl (by omega) (m_tellsHere (T := T) (i := 4) (w := 289) (most := 99) (by omega) (by decide) (by omega) (by omega) (hs := (show r 1 = s from hs)) (ha := (show r 4 0 = a from ha)) (hp := (show r 5 0 = p from hp)) (he := (show r 6 0 = e from he)) (ho := (show r 8 0 = o from ho)) hP (show r 7 0 = 0 from h7)) rfl (Nat.le_of_ble_eq_true rfl) dX12_clauseHere_111 (fun w σ1 hP9 => ?_)
    obtain ⟨rfl, r1, ⟨q1_1, q1_5, q1_7, qo1, qa1⟩, rfl⟩ := hP9
    have q1_4 : r1 4 0 = a := (congrFun (qa1 4 (by decide) (by decide) (by decide) (by decide)) 0).trans (show r 4 0 = a from ha)
    have q1_6 : r1 6 0 = e := (congrFun (qa1 6 (by decide) (by decide) (by decide) (by decide)) 0).trans (show r 6 0 = e from he)
    have q1_8 : r1 8 0 = o := qo1.trans (show r 8 0 = o from ho)
    have ao1 : ∀ j : Nat, j ≠ 1 → j ≠ 5 → j ≠ 7 → j ≠ 8 → r1 j = r j := fun j b1 b2 b3 b4 => (qa1 j b1 b2 b3 b4).trans ((fun j _ _ _ _ => rfl) j b1 b2 b3 b4)
    refine go_goto (tgt := 122) dX12_clauseHere_114 (by decide) ?_
    refine go_retV rfl ?_ dX12_clauseHere_122
    exact ⟨rfl, r1, ⟨((show r1 1 = (if (sp_tel T e 4 99 p).1 = true then rj_up s (289 + a) (sp_tel T e 4 99 p).2.2 else s) from q1_1)).trans (by rw [hC]; show (if (sp_tel T e 4 99 p).1 = true then rj_up s (289 + a) (sp_tel T e 4 99 p).2.2 else s) = sp_vs B a (l ++ []) cl (if (sp_tel T e 4 99 p).1 = true then (sp_tel T e 4 99 p).2.2 else tn); rw [List.append_nil, hv]; by_cases hz : (sp_tel T e 4 99 p).1 = true; rw [if_pos hz, if_pos hz]; exact sp_vs_tn hB.1 hB.2.2.2.2; rw [if_neg hz, if_neg hz]), ((show r1 5 0 = (sp_tel T e 4 99 p).2.1 from q1_5)).trans (by rw [hC]), ((show r1 7 0 = rj_b ((sp_tel T e 4 99 p).1 = false) from q1_7)).trans (by rw [hC]), ((show r1 8 0 = o from q1_8)).trans ho.symm, ao1⟩, rfl⟩
  · refine go_lookup (off := 113) (tgt := 117) dX12_clauseHere_4 (by decide) (by rw [rj_ti (by omega) (by omega)]; simp only [Op.lookupswitch.offset_cons, Op.lookupswitch.offset_nil]; rw [if_neg (by omega), if_neg (by omega), if_neg (by omega), if_neg (by omega), if_neg (by omega)]) (by decide) ?_
    have hC : sp_cla T e p cl tn = (false, p, [], cl, tn) := by unfold sp_cla; rw [if_neg (by omega), if_neg (by omega), if_neg (by omega), if_neg (by omega), if_neg (by omega)]
    refine go_aload_n dX12_clauseHere_117 rfl 0 rfl ?_
    refine go_iconst (v := Int32.ofInt 1) dX12_clauseHere_118 rfl ?_
    refine grm_w7 rfl (by omega) dX12_clauseHere_119 ?_
    refine go_retV rfl ?_ dX12_clauseHere_122
    exact ⟨rfl, (rm_u r 7 (fun _ => 1)), ⟨((show (rm_u r 7 (fun _ => 1)) 1 = s from hs)).trans (by rw [hC]; show s = sp_vs B a (l ++ []) cl tn; rw [List.append_nil, hv]), ((show (rm_u r 7 (fun _ => 1)) 5 0 = p from hp)).trans (by rw [hC]), ((show (rm_u r 7 (fun _ => 1)) 7 0 = 1 from rfl)).trans (by rw [hC]; rfl), ((show (rm_u r 7 (fun _ => 1)) 8 0 = o from ho)).trans ho.symm, (fun j b1 b2 b3 b4 => (rm_u_ne _ _ b3).trans ((fun j _ _ _ _ => rfl) j b1 b2 b3 b4))⟩, rfl⟩
def sp_vC (s : Int → Int) : sp_C := sp_vl (fun j => s (10 + j)) (s 6)
def sp_vB (s : Int → Int) : Int → Int := rj_up (rj_up s 6 0) (294 + s 3) 0
def sp_vV (s : Int → Int) : Int → Int := sp_vs (sp_vB s) (s 3) (sp_vC s).2.2.1 (sp_vC s).2.2.2.1 (sp_vC s).2.2.2.2
def sp_valF (s : Int → Int) : Int := if s 3 = 5 then -4 else if (sp_vC s).1 = true ∧ (sp_vC s).2.1 = s 6 then s 3 else -10 - (sp_vC s).2.1
def sp_valS (s : Int → Int) : Int → Int := if s 3 = 5 then s else if (sp_vC s).1 = true ∧ (sp_vC s).2.1 = s 6 then rj_up (rj_up (sp_vV s) 3 (s 3 + 1)) 7 (s 3) else sp_vV s
theorem sp_vs_lo {B : Int → Int} {a cl tn j : Int} {l : List Int} (ha : 0 ≤ a ∧ a ≤ 4) (h0 : B (294 + a) = 0) (hj : j < 284) : sp_vs B a l cl tn j = B j := by
  unfold sp_vs
  rw [sp_ems_lo ha.1 (by omega) l _ (by rw [rj_up_ne _ _ (by omega), rj_up_ne _ _ (by omega), h0]; omega), rj_up_ne _ _ (by omega), rj_up_ne _ _ (by omega)]
set_option maxRecDepth 20000 in
/-- m_valley -/
theorem m_valley {X9 : rj_X} {σ : rj_H} {d : Nat} {mb : Nat} {r : rm_R} (hd : 26 ≤ d) {s : Int → Int} (hs : r 1 = s) (hI : sp_I s) (hTp : ∀ j : Int, 0 ≤ j → j < s 6 → 0 ≤ s (10 + j) ∧ s (10 + j) ≤ 255) : rj_Cl X9 d yX12_valley cX12_valley 2 (some .int) [.ref mb] (rm_p X9 mb r σ) (fun w9 τ => w9 = some (rj_i (sp_valF s)) ∧ ∃ r0, rm_V r r0 (sp_valS s) ∧ τ = rm_p X9 mb r0 σ) := by
  obtain ⟨⟨h0, h1, h2, h3, h4, h5, h6, h7⟩, hM, hP, hW, hL, hV⟩ := id hI
  obtain ⟨v1, v2, v3, v4⟩ := id hV
  refine go_call (by decide +kernel) (Nat.le_of_ble_eq_true rfl) ?_
  refine go_eq (pc' := 0) (lv' := [(0, .ref mb)]) (st' := []) rfl rfl rfl rfl ?_
  refine go_aload_n dX12_valley_0 rfl 0 rfl ?_
  refine grm_g1 rfl dX12_valley_1 ?_
  refine go_iconst (v := Int32.ofInt 3) dX12_valley_4 rfl ?_
  refine grm_l1 (by omega) (by omega) dX12_valley_5 ?_
  rw [show r 1 = s from hs]
  refine go_iconst (v := Int32.ofInt 5) dX12_valley_6 rfl ?_
  refine go_icmp_neI (tgt := 13) (by omega) (by omega) dX12_valley_7 (by decide) (fun c_7 => ?_) (fun c_7 => ?_)
  · refine go_aload_n dX12_valley_13 rfl 0 rfl ?_
    refine go_aload_n dX12_valley_14 rfl 0 rfl ?_
    refine grm_g1 rfl dX12_valley_15 ?_
    refine go_iconst (v := Int32.ofInt 3) dX12_valley_18 rfl ?_
    refine grm_l1 (by omega) (by omega) dX12_valley_19 ?_
    rw [show r 1 = s from hs]
    rw [show s 3 = s 3 from rfl]
    refine grm_w4 rfl dX12_valley_20 ?_
    refine go_aload_n dX12_valley_23 rfl 0 rfl ?_
    refine go_aload_n dX12_valley_24 rfl 0 rfl ?_
    refine grm_g1 rfl dX12_valley_25 ?_
    refine go_bipush (v := Int32.ofInt 6) dX12_valley_28 (by decide) ?_
    refine grm_l1 (by omega) (by omega) dX12_valley_30 ?_
    rw [show (rm_u r 4 (fun _ => s 3)) 1 = s from hs]
    refine grm_w6 rfl dX12_valley_31 ?_
    refine go_aload_n dX12_valley_34 rfl 0 rfl ?_
    refine grm_g1 rfl dX12_valley_35 ?_
    refine go_bipush (v := Int32.ofInt 6) dX12_valley_38 (by decide) ?_
    refine go_iconst (v := Int32.ofInt 0) dX12_valley_40 rfl ?_
    refine grm_s1 (by omega) (by omega) dX12_valley_41 ?_
    refine go_aload_n dX12_valley_42 rfl 0 rfl ?_
    refine grm_g1 rfl dX12_valley_43 ?_
    refine go_sipush (v := Int32.ofInt 284) dX12_valley_46 (by decide) ?_
    refine go_aload_n dX12_valley_49 rfl 0 rfl ?_
    refine grm_g4 rfl dX12_valley_50 ?_
    rw [show (rm_u (rm_u (rm_u r 4 (fun _ => s 3)) 6 (fun _ => s 6)) 1 (rj_up ((rm_u (rm_u r 4 (fun _ => s 3)) 6 (fun _ => s 6)) 1) 6 0)) 4 0 = s 3 from rfl]
    refine go_addI dX12_valley_53 ?_
    refine go_iconst (v := Int32.ofInt 0) dX12_valley_54 rfl ?_
    refine grm_s1 (by omega) (by omega) dX12_valley_55 ?_
    refine go_aload_n dX12_valley_56 rfl 0 rfl ?_
    refine grm_g1 rfl dX12_valley_57 ?_
    refine go_sipush (v := Int32.ofInt 289) dX12_valley_60 (by decide) ?_
    refine go_aload_n dX12_valley_63 rfl 0 rfl ?_
    refine grm_g4 rfl dX12_valley_64 ?_
    rw [show (rm_u (rm_u (rm_u (rm_u r 4 (fun _ => s 3)) 6 (fun _ => s 6)) 1 (rj_up ((rm_u (rm_u r 4 (fun _ => s 3)) 6 (fun _ => s 6)) 1) 6 0)) 1 (rj_up ((rm_u (rm_u (rm_u r 4 (fun _ => s 3)) 6 (fun _ => s 6)) 1 (rj_up ((rm_u (rm_u r 4 (fun _ => s 3)) 6 (fun _ => s 6)) 1) 6 0)) 1) (284 + (s 3)) 0)) 4 0 = s 3 from rfl]
    refine go_addI dX12_valley_67 ?_
    refine go_bipush (v := Int32.ofInt 9) dX12_valley_68 (by decide) ?_
    refine grm_s1 (by omega) (by omega) dX12_valley_70 ?_
    refine go_aload_n dX12_valley_71 rfl 0 rfl ?_
    refine grm_g1 rfl dX12_valley_72 ?_
    refine go_sipush (v := Int32.ofInt 294) dX12_valley_75 (by decide) ?_
    refine go_aload_n dX12_valley_78 rfl 0 rfl ?_
    refine grm_g4 rfl dX12_valley_79 ?_
    rw [show (rm_u (rm_u (rm_u (rm_u (rm_u r 4 (fun _ => s 3)) 6 (fun _ => s 6)) 1 (rj_up ((rm_u (rm_u r 4 (fun _ => s 3)) 6 (fun _ => s 6)) 1) 6 0)) 1 (rj_up ((rm_u (rm_u (rm_u r 4 (fun _ => s 3)) 6 (fun _ => s 6)) 1 (rj_up ((rm_u (rm_u r 4 (fun _ => s 3)) 6 (fun _ => s 6)) 1) 6 0)) 1) (284 + (s 3)) 0)) 1 (rj_up ((rm_u (rm_u (rm_u (rm_u r 4 (fun _ => s 3)) 6 (fun _ => s 6)) 1 (rj_up ((rm_u (rm_u r 4 (fun _ => s 3)) 6 (fun _ => s 6)) 1) 6 0)) 1 (rj_up ((rm_u (rm_u (rm_u r 4 (fun _ => s 3)) 6 (fun _ => s 6)) 1 (rj_up ((rm_u (rm_u r 4 (fun _ => s 3)) 6 (fun _ => s 6)) 1) 6 0)) 1) (284 + (s 3)) 0)) 1) (289 + (s 3)) 9)) 4 0 = s 3 from rfl]
    refine go_addI dX12_valley_82 ?_
    refine go_iconst (v := Int32.ofInt 0) dX12_valley_83 rfl ?_
    refine grm_s1 (by omega) (by omega) dX12_valley_84 ?_
    refine go_aload_n dX12_valley_85 rfl 0 rfl ?_
    refine go_iconst (v := Int32.ofInt 0) dX12_valley_86 rfl ?_
    refine grm_w5 rfl dX12_valley_87 ?_
    refine go_aload_n dX12_valley_90 rfl 0 rfl ?_
    refine go_iconst (v := Int32.ofInt 0) dX12_valley_91 rfl ?_
    refine grm_w7 rfl (by omega) dX12_valley_92 ?_
    refine go_aload_n dX12_valley_95 rfl 0 rfl ?_
    refine go_iconst (v := Int32.ofInt 0) dX12_valley_96 rfl ?_
    refine grm_w8 rfl dX12_valley_97 ?_
    refine go_iconst (v := Int32.ofInt 1) dX12_valley_100 rfl ?_
    refine go_istore_nS (lv' := [(0, .ref mb), (1, rj_i 1)]) rfl (by decide) rfl dX12_valley_101 ?_
    obtain ⟨a, ea⟩ : ∃ a, a = s 3 := ⟨_, rfl⟩
    obtain ⟨e, ee⟩ : ∃ e, e = s 6 := ⟨_, rfl⟩
    obtain ⟨T, eT⟩ : ∃ T : Int → Int, T = fun j => s (10 + j) := ⟨_, rfl⟩
    obtain ⟨B, eB⟩ : ∃ B : Int → Int, B = sp_vB s := ⟨_, rfl⟩
    have hBB : sp_BB T e a B := by
      refine ⟨by omega, by omega, fun j a1 a2 => ?_, fun j a1 a2 => ?_, ?_⟩
      · rw [eT]; exact hTp j a1 (by omega)
      · rw [eB, eT]; unfold sp_vB; rw [rj_up_ne _ _ (by omega), rj_up_ne _ _ (by omega)]
      · rw [eB, ea]; exact rj_up_eq _ _ _
    obtain ⟨r9, e9⟩ : ∃ x_, x_ = (rm_u (rm_u (rm_u (rm_u (rm_u (rm_u (rm_u (rm_u (rm_u r 4 (fun _ => s 3)) 6 (fun _ => s 6)) 1 (rj_up ((rm_u (rm_u r 4 (fun _ => s 3)) 6 (fun _ => s 6)) 1) 6 0)) 1 (rj_up ((rm_u (rm_u (rm_u r 4 (fun _ => s 3)) 6 (fun _ => s 6)) 1 (rj_up ((rm_u (rm_u r 4 (fun _ => s 3)) 6 (fun _ => s 6)) 1) 6 0)) 1) (284 + (s 3)) 0)) 1 (rj_up ((rm_u (rm_u (rm_u (rm_u r 4 (fun _ => s 3)) 6 (fun _ => s 6)) 1 (rj_up ((rm_u (rm_u r 4 (fun _ => s 3)) 6 (fun _ => s 6)) 1) 6 0)) 1 (rj_up ((rm_u (rm_u (rm_u r 4 (fun _ => s 3)) 6 (fun _ => s 6)) 1 (rj_up ((rm_u (rm_u r 4 (fun _ => s 3)) 6 (fun _ => s 6)) 1) 6 0)) 1) (284 + (s 3)) 0)) 1) (289 + (s 3)) 9)) 1 (rj_up ((rm_u (rm_u (rm_u (rm_u (rm_u r 4 (fun _ => s 3)) 6 (fun _ => s 6)) 1 (rj_up ((rm_u (rm_u r 4 (fun _ => s 3)) 6 (fun _ => s 6)) 1) 6 0)) 1 (rj_up ((rm_u (rm_u (rm_u r 4 (fun _ => s 3)) 6 (fun _ => s 6)) 1 (rj_up ((rm_u (rm_u r 4 (fun _ => s 3)) 6 (fun _ => s 6)) 1) 6 0)) 1) (284 + (s 3)) 0)) 1 (rj_up ((rm_u (rm_u (rm_u (rm_u r 4 (fun _ => s 3)) 6 (fun _ => s 6)) 1 (rj_up ((rm_u (rm_u r 4 (fun _ => s 3)) 6 (fun _ => s 6)) 1) 6 0)) 1 (rj_up ((rm_u (rm_u (rm_u r 4 (fun _ => s 3)) 6 (fun _ => s 6)) 1 (rj_up ((rm_u (rm_u r 4 (fun _ => s 3)) 6 (fun _ => s 6)) 1) 6 0)) 1) (284 + (s 3)) 0)) 1) (289 + (s 3)) 9)) 1) (294 + (s 3)) 0)) 5 (fun _ => 0)) 7 (fun _ => 0)) 8 (fun _ => 0)) := ⟨_, rfl⟩
    rw [← e9]
    have q9_1 : r9 1 = sp_vs B a [] 0 9 := by rw [e9]; exact ((show (rm_u (rm_u (rm_u (rm_u (rm_u (rm_u (rm_u (rm_u (rm_u r 4 (fun _ => s 3)) 6 (fun _ => s 6)) 1 (rj_up ((rm_u (rm_u r 4 (fun _ => s 3)) 6 (fun _ => s 6)) 1) 6 0)) 1 (rj_up ((rm_u (rm_u (rm_u r 4 (fun _ => s 3)) 6 (fun _ => s 6)) 1 (rj_up ((rm_u (rm_u r 4 (fun _ => s 3)) 6 (fun _ => s 6)) 1) 6 0)) 1) (284 + (s 3)) 0)) 1 (rj_up ((rm_u (rm_u (rm_u (rm_u r 4 (fun _ => s 3)) 6 (fun _ => s 6)) 1 (rj_up ((rm_u (rm_u r 4 (fun _ => s 3)) 6 (fun _ => s 6)) 1) 6 0)) 1 (rj_up ((rm_u (rm_u (rm_u r 4 (fun _ => s 3)) 6 (fun _ => s 6)) 1 (rj_up ((rm_u (rm_u r 4 (fun _ => s 3)) 6 (fun _ => s 6)) 1) 6 0)) 1) (284 + (s 3)) 0)) 1) (289 + (s 3)) 9)) 1 (rj_up ((rm_u (rm_u (rm_u (rm_u (rm_u r 4 (fun _ => s 3)) 6 (fun _ => s 6)) 1 (rj_up ((rm_u (rm_u r 4 (fun _ => s 3)) 6 (fun _ => s 6)) 1) 6 0)) 1 (rj_up ((rm_u (rm_u (rm_u r 4 (fun _ => s 3)) 6 (fun _ => s 6)) 1 (rj_up ((rm_u (rm_u r 4 (fun _ => s 3)) 6 (fun _ => s 6)) 1) 6 0)) 1) (284 + (s 3)) 0)) 1 (rj_up ((rm_u (rm_u (rm_u (rm_u r 4 (fun _ => s 3)) 6 (fun _ => s 6)) 1 (rj_up ((rm_u (rm_u r 4 (fun _ => s 3)) 6 (fun _ => s 6)) 1) 6 0)) 1 (rj_up ((rm_u (rm_u (rm_u r 4 (fun _ => s 3)) 6 (fun _ => s 6)) 1 (rj_up ((rm_u (rm_u r 4 (fun _ => s 3)) 6 (fun _ => s 6)) 1) 6 0)) 1) (284 + (s 3)) 0)) 1) (289 + (s 3)) 9)) 1) (294 + (s 3)) 0)) 5 (fun _ => 0)) 7 (fun _ => 0)) 8 (fun _ => 0)) 1 = (rj_up (rj_up (rj_up (rj_up s 6 0) (284 + (s 3)) 0) (289 + (s 3)) 9) (294 + (s 3)) 0) from (congrArg (fun zz => rj_up zz (294 + (s 3)) 0) (show (rm_u (rm_u (rm_u (rm_u (rm_u r 4 (fun _ => s 3)) 6 (fun _ => s 6)) 1 (rj_up ((rm_u (rm_u r 4 (fun _ => s 3)) 6 (fun _ => s 6)) 1) 6 0)) 1 (rj_up ((rm_u (rm_u (rm_u r 4 (fun _ => s 3)) 6 (fun _ => s 6)) 1 (rj_up ((rm_u (rm_u r 4 (fun _ => s 3)) 6 (fun _ => s 6)) 1) 6 0)) 1) (284 + (s 3)) 0)) 1 (rj_up ((rm_u (rm_u (rm_u (rm_u r 4 (fun _ => s 3)) 6 (fun _ => s 6)) 1 (rj_up ((rm_u (rm_u r 4 (fun _ => s 3)) 6 (fun _ => s 6)) 1) 6 0)) 1 (rj_up ((rm_u (rm_u (rm_u r 4 (fun _ => s 3)) 6 (fun _ => s 6)) 1 (rj_up ((rm_u (rm_u r 4 (fun _ => s 3)) 6 (fun _ => s 6)) 1) 6 0)) 1) (284 + (s 3)) 0)) 1) (289 + (s 3)) 9)) 1 = (rj_up (rj_up (rj_up s 6 0) (284 + (s 3)) 0) (289 + (s 3)) 9) from (congrArg (fun zz => rj_up zz (289 + (s 3)) 9) (show (rm_u (rm_u (rm_u (rm_u r 4 (fun _ => s 3)) 6 (fun _ => s 6)) 1 (rj_up ((rm_u (rm_u r 4 (fun _ => s 3)) 6 (fun _ => s 6)) 1) 6 0)) 1 (rj_up ((rm_u (rm_u (rm_u r 4 (fun _ => s 3)) 6 (fun _ => s 6)) 1 (rj_up ((rm_u (rm_u r 4 (fun _ => s 3)) 6 (fun _ => s 6)) 1) 6 0)) 1) (284 + (s 3)) 0)) 1 = (rj_up (rj_up s 6 0) (284 + (s 3)) 0) from (congrArg (fun zz => rj_up zz (284 + (s 3)) 0) (show (rm_u (rm_u (rm_u r 4 (fun _ => s 3)) 6 (fun _ => s 6)) 1 (rj_up ((rm_u (rm_u r 4 (fun _ => s 3)) 6 (fun _ => s 6)) 1) 6 0)) 1 = (rj_up s 6 0) from (congrArg (fun zz => rj_up zz 6 0) (show (rm_u (rm_u r 4 (fun _ => s 3)) 6 (fun _ => s 6)) 1 = s from hs)))))))))).trans (by rw [eB, ea]; unfold sp_vs sp_vB; show _ = rj_up (rj_up (rj_up (rj_up s 6 0) (294 + s 3) 0) (284 + s 3) 0) (289 + s 3) 9; funext j; unfold rj_up; (repeat' split) <;> first | rfl | omega)
    have q9_2 : r9 2 = (r 2) := by rw [e9]; exact ((show (rm_u (rm_u (rm_u (rm_u (rm_u (rm_u (rm_u (rm_u (rm_u r 4 (fun _ => s 3)) 6 (fun _ => s 6)) 1 (rj_up ((rm_u (rm_u r 4 (fun _ => s 3)) 6 (fun _ => s 6)) 1) 6 0)) 1 (rj_up ((rm_u (rm_u (rm_u r 4 (fun _ => s 3)) 6 (fun _ => s 6)) 1 (rj_up ((rm_u (rm_u r 4 (fun _ => s 3)) 6 (fun _ => s 6)) 1) 6 0)) 1) (284 + (s 3)) 0)) 1 (rj_up ((rm_u (rm_u (rm_u (rm_u r 4 (fun _ => s 3)) 6 (fun _ => s 6)) 1 (rj_up ((rm_u (rm_u r 4 (fun _ => s 3)) 6 (fun _ => s 6)) 1) 6 0)) 1 (rj_up ((rm_u (rm_u (rm_u r 4 (fun _ => s 3)) 6 (fun _ => s 6)) 1 (rj_up ((rm_u (rm_u r 4 (fun _ => s 3)) 6 (fun _ => s 6)) 1) 6 0)) 1) (284 + (s 3)) 0)) 1) (289 + (s 3)) 9)) 1 (rj_up ((rm_u (rm_u (rm_u (rm_u (rm_u r 4 (fun _ => s 3)) 6 (fun _ => s 6)) 1 (rj_up ((rm_u (rm_u r 4 (fun _ => s 3)) 6 (fun _ => s 6)) 1) 6 0)) 1 (rj_up ((rm_u (rm_u (rm_u r 4 (fun _ => s 3)) 6 (fun _ => s 6)) 1 (rj_up ((rm_u (rm_u r 4 (fun _ => s 3)) 6 (fun _ => s 6)) 1) 6 0)) 1) (284 + (s 3)) 0)) 1 (rj_up ((rm_u (rm_u (rm_u (rm_u r 4 (fun _ => s 3)) 6 (fun _ => s 6)) 1 (rj_up ((rm_u (rm_u r 4 (fun _ => s 3)) 6 (fun _ => s 6)) 1) 6 0)) 1 (rj_up ((rm_u (rm_u (rm_u r 4 (fun _ => s 3)) 6 (fun _ => s 6)) 1 (rj_up ((rm_u (rm_u r 4 (fun _ => s 3)) 6 (fun _ => s 6)) 1) 6 0)) 1) (284 + (s 3)) 0)) 1) (289 + (s 3)) 9)) 1) (294 + (s 3)) 0)) 5 (fun _ => 0)) 7 (fun _ => 0)) 8 (fun _ => 0)) 2 = (r 2) from rfl)).trans rfl
    have q9_3 : r9 3 0 = (r 3 0) := by rw [e9]; exact ((show (rm_u (rm_u (rm_u (rm_u (rm_u (rm_u (rm_u (rm_u (rm_u r 4 (fun _ => s 3)) 6 (fun _ => s 6)) 1 (rj_up ((rm_u (rm_u r 4 (fun _ => s 3)) 6 (fun _ => s 6)) 1) 6 0)) 1 (rj_up ((rm_u (rm_u (rm_u r 4 (fun _ => s 3)) 6 (fun _ => s 6)) 1 (rj_up ((rm_u (rm_u r 4 (fun _ => s 3)) 6 (fun _ => s 6)) 1) 6 0)) 1) (284 + (s 3)) 0)) 1 (rj_up ((rm_u (rm_u (rm_u (rm_u r 4 (fun _ => s 3)) 6 (fun _ => s 6)) 1 (rj_up ((rm_u (rm_u r 4 (fun _ => s 3)) 6 (fun _ => s 6)) 1) 6 0)) 1 (rj_up ((rm_u (rm_u (rm_u r 4 (fun _ => s 3)) 6 (fun _ => s 6)) 1 (rj_up ((rm_u (rm_u r 4 (fun _ => s 3)) 6 (fun _ => s 6)) 1) 6 0)) 1) (284 + (s 3)) 0)) 1) (289 + (s 3)) 9)) 1 (rj_up ((rm_u (rm_u (rm_u (rm_u (rm_u r 4 (fun _ => s 3)) 6 (fun _ => s 6)) 1 (rj_up ((rm_u (rm_u r 4 (fun _ => s 3)) 6 (fun _ => s 6)) 1) 6 0)) 1 (rj_up ((rm_u (rm_u (rm_u r 4 (fun _ => s 3)) 6 (fun _ => s 6)) 1 (rj_up ((rm_u (rm_u r 4 (fun _ => s 3)) 6 (fun _ => s 6)) 1) 6 0)) 1) (284 + (s 3)) 0)) 1 (rj_up ((rm_u (rm_u (rm_u (rm_u r 4 (fun _ => s 3)) 6 (fun _ => s 6)) 1 (rj_up ((rm_u (rm_u r 4 (fun _ => s 3)) 6 (fun _ => s 6)) 1) 6 0)) 1 (rj_up ((rm_u (rm_u (rm_u r 4 (fun _ => s 3)) 6 (fun _ => s 6)) 1 (rj_up ((rm_u (rm_u r 4 (fun _ => s 3)) 6 (fun _ => s 6)) 1) 6 0)) 1) (284 + (s 3)) 0)) 1) (289 + (s 3)) 9)) 1) (294 + (s 3)) 0)) 5 (fun _ => 0)) 7 (fun _ => 0)) 8 (fun _ => 0)) 3 0 = (r 3 0) from rfl)).trans rfl
    have q9_17 : r9 17 = (r 17) := by rw [e9]; exact ((show (rm_u (rm_u (rm_u (rm_u (rm_u (rm_u (rm_u (rm_u (rm_u r 4 (fun _ => s 3)) 6 (fun _ => s 6)) 1 (rj_up ((rm_u (rm_u r 4 (fun _ => s 3)) 6 (fun _ => s 6)) 1) 6 0)) 1 (rj_up ((rm_u (rm_u (rm_u r 4 (fun _ => s 3)) 6 (fun _ => s 6)) 1 (rj_up ((rm_u (rm_u r 4 (fun _ => s 3)) 6 (fun _ => s 6)) 1) 6 0)) 1) (284 + (s 3)) 0)) 1 (rj_up ((rm_u (rm_u (rm_u (rm_u r 4 (fun _ => s 3)) 6 (fun _ => s 6)) 1 (rj_up ((rm_u (rm_u r 4 (fun _ => s 3)) 6 (fun _ => s 6)) 1) 6 0)) 1 (rj_up ((rm_u (rm_u (rm_u r 4 (fun _ => s 3)) 6 (fun _ => s 6)) 1 (rj_up ((rm_u (rm_u r 4 (fun _ => s 3)) 6 (fun _ => s 6)) 1) 6 0)) 1) (284 + (s 3)) 0)) 1) (289 + (s 3)) 9)) 1 (rj_up ((rm_u (rm_u (rm_u (rm_u (rm_u r 4 (fun _ => s 3)) 6 (fun _ => s 6)) 1 (rj_up ((rm_u (rm_u r 4 (fun _ => s 3)) 6 (fun _ => s 6)) 1) 6 0)) 1 (rj_up ((rm_u (rm_u (rm_u r 4 (fun _ => s 3)) 6 (fun _ => s 6)) 1 (rj_up ((rm_u (rm_u r 4 (fun _ => s 3)) 6 (fun _ => s 6)) 1) 6 0)) 1) (284 + (s 3)) 0)) 1 (rj_up ((rm_u (rm_u (rm_u (rm_u r 4 (fun _ => s 3)) 6 (fun _ => s 6)) 1 (rj_up ((rm_u (rm_u r 4 (fun _ => s 3)) 6 (fun _ => s 6)) 1) 6 0)) 1 (rj_up ((rm_u (rm_u (rm_u r 4 (fun _ => s 3)) 6 (fun _ => s 6)) 1 (rj_up ((rm_u (rm_u r 4 (fun _ => s 3)) 6 (fun _ => s 6)) 1) 6 0)) 1) (284 + (s 3)) 0)) 1) (289 + (s 3)) 9)) 1) (294 + (s 3)) 0)) 5 (fun _ => 0)) 7 (fun _ => 0)) 8 (fun _ => 0)) 17 = (r 17) from rfl)).trans rfl
    have q9_18 : r9 18 0 = (r 18 0) := by rw [e9]; exact ((show (rm_u (rm_u (rm_u (rm_u (rm_u (rm_u (rm_u (rm_u (rm_u r 4 (fun _ => s 3)) 6 (fun _ => s 6)) 1 (rj_up ((rm_u (rm_u r 4 (fun _ => s 3)) 6 (fun _ => s 6)) 1) 6 0)) 1 (rj_up ((rm_u (rm_u (rm_u r 4 (fun _ => s 3)) 6 (fun _ => s 6)) 1 (rj_up ((rm_u (rm_u r 4 (fun _ => s 3)) 6 (fun _ => s 6)) 1) 6 0)) 1) (284 + (s 3)) 0)) 1 (rj_up ((rm_u (rm_u (rm_u (rm_u r 4 (fun _ => s 3)) 6 (fun _ => s 6)) 1 (rj_up ((rm_u (rm_u r 4 (fun _ => s 3)) 6 (fun _ => s 6)) 1) 6 0)) 1 (rj_up ((rm_u (rm_u (rm_u r 4 (fun _ => s 3)) 6 (fun _ => s 6)) 1 (rj_up ((rm_u (rm_u r 4 (fun _ => s 3)) 6 (fun _ => s 6)) 1) 6 0)) 1) (284 + (s 3)) 0)) 1) (289 + (s 3)) 9)) 1 (rj_up ((rm_u (rm_u (rm_u (rm_u (rm_u r 4 (fun _ => s 3)) 6 (fun _ => s 6)) 1 (rj_up ((rm_u (rm_u r 4 (fun _ => s 3)) 6 (fun _ => s 6)) 1) 6 0)) 1 (rj_up ((rm_u (rm_u (rm_u r 4 (fun _ => s 3)) 6 (fun _ => s 6)) 1 (rj_up ((rm_u (rm_u r 4 (fun _ => s 3)) 6 (fun _ => s 6)) 1) 6 0)) 1) (284 + (s 3)) 0)) 1 (rj_up ((rm_u (rm_u (rm_u (rm_u r 4 (fun _ => s 3)) 6 (fun _ => s 6)) 1 (rj_up ((rm_u (rm_u r 4 (fun _ => s 3)) 6 (fun _ => s 6)) 1) 6 0)) 1 (rj_up ((rm_u (rm_u (rm_u r 4 (fun _ => s 3)) 6 (fun _ => s 6)) 1 (rj_up ((rm_u (rm_u r 4 (fun _ => s 3)) 6 (fun _ => s 6)) 1) 6 0)) 1) (284 + (s 3)) 0)) 1) (289 + (s 3)) 9)) 1) (294 + (s 3)) 0)) 5 (fun _ => 0)) 7 (fun _ => 0)) 8 (fun _ => 0)) 18 0 = (r 18 0) from rfl)).trans rfl
    have q9_4 : r9 4 0 = a := by rw [e9]; exact ((show (rm_u (rm_u (rm_u (rm_u (rm_u (rm_u (rm_u (rm_u (rm_u r 4 (fun _ => s 3)) 6 (fun _ => s 6)) 1 (rj_up ((rm_u (rm_u r 4 (fun _ => s 3)) 6 (fun _ => s 6)) 1) 6 0)) 1 (rj_up ((rm_u (rm_u (rm_u r 4 (fun _ => s 3)) 6 (fun _ => s 6)) 1 (rj_up ((rm_u (rm_u r 4 (fun _ => s 3)) 6 (fun _ => s 6)) 1) 6 0)) 1) (284 + (s 3)) 0)) 1 (rj_up ((rm_u (rm_u (rm_u (rm_u r 4 (fun _ => s 3)) 6 (fun _ => s 6)) 1 (rj_up ((rm_u (rm_u r 4 (fun _ => s 3)) 6 (fun _ => s 6)) 1) 6 0)) 1 (rj_up ((rm_u (rm_u (rm_u r 4 (fun _ => s 3)) 6 (fun _ => s 6)) 1 (rj_up ((rm_u (rm_u r 4 (fun _ => s 3)) 6 (fun _ => s 6)) 1) 6 0)) 1) (284 + (s 3)) 0)) 1) (289 + (s 3)) 9)) 1 (rj_up ((rm_u (rm_u (rm_u (rm_u (rm_u r 4 (fun _ => s 3)) 6 (fun _ => s 6)) 1 (rj_up ((rm_u (rm_u r 4 (fun _ => s 3)) 6 (fun _ => s 6)) 1) 6 0)) 1 (rj_up ((rm_u (rm_u (rm_u r 4 (fun _ => s 3)) 6 (fun _ => s 6)) 1 (rj_up ((rm_u (rm_u r 4 (fun _ => s 3)) 6 (fun _ => s 6)) 1) 6 0)) 1) (284 + (s 3)) 0)) 1 (rj_up ((rm_u (rm_u (rm_u (rm_u r 4 (fun _ => s 3)) 6 (fun _ => s 6)) 1 (rj_up ((rm_u (rm_u r 4 (fun _ => s 3)) 6 (fun _ => s 6)) 1) 6 0)) 1 (rj_up ((rm_u (rm_u (rm_u r 4 (fun _ => s 3)) 6 (fun _ => s 6)) 1 (rj_up ((rm_u (rm_u r 4 (fun _ => s 3)) 6 (fun _ => s 6)) 1) 6 0)) 1) (284 + (s 3)) 0)) 1) (289 + (s 3)) 9)) 1) (294 + (s 3)) 0)) 5 (fun _ => 0)) 7 (fun _ => 0)) 8 (fun _ => 0)) 4 0 = s 3 from rfl)).trans ea.symm
    have q9_6 : r9 6 0 = e := by rw [e9]; exact ((show (rm_u (rm_u (rm_u (rm_u (rm_u (rm_u (rm_u (rm_u (rm_u r 4 (fun _ => s 3)) 6 (fun _ => s 6)) 1 (rj_up ((rm_u (rm_u r 4 (fun _ => s 3)) 6 (fun _ => s 6)) 1) 6 0)) 1 (rj_up ((rm_u (rm_u (rm_u r 4 (fun _ => s 3)) 6 (fun _ => s 6)) 1 (rj_up ((rm_u (rm_u r 4 (fun _ => s 3)) 6 (fun _ => s 6)) 1) 6 0)) 1) (284 + (s 3)) 0)) 1 (rj_up ((rm_u (rm_u (rm_u (rm_u r 4 (fun _ => s 3)) 6 (fun _ => s 6)) 1 (rj_up ((rm_u (rm_u r 4 (fun _ => s 3)) 6 (fun _ => s 6)) 1) 6 0)) 1 (rj_up ((rm_u (rm_u (rm_u r 4 (fun _ => s 3)) 6 (fun _ => s 6)) 1 (rj_up ((rm_u (rm_u r 4 (fun _ => s 3)) 6 (fun _ => s 6)) 1) 6 0)) 1) (284 + (s 3)) 0)) 1) (289 + (s 3)) 9)) 1 (rj_up ((rm_u (rm_u (rm_u (rm_u (rm_u r 4 (fun _ => s 3)) 6 (fun _ => s 6)) 1 (rj_up ((rm_u (rm_u r 4 (fun _ => s 3)) 6 (fun _ => s 6)) 1) 6 0)) 1 (rj_up ((rm_u (rm_u (rm_u r 4 (fun _ => s 3)) 6 (fun _ => s 6)) 1 (rj_up ((rm_u (rm_u r 4 (fun _ => s 3)) 6 (fun _ => s 6)) 1) 6 0)) 1) (284 + (s 3)) 0)) 1 (rj_up ((rm_u (rm_u (rm_u (rm_u r 4 (fun _ => s 3)) 6 (fun _ => s 6)) 1 (rj_up ((rm_u (rm_u r 4 (fun _ => s 3)) 6 (fun _ => s 6)) 1) 6 0)) 1 (rj_up ((rm_u (rm_u (rm_u r 4 (fun _ => s 3)) 6 (fun _ => s 6)) 1 (rj_up ((rm_u (rm_u r 4 (fun _ => s 3)) 6 (fun _ => s 6)) 1) 6 0)) 1) (284 + (s 3)) 0)) 1) (289 + (s 3)) 9)) 1) (294 + (s 3)) 0)) 5 (fun _ => 0)) 7 (fun _ => 0)) 8 (fun _ => 0)) 6 0 = s 6 from rfl)).trans ee.symm
    have q9_5 : r9 5 0 = 0 := by rw [e9]; exact ((show (rm_u (rm_u (rm_u (rm_u (rm_u (rm_u (rm_u (rm_u (rm_u r 4 (fun _ => s 3)) 6 (fun _ => s 6)) 1 (rj_up ((rm_u (rm_u r 4 (fun _ => s 3)) 6 (fun _ => s 6)) 1) 6 0)) 1 (rj_up ((rm_u (rm_u (rm_u r 4 (fun _ => s 3)) 6 (fun _ => s 6)) 1 (rj_up ((rm_u (rm_u r 4 (fun _ => s 3)) 6 (fun _ => s 6)) 1) 6 0)) 1) (284 + (s 3)) 0)) 1 (rj_up ((rm_u (rm_u (rm_u (rm_u r 4 (fun _ => s 3)) 6 (fun _ => s 6)) 1 (rj_up ((rm_u (rm_u r 4 (fun _ => s 3)) 6 (fun _ => s 6)) 1) 6 0)) 1 (rj_up ((rm_u (rm_u (rm_u r 4 (fun _ => s 3)) 6 (fun _ => s 6)) 1 (rj_up ((rm_u (rm_u r 4 (fun _ => s 3)) 6 (fun _ => s 6)) 1) 6 0)) 1) (284 + (s 3)) 0)) 1) (289 + (s 3)) 9)) 1 (rj_up ((rm_u (rm_u (rm_u (rm_u (rm_u r 4 (fun _ => s 3)) 6 (fun _ => s 6)) 1 (rj_up ((rm_u (rm_u r 4 (fun _ => s 3)) 6 (fun _ => s 6)) 1) 6 0)) 1 (rj_up ((rm_u (rm_u (rm_u r 4 (fun _ => s 3)) 6 (fun _ => s 6)) 1 (rj_up ((rm_u (rm_u r 4 (fun _ => s 3)) 6 (fun _ => s 6)) 1) 6 0)) 1) (284 + (s 3)) 0)) 1 (rj_up ((rm_u (rm_u (rm_u (rm_u r 4 (fun _ => s 3)) 6 (fun _ => s 6)) 1 (rj_up ((rm_u (rm_u r 4 (fun _ => s 3)) 6 (fun _ => s 6)) 1) 6 0)) 1 (rj_up ((rm_u (rm_u (rm_u r 4 (fun _ => s 3)) 6 (fun _ => s 6)) 1 (rj_up ((rm_u (rm_u r 4 (fun _ => s 3)) 6 (fun _ => s 6)) 1) 6 0)) 1) (284 + (s 3)) 0)) 1) (289 + (s 3)) 9)) 1) (294 + (s 3)) 0)) 5 (fun _ => 0)) 7 (fun _ => 0)) 8 (fun _ => 0)) 5 0 = 0 from rfl)).trans rfl
    have q9_7 : r9 7 0 = 0 := by rw [e9]; exact ((show (rm_u (rm_u (rm_u (rm_u (rm_u (rm_u (rm_u (rm_u (rm_u r 4 (fun _ => s 3)) 6 (fun _ => s 6)) 1 (rj_up ((rm_u (rm_u r 4 (fun _ => s 3)) 6 (fun _ => s 6)) 1) 6 0)) 1 (rj_up ((rm_u (rm_u (rm_u r 4 (fun _ => s 3)) 6 (fun _ => s 6)) 1 (rj_up ((rm_u (rm_u r 4 (fun _ => s 3)) 6 (fun _ => s 6)) 1) 6 0)) 1) (284 + (s 3)) 0)) 1 (rj_up ((rm_u (rm_u (rm_u (rm_u r 4 (fun _ => s 3)) 6 (fun _ => s 6)) 1 (rj_up ((rm_u (rm_u r 4 (fun _ => s 3)) 6 (fun _ => s 6)) 1) 6 0)) 1 (rj_up ((rm_u (rm_u (rm_u r 4 (fun _ => s 3)) 6 (fun _ => s 6)) 1 (rj_up ((rm_u (rm_u r 4 (fun _ => s 3)) 6 (fun _ => s 6)) 1) 6 0)) 1) (284 + (s 3)) 0)) 1) (289 + (s 3)) 9)) 1 (rj_up ((rm_u (rm_u (rm_u (rm_u (rm_u r 4 (fun _ => s 3)) 6 (fun _ => s 6)) 1 (rj_up ((rm_u (rm_u r 4 (fun _ => s 3)) 6 (fun _ => s 6)) 1) 6 0)) 1 (rj_up ((rm_u (rm_u (rm_u r 4 (fun _ => s 3)) 6 (fun _ => s 6)) 1 (rj_up ((rm_u (rm_u r 4 (fun _ => s 3)) 6 (fun _ => s 6)) 1) 6 0)) 1) (284 + (s 3)) 0)) 1 (rj_up ((rm_u (rm_u (rm_u (rm_u r 4 (fun _ => s 3)) 6 (fun _ => s 6)) 1 (rj_up ((rm_u (rm_u r 4 (fun _ => s 3)) 6 (fun _ => s 6)) 1) 6 0)) 1 (rj_up ((rm_u (rm_u (rm_u r 4 (fun _ => s 3)) 6 (fun _ => s 6)) 1 (rj_up ((rm_u (rm_u r 4 (fun _ => s 3)) 6 (fun _ => s 6)) 1) 6 0)) 1) (284 + (s 3)) 0)) 1) (289 + (s 3)) 9)) 1) (294 + (s 3)) 0)) 5 (fun _ => 0)) 7 (fun _ => 0)) 8 (fun _ => 0)) 7 0 = 0 from rfl)).trans rfl
    have q9_8 : r9 8 0 = 0 := by rw [e9]; exact ((show (rm_u (rm_u (rm_u (rm_u (rm_u (rm_u (rm_u (rm_u (rm_u r 4 (fun _ => s 3)) 6 (fun _ => s 6)) 1 (rj_up ((rm_u (rm_u r 4 (fun _ => s 3)) 6 (fun _ => s 6)) 1) 6 0)) 1 (rj_up ((rm_u (rm_u (rm_u r 4 (fun _ => s 3)) 6 (fun _ => s 6)) 1 (rj_up ((rm_u (rm_u r 4 (fun _ => s 3)) 6 (fun _ => s 6)) 1) 6 0)) 1) (284 + (s 3)) 0)) 1 (rj_up ((rm_u (rm_u (rm_u (rm_u r 4 (fun _ => s 3)) 6 (fun _ => s 6)) 1 (rj_up ((rm_u (rm_u r 4 (fun _ => s 3)) 6 (fun _ => s 6)) 1) 6 0)) 1 (rj_up ((rm_u (rm_u (rm_u r 4 (fun _ => s 3)) 6 (fun _ => s 6)) 1 (rj_up ((rm_u (rm_u r 4 (fun _ => s 3)) 6 (fun _ => s 6)) 1) 6 0)) 1) (284 + (s 3)) 0)) 1) (289 + (s 3)) 9)) 1 (rj_up ((rm_u (rm_u (rm_u (rm_u (rm_u r 4 (fun _ => s 3)) 6 (fun _ => s 6)) 1 (rj_up ((rm_u (rm_u r 4 (fun _ => s 3)) 6 (fun _ => s 6)) 1) 6 0)) 1 (rj_up ((rm_u (rm_u (rm_u r 4 (fun _ => s 3)) 6 (fun _ => s 6)) 1 (rj_up ((rm_u (rm_u r 4 (fun _ => s 3)) 6 (fun _ => s 6)) 1) 6 0)) 1) (284 + (s 3)) 0)) 1 (rj_up ((rm_u (rm_u (rm_u (rm_u r 4 (fun _ => s 3)) 6 (fun _ => s 6)) 1 (rj_up ((rm_u (rm_u r 4 (fun _ => s 3)) 6 (fun _ => s 6)) 1) 6 0)) 1 (rj_up ((rm_u (rm_u (rm_u r 4 (fun _ => s 3)) 6 (fun _ => s 6)) 1 (rj_up ((rm_u (rm_u r 4 (fun _ => s 3)) 6 (fun _ => s 6)) 1) 6 0)) 1) (284 + (s 3)) 0)) 1) (289 + (s 3)) 9)) 1) (294 + (s 3)) 0)) 5 (fun _ => 0)) 7 (fun _ => 0)) 8 (fun _ => 0)) 8 0 = 0 from rfl)).trans rfl
    refine go_aload_n dX12_valley_102 rfl 0 rfl ?_
    have cb103 := sp_cla_B (p := 0) (cl := 0) (tn := 9) hBB.2.2.1 (by omega) (by omega) (by omega)
    refine go_callV (d1 := d - 1) wVX12_142 kX12 rm_ob rfl (by omega) (m_clause (by omega) (hs := (show r9 1 = sp_vs B a [] 0 9 from q9_1)) (ha := (show r9 4 0 = a from q9_4)) (hp := (show r9 5 0 = 0 from q9_5)) (he := (show r9 6 0 = e from q9_6)) (ho := (show r9 8 0 = 0 from q9_8)) (hBB.P (l := []) (cl := 0) (tn := 9) (p := 0) (by omega) (by first | omega | (simp only [List.length_nil]; omega))) (show r9 7 0 = 0 from q9_7) rfl rfl hBB) rfl (Nat.le_of_ble_eq_true rfl) dX12_valley_103 (fun w σ1 hP9 => ?_)
    obtain ⟨rfl, r91, ⟨q91_1, q91_5, q91_7, qo91, qa91⟩, rfl⟩ := hP9
    have q91_4 : r91 4 0 = a := (congrFun (qa91 4 (by decide) (by decide) (by decide) (by decide)) 0).trans (show r9 4 0 = a from q9_4)
    have q91_6 : r91 6 0 = e := (congrFun (qa91 6 (by decide) (by decide) (by decide) (by decide)) 0).trans (show r9 6 0 = e from q9_6)
    have q91_8 : r91 8 0 = 0 := qo91.trans (show r9 8 0 = 0 from q9_8)
    have ao91 : ∀ j : Nat, j ≠ 1 → j ≠ 5 → j ≠ 7 → j ≠ 8 → r91 j = r9 j := fun j b1 b2 b3 b4 => (qa91 j b1 b2 b3 b4).trans ((fun j _ _ _ _ => rfl) j b1 b2 b3 b4)
    obtain ⟨FT, hFT⟩ : ∃ FT, FT = sp_cls T e 9 (sp_cla T e 0 0 9) := ⟨_, rfl⟩
    have eC : sp_vC s = FT := by rw [hFT, eT, ee]; rfl
    have q0 : 294 + s 3 = 294 + a := by rw [ea]
    have loop : ∀ (f : Nat) (K : sp_C) (rl : rm_R), f ≤ 9 → rl 1 = sp_vs B a K.2.2.1 K.2.2.2.1 K.2.2.2.2 → rl 4 0 = a → rl 5 0 = K.2.1 → rl 6 0 = e → rl 7 0 = rj_b (K.1 = false) → rl 8 0 = 0 → (∀ j : Nat, j ≠ 1 → j ≠ 5 → j ≠ 7 → j ≠ 8 → rl j = r9 j) → sp_CB 0 e K → FT = sp_cls T e f K → rj_Go X9 yX12_valley cX12_valley 2 (some .int) d (fun w9 τ => w9 = some (rj_i (sp_valF s)) ∧ ∃ r0, rm_V r r0 (sp_valS s) ∧ τ = rm_p X9 mb r0 σ) 106 [(0, .ref mb), (1, rj_i (10 - (f : Int)))] [] (rm_p X9 mb rl σ) := by
      intro f
      induction f with
      | zero =>
        intro K rl hf el1 el4 el5 el6 el7 el8 aol hGK hT9
        obtain ⟨t1, t2, t3, t4, t5⟩ := id hGK
        have hP9 : sp_P T e a K.2.1 (sp_vs B a K.2.2.1 K.2.2.2.1 K.2.2.2.2) := hBB.P (by omega) (by omega)
        have pr := sp_hr_b (p := K.2.1) hBB.2.2.1 (by omega)
        have be := hBB.2.1
        refine go_aload_n dX12_valley_106 rfl 0 rfl ?_
        refine grm_g7 rfl dX12_valley_107 ?_
        rw [show rl 7 0 = rj_b (K.1 = false) from el7]
        refine go_if_neB (tgt := 148) dX12_valley_110 (by decide) (fun c_110 => ?_) (fun c_110 => ?_)
        · have hC9 : K = FT := hT9.symm
          have fb := hGK; rw [hC9] at fb
          obtain ⟨fb1, fb2, fb3, fb4, fb5⟩ := fb
          refine go_aload_n dX12_valley_148 rfl 0 rfl ?_
          refine grm_g7 rfl dX12_valley_149 ?_
          rw [show rl 7 0 = rj_b (FT.1 = false) from ((show rl 7 0 = rj_b (K.1 = false) from el7)).trans (by rw [hC9])]
          refine go_if_neB (tgt := 166) dX12_valley_152 (by decide) (fun c_152 => ?_) (fun c_152 => ?_)
          · refine go_bipush (v := Int32.ofInt (-10)) dX12_valley_166 (by decide) ?_
            refine go_aload_n dX12_valley_168 rfl 0 rfl ?_
            refine grm_g5 rfl dX12_valley_169 ?_
            rw [show rl 5 0 = FT.2.1 from ((show rl 5 0 = K.2.1 from el5)).trans (by rw [hC9])]
            refine go_subI dX12_valley_172 ?_
            refine go_retI rfl rfl ?_ dX12_valley_173
            exact ⟨rj_vi (by unfold sp_valF; rw [if_neg (by omega), eC, if_neg (fun q => absurd q.1 (by simp [c_152]))]), rl, ⟨((show rl 1 = sp_vs B a FT.2.2.1 FT.2.2.2.1 FT.2.2.2.2 from ((show rl 1 = sp_vs B a K.2.2.1 K.2.2.2.1 K.2.2.2.2 from el1)).trans (by rw [hC9]))).trans (by unfold sp_valS; rw [if_neg (by omega), eC, if_neg (fun q => absurd q.1 (by simp [c_152]))]; unfold sp_vV; rw [eC, eB, ea]), ((aol 2 (by decide) (by decide) (by decide) (by decide)).trans q9_2), ((congrFun (aol 3 (by decide) (by decide) (by decide) (by decide)) 0).trans q9_3), ((aol 17 (by decide) (by decide) (by decide) (by decide)).trans q9_17), ((congrFun (aol 18 (by decide) (by decide) (by decide) (by decide)) 0).trans q9_18)⟩, rfl⟩
          · refine go_aload_n dX12_valley_155 rfl 0 rfl ?_
            refine grm_g5 rfl dX12_valley_156 ?_
            rw [show rl 5 0 = FT.2.1 from ((show rl 5 0 = K.2.1 from el5)).trans (by rw [hC9])]
            refine go_aload_n dX12_valley_159 rfl 0 rfl ?_
            refine grm_g6 rfl dX12_valley_160 ?_
            rw [show rl 6 0 = e from el6]
            refine go_icmp_eqI (tgt := 174) (by omega) (by omega) dX12_valley_163 (by decide) (fun c_163 => ?_) (fun c_163 => ?_)
            · refine go_aload_n dX12_valley_174 rfl 0 rfl ?_
              refine grm_g1 rfl dX12_valley_175 ?_
              refine go_iconst (v := Int32.ofInt 3) dX12_valley_178 rfl ?_
              refine go_dup2_11 dX12_valley_179 rfl rfl ?_
              refine grm_l1 (by omega) (by omega) dX12_valley_180 ?_
              rw [show rl 1 = sp_vs B a FT.2.2.1 FT.2.2.2.1 FT.2.2.2.2 from ((show rl 1 = sp_vs B a K.2.2.1 K.2.2.2.1 K.2.2.2.2 from el1)).trans (by rw [hC9])]
              rw [show (sp_vs B a FT.2.2.1 FT.2.2.2.1 FT.2.2.2.2) 3 = s 3 from (sp_vs_lo hBB.1 hBB.2.2.2.2 (by omega)).trans (by rw [eB]; unfold sp_vB; rw [rj_up_ne _ _ (by omega), rj_up_ne _ _ (by omega)])]
              refine go_iconst (v := Int32.ofInt 1) dX12_valley_181 rfl ?_
              refine go_addI dX12_valley_182 ?_
              refine grm_s1 (by omega) (by omega) dX12_valley_183 ?_
              refine go_aload_n dX12_valley_184 rfl 0 rfl ?_
              refine grm_g1 rfl dX12_valley_185 ?_
              refine go_bipush (v := Int32.ofInt 7) dX12_valley_188 (by decide) ?_
              refine go_aload_n dX12_valley_190 rfl 0 rfl ?_
              refine grm_g4 rfl dX12_valley_191 ?_
              rw [show (rm_u rl 1 (rj_up (rl 1) 3 ((s 3) + 1))) 4 0 = a from el4]
              refine grm_s1 (by omega) (by omega) dX12_valley_194 ?_
              refine go_aload_n dX12_valley_195 rfl 0 rfl ?_
              refine grm_g4 rfl dX12_valley_196 ?_
              rw [show (rm_u (rm_u rl 1 (rj_up (rl 1) 3 ((s 3) + 1))) 1 (rj_up ((rm_u rl 1 (rj_up (rl 1) 3 ((s 3) + 1))) 1) 7 a)) 4 0 = a from el4]
              refine go_retI rfl rfl ?_ dX12_valley_199
              exact ⟨rj_vi (by unfold sp_valF; rw [if_neg (by omega), eC, if_pos ⟨by simpa using c_152, c_163.trans ee⟩, ea]), (rm_u (rm_u rl 1 (rj_up (rl 1) 3 ((s 3) + 1))) 1 (rj_up ((rm_u rl 1 (rj_up (rl 1) 3 ((s 3) + 1))) 1) 7 a)), ⟨((show (rm_u (rm_u rl 1 (rj_up (rl 1) 3 ((s 3) + 1))) 1 (rj_up ((rm_u rl 1 (rj_up (rl 1) 3 ((s 3) + 1))) 1) 7 a)) 1 = (rj_up (rj_up (sp_vs B a FT.2.2.1 FT.2.2.2.1 FT.2.2.2.2) 3 ((s 3) + 1)) 7 a) from (congrArg (fun zz => rj_up zz 7 a) (show (rm_u rl 1 (rj_up (rl 1) 3 ((s 3) + 1))) 1 = (rj_up (sp_vs B a FT.2.2.1 FT.2.2.2.1 FT.2.2.2.2) 3 ((s 3) + 1)) from (congrArg (fun zz => rj_up zz 3 ((s 3) + 1)) (show rl 1 = sp_vs B a FT.2.2.1 FT.2.2.2.1 FT.2.2.2.2 from ((show rl 1 = sp_vs B a K.2.2.1 K.2.2.2.1 K.2.2.2.2 from el1)).trans (by rw [hC9]))))))).trans (by unfold sp_valS; rw [if_neg (by omega), eC, if_pos ⟨by simpa using c_152, c_163.trans ee⟩]; unfold sp_vV; rw [eC, eB, ea]), (((fun j b1 b2 b3 b4 => (rm_u_ne _ _ b1).trans ((fun j b1 b2 b3 b4 => (rm_u_ne _ _ b1).trans (aol j b1 b2 b3 b4)) j b1 b2 b3 b4)) 2 (by decide) (by decide) (by decide) (by decide)).trans q9_2), ((congrFun ((fun j b1 b2 b3 b4 => (rm_u_ne _ _ b1).trans ((fun j b1 b2 b3 b4 => (rm_u_ne _ _ b1).trans (aol j b1 b2 b3 b4)) j b1 b2 b3 b4)) 3 (by decide) (by decide) (by decide) (by decide)) 0).trans q9_3), (((fun j b1 b2 b3 b4 => (rm_u_ne _ _ b1).trans ((fun j b1 b2 b3 b4 => (rm_u_ne _ _ b1).trans (aol j b1 b2 b3 b4)) j b1 b2 b3 b4)) 17 (by decide) (by decide) (by decide) (by decide)).trans q9_17), ((congrFun ((fun j b1 b2 b3 b4 => (rm_u_ne _ _ b1).trans ((fun j b1 b2 b3 b4 => (rm_u_ne _ _ b1).trans (aol j b1 b2 b3 b4)) j b1 b2 b3 b4)) 18 (by decide) (by decide) (by decide) (by decide)) 0).trans q9_18)⟩, rfl⟩
            · refine go_bipush (v := Int32.ofInt (-10)) dX12_valley_166 (by decide) ?_
              refine go_aload_n dX12_valley_168 rfl 0 rfl ?_
              refine grm_g5 rfl dX12_valley_169 ?_
              rw [show rl 5 0 = FT.2.1 from ((show rl 5 0 = K.2.1 from el5)).trans (by rw [hC9])]
              refine go_subI dX12_valley_172 ?_
              refine go_retI rfl rfl ?_ dX12_valley_173
              exact ⟨rj_vi (by unfold sp_valF; rw [if_neg (by omega), eC, if_neg (fun q => c_163 (q.2.trans ee.symm))]), rl, ⟨((show rl 1 = sp_vs B a FT.2.2.1 FT.2.2.2.1 FT.2.2.2.2 from ((show rl 1 = sp_vs B a K.2.2.1 K.2.2.2.1 K.2.2.2.2 from el1)).trans (by rw [hC9]))).trans (by unfold sp_valS; rw [if_neg (by omega), eC, if_neg (fun q => c_163 (q.2.trans ee.symm))]; unfold sp_vV; rw [eC, eB, ea]), ((aol 2 (by decide) (by decide) (by decide) (by decide)).trans q9_2), ((congrFun (aol 3 (by decide) (by decide) (by decide) (by decide)) 0).trans q9_3), ((aol 17 (by decide) (by decide) (by decide) (by decide)).trans q9_17), ((congrFun (aol 18 (by decide) (by decide) (by decide) (by decide)) 0).trans q9_18)⟩, rfl⟩
        · refine go_iload_n dX12_valley_113 rfl 1 rfl ?_
          refine go_bipush (v := Int32.ofInt 10) dX12_valley_114 (by decide) ?_
          refine go_icmp_geI (tgt := 148) (by omega) (by omega) dX12_valley_116 (by decide) (fun c_116 => ?_) (fun c_116 => ?_)
          · have hC9 : K = FT := hT9.symm
            have fb := hGK; rw [hC9] at fb
            obtain ⟨fb1, fb2, fb3, fb4, fb5⟩ := fb
            refine go_aload_n dX12_valley_148 rfl 0 rfl ?_
            refine grm_g7 rfl dX12_valley_149 ?_
            rw [show rl 7 0 = rj_b (FT.1 = false) from ((show rl 7 0 = 0 from ((show rl 7 0 = rj_b (K.1 = false) from el7)).trans (rj_bf c_110))).trans (by rw [← hC9]; exact (rj_bf c_110).symm)]
            refine go_if_neB (tgt := 166) dX12_valley_152 (by decide) (fun c_152 => ?_) (fun c_152 => ?_)
            · refine go_bipush (v := Int32.ofInt (-10)) dX12_valley_166 (by decide) ?_
              refine go_aload_n dX12_valley_168 rfl 0 rfl ?_
              refine grm_g5 rfl dX12_valley_169 ?_
              rw [show rl 5 0 = FT.2.1 from ((show rl 5 0 = K.2.1 from el5)).trans (by rw [hC9])]
              refine go_subI dX12_valley_172 ?_
              refine go_retI rfl rfl ?_ dX12_valley_173
              exact ⟨rj_vi (by unfold sp_valF; rw [if_neg (by omega), eC, if_neg (fun q => absurd q.1 (by simp [c_152]))]), rl, ⟨((show rl 1 = sp_vs B a FT.2.2.1 FT.2.2.2.1 FT.2.2.2.2 from ((show rl 1 = sp_vs B a K.2.2.1 K.2.2.2.1 K.2.2.2.2 from el1)).trans (by rw [hC9]))).trans (by unfold sp_valS; rw [if_neg (by omega), eC, if_neg (fun q => absurd q.1 (by simp [c_152]))]; unfold sp_vV; rw [eC, eB, ea]), ((aol 2 (by decide) (by decide) (by decide) (by decide)).trans q9_2), ((congrFun (aol 3 (by decide) (by decide) (by decide) (by decide)) 0).trans q9_3), ((aol 17 (by decide) (by decide) (by decide) (by decide)).trans q9_17), ((congrFun (aol 18 (by decide) (by decide) (by decide) (by decide)) 0).trans q9_18)⟩, rfl⟩
            · refine go_aload_n dX12_valley_155 rfl 0 rfl ?_
              refine grm_g5 rfl dX12_valley_156 ?_
              rw [show rl 5 0 = FT.2.1 from ((show rl 5 0 = K.2.1 from el5)).trans (by rw [hC9])]
              refine go_aload_n dX12_valley_159 rfl 0 rfl ?_
              refine grm_g6 rfl dX12_valley_160 ?_
              rw [show rl 6 0 = e from el6]
              refine go_icmp_eqI (tgt := 174) (by omega) (by omega) dX12_valley_163 (by decide) (fun c_163 => ?_) (fun c_163 => ?_)
              · refine go_aload_n dX12_valley_174 rfl 0 rfl ?_
                refine grm_g1 rfl dX12_valley_175 ?_
                refine go_iconst (v := Int32.ofInt 3) dX12_valley_178 rfl ?_
                refine go_dup2_11 dX12_valley_179 rfl rfl ?_
                refine grm_l1 (by omega) (by omega) dX12_valley_180 ?_
                rw [show rl 1 = sp_vs B a FT.2.2.1 FT.2.2.2.1 FT.2.2.2.2 from ((show rl 1 = sp_vs B a K.2.2.1 K.2.2.2.1 K.2.2.2.2 from el1)).trans (by rw [hC9])]
                rw [show (sp_vs B a FT.2.2.1 FT.2.2.2.1 FT.2.2.2.2) 3 = s 3 from (sp_vs_lo hBB.1 hBB.2.2.2.2 (by omega)).trans (by rw [eB]; unfold sp_vB; rw [rj_up_ne _ _ (by omega), rj_up_ne _ _ (by omega)])]
                refine go_iconst (v := Int32.ofInt 1) dX12_valley_181 rfl ?_
                refine go_addI dX12_valley_182 ?_
                refine grm_s1 (by omega) (by omega) dX12_valley_183 ?_
                refine go_aload_n dX12_valley_184 rfl 0 rfl ?_
                refine grm_g1 rfl dX12_valley_185 ?_
                refine go_bipush (v := Int32.ofInt 7) dX12_valley_188 (by decide) ?_
                refine go_aload_n dX12_valley_190 rfl 0 rfl ?_
                refine grm_g4 rfl dX12_valley_191 ?_
                rw [show (rm_u rl 1 (rj_up (rl 1) 3 ((s 3) + 1))) 4 0 = a from el4]
                refine grm_s1 (by omega) (by omega) dX12_valley_194 ?_
                refine go_aload_n dX12_valley_195 rfl 0 rfl ?_
                refine grm_g4 rfl dX12_valley_196 ?_
                rw [show (rm_u (rm_u rl 1 (rj_up (rl 1) 3 ((s 3) + 1))) 1 (rj_up ((rm_u rl 1 (rj_up (rl 1) 3 ((s 3) + 1))) 1) 7 a)) 4 0 = a from el4]
                refine go_retI rfl rfl ?_ dX12_valley_199
                exact ⟨rj_vi (by unfold sp_valF; rw [if_neg (by omega), eC, if_pos ⟨by simpa using c_152, c_163.trans ee⟩, ea]), (rm_u (rm_u rl 1 (rj_up (rl 1) 3 ((s 3) + 1))) 1 (rj_up ((rm_u rl 1 (rj_up (rl 1) 3 ((s 3) + 1))) 1) 7 a)), ⟨((show (rm_u (rm_u rl 1 (rj_up (rl 1) 3 ((s 3) + 1))) 1 (rj_up ((rm_u rl 1 (rj_up (rl 1) 3 ((s 3) + 1))) 1) 7 a)) 1 = (rj_up (rj_up (sp_vs B a FT.2.2.1 FT.2.2.2.1 FT.2.2.2.2) 3 ((s 3) + 1)) 7 a) from (congrArg (fun zz => rj_up zz 7 a) (show (rm_u rl 1 (rj_up (rl 1) 3 ((s 3) + 1))) 1 = (rj_up (sp_vs B a FT.2.2.1 FT.2.2.2.1 FT.2.2.2.2) 3 ((s 3) + 1)) from (congrArg (fun zz => rj_up zz 3 ((s 3) + 1)) (show rl 1 = sp_vs B a FT.2.2.1 FT.2.2.2.1 FT.2.2.2.2 from ((show rl 1 = sp_vs B a K.2.2.1 K.2.2.2.1 K.2.2.2.2 from el1)).trans (by rw [hC9]))))))).trans (by unfold sp_valS; rw [if_neg (by omega), eC, if_pos ⟨by simpa using c_152, c_163.trans ee⟩]; unfold sp_vV; rw [eC, eB, ea]), (((fun j b1 b2 b3 b4 => (rm_u_ne _ _ b1).trans ((fun j b1 b2 b3 b4 => (rm_u_ne _ _ b1).trans (aol j b1 b2 b3 b4)) j b1 b2 b3 b4)) 2 (by decide) (by decide) (by decide) (by decide)).trans q9_2), ((congrFun ((fun j b1 b2 b3 b4 => (rm_u_ne _ _ b1).trans ((fun j b1 b2 b3 b4 => (rm_u_ne _ _ b1).trans (aol j b1 b2 b3 b4)) j b1 b2 b3 b4)) 3 (by decide) (by decide) (by decide) (by decide)) 0).trans q9_3), (((fun j b1 b2 b3 b4 => (rm_u_ne _ _ b1).trans ((fun j b1 b2 b3 b4 => (rm_u_ne _ _ b1).trans (aol j b1 b2 b3 b4)) j b1 b2 b3 b4)) 17 (by decide) (by decide) (by decide) (by decide)).trans q9_17), ((congrFun ((fun j b1 b2 b3 b4 => (rm_u_ne _ _ b1).trans ((fun j b1 b2 b3 b4 => (rm_u_ne _ _ b1).trans (aol j b1 b2 b3 b4)) j b1 b2 b3 b4)) 18 (by decide) (by decide) (by decide) (by decide)) 0).trans q9_18)⟩, rfl⟩
              · refine go_bipush (v := Int32.ofInt (-10)) dX12_valley_166 (by decide) ?_
                refine go_aload_n dX12_valley_168 rfl 0 rfl ?_
                refine grm_g5 rfl dX12_valley_169 ?_
                rw [show rl 5 0 = FT.2.1 from ((show rl 5 0 = K.2.1 from el5)).trans (by rw [hC9])]
                refine go_subI dX12_valley_172 ?_
                refine go_retI rfl rfl ?_ dX12_valley_173
                exact ⟨rj_vi (by unfold sp_valF; rw [if_neg (by omega), eC, if_neg (fun q => c_163 (q.2.trans ee.symm))]), rl, ⟨((show rl 1 = sp_vs B a FT.2.2.1 FT.2.2.2.1 FT.2.2.2.2 from ((show rl 1 = sp_vs B a K.2.2.1 K.2.2.2.1 K.2.2.2.2 from el1)).trans (by rw [hC9]))).trans (by unfold sp_valS; rw [if_neg (by omega), eC, if_neg (fun q => c_163 (q.2.trans ee.symm))]; unfold sp_vV; rw [eC, eB, ea]), ((aol 2 (by decide) (by decide) (by decide) (by decide)).trans q9_2), ((congrFun (aol 3 (by decide) (by decide) (by decide) (by decide)) 0).trans q9_3), ((aol 17 (by decide) (by decide) (by decide) (by decide)).trans q9_17), ((congrFun (aol 18 (by decide) (by decide) (by decide) (by decide)) 0).trans q9_18)⟩, rfl⟩
          · exact absurd c_116 (by omega)
      | succ f ih =>
        intro K rl hf el1 el4 el5 el6 el7 el8 aol hGK hT9
        obtain ⟨t1, t2, t3, t4, t5⟩ := id hGK
        have hP9 : sp_P T e a K.2.1 (sp_vs B a K.2.2.1 K.2.2.2.1 K.2.2.2.2) := hBB.P (by omega) (by omega)
        have pr := sp_hr_b (p := K.2.1) hBB.2.2.1 (by omega)
        have be := hBB.2.1
        refine go_aload_n dX12_valley_106 rfl 0 rfl ?_
        refine grm_g7 rfl dX12_valley_107 ?_
        rw [show rl 7 0 = rj_b (K.1 = false) from el7]
        refine go_if_neB (tgt := 148) dX12_valley_110 (by decide) (fun c_110 => ?_) (fun c_110 => ?_)
        · have hC9 : K = FT := by rw [hT9, sp_cls, if_neg (fun q => absurd q.1 (by simp [c_110]))]
          have fb := hGK; rw [hC9] at fb
          obtain ⟨fb1, fb2, fb3, fb4, fb5⟩ := fb
          refine go_aload_n dX12_valley_148 rfl 0 rfl ?_
          refine grm_g7 rfl dX12_valley_149 ?_
          rw [show rl 7 0 = rj_b (FT.1 = false) from ((show rl 7 0 = rj_b (K.1 = false) from el7)).trans (by rw [hC9])]
          refine go_if_neB (tgt := 166) dX12_valley_152 (by decide) (fun c_152 => ?_) (fun c_152 => ?_)
          · refine go_bipush (v := Int32.ofInt (-10)) dX12_valley_166 (by decide) ?_
            refine go_aload_n dX12_valley_168 rfl 0 rfl ?_
            refine grm_g5 rfl dX12_valley_169 ?_
            rw [show rl 5 0 = FT.2.1 from ((show rl 5 0 = K.2.1 from el5)).trans (by rw [hC9])]
            refine go_subI dX12_valley_172 ?_
            refine go_retI rfl rfl ?_ dX12_valley_173
            exact ⟨rj_vi (by unfold sp_valF; rw [if_neg (by omega), eC, if_neg (fun q => absurd q.1 (by simp [c_152]))]), rl, ⟨((show rl 1 = sp_vs B a FT.2.2.1 FT.2.2.2.1 FT.2.2.2.2 from ((show rl 1 = sp_vs B a K.2.2.1 K.2.2.2.1 K.2.2.2.2 from el1)).trans (by rw [hC9]))).trans (by unfold sp_valS; rw [if_neg (by omega), eC, if_neg (fun q => absurd q.1 (by simp [c_152]))]; unfold sp_vV; rw [eC, eB, ea]), ((aol 2 (by decide) (by decide) (by decide) (by decide)).trans q9_2), ((congrFun (aol 3 (by decide) (by decide) (by decide) (by decide)) 0).trans q9_3), ((aol 17 (by decide) (by decide) (by decide) (by decide)).trans q9_17), ((congrFun (aol 18 (by decide) (by decide) (by decide) (by decide)) 0).trans q9_18)⟩, rfl⟩
          · refine go_aload_n dX12_valley_155 rfl 0 rfl ?_
            refine grm_g5 rfl dX12_valley_156 ?_
            rw [show rl 5 0 = FT.2.1 from ((show rl 5 0 = K.2.1 from el5)).trans (by rw [hC9])]
            refine go_aload_n dX12_valley_159 rfl 0 rfl ?_
            refine grm_g6 rfl dX12_valley_160 ?_
            rw [show rl 6 0 = e from el6]
            refine go_icmp_eqI (tgt := 174) (by omega) (by omega) dX12_valley_163 (by decide) (fun c_163 => ?_) (fun c_163 => ?_)
            · refine go_aload_n dX12_valley_174 rfl 0 rfl ?_
              refine grm_g1 rfl dX12_valley_175 ?_
              refine go_iconst (v := Int32.ofInt 3) dX12_valley_178 rfl ?_
              refine go_dup2_11 dX12_valley_179 rfl rfl ?_
              refine grm_l1 (by omega) (by omega) dX12_valley_180 ?_
              rw [show rl 1 = sp_vs B a FT.2.2.1 FT.2.2.2.1 FT.2.2.2.2 from ((show rl 1 = sp_vs B a K.2.2.1 K.2.2.2.1 K.2.2.2.2 from el1)).trans (by rw [hC9])]
              rw [show (sp_vs B a FT.2.2.1 FT.2.2.2.1 FT.2.2.2.2) 3 = s 3 from (sp_vs_lo hBB.1 hBB.2.2.2.2 (by omega)).trans (by rw [eB]; unfold sp_vB; rw [rj_up_ne _ _ (by omega), rj_up_ne _ _ (by omega)])]
              refine go_iconst (v := Int32.ofInt 1) dX12_valley_181 rfl ?_
              refine go_addI dX12_valley_182 ?_
              refine grm_s1 (by omega) (by omega) dX12_valley_183 ?_
              refine go_aload_n dX12_valley_184 rfl 0 rfl ?_
              refine grm_g1 rfl dX12_valley_185 ?_
              refine go_bipush (v := Int32.ofInt 7) dX12_valley_188 (by decide) ?_
              refine go_aload_n dX12_valley_190 rfl 0 rfl ?_
              refine grm_g4 rfl dX12_valley_191 ?_
              rw [show (rm_u rl 1 (rj_up (rl 1) 3 ((s 3) + 1))) 4 0 = a from el4]
              refine grm_s1 (by omega) (by omega) dX12_valley_194 ?_
              refine go_aload_n dX12_valley_195 rfl 0 rfl ?_
              refine grm_g4 rfl dX12_valley_196 ?_
              rw [show (rm_u (rm_u rl 1 (rj_up (rl 1) 3 ((s 3) + 1))) 1 (rj_up ((rm_u rl 1 (rj_up (rl 1) 3 ((s 3) + 1))) 1) 7 a)) 4 0 = a from el4]
              refine go_retI rfl rfl ?_ dX12_valley_199
              exact ⟨rj_vi (by unfold sp_valF; rw [if_neg (by omega), eC, if_pos ⟨by simpa using c_152, c_163.trans ee⟩, ea]), (rm_u (rm_u rl 1 (rj_up (rl 1) 3 ((s 3) + 1))) 1 (rj_up ((rm_u rl 1 (rj_up (rl 1) 3 ((s 3) + 1))) 1) 7 a)), ⟨((show (rm_u (rm_u rl 1 (rj_up (rl 1) 3 ((s 3) + 1))) 1 (rj_up ((rm_u rl 1 (rj_up (rl 1) 3 ((s 3) + 1))) 1) 7 a)) 1 = (rj_up (rj_up (sp_vs B a FT.2.2.1 FT.2.2.2.1 FT.2.2.2.2) 3 ((s 3) + 1)) 7 a) from (congrArg (fun zz => rj_up zz 7 a) (show (rm_u rl 1 (rj_up (rl 1) 3 ((s 3) + 1))) 1 = (rj_up (sp_vs B a FT.2.2.1 FT.2.2.2.1 FT.2.2.2.2) 3 ((s 3) + 1)) from (congrArg (fun zz => rj_up zz 3 ((s 3) + 1)) (show rl 1 = sp_vs B a FT.2.2.1 FT.2.2.2.1 FT.2.2.2.2 from ((show rl 1 = sp_vs B a K.2.2.1 K.2.2.2.1 K.2.2.2.2 from el1)).trans (by rw [hC9]))))))).trans (by unfold sp_valS; rw [if_neg (by omega), eC, if_pos ⟨by simpa using c_152, c_163.trans ee⟩]; unfold sp_vV; rw [eC, eB, ea]), (((fun j b1 b2 b3 b4 => (rm_u_ne _ _ b1).trans ((fun j b1 b2 b3 b4 => (rm_u_ne _ _ b1).trans (aol j b1 b2 b3 b4)) j b1 b2 b3 b4)) 2 (by decide) (by decide) (by decide) (by decide)).trans q9_2), ((congrFun ((fun j b1 b2 b3 b4 => (rm_u_ne _ _ b1).trans ((fun j b1 b2 b3 b4 => (rm_u_ne _ _ b1).trans (aol j b1 b2 b3 b4)) j b1 b2 b3 b4)) 3 (by decide) (by decide) (by decide) (by decide)) 0).trans q9_3), (((fun j b1 b2 b3 b4 => (rm_u_ne _ _ b1).trans ((fun j b1 b2 b3 b4 => (rm_u_ne _ _ b1).trans (aol j b1 b2 b3 b4)) j b1 b2 b3 b4)) 17 (by decide) (by decide) (by decide) (by decide)).trans q9_17), ((congrFun ((fun j b1 b2 b3 b4 => (rm_u_ne _ _ b1).trans ((fun j b1 b2 b3 b4 => (rm_u_ne _ _ b1).trans (aol j b1 b2 b3 b4)) j b1 b2 b3 b4)) 18 (by decide) (by decide) (by decide) (by decide)) 0).trans q9_18)⟩, rfl⟩
            · refine go_bipush (v := Int32.ofInt (-10)) dX12_valley_166 (by decide) ?_
              refine go_aload_n dX12_valley_168 rfl 0 rfl ?_
              refine grm_g5 rfl dX12_valley_169 ?_
              rw [show rl 5 0 = FT.2.1 from ((show rl 5 0 = K.2.1 from el5)).trans (by rw [hC9])]
              refine go_subI dX12_valley_172 ?_
              refine go_retI rfl rfl ?_ dX12_valley_173
              exact ⟨rj_vi (by unfold sp_valF; rw [if_neg (by omega), eC, if_neg (fun q => c_163 (q.2.trans ee.symm))]), rl, ⟨((show rl 1 = sp_vs B a FT.2.2.1 FT.2.2.2.1 FT.2.2.2.2 from ((show rl 1 = sp_vs B a K.2.2.1 K.2.2.2.1 K.2.2.2.2 from el1)).trans (by rw [hC9]))).trans (by unfold sp_valS; rw [if_neg (by omega), eC, if_neg (fun q => c_163 (q.2.trans ee.symm))]; unfold sp_vV; rw [eC, eB, ea]), ((aol 2 (by decide) (by decide) (by decide) (by decide)).trans q9_2), ((congrFun (aol 3 (by decide) (by decide) (by decide) (by decide)) 0).trans q9_3), ((aol 17 (by decide) (by decide) (by decide) (by decide)).trans q9_17), ((congrFun (aol 18 (by decide) (by decide) (by decide) (by decide)) 0).trans q9_18)⟩, rfl⟩
        · refine go_iload_n dX12_valley_113 rfl 1 rfl ?_
          refine go_bipush (v := Int32.ofInt 10) dX12_valley_114 (by decide) ?_
          refine go_icmp_geI (tgt := 148) (by omega) (by omega) dX12_valley_116 (by decide) (fun c_116 => ?_) (fun c_116 => ?_)
          · have hC9 : K = FT := by rw [hT9, sp_cls, if_neg (fun q => absurd c_116 (by omega))]
            have fb := hGK; rw [hC9] at fb
            obtain ⟨fb1, fb2, fb3, fb4, fb5⟩ := fb
            refine go_aload_n dX12_valley_148 rfl 0 rfl ?_
            refine grm_g7 rfl dX12_valley_149 ?_
            rw [show rl 7 0 = rj_b (FT.1 = false) from ((show rl 7 0 = 0 from ((show rl 7 0 = rj_b (K.1 = false) from el7)).trans (rj_bf c_110))).trans (by rw [← hC9]; exact (rj_bf c_110).symm)]
            refine go_if_neB (tgt := 166) dX12_valley_152 (by decide) (fun c_152 => ?_) (fun c_152 => ?_)
            · refine go_bipush (v := Int32.ofInt (-10)) dX12_valley_166 (by decide) ?_
              refine go_aload_n dX12_valley_168 rfl 0 rfl ?_
              refine grm_g5 rfl dX12_valley_169 ?_
              rw [show rl 5 0 = FT.2.1 from ((show rl 5 0 = K.2.1 from el5)).trans (by rw [hC9])]
              refine go_subI dX12_valley_172 ?_
              refine go_retI rfl rfl ?_ dX12_valley_173
              exact ⟨rj_vi (by unfold sp_valF; rw [if_neg (by omega), eC, if_neg (fun q => absurd q.1 (by simp [c_152]))]), rl, ⟨((show rl 1 = sp_vs B a FT.2.2.1 FT.2.2.2.1 FT.2.2.2.2 from ((show rl 1 = sp_vs B a K.2.2.1 K.2.2.2.1 K.2.2.2.2 from el1)).trans (by rw [hC9]))).trans (by unfold sp_valS; rw [if_neg (by omega), eC, if_neg (fun q => absurd q.1 (by simp [c_152]))]; unfold sp_vV; rw [eC, eB, ea]), ((aol 2 (by decide) (by decide) (by decide) (by decide)).trans q9_2), ((congrFun (aol 3 (by decide) (by decide) (by decide) (by decide)) 0).trans q9_3), ((aol 17 (by decide) (by decide) (by decide) (by decide)).trans q9_17), ((congrFun (aol 18 (by decide) (by decide) (by decide) (by decide)) 0).trans q9_18)⟩, rfl⟩
            · refine go_aload_n dX12_valley_155 rfl 0 rfl ?_
              refine grm_g5 rfl dX12_valley_156 ?_
              rw [show rl 5 0 = FT.2.1 from ((show rl 5 0 = K.2.1 from el5)).trans (by rw [hC9])]
              refine go_aload_n dX12_valley_159 rfl 0 rfl ?_
              refine grm_g6 rfl dX12_valley_160 ?_
              rw [show rl 6 0 = e from el6]
              refine go_icmp_eqI (tgt := 174) (by omega) (by omega) dX12_valley_163 (by decide) (fun c_163 => ?_) (fun c_163 => ?_)
              · refine go_aload_n dX12_valley_174 rfl 0 rfl ?_
                refine grm_g1 rfl dX12_valley_175 ?_
                refine go_iconst (v := Int32.ofInt 3) dX12_valley_178 rfl ?_
                refine go_dup2_11 dX12_valley_179 rfl rfl ?_
                refine grm_l1 (by omega) (by omega) dX12_valley_180 ?_
                rw [show rl 1 = sp_vs B a FT.2.2.1 FT.2.2.2.1 FT.2.2.2.2 from ((show rl 1 = sp_vs B a K.2.2.1 K.2.2.2.1 K.2.2.2.2 from el1)).trans (by rw [hC9])]
                rw [show (sp_vs B a FT.2.2.1 FT.2.2.2.1 FT.2.2.2.2) 3 = s 3 from (sp_vs_lo hBB.1 hBB.2.2.2.2 (by omega)).trans (by rw [eB]; unfold sp_vB; rw [rj_up_ne _ _ (by omega), rj_up_ne _ _ (by omega)])]
                refine go_iconst (v := Int32.ofInt 1) dX12_valley_181 rfl ?_
                refine go_addI dX12_valley_182 ?_
                refine grm_s1 (by omega) (by omega) dX12_valley_183 ?_
                refine go_aload_n dX12_valley_184 rfl 0 rfl ?_
                refine grm_g1 rfl dX12_valley_185 ?_
                refine go_bipush (v := Int32.ofInt 7) dX12_valley_188 (by decide) ?_
                refine go_aload_n dX12_valley_190 rfl 0 rfl ?_
                refine grm_g4 rfl dX12_valley_191 ?_
                rw [show (rm_u rl 1 (rj_up (rl 1) 3 ((s 3) + 1))) 4 0 = a from el4]
                refine grm_s1 (by omega) (by omega) dX12_valley_194 ?_
                refine go_aload_n dX12_valley_195 rfl 0 rfl ?_
                refine grm_g4 rfl dX12_valley_196 ?_
                rw [show (rm_u (rm_u rl 1 (rj_up (rl 1) 3 ((s 3) + 1))) 1 (rj_up ((rm_u rl 1 (rj_up (rl 1) 3 ((s 3) + 1))) 1) 7 a)) 4 0 = a from el4]
                refine go_retI rfl rfl ?_ dX12_valley_199
                exact ⟨rj_vi (by unfold sp_valF; rw [if_neg (by omega), eC, if_pos ⟨by simpa using c_152, c_163.trans ee⟩, ea]), (rm_u (rm_u rl 1 (rj_up (rl 1) 3 ((s 3) + 1))) 1 (rj_up ((rm_u rl 1 (rj_up (rl 1) 3 ((s 3) + 1))) 1) 7 a)), ⟨((show (rm_u (rm_u rl 1 (rj_up (rl 1) 3 ((s 3) + 1))) 1 (rj_up ((rm_u rl 1 (rj_up (rl 1) 3 ((s 3) + 1))) 1) 7 a)) 1 = (rj_up (rj_up (sp_vs B a FT.2.2.1 FT.2.2.2.1 FT.2.2.2.2) 3 ((s 3) + 1)) 7 a) from (congrArg (fun zz => rj_up zz 7 a) (show (rm_u rl 1 (rj_up (rl 1) 3 ((s 3) + 1))) 1 = (rj_up (sp_vs B a FT.2.2.1 FT.2.2.2.1 FT.2.2.2.2) 3 ((s 3) + 1)) from (congrArg (fun zz => rj_up zz 3 ((s 3) + 1)) (show rl 1 = sp_vs B a FT.2.2.1 FT.2.2.2.1 FT.2.2.2.2 from ((show rl 1 = sp_vs B a K.2.2.1 K.2.2.2.1 K.2.2.2.2 from el1)).trans (by rw [hC9]))))))).trans (by unfold sp_valS; rw [if_neg (by omega), eC, if_pos ⟨by simpa using c_152, c_163.trans ee⟩]; unfold sp_vV; rw [eC, eB, ea]), (((fun j b1 b2 b3 b4 => (rm_u_ne _ _ b1).trans ((fun j b1 b2 b3 b4 => (rm_u_ne _ _ b1).trans (aol j b1 b2 b3 b4)) j b1 b2 b3 b4)) 2 (by decide) (by decide) (by decide) (by decide)).trans q9_2), ((congrFun ((fun j b1 b2 b3 b4 => (rm_u_ne _ _ b1).trans ((fun j b1 b2 b3 b4 => (rm_u_ne _ _ b1).trans (aol j b1 b2 b3 b4)) j b1 b2 b3 b4)) 3 (by decide) (by decide) (by decide) (by decide)) 0).trans q9_3), (((fun j b1 b2 b3 b4 => (rm_u_ne _ _ b1).trans ((fun j b1 b2 b3 b4 => (rm_u_ne _ _ b1).trans (aol j b1 b2 b3 b4)) j b1 b2 b3 b4)) 17 (by decide) (by decide) (by decide) (by decide)).trans q9_17), ((congrFun ((fun j b1 b2 b3 b4 => (rm_u_ne _ _ b1).trans ((fun j b1 b2 b3 b4 => (rm_u_ne _ _ b1).trans (aol j b1 b2 b3 b4)) j b1 b2 b3 b4)) 18 (by decide) (by decide) (by decide) (by decide)) 0).trans q9_18)⟩, rfl⟩
              · refine go_bipush (v := Int32.ofInt (-10)) dX12_valley_166 (by decide) ?_
                refine go_aload_n dX12_valley_168 rfl 0 rfl ?_
                refine grm_g5 rfl dX12_valley_169 ?_
                rw [show rl 5 0 = FT.2.1 from ((show rl 5 0 = K.2.1 from el5)).trans (by rw [hC9])]
                refine go_subI dX12_valley_172 ?_
                refine go_retI rfl rfl ?_ dX12_valley_173
                exact ⟨rj_vi (by unfold sp_valF; rw [if_neg (by omega), eC, if_neg (fun q => c_163 (q.2.trans ee.symm))]), rl, ⟨((show rl 1 = sp_vs B a FT.2.2.1 FT.2.2.2.1 FT.2.2.2.2 from ((show rl 1 = sp_vs B a K.2.2.1 K.2.2.2.1 K.2.2.2.2 from el1)).trans (by rw [hC9]))).trans (by unfold sp_valS; rw [if_neg (by omega), eC, if_neg (fun q => c_163 (q.2.trans ee.symm))]; unfold sp_vV; rw [eC, eB, ea]), ((aol 2 (by decide) (by decide) (by decide) (by decide)).trans q9_2), ((congrFun (aol 3 (by decide) (by decide) (by decide) (by decide)) 0).trans q9_3), ((aol 17 (by decide) (by decide) (by decide) (by decide)).trans q9_17), ((congrFun (aol 18 (by decide) (by decide) (by decide) (by decide)) 0).trans q9_18)⟩, rfl⟩
          · refine go_aload_n dX12_valley_119 rfl 0 rfl ?_
            refine go_callV (d1 := d - 1) wVX12_74 kX12 rm_ob rfl (by omega) (m_here (T := T) (a := a) (hs := (show rl 1 = sp_vs B a K.2.2.1 K.2.2.2.1 K.2.2.2.2 from el1)) (hp := (show rl 5 0 = K.2.1 from el5)) (he := (show rl 6 0 = e from el6)) hP9) rfl (Nat.le_of_ble_eq_true rfl) dX12_valley_120 (fun w σ1 hP9 => ?_)
            obtain ⟨rfl, rfl⟩ := hP9
            refine go_bipush (v := Int32.ofInt 59) dX12_valley_123 (by decide) ?_
            refine go_icmp_neI (tgt := 148) (by omega) (by omega) dX12_valley_125 (by decide) (fun c_125 => ?_) (fun c_125 => ?_)
            · have hC9 : K = FT := by rw [hT9, sp_cls, if_neg (fun q => c_125 q.2)]
              have fb := hGK; rw [hC9] at fb
              obtain ⟨fb1, fb2, fb3, fb4, fb5⟩ := fb
              refine go_aload_n dX12_valley_148 rfl 0 rfl ?_
              refine grm_g7 rfl dX12_valley_149 ?_
              rw [show rl 7 0 = rj_b (FT.1 = false) from ((show rl 7 0 = 0 from ((show rl 7 0 = rj_b (K.1 = false) from el7)).trans (rj_bf c_110))).trans (by rw [← hC9]; exact (rj_bf c_110).symm)]
              refine go_if_neB (tgt := 166) dX12_valley_152 (by decide) (fun c_152 => ?_) (fun c_152 => ?_)
              · refine go_bipush (v := Int32.ofInt (-10)) dX12_valley_166 (by decide) ?_
                refine go_aload_n dX12_valley_168 rfl 0 rfl ?_
                refine grm_g5 rfl dX12_valley_169 ?_
                rw [show rl 5 0 = FT.2.1 from ((show rl 5 0 = K.2.1 from el5)).trans (by rw [hC9])]
                refine go_subI dX12_valley_172 ?_
                refine go_retI rfl rfl ?_ dX12_valley_173
                exact ⟨rj_vi (by unfold sp_valF; rw [if_neg (by omega), eC, if_neg (fun q => absurd q.1 (by simp [c_152]))]), rl, ⟨((show rl 1 = sp_vs B a FT.2.2.1 FT.2.2.2.1 FT.2.2.2.2 from ((show rl 1 = sp_vs B a K.2.2.1 K.2.2.2.1 K.2.2.2.2 from el1)).trans (by rw [hC9]))).trans (by unfold sp_valS; rw [if_neg (by omega), eC, if_neg (fun q => absurd q.1 (by simp [c_152]))]; unfold sp_vV; rw [eC, eB, ea]), ((aol 2 (by decide) (by decide) (by decide) (by decide)).trans q9_2), ((congrFun (aol 3 (by decide) (by decide) (by decide) (by decide)) 0).trans q9_3), ((aol 17 (by decide) (by decide) (by decide) (by decide)).trans q9_17), ((congrFun (aol 18 (by decide) (by decide) (by decide) (by decide)) 0).trans q9_18)⟩, rfl⟩
              · refine go_aload_n dX12_valley_155 rfl 0 rfl ?_
                refine grm_g5 rfl dX12_valley_156 ?_
                rw [show rl 5 0 = FT.2.1 from ((show rl 5 0 = K.2.1 from el5)).trans (by rw [hC9])]
                refine go_aload_n dX12_valley_159 rfl 0 rfl ?_
                refine grm_g6 rfl dX12_valley_160 ?_
                rw [show rl 6 0 = e from el6]
                refine go_icmp_eqI (tgt := 174) (by omega) (by omega) dX12_valley_163 (by decide) (fun c_163 => ?_) (fun c_163 => ?_)
                · refine go_aload_n dX12_valley_174 rfl 0 rfl ?_
                  refine grm_g1 rfl dX12_valley_175 ?_
                  refine go_iconst (v := Int32.ofInt 3) dX12_valley_178 rfl ?_
                  refine go_dup2_11 dX12_valley_179 rfl rfl ?_
                  refine grm_l1 (by omega) (by omega) dX12_valley_180 ?_
                  rw [show rl 1 = sp_vs B a FT.2.2.1 FT.2.2.2.1 FT.2.2.2.2 from ((show rl 1 = sp_vs B a K.2.2.1 K.2.2.2.1 K.2.2.2.2 from el1)).trans (by rw [hC9])]
                  rw [show (sp_vs B a FT.2.2.1 FT.2.2.2.1 FT.2.2.2.2) 3 = s 3 from (sp_vs_lo hBB.1 hBB.2.2.2.2 (by omega)).trans (by rw [eB]; unfold sp_vB; rw [rj_up_ne _ _ (by omega), rj_up_ne _ _ (by omega)])]
                  refine go_iconst (v := Int32.ofInt 1) dX12_valley_181 rfl ?_
                  refine go_addI dX12_valley_182 ?_
                  refine grm_s1 (by omega) (by omega) dX12_valley_183 ?_
                  refine go_aload_n dX12_valley_184 rfl 0 rfl ?_
                  refine grm_g1 rfl dX12_valley_185 ?_
                  refine go_bipush (v := Int32.ofInt 7) dX12_valley_188 (by decide) ?_
                  refine go_aload_n dX12_valley_190 rfl 0 rfl ?_
                  refine grm_g4 rfl dX12_valley_191 ?_
                  rw [show (rm_u rl 1 (rj_up (rl 1) 3 ((s 3) + 1))) 4 0 = a from el4]
                  refine grm_s1 (by omega) (by omega) dX12_valley_194 ?_
                  refine go_aload_n dX12_valley_195 rfl 0 rfl ?_
                  refine grm_g4 rfl dX12_valley_196 ?_
                  rw [show (rm_u (rm_u rl 1 (rj_up (rl 1) 3 ((s 3) + 1))) 1 (rj_up ((rm_u rl 1 (rj_up (rl 1) 3 ((s 3) + 1))) 1) 7 a)) 4 0 = a from el4]
                  refine go_retI rfl rfl ?_ dX12_valley_199
                  exact ⟨rj_vi (by unfold sp_valF; rw [if_neg (by omega), eC, if_pos ⟨by simpa using c_152, c_163.trans ee⟩, ea]), (rm_u (rm_u rl 1 (rj_up (rl 1) 3 ((s 3) + 1))) 1 (rj_up ((rm_u rl 1 (rj_up (rl 1) 3 ((s 3) + 1))) 1) 7 a)), ⟨((show (rm_u (rm_u rl 1 (rj_up (rl 1) 3 ((s 3) + 1))) 1 (rj_up ((rm_u rl 1 (rj_up (rl 1) 3 ((s 3) + 1))) 1) 7 a)) 1 = (rj_up (rj_up (sp_vs B a FT.2.2.1 FT.2.2.2.1 FT.2.2.2.2) 3 ((s 3) + 1)) 7 a) from (congrArg (fun zz => rj_up zz 7 a) (show (rm_u rl 1 (rj_up (rl 1) 3 ((s 3) + 1))) 1 = (rj_up (sp_vs B a FT.2.2.1 FT.2.2.2.1 FT.2.2.2.2) 3 ((s 3) + 1)) from (congrArg (fun zz => rj_up zz 3 ((s 3) + 1)) (show rl 1 = sp_vs B a FT.2.2.1 FT.2.2.2.1 FT.2.2.2.2 from ((show rl 1 = sp_vs B a K.2.2.1 K.2.2.2.1 K.2.2.2.2 from el1)).trans (by rw [hC9]))))))).trans (by unfold sp_valS; rw [if_neg (by omega), eC, if_pos ⟨by simpa using c_152, c_163.trans ee⟩]; unfold sp_vV; rw [eC, eB, ea]), (((fun j b1 b2 b3 b4 => (rm_u_ne _ _ b1).trans ((fun j b1 b2 b3 b4 => (rm_u_ne _ _ b1).trans (aol j b1 b2 b3 b4)) j b1 b2 b3 b4)) 2 (by decide) (by decide) (by decide) (by decide)).trans q9_2), ((congrFun ((fun j b1 b2 b3 b4 => (rm_u_ne _ _ b1).trans ((fun j b1 b2 b3 b4 => (rm_u_ne _ _ b1).trans (aol j b1 b2 b3 b4)) j b1 b2 b3 b4)) 3 (by decide) (by decide) (by decide) (by decide)) 0).trans q9_3), (((fun j b1 b2 b3 b4 => (rm_u_ne _ _ b1).trans ((fun j b1 b2 b3 b4 => (rm_u_ne _ _ b1).trans (aol j b1 b2 b3 b4)) j b1 b2 b3 b4)) 17 (by decide) (by decide) (by decide) (by decide)).trans q9_17), ((congrFun ((fun j b1 b2 b3 b4 => (rm_u_ne _ _ b1).trans ((fun j b1 b2 b3 b4 => (rm_u_ne _ _ b1).trans (aol j b1 b2 b3 b4)) j b1 b2 b3 b4)) 18 (by decide) (by decide) (by decide) (by decide)) 0).trans q9_18)⟩, rfl⟩
                · refine go_bipush (v := Int32.ofInt (-10)) dX12_valley_166 (by decide) ?_
                  refine go_aload_n dX12_valley_168 rfl 0 rfl ?_
                  refine grm_g5 rfl dX12_valley_169 ?_
                  rw [show rl 5 0 = FT.2.1 from ((show rl 5 0 = K.2.1 from el5)).trans (by rw [hC9])]
                  refine go_subI dX12_valley_172 ?_
                  refine go_retI rfl rfl ?_ dX12_valley_173
                  exact ⟨rj_vi (by unfold sp_valF; rw [if_neg (by omega), eC, if_neg (fun q => c_163 (q.2.trans ee.symm))]), rl, ⟨((show rl 1 = sp_vs B a FT.2.2.1 FT.2.2.2.1 FT.2.2.2.2 from ((show rl 1 = sp_vs B a K.2.2.1 K.2.2.2.1 K.2.2.2.2 from el1)).trans (by rw [hC9]))).trans (by unfold sp_valS; rw [if_neg (by omega), eC, if_neg (fun q => c_163 (q.2.trans ee.symm))]; unfold sp_vV; rw [eC, eB, ea]), ((aol 2 (by decide) (by decide) (by decide) (by decide)).trans q9_2), ((congrFun (aol 3 (by decide) (by decide) (by decide) (by decide)) 0).trans q9_3), ((aol 17 (by decide) (by decide) (by decide) (by decide)).trans q9_17), ((congrFun (aol 18 (by decide) (by decide) (by decide) (by decide)) 0).trans q9_18)⟩, rfl⟩
            · refine go_aload_n dX12_valley_128 rfl 0 rfl ?_
              refine go_dup dX12_valley_129 rfl ?_
              refine grm_g5 rfl dX12_valley_130 ?_
              rw [show rl 5 0 = K.2.1 from el5]
              refine go_iconst (v := Int32.ofInt 1) dX12_valley_133 rfl ?_
              refine go_addI dX12_valley_134 ?_
              refine grm_w5 rfl dX12_valley_135 ?_
              refine go_aload_n dX12_valley_138 rfl 0 rfl ?_
              have cb139 := sp_cla_B (p := K.2.1 + 1) (cl := K.2.2.2.1) (tn := K.2.2.2.2) hBB.2.2.1 (by omega) (by omega) (by omega)
              refine go_callV (d1 := d - 1) wVX12_142 kX12 rm_ob rfl (by omega) (m_clause (by omega) (hs := (show (rm_u rl 5 (fun _ => K.2.1 + 1)) 1 = sp_vs B a K.2.2.1 K.2.2.2.1 K.2.2.2.2 from el1)) (ha := (show (rm_u rl 5 (fun _ => K.2.1 + 1)) 4 0 = a from el4)) (hp := (show (rm_u rl 5 (fun _ => K.2.1 + 1)) 5 0 = K.2.1 + 1 from rfl)) (he := (show (rm_u rl 5 (fun _ => K.2.1 + 1)) 6 0 = e from el6)) (ho := (show (rm_u rl 5 (fun _ => K.2.1 + 1)) 8 0 = 0 from el8)) (hBB.P (l := K.2.2.1) (cl := K.2.2.2.1) (tn := K.2.2.2.2) (p := K.2.1 + 1) (by omega) (by first | omega | (simp only [List.length_nil]; omega))) (show (rm_u rl 5 (fun _ => K.2.1 + 1)) 7 0 = 0 from ((show rl 7 0 = rj_b (K.1 = false) from el7)).trans (rj_bf c_110)) rfl rfl hBB) rfl (Nat.le_of_ble_eq_true rfl) dX12_valley_139 (fun w σ1 hP9 => ?_)
              obtain ⟨rfl, r61, ⟨q61_1, q61_5, q61_7, qo61, qa61⟩, rfl⟩ := hP9
              have q61_4 : r61 4 0 = a := (congrFun (qa61 4 (by decide) (by decide) (by decide) (by decide)) 0).trans (show (rm_u rl 5 (fun _ => K.2.1 + 1)) 4 0 = a from el4)
              have q61_6 : r61 6 0 = e := (congrFun (qa61 6 (by decide) (by decide) (by decide) (by decide)) 0).trans (show (rm_u rl 5 (fun _ => K.2.1 + 1)) 6 0 = e from el6)
              have q61_8 : r61 8 0 = 0 := qo61.trans (show (rm_u rl 5 (fun _ => K.2.1 + 1)) 8 0 = 0 from el8)
              have ao61 : ∀ j : Nat, j ≠ 1 → j ≠ 5 → j ≠ 7 → j ≠ 8 → r61 j = r9 j := fun j b1 b2 b3 b4 => (qa61 j b1 b2 b3 b4).trans ((fun j b1 b2 b3 b4 => (rm_u_ne _ _ b2).trans (aol j b1 b2 b3 b4)) j b1 b2 b3 b4)
              refine go_iincI (a := 10 - ((f + 1 : Nat) : Int)) (n := 1) (k0 := 1) (lv' := [(0, .ref mb), (1, rj_i (10 - ((f + 1 : Nat) : Int) + 1))]) rfl (by decide) rfl dX12_valley_142 ?_
              refine go_goto (tgt := 106) dX12_valley_145 (by decide) ?_
              exact go_eq rfl (lv' := [(0, .ref mb), (1, rj_i (10 - (f : Int)))]) (rj_lk (rj_lj (by omega) rfl)) rfl rfl (ih (sp_cct K (sp_cla T e (K.2.1 + 1) K.2.2.2.1 K.2.2.2.2)) r61 (by omega) (show r61 1 = sp_vs B a (K.2.2.1 ++ (sp_cla T e (K.2.1 + 1) K.2.2.2.1 K.2.2.2.2).2.2.1) (sp_cla T e (K.2.1 + 1) K.2.2.2.1 K.2.2.2.2).2.2.2.1 (sp_cla T e (K.2.1 + 1) K.2.2.2.1 K.2.2.2.2).2.2.2.2 from q61_1) (show r61 4 0 = a from q61_4) (show r61 5 0 = (sp_cla T e (K.2.1 + 1) K.2.2.2.1 K.2.2.2.2).2.1 from q61_5) (show r61 6 0 = e from q61_6) (show r61 7 0 = rj_b ((sp_cla T e (K.2.1 + 1) K.2.2.2.1 K.2.2.2.2).1 = false) from q61_7) (show r61 8 0 = 0 from q61_8) ao61 (sp_cct_B hGK cb139) (by rw [hT9, sp_cls, if_pos ⟨by simpa using c_110, c_125⟩]))
    exact go_eq rfl (lv' := [(0, .ref mb), (1, rj_i (10 - ((9 : Nat) : Int)))]) (rj_lk (rj_lj (rfl) rfl)) rfl rfl (loop 9 _ r91 (by omega) (show r91 1 = sp_vs B a ([] ++ (sp_cla T e 0 0 9).2.2.1) (sp_cla T e 0 0 9).2.2.2.1 (sp_cla T e 0 0 9).2.2.2.2 from q91_1) (show r91 4 0 = a from q91_4) (show r91 5 0 = (sp_cla T e 0 0 9).2.1 from q91_5) (show r91 6 0 = e from q91_6) (show r91 7 0 = rj_b ((sp_cla T e 0 0 9).1 = false) from q91_7) (show r91 8 0 = 0 from q91_8) ao91 (sp_cla_B hBB.2.2.1 (by omega) (by omega) (by omega)) hFT)
  · refine go_bipush (v := Int32.ofInt (-4)) dX12_valley_10 (by decide) ?_
    refine go_retI rfl rfl ?_ dX12_valley_12
    exact ⟨rj_vi (by unfold sp_valF; rw [if_pos (by omega)]), r, ⟨((show r 1 = s from hs)).trans (by unfold sp_valS; rw [if_pos (by omega)]), (show r 2 = (r 2) from rfl), (show r 3 0 = (r 3 0) from rfl), (show r 17 = (r 17) from rfl), (show r 18 0 = (r 18 0) from rfl)⟩, rfl⟩
