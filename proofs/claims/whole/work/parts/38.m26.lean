/-! THE REFERENCE, 26: factor, every, some -/
/-- what a part of the parser does, being right -/
def pc_Ct (X9 : rj_X) (mb : Nat) (σ : rj_H) (T : Int → Int) (e a : Int) (d : Nat) (y : MethodName) (c : ByteArray) (nL : Nat) (o : Int) (F : Int → sp_R) : Prop :=
  ∀ (r : rm_R) (s : Int → Int) (p : Int), r 1 = s → r 4 0 = a → r 5 0 = p → r 6 0 = e → r 8 0 = o → sp_P T e a p s → r 7 0 = 0 → rj_Cl X9 d y c nL none [.ref mb] (rm_p X9 mb r σ) (fun w9 τ => w9 = none ∧ ∃ r0, rm_e r r0 (sp_ems s a (F p).2.2) (F p).2.1 (rj_b ((F p).1 = false)) ∧ τ = rm_p X9 mb r0 σ)
theorem sp_fac_0 (T : Int → Int) (e p : Int) : sp_fac T e 0 p = if sp_hr T e p = 33 ∨ sp_hr T e p = 40 then (false, p, []) else sp_tt1 T e p := rfl
theorem sp_fac_s (T : Int → Int) (e p : Int) (n : Nat) : sp_fac T e (n + 1) p = if sp_hr T e p = 33 then sp_not (sp_fac T e n (p + 1)) else if sp_hr T e p = 40 then sp_clo T e (sp_som T e (sp_fac T e n) (p + 1)) else sp_tt1 T e p := rfl
set_option maxRecDepth 20000 in
/-- m_factor_w -/
theorem m_factor_w {X9 : rj_X} {σ : rj_H} {d : Nat} {mb : Nat} {r : rm_R} {s T : Int → Int} {e a p o : Int} (hs : r 1 = s) (ha : r 4 0 = a) (hp : r 5 0 = p) (he : r 6 0 = e) (ho : r 8 0 = o) (hP : sp_P T e a p s) (h7 : r 7 0 = 1) : rj_Cl X9 d yX12_factor cX12_factor 5 none [.ref mb] (rm_p X9 mb r σ) (fun w9 τ => w9 = none ∧ ∃ r0, rm_e r r0 s p 1 ∧ τ = rm_p X9 mb r0 σ) := by
  obtain ⟨pa, pp, pe, pT, pt, pc0, pc1⟩ := id hP
  have ph := sp_hr_b pT pp.1
  refine go_call (by decide +kernel) (Nat.le_of_ble_eq_true rfl) ?_
  refine go_eq (pc' := 0) (lv' := [(0, .ref mb)]) (st' := []) rfl rfl rfl rfl ?_
  refine go_aload_n dX12_factor_0 rfl 0 rfl ?_
  refine grm_g7 rfl dX12_factor_1 ?_
  rw [show r 7 0 = 1 from h7]
  refine go_if_eqI (tgt := 8) (by omega) dX12_factor_4 (by decide) (fun c_4 => ?_) (fun c_4 => ?_)
  · exact absurd c_4 (by omega)
  · refine go_retV rfl ?_ dX12_factor_7
    exact ⟨rfl, r, ⟨((show r 1 = s from hs)).trans rfl, ((show r 5 0 = p from hp)).trans rfl, ((show r 7 0 = 1 from h7)).trans rfl, ((show r 8 0 = o from ho)).trans ho.symm, (fun j _ _ _ _ => rfl)⟩, rfl⟩
set_option maxRecDepth 20000 in
/-- m_every_w -/
theorem m_every_w {X9 : rj_X} {σ : rj_H} {d : Nat} {mb : Nat} {r : rm_R} (hd : 1 ≤ d) {s T : Int → Int} {e a p o : Int} (hs : r 1 = s) (ha : r 4 0 = a) (hp : r 5 0 = p) (he : r 6 0 = e) (ho : r 8 0 = o) (hP : sp_P T e a p s) (h7 : r 7 0 = 1) : rj_Cl X9 d yX12_every cX12_every 1 none [.ref mb] (rm_p X9 mb r σ) (fun w9 τ => w9 = none ∧ ∃ r0, rm_e r r0 s p 1 ∧ τ = rm_p X9 mb r0 σ) := by
  obtain ⟨pa, pp, pe, pT, pt, pc0, pc1⟩ := id hP
  have ph := sp_hr_b pT pp.1
  refine go_call (by decide +kernel) (Nat.le_of_ble_eq_true rfl) ?_
  refine go_eq (pc' := 0) (lv' := [(0, .ref mb)]) (st' := []) rfl rfl rfl rfl ?_
  refine go_aload_n dX12_every_0 rfl 0 rfl ?_
  refine go_callV (d1 := d - 1) wVX12_97 kX12 rm_ob rfl (by omega) (m_factor_w (T := T) (hs := (show r 1 = s from hs)) (ha := (show r 4 0 = a from ha)) (hp := (show r 5 0 = p from hp)) (he := (show r 6 0 = e from he)) (ho := (show r 8 0 = o from ho)) hP (show r 7 0 = 1 from h7)) rfl (Nat.le_of_ble_eq_true rfl) dX12_every_1 (fun w σ1 hP9 => ?_)
  obtain ⟨rfl, r1, ⟨q1_1, q1_5, q1_7, qo1, qa1⟩, rfl⟩ := hP9
  have q1_4 : r1 4 0 = a := (congrFun (qa1 4 (by decide) (by decide) (by decide) (by decide)) 0).trans (show r 4 0 = a from ha)
  have q1_6 : r1 6 0 = e := (congrFun (qa1 6 (by decide) (by decide) (by decide) (by decide)) 0).trans (show r 6 0 = e from he)
  have q1_8 : r1 8 0 = o := qo1.trans (show r 8 0 = o from ho)
  have ao1 : ∀ j : Nat, j ≠ 1 → j ≠ 5 → j ≠ 7 → j ≠ 8 → r1 j = r j := fun j b1 b2 b3 b4 => (qa1 j b1 b2 b3 b4).trans ((fun j _ _ _ _ => rfl) j b1 b2 b3 b4)
  refine go_aload_n dX12_every_4 rfl 0 rfl ?_
  refine grm_g7 rfl dX12_every_5 ?_
  rw [show r1 7 0 = 1 from q1_7]
  refine go_if_neI (tgt := 43) (by omega) dX12_every_8 (by decide) (fun c_8 => ?_) (fun c_8 => ?_)
  · refine go_retV rfl ?_ dX12_every_43
    exact ⟨rfl, r1, ⟨((show r1 1 = s from q1_1)).trans rfl, ((show r1 5 0 = p from q1_5)).trans rfl, ((show r1 7 0 = 1 from q1_7)).trans rfl, ((show r1 8 0 = o from q1_8)).trans ho.symm, ao1⟩, rfl⟩
  · exact absurd c_8 (by omega)
set_option maxRecDepth 20000 in
/-- m_some_w -/
theorem m_some_w {X9 : rj_X} {σ : rj_H} {d : Nat} {mb : Nat} {r : rm_R} (hd : 2 ≤ d) {s T : Int → Int} {e a p o : Int} (hs : r 1 = s) (ha : r 4 0 = a) (hp : r 5 0 = p) (he : r 6 0 = e) (ho : r 8 0 = o) (hP : sp_P T e a p s) (h7 : r 7 0 = 1) : rj_Cl X9 d yX12_some cX12_some 1 none [.ref mb] (rm_p X9 mb r σ) (fun w9 τ => w9 = none ∧ ∃ r0, rm_e r r0 s p 1 ∧ τ = rm_p X9 mb r0 σ) := by
  obtain ⟨pa, pp, pe, pT, pt, pc0, pc1⟩ := id hP
  have ph := sp_hr_b pT pp.1
  refine go_call (by decide +kernel) (Nat.le_of_ble_eq_true rfl) ?_
  refine go_eq (pc' := 0) (lv' := [(0, .ref mb)]) (st' := []) rfl rfl rfl rfl ?_
  refine go_aload_n dX12_some_0 rfl 0 rfl ?_
  refine go_callV (d1 := d - 1) wVX12_117 kX12 rm_ob rfl (by omega) (m_every_w (by omega) (T := T) (hs := (show r 1 = s from hs)) (ha := (show r 4 0 = a from ha)) (hp := (show r 5 0 = p from hp)) (he := (show r 6 0 = e from he)) (ho := (show r 8 0 = o from ho)) hP (show r 7 0 = 1 from h7)) rfl (Nat.le_of_ble_eq_true rfl) dX12_some_1 (fun w σ1 hP9 => ?_)
  obtain ⟨rfl, r1, ⟨q1_1, q1_5, q1_7, qo1, qa1⟩, rfl⟩ := hP9
  have q1_4 : r1 4 0 = a := (congrFun (qa1 4 (by decide) (by decide) (by decide) (by decide)) 0).trans (show r 4 0 = a from ha)
  have q1_6 : r1 6 0 = e := (congrFun (qa1 6 (by decide) (by decide) (by decide) (by decide)) 0).trans (show r 6 0 = e from he)
  have q1_8 : r1 8 0 = o := qo1.trans (show r 8 0 = o from ho)
  have ao1 : ∀ j : Nat, j ≠ 1 → j ≠ 5 → j ≠ 7 → j ≠ 8 → r1 j = r j := fun j b1 b2 b3 b4 => (qa1 j b1 b2 b3 b4).trans ((fun j _ _ _ _ => rfl) j b1 b2 b3 b4)
  refine go_aload_n dX12_some_4 rfl 0 rfl ?_
  refine grm_g7 rfl dX12_some_5 ?_
  rw [show r1 7 0 = 1 from q1_7]
  refine go_if_neI (tgt := 43) (by omega) dX12_some_8 (by decide) (fun c_8 => ?_) (fun c_8 => ?_)
  · refine go_retV rfl ?_ dX12_some_43
    exact ⟨rfl, r1, ⟨((show r1 1 = s from q1_1)).trans rfl, ((show r1 5 0 = p from q1_5)).trans rfl, ((show r1 7 0 = 1 from q1_7)).trans rfl, ((show r1 8 0 = o from q1_8)).trans ho.symm, ao1⟩, rfl⟩
  · exact absurd c_8 (by omega)
set_option maxRecDepth 20000 in
/-- m_every -/
theorem m_every {X9 : rj_X} {σ : rj_H} {d : Nat} {mb : Nat} {r : rm_R} {F : Int → sp_R} {s T : Int → Int} {e a p o : Int} (hs : r 1 = s) (ha : r 4 0 = a) (hp : r 5 0 = p) (he : r 6 0 = e) (ho : r 8 0 = o) (hP : sp_P T e a p s) (h7 : r 7 0 = 0) (hd : 1 ≤ d) (hF : pc_Ct X9 mb σ T e a (d - 1) yX12_factor cX12_factor 5 o F) (hG : sp_G e F) : rj_Cl X9 d yX12_every cX12_every 1 none [.ref mb] (rm_p X9 mb r σ) (fun w9 τ => w9 = none ∧ ∃ r0, rm_e r r0 (sp_ems s a (sp_lp T e 38 (-2) F 121 (F p)).2.2) ((sp_lp T e 38 (-2) F 121 (F p)).2.1) (rj_b ((sp_lp T e 38 (-2) F 121 (F p)).1 = false)) ∧ τ = rm_p X9 mb r0 σ) := by
  obtain ⟨pa, pp, pe, pT, pt, pc0, pc1⟩ := id hP
  have ph := sp_hr_b pT pp.1
  refine go_call (by decide +kernel) (Nat.le_of_ble_eq_true rfl) ?_
  refine go_eq (pc' := 0) (lv' := [(0, .ref mb)]) (st' := []) rfl rfl rfl rfl ?_
  refine go_aload_n dX12_every_0 rfl 0 rfl ?_
  refine go_callV (d1 := d - 1) wVX12_97 kX12 rm_ob rfl (by omega) (hF _ _ _ (show r 1 = s from hs) (show r 4 0 = a from ha) (show r 5 0 = p from hp) (show r 6 0 = e from he) (show r 8 0 = o from ho) hP (show r 7 0 = 0 from h7)) rfl (Nat.le_of_ble_eq_true rfl) dX12_every_1 (fun w σ1 hP9 => ?_)
  obtain ⟨rfl, r1, ⟨q1_1, q1_5, q1_7, qo1, qa1⟩, rfl⟩ := hP9
  have q1_4 : r1 4 0 = a := (congrFun (qa1 4 (by decide) (by decide) (by decide) (by decide)) 0).trans (show r 4 0 = a from ha)
  have q1_6 : r1 6 0 = e := (congrFun (qa1 6 (by decide) (by decide) (by decide) (by decide)) 0).trans (show r 6 0 = e from he)
  have q1_8 : r1 8 0 = o := qo1.trans (show r 8 0 = o from ho)
  have ao1 : ∀ j : Nat, j ≠ 1 → j ≠ 5 → j ≠ 7 → j ≠ 8 → r1 j = r j := fun j b1 b2 b3 b4 => (qa1 j b1 b2 b3 b4).trans ((fun j _ _ _ _ => rfl) j b1 b2 b3 b4)
  obtain ⟨g1_1, g1_2, g1_3⟩ := hG p (by omega) (by omega)
  obtain ⟨FT, hFT⟩ : ∃ FT, FT = sp_lp T e 38 (-2) F 121 (F p) := ⟨_, rfl⟩
  rw [← hFT]
  have loop : ∀ (f : Nat) (R : sp_R) (rl : rm_R), rl 1 = sp_ems s a R.2.2 → rl 4 0 = a → rl 5 0 = R.2.1 → rl 6 0 = e → rl 7 0 = rj_b (R.1 = false) → rl 8 0 = o → (∀ j : Nat, j ≠ 1 → j ≠ 5 → j ≠ 7 → j ≠ 8 → rl j = r j) → sp_G1 p e R → e < R.2.1 + (f : Int) → FT = sp_lp T e 38 (-2) F f R → rj_Go X9 yX12_every cX12_every 1 none d (fun w9 τ => w9 = none ∧ ∃ r0, rm_e r r0 (sp_ems s a FT.2.2) FT.2.1 (rj_b (FT.1 = false)) ∧ τ = rm_p X9 mb r0 σ) 4 [(0, .ref mb)] [] (rm_p X9 mb rl σ) := by
    intro f
    induction f with
    | zero =>
      intro R rl el1 el4 el5 el6 el7 el8 aol hGR hf
      obtain ⟨t1, t2, t3⟩ := hGR
      omega
    | succ f ih =>
      intro R rl el1 el4 el5 el6 el7 el8 aol hGR hf hT9
      obtain ⟨t1, t2, t3⟩ := id hGR
      have hPR : sp_P T e a R.2.1 (sp_ems s a R.2.2) := hP.st (by omega) (by omega)
      have pr := sp_hr_b (p := R.2.1) pT (by omega)
      refine go_aload_n dX12_every_4 rfl 0 rfl ?_
      refine grm_g7 rfl dX12_every_5 ?_
      rw [show rl 7 0 = rj_b (R.1 = false) from el7]
      refine go_if_neB (tgt := 43) dX12_every_8 (by decide) (fun c_8 => ?_) (fun c_8 => ?_)
      · refine go_retV rfl ?_ dX12_every_43
        exact ⟨rfl, rl, ⟨((show rl 1 = sp_ems s a R.2.2 from el1)).trans (by rw [hT9, sp_lp, if_neg (fun q => absurd q.1 (by simp [c_8]))]), ((show rl 5 0 = R.2.1 from el5)).trans (by rw [hT9, sp_lp, if_neg (fun q => absurd q.1 (by simp [c_8]))]), ((show rl 7 0 = rj_b (R.1 = false) from el7)).trans (by rw [hT9, sp_lp, if_neg (fun q => absurd q.1 (by simp [c_8]))]), ((show rl 8 0 = o from el8)).trans ho.symm, aol⟩, rfl⟩
      · refine go_aload_n dX12_every_11 rfl 0 rfl ?_
        refine go_callV (d1 := d - 1) wVX12_74 kX12 rm_ob rfl (by omega) (m_here (T := T) (a := a) (hs := (show rl 1 = sp_ems s a R.2.2 from el1)) (hp := (show rl 5 0 = R.2.1 from el5)) (he := (show rl 6 0 = e from el6)) hPR) rfl (Nat.le_of_ble_eq_true rfl) dX12_every_12 (fun w σ1 hP9 => ?_)
        obtain ⟨rfl, rfl⟩ := hP9
        refine go_bipush (v := Int32.ofInt 38) dX12_every_15 (by decide) ?_
        refine go_icmp_neI (tgt := 43) (by omega) (by omega) dX12_every_17 (by decide) (fun c_17 => ?_) (fun c_17 => ?_)
        · refine go_retV rfl ?_ dX12_every_43
          exact ⟨rfl, rl, ⟨((show rl 1 = sp_ems s a R.2.2 from el1)).trans (by rw [hT9, sp_lp, if_neg (fun q => c_17 q.2)]), ((show rl 5 0 = R.2.1 from el5)).trans (by rw [hT9, sp_lp, if_neg (fun q => c_17 q.2)]), ((show rl 7 0 = 0 from ((show rl 7 0 = rj_b (R.1 = false) from el7)).trans (rj_bf c_8))).trans (by rw [hT9, sp_lp, if_neg (fun q => c_17 q.2)]; exact (rj_bf c_8).symm), ((show rl 8 0 = o from el8)).trans ho.symm, aol⟩, rfl⟩
        · refine go_aload_n dX12_every_20 rfl 0 rfl ?_
          refine go_dup dX12_every_21 rfl ?_
          refine grm_g5 rfl dX12_every_22 ?_
          rw [show rl 5 0 = R.2.1 from el5]
          refine go_iconst (v := Int32.ofInt 1) dX12_every_25 rfl ?_
          refine go_addI dX12_every_26 ?_
          refine grm_w5 rfl dX12_every_27 ?_
          refine go_aload_n dX12_every_30 rfl 0 rfl ?_
          refine go_callV (d1 := d - 1) wVX12_97 kX12 rm_ob rfl (by omega) (hF _ _ _ (show (rm_u rl 5 (fun _ => R.2.1 + 1)) 1 = sp_ems s a R.2.2 from el1) (show (rm_u rl 5 (fun _ => R.2.1 + 1)) 4 0 = a from el4) (show (rm_u rl 5 (fun _ => R.2.1 + 1)) 5 0 = R.2.1 + 1 from rfl) (show (rm_u rl 5 (fun _ => R.2.1 + 1)) 6 0 = e from el6) (show (rm_u rl 5 (fun _ => R.2.1 + 1)) 8 0 = o from el8) (hPR.up (p' := R.2.1 + 1) (by omega) (by omega)) (show (rm_u rl 5 (fun _ => R.2.1 + 1)) 7 0 = 0 from ((show rl 7 0 = rj_b (R.1 = false) from el7)).trans (rj_bf c_8))) rfl (Nat.le_of_ble_eq_true rfl) dX12_every_31 (fun w σ1 hP9 => ?_)
          obtain ⟨rfl, r61, ⟨q61_1, q61_5, q61_7, qo61, qa61⟩, rfl⟩ := hP9
          have q61_4 : r61 4 0 = a := (congrFun (qa61 4 (by decide) (by decide) (by decide) (by decide)) 0).trans (show (rm_u rl 5 (fun _ => R.2.1 + 1)) 4 0 = a from el4)
          have q61_6 : r61 6 0 = e := (congrFun (qa61 6 (by decide) (by decide) (by decide) (by decide)) 0).trans (show (rm_u rl 5 (fun _ => R.2.1 + 1)) 6 0 = e from el6)
          have q61_8 : r61 8 0 = o := qo61.trans (show (rm_u rl 5 (fun _ => R.2.1 + 1)) 8 0 = o from el8)
          have ao61 : ∀ j : Nat, j ≠ 1 → j ≠ 5 → j ≠ 7 → j ≠ 8 → r61 j = r j := fun j b1 b2 b3 b4 => (qa61 j b1 b2 b3 b4).trans ((fun j b1 b2 b3 b4 => (rm_u_ne _ _ b2).trans (aol j b1 b2 b3 b4)) j b1 b2 b3 b4)
          obtain ⟨g61_1, g61_2, g61_3⟩ := hG (R.2.1 + 1) (by omega) (by omega)
          refine go_aload_n dX12_every_34 rfl 0 rfl ?_
          refine go_bipush (v := Int32.ofInt (-2)) dX12_every_35 (by decide) ?_
          by_cases hx : (F (R.2.1 + 1)).1 = true
          · refine go_callV (d1 := d - 1) wVX12_100 kX12 rm_ob rfl (by omega) (m_emits (T := T) (x := (-2)) (hs := (show r61 1 = sp_ems (sp_ems s a R.2.2) a (F (R.2.1 + 1)).2.2 from q61_1)) (ha := (show r61 4 0 = a from q61_4)) (hp := (show r61 5 0 = (F (R.2.1 + 1)).2.1 from q61_5)) (he := (show r61 6 0 = e from q61_6)) (ho := (show r61 8 0 = o from q61_8)) ((hPR.up (p' := R.2.1 + 1) (by omega) (by omega)).st (l := (F (R.2.1 + 1)).2.2) (p' := (F (R.2.1 + 1)).2.1) (by omega) (by omega)) (show r61 7 0 = 0 from ((show r61 7 0 = rj_b ((F (R.2.1 + 1)).1 = false) from q61_7)).trans (rj_bf (by simp [hx])))) rfl (Nat.le_of_ble_eq_true rfl) dX12_every_37 (fun w σ1 hP9 => ?_)
            obtain ⟨rfl, r62, ⟨q62_1, q62_5, q62_7, qo62, qa62⟩, rfl⟩ := hP9
            have q62_4 : r62 4 0 = a := (congrFun (qa62 4 (by decide) (by decide) (by decide) (by decide)) 0).trans (show r61 4 0 = a from q61_4)
            have q62_6 : r62 6 0 = e := (congrFun (qa62 6 (by decide) (by decide) (by decide) (by decide)) 0).trans (show r61 6 0 = e from q61_6)
            have q62_8 : r62 8 0 = o := qo62.trans (show r61 8 0 = o from q61_8)
            have ao62 : ∀ j : Nat, j ≠ 1 → j ≠ 5 → j ≠ 7 → j ≠ 8 → r62 j = r j := fun j b1 b2 b3 b4 => (qa62 j b1 b2 b3 b4).trans (ao61 j b1 b2 b3 b4)
            refine go_goto (tgt := 4) dX12_every_40 (by decide) ?_
            exact go_eq rfl (lv' := [(0, .ref mb)]) (rj_lk rfl) rfl rfl (ih (sp_cat (-2) R (F (R.2.1 + 1))) r62 ((show r62 1 = sp_em1 a (sp_ems (sp_ems s a R.2.2) a (F (R.2.1 + 1)).2.2) (-2) from q62_1).trans (by unfold sp_cat; simp [hx, sp_ems_app, sp_ems_1])) (show r62 4 0 = a from q62_4) (show r62 5 0 = (F (R.2.1 + 1)).2.1 from q62_5) (show r62 6 0 = e from q62_6) (((show r62 7 0 = 0 from q62_7)).trans (rj_bf (by unfold sp_cat; simp [hx])).symm) (show r62 8 0 = o from q62_8) ao62 (by obtain ⟨u1, u2, u3⟩ := sp_lp_G pT hG (show (0 : Int) ≤ 38 by omega) pp.1 1 R hGR; rw [sp_lp, if_pos ⟨by simpa using c_8, c_17⟩, sp_lp] at u1 u2 u3; exact ⟨u1, u2, u3⟩) (by show e < (F (R.2.1 + 1)).2.1 + (f : Int); omega) (by rw [hT9, sp_lp, if_pos ⟨by simpa using c_8, c_17⟩]))
          · refine go_callV (d1 := d - 1) wVX12_100 kX12 rm_ob rfl (by omega) (m_emits_w (T := T) (x := (-2)) (hs := (show r61 1 = sp_ems (sp_ems s a R.2.2) a (F (R.2.1 + 1)).2.2 from q61_1)) (ha := (show r61 4 0 = a from q61_4)) (hp := (show r61 5 0 = (F (R.2.1 + 1)).2.1 from q61_5)) (he := (show r61 6 0 = e from q61_6)) (ho := (show r61 8 0 = o from q61_8)) ((hPR.up (p' := R.2.1 + 1) (by omega) (by omega)).st (l := (F (R.2.1 + 1)).2.2) (p' := (F (R.2.1 + 1)).2.1) (by omega) (by omega)) (show r61 7 0 = 1 from ((show r61 7 0 = rj_b ((F (R.2.1 + 1)).1 = false) from q61_7)).trans (rj_bt (by simpa using hx)))) rfl (Nat.le_of_ble_eq_true rfl) dX12_every_37 (fun w σ1 hP9 => ?_)
            obtain ⟨rfl, r62, ⟨q62_1, q62_5, q62_7, qo62, qa62⟩, rfl⟩ := hP9
            have q62_4 : r62 4 0 = a := (congrFun (qa62 4 (by decide) (by decide) (by decide) (by decide)) 0).trans (show r61 4 0 = a from q61_4)
            have q62_6 : r62 6 0 = e := (congrFun (qa62 6 (by decide) (by decide) (by decide) (by decide)) 0).trans (show r61 6 0 = e from q61_6)
            have q62_8 : r62 8 0 = o := qo62.trans (show r61 8 0 = o from q61_8)
            have ao62 : ∀ j : Nat, j ≠ 1 → j ≠ 5 → j ≠ 7 → j ≠ 8 → r62 j = r j := fun j b1 b2 b3 b4 => (qa62 j b1 b2 b3 b4).trans (ao61 j b1 b2 b3 b4)
            refine go_goto (tgt := 4) dX12_every_40 (by decide) ?_
            exact go_eq rfl (lv' := [(0, .ref mb)]) (rj_lk rfl) rfl rfl (ih (sp_cat (-2) R (F (R.2.1 + 1))) r62 ((show r62 1 = sp_ems (sp_ems s a R.2.2) a (F (R.2.1 + 1)).2.2 from q62_1).trans (by unfold sp_cat; simp [hx, sp_ems_app, sp_ems_1])) (show r62 4 0 = a from q62_4) (show r62 5 0 = (F (R.2.1 + 1)).2.1 from q62_5) (show r62 6 0 = e from q62_6) (((show r62 7 0 = 1 from q62_7)).trans (rj_bt (by unfold sp_cat; simp [hx])).symm) (show r62 8 0 = o from q62_8) ao62 (by obtain ⟨u1, u2, u3⟩ := sp_lp_G pT hG (show (0 : Int) ≤ 38 by omega) pp.1 1 R hGR; rw [sp_lp, if_pos ⟨by simpa using c_8, c_17⟩, sp_lp] at u1 u2 u3; exact ⟨u1, u2, u3⟩) (by show e < (F (R.2.1 + 1)).2.1 + (f : Int); omega) (by rw [hT9, sp_lp, if_pos ⟨by simpa using c_8, c_17⟩]))
  exact loop 121 (F p) r1 (show r1 1 = sp_ems s a (F p).2.2 from q1_1) (show r1 4 0 = a from q1_4) (show r1 5 0 = (F p).2.1 from q1_5) (show r1 6 0 = e from q1_6) (show r1 7 0 = rj_b ((F p).1 = false) from q1_7) (show r1 8 0 = o from q1_8) ao1 (hG p pp.1 pp.2) (by obtain ⟨u1, u2, u3⟩ := hG p pp.1 pp.2; omega) hFT
set_option maxRecDepth 20000 in
/-- m_some -/
theorem m_some {X9 : rj_X} {σ : rj_H} {d : Nat} {mb : Nat} {r : rm_R} {F : Int → sp_R} {s T : Int → Int} {e a p o : Int} (hs : r 1 = s) (ha : r 4 0 = a) (hp : r 5 0 = p) (he : r 6 0 = e) (ho : r 8 0 = o) (hP : sp_P T e a p s) (h7 : r 7 0 = 0) (hd : 1 ≤ d) (hF : pc_Ct X9 mb σ T e a (d - 1) yX12_every cX12_every 1 o F) (hG : sp_G e F) : rj_Cl X9 d yX12_some cX12_some 1 none [.ref mb] (rm_p X9 mb r σ) (fun w9 τ => w9 = none ∧ ∃ r0, rm_e r r0 (sp_ems s a (sp_lp T e 124 (-3) F 121 (F p)).2.2) ((sp_lp T e 124 (-3) F 121 (F p)).2.1) (rj_b ((sp_lp T e 124 (-3) F 121 (F p)).1 = false)) ∧ τ = rm_p X9 mb r0 σ) := by
  obtain ⟨pa, pp, pe, pT, pt, pc0, pc1⟩ := id hP
  have ph := sp_hr_b pT pp.1
  refine go_call (by decide +kernel) (Nat.le_of_ble_eq_true rfl) ?_
  refine go_eq (pc' := 0) (lv' := [(0, .ref mb)]) (st' := []) rfl rfl rfl rfl ?_
  refine go_aload_n dX12_some_0 rfl 0 rfl ?_
  refine go_callV (d1 := d - 1) wVX12_117 kX12 rm_ob rfl (by omega) (hF _ _ _ (show r 1 = s from hs) (show r 4 0 = a from ha) (show r 5 0 = p from hp) (show r 6 0 = e from he) (show r 8 0 = o from ho) hP (show r 7 0 = 0 from h7)) rfl (Nat.le_of_ble_eq_true rfl) dX12_some_1 (fun w σ1 hP9 => ?_)
  obtain ⟨rfl, r1, ⟨q1_1, q1_5, q1_7, qo1, qa1⟩, rfl⟩ := hP9
  have q1_4 : r1 4 0 = a := (congrFun (qa1 4 (by decide) (by decide) (by decide) (by decide)) 0).trans (show r 4 0 = a from ha)
  have q1_6 : r1 6 0 = e := (congrFun (qa1 6 (by decide) (by decide) (by decide) (by decide)) 0).trans (show r 6 0 = e from he)
  have q1_8 : r1 8 0 = o := qo1.trans (show r 8 0 = o from ho)
  have ao1 : ∀ j : Nat, j ≠ 1 → j ≠ 5 → j ≠ 7 → j ≠ 8 → r1 j = r j := fun j b1 b2 b3 b4 => (qa1 j b1 b2 b3 b4).trans ((fun j _ _ _ _ => rfl) j b1 b2 b3 b4)
  obtain ⟨g1_1, g1_2, g1_3⟩ := hG p (by omega) (by omega)
  obtain ⟨FT, hFT⟩ : ∃ FT, FT = sp_lp T e 124 (-3) F 121 (F p) := ⟨_, rfl⟩
  rw [← hFT]
  have loop : ∀ (f : Nat) (R : sp_R) (rl : rm_R), rl 1 = sp_ems s a R.2.2 → rl 4 0 = a → rl 5 0 = R.2.1 → rl 6 0 = e → rl 7 0 = rj_b (R.1 = false) → rl 8 0 = o → (∀ j : Nat, j ≠ 1 → j ≠ 5 → j ≠ 7 → j ≠ 8 → rl j = r j) → sp_G1 p e R → e < R.2.1 + (f : Int) → FT = sp_lp T e 124 (-3) F f R → rj_Go X9 yX12_some cX12_some 1 none d (fun w9 τ => w9 = none ∧ ∃ r0, rm_e r r0 (sp_ems s a FT.2.2) FT.2.1 (rj_b (FT.1 = false)) ∧ τ = rm_p X9 mb r0 σ) 4 [(0, .ref mb)] [] (rm_p X9 mb rl σ) := by
    intro f
    induction f with
    | zero =>
      intro R rl el1 el4 el5 el6 el7 el8 aol hGR hf
      obtain ⟨t1, t2, t3⟩ := hGR
      omega
    | succ f ih =>
      intro R rl el1 el4 el5 el6 el7 el8 aol hGR hf hT9
      obtain ⟨t1, t2, t3⟩ := id hGR
      have hPR : sp_P T e a R.2.1 (sp_ems s a R.2.2) := hP.st (by omega) (by omega)
      have pr := sp_hr_b (p := R.2.1) pT (by omega)
      refine go_aload_n dX12_some_4 rfl 0 rfl ?_
      refine grm_g7 rfl dX12_some_5 ?_
      rw [show rl 7 0 = rj_b (R.1 = false) from el7]
      refine go_if_neB (tgt := 43) dX12_some_8 (by decide) (fun c_8 => ?_) (fun c_8 => ?_)
      · refine go_retV rfl ?_ dX12_some_43
        exact ⟨rfl, rl, ⟨((show rl 1 = sp_ems s a R.2.2 from el1)).trans (by rw [hT9, sp_lp, if_neg (fun q => absurd q.1 (by simp [c_8]))]), ((show rl 5 0 = R.2.1 from el5)).trans (by rw [hT9, sp_lp, if_neg (fun q => absurd q.1 (by simp [c_8]))]), ((show rl 7 0 = rj_b (R.1 = false) from el7)).trans (by rw [hT9, sp_lp, if_neg (fun q => absurd q.1 (by simp [c_8]))]), ((show rl 8 0 = o from el8)).trans ho.symm, aol⟩, rfl⟩
      · refine go_aload_n dX12_some_11 rfl 0 rfl ?_
        refine go_callV (d1 := d - 1) wVX12_74 kX12 rm_ob rfl (by omega) (m_here (T := T) (a := a) (hs := (show rl 1 = sp_ems s a R.2.2 from el1)) (hp := (show rl 5 0 = R.2.1 from el5)) (he := (show rl 6 0 = e from el6)) hPR) rfl (Nat.le_of_ble_eq_true rfl) dX12_some_12 (fun w σ1 hP9 => ?_)
        obtain ⟨rfl, rfl⟩ := hP9
        refine go_bipush (v := Int32.ofInt 124) dX12_some_15 (by decide) ?_
        refine go_icmp_neI (tgt := 43) (by omega) (by omega) dX12_some_17 (by decide) (fun c_17 => ?_) (fun c_17 => ?_)
        · refine go_retV rfl ?_ dX12_some_43
          exact ⟨rfl, rl, ⟨((show rl 1 = sp_ems s a R.2.2 from el1)).trans (by rw [hT9, sp_lp, if_neg (fun q => c_17 q.2)]), ((show rl 5 0 = R.2.1 from el5)).trans (by rw [hT9, sp_lp, if_neg (fun q => c_17 q.2)]), ((show rl 7 0 = 0 from ((show rl 7 0 = rj_b (R.1 = false) from el7)).trans (rj_bf c_8))).trans (by rw [hT9, sp_lp, if_neg (fun q => c_17 q.2)]; exact (rj_bf c_8).symm), ((show rl 8 0 = o from el8)).trans ho.symm, aol⟩, rfl⟩
        · refine go_aload_n dX12_some_20 rfl 0 rfl ?_
          refine go_dup dX12_some_21 rfl ?_
          refine grm_g5 rfl dX12_some_22 ?_
          rw [show rl 5 0 = R.2.1 from el5]
          refine go_iconst (v := Int32.ofInt 1) dX12_some_25 rfl ?_
          refine go_addI dX12_some_26 ?_
          refine grm_w5 rfl dX12_some_27 ?_
          refine go_aload_n dX12_some_30 rfl 0 rfl ?_
          refine go_callV (d1 := d - 1) wVX12_117 kX12 rm_ob rfl (by omega) (hF _ _ _ (show (rm_u rl 5 (fun _ => R.2.1 + 1)) 1 = sp_ems s a R.2.2 from el1) (show (rm_u rl 5 (fun _ => R.2.1 + 1)) 4 0 = a from el4) (show (rm_u rl 5 (fun _ => R.2.1 + 1)) 5 0 = R.2.1 + 1 from rfl) (show (rm_u rl 5 (fun _ => R.2.1 + 1)) 6 0 = e from el6) (show (rm_u rl 5 (fun _ => R.2.1 + 1)) 8 0 = o from el8) (hPR.up (p' := R.2.1 + 1) (by omega) (by omega)) (show (rm_u rl 5 (fun _ => R.2.1 + 1)) 7 0 = 0 from ((show rl 7 0 = rj_b (R.1 = false) from el7)).trans (rj_bf c_8))) rfl (Nat.le_of_ble_eq_true rfl) dX12_some_31 (fun w σ1 hP9 => ?_)
          obtain ⟨rfl, r61, ⟨q61_1, q61_5, q61_7, qo61, qa61⟩, rfl⟩ := hP9
          have q61_4 : r61 4 0 = a := (congrFun (qa61 4 (by decide) (by decide) (by decide) (by decide)) 0).trans (show (rm_u rl 5 (fun _ => R.2.1 + 1)) 4 0 = a from el4)
          have q61_6 : r61 6 0 = e := (congrFun (qa61 6 (by decide) (by decide) (by decide) (by decide)) 0).trans (show (rm_u rl 5 (fun _ => R.2.1 + 1)) 6 0 = e from el6)
          have q61_8 : r61 8 0 = o := qo61.trans (show (rm_u rl 5 (fun _ => R.2.1 + 1)) 8 0 = o from el8)
          have ao61 : ∀ j : Nat, j ≠ 1 → j ≠ 5 → j ≠ 7 → j ≠ 8 → r61 j = r j := fun j b1 b2 b3 b4 => (qa61 j b1 b2 b3 b4).trans ((fun j b1 b2 b3 b4 => (rm_u_ne _ _ b2).trans (aol j b1 b2 b3 b4)) j b1 b2 b3 b4)
          obtain ⟨g61_1, g61_2, g61_3⟩ := hG (R.2.1 + 1) (by omega) (by omega)
          refine go_aload_n dX12_some_34 rfl 0 rfl ?_
          refine go_bipush (v := Int32.ofInt (-3)) dX12_some_35 (by decide) ?_
          by_cases hx : (F (R.2.1 + 1)).1 = true
          · refine go_callV (d1 := d - 1) wVX12_100 kX12 rm_ob rfl (by omega) (m_emits (T := T) (x := (-3)) (hs := (show r61 1 = sp_ems (sp_ems s a R.2.2) a (F (R.2.1 + 1)).2.2 from q61_1)) (ha := (show r61 4 0 = a from q61_4)) (hp := (show r61 5 0 = (F (R.2.1 + 1)).2.1 from q61_5)) (he := (show r61 6 0 = e from q61_6)) (ho := (show r61 8 0 = o from q61_8)) ((hPR.up (p' := R.2.1 + 1) (by omega) (by omega)).st (l := (F (R.2.1 + 1)).2.2) (p' := (F (R.2.1 + 1)).2.1) (by omega) (by omega)) (show r61 7 0 = 0 from ((show r61 7 0 = rj_b ((F (R.2.1 + 1)).1 = false) from q61_7)).trans (rj_bf (by simp [hx])))) rfl (Nat.le_of_ble_eq_true rfl) dX12_some_37 (fun w σ1 hP9 => ?_)
            obtain ⟨rfl, r62, ⟨q62_1, q62_5, q62_7, qo62, qa62⟩, rfl⟩ := hP9
            have q62_4 : r62 4 0 = a := (congrFun (qa62 4 (by decide) (by decide) (by decide) (by decide)) 0).trans (show r61 4 0 = a from q61_4)
            have q62_6 : r62 6 0 = e := (congrFun (qa62 6 (by decide) (by decide) (by decide) (by decide)) 0).trans (show r61 6 0 = e from q61_6)
            have q62_8 : r62 8 0 = o := qo62.trans (show r61 8 0 = o from q61_8)
            have ao62 : ∀ j : Nat, j ≠ 1 → j ≠ 5 → j ≠ 7 → j ≠ 8 → r62 j = r j := fun j b1 b2 b3 b4 => (qa62 j b1 b2 b3 b4).trans (ao61 j b1 b2 b3 b4)
            refine go_goto (tgt := 4) dX12_some_40 (by decide) ?_
            exact go_eq rfl (lv' := [(0, .ref mb)]) (rj_lk rfl) rfl rfl (ih (sp_cat (-3) R (F (R.2.1 + 1))) r62 ((show r62 1 = sp_em1 a (sp_ems (sp_ems s a R.2.2) a (F (R.2.1 + 1)).2.2) (-3) from q62_1).trans (by unfold sp_cat; simp [hx, sp_ems_app, sp_ems_1])) (show r62 4 0 = a from q62_4) (show r62 5 0 = (F (R.2.1 + 1)).2.1 from q62_5) (show r62 6 0 = e from q62_6) (((show r62 7 0 = 0 from q62_7)).trans (rj_bf (by unfold sp_cat; simp [hx])).symm) (show r62 8 0 = o from q62_8) ao62 (by obtain ⟨u1, u2, u3⟩ := sp_lp_G pT hG (show (0 : Int) ≤ 124 by omega) pp.1 1 R hGR; rw [sp_lp, if_pos ⟨by simpa using c_8, c_17⟩, sp_lp] at u1 u2 u3; exact ⟨u1, u2, u3⟩) (by show e < (F (R.2.1 + 1)).2.1 + (f : Int); omega) (by rw [hT9, sp_lp, if_pos ⟨by simpa using c_8, c_17⟩]))
          · refine go_callV (d1 := d - 1) wVX12_100 kX12 rm_ob rfl (by omega) (m_emits_w (T := T) (x := (-3)) (hs := (show r61 1 = sp_ems (sp_ems s a R.2.2) a (F (R.2.1 + 1)).2.2 from q61_1)) (ha := (show r61 4 0 = a from q61_4)) (hp := (show r61 5 0 = (F (R.2.1 + 1)).2.1 from q61_5)) (he := (show r61 6 0 = e from q61_6)) (ho := (show r61 8 0 = o from q61_8)) ((hPR.up (p' := R.2.1 + 1) (by omega) (by omega)).st (l := (F (R.2.1 + 1)).2.2) (p' := (F (R.2.1 + 1)).2.1) (by omega) (by omega)) (show r61 7 0 = 1 from ((show r61 7 0 = rj_b ((F (R.2.1 + 1)).1 = false) from q61_7)).trans (rj_bt (by simpa using hx)))) rfl (Nat.le_of_ble_eq_true rfl) dX12_some_37 (fun w σ1 hP9 => ?_)
            obtain ⟨rfl, r62, ⟨q62_1, q62_5, q62_7, qo62, qa62⟩, rfl⟩ := hP9
            have q62_4 : r62 4 0 = a := (congrFun (qa62 4 (by decide) (by decide) (by decide) (by decide)) 0).trans (show r61 4 0 = a from q61_4)
            have q62_6 : r62 6 0 = e := (congrFun (qa62 6 (by decide) (by decide) (by decide) (by decide)) 0).trans (show r61 6 0 = e from q61_6)
            have q62_8 : r62 8 0 = o := qo62.trans (show r61 8 0 = o from q61_8)
            have ao62 : ∀ j : Nat, j ≠ 1 → j ≠ 5 → j ≠ 7 → j ≠ 8 → r62 j = r j := fun j b1 b2 b3 b4 => (qa62 j b1 b2 b3 b4).trans (ao61 j b1 b2 b3 b4)
            refine go_goto (tgt := 4) dX12_some_40 (by decide) ?_
            exact go_eq rfl (lv' := [(0, .ref mb)]) (rj_lk rfl) rfl rfl (ih (sp_cat (-3) R (F (R.2.1 + 1))) r62 ((show r62 1 = sp_ems (sp_ems s a R.2.2) a (F (R.2.1 + 1)).2.2 from q62_1).trans (by unfold sp_cat; simp [hx, sp_ems_app, sp_ems_1])) (show r62 4 0 = a from q62_4) (show r62 5 0 = (F (R.2.1 + 1)).2.1 from q62_5) (show r62 6 0 = e from q62_6) (((show r62 7 0 = 1 from q62_7)).trans (rj_bt (by unfold sp_cat; simp [hx])).symm) (show r62 8 0 = o from q62_8) ao62 (by obtain ⟨u1, u2, u3⟩ := sp_lp_G pT hG (show (0 : Int) ≤ 124 by omega) pp.1 1 R hGR; rw [sp_lp, if_pos ⟨by simpa using c_8, c_17⟩, sp_lp] at u1 u2 u3; exact ⟨u1, u2, u3⟩) (by show e < (F (R.2.1 + 1)).2.1 + (f : Int); omega) (by rw [hT9, sp_lp, if_pos ⟨by simpa using c_8, c_17⟩]))
  exact loop 121 (F p) r1 (show r1 1 = sp_ems s a (F p).2.2 from q1_1) (show r1 4 0 = a from q1_4) (show r1 5 0 = (F p).2.1 from q1_5) (show r1 6 0 = e from q1_6) (show r1 7 0 = rj_b ((F p).1 = false) from q1_7) (show r1 8 0 = o from q1_8) ao1 (hG p pp.1 pp.2) (by obtain ⟨u1, u2, u3⟩ := hG p pp.1 pp.2; omega) hFT
set_option maxRecDepth 20000 in
/-- m_factor_0 -/
theorem m_factor_0 {X9 : rj_X} {σ : rj_H} {d : Nat} {mb : Nat} {r : rm_R} {s T : Int → Int} {e a p o : Int} (hs : r 1 = s) (ha : r 4 0 = a) (hp : r 5 0 = p) (he : r 6 0 = e) (ho : r 8 0 = o) (hP : sp_P T e a p s) (h7 : r 7 0 = 0) (hd : 6 ≤ d) (ho5 : o = 5) : rj_Cl X9 d yX12_factor cX12_factor 5 none [.ref mb] (rm_p X9 mb r σ) (fun w9 τ => w9 = none ∧ ∃ r0, rm_e r r0 (sp_ems s a (sp_fac T e 0 p).2.2) ((sp_fac T e 0 p).2.1) (rj_b ((sp_fac T e 0 p).1 = false)) ∧ τ = rm_p X9 mb r0 σ) := by
  obtain ⟨pa, pp, pe, pT, pt, pc0, pc1⟩ := id hP
  have ph := sp_hr_b pT pp.1
  refine go_call (by decide +kernel) (Nat.le_of_ble_eq_true rfl) ?_
  refine go_eq (pc' := 0) (lv' := [(0, .ref mb)]) (st' := []) rfl rfl rfl rfl ?_
  refine go_aload_n dX12_factor_0 rfl 0 rfl ?_
  refine grm_g7 rfl dX12_factor_1 ?_
  rw [show r 7 0 = 0 from h7]
  refine go_if_eqI (tgt := 8) (by omega) dX12_factor_4 (by decide) (fun c_4 => ?_) (fun c_4 => ?_)
  · refine go_aload_n dX12_factor_8 rfl 0 rfl ?_
    refine go_callV (d1 := d - 1) wVX12_74 kX12 rm_ob rfl (by omega) (m_here (T := T) (a := a) (hs := (show r 1 = s from hs)) (hp := (show r 5 0 = p from hp)) (he := (show r 6 0 = e from he)) hP) rfl (Nat.le_of_ble_eq_true rfl) dX12_factor_9 (fun w σ1 hP9 => ?_)
    obtain ⟨rfl, rfl⟩ := hP9
    refine go_istore_nS (lv' := [(0, .ref mb), (1, rj_i (sp_hr T e p))]) rfl (by decide) rfl dX12_factor_12 ?_
    refine go_iload_n dX12_factor_13 rfl 1 rfl ?_
    refine go_bipush (v := Int32.ofInt 33) dX12_factor_14 (by decide) ?_
    refine go_icmp_eqI (tgt := 25) (by omega) (by omega) dX12_factor_16 (by decide) (fun c_16 => ?_) (fun c_16 => ?_)
    · refine go_aload_n dX12_factor_25 rfl 0 rfl ?_
      refine go_aload_n dX12_factor_26 rfl 0 rfl ?_
      refine grm_g8 rfl dX12_factor_27 ?_
      rw [show r 8 0 = o from ho]
      refine go_iconst (v := Int32.ofInt 5) dX12_factor_30 rfl ?_
      refine go_icmp_neI (tgt := 38) (by omega) (by omega) dX12_factor_31 (by decide) (fun c_31 => ?_) (fun c_31 => ?_)
      · exact absurd c_31 (by omega)
      · refine go_iconst (v := Int32.ofInt 1) dX12_factor_34 rfl ?_
        refine go_goto (tgt := 39) dX12_factor_35 (by decide) ?_
        refine grm_w7 rfl (by omega) dX12_factor_39 ?_
        refine go_aload_n dX12_factor_42 rfl 0 rfl ?_
        refine go_dup dX12_factor_43 rfl ?_
        refine grm_g8 rfl dX12_factor_44 ?_
        rw [show (rm_u r 7 (fun _ => 1)) 8 0 = o from ho]
        refine go_iconst (v := Int32.ofInt 1) dX12_factor_47 rfl ?_
        refine go_addI dX12_factor_48 ?_
        refine grm_w8 rfl dX12_factor_49 ?_
        refine go_aload_n dX12_factor_52 rfl 0 rfl ?_
        refine go_dup dX12_factor_53 rfl ?_
        refine grm_g5 rfl dX12_factor_54 ?_
        rw [show (rm_u (rm_u r 7 (fun _ => 1)) 8 (fun _ => o + 1)) 5 0 = p from hp]
        refine go_aload_n dX12_factor_57 rfl 0 rfl ?_
        refine grm_g7 rfl dX12_factor_58 ?_
        rw [show (rm_u (rm_u r 7 (fun _ => 1)) 8 (fun _ => o + 1)) 7 0 = 1 from rfl]
        refine go_if_eqI (tgt := 68) (by omega) dX12_factor_61 (by decide) (fun c_61 => ?_) (fun c_61 => ?_)
        · exact absurd c_61 (by omega)
        · refine go_iconst (v := Int32.ofInt 0) dX12_factor_64 rfl ?_
          refine go_goto (tgt := 69) dX12_factor_65 (by decide) ?_
          refine go_addI dX12_factor_69 ?_
          refine grm_w5 rfl dX12_factor_70 ?_
          refine go_iload_n dX12_factor_73 rfl 1 rfl ?_
          refine go_bipush (v := Int32.ofInt 33) dX12_factor_74 (by decide) ?_
          refine go_icmp_neI (tgt := 91) (by omega) (by omega) dX12_factor_76 (by decide) (fun c_76 => ?_) (fun c_76 => ?_)
          · exact absurd c_76 (by omega)
          · refine go_aload_n dX12_factor_79 rfl 0 rfl ?_
            refine go_callV (d1 := d - 1) wVX12_97 kX12 rm_ob rfl (by omega) (m_factor_w (T := T) (hs := (show (rm_u (rm_u (rm_u r 7 (fun _ => 1)) 8 (fun _ => o + 1)) 5 (fun _ => p + 0)) 1 = s from hs)) (ha := (show (rm_u (rm_u (rm_u r 7 (fun _ => 1)) 8 (fun _ => o + 1)) 5 (fun _ => p + 0)) 4 0 = a from ha)) (hp := (show (rm_u (rm_u (rm_u r 7 (fun _ => 1)) 8 (fun _ => o + 1)) 5 (fun _ => p + 0)) 5 0 = p + 0 from rfl)) (he := (show (rm_u (rm_u (rm_u r 7 (fun _ => 1)) 8 (fun _ => o + 1)) 5 (fun _ => p + 0)) 6 0 = e from he)) (ho := (show (rm_u (rm_u (rm_u r 7 (fun _ => 1)) 8 (fun _ => o + 1)) 5 (fun _ => p + 0)) 8 0 = o + 1 from rfl)) (hP.up (p' := p + 0) (by omega) (by omega)) (show (rm_u (rm_u (rm_u r 7 (fun _ => 1)) 8 (fun _ => o + 1)) 5 (fun _ => p + 0)) 7 0 = 1 from rfl)) rfl (Nat.le_of_ble_eq_true rfl) dX12_factor_80 (fun w σ1 hP9 => ?_)
            obtain ⟨rfl, r1, ⟨q1_1, q1_5, q1_7, qo1, qa1⟩, rfl⟩ := hP9
            have q1_4 : r1 4 0 = a := (congrFun (qa1 4 (by decide) (by decide) (by decide) (by decide)) 0).trans (show (rm_u (rm_u (rm_u r 7 (fun _ => 1)) 8 (fun _ => o + 1)) 5 (fun _ => p + 0)) 4 0 = a from ha)
            have q1_6 : r1 6 0 = e := (congrFun (qa1 6 (by decide) (by decide) (by decide) (by decide)) 0).trans (show (rm_u (rm_u (rm_u r 7 (fun _ => 1)) 8 (fun _ => o + 1)) 5 (fun _ => p + 0)) 6 0 = e from he)
            have q1_8 : r1 8 0 = o + 1 := qo1.trans (show (rm_u (rm_u (rm_u r 7 (fun _ => 1)) 8 (fun _ => o + 1)) 5 (fun _ => p + 0)) 8 0 = o + 1 from rfl)
            have ao1 : ∀ j : Nat, j ≠ 1 → j ≠ 5 → j ≠ 7 → j ≠ 8 → r1 j = r j := fun j b1 b2 b3 b4 => (qa1 j b1 b2 b3 b4).trans ((fun j b1 b2 b3 b4 => (rm_u_ne _ _ b2).trans ((fun j b1 b2 b3 b4 => (rm_u_ne _ _ b4).trans ((fun j b1 b2 b3 b4 => (rm_u_ne _ _ b3).trans ((fun j _ _ _ _ => rfl) j b1 b2 b3 b4)) j b1 b2 b3 b4)) j b1 b2 b3 b4)) j b1 b2 b3 b4)
            refine go_aload_n dX12_factor_83 rfl 0 rfl ?_
            refine go_iconst (v := Int32.ofInt (-1)) dX12_factor_84 rfl ?_
            refine go_callV (d1 := d - 1) wVX12_100 kX12 rm_ob rfl (by omega) (m_emits_w (T := T) (x := (-1)) (hs := (show r1 1 = s from q1_1)) (ha := (show r1 4 0 = a from q1_4)) (hp := (show r1 5 0 = p + 0 from q1_5)) (he := (show r1 6 0 = e from q1_6)) (ho := (show r1 8 0 = o + 1 from q1_8)) (hP.up (p' := p + 0) (by omega) (by omega)) (show r1 7 0 = 1 from q1_7)) rfl (Nat.le_of_ble_eq_true rfl) dX12_factor_85 (fun w σ1 hP9 => ?_)
            obtain ⟨rfl, r2, ⟨q2_1, q2_5, q2_7, qo2, qa2⟩, rfl⟩ := hP9
            have q2_4 : r2 4 0 = a := (congrFun (qa2 4 (by decide) (by decide) (by decide) (by decide)) 0).trans (show r1 4 0 = a from q1_4)
            have q2_6 : r2 6 0 = e := (congrFun (qa2 6 (by decide) (by decide) (by decide) (by decide)) 0).trans (show r1 6 0 = e from q1_6)
            have q2_8 : r2 8 0 = o + 1 := qo2.trans (show r1 8 0 = o + 1 from q1_8)
            have ao2 : ∀ j : Nat, j ≠ 1 → j ≠ 5 → j ≠ 7 → j ≠ 8 → r2 j = r j := fun j b1 b2 b3 b4 => (qa2 j b1 b2 b3 b4).trans (ao1 j b1 b2 b3 b4)
            refine go_goto (tgt := 101) dX12_factor_88 (by decide) ?_
            refine go_aload_n dX12_factor_101 rfl 0 rfl ?_
            refine go_dup dX12_factor_102 rfl ?_
            refine grm_g8 rfl dX12_factor_103 ?_
            rw [show r2 8 0 = o + 1 from q2_8]
            refine go_iconst (v := Int32.ofInt 1) dX12_factor_106 rfl ?_
            refine go_subI dX12_factor_107 ?_
            refine grm_w8 rfl dX12_factor_108 ?_
            have hFT : sp_fac T e (0) p = (false, p, []) := by rw [sp_fac_0, if_pos (by omega)]
            refine go_retV rfl ?_ dX12_factor_111
            exact ⟨rfl, (rm_u r2 8 (fun _ => (o + 1) - 1)), ⟨((show (rm_u r2 8 (fun _ => (o + 1) - 1)) 1 = s from q2_1)).trans (by rw [hFT]; rfl), ((show (rm_u r2 8 (fun _ => (o + 1) - 1)) 5 0 = p + 0 from q2_5)).trans (by rw [hFT]; exact Int.add_zero p), ((show (rm_u r2 8 (fun _ => (o + 1) - 1)) 7 0 = 1 from q2_7)).trans (by rw [hFT]; rfl), ((show (rm_u r2 8 (fun _ => (o + 1) - 1)) 8 0 = o from ((show (rm_u r2 8 (fun _ => (o + 1) - 1)) 8 0 = (o + 1) - 1 from rfl)).trans (by omega))).trans ho.symm, (fun j b1 b2 b3 b4 => (rm_u_ne _ _ b4).trans (ao2 j b1 b2 b3 b4))⟩, rfl⟩
    · refine go_iload_n dX12_factor_19 rfl 1 rfl ?_
      refine go_bipush (v := Int32.ofInt 40) dX12_factor_20 (by decide) ?_
      refine go_icmp_neI (tgt := 112) (by omega) (by omega) dX12_factor_22 (by decide) (fun c_22 => ?_) (fun c_22 => ?_)
      · have a5 := sp_am_b 5 (sp_hr T e p) (by decide)
        have a6 := sp_am_b 6 (sp_hr T e (p + 1)) (by decide)
        have l5 : rj_sl 5 = 5 := by decide
        have l6 : rj_sl 6 = 3 := by decide
        refine go_aload_n dX12_factor_112 rfl 0 rfl ?_
        refine go_ldcS (i := 5) (tx := "mpqdh") (by decide +kernel) dX12_factor_113 ?_
        rw [show X9.2.2.2.2.2.1 5 = rj_sk X9 5 from rfl]
        refine go_callV (d1 := d - 1) wVX12_108 kX12 rm_ob rfl (by omega) (m_among (T := T) (i := 5) (by omega) (by decide) (hs := (show r 1 = s from hs)) (ha := (show r 4 0 = a from ha)) (hp := (show r 5 0 = p from hp)) (he := (show r 6 0 = e from he)) (ho := (show r 8 0 = o from ho)) hP (show r 7 0 = 0 from h7)) rfl (Nat.le_of_ble_eq_true rfl) dX12_factor_115 (fun w σ1 hP9 => ?_)
        obtain ⟨rfl, r1, ⟨q1_1, q1_5, q1_7, qo1, qa1⟩, rfl⟩ := hP9
        have q1_4 : r1 4 0 = a := (congrFun (qa1 4 (by decide) (by decide) (by decide) (by decide)) 0).trans (show r 4 0 = a from ha)
        have q1_6 : r1 6 0 = e := (congrFun (qa1 6 (by decide) (by decide) (by decide) (by decide)) 0).trans (show r 6 0 = e from he)
        have q1_8 : r1 8 0 = o := qo1.trans (show r 8 0 = o from ho)
        have ao1 : ∀ j : Nat, j ≠ 1 → j ≠ 5 → j ≠ 7 → j ≠ 8 → r1 j = r j := fun j b1 b2 b3 b4 => (qa1 j b1 b2 b3 b4).trans ((fun j _ _ _ _ => rfl) j b1 b2 b3 b4)
        refine go_istore_nS (lv' := [(0, .ref mb), (1, rj_i (sp_hr T e p)), (2, rj_i (sp_am 5 (sp_hr T e p)))]) rfl (by decide) rfl dX12_factor_118 ?_
        by_cases hw1 : sp_am 5 (sp_hr T e p) = -1
        · refine go_aload_n dX12_factor_119 rfl 0 rfl ?_
          refine go_iload_n dX12_factor_120 rfl 2 rfl ?_
          refine go_iconst (v := Int32.ofInt (-1)) dX12_factor_121 rfl ?_
          refine go_icmp_neI (tgt := 129) (by omega) (by omega) dX12_factor_122 (by decide) (fun c_122 => ?_) (fun c_122 => ?_)
          · exact absurd hw1 c_122
          · refine go_iconst (v := Int32.ofInt 1) dX12_factor_125 rfl ?_
            refine go_goto (tgt := 130) dX12_factor_126 (by decide) ?_
            refine grm_w7 rfl (by omega) dX12_factor_130 ?_
            refine go_aload_n dX12_factor_133 rfl 0 rfl ?_
            refine grm_g7 rfl dX12_factor_134 ?_
            rw [show (rm_u r1 7 (fun _ => 1)) 7 0 = 1 from rfl]
            refine go_if_eqI (tgt := 144) (by omega) dX12_factor_137 (by decide) (fun c_137 => ?_) (fun c_137 => ?_)
            · exact absurd c_137 (by omega)
            · refine go_iconst (v := Int32.ofInt 0) dX12_factor_140 rfl ?_
              refine go_goto (tgt := 150) dX12_factor_141 (by decide) ?_
              refine go_istore_nS (lv' := [(0, .ref mb), (1, rj_i (sp_hr T e p)), (2, rj_i (sp_am 5 (sp_hr T e p))), (3, rj_i 0)]) rfl (by decide) rfl dX12_factor_150 ?_
              refine go_aload_n dX12_factor_151 rfl 0 rfl ?_
              refine go_aload_n dX12_factor_152 rfl 0 rfl ?_
              refine grm_g7 rfl dX12_factor_153 ?_
              rw [show (rm_u r1 7 (fun _ => 1)) 7 0 = 1 from rfl]
              refine go_if_neI (tgt := 164) (by omega) dX12_factor_156 (by decide) (fun c_156 => ?_) (fun c_156 => ?_)
              · refine go_iconst (v := Int32.ofInt 1) dX12_factor_164 rfl ?_
                refine go_goto (tgt := 169) dX12_factor_165 (by decide) ?_
                refine grm_w7 rfl (by omega) dX12_factor_169 ?_
                refine go_aload_n dX12_factor_172 rfl 0 rfl ?_
                refine go_callV (d1 := d - 1) wVX12_114 kX12 rm_ob rfl (by omega) (m_figures_w (T := T) (by omega) (hs := (show (rm_u (rm_u r1 7 (fun _ => 1)) 7 (fun _ => 1)) 1 = s from q1_1)) (ha := (show (rm_u (rm_u r1 7 (fun _ => 1)) 7 (fun _ => 1)) 4 0 = a from q1_4)) (hp := (show (rm_u (rm_u r1 7 (fun _ => 1)) 7 (fun _ => 1)) 5 0 = p from ((show r1 5 0 = (if sp_am 5 (sp_hr T e p) = -1 then p else p + 1) from q1_5)).trans (if_pos hw1))) (he := (show (rm_u (rm_u r1 7 (fun _ => 1)) 7 (fun _ => 1)) 6 0 = e from q1_6)) (ho := (show (rm_u (rm_u r1 7 (fun _ => 1)) 7 (fun _ => 1)) 8 0 = o from q1_8)) (hP.up (p' := p) (by omega) (by omega)) (show (rm_u (rm_u r1 7 (fun _ => 1)) 7 (fun _ => 1)) 7 0 = 1 from rfl)) rfl (Nat.le_of_ble_eq_true rfl) dX12_factor_173 (fun w σ1 hP9 => ?_)
                obtain ⟨rfl, r2, ⟨q2_1, q2_5, q2_7, qo2, qa2⟩, rfl⟩ := hP9
                have q2_4 : r2 4 0 = a := (congrFun (qa2 4 (by decide) (by decide) (by decide) (by decide)) 0).trans (show (rm_u (rm_u r1 7 (fun _ => 1)) 7 (fun _ => 1)) 4 0 = a from q1_4)
                have q2_6 : r2 6 0 = e := (congrFun (qa2 6 (by decide) (by decide) (by decide) (by decide)) 0).trans (show (rm_u (rm_u r1 7 (fun _ => 1)) 7 (fun _ => 1)) 6 0 = e from q1_6)
                have q2_8 : r2 8 0 = o := qo2.trans (show (rm_u (rm_u r1 7 (fun _ => 1)) 7 (fun _ => 1)) 8 0 = o from q1_8)
                have ao2 : ∀ j : Nat, j ≠ 1 → j ≠ 5 → j ≠ 7 → j ≠ 8 → r2 j = r j := fun j b1 b2 b3 b4 => (qa2 j b1 b2 b3 b4).trans ((fun j b1 b2 b3 b4 => (rm_u_ne _ _ b3).trans ((fun j b1 b2 b3 b4 => (rm_u_ne _ _ b3).trans (ao1 j b1 b2 b3 b4)) j b1 b2 b3 b4)) j b1 b2 b3 b4)
                refine go_istoreS (lv' := [(0, .ref mb), (1, rj_i (sp_hr T e p)), (2, rj_i (sp_am 5 (sp_hr T e p))), (3, rj_i 0), (4, rj_i 0)]) (by decide) rfl dX12_factor_176 ?_
                refine go_aload_n dX12_factor_178 rfl 0 rfl ?_
                refine go_iload_n dX12_factor_179 rfl 2 rfl ?_
                refine go_bipush (v := Int32.ofInt 8) dX12_factor_180 (by decide) ?_
                refine go_iload_n dX12_factor_182 rfl 3 rfl ?_
                refine go_mulI dX12_factor_183 ?_
                refine go_addI dX12_factor_184 ?_
                refine go_bipush (v := Int32.ofInt 32) dX12_factor_185 (by decide) ?_
                refine go_iload dX12_factor_187 4 rfl ?_
                refine go_mulI dX12_factor_189 ?_
                refine go_addI dX12_factor_190 ?_
                refine go_callV (d1 := d - 1) wVX12_100 kX12 rm_ob rfl (by omega) (m_emits_w (T := T) (x := ((sp_am 5 (sp_hr T e p)) + (8 * 0)) + (32 * 0)) (hs := (show r2 1 = s from q2_1)) (ha := (show r2 4 0 = a from q2_4)) (hp := (show r2 5 0 = p from q2_5)) (he := (show r2 6 0 = e from q2_6)) (ho := (show r2 8 0 = o from q2_8)) (hP.up (p' := p) (by omega) (by omega)) (show r2 7 0 = 1 from q2_7)) rfl (Nat.le_of_ble_eq_true rfl) dX12_factor_191 (fun w σ1 hP9 => ?_)
                obtain ⟨rfl, r3, ⟨q3_1, q3_5, q3_7, qo3, qa3⟩, rfl⟩ := hP9
                have q3_4 : r3 4 0 = a := (congrFun (qa3 4 (by decide) (by decide) (by decide) (by decide)) 0).trans (show r2 4 0 = a from q2_4)
                have q3_6 : r3 6 0 = e := (congrFun (qa3 6 (by decide) (by decide) (by decide) (by decide)) 0).trans (show r2 6 0 = e from q2_6)
                have q3_8 : r3 8 0 = o := qo3.trans (show r2 8 0 = o from q2_8)
                have ao3 : ∀ j : Nat, j ≠ 1 → j ≠ 5 → j ≠ 7 → j ≠ 8 → r3 j = r j := fun j b1 b2 b3 b4 => (qa3 j b1 b2 b3 b4).trans (ao2 j b1 b2 b3 b4)
                have hFT : sp_fac T e (0) p = (false, p, []) := by rw [sp_fac_0, if_neg (by omega), sp_tt1, if_pos hw1]
                refine go_retV rfl ?_ dX12_factor_194
                exact ⟨rfl, r3, ⟨((show r3 1 = s from q3_1)).trans (by rw [hFT]; rfl), ((show r3 5 0 = p from q3_5)).trans (by rw [hFT]), ((show r3 7 0 = 1 from q3_7)).trans (by rw [hFT]; rfl), ((show r3 8 0 = o from q3_8)).trans ho.symm, ao3⟩, rfl⟩
              · exact absurd c_156 (by omega)
        · have p1e : p + 1 ≤ e := by have := a5.2.2 hw1; omega
          have ph1 := sp_hr_b (p := p + 1) pT (by omega)
          refine go_aload_n dX12_factor_119 rfl 0 rfl ?_
          refine go_iload_n dX12_factor_120 rfl 2 rfl ?_
          refine go_iconst (v := Int32.ofInt (-1)) dX12_factor_121 rfl ?_
          refine go_icmp_neI (tgt := 129) (by omega) (by omega) dX12_factor_122 (by decide) (fun c_122 => ?_) (fun c_122 => ?_)
          · refine go_iconst (v := Int32.ofInt 0) dX12_factor_129 rfl ?_
            refine grm_w7 rfl (by omega) dX12_factor_130 ?_
            refine go_aload_n dX12_factor_133 rfl 0 rfl ?_
            refine grm_g7 rfl dX12_factor_134 ?_
            rw [show (rm_u r1 7 (fun _ => 0)) 7 0 = 0 from rfl]
            refine go_if_eqI (tgt := 144) (by omega) dX12_factor_137 (by decide) (fun c_137 => ?_) (fun c_137 => ?_)
            · refine go_aload_n dX12_factor_144 rfl 0 rfl ?_
              refine go_ldcS (i := 6) (tx := "<=>") (by decide +kernel) dX12_factor_145 ?_
              rw [show X9.2.2.2.2.2.1 6 = rj_sk X9 6 from rfl]
              refine go_callV (d1 := d - 1) wVX12_108 kX12 rm_ob rfl (by omega) (m_among (T := T) (i := 6) (by omega) (by decide) (hs := (show (rm_u r1 7 (fun _ => 0)) 1 = s from q1_1)) (ha := (show (rm_u r1 7 (fun _ => 0)) 4 0 = a from q1_4)) (hp := (show (rm_u r1 7 (fun _ => 0)) 5 0 = p + 1 from ((show r1 5 0 = (if sp_am 5 (sp_hr T e p) = -1 then p else p + 1) from q1_5)).trans (if_neg hw1))) (he := (show (rm_u r1 7 (fun _ => 0)) 6 0 = e from q1_6)) (ho := (show (rm_u r1 7 (fun _ => 0)) 8 0 = o from q1_8)) (hP.up (p' := p + 1) (by omega) (by omega)) (show (rm_u r1 7 (fun _ => 0)) 7 0 = 0 from rfl)) rfl (Nat.le_of_ble_eq_true rfl) dX12_factor_147 (fun w σ1 hP9 => ?_)
              obtain ⟨rfl, r2, ⟨q2_1, q2_5, q2_7, qo2, qa2⟩, rfl⟩ := hP9
              have q2_4 : r2 4 0 = a := (congrFun (qa2 4 (by decide) (by decide) (by decide) (by decide)) 0).trans (show (rm_u r1 7 (fun _ => 0)) 4 0 = a from q1_4)
              have q2_6 : r2 6 0 = e := (congrFun (qa2 6 (by decide) (by decide) (by decide) (by decide)) 0).trans (show (rm_u r1 7 (fun _ => 0)) 6 0 = e from q1_6)
              have q2_8 : r2 8 0 = o := qo2.trans (show (rm_u r1 7 (fun _ => 0)) 8 0 = o from q1_8)
              have ao2 : ∀ j : Nat, j ≠ 1 → j ≠ 5 → j ≠ 7 → j ≠ 8 → r2 j = r j := fun j b1 b2 b3 b4 => (qa2 j b1 b2 b3 b4).trans ((fun j b1 b2 b3 b4 => (rm_u_ne _ _ b3).trans (ao1 j b1 b2 b3 b4)) j b1 b2 b3 b4)
              refine go_istore_nS (lv' := [(0, .ref mb), (1, rj_i (sp_hr T e p)), (2, rj_i (sp_am 5 (sp_hr T e p))), (3, rj_i (sp_am 6 (sp_hr T e (p + 1))))]) rfl (by decide) rfl dX12_factor_150 ?_
              by_cases hw2 : sp_am 6 (sp_hr T e (p + 1)) = -1
              · refine go_aload_n dX12_factor_151 rfl 0 rfl ?_
                refine go_aload_n dX12_factor_152 rfl 0 rfl ?_
                refine grm_g7 rfl dX12_factor_153 ?_
                rw [show r2 7 0 = 0 from q2_7]
                refine go_if_neI (tgt := 164) (by omega) dX12_factor_156 (by decide) (fun c_156 => ?_) (fun c_156 => ?_)
                · exact absurd c_156 (by omega)
                · refine go_iload_n dX12_factor_159 rfl 3 rfl ?_
                  refine go_iconst (v := Int32.ofInt (-1)) dX12_factor_160 rfl ?_
                  refine go_icmp_neI (tgt := 168) (by omega) (by omega) dX12_factor_161 (by decide) (fun c_161 => ?_) (fun c_161 => ?_)
                  · exact absurd hw2 c_161
                  · refine go_iconst (v := Int32.ofInt 1) dX12_factor_164 rfl ?_
                    refine go_goto (tgt := 169) dX12_factor_165 (by decide) ?_
                    refine grm_w7 rfl (by omega) dX12_factor_169 ?_
                    refine go_aload_n dX12_factor_172 rfl 0 rfl ?_
                    refine go_callV (d1 := d - 1) wVX12_114 kX12 rm_ob rfl (by omega) (m_figures_w (T := T) (by omega) (hs := (show (rm_u r2 7 (fun _ => 1)) 1 = s from q2_1)) (ha := (show (rm_u r2 7 (fun _ => 1)) 4 0 = a from q2_4)) (hp := (show (rm_u r2 7 (fun _ => 1)) 5 0 = p + 1 from ((show r2 5 0 = (if sp_am 6 (sp_hr T e (p + 1)) = -1 then (p + 1) else (p + 1) + 1) from q2_5)).trans (if_pos hw2))) (he := (show (rm_u r2 7 (fun _ => 1)) 6 0 = e from q2_6)) (ho := (show (rm_u r2 7 (fun _ => 1)) 8 0 = o from q2_8)) (hP.up (p' := p + 1) (by omega) (by omega)) (show (rm_u r2 7 (fun _ => 1)) 7 0 = 1 from rfl)) rfl (Nat.le_of_ble_eq_true rfl) dX12_factor_173 (fun w σ1 hP9 => ?_)
                    obtain ⟨rfl, r3, ⟨q3_1, q3_5, q3_7, qo3, qa3⟩, rfl⟩ := hP9
                    have q3_4 : r3 4 0 = a := (congrFun (qa3 4 (by decide) (by decide) (by decide) (by decide)) 0).trans (show (rm_u r2 7 (fun _ => 1)) 4 0 = a from q2_4)
                    have q3_6 : r3 6 0 = e := (congrFun (qa3 6 (by decide) (by decide) (by decide) (by decide)) 0).trans (show (rm_u r2 7 (fun _ => 1)) 6 0 = e from q2_6)
                    have q3_8 : r3 8 0 = o := qo3.trans (show (rm_u r2 7 (fun _ => 1)) 8 0 = o from q2_8)
                    have ao3 : ∀ j : Nat, j ≠ 1 → j ≠ 5 → j ≠ 7 → j ≠ 8 → r3 j = r j := fun j b1 b2 b3 b4 => (qa3 j b1 b2 b3 b4).trans ((fun j b1 b2 b3 b4 => (rm_u_ne _ _ b3).trans (ao2 j b1 b2 b3 b4)) j b1 b2 b3 b4)
                    refine go_istoreS (lv' := [(0, .ref mb), (1, rj_i (sp_hr T e p)), (2, rj_i (sp_am 5 (sp_hr T e p))), (3, rj_i (sp_am 6 (sp_hr T e (p + 1)))), (4, rj_i 0)]) (by decide) rfl dX12_factor_176 ?_
                    refine go_aload_n dX12_factor_178 rfl 0 rfl ?_
                    refine go_iload_n dX12_factor_179 rfl 2 rfl ?_
                    refine go_bipush (v := Int32.ofInt 8) dX12_factor_180 (by decide) ?_
                    refine go_iload_n dX12_factor_182 rfl 3 rfl ?_
                    refine go_mulI dX12_factor_183 ?_
                    refine go_addI dX12_factor_184 ?_
                    refine go_bipush (v := Int32.ofInt 32) dX12_factor_185 (by decide) ?_
                    refine go_iload dX12_factor_187 4 rfl ?_
                    refine go_mulI dX12_factor_189 ?_
                    refine go_addI dX12_factor_190 ?_
                    refine go_callV (d1 := d - 1) wVX12_100 kX12 rm_ob rfl (by omega) (m_emits_w (T := T) (x := ((sp_am 5 (sp_hr T e p)) + (8 * (sp_am 6 (sp_hr T e (p + 1))))) + (32 * 0)) (hs := (show r3 1 = s from q3_1)) (ha := (show r3 4 0 = a from q3_4)) (hp := (show r3 5 0 = p + 1 from q3_5)) (he := (show r3 6 0 = e from q3_6)) (ho := (show r3 8 0 = o from q3_8)) (hP.up (p' := p + 1) (by omega) (by omega)) (show r3 7 0 = 1 from q3_7)) rfl (Nat.le_of_ble_eq_true rfl) dX12_factor_191 (fun w σ1 hP9 => ?_)
                    obtain ⟨rfl, r4, ⟨q4_1, q4_5, q4_7, qo4, qa4⟩, rfl⟩ := hP9
                    have q4_4 : r4 4 0 = a := (congrFun (qa4 4 (by decide) (by decide) (by decide) (by decide)) 0).trans (show r3 4 0 = a from q3_4)
                    have q4_6 : r4 6 0 = e := (congrFun (qa4 6 (by decide) (by decide) (by decide) (by decide)) 0).trans (show r3 6 0 = e from q3_6)
                    have q4_8 : r4 8 0 = o := qo4.trans (show r3 8 0 = o from q3_8)
                    have ao4 : ∀ j : Nat, j ≠ 1 → j ≠ 5 → j ≠ 7 → j ≠ 8 → r4 j = r j := fun j b1 b2 b3 b4 => (qa4 j b1 b2 b3 b4).trans (ao3 j b1 b2 b3 b4)
                    have hFT : sp_fac T e (0) p = (false, p + 1, []) := by rw [sp_fac_0, if_neg (by omega), sp_tt1, if_neg hw1, if_pos hw2]
                    refine go_retV rfl ?_ dX12_factor_194
                    exact ⟨rfl, r4, ⟨((show r4 1 = s from q4_1)).trans (by rw [hFT]; rfl), ((show r4 5 0 = p + 1 from q4_5)).trans (by rw [hFT]), ((show r4 7 0 = 1 from q4_7)).trans (by rw [hFT]; rfl), ((show r4 8 0 = o from q4_8)).trans ho.symm, ao4⟩, rfl⟩
              · have p2e : p + 2 ≤ e := by have := a6.2.2 hw2; omega
                refine go_aload_n dX12_factor_151 rfl 0 rfl ?_
                refine go_aload_n dX12_factor_152 rfl 0 rfl ?_
                refine grm_g7 rfl dX12_factor_153 ?_
                rw [show r2 7 0 = 0 from q2_7]
                refine go_if_neI (tgt := 164) (by omega) dX12_factor_156 (by decide) (fun c_156 => ?_) (fun c_156 => ?_)
                · exact absurd c_156 (by omega)
                · refine go_iload_n dX12_factor_159 rfl 3 rfl ?_
                  refine go_iconst (v := Int32.ofInt (-1)) dX12_factor_160 rfl ?_
                  refine go_icmp_neI (tgt := 168) (by omega) (by omega) dX12_factor_161 (by decide) (fun c_161 => ?_) (fun c_161 => ?_)
                  · refine go_iconst (v := Int32.ofInt 0) dX12_factor_168 rfl ?_
                    refine grm_w7 rfl (by omega) dX12_factor_169 ?_
                    refine go_aload_n dX12_factor_172 rfl 0 rfl ?_
                    refine go_callV (d1 := d - 1) wVX12_114 kX12 rm_ob rfl (by omega) (m_figures (T := T) (by omega) (hs := (show (rm_u r2 7 (fun _ => 0)) 1 = s from q2_1)) (ha := (show (rm_u r2 7 (fun _ => 0)) 4 0 = a from q2_4)) (hp := (show (rm_u r2 7 (fun _ => 0)) 5 0 = p + 2 from ((show r2 5 0 = (if sp_am 6 (sp_hr T e (p + 1)) = -1 then (p + 1) else (p + 1) + 1) from q2_5)).trans ((if_neg hw2).trans (by omega)))) (he := (show (rm_u r2 7 (fun _ => 0)) 6 0 = e from q2_6)) (ho := (show (rm_u r2 7 (fun _ => 0)) 8 0 = o from q2_8)) (hP.up (p' := p + 2) (by omega) (by omega)) (show (rm_u r2 7 (fun _ => 0)) 7 0 = 0 from rfl)) rfl (Nat.le_of_ble_eq_true rfl) dX12_factor_173 (fun w σ1 hP9 => ?_)
                    obtain ⟨rfl, r3, ⟨q3_1, q3_5, q3_7, qo3, qa3⟩, rfl⟩ := hP9
                    have q3_4 : r3 4 0 = a := (congrFun (qa3 4 (by decide) (by decide) (by decide) (by decide)) 0).trans (show (rm_u r2 7 (fun _ => 0)) 4 0 = a from q2_4)
                    have q3_6 : r3 6 0 = e := (congrFun (qa3 6 (by decide) (by decide) (by decide) (by decide)) 0).trans (show (rm_u r2 7 (fun _ => 0)) 6 0 = e from q2_6)
                    have q3_8 : r3 8 0 = o := qo3.trans (show (rm_u r2 7 (fun _ => 0)) 8 0 = o from q2_8)
                    have ao3 : ∀ j : Nat, j ≠ 1 → j ≠ 5 → j ≠ 7 → j ≠ 8 → r3 j = r j := fun j b1 b2 b3 b4 => (qa3 j b1 b2 b3 b4).trans ((fun j b1 b2 b3 b4 => (rm_u_ne _ _ b3).trans (ao2 j b1 b2 b3 b4)) j b1 b2 b3 b4)
                    refine go_istoreS (lv' := [(0, .ref mb), (1, rj_i (sp_hr T e p)), (2, rj_i (sp_am 5 (sp_hr T e p))), (3, rj_i (sp_am 6 (sp_hr T e (p + 1)))), (4, rj_i ((sp_num T e (p + 2)).2.2))]) (by decide) rfl dX12_factor_176 ?_
                    refine go_aload_n dX12_factor_178 rfl 0 rfl ?_
                    refine go_iload_n dX12_factor_179 rfl 2 rfl ?_
                    refine go_bipush (v := Int32.ofInt 8) dX12_factor_180 (by decide) ?_
                    refine go_iload_n dX12_factor_182 rfl 3 rfl ?_
                    refine go_mulI dX12_factor_183 ?_
                    refine go_addI dX12_factor_184 ?_
                    refine go_bipush (v := Int32.ofInt 32) dX12_factor_185 (by decide) ?_
                    refine go_iload dX12_factor_187 4 rfl ?_
                    refine go_mulI dX12_factor_189 ?_
                    refine go_addI dX12_factor_190 ?_
                    have nb := sp_num_b (p := p + 2) pT (by omega)
                    by_cases hn : (sp_num T e (p + 2)).1 = true
                    · refine go_callV (d1 := d - 1) wVX12_100 kX12 rm_ob rfl (by omega) (m_emits (T := T) (x := ((sp_am 5 (sp_hr T e p)) + (8 * (sp_am 6 (sp_hr T e (p + 1))))) + (32 * ((sp_num T e (p + 2)).2.2))) (hs := (show r3 1 = s from q3_1)) (ha := (show r3 4 0 = a from q3_4)) (hp := (show r3 5 0 = (sp_num T e (p + 2)).2.1 from q3_5)) (he := (show r3 6 0 = e from q3_6)) (ho := (show r3 8 0 = o from q3_8)) (hP.up (p' := (sp_num T e (p + 2)).2.1) (by omega) (by omega)) (show r3 7 0 = 0 from ((show r3 7 0 = rj_b ((sp_num T e (p + 2)).1 = false) from q3_7)).trans (rj_bf (by simp [hn])))) rfl (Nat.le_of_ble_eq_true rfl) dX12_factor_191 (fun w σ1 hP9 => ?_)
                      obtain ⟨rfl, r4, ⟨q4_1, q4_5, q4_7, qo4, qa4⟩, rfl⟩ := hP9
                      have q4_4 : r4 4 0 = a := (congrFun (qa4 4 (by decide) (by decide) (by decide) (by decide)) 0).trans (show r3 4 0 = a from q3_4)
                      have q4_6 : r4 6 0 = e := (congrFun (qa4 6 (by decide) (by decide) (by decide) (by decide)) 0).trans (show r3 6 0 = e from q3_6)
                      have q4_8 : r4 8 0 = o := qo4.trans (show r3 8 0 = o from q3_8)
                      have ao4 : ∀ j : Nat, j ≠ 1 → j ≠ 5 → j ≠ 7 → j ≠ 8 → r4 j = r j := fun j b1 b2 b3 b4 => (qa4 j b1 b2 b3 b4).trans (ao3 j b1 b2 b3 b4)
                      have hFT : sp_fac T e (0) p = (true, (sp_num T e (p + 2)).2.1, [sp_am 5 (sp_hr T e p) + 8 * sp_am 6 (sp_hr T e (p + 1)) + 32 * (sp_num T e (p + 2)).2.2]) := by rw [sp_fac_0, if_neg (by omega), sp_tt1, if_neg hw1, if_neg hw2, if_pos hn]
                      refine go_retV rfl ?_ dX12_factor_194
                      exact ⟨rfl, r4, ⟨((show r4 1 = sp_em1 a s (((sp_am 5 (sp_hr T e p)) + (8 * (sp_am 6 (sp_hr T e (p + 1))))) + (32 * ((sp_num T e (p + 2)).2.2))) from q4_1)).trans (by rw [hFT]; rfl), ((show r4 5 0 = (sp_num T e (p + 2)).2.1 from q4_5)).trans (by rw [hFT]), ((show r4 7 0 = 0 from q4_7)).trans (by rw [hFT]; rfl), ((show r4 8 0 = o from q4_8)).trans ho.symm, ao4⟩, rfl⟩
                    · refine go_callV (d1 := d - 1) wVX12_100 kX12 rm_ob rfl (by omega) (m_emits_w (T := T) (x := ((sp_am 5 (sp_hr T e p)) + (8 * (sp_am 6 (sp_hr T e (p + 1))))) + (32 * ((sp_num T e (p + 2)).2.2))) (hs := (show r3 1 = s from q3_1)) (ha := (show r3 4 0 = a from q3_4)) (hp := (show r3 5 0 = (sp_num T e (p + 2)).2.1 from q3_5)) (he := (show r3 6 0 = e from q3_6)) (ho := (show r3 8 0 = o from q3_8)) (hP.up (p' := (sp_num T e (p + 2)).2.1) (by omega) (by omega)) (show r3 7 0 = 1 from ((show r3 7 0 = rj_b ((sp_num T e (p + 2)).1 = false) from q3_7)).trans (rj_bt (by simpa using hn)))) rfl (Nat.le_of_ble_eq_true rfl) dX12_factor_191 (fun w σ1 hP9 => ?_)
                      obtain ⟨rfl, r4, ⟨q4_1, q4_5, q4_7, qo4, qa4⟩, rfl⟩ := hP9
                      have q4_4 : r4 4 0 = a := (congrFun (qa4 4 (by decide) (by decide) (by decide) (by decide)) 0).trans (show r3 4 0 = a from q3_4)
                      have q4_6 : r4 6 0 = e := (congrFun (qa4 6 (by decide) (by decide) (by decide) (by decide)) 0).trans (show r3 6 0 = e from q3_6)
                      have q4_8 : r4 8 0 = o := qo4.trans (show r3 8 0 = o from q3_8)
                      have ao4 : ∀ j : Nat, j ≠ 1 → j ≠ 5 → j ≠ 7 → j ≠ 8 → r4 j = r j := fun j b1 b2 b3 b4 => (qa4 j b1 b2 b3 b4).trans (ao3 j b1 b2 b3 b4)
                      have hFT : sp_fac T e (0) p = (false, (sp_num T e (p + 2)).2.1, []) := by rw [sp_fac_0, if_neg (by omega), sp_tt1, if_neg hw1, if_neg hw2, if_neg hn]
                      refine go_retV rfl ?_ dX12_factor_194
                      exact ⟨rfl, r4, ⟨((show r4 1 = s from q4_1)).trans (by rw [hFT]; rfl), ((show r4 5 0 = (sp_num T e (p + 2)).2.1 from q4_5)).trans (by rw [hFT]), ((show r4 7 0 = 1 from q4_7)).trans (by rw [hFT]; rfl), ((show r4 8 0 = o from q4_8)).trans ho.symm, ao4⟩, rfl⟩
                  · exact absurd c_161 hw2
            · exact absurd c_137 (by omega)
          · exact absurd c_122 hw1
      · refine go_aload_n dX12_factor_25 rfl 0 rfl ?_
        refine go_aload_n dX12_factor_26 rfl 0 rfl ?_
        refine grm_g8 rfl dX12_factor_27 ?_
        rw [show r 8 0 = o from ho]
        refine go_iconst (v := Int32.ofInt 5) dX12_factor_30 rfl ?_
        refine go_icmp_neI (tgt := 38) (by omega) (by omega) dX12_factor_31 (by decide) (fun c_31 => ?_) (fun c_31 => ?_)
        · exact absurd c_31 (by omega)
        · refine go_iconst (v := Int32.ofInt 1) dX12_factor_34 rfl ?_
          refine go_goto (tgt := 39) dX12_factor_35 (by decide) ?_
          refine grm_w7 rfl (by omega) dX12_factor_39 ?_
          refine go_aload_n dX12_factor_42 rfl 0 rfl ?_
          refine go_dup dX12_factor_43 rfl ?_
          refine grm_g8 rfl dX12_factor_44 ?_
          rw [show (rm_u r 7 (fun _ => 1)) 8 0 = o from ho]
          refine go_iconst (v := Int32.ofInt 1) dX12_factor_47 rfl ?_
          refine go_addI dX12_factor_48 ?_
          refine grm_w8 rfl dX12_factor_49 ?_
          refine go_aload_n dX12_factor_52 rfl 0 rfl ?_
          refine go_dup dX12_factor_53 rfl ?_
          refine grm_g5 rfl dX12_factor_54 ?_
          rw [show (rm_u (rm_u r 7 (fun _ => 1)) 8 (fun _ => o + 1)) 5 0 = p from hp]
          refine go_aload_n dX12_factor_57 rfl 0 rfl ?_
          refine grm_g7 rfl dX12_factor_58 ?_
          rw [show (rm_u (rm_u r 7 (fun _ => 1)) 8 (fun _ => o + 1)) 7 0 = 1 from rfl]
          refine go_if_eqI (tgt := 68) (by omega) dX12_factor_61 (by decide) (fun c_61 => ?_) (fun c_61 => ?_)
          · exact absurd c_61 (by omega)
          · refine go_iconst (v := Int32.ofInt 0) dX12_factor_64 rfl ?_
            refine go_goto (tgt := 69) dX12_factor_65 (by decide) ?_
            refine go_addI dX12_factor_69 ?_
            refine grm_w5 rfl dX12_factor_70 ?_
            refine go_iload_n dX12_factor_73 rfl 1 rfl ?_
            refine go_bipush (v := Int32.ofInt 33) dX12_factor_74 (by decide) ?_
            refine go_icmp_neI (tgt := 91) (by omega) (by omega) dX12_factor_76 (by decide) (fun c_76 => ?_) (fun c_76 => ?_)
            · refine go_aload_n dX12_factor_91 rfl 0 rfl ?_
              refine go_callV (d1 := d - 1) wVX12_103 kX12 rm_ob rfl (by omega) (m_some_w (by omega) (T := T) (hs := (show (rm_u (rm_u (rm_u r 7 (fun _ => 1)) 8 (fun _ => o + 1)) 5 (fun _ => p + 0)) 1 = s from hs)) (ha := (show (rm_u (rm_u (rm_u r 7 (fun _ => 1)) 8 (fun _ => o + 1)) 5 (fun _ => p + 0)) 4 0 = a from ha)) (hp := (show (rm_u (rm_u (rm_u r 7 (fun _ => 1)) 8 (fun _ => o + 1)) 5 (fun _ => p + 0)) 5 0 = p + 0 from rfl)) (he := (show (rm_u (rm_u (rm_u r 7 (fun _ => 1)) 8 (fun _ => o + 1)) 5 (fun _ => p + 0)) 6 0 = e from he)) (ho := (show (rm_u (rm_u (rm_u r 7 (fun _ => 1)) 8 (fun _ => o + 1)) 5 (fun _ => p + 0)) 8 0 = o + 1 from rfl)) (hP.up (p' := p + 0) (by omega) (by omega)) (show (rm_u (rm_u (rm_u r 7 (fun _ => 1)) 8 (fun _ => o + 1)) 5 (fun _ => p + 0)) 7 0 = 1 from rfl)) rfl (Nat.le_of_ble_eq_true rfl) dX12_factor_92 (fun w σ1 hP9 => ?_)
              obtain ⟨rfl, r1, ⟨q1_1, q1_5, q1_7, qo1, qa1⟩, rfl⟩ := hP9
              have q1_4 : r1 4 0 = a := (congrFun (qa1 4 (by decide) (by decide) (by decide) (by decide)) 0).trans (show (rm_u (rm_u (rm_u r 7 (fun _ => 1)) 8 (fun _ => o + 1)) 5 (fun _ => p + 0)) 4 0 = a from ha)
              have q1_6 : r1 6 0 = e := (congrFun (qa1 6 (by decide) (by decide) (by decide) (by decide)) 0).trans (show (rm_u (rm_u (rm_u r 7 (fun _ => 1)) 8 (fun _ => o + 1)) 5 (fun _ => p + 0)) 6 0 = e from he)
              have q1_8 : r1 8 0 = o + 1 := qo1.trans (show (rm_u (rm_u (rm_u r 7 (fun _ => 1)) 8 (fun _ => o + 1)) 5 (fun _ => p + 0)) 8 0 = o + 1 from rfl)
              have ao1 : ∀ j : Nat, j ≠ 1 → j ≠ 5 → j ≠ 7 → j ≠ 8 → r1 j = r j := fun j b1 b2 b3 b4 => (qa1 j b1 b2 b3 b4).trans ((fun j b1 b2 b3 b4 => (rm_u_ne _ _ b2).trans ((fun j b1 b2 b3 b4 => (rm_u_ne _ _ b4).trans ((fun j b1 b2 b3 b4 => (rm_u_ne _ _ b3).trans ((fun j _ _ _ _ => rfl) j b1 b2 b3 b4)) j b1 b2 b3 b4)) j b1 b2 b3 b4)) j b1 b2 b3 b4)
              refine go_aload_n dX12_factor_95 rfl 0 rfl ?_
              refine go_bipush (v := Int32.ofInt 41) dX12_factor_96 (by decide) ?_
              refine go_callV (d1 := d - 1) wVX12_87 kX12 rm_ob rfl (by omega) (m_must_w (T := T) (c := 41) (by omega) (hs := (show r1 1 = s from q1_1)) (ha := (show r1 4 0 = a from q1_4)) (hp := (show r1 5 0 = p + 0 from q1_5)) (he := (show r1 6 0 = e from q1_6)) (ho := (show r1 8 0 = o + 1 from q1_8)) (hP.up (p' := p + 0) (by omega) (by omega)) (show r1 7 0 = 1 from q1_7)) rfl (Nat.le_of_ble_eq_true rfl) dX12_factor_98 (fun w σ1 hP9 => ?_)
              obtain ⟨rfl, r2, ⟨q2_1, q2_5, q2_7, qo2, qa2⟩, rfl⟩ := hP9
              have q2_4 : r2 4 0 = a := (congrFun (qa2 4 (by decide) (by decide) (by decide) (by decide)) 0).trans (show r1 4 0 = a from q1_4)
              have q2_6 : r2 6 0 = e := (congrFun (qa2 6 (by decide) (by decide) (by decide) (by decide)) 0).trans (show r1 6 0 = e from q1_6)
              have q2_8 : r2 8 0 = o + 1 := qo2.trans (show r1 8 0 = o + 1 from q1_8)
              have ao2 : ∀ j : Nat, j ≠ 1 → j ≠ 5 → j ≠ 7 → j ≠ 8 → r2 j = r j := fun j b1 b2 b3 b4 => (qa2 j b1 b2 b3 b4).trans (ao1 j b1 b2 b3 b4)
              refine go_aload_n dX12_factor_101 rfl 0 rfl ?_
              refine go_dup dX12_factor_102 rfl ?_
              refine grm_g8 rfl dX12_factor_103 ?_
              rw [show r2 8 0 = o + 1 from q2_8]
              refine go_iconst (v := Int32.ofInt 1) dX12_factor_106 rfl ?_
              refine go_subI dX12_factor_107 ?_
              refine grm_w8 rfl dX12_factor_108 ?_
              have hFT : sp_fac T e (0) p = (false, p, []) := by rw [sp_fac_0, if_pos (by omega)]
              refine go_retV rfl ?_ dX12_factor_111
              exact ⟨rfl, (rm_u r2 8 (fun _ => (o + 1) - 1)), ⟨((show (rm_u r2 8 (fun _ => (o + 1) - 1)) 1 = s from q2_1)).trans (by rw [hFT]; rfl), ((show (rm_u r2 8 (fun _ => (o + 1) - 1)) 5 0 = p + 0 from q2_5)).trans (by rw [hFT]; exact Int.add_zero p), ((show (rm_u r2 8 (fun _ => (o + 1) - 1)) 7 0 = 1 from q2_7)).trans (by rw [hFT]; rfl), ((show (rm_u r2 8 (fun _ => (o + 1) - 1)) 8 0 = o from ((show (rm_u r2 8 (fun _ => (o + 1) - 1)) 8 0 = (o + 1) - 1 from rfl)).trans (by omega))).trans ho.symm, (fun j b1 b2 b3 b4 => (rm_u_ne _ _ b4).trans (ao2 j b1 b2 b3 b4))⟩, rfl⟩
            · exact absurd c_76 (by omega)
  · exact absurd c_4 (by omega)
set_option maxRecDepth 20000 in
/-- m_factor_s -/
theorem m_factor_s {X9 : rj_X} {σ : rj_H} {d : Nat} {mb : Nat} {r : rm_R} {n : Nat} {s T : Int → Int} {e a p o : Int} (hs : r 1 = s) (ha : r 4 0 = a) (hp : r 5 0 = p) (he : r 6 0 = e) (ho : r 8 0 = o) (hP : sp_P T e a p s) (h7 : r 7 0 = 0) (hd : 6 ≤ d) (ho5 : o < 5 ∧ 0 ≤ o) (hF : pc_Ct X9 mb σ T e a (d - 1) yX12_factor cX12_factor 5 (o + 1) (sp_fac T e n)) (hS : pc_Ct X9 mb σ T e a (d - 1) yX12_some cX12_some 1 (o + 1) (sp_som T e (sp_fac T e n))) : rj_Cl X9 d yX12_factor cX12_factor 5 none [.ref mb] (rm_p X9 mb r σ) (fun w9 τ => w9 = none ∧ ∃ r0, rm_e r r0 (sp_ems s a (sp_fac T e (n + 1) p).2.2) ((sp_fac T e (n + 1) p).2.1) (rj_b ((sp_fac T e (n + 1) p).1 = false)) ∧ τ = rm_p X9 mb r0 σ) := by
  obtain ⟨pa, pp, pe, pT, pt, pc0, pc1⟩ := id hP
  have ph := sp_hr_b pT pp.1
  refine go_call (by decide +kernel) (Nat.le_of_ble_eq_true rfl) ?_
  refine go_eq (pc' := 0) (lv' := [(0, .ref mb)]) (st' := []) rfl rfl rfl rfl ?_
  refine go_aload_n dX12_factor_0 rfl 0 rfl ?_
  refine grm_g7 rfl dX12_factor_1 ?_
  rw [show r 7 0 = 0 from h7]
  refine go_if_eqI (tgt := 8) (by omega) dX12_factor_4 (by decide) (fun c_4 => ?_) (fun c_4 => ?_)
  · refine go_aload_n dX12_factor_8 rfl 0 rfl ?_
    refine go_callV (d1 := d - 1) wVX12_74 kX12 rm_ob rfl (by omega) (m_here (T := T) (a := a) (hs := (show r 1 = s from hs)) (hp := (show r 5 0 = p from hp)) (he := (show r 6 0 = e from he)) hP) rfl (Nat.le_of_ble_eq_true rfl) dX12_factor_9 (fun w σ1 hP9 => ?_)
    obtain ⟨rfl, rfl⟩ := hP9
    refine go_istore_nS (lv' := [(0, .ref mb), (1, rj_i (sp_hr T e p))]) rfl (by decide) rfl dX12_factor_12 ?_
    refine go_iload_n dX12_factor_13 rfl 1 rfl ?_
    refine go_bipush (v := Int32.ofInt 33) dX12_factor_14 (by decide) ?_
    refine go_icmp_eqI (tgt := 25) (by omega) (by omega) dX12_factor_16 (by decide) (fun c_16 => ?_) (fun c_16 => ?_)
    · refine go_aload_n dX12_factor_25 rfl 0 rfl ?_
      refine go_aload_n dX12_factor_26 rfl 0 rfl ?_
      refine grm_g8 rfl dX12_factor_27 ?_
      rw [show r 8 0 = o from ho]
      refine go_iconst (v := Int32.ofInt 5) dX12_factor_30 rfl ?_
      refine go_icmp_neI (tgt := 38) (by omega) (by omega) dX12_factor_31 (by decide) (fun c_31 => ?_) (fun c_31 => ?_)
      · refine go_iconst (v := Int32.ofInt 0) dX12_factor_38 rfl ?_
        refine grm_w7 rfl (by omega) dX12_factor_39 ?_
        refine go_aload_n dX12_factor_42 rfl 0 rfl ?_
        refine go_dup dX12_factor_43 rfl ?_
        refine grm_g8 rfl dX12_factor_44 ?_
        rw [show (rm_u r 7 (fun _ => 0)) 8 0 = o from ho]
        refine go_iconst (v := Int32.ofInt 1) dX12_factor_47 rfl ?_
        refine go_addI dX12_factor_48 ?_
        refine grm_w8 rfl dX12_factor_49 ?_
        refine go_aload_n dX12_factor_52 rfl 0 rfl ?_
        refine go_dup dX12_factor_53 rfl ?_
        refine grm_g5 rfl dX12_factor_54 ?_
        rw [show (rm_u (rm_u r 7 (fun _ => 0)) 8 (fun _ => o + 1)) 5 0 = p from hp]
        refine go_aload_n dX12_factor_57 rfl 0 rfl ?_
        refine grm_g7 rfl dX12_factor_58 ?_
        rw [show (rm_u (rm_u r 7 (fun _ => 0)) 8 (fun _ => o + 1)) 7 0 = 0 from rfl]
        refine go_if_eqI (tgt := 68) (by omega) dX12_factor_61 (by decide) (fun c_61 => ?_) (fun c_61 => ?_)
        · refine go_iconst (v := Int32.ofInt 1) dX12_factor_68 rfl ?_
          refine go_addI dX12_factor_69 ?_
          refine grm_w5 rfl dX12_factor_70 ?_
          refine go_iload_n dX12_factor_73 rfl 1 rfl ?_
          refine go_bipush (v := Int32.ofInt 33) dX12_factor_74 (by decide) ?_
          refine go_icmp_neI (tgt := 91) (by omega) (by omega) dX12_factor_76 (by decide) (fun c_76 => ?_) (fun c_76 => ?_)
          · exact absurd c_76 (by omega)
          · refine go_aload_n dX12_factor_79 rfl 0 rfl ?_
            refine go_callV (d1 := d - 1) wVX12_97 kX12 rm_ob rfl (by omega) (hF _ _ _ (show (rm_u (rm_u (rm_u r 7 (fun _ => 0)) 8 (fun _ => o + 1)) 5 (fun _ => p + 1)) 1 = s from hs) (show (rm_u (rm_u (rm_u r 7 (fun _ => 0)) 8 (fun _ => o + 1)) 5 (fun _ => p + 1)) 4 0 = a from ha) (show (rm_u (rm_u (rm_u r 7 (fun _ => 0)) 8 (fun _ => o + 1)) 5 (fun _ => p + 1)) 5 0 = p + 1 from rfl) (show (rm_u (rm_u (rm_u r 7 (fun _ => 0)) 8 (fun _ => o + 1)) 5 (fun _ => p + 1)) 6 0 = e from he) (show (rm_u (rm_u (rm_u r 7 (fun _ => 0)) 8 (fun _ => o + 1)) 5 (fun _ => p + 1)) 8 0 = o + 1 from rfl) (hP.up (p' := p + 1) (by omega) (by omega)) (show (rm_u (rm_u (rm_u r 7 (fun _ => 0)) 8 (fun _ => o + 1)) 5 (fun _ => p + 1)) 7 0 = 0 from rfl)) rfl (Nat.le_of_ble_eq_true rfl) dX12_factor_80 (fun w σ1 hP9 => ?_)
            obtain ⟨rfl, r1, ⟨q1_1, q1_5, q1_7, qo1, qa1⟩, rfl⟩ := hP9
            have q1_4 : r1 4 0 = a := (congrFun (qa1 4 (by decide) (by decide) (by decide) (by decide)) 0).trans (show (rm_u (rm_u (rm_u r 7 (fun _ => 0)) 8 (fun _ => o + 1)) 5 (fun _ => p + 1)) 4 0 = a from ha)
            have q1_6 : r1 6 0 = e := (congrFun (qa1 6 (by decide) (by decide) (by decide) (by decide)) 0).trans (show (rm_u (rm_u (rm_u r 7 (fun _ => 0)) 8 (fun _ => o + 1)) 5 (fun _ => p + 1)) 6 0 = e from he)
            have q1_8 : r1 8 0 = o + 1 := qo1.trans (show (rm_u (rm_u (rm_u r 7 (fun _ => 0)) 8 (fun _ => o + 1)) 5 (fun _ => p + 1)) 8 0 = o + 1 from rfl)
            have ao1 : ∀ j : Nat, j ≠ 1 → j ≠ 5 → j ≠ 7 → j ≠ 8 → r1 j = r j := fun j b1 b2 b3 b4 => (qa1 j b1 b2 b3 b4).trans ((fun j b1 b2 b3 b4 => (rm_u_ne _ _ b2).trans ((fun j b1 b2 b3 b4 => (rm_u_ne _ _ b4).trans ((fun j b1 b2 b3 b4 => (rm_u_ne _ _ b3).trans ((fun j _ _ _ _ => rfl) j b1 b2 b3 b4)) j b1 b2 b3 b4)) j b1 b2 b3 b4)) j b1 b2 b3 b4)
            obtain ⟨g1_1, g1_2, g1_3⟩ := (sp_fac_G pT n) (p + 1) (by omega) (by omega)
            refine go_aload_n dX12_factor_83 rfl 0 rfl ?_
            refine go_iconst (v := Int32.ofInt (-1)) dX12_factor_84 rfl ?_
            by_cases hx : (sp_fac T e n (p + 1)).1 = true
            · refine go_callV (d1 := d - 1) wVX12_100 kX12 rm_ob rfl (by omega) (m_emits (T := T) (x := (-1)) (hs := (show r1 1 = sp_ems s a (sp_fac T e n (p + 1)).2.2 from q1_1)) (ha := (show r1 4 0 = a from q1_4)) (hp := (show r1 5 0 = (sp_fac T e n (p + 1)).2.1 from q1_5)) (he := (show r1 6 0 = e from q1_6)) (ho := (show r1 8 0 = o + 1 from q1_8)) ((hP.up (p' := p + 1) (by omega) (by omega)).st (l := (sp_fac T e n (p + 1)).2.2) (p' := (sp_fac T e n (p + 1)).2.1) (by omega) (by omega)) (show r1 7 0 = 0 from ((show r1 7 0 = rj_b ((sp_fac T e n (p + 1)).1 = false) from q1_7)).trans (rj_bf (by simp [hx])))) rfl (Nat.le_of_ble_eq_true rfl) dX12_factor_85 (fun w σ1 hP9 => ?_)
              obtain ⟨rfl, r2, ⟨q2_1, q2_5, q2_7, qo2, qa2⟩, rfl⟩ := hP9
              have q2_4 : r2 4 0 = a := (congrFun (qa2 4 (by decide) (by decide) (by decide) (by decide)) 0).trans (show r1 4 0 = a from q1_4)
              have q2_6 : r2 6 0 = e := (congrFun (qa2 6 (by decide) (by decide) (by decide) (by decide)) 0).trans (show r1 6 0 = e from q1_6)
              have q2_8 : r2 8 0 = o + 1 := qo2.trans (show r1 8 0 = o + 1 from q1_8)
              have ao2 : ∀ j : Nat, j ≠ 1 → j ≠ 5 → j ≠ 7 → j ≠ 8 → r2 j = r j := fun j b1 b2 b3 b4 => (qa2 j b1 b2 b3 b4).trans (ao1 j b1 b2 b3 b4)
              refine go_goto (tgt := 101) dX12_factor_88 (by decide) ?_
              refine go_aload_n dX12_factor_101 rfl 0 rfl ?_
              refine go_dup dX12_factor_102 rfl ?_
              refine grm_g8 rfl dX12_factor_103 ?_
              rw [show r2 8 0 = o + 1 from q2_8]
              refine go_iconst (v := Int32.ofInt 1) dX12_factor_106 rfl ?_
              refine go_subI dX12_factor_107 ?_
              refine grm_w8 rfl dX12_factor_108 ?_
              have hFT : sp_fac T e (n + 1) p = sp_not (sp_fac T e n (p + 1)) := by rw [sp_fac_s, if_pos (by omega)]
              refine go_retV rfl ?_ dX12_factor_111
              exact ⟨rfl, (rm_u r2 8 (fun _ => (o + 1) - 1)), ⟨((show (rm_u r2 8 (fun _ => (o + 1) - 1)) 1 = sp_em1 a (sp_ems s a (sp_fac T e n (p + 1)).2.2) (-1) from q2_1)).trans (by rw [hFT]; unfold sp_not; simp [hx, sp_ems_app, sp_ems_1]), ((show (rm_u r2 8 (fun _ => (o + 1) - 1)) 5 0 = (sp_fac T e n (p + 1)).2.1 from q2_5)).trans (by rw [hFT]; rfl), ((show (rm_u r2 8 (fun _ => (o + 1) - 1)) 7 0 = 0 from q2_7)).trans ((rj_bf (by rw [hFT]; unfold sp_not; simp [hx])).symm), ((show (rm_u r2 8 (fun _ => (o + 1) - 1)) 8 0 = o from ((show (rm_u r2 8 (fun _ => (o + 1) - 1)) 8 0 = (o + 1) - 1 from rfl)).trans (by omega))).trans ho.symm, (fun j b1 b2 b3 b4 => (rm_u_ne _ _ b4).trans (ao2 j b1 b2 b3 b4))⟩, rfl⟩
            · refine go_callV (d1 := d - 1) wVX12_100 kX12 rm_ob rfl (by omega) (m_emits_w (T := T) (x := (-1)) (hs := (show r1 1 = sp_ems s a (sp_fac T e n (p + 1)).2.2 from q1_1)) (ha := (show r1 4 0 = a from q1_4)) (hp := (show r1 5 0 = (sp_fac T e n (p + 1)).2.1 from q1_5)) (he := (show r1 6 0 = e from q1_6)) (ho := (show r1 8 0 = o + 1 from q1_8)) ((hP.up (p' := p + 1) (by omega) (by omega)).st (l := (sp_fac T e n (p + 1)).2.2) (p' := (sp_fac T e n (p + 1)).2.1) (by omega) (by omega)) (show r1 7 0 = 1 from ((show r1 7 0 = rj_b ((sp_fac T e n (p + 1)).1 = false) from q1_7)).trans (rj_bt (by simpa using hx)))) rfl (Nat.le_of_ble_eq_true rfl) dX12_factor_85 (fun w σ1 hP9 => ?_)
              obtain ⟨rfl, r2, ⟨q2_1, q2_5, q2_7, qo2, qa2⟩, rfl⟩ := hP9
              have q2_4 : r2 4 0 = a := (congrFun (qa2 4 (by decide) (by decide) (by decide) (by decide)) 0).trans (show r1 4 0 = a from q1_4)
              have q2_6 : r2 6 0 = e := (congrFun (qa2 6 (by decide) (by decide) (by decide) (by decide)) 0).trans (show r1 6 0 = e from q1_6)
              have q2_8 : r2 8 0 = o + 1 := qo2.trans (show r1 8 0 = o + 1 from q1_8)
              have ao2 : ∀ j : Nat, j ≠ 1 → j ≠ 5 → j ≠ 7 → j ≠ 8 → r2 j = r j := fun j b1 b2 b3 b4 => (qa2 j b1 b2 b3 b4).trans (ao1 j b1 b2 b3 b4)
              refine go_goto (tgt := 101) dX12_factor_88 (by decide) ?_
              refine go_aload_n dX12_factor_101 rfl 0 rfl ?_
              refine go_dup dX12_factor_102 rfl ?_
              refine grm_g8 rfl dX12_factor_103 ?_
              rw [show r2 8 0 = o + 1 from q2_8]
              refine go_iconst (v := Int32.ofInt 1) dX12_factor_106 rfl ?_
              refine go_subI dX12_factor_107 ?_
              refine grm_w8 rfl dX12_factor_108 ?_
              have hFT : sp_fac T e (n + 1) p = sp_not (sp_fac T e n (p + 1)) := by rw [sp_fac_s, if_pos (by omega)]
              refine go_retV rfl ?_ dX12_factor_111
              exact ⟨rfl, (rm_u r2 8 (fun _ => (o + 1) - 1)), ⟨((show (rm_u r2 8 (fun _ => (o + 1) - 1)) 1 = sp_ems s a (sp_fac T e n (p + 1)).2.2 from q2_1)).trans (by rw [hFT]; unfold sp_not; simp [hx, sp_ems_app, sp_ems_1]), ((show (rm_u r2 8 (fun _ => (o + 1) - 1)) 5 0 = (sp_fac T e n (p + 1)).2.1 from q2_5)).trans (by rw [hFT]; rfl), ((show (rm_u r2 8 (fun _ => (o + 1) - 1)) 7 0 = 1 from q2_7)).trans ((rj_bt (by rw [hFT]; unfold sp_not; simp [hx])).symm), ((show (rm_u r2 8 (fun _ => (o + 1) - 1)) 8 0 = o from ((show (rm_u r2 8 (fun _ => (o + 1) - 1)) 8 0 = (o + 1) - 1 from rfl)).trans (by omega))).trans ho.symm, (fun j b1 b2 b3 b4 => (rm_u_ne _ _ b4).trans (ao2 j b1 b2 b3 b4))⟩, rfl⟩
        · exact absurd c_61 (by omega)
      · exact absurd c_31 (by omega)
    · refine go_iload_n dX12_factor_19 rfl 1 rfl ?_
      refine go_bipush (v := Int32.ofInt 40) dX12_factor_20 (by decide) ?_
      refine go_icmp_neI (tgt := 112) (by omega) (by omega) dX12_factor_22 (by decide) (fun c_22 => ?_) (fun c_22 => ?_)
      · have a5 := sp_am_b 5 (sp_hr T e p) (by decide)
        have a6 := sp_am_b 6 (sp_hr T e (p + 1)) (by decide)
        have l5 : rj_sl 5 = 5 := by decide
        have l6 : rj_sl 6 = 3 := by decide
        refine go_aload_n dX12_factor_112 rfl 0 rfl ?_
        refine go_ldcS (i := 5) (tx := "mpqdh") (by decide +kernel) dX12_factor_113 ?_
        rw [show X9.2.2.2.2.2.1 5 = rj_sk X9 5 from rfl]
        refine go_callV (d1 := d - 1) wVX12_108 kX12 rm_ob rfl (by omega) (m_among (T := T) (i := 5) (by omega) (by decide) (hs := (show r 1 = s from hs)) (ha := (show r 4 0 = a from ha)) (hp := (show r 5 0 = p from hp)) (he := (show r 6 0 = e from he)) (ho := (show r 8 0 = o from ho)) hP (show r 7 0 = 0 from h7)) rfl (Nat.le_of_ble_eq_true rfl) dX12_factor_115 (fun w σ1 hP9 => ?_)
        obtain ⟨rfl, r1, ⟨q1_1, q1_5, q1_7, qo1, qa1⟩, rfl⟩ := hP9
        have q1_4 : r1 4 0 = a := (congrFun (qa1 4 (by decide) (by decide) (by decide) (by decide)) 0).trans (show r 4 0 = a from ha)
        have q1_6 : r1 6 0 = e := (congrFun (qa1 6 (by decide) (by decide) (by decide) (by decide)) 0).trans (show r 6 0 = e from he)
        have q1_8 : r1 8 0 = o := qo1.trans (show r 8 0 = o from ho)
        have ao1 : ∀ j : Nat, j ≠ 1 → j ≠ 5 → j ≠ 7 → j ≠ 8 → r1 j = r j := fun j b1 b2 b3 b4 => (qa1 j b1 b2 b3 b4).trans ((fun j _ _ _ _ => rfl) j b1 b2 b3 b4)
        refine go_istore_nS (lv' := [(0, .ref mb), (1, rj_i (sp_hr T e p)), (2, rj_i (sp_am 5 (sp_hr T e p)))]) rfl (by decide) rfl dX12_factor_118 ?_
        by_cases hw1 : sp_am 5 (sp_hr T e p) = -1
        · refine go_aload_n dX12_factor_119 rfl 0 rfl ?_
          refine go_iload_n dX12_factor_120 rfl 2 rfl ?_
          refine go_iconst (v := Int32.ofInt (-1)) dX12_factor_121 rfl ?_
          refine go_icmp_neI (tgt := 129) (by omega) (by omega) dX12_factor_122 (by decide) (fun c_122 => ?_) (fun c_122 => ?_)
          · exact absurd hw1 c_122
          · refine go_iconst (v := Int32.ofInt 1) dX12_factor_125 rfl ?_
            refine go_goto (tgt := 130) dX12_factor_126 (by decide) ?_
            refine grm_w7 rfl (by omega) dX12_factor_130 ?_
            refine go_aload_n dX12_factor_133 rfl 0 rfl ?_
            refine grm_g7 rfl dX12_factor_134 ?_
            rw [show (rm_u r1 7 (fun _ => 1)) 7 0 = 1 from rfl]
            refine go_if_eqI (tgt := 144) (by omega) dX12_factor_137 (by decide) (fun c_137 => ?_) (fun c_137 => ?_)
            · exact absurd c_137 (by omega)
            · refine go_iconst (v := Int32.ofInt 0) dX12_factor_140 rfl ?_
              refine go_goto (tgt := 150) dX12_factor_141 (by decide) ?_
              refine go_istore_nS (lv' := [(0, .ref mb), (1, rj_i (sp_hr T e p)), (2, rj_i (sp_am 5 (sp_hr T e p))), (3, rj_i 0)]) rfl (by decide) rfl dX12_factor_150 ?_
              refine go_aload_n dX12_factor_151 rfl 0 rfl ?_
              refine go_aload_n dX12_factor_152 rfl 0 rfl ?_
              refine grm_g7 rfl dX12_factor_153 ?_
              rw [show (rm_u r1 7 (fun _ => 1)) 7 0 = 1 from rfl]
              refine go_if_neI (tgt := 164) (by omega) dX12_factor_156 (by decide) (fun c_156 => ?_) (fun c_156 => ?_)
              · refine go_iconst (v := Int32.ofInt 1) dX12_factor_164 rfl ?_
                refine go_goto (tgt := 169) dX12_factor_165 (by decide) ?_
                refine grm_w7 rfl (by omega) dX12_factor_169 ?_
                refine go_aload_n dX12_factor_172 rfl 0 rfl ?_
                refine go_callV (d1 := d - 1) wVX12_114 kX12 rm_ob rfl (by omega) (m_figures_w (T := T) (by omega) (hs := (show (rm_u (rm_u r1 7 (fun _ => 1)) 7 (fun _ => 1)) 1 = s from q1_1)) (ha := (show (rm_u (rm_u r1 7 (fun _ => 1)) 7 (fun _ => 1)) 4 0 = a from q1_4)) (hp := (show (rm_u (rm_u r1 7 (fun _ => 1)) 7 (fun _ => 1)) 5 0 = p from ((show r1 5 0 = (if sp_am 5 (sp_hr T e p) = -1 then p else p + 1) from q1_5)).trans (if_pos hw1))) (he := (show (rm_u (rm_u r1 7 (fun _ => 1)) 7 (fun _ => 1)) 6 0 = e from q1_6)) (ho := (show (rm_u (rm_u r1 7 (fun _ => 1)) 7 (fun _ => 1)) 8 0 = o from q1_8)) (hP.up (p' := p) (by omega) (by omega)) (show (rm_u (rm_u r1 7 (fun _ => 1)) 7 (fun _ => 1)) 7 0 = 1 from rfl)) rfl (Nat.le_of_ble_eq_true rfl) dX12_factor_173 (fun w σ1 hP9 => ?_)
                obtain ⟨rfl, r2, ⟨q2_1, q2_5, q2_7, qo2, qa2⟩, rfl⟩ := hP9
                have q2_4 : r2 4 0 = a := (congrFun (qa2 4 (by decide) (by decide) (by decide) (by decide)) 0).trans (show (rm_u (rm_u r1 7 (fun _ => 1)) 7 (fun _ => 1)) 4 0 = a from q1_4)
                have q2_6 : r2 6 0 = e := (congrFun (qa2 6 (by decide) (by decide) (by decide) (by decide)) 0).trans (show (rm_u (rm_u r1 7 (fun _ => 1)) 7 (fun _ => 1)) 6 0 = e from q1_6)
                have q2_8 : r2 8 0 = o := qo2.trans (show (rm_u (rm_u r1 7 (fun _ => 1)) 7 (fun _ => 1)) 8 0 = o from q1_8)
                have ao2 : ∀ j : Nat, j ≠ 1 → j ≠ 5 → j ≠ 7 → j ≠ 8 → r2 j = r j := fun j b1 b2 b3 b4 => (qa2 j b1 b2 b3 b4).trans ((fun j b1 b2 b3 b4 => (rm_u_ne _ _ b3).trans ((fun j b1 b2 b3 b4 => (rm_u_ne _ _ b3).trans (ao1 j b1 b2 b3 b4)) j b1 b2 b3 b4)) j b1 b2 b3 b4)
                refine go_istoreS (lv' := [(0, .ref mb), (1, rj_i (sp_hr T e p)), (2, rj_i (sp_am 5 (sp_hr T e p))), (3, rj_i 0), (4, rj_i 0)]) (by decide) rfl dX12_factor_176 ?_
                refine go_aload_n dX12_factor_178 rfl 0 rfl ?_
                refine go_iload_n dX12_factor_179 rfl 2 rfl ?_
                refine go_bipush (v := Int32.ofInt 8) dX12_factor_180 (by decide) ?_
                refine go_iload_n dX12_factor_182 rfl 3 rfl ?_
                refine go_mulI dX12_factor_183 ?_
                refine go_addI dX12_factor_184 ?_
                refine go_bipush (v := Int32.ofInt 32) dX12_factor_185 (by decide) ?_
                refine go_iload dX12_factor_187 4 rfl ?_
                refine go_mulI dX12_factor_189 ?_
                refine go_addI dX12_factor_190 ?_
                refine go_callV (d1 := d - 1) wVX12_100 kX12 rm_ob rfl (by omega) (m_emits_w (T := T) (x := ((sp_am 5 (sp_hr T e p)) + (8 * 0)) + (32 * 0)) (hs := (show r2 1 = s from q2_1)) (ha := (show r2 4 0 = a from q2_4)) (hp := (show r2 5 0 = p from q2_5)) (he := (show r2 6 0 = e from q2_6)) (ho := (show r2 8 0 = o from q2_8)) (hP.up (p' := p) (by omega) (by omega)) (show r2 7 0 = 1 from q2_7)) rfl (Nat.le_of_ble_eq_true rfl) dX12_factor_191 (fun w σ1 hP9 => ?_)
                obtain ⟨rfl, r3, ⟨q3_1, q3_5, q3_7, qo3, qa3⟩, rfl⟩ := hP9
                have q3_4 : r3 4 0 = a := (congrFun (qa3 4 (by decide) (by decide) (by decide) (by decide)) 0).trans (show r2 4 0 = a from q2_4)
                have q3_6 : r3 6 0 = e := (congrFun (qa3 6 (by decide) (by decide) (by decide) (by decide)) 0).trans (show r2 6 0 = e from q2_6)
                have q3_8 : r3 8 0 = o := qo3.trans (show r2 8 0 = o from q2_8)
                have ao3 : ∀ j : Nat, j ≠ 1 → j ≠ 5 → j ≠ 7 → j ≠ 8 → r3 j = r j := fun j b1 b2 b3 b4 => (qa3 j b1 b2 b3 b4).trans (ao2 j b1 b2 b3 b4)
                have hFT : sp_fac T e (n + 1) p = (false, p, []) := by rw [sp_fac_s, if_neg (by omega), if_neg (by omega), sp_tt1, if_pos hw1]
                refine go_retV rfl ?_ dX12_factor_194
                exact ⟨rfl, r3, ⟨((show r3 1 = s from q3_1)).trans (by rw [hFT]; rfl), ((show r3 5 0 = p from q3_5)).trans (by rw [hFT]), ((show r3 7 0 = 1 from q3_7)).trans (by rw [hFT]; rfl), ((show r3 8 0 = o from q3_8)).trans ho.symm, ao3⟩, rfl⟩
              · exact absurd c_156 (by omega)
        · have p1e : p + 1 ≤ e := by have := a5.2.2 hw1; omega
          have ph1 := sp_hr_b (p := p + 1) pT (by omega)
          refine go_aload_n dX12_factor_119 rfl 0 rfl ?_
          refine go_iload_n dX12_factor_120 rfl 2 rfl ?_
          refine go_iconst (v := Int32.ofInt (-1)) dX12_factor_121 rfl ?_
          refine go_icmp_neI (tgt := 129) (by omega) (by omega) dX12_factor_122 (by decide) (fun c_122 => ?_) (fun c_122 => ?_)
          · refine go_iconst (v := Int32.ofInt 0) dX12_factor_129 rfl ?_
            refine grm_w7 rfl (by omega) dX12_factor_130 ?_
            refine go_aload_n dX12_factor_133 rfl 0 rfl ?_
            refine grm_g7 rfl dX12_factor_134 ?_
            rw [show (rm_u r1 7 (fun _ => 0)) 7 0 = 0 from rfl]
            refine go_if_eqI (tgt := 144) (by omega) dX12_factor_137 (by decide) (fun c_137 => ?_) (fun c_137 => ?_)
            · refine go_aload_n dX12_factor_144 rfl 0 rfl ?_
              refine go_ldcS (i := 6) (tx := "<=>") (by decide +kernel) dX12_factor_145 ?_
              rw [show X9.2.2.2.2.2.1 6 = rj_sk X9 6 from rfl]
              refine go_callV (d1 := d - 1) wVX12_108 kX12 rm_ob rfl (by omega) (m_among (T := T) (i := 6) (by omega) (by decide) (hs := (show (rm_u r1 7 (fun _ => 0)) 1 = s from q1_1)) (ha := (show (rm_u r1 7 (fun _ => 0)) 4 0 = a from q1_4)) (hp := (show (rm_u r1 7 (fun _ => 0)) 5 0 = p + 1 from ((show r1 5 0 = (if sp_am 5 (sp_hr T e p) = -1 then p else p + 1) from q1_5)).trans (if_neg hw1))) (he := (show (rm_u r1 7 (fun _ => 0)) 6 0 = e from q1_6)) (ho := (show (rm_u r1 7 (fun _ => 0)) 8 0 = o from q1_8)) (hP.up (p' := p + 1) (by omega) (by omega)) (show (rm_u r1 7 (fun _ => 0)) 7 0 = 0 from rfl)) rfl (Nat.le_of_ble_eq_true rfl) dX12_factor_147 (fun w σ1 hP9 => ?_)
              obtain ⟨rfl, r2, ⟨q2_1, q2_5, q2_7, qo2, qa2⟩, rfl⟩ := hP9
              have q2_4 : r2 4 0 = a := (congrFun (qa2 4 (by decide) (by decide) (by decide) (by decide)) 0).trans (show (rm_u r1 7 (fun _ => 0)) 4 0 = a from q1_4)
              have q2_6 : r2 6 0 = e := (congrFun (qa2 6 (by decide) (by decide) (by decide) (by decide)) 0).trans (show (rm_u r1 7 (fun _ => 0)) 6 0 = e from q1_6)
              have q2_8 : r2 8 0 = o := qo2.trans (show (rm_u r1 7 (fun _ => 0)) 8 0 = o from q1_8)
              have ao2 : ∀ j : Nat, j ≠ 1 → j ≠ 5 → j ≠ 7 → j ≠ 8 → r2 j = r j := fun j b1 b2 b3 b4 => (qa2 j b1 b2 b3 b4).trans ((fun j b1 b2 b3 b4 => (rm_u_ne _ _ b3).trans (ao1 j b1 b2 b3 b4)) j b1 b2 b3 b4)
              refine go_istore_nS (lv' := [(0, .ref mb), (1, rj_i (sp_hr T e p)), (2, rj_i (sp_am 5 (sp_hr T e p))), (3, rj_i (sp_am 6 (sp_hr T e (p + 1))))]) rfl (by decide) rfl dX12_factor_150 ?_
              by_cases hw2 : sp_am 6 (sp_hr T e (p + 1)) = -1
              · refine go_aload_n dX12_factor_151 rfl 0 rfl ?_
                refine go_aload_n dX12_factor_152 rfl 0 rfl ?_
                refine grm_g7 rfl dX12_factor_153 ?_
                rw [show r2 7 0 = 0 from q2_7]
                refine go_if_neI (tgt := 164) (by omega) dX12_factor_156 (by decide) (fun c_156 => ?_) (fun c_156 => ?_)
                · exact absurd c_156 (by omega)
                · refine go_iload_n dX12_factor_159 rfl 3 rfl ?_
                  refine go_iconst (v := Int32.ofInt (-1)) dX12_factor_160 rfl ?_
                  refine go_icmp_neI (tgt := 168) (by omega) (by omega) dX12_factor_161 (by decide) (fun c_161 => ?_) (fun c_161 => ?_)
                  · exact absurd hw2 c_161
                  · refine go_iconst (v := Int32.ofInt 1) dX12_factor_164 rfl ?_
                    refine go_goto (tgt := 169) dX12_factor_165 (by decide) ?_
                    refine grm_w7 rfl (by omega) dX12_factor_169 ?_
                    refine go_aload_n dX12_factor_172 rfl 0 rfl ?_
                    refine go_callV (d1 := d - 1) wVX12_114 kX12 rm_ob rfl (by omega) (m_figures_w (T := T) (by omega) (hs := (show (rm_u r2 7 (fun _ => 1)) 1 = s from q2_1)) (ha := (show (rm_u r2 7 (fun _ => 1)) 4 0 = a from q2_4)) (hp := (show (rm_u r2 7 (fun _ => 1)) 5 0 = p + 1 from ((show r2 5 0 = (if sp_am 6 (sp_hr T e (p + 1)) = -1 then (p + 1) else (p + 1) + 1) from q2_5)).trans (if_pos hw2))) (he := (show (rm_u r2 7 (fun _ => 1)) 6 0 = e from q2_6)) (ho := (show (rm_u r2 7 (fun _ => 1)) 8 0 = o from q2_8)) (hP.up (p' := p + 1) (by omega) (by omega)) (show (rm_u r2 7 (fun _ => 1)) 7 0 = 1 from rfl)) rfl (Nat.le_of_ble_eq_true rfl) dX12_factor_173 (fun w σ1 hP9 => ?_)
                    obtain ⟨rfl, r3, ⟨q3_1, q3_5, q3_7, qo3, qa3⟩, rfl⟩ := hP9
                    have q3_4 : r3 4 0 = a := (congrFun (qa3 4 (by decide) (by decide) (by decide) (by decide)) 0).trans (show (rm_u r2 7 (fun _ => 1)) 4 0 = a from q2_4)
                    have q3_6 : r3 6 0 = e := (congrFun (qa3 6 (by decide) (by decide) (by decide) (by decide)) 0).trans (show (rm_u r2 7 (fun _ => 1)) 6 0 = e from q2_6)
                    have q3_8 : r3 8 0 = o := qo3.trans (show (rm_u r2 7 (fun _ => 1)) 8 0 = o from q2_8)
                    have ao3 : ∀ j : Nat, j ≠ 1 → j ≠ 5 → j ≠ 7 → j ≠ 8 → r3 j = r j := fun j b1 b2 b3 b4 => (qa3 j b1 b2 b3 b4).trans ((fun j b1 b2 b3 b4 => (rm_u_ne _ _ b3).trans (ao2 j b1 b2 b3 b4)) j b1 b2 b3 b4)
                    refine go_istoreS (lv' := [(0, .ref mb), (1, rj_i (sp_hr T e p)), (2, rj_i (sp_am 5 (sp_hr T e p))), (3, rj_i (sp_am 6 (sp_hr T e (p + 1)))), (4, rj_i 0)]) (by decide) rfl dX12_factor_176 ?_
                    refine go_aload_n dX12_factor_178 rfl 0 rfl ?_
                    refine go_iload_n dX12_factor_179 rfl 2 rfl ?_
                    refine go_bipush (v := Int32.ofInt 8) dX12_factor_180 (by decide) ?_
                    refine go_iload_n dX12_factor_182 rfl 3 rfl ?_
                    refine go_mulI dX12_factor_183 ?_
                    refine go_addI dX12_factor_184 ?_
                    refine go_bipush (v := Int32.ofInt 32) dX12_factor_185 (by decide) ?_
                    refine go_iload dX12_factor_187 4 rfl ?_
                    refine go_mulI dX12_factor_189 ?_
                    refine go_addI dX12_factor_190 ?_
                    refine go_callV (d1 := d - 1) wVX12_100 kX12 rm_ob rfl (by omega) (m_emits_w (T := T) (x := ((sp_am 5 (sp_hr T e p)) + (8 * (sp_am 6 (sp_hr T e (p + 1))))) + (32 * 0)) (hs := (show r3 1 = s from q3_1)) (ha := (show r3 4 0 = a from q3_4)) (hp := (show r3 5 0 = p + 1 from q3_5)) (he := (show r3 6 0 = e from q3_6)) (ho := (show r3 8 0 = o from q3_8)) (hP.up (p' := p + 1) (by omega) (by omega)) (show r3 7 0 = 1 from q3_7)) rfl (Nat.le_of_ble_eq_true rfl) dX12_factor_191 (fun w σ1 hP9 => ?_)
                    obtain ⟨rfl, r4, ⟨q4_1, q4_5, q4_7, qo4, qa4⟩, rfl⟩ := hP9
                    have q4_4 : r4 4 0 = a := (congrFun (qa4 4 (by decide) (by decide) (by decide) (by decide)) 0).trans (show r3 4 0 = a from q3_4)
                    have q4_6 : r4 6 0 = e := (congrFun (qa4 6 (by decide) (by decide) (by decide) (by decide)) 0).trans (show r3 6 0 = e from q3_6)
                    have q4_8 : r4 8 0 = o := qo4.trans (show r3 8 0 = o from q3_8)
                    have ao4 : ∀ j : Nat, j ≠ 1 → j ≠ 5 → j ≠ 7 → j ≠ 8 → r4 j = r j := fun j b1 b2 b3 b4 => (qa4 j b1 b2 b3 b4).trans (ao3 j b1 b2 b3 b4)
                    have hFT : sp_fac T e (n + 1) p = (false, p + 1, []) := by rw [sp_fac_s, if_neg (by omega), if_neg (by omega), sp_tt1, if_neg hw1, if_pos hw2]
                    refine go_retV rfl ?_ dX12_factor_194
                    exact ⟨rfl, r4, ⟨((show r4 1 = s from q4_1)).trans (by rw [hFT]; rfl), ((show r4 5 0 = p + 1 from q4_5)).trans (by rw [hFT]), ((show r4 7 0 = 1 from q4_7)).trans (by rw [hFT]; rfl), ((show r4 8 0 = o from q4_8)).trans ho.symm, ao4⟩, rfl⟩
              · have p2e : p + 2 ≤ e := by have := a6.2.2 hw2; omega
                refine go_aload_n dX12_factor_151 rfl 0 rfl ?_
                refine go_aload_n dX12_factor_152 rfl 0 rfl ?_
                refine grm_g7 rfl dX12_factor_153 ?_
                rw [show r2 7 0 = 0 from q2_7]
                refine go_if_neI (tgt := 164) (by omega) dX12_factor_156 (by decide) (fun c_156 => ?_) (fun c_156 => ?_)
                · exact absurd c_156 (by omega)
                · refine go_iload_n dX12_factor_159 rfl 3 rfl ?_
                  refine go_iconst (v := Int32.ofInt (-1)) dX12_factor_160 rfl ?_
                  refine go_icmp_neI (tgt := 168) (by omega) (by omega) dX12_factor_161 (by decide) (fun c_161 => ?_) (fun c_161 => ?_)
                  · refine go_iconst (v := Int32.ofInt 0) dX12_factor_168 rfl ?_
                    refine grm_w7 rfl (by omega) dX12_factor_169 ?_
                    refine go_aload_n dX12_factor_172 rfl 0 rfl ?_
                    refine go_callV (d1 := d - 1) wVX12_114 kX12 rm_ob rfl (by omega) (m_figures (T := T) (by omega) (hs := (show (rm_u r2 7 (fun _ => 0)) 1 = s from q2_1)) (ha := (show (rm_u r2 7 (fun _ => 0)) 4 0 = a from q2_4)) (hp := (show (rm_u r2 7 (fun _ => 0)) 5 0 = p + 2 from ((show r2 5 0 = (if sp_am 6 (sp_hr T e (p + 1)) = -1 then (p + 1) else (p + 1) + 1) from q2_5)).trans ((if_neg hw2).trans (by omega)))) (he := (show (rm_u r2 7 (fun _ => 0)) 6 0 = e from q2_6)) (ho := (show (rm_u r2 7 (fun _ => 0)) 8 0 = o from q2_8)) (hP.up (p' := p + 2) (by omega) (by omega)) (show (rm_u r2 7 (fun _ => 0)) 7 0 = 0 from rfl)) rfl (Nat.le_of_ble_eq_true rfl) dX12_factor_173 (fun w σ1 hP9 => ?_)
                    obtain ⟨rfl, r3, ⟨q3_1, q3_5, q3_7, qo3, qa3⟩, rfl⟩ := hP9
                    have q3_4 : r3 4 0 = a := (congrFun (qa3 4 (by decide) (by decide) (by decide) (by decide)) 0).trans (show (rm_u r2 7 (fun _ => 0)) 4 0 = a from q2_4)
                    have q3_6 : r3 6 0 = e := (congrFun (qa3 6 (by decide) (by decide) (by decide) (by decide)) 0).trans (show (rm_u r2 7 (fun _ => 0)) 6 0 = e from q2_6)
                    have q3_8 : r3 8 0 = o := qo3.trans (show (rm_u r2 7 (fun _ => 0)) 8 0 = o from q2_8)
                    have ao3 : ∀ j : Nat, j ≠ 1 → j ≠ 5 → j ≠ 7 → j ≠ 8 → r3 j = r j := fun j b1 b2 b3 b4 => (qa3 j b1 b2 b3 b4).trans ((fun j b1 b2 b3 b4 => (rm_u_ne _ _ b3).trans (ao2 j b1 b2 b3 b4)) j b1 b2 b3 b4)
                    refine go_istoreS (lv' := [(0, .ref mb), (1, rj_i (sp_hr T e p)), (2, rj_i (sp_am 5 (sp_hr T e p))), (3, rj_i (sp_am 6 (sp_hr T e (p + 1)))), (4, rj_i ((sp_num T e (p + 2)).2.2))]) (by decide) rfl dX12_factor_176 ?_
                    refine go_aload_n dX12_factor_178 rfl 0 rfl ?_
                    refine go_iload_n dX12_factor_179 rfl 2 rfl ?_
                    refine go_bipush (v := Int32.ofInt 8) dX12_factor_180 (by decide) ?_
                    refine go_iload_n dX12_factor_182 rfl 3 rfl ?_
                    refine go_mulI dX12_factor_183 ?_
                    refine go_addI dX12_factor_184 ?_
                    refine go_bipush (v := Int32.ofInt 32) dX12_factor_185 (by decide) ?_
                    refine go_iload dX12_factor_187 4 rfl ?_
                    refine go_mulI dX12_factor_189 ?_
                    refine go_addI dX12_factor_190 ?_
                    have nb := sp_num_b (p := p + 2) pT (by omega)
                    by_cases hn : (sp_num T e (p + 2)).1 = true
                    · refine go_callV (d1 := d - 1) wVX12_100 kX12 rm_ob rfl (by omega) (m_emits (T := T) (x := ((sp_am 5 (sp_hr T e p)) + (8 * (sp_am 6 (sp_hr T e (p + 1))))) + (32 * ((sp_num T e (p + 2)).2.2))) (hs := (show r3 1 = s from q3_1)) (ha := (show r3 4 0 = a from q3_4)) (hp := (show r3 5 0 = (sp_num T e (p + 2)).2.1 from q3_5)) (he := (show r3 6 0 = e from q3_6)) (ho := (show r3 8 0 = o from q3_8)) (hP.up (p' := (sp_num T e (p + 2)).2.1) (by omega) (by omega)) (show r3 7 0 = 0 from ((show r3 7 0 = rj_b ((sp_num T e (p + 2)).1 = false) from q3_7)).trans (rj_bf (by simp [hn])))) rfl (Nat.le_of_ble_eq_true rfl) dX12_factor_191 (fun w σ1 hP9 => ?_)
                      obtain ⟨rfl, r4, ⟨q4_1, q4_5, q4_7, qo4, qa4⟩, rfl⟩ := hP9
                      have q4_4 : r4 4 0 = a := (congrFun (qa4 4 (by decide) (by decide) (by decide) (by decide)) 0).trans (show r3 4 0 = a from q3_4)
                      have q4_6 : r4 6 0 = e := (congrFun (qa4 6 (by decide) (by decide) (by decide) (by decide)) 0).trans (show r3 6 0 = e from q3_6)
                      have q4_8 : r4 8 0 = o := qo4.trans (show r3 8 0 = o from q3_8)
                      have ao4 : ∀ j : Nat, j ≠ 1 → j ≠ 5 → j ≠ 7 → j ≠ 8 → r4 j = r j := fun j b1 b2 b3 b4 => (qa4 j b1 b2 b3 b4).trans (ao3 j b1 b2 b3 b4)
                      have hFT : sp_fac T e (n + 1) p = (true, (sp_num T e (p + 2)).2.1, [sp_am 5 (sp_hr T e p) + 8 * sp_am 6 (sp_hr T e (p + 1)) + 32 * (sp_num T e (p + 2)).2.2]) := by rw [sp_fac_s, if_neg (by omega), if_neg (by omega), sp_tt1, if_neg hw1, if_neg hw2, if_pos hn]
                      refine go_retV rfl ?_ dX12_factor_194
                      exact ⟨rfl, r4, ⟨((show r4 1 = sp_em1 a s (((sp_am 5 (sp_hr T e p)) + (8 * (sp_am 6 (sp_hr T e (p + 1))))) + (32 * ((sp_num T e (p + 2)).2.2))) from q4_1)).trans (by rw [hFT]; rfl), ((show r4 5 0 = (sp_num T e (p + 2)).2.1 from q4_5)).trans (by rw [hFT]), ((show r4 7 0 = 0 from q4_7)).trans (by rw [hFT]; rfl), ((show r4 8 0 = o from q4_8)).trans ho.symm, ao4⟩, rfl⟩
                    · refine go_callV (d1 := d - 1) wVX12_100 kX12 rm_ob rfl (by omega) (m_emits_w (T := T) (x := ((sp_am 5 (sp_hr T e p)) + (8 * (sp_am 6 (sp_hr T e (p + 1))))) + (32 * ((sp_num T e (p + 2)).2.2))) (hs := (show r3 1 = s from q3_1)) (ha := (show r3 4 0 = a from q3_4)) (hp := (show r3 5 0 = (sp_num T e (p + 2)).2.1 from q3_5)) (he := (show r3 6 0 = e from q3_6)) (ho := (show r3 8 0 = o from q3_8)) (hP.up (p' := (sp_num T e (p + 2)).2.1) (by omega) (by omega)) (show r3 7 0 = 1 from ((show r3 7 0 = rj_b ((sp_num T e (p + 2)).1 = false) from q3_7)).trans (rj_bt (by simpa using hn)))) rfl (Nat.le_of_ble_eq_true rfl) dX12_factor_191 (fun w σ1 hP9 => ?_)
                      obtain ⟨rfl, r4, ⟨q4_1, q4_5, q4_7, qo4, qa4⟩, rfl⟩ := hP9
                      have q4_4 : r4 4 0 = a := (congrFun (qa4 4 (by decide) (by decide) (by decide) (by decide)) 0).trans (show r3 4 0 = a from q3_4)
                      have q4_6 : r4 6 0 = e := (congrFun (qa4 6 (by decide) (by decide) (by decide) (by decide)) 0).trans (show r3 6 0 = e from q3_6)
                      have q4_8 : r4 8 0 = o := qo4.trans (show r3 8 0 = o from q3_8)
                      have ao4 : ∀ j : Nat, j ≠ 1 → j ≠ 5 → j ≠ 7 → j ≠ 8 → r4 j = r j := fun j b1 b2 b3 b4 => (qa4 j b1 b2 b3 b4).trans (ao3 j b1 b2 b3 b4)
                      have hFT : sp_fac T e (n + 1) p = (false, (sp_num T e (p + 2)).2.1, []) := by rw [sp_fac_s, if_neg (by omega), if_neg (by omega), sp_tt1, if_neg hw1, if_neg hw2, if_neg hn]
                      refine go_retV rfl ?_ dX12_factor_194
                      exact ⟨rfl, r4, ⟨((show r4 1 = s from q4_1)).trans (by rw [hFT]; rfl), ((show r4 5 0 = (sp_num T e (p + 2)).2.1 from q4_5)).trans (by rw [hFT]), ((show r4 7 0 = 1 from q4_7)).trans (by rw [hFT]; rfl), ((show r4 8 0 = o from q4_8)).trans ho.symm, ao4⟩, rfl⟩
                  · exact absurd c_161 hw2
            · exact absurd c_137 (by omega)
          · exact absurd c_122 hw1
      · refine go_aload_n dX12_factor_25 rfl 0 rfl ?_
        refine go_aload_n dX12_factor_26 rfl 0 rfl ?_
        refine grm_g8 rfl dX12_factor_27 ?_
        rw [show r 8 0 = o from ho]
        refine go_iconst (v := Int32.ofInt 5) dX12_factor_30 rfl ?_
        refine go_icmp_neI (tgt := 38) (by omega) (by omega) dX12_factor_31 (by decide) (fun c_31 => ?_) (fun c_31 => ?_)
        · refine go_iconst (v := Int32.ofInt 0) dX12_factor_38 rfl ?_
          refine grm_w7 rfl (by omega) dX12_factor_39 ?_
          refine go_aload_n dX12_factor_42 rfl 0 rfl ?_
          refine go_dup dX12_factor_43 rfl ?_
          refine grm_g8 rfl dX12_factor_44 ?_
          rw [show (rm_u r 7 (fun _ => 0)) 8 0 = o from ho]
          refine go_iconst (v := Int32.ofInt 1) dX12_factor_47 rfl ?_
          refine go_addI dX12_factor_48 ?_
          refine grm_w8 rfl dX12_factor_49 ?_
          refine go_aload_n dX12_factor_52 rfl 0 rfl ?_
          refine go_dup dX12_factor_53 rfl ?_
          refine grm_g5 rfl dX12_factor_54 ?_
          rw [show (rm_u (rm_u r 7 (fun _ => 0)) 8 (fun _ => o + 1)) 5 0 = p from hp]
          refine go_aload_n dX12_factor_57 rfl 0 rfl ?_
          refine grm_g7 rfl dX12_factor_58 ?_
          rw [show (rm_u (rm_u r 7 (fun _ => 0)) 8 (fun _ => o + 1)) 7 0 = 0 from rfl]
          refine go_if_eqI (tgt := 68) (by omega) dX12_factor_61 (by decide) (fun c_61 => ?_) (fun c_61 => ?_)
          · refine go_iconst (v := Int32.ofInt 1) dX12_factor_68 rfl ?_
            refine go_addI dX12_factor_69 ?_
            refine grm_w5 rfl dX12_factor_70 ?_
            refine go_iload_n dX12_factor_73 rfl 1 rfl ?_
            refine go_bipush (v := Int32.ofInt 33) dX12_factor_74 (by decide) ?_
            refine go_icmp_neI (tgt := 91) (by omega) (by omega) dX12_factor_76 (by decide) (fun c_76 => ?_) (fun c_76 => ?_)
            · refine go_aload_n dX12_factor_91 rfl 0 rfl ?_
              refine go_callV (d1 := d - 1) wVX12_103 kX12 rm_ob rfl (by omega) (hS _ _ _ (show (rm_u (rm_u (rm_u r 7 (fun _ => 0)) 8 (fun _ => o + 1)) 5 (fun _ => p + 1)) 1 = s from hs) (show (rm_u (rm_u (rm_u r 7 (fun _ => 0)) 8 (fun _ => o + 1)) 5 (fun _ => p + 1)) 4 0 = a from ha) (show (rm_u (rm_u (rm_u r 7 (fun _ => 0)) 8 (fun _ => o + 1)) 5 (fun _ => p + 1)) 5 0 = p + 1 from rfl) (show (rm_u (rm_u (rm_u r 7 (fun _ => 0)) 8 (fun _ => o + 1)) 5 (fun _ => p + 1)) 6 0 = e from he) (show (rm_u (rm_u (rm_u r 7 (fun _ => 0)) 8 (fun _ => o + 1)) 5 (fun _ => p + 1)) 8 0 = o + 1 from rfl) (hP.up (p' := p + 1) (by omega) (by omega)) (show (rm_u (rm_u (rm_u r 7 (fun _ => 0)) 8 (fun _ => o + 1)) 5 (fun _ => p + 1)) 7 0 = 0 from rfl)) rfl (Nat.le_of_ble_eq_true rfl) dX12_factor_92 (fun w σ1 hP9 => ?_)
              obtain ⟨rfl, r1, ⟨q1_1, q1_5, q1_7, qo1, qa1⟩, rfl⟩ := hP9
              have q1_4 : r1 4 0 = a := (congrFun (qa1 4 (by decide) (by decide) (by decide) (by decide)) 0).trans (show (rm_u (rm_u (rm_u r 7 (fun _ => 0)) 8 (fun _ => o + 1)) 5 (fun _ => p + 1)) 4 0 = a from ha)
              have q1_6 : r1 6 0 = e := (congrFun (qa1 6 (by decide) (by decide) (by decide) (by decide)) 0).trans (show (rm_u (rm_u (rm_u r 7 (fun _ => 0)) 8 (fun _ => o + 1)) 5 (fun _ => p + 1)) 6 0 = e from he)
              have q1_8 : r1 8 0 = o + 1 := qo1.trans (show (rm_u (rm_u (rm_u r 7 (fun _ => 0)) 8 (fun _ => o + 1)) 5 (fun _ => p + 1)) 8 0 = o + 1 from rfl)
              have ao1 : ∀ j : Nat, j ≠ 1 → j ≠ 5 → j ≠ 7 → j ≠ 8 → r1 j = r j := fun j b1 b2 b3 b4 => (qa1 j b1 b2 b3 b4).trans ((fun j b1 b2 b3 b4 => (rm_u_ne _ _ b2).trans ((fun j b1 b2 b3 b4 => (rm_u_ne _ _ b4).trans ((fun j b1 b2 b3 b4 => (rm_u_ne _ _ b3).trans ((fun j _ _ _ _ => rfl) j b1 b2 b3 b4)) j b1 b2 b3 b4)) j b1 b2 b3 b4)) j b1 b2 b3 b4)
              obtain ⟨g1_1, g1_2, g1_3⟩ := (sp_som_G pT (sp_fac_G pT n)) (p + 1) (by omega) (by omega)
              refine go_aload_n dX12_factor_95 rfl 0 rfl ?_
              refine go_bipush (v := Int32.ofInt 41) dX12_factor_96 (by decide) ?_
              by_cases hx : (sp_som T e (sp_fac T e n) (p + 1)).1 = true
              · refine go_callV (d1 := d - 1) wVX12_87 kX12 rm_ob rfl (by omega) (m_must (T := T) (c := 41) (by omega) (by omega) (hs := (show r1 1 = sp_ems s a (sp_som T e (sp_fac T e n) (p + 1)).2.2 from q1_1)) (ha := (show r1 4 0 = a from q1_4)) (hp := (show r1 5 0 = (sp_som T e (sp_fac T e n) (p + 1)).2.1 from q1_5)) (he := (show r1 6 0 = e from q1_6)) (ho := (show r1 8 0 = o + 1 from q1_8)) ((hP.up (p' := p + 1) (by omega) (by omega)).st (l := (sp_som T e (sp_fac T e n) (p + 1)).2.2) (p' := (sp_som T e (sp_fac T e n) (p + 1)).2.1) (by omega) (by omega)) (show r1 7 0 = 0 from ((show r1 7 0 = rj_b ((sp_som T e (sp_fac T e n) (p + 1)).1 = false) from q1_7)).trans (rj_bf (by simp [hx])))) rfl (Nat.le_of_ble_eq_true rfl) dX12_factor_98 (fun w σ1 hP9 => ?_)
                obtain ⟨rfl, r2, ⟨q2_1, q2_5, q2_7, qo2, qa2⟩, rfl⟩ := hP9
                have q2_4 : r2 4 0 = a := (congrFun (qa2 4 (by decide) (by decide) (by decide) (by decide)) 0).trans (show r1 4 0 = a from q1_4)
                have q2_6 : r2 6 0 = e := (congrFun (qa2 6 (by decide) (by decide) (by decide) (by decide)) 0).trans (show r1 6 0 = e from q1_6)
                have q2_8 : r2 8 0 = o + 1 := qo2.trans (show r1 8 0 = o + 1 from q1_8)
                have ao2 : ∀ j : Nat, j ≠ 1 → j ≠ 5 → j ≠ 7 → j ≠ 8 → r2 j = r j := fun j b1 b2 b3 b4 => (qa2 j b1 b2 b3 b4).trans (ao1 j b1 b2 b3 b4)
                refine go_aload_n dX12_factor_101 rfl 0 rfl ?_
                refine go_dup dX12_factor_102 rfl ?_
                refine grm_g8 rfl dX12_factor_103 ?_
                rw [show r2 8 0 = o + 1 from q2_8]
                refine go_iconst (v := Int32.ofInt 1) dX12_factor_106 rfl ?_
                refine go_subI dX12_factor_107 ?_
                refine grm_w8 rfl dX12_factor_108 ?_
                have hFT : sp_fac T e (n + 1) p = sp_clo T e (sp_som T e (sp_fac T e n) (p + 1)) := by rw [sp_fac_s, if_neg (by omega), if_pos (by omega)]
                refine go_retV rfl ?_ dX12_factor_111
                exact ⟨rfl, (rm_u r2 8 (fun _ => (o + 1) - 1)), ⟨((show (rm_u r2 8 (fun _ => (o + 1) - 1)) 1 = sp_ems s a (sp_som T e (sp_fac T e n) (p + 1)).2.2 from q2_1)).trans (by rw [hFT]; rfl), ((show (rm_u r2 8 (fun _ => (o + 1) - 1)) 5 0 = (if sp_hr T e ((sp_som T e (sp_fac T e n) (p + 1)).2.1) = 41 then ((sp_som T e (sp_fac T e n) (p + 1)).2.1) + 1 else ((sp_som T e (sp_fac T e n) (p + 1)).2.1)) from q2_5)).trans (by rw [hFT]; unfold sp_clo; simp [hx]), ((show (rm_u r2 8 (fun _ => (o + 1) - 1)) 7 0 = rj_b (¬ sp_hr T e ((sp_som T e (sp_fac T e n) (p + 1)).2.1) = 41) from q2_7)).trans (rj_bc (by rw [hFT]; unfold sp_clo; simp [hx])), ((show (rm_u r2 8 (fun _ => (o + 1) - 1)) 8 0 = o from ((show (rm_u r2 8 (fun _ => (o + 1) - 1)) 8 0 = (o + 1) - 1 from rfl)).trans (by omega))).trans ho.symm, (fun j b1 b2 b3 b4 => (rm_u_ne _ _ b4).trans (ao2 j b1 b2 b3 b4))⟩, rfl⟩
              · refine go_callV (d1 := d - 1) wVX12_87 kX12 rm_ob rfl (by omega) (m_must_w (T := T) (c := 41) (by omega) (hs := (show r1 1 = sp_ems s a (sp_som T e (sp_fac T e n) (p + 1)).2.2 from q1_1)) (ha := (show r1 4 0 = a from q1_4)) (hp := (show r1 5 0 = (sp_som T e (sp_fac T e n) (p + 1)).2.1 from q1_5)) (he := (show r1 6 0 = e from q1_6)) (ho := (show r1 8 0 = o + 1 from q1_8)) ((hP.up (p' := p + 1) (by omega) (by omega)).st (l := (sp_som T e (sp_fac T e n) (p + 1)).2.2) (p' := (sp_som T e (sp_fac T e n) (p + 1)).2.1) (by omega) (by omega)) (show r1 7 0 = 1 from ((show r1 7 0 = rj_b ((sp_som T e (sp_fac T e n) (p + 1)).1 = false) from q1_7)).trans (rj_bt (by simpa using hx)))) rfl (Nat.le_of_ble_eq_true rfl) dX12_factor_98 (fun w σ1 hP9 => ?_)
                obtain ⟨rfl, r2, ⟨q2_1, q2_5, q2_7, qo2, qa2⟩, rfl⟩ := hP9
                have q2_4 : r2 4 0 = a := (congrFun (qa2 4 (by decide) (by decide) (by decide) (by decide)) 0).trans (show r1 4 0 = a from q1_4)
                have q2_6 : r2 6 0 = e := (congrFun (qa2 6 (by decide) (by decide) (by decide) (by decide)) 0).trans (show r1 6 0 = e from q1_6)
                have q2_8 : r2 8 0 = o + 1 := qo2.trans (show r1 8 0 = o + 1 from q1_8)
                have ao2 : ∀ j : Nat, j ≠ 1 → j ≠ 5 → j ≠ 7 → j ≠ 8 → r2 j = r j := fun j b1 b2 b3 b4 => (qa2 j b1 b2 b3 b4).trans (ao1 j b1 b2 b3 b4)
                refine go_aload_n dX12_factor_101 rfl 0 rfl ?_
                refine go_dup dX12_factor_102 rfl ?_
                refine grm_g8 rfl dX12_factor_103 ?_
                rw [show r2 8 0 = o + 1 from q2_8]
                refine go_iconst (v := Int32.ofInt 1) dX12_factor_106 rfl ?_
                refine go_subI dX12_factor_107 ?_
                refine grm_w8 rfl dX12_factor_108 ?_
                have hFT : sp_fac T e (n + 1) p = sp_clo T e (sp_som T e (sp_fac T e n) (p + 1)) := by rw [sp_fac_s, if_neg (by omega), if_pos (by omega)]
                refine go_retV rfl ?_ dX12_factor_111
                exact ⟨rfl, (rm_u r2 8 (fun _ => (o + 1) - 1)), ⟨((show (rm_u r2 8 (fun _ => (o + 1) - 1)) 1 = sp_ems s a (sp_som T e (sp_fac T e n) (p + 1)).2.2 from q2_1)).trans (by rw [hFT]; rfl), ((show (rm_u r2 8 (fun _ => (o + 1) - 1)) 5 0 = (sp_som T e (sp_fac T e n) (p + 1)).2.1 from q2_5)).trans (by rw [hFT]; unfold sp_clo; simp [hx]), ((show (rm_u r2 8 (fun _ => (o + 1) - 1)) 7 0 = 1 from q2_7)).trans ((rj_bt (by rw [hFT]; unfold sp_clo; simp [hx])).symm), ((show (rm_u r2 8 (fun _ => (o + 1) - 1)) 8 0 = o from ((show (rm_u r2 8 (fun _ => (o + 1) - 1)) 8 0 = (o + 1) - 1 from rfl)).trans (by omega))).trans ho.symm, (fun j b1 b2 b3 b4 => (rm_u_ne _ _ b4).trans (ao2 j b1 b2 b3 b4))⟩, rfl⟩
            · exact absurd c_76 (by omega)
          · exact absurd c_61 (by omega)
        · exact absurd c_31 (by omega)
  · exact absurd c_4 (by omega)
