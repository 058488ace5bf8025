/-! THE REFERENCE, 25: words -/
set_option maxRecDepth 20000 in
/-- m_among -/
theorem m_among {X9 : rj_X} {σ : rj_H} {d : Nat} {mb : Nat} {r : rm_R} {i : Nat} {u : Int} (hd : 4 ≤ d) (hi : i < 7) {s T : Int → Int} {e a p o : Int} (hs : r 1 = s) (ha : r 4 0 = a) (hp : r 5 0 = p) (he : r 6 0 = e) (ho : r 8 0 = o) (hP : sp_P T e a p s) (h7 : r 7 0 = u) : rj_Cl X9 d yX12_among cX12_among 3 (some .int) [.ref mb, .ref (rj_sk X9 i)] (rm_p X9 mb r σ) (fun w9 τ => w9 = some (rj_i (sp_am i (sp_hr T e p))) ∧ ∃ r0, rm_e r r0 s (if sp_am i (sp_hr T e p) = -1 then p else p + 1) u ∧ τ = rm_p X9 mb r0 σ) := by
  obtain ⟨pa, pp, pe, pT, pt, pc0, pc1⟩ := id hP
  have ph := sp_hr_b pT pp.1
  have hl := (rj_sc_b i hi).1
  refine go_call (by decide +kernel) (Nat.le_of_ble_eq_true rfl) ?_
  refine go_eq (pc' := 0) (lv' := [(0, .ref mb), (1, .ref (rj_sk X9 i))]) (st' := []) rfl rfl rfl rfl ?_
  refine go_iconst (v := Int32.ofInt 0) dX12_among_0 rfl ?_
  refine go_istore_nS (lv' := [(0, .ref mb), (1, .ref (rj_sk X9 i)), (2, rj_i 0)]) rfl (by decide) rfl dX12_among_1 ?_
  have loop : ∀ n k : Nat, k + n = (rj_sl i : Int).toNat → (sp_am i (sp_hr T e p)) = sp_amN i (sp_hr T e p) n k → rj_Go X9 yX12_among cX12_among 3 (some .int) d (fun w9 τ => w9 = some (rj_i (sp_am i (sp_hr T e p))) ∧ ∃ r0, rm_e r r0 s (if sp_am i (sp_hr T e p) = -1 then p else p + 1) u ∧ τ = rm_p X9 mb r0 σ) 2 [(0, .ref mb), (1, .ref (rj_sk X9 i)), (2, rj_i (k : Int))] [] (rm_p X9 mb r σ) := by
    intro n
    induction n with
    | zero =>
      intro k hk hF
      refine go_iload_n dX12_among_2 rfl 2 rfl ?_
      refine go_aload_n dX12_among_3 rfl 1 rfl ?_
      refine go_callVS (d1 := d - 1) wVX12_78 rfl hi rfl (by omega) (j_length hi (by omega)) rfl (Nat.le_of_ble_eq_true rfl) dX12_among_4 (fun w σ1 hP9 => ?_)
      obtain ⟨rfl, rfl⟩ := hP9
      refine go_icmp_geI (tgt := 40) (by omega) (by omega) dX12_among_7 (by decide) (fun c_7 => ?_) (fun c_7 => ?_)
      · refine go_iconst (v := Int32.ofInt (-1)) dX12_among_40 rfl ?_
        refine go_retI rfl rfl ?_ dX12_among_41
        exact ⟨rj_vi hF.symm, r, ⟨((show r 1 = s from hs)).trans rfl, ((show r 5 0 = p from hp)).trans (by rw [if_pos (show sp_am i (sp_hr T e p) = -1 from hF)]), ((show r 7 0 = u from h7)).trans rfl, ((show r 8 0 = o from ho)).trans ho.symm, (fun j _ _ _ _ => rfl)⟩, rfl⟩
      · exact absurd c_7 (by omega)
    | succ n ih =>
      intro k hk hF
      have sb := (rj_sc_b i hi).2 k (by have := rj_sl_8 i hi; omega)
      refine go_iload_n dX12_among_2 rfl 2 rfl ?_
      refine go_aload_n dX12_among_3 rfl 1 rfl ?_
      refine go_callVS (d1 := d - 1) wVX12_78 rfl hi rfl (by omega) (j_length hi (by omega)) rfl (Nat.le_of_ble_eq_true rfl) dX12_among_4 (fun w σ1 hP9 => ?_)
      obtain ⟨rfl, rfl⟩ := hP9
      refine go_icmp_geI (tgt := 40) (by omega) (by omega) dX12_among_7 (by decide) (fun c_7 => ?_) (fun c_7 => ?_)
      · exact absurd c_7 (by omega)
      · refine go_aload_n dX12_among_10 rfl 0 rfl ?_
        refine go_callV (d1 := d - 1) wVX12_74 kX12 rm_ob rfl (by omega) (m_here (T := T) (a := a) (hs := (show r 1 = s from hs)) (hp := (show r 5 0 = p from hp)) (he := (show r 6 0 = e from he)) hP) rfl (Nat.le_of_ble_eq_true rfl) dX12_among_11 (fun w σ1 hP9 => ?_)
        obtain ⟨rfl, rfl⟩ := hP9
        refine go_aload_n dX12_among_14 rfl 1 rfl ?_
        refine go_iload_n dX12_among_15 rfl 2 rfl ?_
        refine go_callVS (d1 := d - 1) wVX12_83 rfl hi rfl (by omega) (j_char hi (k := k) (by omega) (by omega)) rfl (Nat.le_of_ble_eq_true rfl) dX12_among_16 (fun w σ1 hP9 => ?_)
        obtain ⟨rfl, rfl⟩ := hP9
        refine go_icmp_neI (tgt := 34) (by omega) (by omega) dX12_among_19 (by decide) (fun c_19 => ?_) (fun c_19 => ?_)
        · refine go_iincI (a := (k : Int)) (n := 1) (k0 := 2) (lv' := [(0, .ref mb), (1, .ref (rj_sk X9 i)), (2, rj_i ((k : Int) + 1))]) rfl (by decide) rfl dX12_among_34 ?_
          refine go_goto (tgt := 2) dX12_among_37 (by decide) ?_
          exact go_eq rfl (lv' := [(0, .ref mb), (1, .ref (rj_sk X9 i)), (2, rj_i ((k + 1 : Nat) : Int))]) (rj_lk (rj_lk (rj_lj (by omega) rfl))) rfl rfl (ih (k + 1) (by omega) (by rw [hF, sp_amN, if_neg c_19]))
        · refine go_aload_n dX12_among_22 rfl 0 rfl ?_
          refine go_dup dX12_among_23 rfl ?_
          refine grm_g5 rfl dX12_among_24 ?_
          rw [show r 5 0 = p from hp]
          refine go_iconst (v := Int32.ofInt 1) dX12_among_27 rfl ?_
          refine go_addI dX12_among_28 ?_
          refine grm_w5 rfl dX12_among_29 ?_
          refine go_iload_n dX12_among_32 rfl 2 rfl ?_
          refine go_retI rfl rfl ?_ dX12_among_33
          exact ⟨rj_vi (by rw [hF, sp_amN, if_pos c_19]), (rm_u r 5 (fun _ => p + 1)), ⟨((show (rm_u r 5 (fun _ => p + 1)) 1 = s from hs)).trans rfl, ((show (rm_u r 5 (fun _ => p + 1)) 5 0 = p + 1 from rfl)).trans (by rw [if_neg (by rw [hF, sp_amN, if_pos c_19]; omega)]), ((show (rm_u r 5 (fun _ => p + 1)) 7 0 = u from h7)).trans rfl, ((show (rm_u r 5 (fun _ => p + 1)) 8 0 = o from ho)).trans ho.symm, (fun j b1 b2 b3 b4 => (rm_u_ne _ _ b2).trans ((fun j _ _ _ _ => rfl) j b1 b2 b3 b4))⟩, rfl⟩
  exact go_eq rfl (lv' := [(0, .ref mb), (1, .ref (rj_sk X9 i)), (2, rj_i ((0 : Nat) : Int))]) (rj_lk (rj_lk (rj_lj (by omega) rfl))) rfl rfl (loop ((rj_sl i : Int).toNat - 0) 0 (by omega) (rfl))
theorem sp_spK_b {T : Int → Int} {e p : Int} {i : Nat} (h : sp_TB T e) (hi : i < 7) (hp : 0 ≤ p ∧ p ≤ e) : ∀ k : Nat, k ≤ rj_sl i → p ≤ (sp_spK T e i p k).2 ∧ (sp_spK T e i p k).2 ≤ e
  | 0, _ => by rw [sp_spK]; omega
  | k + 1, hk => by
    have ih := sp_spK_b h hi hp k (by omega)
    have h1 := sp_hr_b (p := (sp_spK T e i p k).2) h (by omega)
    have h2 := (rj_sc_b i hi).2 k (by have := rj_sl_8 i hi; omega)
    rw [sp_spK]
    split
    · rename_i q; have := q.2; dsimp only; omega
    · exact ih
set_option maxRecDepth 20000 in
/-- m_spells -/
theorem m_spells {X9 : rj_X} {σ : rj_H} {d : Nat} {mb : Nat} {r : rm_R} {i : Nat} (hd : 4 ≤ d) (hi : i < 7) {s T : Int → Int} {e a p o : Int} (hs : r 1 = s) (ha : r 4 0 = a) (hp : r 5 0 = p) (he : r 6 0 = e) (ho : r 8 0 = o) (hP : sp_P T e a p s) (h7 : r 7 0 = 0) : rj_Cl X9 d yX12_spells cX12_spells 3 none [.ref mb, .ref (rj_sk X9 i)] (rm_p X9 mb r σ) (fun w9 τ => w9 = none ∧ ∃ r0, rm_e r r0 s ((sp_sp T e i p).2) (rj_b ((sp_sp T e i p).1 = false)) ∧ τ = rm_p X9 mb r0 σ) := by
  obtain ⟨pa, pp, pe, pT, pt, pc0, pc1⟩ := id hP
  have ph := sp_hr_b pT pp.1
  have hl := (rj_sc_b i hi).1
  refine go_call (by decide +kernel) (Nat.le_of_ble_eq_true rfl) ?_
  refine go_eq (pc' := 0) (lv' := [(0, .ref mb), (1, .ref (rj_sk X9 i))]) (st' := []) rfl rfl rfl rfl ?_
  refine go_iconst (v := Int32.ofInt 0) dX12_spells_0 rfl ?_
  refine go_istore_nS (lv' := [(0, .ref mb), (1, .ref (rj_sk X9 i)), (2, rj_i 0)]) rfl (by decide) rfl dX12_spells_1 ?_
  have loop : ∀ (n k : Nat) (rl : rm_R), k + n = (rj_sl i : Int).toNat → rl 1 = s → rl 4 0 = a → rl 5 0 = (sp_spK T e i p k).2 → rl 6 0 = e → rl 7 0 = rj_b ((sp_spK T e i p k).1 = false) → rl 8 0 = o → (∀ j : Nat, j ≠ 1 → j ≠ 5 → j ≠ 7 → j ≠ 8 → rl j = r j) → rj_Go X9 yX12_spells cX12_spells 3 none d (fun w9 τ => w9 = none ∧ ∃ r0, rm_e r r0 s ((sp_sp T e i p).2) (rj_b ((sp_sp T e i p).1 = false)) ∧ τ = rm_p X9 mb r0 σ) 2 [(0, .ref mb), (1, .ref (rj_sk X9 i)), (2, rj_i (k : Int))] [] (rm_p X9 mb rl σ) := by
    intro n
    induction n with
    | zero =>
      intro k rl hk el1 el4 el5 el6 el7 el8 aol
      refine go_iload_n dX12_spells_2 rfl 2 rfl ?_
      refine go_aload_n dX12_spells_3 rfl 1 rfl ?_
      refine go_callVS (d1 := d - 1) wVX12_78 rfl hi rfl (by omega) (j_length hi (by omega)) rfl (Nat.le_of_ble_eq_true rfl) dX12_spells_4 (fun w σ1 hP9 => ?_)
      obtain ⟨rfl, rfl⟩ := hP9
      refine go_icmp_geI (tgt := 25) (by omega) (by omega) dX12_spells_7 (by decide) (fun c_7 => ?_) (fun c_7 => ?_)
      · refine go_retV rfl ?_ dX12_spells_25
        exact ⟨rfl, rl, ⟨((show rl 1 = s from el1)).trans rfl, ((show rl 5 0 = (sp_spK T e i p k).2 from el5)).trans (by unfold sp_sp; rw [show rj_sl i = k by omega]), ((show rl 7 0 = rj_b ((sp_spK T e i p k).1 = false) from el7)).trans (by unfold sp_sp; rw [show rj_sl i = k by omega]), ((show rl 8 0 = o from el8)).trans ho.symm, aol⟩, rfl⟩
      · exact absurd c_7 (by omega)
    | succ n ih =>
      intro k rl hk el1 el4 el5 el6 el7 el8 aol
      have sb := (rj_sc_b i hi).2 k (by have := rj_sl_8 i hi; omega)
      have kb := sp_spK_b pT hi pp k (by omega)
      have kb2 := sp_spK_b pT hi pp (k + 1) (by omega)
      refine go_iload_n dX12_spells_2 rfl 2 rfl ?_
      refine go_aload_n dX12_spells_3 rfl 1 rfl ?_
      refine go_callVS (d1 := d - 1) wVX12_78 rfl hi rfl (by omega) (j_length hi (by omega)) rfl (Nat.le_of_ble_eq_true rfl) dX12_spells_4 (fun w σ1 hP9 => ?_)
      obtain ⟨rfl, rfl⟩ := hP9
      refine go_icmp_geI (tgt := 25) (by omega) (by omega) dX12_spells_7 (by decide) (fun c_7 => ?_) (fun c_7 => ?_)
      · exact absurd c_7 (by omega)
      · refine go_aload_n dX12_spells_10 rfl 0 rfl ?_
        refine go_aload_n dX12_spells_11 rfl 1 rfl ?_
        refine go_iload_n dX12_spells_12 rfl 2 rfl ?_
        refine go_callVS (d1 := d - 1) wVX12_83 rfl hi rfl (by omega) (j_char hi (k := k) (by omega) (by omega)) rfl (Nat.le_of_ble_eq_true rfl) dX12_spells_13 (fun w σ1 hP9 => ?_)
        obtain ⟨rfl, rfl⟩ := hP9
        by_cases ht : (sp_spK T e i p k).1 = true
        · refine go_callV (d1 := d - 1) wVX12_87 kX12 rm_ob rfl (by omega) (m_must (T := T) (c := rj_sc i k) (by omega) (by omega) (hs := (show rl 1 = s from el1)) (ha := (show rl 4 0 = a from el4)) (hp := (show rl 5 0 = (sp_spK T e i p k).2 from el5)) (he := (show rl 6 0 = e from el6)) (ho := (show rl 8 0 = o from el8)) (hP.up (p' := (sp_spK T e i p k).2) (by omega) (by omega)) (show rl 7 0 = 0 from ((show rl 7 0 = rj_b ((sp_spK T e i p k).1 = false) from el7)).trans (rj_bf (by simp [ht])))) rfl (Nat.le_of_ble_eq_true rfl) dX12_spells_16 (fun w σ1 hP9 => ?_)
          obtain ⟨rfl, r51, ⟨q51_1, q51_5, q51_7, qo51, qa51⟩, rfl⟩ := hP9
          have q51_4 : r51 4 0 = a := (congrFun (qa51 4 (by decide) (by decide) (by decide) (by decide)) 0).trans (show rl 4 0 = a from el4)
          have q51_6 : r51 6 0 = e := (congrFun (qa51 6 (by decide) (by decide) (by decide) (by decide)) 0).trans (show rl 6 0 = e from el6)
          have q51_8 : r51 8 0 = o := qo51.trans (show rl 8 0 = o from el8)
          have ao51 : ∀ j : Nat, j ≠ 1 → j ≠ 5 → j ≠ 7 → j ≠ 8 → r51 j = r j := fun j b1 b2 b3 b4 => (qa51 j b1 b2 b3 b4).trans (aol j b1 b2 b3 b4)
          refine go_iincI (a := (k : Int)) (n := 1) (k0 := 2) (lv' := [(0, .ref mb), (1, .ref (rj_sk X9 i)), (2, rj_i ((k : Int) + 1))]) rfl (by decide) rfl dX12_spells_19 ?_
          refine go_goto (tgt := 2) dX12_spells_22 (by decide) ?_
          exact go_eq rfl (lv' := [(0, .ref mb), (1, .ref (rj_sk X9 i)), (2, rj_i ((k + 1 : Nat) : Int))]) (rj_lk (rj_lk (rj_lj (by omega) rfl))) rfl rfl (ih (k + 1) r51 (by omega) ((show r51 1 = s from q51_1)) ((show r51 4 0 = a from q51_4)) (((show r51 5 0 = (if sp_hr T e ((sp_spK T e i p k).2) = rj_sc i k then ((sp_spK T e i p k).2) + 1 else ((sp_spK T e i p k).2)) from q51_5)).trans (by rw [sp_spK]; by_cases hz : sp_hr T e (sp_spK T e i p k).2 = rj_sc i k <;> simp [ht, hz])) ((show r51 6 0 = e from q51_6)) (((show r51 7 0 = rj_b (¬ sp_hr T e ((sp_spK T e i p k).2) = rj_sc i k) from q51_7)).trans (rj_bc (by rw [sp_spK]; by_cases hz : sp_hr T e (sp_spK T e i p k).2 = rj_sc i k <;> simp [ht, hz]))) ((show r51 8 0 = o from q51_8)) (ao51))
        · refine go_callV (d1 := d - 1) wVX12_87 kX12 rm_ob rfl (by omega) (m_must_w (T := T) (c := rj_sc i k) (by omega) (hs := (show rl 1 = s from el1)) (ha := (show rl 4 0 = a from el4)) (hp := (show rl 5 0 = (sp_spK T e i p k).2 from el5)) (he := (show rl 6 0 = e from el6)) (ho := (show rl 8 0 = o from el8)) (hP.up (p' := (sp_spK T e i p k).2) (by omega) (by omega)) (show rl 7 0 = 1 from ((show rl 7 0 = rj_b ((sp_spK T e i p k).1 = false) from el7)).trans (rj_bt (by simpa using ht)))) rfl (Nat.le_of_ble_eq_true rfl) dX12_spells_16 (fun w σ1 hP9 => ?_)
          obtain ⟨rfl, r51, ⟨q51_1, q51_5, q51_7, qo51, qa51⟩, rfl⟩ := hP9
          have q51_4 : r51 4 0 = a := (congrFun (qa51 4 (by decide) (by decide) (by decide) (by decide)) 0).trans (show rl 4 0 = a from el4)
          have q51_6 : r51 6 0 = e := (congrFun (qa51 6 (by decide) (by decide) (by decide) (by decide)) 0).trans (show rl 6 0 = e from el6)
          have q51_8 : r51 8 0 = o := qo51.trans (show rl 8 0 = o from el8)
          have ao51 : ∀ j : Nat, j ≠ 1 → j ≠ 5 → j ≠ 7 → j ≠ 8 → r51 j = r j := fun j b1 b2 b3 b4 => (qa51 j b1 b2 b3 b4).trans (aol j b1 b2 b3 b4)
          refine go_iincI (a := (k : Int)) (n := 1) (k0 := 2) (lv' := [(0, .ref mb), (1, .ref (rj_sk X9 i)), (2, rj_i ((k : Int) + 1))]) rfl (by decide) rfl dX12_spells_19 ?_
          refine go_goto (tgt := 2) dX12_spells_22 (by decide) ?_
          exact go_eq rfl (lv' := [(0, .ref mb), (1, .ref (rj_sk X9 i)), (2, rj_i ((k + 1 : Nat) : Int))]) (rj_lk (rj_lk (rj_lj (by omega) rfl))) rfl rfl (ih (k + 1) r51 (by omega) ((show r51 1 = s from q51_1)) ((show r51 4 0 = a from q51_4)) (((show r51 5 0 = (sp_spK T e i p k).2 from q51_5)).trans (by rw [sp_spK, if_neg (by simp [ht])])) ((show r51 6 0 = e from q51_6)) (((show r51 7 0 = 1 from q51_7)).trans (by rw [sp_spK, if_neg (by simp [ht])]; rfl)) ((show r51 8 0 = o from q51_8)) (ao51))
  exact go_eq rfl (lv' := [(0, .ref mb), (1, .ref (rj_sk X9 i)), (2, rj_i ((0 : Nat) : Int))]) (rj_lk (rj_lk (rj_lj (rfl) rfl))) rfl rfl (loop (rj_sl i : Int).toNat 0 r (by omega) ((show r 1 = s from hs)) ((show r 4 0 = a from ha)) ((show r 5 0 = p from hp)) ((show r 6 0 = e from he)) (((show r 7 0 = 0 from h7)).trans (by rw [sp_spK]; rfl)) ((show r 8 0 = o from ho)) ((fun j _ _ _ _ => rfl)))
