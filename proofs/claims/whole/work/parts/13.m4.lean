/-! THE REFERENCE, 4: who can throw; light -/
/-- what holds of the reference's numbers -/
def sp_I (s : Int → Int) : Prop := sp_IC s ∧ sp_IM s ∧ sp_IP s ∧ sp_IW s ∧ sp_IL s ∧ sp_IV s
def sp_can (s : Int → Int) (D m p q : Int) : Bool := sp_so s D (-11) m 99 q && sp_may s m p && sp_free s m p && !sp_so s D (-12) m p q
set_option maxRecDepth 20000 in
/-- m_isLit -/
theorem m_isLit {X9 : rj_X} {σ : rj_H} {d : Nat} {mb : Nat} {r : rm_R} {m q : Int} (hd : 3 ≤ d) {s : Int → Int} {D : Int} (hs : r 1 = s) (hD : r 11 0 = D) (hD2 : 0 ≤ D ∧ D ≤ 200) (hI : sp_I s) (hm : 0 ≤ m ∧ m < s 0) (hq : 0 ≤ q ∧ q < 8) : rj_Cl X9 d yX12_isLit cX12_isLit 3 (some .boolean) [.ref mb, rj_i m, rj_i q] (rm_p X9 mb r σ) (fun w9 τ => w9 = some (rj_i (rj_b (sp_so s D (-11) m 99 q = true))) ∧ ∃ r0, rm_t r r0 ∧ τ = rm_p X9 mb r0 σ) := by
  obtain ⟨⟨h0, h1, h2, h3, h4, h5, h6, h7⟩, hM, hP, hW, hL, hV⟩ := id hI
  obtain ⟨v1, v2, v3, v4⟩ := id hV
  obtain ⟨m1, m2, m3, m4, m5, m6, m7⟩ := hM m (by omega) (by omega)
  refine go_call (by decide +kernel) (Nat.le_of_ble_eq_true rfl) ?_
  refine go_eq (pc' := 0) (lv' := [(0, .ref mb), (1, rj_i m), (2, rj_i q)]) (st' := []) rfl rfl rfl rfl ?_
  refine go_aload_n dX12_isLit_0 rfl 0 rfl ?_
  refine go_bipush (v := Int32.ofInt (-11)) dX12_isLit_1 (by decide) ?_
  refine go_iload_n dX12_isLit_3 rfl 1 rfl ?_
  refine go_bipush (v := Int32.ofInt 99) dX12_isLit_4 (by decide) ?_
  refine go_iload_n dX12_isLit_6 rfl 2 rfl ?_
  refine go_callV (d1 := d - 1) wVX12_164 kX12 rm_ob rfl (by omega) (m_isSo (by omega) (sort := (-11)) (m := m) (p := 99) (q := q) (by omega) (by omega) (by omega) (hs := (show r 1 = s from hs)) (by omega) (hD := (show r 11 0 = D from hD)) h7 hV (by omega) (by omega)) rfl (Nat.le_of_ble_eq_true rfl) dX12_isLit_7 (fun w σ1 hP => ?_)
  obtain ⟨rfl, r1, hr1, rfl⟩ := hP
  have q1_1 : r1 1 = s := (hr1 1 (by decide) (by decide)).trans (show r 1 = s from hs)
  have q1_11 : r1 11 0 = D := (congrFun (hr1 11 (by decide) (by decide)) 0).trans (show r 11 0 = D from hD)
  refine go_retI rfl (rj_nb _) ?_ dX12_isLit_10
  exact ⟨rfl, r1, hr1, rfl⟩
set_option maxRecDepth 20000 in
/-- m_hasOwn -/
theorem m_hasOwn {X9 : rj_X} {σ : rj_H} {d : Nat} {mb : Nat} {r : rm_R} {p q : Int} (hd : 3 ≤ d) {s : Int → Int} {D : Int} (hs : r 1 = s) (hD : r 11 0 = D) (hD2 : 0 ≤ D ∧ D ≤ 200) (hI : sp_I s) (hp : 0 ≤ p ∧ p < s 1) (hq : 0 ≤ q ∧ q < 8) : rj_Cl X9 d yX12_hasOwn cX12_hasOwn 3 (some .boolean) [.ref mb, rj_i p, rj_i q] (rm_p X9 mb r σ) (fun w9 τ => w9 = some (rj_i (rj_b (sp_so s D (-13) 99 p q = true))) ∧ ∃ r0, rm_t r r0 ∧ τ = rm_p X9 mb r0 σ) := by
  obtain ⟨⟨h0, h1, h2, h3, h4, h5, h6, h7⟩, hM, hP, hW, hL, hV⟩ := id hI
  obtain ⟨v1, v2, v3, v4⟩ := id hV
  refine go_call (by decide +kernel) (Nat.le_of_ble_eq_true rfl) ?_
  refine go_eq (pc' := 0) (lv' := [(0, .ref mb), (1, rj_i p), (2, rj_i q)]) (st' := []) rfl rfl rfl rfl ?_
  refine go_aload_n dX12_hasOwn_0 rfl 0 rfl ?_
  refine go_bipush (v := Int32.ofInt (-13)) dX12_hasOwn_1 (by decide) ?_
  refine go_bipush (v := Int32.ofInt 99) dX12_hasOwn_3 (by decide) ?_
  refine go_iload_n dX12_hasOwn_5 rfl 1 rfl ?_
  refine go_iload_n dX12_hasOwn_6 rfl 2 rfl ?_
  refine go_callV (d1 := d - 1) wVX12_164 kX12 rm_ob rfl (by omega) (m_isSo (by omega) (sort := (-13)) (m := 99) (p := p) (q := q) (by omega) (by omega) (by omega) (hs := (show r 1 = s from hs)) (by omega) (hD := (show r 11 0 = D from hD)) h7 hV (by omega) (by omega)) rfl (Nat.le_of_ble_eq_true rfl) dX12_hasOwn_7 (fun w σ1 hP => ?_)
  obtain ⟨rfl, r1, hr1, rfl⟩ := hP
  have q1_1 : r1 1 = s := (hr1 1 (by decide) (by decide)).trans (show r 1 = s from hs)
  have q1_11 : r1 11 0 = D := (congrFun (hr1 11 (by decide) (by decide)) 0).trans (show r 11 0 = D from hD)
  refine go_retI rfl (rj_nb _) ?_ dX12_hasOwn_10
  exact ⟨rfl, r1, hr1, rfl⟩
set_option maxRecDepth 20000 in
/-- m_canThrow -/
theorem m_canThrow {X9 : rj_X} {σ : rj_H} {d : Nat} {mb : Nat} {r : rm_R} {m p q : Int} (hd : 4 ≤ d) {s : Int → Int} {D : Int} (hs : r 1 = s) (hD : r 11 0 = D) (hD2 : 0 ≤ D ∧ D ≤ 200) (hI : sp_I s) (hm : 0 ≤ m ∧ m < s 0) (hp : 0 ≤ p ∧ p < s 1) (hq : 0 ≤ q ∧ q < 8) : rj_Cl X9 d yX12_canThrow cX12_canThrow 4 (some .boolean) [.ref mb, rj_i m, rj_i p, rj_i q] (rm_p X9 mb r σ) (fun w9 τ => w9 = some (rj_i (rj_b (sp_can s D m p q = true))) ∧ ∃ r0, rm_t r r0 ∧ τ = rm_p X9 mb r0 σ) := by
  obtain ⟨⟨h0, h1, h2, h3, h4, h5, h6, h7⟩, hM, hP, hW, hL, hV⟩ := id hI
  obtain ⟨v1, v2, v3, v4⟩ := id hV
  obtain ⟨m1, m2, m3, m4, m5, m6, m7⟩ := hM m (by omega) (by omega)
  refine go_call (by decide +kernel) (Nat.le_of_ble_eq_true rfl) ?_
  refine go_eq (pc' := 0) (lv' := [(0, .ref mb), (1, rj_i m), (2, rj_i p), (3, rj_i q)]) (st' := []) rfl rfl rfl rfl ?_
  refine go_aload_n dX12_canThrow_0 rfl 0 rfl ?_
  refine go_iload_n dX12_canThrow_1 rfl 1 rfl ?_
  refine go_iload_n dX12_canThrow_2 rfl 3 rfl ?_
  refine go_callV (d1 := d - 1) wVX12_172 kX12 rm_ob rfl (by omega) (m_isLit (by omega) (m := m) (q := q) (hs := (show r 1 = s from hs)) (hD := (show r 11 0 = D from hD)) (by omega) hI (by omega) (by omega)) rfl (Nat.le_of_ble_eq_true rfl) dX12_canThrow_3 (fun w σ1 hP => ?_)
  obtain ⟨rfl, r1, hr1, rfl⟩ := hP
  have q1_1 : r1 1 = s := (hr1 1 (by decide) (by decide)).trans (show r 1 = s from hs)
  have q1_11 : r1 11 0 = D := (congrFun (hr1 11 (by decide) (by decide)) 0).trans (show r 11 0 = D from hD)
  refine go_if_eqB (tgt := 43) dX12_canThrow_6 (by decide) (fun c_6 => ?_) (fun c_6 => ?_)
  · refine go_iconst (v := Int32.ofInt 0) dX12_canThrow_43 rfl ?_
    refine go_retI rfl (rj_n01 (by decide)) ?_ dX12_canThrow_44
    exact ⟨rj_vi (by rw [rj_bb, sp_can]; simp [c_6]), r1, hr1, rfl⟩
  · refine go_aload_n dX12_canThrow_9 rfl 0 rfl ?_
    refine go_iload_n dX12_canThrow_10 rfl 1 rfl ?_
    refine go_iload_n dX12_canThrow_11 rfl 2 rfl ?_
    refine go_callV (d1 := d - 1) wVX12_175 kX12 rm_ob rfl (by omega) (m_may (by omega) (m := m) (p := p) (hs := (show r1 1 = s from q1_1)) (by omega) (by omega) h0 h1 hM hP) rfl (Nat.le_of_ble_eq_true rfl) dX12_canThrow_12 (fun w σ1 hP => ?_)
    obtain ⟨rfl, rfl⟩ := hP
    refine go_if_eqB (tgt := 43) dX12_canThrow_15 (by decide) (fun c_15 => ?_) (fun c_15 => ?_)
    · refine go_iconst (v := Int32.ofInt 0) dX12_canThrow_43 rfl ?_
      refine go_retI rfl (rj_n01 (by decide)) ?_ dX12_canThrow_44
      exact ⟨rj_vi (by rw [rj_bb, sp_can]; simp [c_15, c_6]), r1, hr1, rfl⟩
    · refine go_aload_n dX12_canThrow_18 rfl 0 rfl ?_
      refine go_iload_n dX12_canThrow_19 rfl 1 rfl ?_
      refine go_iload_n dX12_canThrow_20 rfl 2 rfl ?_
      refine go_callV (d1 := d - 1) wVX12_160 kX12 rm_ob rfl (by omega) (m_isFree (by omega) (m := m) (p := p) (hs := (show r1 1 = s from q1_1)) (by omega) (by omega) h0 h1 h2 hM hP hW) rfl (Nat.le_of_ble_eq_true rfl) dX12_canThrow_21 (fun w σ1 hP => ?_)
      obtain ⟨rfl, rfl⟩ := hP
      refine go_if_eqB (tgt := 43) dX12_canThrow_24 (by decide) (fun c_24 => ?_) (fun c_24 => ?_)
      · refine go_iconst (v := Int32.ofInt 0) dX12_canThrow_43 rfl ?_
        refine go_retI rfl (rj_n01 (by decide)) ?_ dX12_canThrow_44
        exact ⟨rj_vi (by rw [rj_bb, sp_can]; simp [c_24, c_15, c_6]), r1, hr1, rfl⟩
      · refine go_aload_n dX12_canThrow_27 rfl 0 rfl ?_
        refine go_bipush (v := Int32.ofInt (-12)) dX12_canThrow_28 (by decide) ?_
        refine go_iload_n dX12_canThrow_30 rfl 1 rfl ?_
        refine go_iload_n dX12_canThrow_31 rfl 2 rfl ?_
        refine go_iload_n dX12_canThrow_32 rfl 3 rfl ?_
        refine go_callV (d1 := d - 1) wVX12_164 kX12 rm_ob rfl (by omega) (m_isSo (by omega) (sort := (-12)) (m := m) (p := p) (q := q) (by omega) (by omega) (by omega) (hs := (show r1 1 = s from q1_1)) (by omega) (hD := (show r1 11 0 = D from q1_11)) h7 hV (by omega) (by omega)) rfl (Nat.le_of_ble_eq_true rfl) dX12_canThrow_33 (fun w σ1 hP => ?_)
        obtain ⟨rfl, r2, hr2, rfl⟩ := hP
        have q2_1 : r2 1 = s := (hr2 1 (by decide) (by decide)).trans (show r1 1 = s from q1_1)
        have q2_11 : r2 11 0 = D := (congrFun (hr2 11 (by decide) (by decide)) 0).trans (show r1 11 0 = D from q1_11)
        refine go_if_neB (tgt := 43) dX12_canThrow_36 (by decide) (fun c_36 => ?_) (fun c_36 => ?_)
        · refine go_iconst (v := Int32.ofInt 0) dX12_canThrow_43 rfl ?_
          refine go_retI rfl (rj_n01 (by decide)) ?_ dX12_canThrow_44
          exact ⟨rj_vi (by rw [rj_bb, sp_can]; simp [c_36, c_24, c_15, c_6]), r2, (hr1.tr hr2), rfl⟩
        · refine go_iconst (v := Int32.ofInt 1) dX12_canThrow_39 rfl ?_
          refine go_goto (tgt := 44) dX12_canThrow_40 (by decide) ?_
          refine go_retI rfl (rj_n01 (by decide)) ?_ dX12_canThrow_44
          exact ⟨rj_vi (by rw [rj_bb, sp_can]; simp [c_36, c_24, c_15, c_6]), r2, (hr1.tr hr2), rfl⟩
