/-! THE REFERENCE, 14: act, judged, passed, image, undo -/
def sp_actA (s : Int → Int) (m a x : Int) (b : Int → Int) : sp_A :=
  if (0 ≤ m ∧ m < s 0) ∧ 0 ≤ a ∧ a ≤ 2 then (if a = 0 then sp_ca (s (130 + m)) m x b 0 else if a = 1 then sp_tu (s (130 + m)) m (s (166 + m)) x b 0 else sp_te (s (130 + m)) m (s (166 + m)) x b 0) else (0, b, 0)
/-- all but scratch and the trace stays -/
def rm_Vt (r r' : rm_R) (s' b' : Int → Int) (n' : Int) : Prop := r' 1 = s' ∧ r' 2 = r 2 ∧ r' 3 0 = r 3 0 ∧ r' 17 = b' ∧ r' 18 0 = n'
set_option maxRecDepth 20000 in
/-- m_act -/
theorem m_act {X9 : rj_X} {σ : rj_H} {d : Nat} {mb : Nat} {r : rm_R} {m a x : Int} {b : Int → Int} (hd : 8 ≤ d) (hb : r 17 = b) (hm : -2147483648 ≤ m ∧ m < 2147483648) (ha : -2147483648 ≤ a ∧ a < 2147483648) (hx : -2147483648 ≤ x ∧ x < 2147483648) {s : Int → Int} (hs : r 1 = s) (hI : sp_I s) : rj_Cl X9 d yX12_act cX12_act 4 (some .int) [.ref mb, rj_i m, rj_i a, rj_i x] (rm_p X9 mb r σ) (fun w9 τ => w9 = some (rj_i (sp_actA s m a x b).1) ∧ ∃ r0, rm_Vt r r0 s (sp_actA s m a x b).2.1 (sp_actA s m a x b).2.2 ∧ τ = rm_p X9 mb r0 σ) := by
  obtain ⟨⟨h0, h1, h2, h3, h4, h5, h6, h7⟩, hM, hP, hW, hL, hV⟩ := id hI
  obtain ⟨v1, v2, v3, v4⟩ := id hV
  refine go_call (by decide +kernel) (Nat.le_of_ble_eq_true rfl) ?_
  refine go_eq (pc' := 0) (lv' := [(0, .ref mb), (1, rj_i m), (2, rj_i a), (3, rj_i x)]) (st' := []) rfl rfl rfl rfl ?_
  refine go_aload_n dX12_act_0 rfl 0 rfl ?_
  refine go_iconst (v := Int32.ofInt 0) dX12_act_1 rfl ?_
  refine grm_w18 rfl dX12_act_2 ?_
  obtain ⟨r1, e1⟩ : ∃ x_, x_ = (rm_u r 18 (fun _ => 0)) := ⟨_, rfl⟩
  rw [← e1]
  have q1_1 : r1 1 = s := by rw [e1]; exact (show (rm_u r 18 (fun _ => 0)) 1 = s from hs)
  have q1_2 : r1 2 = (r 2) := by rw [e1]; exact (show (rm_u r 18 (fun _ => 0)) 2 = (r 2) from rfl)
  have q1_3 : r1 3 0 = (r 3 0) := by rw [e1]; exact (show (rm_u r 18 (fun _ => 0)) 3 0 = (r 3 0) from rfl)
  have q1_17 : r1 17 = b := by rw [e1]; exact (show (rm_u r 18 (fun _ => 0)) 17 = b from hb)
  have q1_18 : r1 18 0 = 0 := by rw [e1]; exact (show (rm_u r 18 (fun _ => 0)) 18 0 = 0 from rfl)
  refine go_aload_n dX12_act_5 rfl 0 rfl ?_
  refine go_iload_n dX12_act_6 rfl 1 rfl ?_
  refine go_callV (d1 := d - 1) wVX12_56 kX12 rm_ob rfl (by omega) (m_isMirror (m := m) (by omega) (by omega) (hs := (show r1 1 = s from q1_1)) (by omega)) rfl (Nat.le_of_ble_eq_true rfl) dX12_act_7 (fun w σ1 hP => ?_)
  obtain ⟨rfl, rfl⟩ := hP
  refine go_if_eqB (tgt := 22) dX12_act_10 (by decide) (fun c_10 => ?_) (fun c_10 => ?_)
  · refine go_iconst (v := Int32.ofInt 0) dX12_act_22 rfl ?_
    refine go_retI rfl rfl ?_ dX12_act_23
    exact ⟨by unfold sp_actA; rw [if_neg (by omega)], r1, ⟨(show r1 1 = s from q1_1), (show r1 2 = (r 2) from q1_2), (show r1 3 0 = (r 3 0) from q1_3), (by unfold sp_actA; rw [if_neg (by omega)]; exact (show r1 17 = b from q1_17)), (by unfold sp_actA; rw [if_neg (by omega)]; exact (show r1 18 0 = 0 from q1_18))⟩, rfl⟩
  · refine go_iload_n dX12_act_13 rfl 2 rfl ?_
    refine go_iconst (v := Int32.ofInt 0) dX12_act_14 rfl ?_
    refine go_iconst (v := Int32.ofInt 2) dX12_act_15 rfl ?_
    refine go_callS (d1 := d - 1) wSX12_47 rfl (by omega) (m_in (v := a) (lo := 0) (hi := 2) (by omega) (by omega) (by omega)) rfl (Nat.le_of_ble_eq_true rfl) dX12_act_16 (fun w σ1 hP => ?_)
    obtain ⟨rfl, rfl⟩ := hP
    refine go_if_neB (tgt := 24) dX12_act_19 (by decide) (fun c_19 => ?_) (fun c_19 => ?_)
    · obtain ⟨m1, m2, m3, m4, m5, m6, m7⟩ := hM m (by omega) (by omega)
      refine go_aload_n dX12_act_24 rfl 0 rfl ?_
      refine go_aload_n dX12_act_25 rfl 0 rfl ?_
      refine grm_g1 rfl dX12_act_26 ?_
      refine go_sipush (v := Int32.ofInt 130) dX12_act_29 (by decide) ?_
      refine go_iload_n dX12_act_32 rfl 1 rfl ?_
      refine go_addI dX12_act_33 ?_
      refine grm_l1 (by omega) (by omega) dX12_act_34 ?_
      rw [show r1 1 = s from q1_1]
      refine grm_w19 rfl dX12_act_35 ?_
      refine go_aload_n dX12_act_38 rfl 0 rfl ?_
      refine go_iload_n dX12_act_39 rfl 1 rfl ?_
      refine grm_w20 rfl dX12_act_40 ?_
      refine go_aload_n dX12_act_43 rfl 0 rfl ?_
      refine go_aload_n dX12_act_44 rfl 0 rfl ?_
      refine grm_g1 rfl dX12_act_45 ?_
      refine go_sipush (v := Int32.ofInt 166) dX12_act_48 (by decide) ?_
      refine go_iload_n dX12_act_51 rfl 1 rfl ?_
      refine go_addI dX12_act_52 ?_
      refine grm_l1 (by omega) (by omega) dX12_act_53 ?_
      rw [show (rm_u (rm_u r1 19 (fun _ => s (130 + m))) 20 (fun _ => m)) 1 = s from q1_1]
      refine grm_w21 rfl dX12_act_54 ?_
      obtain ⟨r2, e2⟩ : ∃ x_, x_ = (rm_u (rm_u (rm_u r1 19 (fun _ => s (130 + m))) 20 (fun _ => m)) 21 (fun _ => s (166 + m))) := ⟨_, rfl⟩
      rw [← e2]
      have q2_1 : r2 1 = s := by rw [e2]; exact (show (rm_u (rm_u (rm_u r1 19 (fun _ => s (130 + m))) 20 (fun _ => m)) 21 (fun _ => s (166 + m))) 1 = s from q1_1)
      have q2_2 : r2 2 = (r 2) := by rw [e2]; exact (show (rm_u (rm_u (rm_u r1 19 (fun _ => s (130 + m))) 20 (fun _ => m)) 21 (fun _ => s (166 + m))) 2 = (r 2) from q1_2)
      have q2_3 : r2 3 0 = (r 3 0) := by rw [e2]; exact (show (rm_u (rm_u (rm_u r1 19 (fun _ => s (130 + m))) 20 (fun _ => m)) 21 (fun _ => s (166 + m))) 3 0 = (r 3 0) from q1_3)
      have q2_17 : r2 17 = b := by rw [e2]; exact (show (rm_u (rm_u (rm_u r1 19 (fun _ => s (130 + m))) 20 (fun _ => m)) 21 (fun _ => s (166 + m))) 17 = b from q1_17)
      have q2_18 : r2 18 0 = 0 := by rw [e2]; exact (show (rm_u (rm_u (rm_u r1 19 (fun _ => s (130 + m))) 20 (fun _ => m)) 21 (fun _ => s (166 + m))) 18 0 = 0 from q1_18)
      have q2_19 : r2 19 0 = s (130 + m) := by rw [e2]; exact (show (rm_u (rm_u (rm_u r1 19 (fun _ => s (130 + m))) 20 (fun _ => m)) 21 (fun _ => s (166 + m))) 19 0 = s (130 + m) from rfl)
      have q2_20 : r2 20 0 = m := by rw [e2]; exact (show (rm_u (rm_u (rm_u r1 19 (fun _ => s (130 + m))) 20 (fun _ => m)) 21 (fun _ => s (166 + m))) 20 0 = m from rfl)
      have q2_21 : r2 21 0 = s (166 + m) := by rw [e2]; exact (show (rm_u (rm_u (rm_u r1 19 (fun _ => s (130 + m))) 20 (fun _ => m)) 21 (fun _ => s (166 + m))) 21 0 = s (166 + m) from rfl)
      refine go_iload_n dX12_act_57 rfl 2 rfl ?_
      refine go_if_neI (tgt := 69) (by omega) dX12_act_58 (by decide) (fun c_58 => ?_) (fun c_58 => ?_)
      · refine go_iload_n dX12_act_69 rfl 2 rfl ?_
        refine go_iconst (v := Int32.ofInt 1) dX12_act_70 rfl ?_
        refine go_icmp_neI (tgt := 82) (by omega) (by omega) dX12_act_71 (by decide) (fun c_71 => ?_) (fun c_71 => ?_)
        · refine go_aload_n dX12_act_82 rfl 0 rfl ?_
          refine go_iload_n dX12_act_83 rfl 3 rfl ?_
          refine go_callV (d1 := d - 1) wVX12_281 kX12 rm_ob rfl (by omega) (m_tellsActs (by omega) (x := x) (hb := (show r2 17 = b from q2_17)) (hn := (show r2 18 0 = 0 from q2_18)) (hkd := (show r2 19 0 = s (130 + m) from q2_19)) (hi := (show r2 20 0 = m from q2_20)) (hv := (show r2 21 0 = s (166 + m) from q2_21)) (by omega) (by omega)) rfl (Nat.le_of_ble_eq_true rfl) dX12_act_84 (fun w σ1 hP => ?_)
          obtain ⟨rfl, r3, ⟨hr3, hb3, hn3⟩, rfl⟩ := hP
          have q3_1 : r3 1 = s := (hr3 1 (by decide) (by decide)).trans (show r2 1 = s from q2_1)
          have q3_2 : r3 2 = (r 2) := (hr3 2 (by decide) (by decide)).trans (show r2 2 = (r 2) from q2_2)
          have q3_3 : r3 3 0 = (r 3 0) := (congrFun (hr3 3 (by decide) (by decide)) 0).trans (show r2 3 0 = (r 3 0) from q2_3)
          have q3_19 : r3 19 0 = s (130 + m) := (congrFun (hr3 19 (by decide) (by decide)) 0).trans (show r2 19 0 = s (130 + m) from q2_19)
          have q3_20 : r3 20 0 = m := (congrFun (hr3 20 (by decide) (by decide)) 0).trans (show r2 20 0 = m from q2_20)
          have q3_21 : r3 21 0 = s (166 + m) := (congrFun (hr3 21 (by decide) (by decide)) 0).trans (show r2 21 0 = s (166 + m) from q2_21)
          refine go_retI rfl rfl ?_ dX12_act_87
          exact ⟨by unfold sp_actA; rw [if_pos (by omega), if_neg (by omega), if_neg (by omega)], r3, ⟨(show r3 1 = s from q3_1), (show r3 2 = (r 2) from q3_2), (show r3 3 0 = (r 3 0) from q3_3), (by unfold sp_actA; rw [if_pos (by omega), if_neg (by omega), if_neg (by omega)]; exact (show r3 17 = (sp_te (s (130 + m)) m (s (166 + m)) x b 0).2.1 from hb3)), (by unfold sp_actA; rw [if_pos (by omega), if_neg (by omega), if_neg (by omega)]; exact (show r3 18 0 = (sp_te (s (130 + m)) m (s (166 + m)) x b 0).2.2 from hn3))⟩, rfl⟩
        · refine go_aload_n dX12_act_74 rfl 0 rfl ?_
          refine go_iload_n dX12_act_75 rfl 3 rfl ?_
          refine go_callV (d1 := d - 1) wVX12_275 kX12 rm_ob rfl (by omega) (m_turnsActs (by omega) (x := x) (hb := (show r2 17 = b from q2_17)) (hn := (show r2 18 0 = 0 from q2_18)) (hkd := (show r2 19 0 = s (130 + m) from q2_19)) (hi := (show r2 20 0 = m from q2_20)) (hv := (show r2 21 0 = s (166 + m) from q2_21)) (by omega) (by omega)) rfl (Nat.le_of_ble_eq_true rfl) dX12_act_76 (fun w σ1 hP => ?_)
          obtain ⟨rfl, r3, ⟨hr3, hb3, hn3⟩, rfl⟩ := hP
          have q3_1 : r3 1 = s := (hr3 1 (by decide) (by decide)).trans (show r2 1 = s from q2_1)
          have q3_2 : r3 2 = (r 2) := (hr3 2 (by decide) (by decide)).trans (show r2 2 = (r 2) from q2_2)
          have q3_3 : r3 3 0 = (r 3 0) := (congrFun (hr3 3 (by decide) (by decide)) 0).trans (show r2 3 0 = (r 3 0) from q2_3)
          have q3_19 : r3 19 0 = s (130 + m) := (congrFun (hr3 19 (by decide) (by decide)) 0).trans (show r2 19 0 = s (130 + m) from q2_19)
          have q3_20 : r3 20 0 = m := (congrFun (hr3 20 (by decide) (by decide)) 0).trans (show r2 20 0 = m from q2_20)
          have q3_21 : r3 21 0 = s (166 + m) := (congrFun (hr3 21 (by decide) (by decide)) 0).trans (show r2 21 0 = s (166 + m) from q2_21)
          refine go_goto (tgt := 87) dX12_act_79 (by decide) ?_
          refine go_retI rfl rfl ?_ dX12_act_87
          exact ⟨by unfold sp_actA; rw [if_pos (by omega), if_neg (by omega), if_pos (by omega)], r3, ⟨(show r3 1 = s from q3_1), (show r3 2 = (r 2) from q3_2), (show r3 3 0 = (r 3 0) from q3_3), (by unfold sp_actA; rw [if_pos (by omega), if_neg (by omega), if_pos (by omega)]; exact (show r3 17 = (sp_tu (s (130 + m)) m (s (166 + m)) x b 0).2.1 from hb3)), (by unfold sp_actA; rw [if_pos (by omega), if_neg (by omega), if_pos (by omega)]; exact (show r3 18 0 = (sp_tu (s (130 + m)) m (s (166 + m)) x b 0).2.2 from hn3))⟩, rfl⟩
      · refine go_aload_n dX12_act_61 rfl 0 rfl ?_
        refine go_iload_n dX12_act_62 rfl 3 rfl ?_
        refine go_callV (d1 := d - 1) wVX12_263 kX12 rm_ob rfl (by omega) (m_castsActs (by omega) (x := x) (hb := (show r2 17 = b from q2_17)) (hn := (show r2 18 0 = 0 from q2_18)) (hkd := (show r2 19 0 = s (130 + m) from q2_19)) (hi := (show r2 20 0 = m from q2_20)) (hv := (show r2 21 0 = s (166 + m) from q2_21)) (by omega) (by omega)) rfl (Nat.le_of_ble_eq_true rfl) dX12_act_63 (fun w σ1 hP => ?_)
        obtain ⟨rfl, r3, ⟨hr3, hb3, hn3⟩, rfl⟩ := hP
        have q3_1 : r3 1 = s := (hr3 1 (by decide) (by decide)).trans (show r2 1 = s from q2_1)
        have q3_2 : r3 2 = (r 2) := (hr3 2 (by decide) (by decide)).trans (show r2 2 = (r 2) from q2_2)
        have q3_3 : r3 3 0 = (r 3 0) := (congrFun (hr3 3 (by decide) (by decide)) 0).trans (show r2 3 0 = (r 3 0) from q2_3)
        have q3_19 : r3 19 0 = s (130 + m) := (congrFun (hr3 19 (by decide) (by decide)) 0).trans (show r2 19 0 = s (130 + m) from q2_19)
        have q3_20 : r3 20 0 = m := (congrFun (hr3 20 (by decide) (by decide)) 0).trans (show r2 20 0 = m from q2_20)
        have q3_21 : r3 21 0 = s (166 + m) := (congrFun (hr3 21 (by decide) (by decide)) 0).trans (show r2 21 0 = s (166 + m) from q2_21)
        refine go_goto (tgt := 87) dX12_act_66 (by decide) ?_
        refine go_retI rfl rfl ?_ dX12_act_87
        exact ⟨by unfold sp_actA; rw [if_pos (by omega), if_pos (by omega)], r3, ⟨(show r3 1 = s from q3_1), (show r3 2 = (r 2) from q3_2), (show r3 3 0 = (r 3 0) from q3_3), (by unfold sp_actA; rw [if_pos (by omega), if_pos (by omega)]; exact (show r3 17 = (sp_ca (s (130 + m)) m x b 0).2.1 from hb3)), (by unfold sp_actA; rw [if_pos (by omega), if_pos (by omega)]; exact (show r3 18 0 = (sp_ca (s (130 + m)) m x b 0).2.2 from hn3))⟩, rfl⟩
    · refine go_iconst (v := Int32.ofInt 0) dX12_act_22 rfl ?_
      refine go_retI rfl rfl ?_ dX12_act_23
      exact ⟨by unfold sp_actA; rw [if_neg (by omega)], r1, ⟨(show r1 1 = s from q1_1), (show r1 2 = (r 2) from q1_2), (show r1 3 0 = (r 3 0) from q1_3), (by unfold sp_actA; rw [if_neg (by omega)]; exact (show r1 17 = b from q1_17)), (by unfold sp_actA; rw [if_neg (by omega)]; exact (show r1 18 0 = 0 from q1_18))⟩, rfl⟩
/-- whether a mirror passes light of another on to a patch -/
def sp_pas (s : Int → Int) (m p g : Int) : Bool := decide (g ≠ m) && decide (s (130 + g) = 5) && sp_free s g p && sp_open s (s (136 + m)) (s (142 + m)) (s (148 + m)) (s (136 + g)) (s (142 + g)) (s (148 + g))
def sp_pasN (s : Int → Int) (m p : Int) : Nat → Nat → Int
  | 0, _ => -5
  | n + 1, g => if sp_pas s m p (g : Int) = true then (g : Int) else sp_pasN s m p n (g + 1)
def sp_pasF (s : Int → Int) (m p q : Int) : Int := if (0 ≤ m ∧ m < s 0) ∧ (0 ≤ p ∧ p < s 1) ∧ 0 ≤ q ∧ q < 8 then (if sp_so s (s 4) (-11) m 99 q = true then sp_pasN s m p (s 0).toNat 0 else -5) else -1
set_option maxRecDepth 20000 in
/-- m_passed -/
theorem m_passed {X9 : rj_X} {σ : rj_H} {d : Nat} {mb : Nat} {r : rm_R} {m p q : Int} (hd : 4 ≤ d) (hm : -2147483648 ≤ m ∧ m < 2147483648) (hp : -2147483648 ≤ p ∧ p < 2147483648) (hq : -2147483648 ≤ q ∧ q < 2147483648) {s : Int → Int} (hs : r 1 = s) (hI : sp_I s) : rj_Cl X9 d yX12_passed cX12_passed 6 (some .int) [.ref mb, rj_i m, rj_i p, rj_i q] (rm_p X9 mb r σ) (fun w9 τ => w9 = some (rj_i (sp_pasF s m p q)) ∧ ∃ r0, rm_V r r0 s ∧ τ = rm_p X9 mb r0 σ) := by
  obtain ⟨⟨h0, h1, h2, h3, h4, h5, h6, h7⟩, hM, hP, hW, hL, hV⟩ := id hI
  obtain ⟨v1, v2, v3, v4⟩ := id hV
  refine go_call (by decide +kernel) (Nat.le_of_ble_eq_true rfl) ?_
  refine go_eq (pc' := 0) (lv' := [(0, .ref mb), (1, rj_i m), (2, rj_i p), (3, rj_i q)]) (st' := []) rfl rfl rfl rfl ?_
  refine go_aload_n dX12_passed_0 rfl 0 rfl ?_
  refine go_iload_n dX12_passed_1 rfl 1 rfl ?_
  refine go_callV (d1 := d - 1) wVX12_56 kX12 rm_ob rfl (by omega) (m_isMirror (m := m) (by omega) (by omega) (hs := (show r 1 = s from hs)) (by omega)) rfl (Nat.le_of_ble_eq_true rfl) dX12_passed_2 (fun w σ1 hP => ?_)
  obtain ⟨rfl, rfl⟩ := hP
  refine go_if_eqB (tgt := 23) dX12_passed_5 (by decide) (fun c_5 => ?_) (fun c_5 => ?_)
  · refine go_iconst (v := Int32.ofInt (-1)) dX12_passed_23 rfl ?_
    refine go_retI rfl rfl ?_ dX12_passed_24
    exact ⟨rj_vi (by unfold sp_pasF; rw [if_neg (by omega)]), r, ⟨(show r 1 = s from hs), (show r 2 = (r 2) from rfl), (show r 3 0 = (r 3 0) from rfl), (show r 17 = (r 17) from rfl), (show r 18 0 = (r 18 0) from rfl)⟩, rfl⟩
  · refine go_aload_n dX12_passed_8 rfl 0 rfl ?_
    refine go_iload_n dX12_passed_9 rfl 2 rfl ?_
    refine go_callV (d1 := d - 1) wVX12_59 kX12 rm_ob rfl (by omega) (m_isPatch (p := p) (by omega) (by omega) (hs := (show r 1 = s from hs)) (by omega)) rfl (Nat.le_of_ble_eq_true rfl) dX12_passed_10 (fun w σ1 hP => ?_)
    obtain ⟨rfl, rfl⟩ := hP
    refine go_if_eqB (tgt := 23) dX12_passed_13 (by decide) (fun c_13 => ?_) (fun c_13 => ?_)
    · refine go_iconst (v := Int32.ofInt (-1)) dX12_passed_23 rfl ?_
      refine go_retI rfl rfl ?_ dX12_passed_24
      exact ⟨rj_vi (by unfold sp_pasF; rw [if_neg (by omega)]), r, ⟨(show r 1 = s from hs), (show r 2 = (r 2) from rfl), (show r 3 0 = (r 3 0) from rfl), (show r 17 = (r 17) from rfl), (show r 18 0 = (r 18 0) from rfl)⟩, rfl⟩
    · refine go_iload_n dX12_passed_16 rfl 3 rfl ?_
      refine go_callS (d1 := d - 1) wSX12_181 rfl (by omega) (m_isQuarter (q := q) (by omega) (by omega)) rfl (Nat.le_of_ble_eq_true rfl) dX12_passed_17 (fun w σ1 hP => ?_)
      obtain ⟨rfl, rfl⟩ := hP
      refine go_if_neB (tgt := 25) dX12_passed_20 (by decide) (fun c_20 => ?_) (fun c_20 => ?_)
      · refine go_aload_n dX12_passed_25 rfl 0 rfl ?_
        refine go_aload_n dX12_passed_26 rfl 0 rfl ?_
        refine grm_g1 rfl dX12_passed_27 ?_
        refine go_iconst (v := Int32.ofInt 4) dX12_passed_30 rfl ?_
        refine grm_l1 (by omega) (by omega) dX12_passed_31 ?_
        rw [show r 1 = s from hs]
        refine grm_w11 rfl dX12_passed_32 ?_
        obtain ⟨r1, e1⟩ : ∃ x_, x_ = (rm_u r 11 (fun _ => s 4)) := ⟨_, rfl⟩
        rw [← e1]
        have q1_1 : r1 1 = s := by rw [e1]; exact (show (rm_u r 11 (fun _ => s 4)) 1 = s from hs)
        have q1_2 : r1 2 = (r 2) := by rw [e1]; exact (show (rm_u r 11 (fun _ => s 4)) 2 = (r 2) from rfl)
        have q1_3 : r1 3 0 = (r 3 0) := by rw [e1]; exact (show (rm_u r 11 (fun _ => s 4)) 3 0 = (r 3 0) from rfl)
        have q1_17 : r1 17 = (r 17) := by rw [e1]; exact (show (rm_u r 11 (fun _ => s 4)) 17 = (r 17) from rfl)
        have q1_18 : r1 18 0 = (r 18 0) := by rw [e1]; exact (show (rm_u r 11 (fun _ => s 4)) 18 0 = (r 18 0) from rfl)
        have q1_11 : r1 11 0 = s 4 := by rw [e1]; exact (show (rm_u r 11 (fun _ => s 4)) 11 0 = s 4 from rfl)
        refine go_aload_n dX12_passed_35 rfl 0 rfl ?_
        refine go_iload_n dX12_passed_36 rfl 1 rfl ?_
        refine go_iload_n dX12_passed_37 rfl 3 rfl ?_
        refine go_callV (d1 := d - 1) wVX12_172 kX12 rm_ob rfl (by omega) (m_isLit (by omega) (m := m) (q := q) (hs := (show r1 1 = s from q1_1)) (hD := (show r1 11 0 = s 4 from q1_11)) (by omega) hI (by omega) (by omega)) rfl (Nat.le_of_ble_eq_true rfl) dX12_passed_38 (fun w σ1 hP => ?_)
        obtain ⟨rfl, r2, hr2, rfl⟩ := hP
        have q2_1 : r2 1 = s := (hr2 1 (by decide) (by decide)).trans (show r1 1 = s from q1_1)
        have q2_2 : r2 2 = (r 2) := (hr2 2 (by decide) (by decide)).trans (show r1 2 = (r 2) from q1_2)
        have q2_3 : r2 3 0 = (r 3 0) := (congrFun (hr2 3 (by decide) (by decide)) 0).trans (show r1 3 0 = (r 3 0) from q1_3)
        have q2_17 : r2 17 = (r 17) := (hr2 17 (by decide) (by decide)).trans (show r1 17 = (r 17) from q1_17)
        have q2_18 : r2 18 0 = (r 18 0) := (congrFun (hr2 18 (by decide) (by decide)) 0).trans (show r1 18 0 = (r 18 0) from q1_18)
        have q2_11 : r2 11 0 = s 4 := (congrFun (hr2 11 (by decide) (by decide)) 0).trans (show r1 11 0 = s 4 from q1_11)
        refine go_if_neB (tgt := 47) dX12_passed_41 (by decide) (fun c_41 => ?_) (fun c_41 => ?_)
        · refine go_iconst (v := Int32.ofInt 0) dX12_passed_47 rfl ?_
          refine go_istoreS (lv' := [(0, .ref mb), (1, rj_i m), (2, rj_i p), (3, rj_i q), (4, rj_i 0)]) (by decide) rfl dX12_passed_48 ?_
          obtain ⟨m1, m2, m3, m4, m5, m6, m7⟩ := hM m (by omega) (by omega)
          have hF0 : sp_pasF s m p q = sp_pasN s m p (s 0).toNat 0 := by unfold sp_pasF; rw [if_pos (by omega), if_pos c_41]
          have loop : ∀ n g : Nat, g + n = (s 0).toNat → (sp_pasF s m p q) = sp_pasN s m p n g → rj_Go X9 yX12_passed cX12_passed 6 (some .int) d (fun w9 τ => w9 = some (rj_i (sp_pasF s m p q)) ∧ ∃ r0, rm_V r r0 s ∧ τ = rm_p X9 mb r0 σ) 50 [(0, .ref mb), (1, rj_i m), (2, rj_i p), (3, rj_i q), (4, rj_i (g : Int))] [] (rm_p X9 mb r2 σ) := by
            intro n
            induction n with
            | zero =>
              intro g hk hF
              refine go_iload dX12_passed_50 4 rfl ?_
              refine go_aload_n dX12_passed_52 rfl 0 rfl ?_
              refine grm_g1 rfl dX12_passed_53 ?_
              refine go_iconst (v := Int32.ofInt 0) dX12_passed_56 rfl ?_
              refine grm_l1 (by omega) (by omega) dX12_passed_57 ?_
              rw [show r2 1 = s from q2_1]
              refine go_icmp_geI (tgt := 183) (by omega) (by omega) dX12_passed_58 (by decide) (fun c_58 => ?_) (fun c_58 => ?_)
              · refine go_bipush (v := Int32.ofInt (-5)) dX12_passed_183 (by decide) ?_
                refine go_retI rfl rfl ?_ dX12_passed_185
                exact ⟨rj_vi (by rw [hF]; rfl), r2, ⟨(show r2 1 = s from q2_1), (show r2 2 = (r 2) from q2_2), (show r2 3 0 = (r 3 0) from q2_3), (show r2 17 = (r 17) from q2_17), (show r2 18 0 = (r 18 0) from q2_18)⟩, rfl⟩
              · exact absurd c_58 (by omega)
            | succ n ih =>
              intro g hk hF
              obtain ⟨g1, g2, g3, g4, g5, g6, g7⟩ := hM (g : Int) (by omega) (by omega)
              refine go_iload dX12_passed_50 4 rfl ?_
              refine go_aload_n dX12_passed_52 rfl 0 rfl ?_
              refine grm_g1 rfl dX12_passed_53 ?_
              refine go_iconst (v := Int32.ofInt 0) dX12_passed_56 rfl ?_
              refine grm_l1 (by omega) (by omega) dX12_passed_57 ?_
              rw [show r2 1 = s from q2_1]
              refine go_icmp_geI (tgt := 183) (by omega) (by omega) dX12_passed_58 (by decide) (fun c_58 => ?_) (fun c_58 => ?_)
              · exact absurd c_58 (by omega)
              · refine go_iload dX12_passed_61 4 rfl ?_
                refine go_iload_n dX12_passed_63 rfl 1 rfl ?_
                refine go_icmp_eqI (tgt := 96) (by omega) (by omega) dX12_passed_64 (by decide) (fun c_64 => ?_) (fun c_64 => ?_)
                · refine go_iconst (v := Int32.ofInt 0) dX12_passed_96 rfl ?_
                  refine go_istoreS (lv' := [(0, .ref mb), (1, rj_i m), (2, rj_i p), (3, rj_i q), (4, rj_i (g : Int)), (5, rj_i 0)]) (by decide) rfl dX12_passed_97 ?_
                  refine go_iload dX12_passed_99 5 rfl ?_
                  refine go_if_eqI (tgt := 177) (by omega) dX12_passed_101 (by decide) (fun c_101 => ?_) (fun c_101 => ?_)
                  · refine go_iincI (a := (g : Int)) (n := 1) (k0 := 4) (lv' := [(0, .ref mb), (1, rj_i m), (2, rj_i p), (3, rj_i q), (4, rj_i ((g : Int) + 1)), (5, rj_i 0)]) rfl (by decide) rfl dX12_passed_177 ?_
                    refine go_goto (tgt := 50) dX12_passed_180 (by decide) ?_
                    refine go_sub (lv' := [(0, .ref mb), (1, rj_i m), (2, rj_i p), (3, rj_i q), (4, rj_i ((g : Int) + 1))]) (by intro q hq; simp only [List.mem_cons, List.not_mem_nil, or_false] at hq ⊢; rcases hq with rfl | rfl | rfl | rfl | rfl <;> simp) ?_
                    exact go_eq rfl (lv' := [(0, .ref mb), (1, rj_i m), (2, rj_i p), (3, rj_i q), (4, rj_i ((g + 1 : Nat) : Int))]) (rj_lk (rj_lk (rj_lk (rj_lk (rj_lj (by omega) rfl))))) rfl rfl (ih (g + 1) (by omega) (by rw [hF, sp_pasN, if_neg (by unfold sp_pas; simp [c_101, c_64])]))
                  · exact absurd c_101 (by omega)
                · refine go_aload_n dX12_passed_67 rfl 0 rfl ?_
                  refine grm_g1 rfl dX12_passed_68 ?_
                  refine go_sipush (v := Int32.ofInt 130) dX12_passed_71 (by decide) ?_
                  refine go_iload dX12_passed_74 4 rfl ?_
                  refine go_addI dX12_passed_76 ?_
                  refine grm_l1 (by omega) (by omega) dX12_passed_77 ?_
                  rw [show r2 1 = s from q2_1]
                  refine go_iconst (v := Int32.ofInt 5) dX12_passed_78 rfl ?_
                  refine go_icmp_neI (tgt := 96) (by omega) (by omega) dX12_passed_79 (by decide) (fun c_79 => ?_) (fun c_79 => ?_)
                  · refine go_iconst (v := Int32.ofInt 0) dX12_passed_96 rfl ?_
                    refine go_istoreS (lv' := [(0, .ref mb), (1, rj_i m), (2, rj_i p), (3, rj_i q), (4, rj_i (g : Int)), (5, rj_i 0)]) (by decide) rfl dX12_passed_97 ?_
                    refine go_iload dX12_passed_99 5 rfl ?_
                    refine go_if_eqI (tgt := 177) (by omega) dX12_passed_101 (by decide) (fun c_101 => ?_) (fun c_101 => ?_)
                    · refine go_iincI (a := (g : Int)) (n := 1) (k0 := 4) (lv' := [(0, .ref mb), (1, rj_i m), (2, rj_i p), (3, rj_i q), (4, rj_i ((g : Int) + 1)), (5, rj_i 0)]) rfl (by decide) rfl dX12_passed_177 ?_
                      refine go_goto (tgt := 50) dX12_passed_180 (by decide) ?_
                      refine go_sub (lv' := [(0, .ref mb), (1, rj_i m), (2, rj_i p), (3, rj_i q), (4, rj_i ((g : Int) + 1))]) (by intro q hq; simp only [List.mem_cons, List.not_mem_nil, or_false] at hq ⊢; rcases hq with rfl | rfl | rfl | rfl | rfl <;> simp) ?_
                      exact go_eq rfl (lv' := [(0, .ref mb), (1, rj_i m), (2, rj_i p), (3, rj_i q), (4, rj_i ((g + 1 : Nat) : Int))]) (rj_lk (rj_lk (rj_lk (rj_lk (rj_lj (by omega) rfl))))) rfl rfl (ih (g + 1) (by omega) (by rw [hF, sp_pasN, if_neg (by unfold sp_pas; simp [c_101, c_79, c_64])]))
                    · exact absurd c_101 (by omega)
                  · refine go_aload_n dX12_passed_82 rfl 0 rfl ?_
                    refine go_iload dX12_passed_83 4 rfl ?_
                    refine go_iload_n dX12_passed_85 rfl 2 rfl ?_
                    refine go_callV (d1 := d - 1) wVX12_160 kX12 rm_ob rfl (by omega) (m_isFree (by omega) (m := (g : Int)) (p := p) (hs := (show r2 1 = s from q2_1)) (by omega) (by omega) h0 h1 h2 hM hP hW) rfl (Nat.le_of_ble_eq_true rfl) dX12_passed_86 (fun w σ1 hP => ?_)
                    obtain ⟨rfl, rfl⟩ := hP
                    refine go_if_eqB (tgt := 96) dX12_passed_89 (by decide) (fun c_89 => ?_) (fun c_89 => ?_)
                    · refine go_iconst (v := Int32.ofInt 0) dX12_passed_96 rfl ?_
                      refine go_istoreS (lv' := [(0, .ref mb), (1, rj_i m), (2, rj_i p), (3, rj_i q), (4, rj_i (g : Int)), (5, rj_i 0)]) (by decide) rfl dX12_passed_97 ?_
                      refine go_iload dX12_passed_99 5 rfl ?_
                      refine go_if_eqI (tgt := 177) (by omega) dX12_passed_101 (by decide) (fun c_101 => ?_) (fun c_101 => ?_)
                      · refine go_iincI (a := (g : Int)) (n := 1) (k0 := 4) (lv' := [(0, .ref mb), (1, rj_i m), (2, rj_i p), (3, rj_i q), (4, rj_i ((g : Int) + 1)), (5, rj_i 0)]) rfl (by decide) rfl dX12_passed_177 ?_
                        refine go_goto (tgt := 50) dX12_passed_180 (by decide) ?_
                        refine go_sub (lv' := [(0, .ref mb), (1, rj_i m), (2, rj_i p), (3, rj_i q), (4, rj_i ((g : Int) + 1))]) (by intro q hq; simp only [List.mem_cons, List.not_mem_nil, or_false] at hq ⊢; rcases hq with rfl | rfl | rfl | rfl | rfl <;> simp) ?_
                        exact go_eq rfl (lv' := [(0, .ref mb), (1, rj_i m), (2, rj_i p), (3, rj_i q), (4, rj_i ((g + 1 : Nat) : Int))]) (rj_lk (rj_lk (rj_lk (rj_lk (rj_lj (by omega) rfl))))) rfl rfl (ih (g + 1) (by omega) (by rw [hF, sp_pasN, if_neg (by unfold sp_pas; simp [c_101, c_89, c_79, c_64])]))
                      · exact absurd c_101 (by omega)
                    · refine go_iconst (v := Int32.ofInt 1) dX12_passed_92 rfl ?_
                      refine go_goto (tgt := 97) dX12_passed_93 (by decide) ?_
                      refine go_istoreS (lv' := [(0, .ref mb), (1, rj_i m), (2, rj_i p), (3, rj_i q), (4, rj_i (g : Int)), (5, rj_i 1)]) (by decide) rfl dX12_passed_97 ?_
                      refine go_iload dX12_passed_99 5 rfl ?_
                      refine go_if_eqI (tgt := 177) (by omega) dX12_passed_101 (by decide) (fun c_101 => ?_) (fun c_101 => ?_)
                      · exact absurd c_101 (by omega)
                      · refine go_aload_n dX12_passed_104 rfl 0 rfl ?_
                        refine go_aload_n dX12_passed_105 rfl 0 rfl ?_
                        refine grm_g1 rfl dX12_passed_106 ?_
                        refine go_sipush (v := Int32.ofInt 136) dX12_passed_109 (by decide) ?_
                        refine go_iload_n dX12_passed_112 rfl 1 rfl ?_
                        refine go_addI dX12_passed_113 ?_
                        refine grm_l1 (by omega) (by omega) dX12_passed_114 ?_
                        rw [show r2 1 = s from q2_1]
                        refine go_aload_n dX12_passed_115 rfl 0 rfl ?_
                        refine grm_g1 rfl dX12_passed_116 ?_
                        refine go_sipush (v := Int32.ofInt 142) dX12_passed_119 (by decide) ?_
                        refine go_iload_n dX12_passed_122 rfl 1 rfl ?_
                        refine go_addI dX12_passed_123 ?_
                        refine grm_l1 (by omega) (by omega) dX12_passed_124 ?_
                        rw [show r2 1 = s from q2_1]
                        refine go_aload_n dX12_passed_125 rfl 0 rfl ?_
                        refine grm_g1 rfl dX12_passed_126 ?_
                        refine go_sipush (v := Int32.ofInt 148) dX12_passed_129 (by decide) ?_
                        refine go_iload_n dX12_passed_132 rfl 1 rfl ?_
                        refine go_addI dX12_passed_133 ?_
                        refine grm_l1 (by omega) (by omega) dX12_passed_134 ?_
                        rw [show r2 1 = s from q2_1]
                        refine go_aload_n dX12_passed_135 rfl 0 rfl ?_
                        refine grm_g1 rfl dX12_passed_136 ?_
                        refine go_sipush (v := Int32.ofInt 136) dX12_passed_139 (by decide) ?_
                        refine go_iload dX12_passed_142 4 rfl ?_
                        refine go_addI dX12_passed_144 ?_
                        refine grm_l1 (by omega) (by omega) dX12_passed_145 ?_
                        rw [show r2 1 = s from q2_1]
                        refine go_aload_n dX12_passed_146 rfl 0 rfl ?_
                        refine grm_g1 rfl dX12_passed_147 ?_
                        refine go_sipush (v := Int32.ofInt 142) dX12_passed_150 (by decide) ?_
                        refine go_iload dX12_passed_153 4 rfl ?_
                        refine go_addI dX12_passed_155 ?_
                        refine grm_l1 (by omega) (by omega) dX12_passed_156 ?_
                        rw [show r2 1 = s from q2_1]
                        refine go_aload_n dX12_passed_157 rfl 0 rfl ?_
                        refine grm_g1 rfl dX12_passed_158 ?_
                        refine go_sipush (v := Int32.ofInt 148) dX12_passed_161 (by decide) ?_
                        refine go_iload dX12_passed_164 4 rfl ?_
                        refine go_addI dX12_passed_166 ?_
                        refine grm_l1 (by omega) (by omega) dX12_passed_167 ?_
                        rw [show r2 1 = s from q2_1]
                        refine go_callV (d1 := d - 1) wVX12_156 kX12 rm_ob rfl (by omega) (m_areOpen (by omega) (x := s (136 + m)) (y := s (142 + m)) (hi := s (148 + m)) (u := s (136 + (g : Int))) (v := s (142 + (g : Int))) (lo := s (148 + (g : Int))) (by omega) (by omega) (by omega) (by omega) (by omega) (by omega) (hs := (show r2 1 = s from q2_1)) h2 hW) rfl (Nat.le_of_ble_eq_true rfl) dX12_passed_168 (fun w σ1 hP => ?_)
                        obtain ⟨rfl, rfl⟩ := hP
                        refine go_if_eqB (tgt := 177) dX12_passed_171 (by decide) (fun c_171 => ?_) (fun c_171 => ?_)
                        · refine go_iincI (a := (g : Int)) (n := 1) (k0 := 4) (lv' := [(0, .ref mb), (1, rj_i m), (2, rj_i p), (3, rj_i q), (4, rj_i ((g : Int) + 1)), (5, rj_i 1)]) rfl (by decide) rfl dX12_passed_177 ?_
                          refine go_goto (tgt := 50) dX12_passed_180 (by decide) ?_
                          refine go_sub (lv' := [(0, .ref mb), (1, rj_i m), (2, rj_i p), (3, rj_i q), (4, rj_i ((g : Int) + 1))]) (by intro q hq; simp only [List.mem_cons, List.not_mem_nil, or_false] at hq ⊢; rcases hq with rfl | rfl | rfl | rfl | rfl <;> simp) ?_
                          exact go_eq rfl (lv' := [(0, .ref mb), (1, rj_i m), (2, rj_i p), (3, rj_i q), (4, rj_i ((g + 1 : Nat) : Int))]) (rj_lk (rj_lk (rj_lk (rj_lk (rj_lj (by omega) rfl))))) rfl rfl (ih (g + 1) (by omega) (by rw [hF, sp_pasN, if_neg (by unfold sp_pas; simp [c_171, c_101, c_89, c_79, c_64])]))
                        · refine go_iload dX12_passed_174 4 rfl ?_
                          refine go_retI rfl rfl ?_ dX12_passed_176
                          exact ⟨rj_vi (by rw [hF, sp_pasN, if_pos (by unfold sp_pas; simp [c_64, c_79, c_89, c_171])]), r2, ⟨(show r2 1 = s from q2_1), (show r2 2 = (r 2) from q2_2), (show r2 3 0 = (r 3 0) from q2_3), (show r2 17 = (r 17) from q2_17), (show r2 18 0 = (r 18 0) from q2_18)⟩, rfl⟩
          exact go_eq rfl (lv' := [(0, .ref mb), (1, rj_i m), (2, rj_i p), (3, rj_i q), (4, rj_i ((0 : Nat) : Int))]) (rj_lk (rj_lk (rj_lk (rj_lk (rj_lj (by omega) rfl))))) rfl rfl (loop ((s 0).toNat - 0) 0 (by omega) (hF0))
        · refine go_bipush (v := Int32.ofInt (-5)) dX12_passed_44 (by decide) ?_
          refine go_retI rfl rfl ?_ dX12_passed_46
          exact ⟨rj_vi (by unfold sp_pasF; rw [if_pos (by omega), if_neg c_41]), r2, ⟨(show r2 1 = s from q2_1), (show r2 2 = (r 2) from q2_2), (show r2 3 0 = (r 3 0) from q2_3), (show r2 17 = (r 17) from q2_17), (show r2 18 0 = (r 18 0) from q2_18)⟩, rfl⟩
      · refine go_iconst (v := Int32.ofInt (-1)) dX12_passed_23 rfl ?_
        refine go_retI rfl rfl ?_ dX12_passed_24
        exact ⟨rj_vi (by unfold sp_pasF; rw [if_neg (by omega)]), r, ⟨(show r 1 = s from hs), (show r 2 = (r 2) from rfl), (show r 3 0 = (r 3 0) from rfl), (show r 17 = (r 17) from rfl), (show r 18 0 = (r 18 0) from rfl)⟩, rfl⟩
