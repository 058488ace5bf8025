/-! THE REFERENCE, 27: clauses, valley -/
theorem m_fac {X9 : rj_X} {mb : Nat} {σ : rj_H} {T : Int → Int} {e a : Int} : ∀ (n : Nat), n ≤ 5 → ∀ d : Nat, 3 * n + 6 ≤ d → pc_Ct X9 mb σ T e a d yX12_factor cX12_factor 5 (5 - (n : Int)) (sp_fac T e n)
  | 0, _, d, hd => fun r s p hs ha hp he ho hP h7 => m_factor_0 hs ha hp he ho hP h7 (by omega) (by omega)
  | n + 1, hn, d, hd => fun r s p hs ha hp he ho hP h7 => by
    have eo : (5 - ((n + 1 : Nat) : Int)) + 1 = 5 - (n : Int) := by omega
    have pT : sp_TB T e := hP.2.2.2.1
    refine m_factor_s (n := n) hs ha hp he ho hP h7 (by omega) (by omega) ?_ ?_
    · rw [eo]; exact m_fac n (by omega) (d - 1) (by omega)
    · rw [eo]
      refine fun r s p hs ha hp he ho hP h7 => m_some hs ha hp he ho hP h7 (by omega) ?_ (sp_ev_G pT (sp_fac_G pT n))
      exact fun r s p hs ha hp he ho hP h7 => m_every hs ha hp he ho hP h7 (by omega) (m_fac n (by omega) (d - 1 - 1 - 1) (by omega)) (sp_fac_G pT n)
theorem m_som5 {X9 : rj_X} {mb : Nat} {σ : rj_H} {T : Int → Int} {e a : Int} {d : Nat} (hd : 23 ≤ d) : pc_Ct X9 mb σ T e a d yX12_some cX12_some 1 0 (sp_som T e (sp_fac T e 5)) := by
  intro r s p hs ha hp he ho hP h7
  have pT : sp_TB T e := hP.2.2.2.1
  refine m_some hs ha hp he ho hP h7 (by omega) ?_ (sp_ev_G pT (sp_fac_G pT 5))
  exact fun r s p hs ha hp he ho hP h7 => m_every hs ha hp he ho hP h7 (by omega) (m_fac 5 (by omega) (d - 1 - 1) (by omega)) (sp_fac_G pT 5)
theorem sp_sp_b {T : Int → Int} {e p : Int} {i : Nat} (h : sp_TB T e) (hi : i < 7) (hp : 0 ≤ p ∧ p ≤ e) : p ≤ (sp_sp T e i p).2 ∧ (sp_sp T e i p).2 ≤ e := sp_spK_b h hi hp _ (Nat.le_refl _)
theorem sp_spK_l {T : Int → Int} {e p : Int} {i : Nat} : ∀ k : Nat, (sp_spK T e i p k).1 = true → (sp_spK T e i p k).2 = p + (k : Int)
  | 0, _ => by rw [sp_spK]; simp
  | k + 1, h => by
    rw [sp_spK] at h ⊢
    by_cases q : (sp_spK T e i p k).1 = true ∧ sp_hr T e (sp_spK T e i p k).2 = rj_sc i k
    · rw [if_pos q]; have := sp_spK_l k q.1; simp only [this]; omega
    · rw [if_neg q] at h; exact absurd h (by simp)
theorem sp_whn_G {T : Int → Int} {e : Int} {i : Nat} {kind : Int} (h : sp_TB T e) (hi : i < 7) (h1 : 1 ≤ rj_sl i) : sp_G e (sp_whn T e i kind) := by
  intro p p0 p1
  have b1 := sp_sp_b (i := i) h hi ⟨p0, p1⟩
  unfold sp_whn
  split
  · rename_i q
    have b2 : (sp_sp T e i p).2 = p + (rj_sl i : Int) := sp_spK_l _ q
    obtain ⟨f1, f2, f3⟩ := sp_som_G h (sp_fac_G h 5) (sp_sp T e i p).2 (by omega) (by omega)
    refine ⟨by show p ≤ (sp_som T e (sp_fac T e 5) (sp_sp T e i p).2).2.1; omega, f2, ?_⟩
    show ((((sp_som T e (sp_fac T e 5) (sp_sp T e i p).2).2.2 ++ (if (sp_som T e (sp_fac T e 5) (sp_sp T e i p).2).1 = true then [kind] else []) : List Int).length : Nat) : Int) ≤ (sp_som T e (sp_fac T e 5) (sp_sp T e i p).2).2.1 - p
    rw [List.length_append]
    split <;> simp only [List.length_cons, List.length_nil] <;> omega
  · unfold sp_G1; simp; omega
theorem sp_tel_b {T : Int → Int} {e most p : Int} {i : Nat} (h : sp_TB T e) (hi : i < 7) (hp : 0 ≤ p ∧ p ≤ e) (hm : 0 ≤ most) : p ≤ (sp_tel T e i most p).2.1 ∧ (sp_tel T e i most p).2.1 ≤ e ∧ 0 ≤ (sp_tel T e i most p).2.2 ∧ (sp_tel T e i most p).2.2 ≤ most := by
  have b1 := sp_sp_b (i := i) h hi hp
  have b2 := sp_num_b (p := (sp_sp T e i p).2) h (by omega)
  unfold sp_tel
  split
  · refine ⟨by dsimp only; omega, by dsimp only; omega, by dsimp only; split <;> omega, by dsimp only; split <;> omega⟩
  · dsimp only; omega
/-- a clause's bounds -/
def sp_CB (p e : Int) (C : sp_C) : Prop := p ≤ C.2.1 ∧ C.2.1 ≤ e ∧ (C.2.2.1.length : Int) ≤ C.2.1 - p ∧ (0 ≤ C.2.2.2.1 ∧ C.2.2.2.1 ≤ 10) ∧ 0 ≤ C.2.2.2.2 ∧ C.2.2.2.2 ≤ 99
theorem sp_cla_B {T : Int → Int} {e p cl tn : Int} (h : sp_TB T e) (hp : 0 ≤ p ∧ p ≤ e) (hc : 0 ≤ cl ∧ cl ≤ 10) (ht : 0 ≤ tn ∧ tn ≤ 99) : sp_CB p e (sp_cla T e p cl tn) := by
  unfold sp_cla
  split
  · obtain ⟨f1, f2, f3⟩ := sp_whn_G (i := 0) (kind := -11) h (by decide) (by decide) p hp.1 hp.2; exact ⟨f1, f2, f3, hc, ht⟩
  · split
    · obtain ⟨f1, f2, f3⟩ := sp_whn_G (i := 1) (kind := -12) h (by decide) (by decide) p hp.1 hp.2; exact ⟨f1, f2, f3, hc, ht⟩
    · split
      · obtain ⟨f1, f2, f3⟩ := sp_whn_G (i := 2) (kind := -13) h (by decide) (by decide) p hp.1 hp.2; exact ⟨f1, f2, f3, hc, ht⟩
      · split
        · obtain ⟨f1, f2, f3, f4⟩ := sp_tel_b (i := 3) (most := 10) h (by decide) hp (by decide)
          refine ⟨f1, f2, ?_, ?_, ht⟩
          · show ((([] : List Int).length : Nat) : Int) ≤ (sp_tel T e 3 10 p).2.1 - p; simp only [List.length_nil]; omega
          · show 0 ≤ (if (sp_tel T e 3 10 p).1 = true then (sp_tel T e 3 10 p).2.2 else cl) ∧ (if (sp_tel T e 3 10 p).1 = true then (sp_tel T e 3 10 p).2.2 else cl) ≤ 10
            split <;> omega
        · split
          · obtain ⟨f1, f2, f3, f4⟩ := sp_tel_b (i := 4) (most := 99) h (by decide) hp (by decide)
            refine ⟨f1, f2, ?_, hc, ?_⟩
            · show ((([] : List Int).length : Nat) : Int) ≤ (sp_tel T e 4 99 p).2.1 - p; simp only [List.length_nil]; omega
            · show 0 ≤ (if (sp_tel T e 4 99 p).1 = true then (sp_tel T e 4 99 p).2.2 else tn) ∧ (if (sp_tel T e 4 99 p).1 = true then (sp_tel T e 4 99 p).2.2 else tn) ≤ 99
              split <;> omega
          · refine ⟨by dsimp only; omega, by dsimp only; omega, ?_, hc, ht⟩
            simp
theorem sp_cct_B {p e : Int} {C X : sp_C} (hC : sp_CB p e C) (hX : sp_CB (C.2.1 + 1) e X) : sp_CB p e (sp_cct C X) := by
  obtain ⟨c1, c2, c3, c4, c5⟩ := hC
  obtain ⟨x1, x2, x3, x4, x5⟩ := hX
  refine ⟨by show p ≤ X.2.1; omega, x2, ?_, x4, x5⟩
  show (((C.2.2.1 ++ X.2.2.1).length : Nat) : Int) ≤ X.2.1 - p
  rw [List.length_append]; omega
theorem sp_cls_B {T : Int → Int} {e : Int} (h : sp_TB T e) {p : Int} (hp : 0 ≤ p) : ∀ (f : Nat) (C : sp_C), sp_CB p e C → sp_CB p e (sp_cls T e f C)
  | 0, C, hC => hC
  | f + 1, C, hC => by
    rw [sp_cls]
    split
    · rename_i q
      have h1 := sp_hr_b (p := C.2.1) h (by have := hC.1; omega)
      have h2 := hC.2.1
      have h3 := hC.1
      exact sp_cls_B h hp f _ (sp_cct_B hC (sp_cla_B h (by omega) hC.2.2.2.1 hC.2.2.2.2))
    · exact hC
theorem sp_vl_B {T : Int → Int} {e : Int} (h : sp_TB T e) (he : 0 ≤ e) : sp_CB 0 e (sp_vl T e) := sp_cls_B h (by decide) 9 _ (sp_cla_B h (by omega) (by omega) (by omega))
/-- valley a: its steps, cloud, turn, laid over B -/
def sp_vs (B : Int → Int) (a : Int) (l : List Int) (cl tn : Int) : Int → Int := sp_ems (rj_up (rj_up B (284 + a) cl) (289 + a) tn) a l
theorem sp_em1_up {s : Int → Int} {a x j v : Int} (hc : 0 ≤ s (294 + a)) (ha : 0 ≤ a) (hj : j < 294) : rj_up (sp_em1 a s x) j v = sp_em1 a (rj_up s j v) x := by
  unfold sp_em1
  rw [rj_up_ne s v (show 294 + a ≠ j by omega)]
  funext i
  unfold rj_up
  (repeat' split) <;> first | rfl | omega
theorem sp_ems_up {a j v : Int} (ha : 0 ≤ a) (hj : j < 294) : ∀ (l : List Int) (s : Int → Int), 0 ≤ s (294 + a) → rj_up (sp_ems s a l) j v = sp_ems (rj_up s j v) a l
  | [], s, _ => rfl
  | x :: l, s, hc => by
    show rj_up (sp_ems (sp_em1 a s x) a l) j v = sp_ems (sp_em1 a (rj_up s j v) x) a l
    rw [sp_ems_up ha hj l _ (by rw [sp_em1_c]; omega), sp_em1_up hc ha hj]
theorem sp_vs_app (B : Int → Int) (a : Int) (l m : List Int) (cl tn : Int) : sp_ems (sp_vs B a l cl tn) a m = sp_vs B a (l ++ m) cl tn := (sp_ems_app _ _ _ _).symm
theorem sp_vs_cl {B : Int → Int} {a cl tn v : Int} {l : List Int} (ha : 0 ≤ a ∧ a ≤ 4) (h0 : B (294 + a) = 0) : rj_up (sp_vs B a l cl tn) (284 + a) v = sp_vs B a l v tn := by
  unfold sp_vs
  rw [sp_ems_up ha.1 (by omega) l _ (by rw [rj_up_ne _ _ (by omega), rj_up_ne _ _ (by omega), h0]; omega)]
  congr 1
  funext i
  unfold rj_up
  (repeat' split) <;> first | rfl | omega
theorem sp_vs_tn {B : Int → Int} {a cl tn v : Int} {l : List Int} (ha : 0 ≤ a ∧ a ≤ 4) (h0 : B (294 + a) = 0) : rj_up (sp_vs B a l cl tn) (289 + a) v = sp_vs B a l cl v := by
  unfold sp_vs
  rw [sp_ems_up ha.1 (by omega) l _ (by rw [rj_up_ne _ _ (by omega), rj_up_ne _ _ (by omega), h0]; omega)]
  congr 1
  funext i
  unfold rj_up
  (repeat' split) <;> first | rfl | omega
/-- what the row B is, below valley a -/
def sp_BB (T : Int → Int) (e a : Int) (B : Int → Int) : Prop := (0 ≤ a ∧ a ≤ 4) ∧ e ≤ 120 ∧ sp_TB T e ∧ (∀ j : Int, 0 ≤ j → j < e → B (10 + j) = T j) ∧ B (294 + a) = 0
theorem sp_BB.P {T : Int → Int} {e a : Int} {B : Int → Int} {l : List Int} {cl tn p : Int} (h : sp_BB T e a B) (hp : 0 ≤ p ∧ p ≤ e) (hl : (l.length : Int) ≤ p) : sp_P T e a p (sp_vs B a l cl tn) := by
  obtain ⟨h1, h2, h3, h4, h5⟩ := h
  have e0 : rj_up (rj_up B (284 + a) cl) (289 + a) tn (294 + a) = 0 := by rw [rj_up_ne _ _ (by omega), rj_up_ne _ _ (by omega), h5]
  refine ⟨h1, hp, h2, h3, fun j a1 a2 => ?_, ?_, ?_⟩
  · unfold sp_vs; rw [sp_ems_lo h1.1 (by omega) l _ (by omega), rj_up_ne _ _ (by omega), rj_up_ne _ _ (by omega)]; exact h4 j a1 a2
  · unfold sp_vs; rw [sp_ems_c, e0]; omega
  · unfold sp_vs; rw [sp_ems_c, e0]; omega
set_option maxRecDepth 20000 in
/-- m_when -/
theorem m_when {X9 : rj_X} {σ : rj_H} {d : Nat} {mb : Nat} {r : rm_R} {i : Nat} {kind : Int} (hd : 24 ≤ d) (hi : i < 7) {s T : Int → Int} {e a p o : Int} (hs : r 1 = s) (ha : r 4 0 = a) (hp : r 5 0 = p) (he : r 6 0 = e) (ho : r 8 0 = o) (hP : sp_P T e a p s) (h7 : r 7 0 = 0) (ho0 : o = 0) : rj_Cl X9 d yX12_when cX12_when 3 none [.ref mb, rj_i kind, .ref (rj_sk X9 i)] (rm_p X9 mb r σ) (fun w9 τ => w9 = none ∧ ∃ r0, rm_e r r0 (sp_ems s a (sp_whn T e i kind p).2.2) ((sp_whn T e i kind p).2.1) (rj_b ((sp_whn T e i kind p).1 = false)) ∧ τ = rm_p X9 mb r0 σ) := by
  obtain ⟨pa, pp, pe, pT, pt, pc0, pc1⟩ := id hP
  have ph := sp_hr_b pT pp.1
  refine go_call (by decide +kernel) (Nat.le_of_ble_eq_true rfl) ?_
  refine go_eq (pc' := 0) (lv' := [(0, .ref mb), (1, rj_i kind), (2, .ref (rj_sk X9 i))]) (st' := []) rfl rfl rfl rfl ?_
  refine go_aload_n dX12_when_0 rfl 0 rfl ?_
  refine go_aload_n dX12_when_1 rfl 2 rfl ?_
  refine go_callV (d1 := d - 1) wVX12_120 kX12 rm_ob rfl (by omega) (m_spells (T := T) (i := i) (by omega) hi (hs := (show r 1 = s from hs)) (ha := (show r 4 0 = a from ha)) (hp := (show r 5 0 = p from hp)) (he := (show r 6 0 = e from he)) (ho := (show r 8 0 = o from ho)) hP (show r 7 0 = 0 from h7)) rfl (Nat.le_of_ble_eq_true rfl) dX12_when_2 (fun w σ1 hP9 => ?_)
  obtain ⟨rfl, r1, ⟨q1_1, q1_5, q1_7, qo1, qa1⟩, rfl⟩ := hP9
  have q1_4 : r1 4 0 = a := (congrFun (qa1 4 (by decide) (by decide) (by decide) (by decide)) 0).trans (show r 4 0 = a from ha)
  have q1_6 : r1 6 0 = e := (congrFun (qa1 6 (by decide) (by decide) (by decide) (by decide)) 0).trans (show r 6 0 = e from he)
  have q1_8 : r1 8 0 = o := qo1.trans (show r 8 0 = o from ho)
  have ao1 : ∀ j : Nat, j ≠ 1 → j ≠ 5 → j ≠ 7 → j ≠ 8 → r1 j = r j := fun j b1 b2 b3 b4 => (qa1 j b1 b2 b3 b4).trans ((fun j _ _ _ _ => rfl) j b1 b2 b3 b4)
  have spb := sp_sp_b (i := i) pT hi pp
  refine go_aload_n dX12_when_5 rfl 0 rfl ?_
  by_cases hx : (sp_sp T e i p).1 = true
  · refine go_callV (d1 := d - 1) wVX12_103 kX12 rm_ob rfl (by omega) (m_som5 (by omega) _ _ _ (show r1 1 = s from q1_1) (show r1 4 0 = a from q1_4) (show r1 5 0 = (sp_sp T e i p).2 from q1_5) (show r1 6 0 = e from q1_6) ((show r1 8 0 = o from q1_8).trans ho0) (hP.up (p' := (sp_sp T e i p).2) (by omega) (by omega)) (show r1 7 0 = 0 from ((show r1 7 0 = rj_b ((sp_sp T e i p).1 = false) from q1_7)).trans (rj_bf (by simp [hx])))) rfl (Nat.le_of_ble_eq_true rfl) dX12_when_6 (fun w σ1 hP9 => ?_)
    obtain ⟨rfl, r2, ⟨q2_1, q2_5, q2_7, qo2, qa2⟩, rfl⟩ := hP9
    have q2_4 : r2 4 0 = a := (congrFun (qa2 4 (by decide) (by decide) (by decide) (by decide)) 0).trans (show r1 4 0 = a from q1_4)
    have q2_6 : r2 6 0 = e := (congrFun (qa2 6 (by decide) (by decide) (by decide) (by decide)) 0).trans (show r1 6 0 = e from q1_6)
    have q2_8 : r2 8 0 = o := qo2.trans (show r1 8 0 = o from q1_8)
    have ao2 : ∀ j : Nat, j ≠ 1 → j ≠ 5 → j ≠ 7 → j ≠ 8 → r2 j = r j := fun j b1 b2 b3 b4 => (qa2 j b1 b2 b3 b4).trans (ao1 j b1 b2 b3 b4)
    obtain ⟨g1, g2, g3⟩ := (sp_som_G pT (sp_fac_G pT 5)) ((sp_sp T e i p).2) (by omega) (by omega)
    refine go_aload_n dX12_when_9 rfl 0 rfl ?_
    refine go_iload_n dX12_when_10 rfl 1 rfl ?_
    by_cases hy : (sp_som T e (sp_fac T e 5) (sp_sp T e i p).2).1 = true
    · refine go_callV (d1 := d - 1) wVX12_100 kX12 rm_ob rfl (by omega) (m_emits (T := T) (x := kind) (hs := (show r2 1 = sp_ems s a (sp_som T e (sp_fac T e 5) ((sp_sp T e i p).2)).2.2 from q2_1)) (ha := (show r2 4 0 = a from q2_4)) (hp := (show r2 5 0 = (sp_som T e (sp_fac T e 5) ((sp_sp T e i p).2)).2.1 from q2_5)) (he := (show r2 6 0 = e from q2_6)) (ho := (show r2 8 0 = o from q2_8)) ((hP.up (p' := (sp_sp T e i p).2) (by omega) (by omega)).st (l := (sp_som T e (sp_fac T e 5) ((sp_sp T e i p).2)).2.2) (p' := (sp_som T e (sp_fac T e 5) ((sp_sp T e i p).2)).2.1) (by omega) (by omega)) (show r2 7 0 = 0 from ((show r2 7 0 = rj_b ((sp_som T e (sp_fac T e 5) ((sp_sp T e i p).2)).1 = false) from q2_7)).trans (rj_bf (by simp [hy])))) rfl (Nat.le_of_ble_eq_true rfl) dX12_when_11 (fun w σ1 hP9 => ?_)
      obtain ⟨rfl, r3, ⟨q3_1, q3_5, q3_7, qo3, qa3⟩, rfl⟩ := hP9
      have q3_4 : r3 4 0 = a := (congrFun (qa3 4 (by decide) (by decide) (by decide) (by decide)) 0).trans (show r2 4 0 = a from q2_4)
      have q3_6 : r3 6 0 = e := (congrFun (qa3 6 (by decide) (by decide) (by decide) (by decide)) 0).trans (show r2 6 0 = e from q2_6)
      have q3_8 : r3 8 0 = o := qo3.trans (show r2 8 0 = o from q2_8)
      have ao3 : ∀ j : Nat, j ≠ 1 → j ≠ 5 → j ≠ 7 → j ≠ 8 → r3 j = r j := fun j b1 b2 b3 b4 => (qa3 j b1 b2 b3 b4).trans (ao2 j b1 b2 b3 b4)
      refine go_retV rfl ?_ dX12_when_14
      have hW : sp_whn T e i kind p = ((sp_som T e (sp_fac T e 5) (sp_sp T e i p).2).1, (sp_som T e (sp_fac T e 5) (sp_sp T e i p).2).2.1, (sp_som T e (sp_fac T e 5) (sp_sp T e i p).2).2.2 ++ (if (sp_som T e (sp_fac T e 5) (sp_sp T e i p).2).1 = true then [kind] else [])) := by unfold sp_whn; rw [if_pos hx]
      exact ⟨rfl, r3, ⟨((show r3 1 = sp_em1 a (sp_ems s a (sp_som T e (sp_fac T e 5) ((sp_sp T e i p).2)).2.2) kind from q3_1)).trans (by rw [hW]; simp [hy, sp_ems_app, sp_ems_1]), ((show r3 5 0 = (sp_som T e (sp_fac T e 5) ((sp_sp T e i p).2)).2.1 from q3_5)).trans (by rw [hW]), ((show r3 7 0 = 0 from q3_7)).trans ((rj_bf (by rw [hW]; simp [hy])).symm), ((show r3 8 0 = o from q3_8)).trans ho.symm, ao3⟩, rfl⟩
    · refine go_callV (d1 := d - 1) wVX12_100 kX12 rm_ob rfl (by omega) (m_emits_w (T := T) (x := kind) (hs := (show r2 1 = sp_ems s a (sp_som T e (sp_fac T e 5) ((sp_sp T e i p).2)).2.2 from q2_1)) (ha := (show r2 4 0 = a from q2_4)) (hp := (show r2 5 0 = (sp_som T e (sp_fac T e 5) ((sp_sp T e i p).2)).2.1 from q2_5)) (he := (show r2 6 0 = e from q2_6)) (ho := (show r2 8 0 = o from q2_8)) ((hP.up (p' := (sp_sp T e i p).2) (by omega) (by omega)).st (l := (sp_som T e (sp_fac T e 5) ((sp_sp T e i p).2)).2.2) (p' := (sp_som T e (sp_fac T e 5) ((sp_sp T e i p).2)).2.1) (by omega) (by omega)) (show r2 7 0 = 1 from ((show r2 7 0 = rj_b ((sp_som T e (sp_fac T e 5) ((sp_sp T e i p).2)).1 = false) from q2_7)).trans (rj_bt (by simpa using hy)))) rfl (Nat.le_of_ble_eq_true rfl) dX12_when_11 (fun w σ1 hP9 => ?_)
      obtain ⟨rfl, r3, ⟨q3_1, q3_5, q3_7, qo3, qa3⟩, rfl⟩ := hP9
      have q3_4 : r3 4 0 = a := (congrFun (qa3 4 (by decide) (by decide) (by decide) (by decide)) 0).trans (show r2 4 0 = a from q2_4)
      have q3_6 : r3 6 0 = e := (congrFun (qa3 6 (by decide) (by decide) (by decide) (by decide)) 0).trans (show r2 6 0 = e from q2_6)
      have q3_8 : r3 8 0 = o := qo3.trans (show r2 8 0 = o from q2_8)
      have ao3 : ∀ j : Nat, j ≠ 1 → j ≠ 5 → j ≠ 7 → j ≠ 8 → r3 j = r j := fun j b1 b2 b3 b4 => (qa3 j b1 b2 b3 b4).trans (ao2 j b1 b2 b3 b4)
      refine go_retV rfl ?_ dX12_when_14
      have hW : sp_whn T e i kind p = ((sp_som T e (sp_fac T e 5) (sp_sp T e i p).2).1, (sp_som T e (sp_fac T e 5) (sp_sp T e i p).2).2.1, (sp_som T e (sp_fac T e 5) (sp_sp T e i p).2).2.2 ++ (if (sp_som T e (sp_fac T e 5) (sp_sp T e i p).2).1 = true then [kind] else [])) := by unfold sp_whn; rw [if_pos hx]
      exact ⟨rfl, r3, ⟨((show r3 1 = sp_ems s a (sp_som T e (sp_fac T e 5) ((sp_sp T e i p).2)).2.2 from q3_1)).trans (by rw [hW]; simp [hy, sp_ems_app, sp_ems_1]), ((show r3 5 0 = (sp_som T e (sp_fac T e 5) ((sp_sp T e i p).2)).2.1 from q3_5)).trans (by rw [hW]), ((show r3 7 0 = 1 from q3_7)).trans ((rj_bt (by rw [hW]; simp [hy])).symm), ((show r3 8 0 = o from q3_8)).trans ho.symm, ao3⟩, rfl⟩
  · refine go_callV (d1 := d - 1) wVX12_103 kX12 rm_ob rfl (by omega) (m_some_w (by omega) (T := T) (hs := (show r1 1 = s from q1_1)) (ha := (show r1 4 0 = a from q1_4)) (hp := (show r1 5 0 = (sp_sp T e i p).2 from q1_5)) (he := (show r1 6 0 = e from q1_6)) (ho := (show r1 8 0 = o from q1_8)) (hP.up (p' := (sp_sp T e i p).2) (by omega) (by omega)) (show r1 7 0 = 1 from ((show r1 7 0 = rj_b ((sp_sp T e i p).1 = false) from q1_7)).trans (rj_bt (by simpa using hx)))) rfl (Nat.le_of_ble_eq_true rfl) dX12_when_6 (fun w σ1 hP9 => ?_)
    obtain ⟨rfl, r2, ⟨q2_1, q2_5, q2_7, qo2, qa2⟩, rfl⟩ := hP9
    have q2_4 : r2 4 0 = a := (congrFun (qa2 4 (by decide) (by decide) (by decide) (by decide)) 0).trans (show r1 4 0 = a from q1_4)
    have q2_6 : r2 6 0 = e := (congrFun (qa2 6 (by decide) (by decide) (by decide) (by decide)) 0).trans (show r1 6 0 = e from q1_6)
    have q2_8 : r2 8 0 = o := qo2.trans (show r1 8 0 = o from q1_8)
    have ao2 : ∀ j : Nat, j ≠ 1 → j ≠ 5 → j ≠ 7 → j ≠ 8 → r2 j = r j := fun j b1 b2 b3 b4 => (qa2 j b1 b2 b3 b4).trans (ao1 j b1 b2 b3 b4)
    refine go_aload_n dX12_when_9 rfl 0 rfl ?_
    refine go_iload_n dX12_when_10 rfl 1 rfl ?_
    refine go_callV (d1 := d - 1) wVX12_100 kX12 rm_ob rfl (by omega) (m_emits_w (T := T) (x := kind) (hs := (show r2 1 = s from q2_1)) (ha := (show r2 4 0 = a from q2_4)) (hp := (show r2 5 0 = (sp_sp T e i p).2 from q2_5)) (he := (show r2 6 0 = e from q2_6)) (ho := (show r2 8 0 = o from q2_8)) (hP.up (p' := (sp_sp T e i p).2) (by omega) (by omega)) (show r2 7 0 = 1 from q2_7)) rfl (Nat.le_of_ble_eq_true rfl) dX12_when_11 (fun w σ1 hP9 => ?_)
    obtain ⟨rfl, r3, ⟨q3_1, q3_5, q3_7, qo3, qa3⟩, rfl⟩ := hP9
    have q3_4 : r3 4 0 = a := (congrFun (qa3 4 (by decide) (by decide) (by decide) (by decide)) 0).trans (show r2 4 0 = a from q2_4)
    have q3_6 : r3 6 0 = e := (congrFun (qa3 6 (by decide) (by decide) (by decide) (by decide)) 0).trans (show r2 6 0 = e from q2_6)
    have q3_8 : r3 8 0 = o := qo3.trans (show r2 8 0 = o from q2_8)
    have ao3 : ∀ j : Nat, j ≠ 1 → j ≠ 5 → j ≠ 7 → j ≠ 8 → r3 j = r j := fun j b1 b2 b3 b4 => (qa3 j b1 b2 b3 b4).trans (ao2 j b1 b2 b3 b4)
    refine go_retV rfl ?_ dX12_when_14
    have hW : sp_whn T e i kind p = (false, (sp_sp T e i p).2, []) := by unfold sp_whn; rw [if_neg hx]
    exact ⟨rfl, r3, ⟨((show r3 1 = s from q3_1)).trans (by rw [hW]; rfl), ((show r3 5 0 = (sp_sp T e i p).2 from q3_5)).trans (by rw [hW]), ((show r3 7 0 = 1 from q3_7)).trans (by rw [hW]; rfl), ((show r3 8 0 = o from q3_8)).trans ho.symm, ao3⟩, rfl⟩
set_option maxRecDepth 20000 in
/-- m_tellsHere -/
theorem m_tellsHere {X9 : rj_X} {σ : rj_H} {d : Nat} {mb : Nat} {r : rm_R} {i : Nat} {w most : Int} (hd : 5 ≤ d) (hi : i < 7) (hm : 0 ≤ most ∧ most ≤ 99) (hw : w = 284 ∨ w = 289) {s T : Int → Int} {e a p o : Int} (hs : r 1 = s) (ha : r 4 0 = a) (hp : r 5 0 = p) (he : r 6 0 = e) (ho : r 8 0 = o) (hP : sp_P T e a p s) (h7 : r 7 0 = 0) : rj_Cl X9 d yX12_tellsHere cX12_tellsHere 5 none [.ref mb, rj_i w, .ref (rj_sk X9 i), rj_i most] (rm_p X9 mb r σ) (fun w9 τ => w9 = none ∧ ∃ r0, rm_e r r0 (if (sp_tel T e i most p).1 = true then rj_up s (w + a) (sp_tel T e i most p).2.2 else s) ((sp_tel T e i most p).2.1) (rj_b ((sp_tel T e i most p).1 = false)) ∧ τ = rm_p X9 mb r0 σ) := by
  obtain ⟨pa, pp, pe, pT, pt, pc0, pc1⟩ := id hP
  have ph := sp_hr_b pT pp.1
  refine go_call (by decide +kernel) (Nat.le_of_ble_eq_true rfl) ?_
  refine go_eq (pc' := 0) (lv' := [(0, .ref mb), (1, rj_i w), (2, .ref (rj_sk X9 i)), (3, rj_i most)]) (st' := []) rfl rfl rfl rfl ?_
  refine go_aload_n dX12_tellsHere_0 rfl 0 rfl ?_
  refine go_aload_n dX12_tellsHere_1 rfl 2 rfl ?_
  refine go_callV (d1 := d - 1) wVX12_120 kX12 rm_ob rfl (by omega) (m_spells (T := T) (i := i) (by omega) hi (hs := (show r 1 = s from hs)) (ha := (show r 4 0 = a from ha)) (hp := (show r 5 0 = p from hp)) (he := (show r 6 0 = e from he)) (ho := (show r 8 0 = o from ho)) hP (show r 7 0 = 0 from h7)) rfl (Nat.le_of_ble_eq_true rfl) dX12_tellsHere_2 (fun w σ1 hP9 => ?_)
  obtain ⟨rfl, r1, ⟨q1_1, q1_5, q1_7, qo1, qa1⟩, rfl⟩ := hP9
  have q1_4 : r1 4 0 = a := (congrFun (qa1 4 (by decide) (by decide) (by decide) (by decide)) 0).trans (show r 4 0 = a from ha)
  have q1_6 : r1 6 0 = e := (congrFun (qa1 6 (by decide) (by decide) (by decide) (by decide)) 0).trans (show r 6 0 = e from he)
  have q1_8 : r1 8 0 = o := qo1.trans (show r 8 0 = o from ho)
  have ao1 : ∀ j : Nat, j ≠ 1 → j ≠ 5 → j ≠ 7 → j ≠ 8 → r1 j = r j := fun j b1 b2 b3 b4 => (qa1 j b1 b2 b3 b4).trans ((fun j _ _ _ _ => rfl) j b1 b2 b3 b4)
  have spb := sp_sp_b (i := i) pT hi pp
  refine go_aload_n dX12_tellsHere_5 rfl 0 rfl ?_
  by_cases hx : (sp_sp T e i p).1 = true
  · refine go_callV (d1 := d - 1) wVX12_114 kX12 rm_ob rfl (by omega) (m_figures (T := T) (by omega) (hs := (show r1 1 = s from q1_1)) (ha := (show r1 4 0 = a from q1_4)) (hp := (show r1 5 0 = (sp_sp T e i p).2 from q1_5)) (he := (show r1 6 0 = e from q1_6)) (ho := (show r1 8 0 = o from q1_8)) (hP.up (p' := (sp_sp T e i p).2) (by omega) (by omega)) (show r1 7 0 = 0 from ((show r1 7 0 = rj_b ((sp_sp T e i p).1 = false) from q1_7)).trans (rj_bf (by simp [hx])))) rfl (Nat.le_of_ble_eq_true rfl) dX12_tellsHere_6 (fun w σ1 hP9 => ?_)
    obtain ⟨rfl, r2, ⟨q2_1, q2_5, q2_7, qo2, qa2⟩, rfl⟩ := hP9
    have q2_4 : r2 4 0 = a := (congrFun (qa2 4 (by decide) (by decide) (by decide) (by decide)) 0).trans (show r1 4 0 = a from q1_4)
    have q2_6 : r2 6 0 = e := (congrFun (qa2 6 (by decide) (by decide) (by decide) (by decide)) 0).trans (show r1 6 0 = e from q1_6)
    have q2_8 : r2 8 0 = o := qo2.trans (show r1 8 0 = o from q1_8)
    have ao2 : ∀ j : Nat, j ≠ 1 → j ≠ 5 → j ≠ 7 → j ≠ 8 → r2 j = r j := fun j b1 b2 b3 b4 => (qa2 j b1 b2 b3 b4).trans (ao1 j b1 b2 b3 b4)
    refine go_istoreS (lv' := [(0, .ref mb), (1, rj_i w), (2, .ref (rj_sk X9 i)), (3, rj_i most), (4, rj_i ((sp_num T e ((sp_sp T e i p).2)).2.2))]) (by decide) rfl dX12_tellsHere_9 ?_
    have nb := sp_num_b (p := (sp_sp T e i p).2) pT (by omega)
    by_cases hy : (sp_num T e (sp_sp T e i p).2).1 = true
    · refine go_aload_n dX12_tellsHere_11 rfl 0 rfl ?_
      refine grm_g7 rfl dX12_tellsHere_12 ?_
      rw [show r2 7 0 = 0 from ((show r2 7 0 = rj_b ((sp_num T e ((sp_sp T e i p).2)).1 = false) from q2_7)).trans (rj_bf (by simp [hy]))]
      refine go_if_neI (tgt := 41) (by omega) dX12_tellsHere_15 (by decide) (fun c_15 => ?_) (fun c_15 => ?_)
      · exact absurd c_15 (by omega)
      · refine go_aload_n dX12_tellsHere_18 rfl 0 rfl ?_
        refine grm_g1 rfl dX12_tellsHere_19 ?_
        refine go_iload_n dX12_tellsHere_22 rfl 1 rfl ?_
        refine go_aload_n dX12_tellsHere_23 rfl 0 rfl ?_
        refine grm_g4 rfl dX12_tellsHere_24 ?_
        rw [show r2 4 0 = a from q2_4]
        refine go_addI dX12_tellsHere_27 ?_
        refine go_iload dX12_tellsHere_28 4 rfl ?_
        refine go_iload_n dX12_tellsHere_30 rfl 3 rfl ?_
        refine go_icmp_leI (tgt := 38) (by omega) (by omega) dX12_tellsHere_31 (by decide) (fun c_31 => ?_) (fun c_31 => ?_)
        · refine go_iload dX12_tellsHere_38 4 rfl ?_
          refine grm_s1 (by omega) (by omega) dX12_tellsHere_40 ?_
          refine go_retV rfl ?_ dX12_tellsHere_41
          have hW : sp_tel T e i most p = ((sp_num T e (sp_sp T e i p).2).1, (sp_num T e (sp_sp T e i p).2).2.1, if most < (sp_num T e (sp_sp T e i p).2).2.2 then most else (sp_num T e (sp_sp T e i p).2).2.2) := by unfold sp_tel; rw [if_pos hx]
          exact ⟨rfl, (rm_u r2 1 (rj_up (r2 1) (w + a) ((sp_num T e ((sp_sp T e i p).2)).2.2))), ⟨((show (rm_u r2 1 (rj_up (r2 1) (w + a) ((sp_num T e ((sp_sp T e i p).2)).2.2))) 1 = (rj_up s (w + a) ((sp_num T e ((sp_sp T e i p).2)).2.2)) from (congrArg (fun zz => rj_up zz (w + a) ((sp_num T e ((sp_sp T e i p).2)).2.2)) (show r2 1 = s from q2_1)))).trans (by rw [hW]; simp only [hy, if_true]; first | rw [if_pos (by omega)] | rw [if_neg (by omega)]), ((show (rm_u r2 1 (rj_up (r2 1) (w + a) ((sp_num T e ((sp_sp T e i p).2)).2.2))) 5 0 = (sp_num T e ((sp_sp T e i p).2)).2.1 from q2_5)).trans (by rw [hW]), ((show (rm_u r2 1 (rj_up (r2 1) (w + a) ((sp_num T e ((sp_sp T e i p).2)).2.2))) 7 0 = 0 from ((show r2 7 0 = rj_b ((sp_num T e ((sp_sp T e i p).2)).1 = false) from q2_7)).trans (rj_bf (by simp [hy])))).trans ((rj_bf (by rw [hW]; simp [hy])).symm), ((show (rm_u r2 1 (rj_up (r2 1) (w + a) ((sp_num T e ((sp_sp T e i p).2)).2.2))) 8 0 = o from q2_8)).trans ho.symm, (fun j b1 b2 b3 b4 => (rm_u_ne _ _ b1).trans (ao2 j b1 b2 b3 b4))⟩, rfl⟩
        · refine go_iload_n dX12_tellsHere_34 rfl 3 rfl ?_
          refine go_goto (tgt := 40) dX12_tellsHere_35 (by decide) ?_
          refine grm_s1 (by omega) (by omega) dX12_tellsHere_40 ?_
          refine go_retV rfl ?_ dX12_tellsHere_41
          have hW : sp_tel T e i most p = ((sp_num T e (sp_sp T e i p).2).1, (sp_num T e (sp_sp T e i p).2).2.1, if most < (sp_num T e (sp_sp T e i p).2).2.2 then most else (sp_num T e (sp_sp T e i p).2).2.2) := by unfold sp_tel; rw [if_pos hx]
          exact ⟨rfl, (rm_u r2 1 (rj_up (r2 1) (w + a) most)), ⟨((show (rm_u r2 1 (rj_up (r2 1) (w + a) most)) 1 = (rj_up s (w + a) most) from (congrArg (fun zz => rj_up zz (w + a) most) (show r2 1 = s from q2_1)))).trans (by rw [hW]; simp only [hy, if_true]; first | rw [if_pos (by omega)] | rw [if_neg (by omega)]), ((show (rm_u r2 1 (rj_up (r2 1) (w + a) most)) 5 0 = (sp_num T e ((sp_sp T e i p).2)).2.1 from q2_5)).trans (by rw [hW]), ((show (rm_u r2 1 (rj_up (r2 1) (w + a) most)) 7 0 = 0 from ((show r2 7 0 = rj_b ((sp_num T e ((sp_sp T e i p).2)).1 = false) from q2_7)).trans (rj_bf (by simp [hy])))).trans ((rj_bf (by rw [hW]; simp [hy])).symm), ((show (rm_u r2 1 (rj_up (r2 1) (w + a) most)) 8 0 = o from q2_8)).trans ho.symm, (fun j b1 b2 b3 b4 => (rm_u_ne _ _ b1).trans (ao2 j b1 b2 b3 b4))⟩, rfl⟩
    · refine go_aload_n dX12_tellsHere_11 rfl 0 rfl ?_
      refine grm_g7 rfl dX12_tellsHere_12 ?_
      rw [show r2 7 0 = 1 from ((show r2 7 0 = rj_b ((sp_num T e ((sp_sp T e i p).2)).1 = false) from q2_7)).trans (rj_bt (by simpa using hy))]
      refine go_if_neI (tgt := 41) (by omega) dX12_tellsHere_15 (by decide) (fun c_15 => ?_) (fun c_15 => ?_)
      · refine go_retV rfl ?_ dX12_tellsHere_41
        have hW : sp_tel T e i most p = ((sp_num T e (sp_sp T e i p).2).1, (sp_num T e (sp_sp T e i p).2).2.1, if most < (sp_num T e (sp_sp T e i p).2).2.2 then most else (sp_num T e (sp_sp T e i p).2).2.2) := by unfold sp_tel; rw [if_pos hx]
        exact ⟨rfl, r2, ⟨((show r2 1 = s from q2_1)).trans (by rw [hW]; simp [hy]), ((show r2 5 0 = (sp_num T e ((sp_sp T e i p).2)).2.1 from q2_5)).trans (by rw [hW]), ((show r2 7 0 = 1 from ((show r2 7 0 = rj_b ((sp_num T e ((sp_sp T e i p).2)).1 = false) from q2_7)).trans (rj_bt (by simpa using hy)))).trans ((rj_bt (by rw [hW]; simp [hy])).symm), ((show r2 8 0 = o from q2_8)).trans ho.symm, ao2⟩, rfl⟩
      · exact absurd c_15 (by omega)
  · refine go_callV (d1 := d - 1) wVX12_114 kX12 rm_ob rfl (by omega) (m_figures_w (T := T) (by omega) (hs := (show r1 1 = s from q1_1)) (ha := (show r1 4 0 = a from q1_4)) (hp := (show r1 5 0 = (sp_sp T e i p).2 from q1_5)) (he := (show r1 6 0 = e from q1_6)) (ho := (show r1 8 0 = o from q1_8)) (hP.up (p' := (sp_sp T e i p).2) (by omega) (by omega)) (show r1 7 0 = 1 from ((show r1 7 0 = rj_b ((sp_sp T e i p).1 = false) from q1_7)).trans (rj_bt (by simpa using hx)))) rfl (Nat.le_of_ble_eq_true rfl) dX12_tellsHere_6 (fun w σ1 hP9 => ?_)
    obtain ⟨rfl, r2, ⟨q2_1, q2_5, q2_7, qo2, qa2⟩, rfl⟩ := hP9
    have q2_4 : r2 4 0 = a := (congrFun (qa2 4 (by decide) (by decide) (by decide) (by decide)) 0).trans (show r1 4 0 = a from q1_4)
    have q2_6 : r2 6 0 = e := (congrFun (qa2 6 (by decide) (by decide) (by decide) (by decide)) 0).trans (show r1 6 0 = e from q1_6)
    have q2_8 : r2 8 0 = o := qo2.trans (show r1 8 0 = o from q1_8)
    have ao2 : ∀ j : Nat, j ≠ 1 → j ≠ 5 → j ≠ 7 → j ≠ 8 → r2 j = r j := fun j b1 b2 b3 b4 => (qa2 j b1 b2 b3 b4).trans (ao1 j b1 b2 b3 b4)
    refine go_istoreS (lv' := [(0, .ref mb), (1, rj_i w), (2, .ref (rj_sk X9 i)), (3, rj_i most), (4, rj_i 0)]) (by decide) rfl dX12_tellsHere_9 ?_
    refine go_aload_n dX12_tellsHere_11 rfl 0 rfl ?_
    refine grm_g7 rfl dX12_tellsHere_12 ?_
    rw [show r2 7 0 = 1 from q2_7]
    refine go_if_neI (tgt := 41) (by omega) dX12_tellsHere_15 (by decide) (fun c_15 => ?_) (fun c_15 => ?_)
    · refine go_retV rfl ?_ dX12_tellsHere_41
      have hW : sp_tel T e i most p = (false, (sp_sp T e i p).2, 0) := by unfold sp_tel; rw [if_neg hx]
      exact ⟨rfl, r2, ⟨((show r2 1 = s from q2_1)).trans (by rw [hW]; rfl), ((show r2 5 0 = (sp_sp T e i p).2 from q2_5)).trans (by rw [hW]), ((show r2 7 0 = 1 from q2_7)).trans (by rw [hW]; rfl), ((show r2 8 0 = o from q2_8)).trans ho.symm, ao2⟩, rfl⟩
    · exact absurd c_15 (by omega)
