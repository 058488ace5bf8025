/-! THE REFERENCE, 24: the parser -/
/-- the byte at p, or -1 -/
def sp_hr (T : Int → Int) (e p : Int) : Int := if p < e then T p else -1
/-- right or wrong, where, steps -/
abbrev sp_R : Type := Bool × Int × List Int
def sp_num (T : Int → Int) (e p : Int) : Bool × Int × Int :=
  if ¬ (48 ≤ sp_hr T e p ∧ sp_hr T e p ≤ 57) then (false, p, 0)
  else if sp_hr T e p = 48 then (true, p + 1, 0)
  else if 48 ≤ sp_hr T e (p + 1) ∧ sp_hr T e (p + 1) ≤ 57 then (true, p + 2, 10 * (sp_hr T e p - 48) + (sp_hr T e (p + 1) - 48))
  else (true, p + 1, sp_hr T e p - 48)
def sp_amN (i : Nat) (c : Int) : Nat → Nat → Int
  | 0, _ => -1
  | n + 1, k => if c = rj_sc i k then (k : Int) else sp_amN i c n (k + 1)
def sp_am (i : Nat) (c : Int) : Int := sp_amN i c (rj_sl i) 0
def sp_tt1 (T : Int → Int) (e p : Int) : sp_R :=
  if sp_am 5 (sp_hr T e p) = -1 then (false, p, []) else
  if sp_am 6 (sp_hr T e (p + 1)) = -1 then (false, p + 1, []) else
  if (sp_num T e (p + 2)).1 = true then (true, (sp_num T e (p + 2)).2.1, [sp_am 5 (sp_hr T e p) + 8 * sp_am 6 (sp_hr T e (p + 1)) + 32 * (sp_num T e (p + 2)).2.2]) else (false, (sp_num T e (p + 2)).2.1, [])
/-- a part more, and its operator -/
def sp_cat (op : Int) (R X : sp_R) : sp_R := (X.1, X.2.1, R.2.2 ++ X.2.2 ++ (if X.1 = true then [op] else []))
def sp_lp (T : Int → Int) (e c op : Int) (F : Int → sp_R) : Nat → sp_R → sp_R
  | 0, R => R
  | f + 1, R => if R.1 = true ∧ sp_hr T e R.2.1 = c then sp_lp T e c op F f (sp_cat op R (F (R.2.1 + 1))) else R
def sp_ev (T : Int → Int) (e : Int) (F : Int → sp_R) (p : Int) : sp_R := sp_lp T e 38 (-2) F 121 (F p)
def sp_som (T : Int → Int) (e : Int) (F : Int → sp_R) (p : Int) : sp_R := sp_lp T e 124 (-3) (sp_ev T e F) 121 (sp_ev T e F p)
def sp_not (X : sp_R) : sp_R := (X.1, X.2.1, X.2.2 ++ (if X.1 = true then [-1] else []))
def sp_clo (T : Int → Int) (e : Int) (X : sp_R) : sp_R := (X.1 && decide (sp_hr T e X.2.1 = 41), (if X.1 = true ∧ sp_hr T e X.2.1 = 41 then X.2.1 + 1 else X.2.1), X.2.2)
def sp_fac (T : Int → Int) (e : Int) : Nat → Int → sp_R
  | 0 => fun p => if sp_hr T e p = 33 ∨ sp_hr T e p = 40 then (false, p, []) else sp_tt1 T e p
  | n + 1 => fun p => if sp_hr T e p = 33 then sp_not (sp_fac T e n (p + 1)) else if sp_hr T e p = 40 then sp_clo T e (sp_som T e (sp_fac T e n) (p + 1)) else sp_tt1 T e p
/-- k letters of a word -/
def sp_spK (T : Int → Int) (e : Int) (i : Nat) (p : Int) : Nat → Bool × Int
  | 0 => (true, p)
  | k + 1 => if (sp_spK T e i p k).1 = true ∧ sp_hr T e (sp_spK T e i p k).2 = rj_sc i k then (true, (sp_spK T e i p k).2 + 1) else (false, (sp_spK T e i p k).2)
def sp_sp (T : Int → Int) (e : Int) (i : Nat) (p : Int) : Bool × Int := sp_spK T e i p (rj_sl i)
def sp_whn (T : Int → Int) (e : Int) (i : Nat) (kind p : Int) : sp_R :=
  if (sp_sp T e i p).1 = true then (let X := sp_som T e (sp_fac T e 5) (sp_sp T e i p).2; (X.1, X.2.1, X.2.2 ++ (if X.1 = true then [kind] else []))) else (false, (sp_sp T e i p).2, [])
def sp_tel (T : Int → Int) (e : Int) (i : Nat) (most p : Int) : Bool × Int × Int :=
  if (sp_sp T e i p).1 = true then ((sp_num T e (sp_sp T e i p).2).1, (sp_num T e (sp_sp T e i p).2).2.1, if most < (sp_num T e (sp_sp T e i p).2).2.2 then most else (sp_num T e (sp_sp T e i p).2).2.2) else (false, (sp_sp T e i p).2, 0)
/-- a clause: right, where, steps, cloud, turn -/
abbrev sp_C : Type := Bool × Int × List Int × Int × Int
def sp_cla (T : Int → Int) (e p cl tn : Int) : sp_C :=
  if sp_hr T e p = 108 then (let X := sp_whn T e 0 (-11) p; (X.1, X.2.1, X.2.2, cl, tn))
  else if sp_hr T e p = 101 then (let X := sp_whn T e 1 (-12) p; (X.1, X.2.1, X.2.2, cl, tn))
  else if sp_hr T e p = 111 then (let X := sp_whn T e 2 (-13) p; (X.1, X.2.1, X.2.2, cl, tn))
  else if sp_hr T e p = 99 then (let X := sp_tel T e 3 10 p; (X.1, X.2.1, [], if X.1 = true then X.2.2 else cl, tn))
  else if sp_hr T e p = 116 then (let X := sp_tel T e 4 99 p; (X.1, X.2.1, [], cl, if X.1 = true then X.2.2 else tn))
  else (false, p, [], cl, tn)
def sp_cct (C X : sp_C) : sp_C := (X.1, X.2.1, C.2.2.1 ++ X.2.2.1, X.2.2.2.1, X.2.2.2.2)
def sp_cls (T : Int → Int) (e : Int) : Nat → sp_C → sp_C
  | 0, C => C
  | n + 1, C => if C.1 = true ∧ sp_hr T e C.2.1 = 59 then sp_cls T e n (sp_cct C (sp_cla T e (C.2.1 + 1) C.2.2.2.1 C.2.2.2.2)) else C
def sp_vl (T : Int → Int) (e : Int) : sp_C := sp_cls T e 9 (sp_cla T e 0 0 9)
/-- bytes -/
def sp_TB (T : Int → Int) (e : Int) : Prop := ∀ j : Int, 0 ≤ j → j < e → 0 ≤ T j ∧ T j ≤ 255
theorem sp_hr_b {T : Int → Int} {e p : Int} (h : sp_TB T e) (hp : 0 ≤ p) : -1 ≤ sp_hr T e p ∧ sp_hr T e p ≤ 255 ∧ (0 ≤ sp_hr T e p → p < e) := by
  unfold sp_hr
  split
  · have := h p hp (by omega); omega
  · omega
theorem sp_num_b {T : Int → Int} {e p : Int} (h : sp_TB T e) (hp : 0 ≤ p ∧ p ≤ e) : p ≤ (sp_num T e p).2.1 ∧ (sp_num T e p).2.1 ≤ e ∧ (0 ≤ (sp_num T e p).2.2 ∧ (sp_num T e p).2.2 ≤ 99) ∧ ((sp_num T e p).1 = true → p + 1 ≤ (sp_num T e p).2.1) := by
  have h1 := sp_hr_b h hp.1
  have h2 := sp_hr_b (p := p + 1) h (by omega)
  unfold sp_num
  (repeat' split) <;> refine ⟨?_, ?_, ?_, fun hh => ?_⟩ <;> dsimp only at * <;> (first | omega | simp at hh)
theorem sp_amN_b (i : Nat) (c : Int) : ∀ n k : Nat, -1 ≤ sp_amN i c n k ∧ sp_amN i c n k < ((k + n : Nat) : Int) + 1 ∧ (sp_amN i c n k ≠ -1 → (k : Int) ≤ sp_amN i c n k ∧ sp_amN i c n k < ((k + n : Nat) : Int))
  | 0, k => by rw [sp_amN]; omega
  | n + 1, k => by
    have ih := sp_amN_b i c n (k + 1)
    rw [sp_amN]
    split <;> omega
theorem sp_amN_c (i : Nat) (c : Int) (hi : i < 7) : ∀ n k : Nat, k + n ≤ rj_sl i → sp_amN i c n k ≠ -1 → 0 ≤ c
  | 0, k, _, h => absurd rfl h
  | n + 1, k, hk, h => by
    rw [sp_amN] at h
    split at h
    · rename_i e; have := (rj_sc_b i hi).2 k (by have := rj_sl_8 i hi; omega); omega
    · exact sp_amN_c i c hi n (k + 1) (by omega) h
theorem sp_am_b (i : Nat) (c : Int) (hi : i < 7) : -1 ≤ sp_am i c ∧ sp_am i c < (rj_sl i : Int) + 1 ∧ (sp_am i c ≠ -1 → 0 ≤ sp_am i c ∧ sp_am i c < (rj_sl i : Int) ∧ 0 ≤ c) := by
  have h := sp_amN_b i c (rj_sl i) 0
  have h2 := sp_amN_c i c hi (rj_sl i) 0 (by omega)
  unfold sp_am
  refine ⟨by omega, by omega, fun q => ⟨by omega, by omega, h2 q⟩⟩
/-- a part's bounds -/
def sp_G1 (p e : Int) (X : sp_R) : Prop := p ≤ X.2.1 ∧ X.2.1 ≤ e ∧ (X.2.2.length : Int) ≤ X.2.1 - p
def sp_G (e : Int) (F : Int → sp_R) : Prop := ∀ p : Int, 0 ≤ p → p ≤ e → sp_G1 p e (F p)
theorem sp_tt1_G {T : Int → Int} {e : Int} (h : sp_TB T e) : sp_G e (sp_tt1 T e) := by
  intro p p0 p1
  have h1 := sp_hr_b h p0
  have h2 := sp_hr_b (p := p + 1) h (by omega)
  have a1 := sp_am_b 5 (sp_hr T e p) (by decide)
  have a2 := sp_am_b 6 (sp_hr T e (p + 1)) (by decide)
  unfold sp_tt1 sp_G1
  split
  · simp; omega
  · split
    · simp; omega
    · have n1 := sp_num_b (p := p + 2) h (by omega)
      split
      · rename_i q; have := n1.2.2.2 q; simp; omega
      · simp; omega
theorem sp_lp_G {T : Int → Int} {e c op : Int} {F : Int → sp_R} (h : sp_TB T e) (hF : sp_G e F) (hc : 0 ≤ c) {p : Int} (hp : 0 ≤ p) : ∀ (f : Nat) (R : sp_R), sp_G1 p e R → sp_G1 p e (sp_lp T e c op F f R)
  | 0, R, hR => hR
  | f + 1, R, hR => by
    rw [sp_lp]
    split
    · rename_i q
      obtain ⟨r1, r2, r3⟩ := hR
      have h1 := sp_hr_b (p := R.2.1) h (by omega)
      obtain ⟨f1, f2, f3⟩ := hF (R.2.1 + 1) (by omega) (by omega)
      refine sp_lp_G h hF hc hp f _ ⟨?_, f2, ?_⟩
      · show p ≤ (F (R.2.1 + 1)).2.1; omega
      · show (((R.2.2 ++ (F (R.2.1 + 1)).2.2 ++ (if (F (R.2.1 + 1)).1 = true then [op] else []) : List Int).length : Nat) : Int) ≤ (F (R.2.1 + 1)).2.1 - p
        rw [List.length_append, List.length_append]
        split <;> simp only [List.length_cons, List.length_nil] <;> omega
    · exact hR
theorem sp_ev_G {T : Int → Int} {e : Int} {F : Int → sp_R} (h : sp_TB T e) (hF : sp_G e F) : sp_G e (sp_ev T e F) := fun p p0 p1 => sp_lp_G h hF (by decide) p0 121 _ (hF p p0 p1)
theorem sp_som_G {T : Int → Int} {e : Int} {F : Int → sp_R} (h : sp_TB T e) (hF : sp_G e F) : sp_G e (sp_som T e F) := fun p p0 p1 => sp_lp_G h (sp_ev_G h hF) (by decide) p0 121 _ (sp_ev_G h hF p p0 p1)
theorem sp_fac_G {T : Int → Int} {e : Int} (h : sp_TB T e) : ∀ n : Nat, sp_G e (sp_fac T e n)
  | 0 => by
    intro p p0 p1
    show sp_G1 p e (if sp_hr T e p = 33 ∨ sp_hr T e p = 40 then (false, p, []) else sp_tt1 T e p)
    split
    · unfold sp_G1; simp; omega
    · exact sp_tt1_G h p p0 p1
  | n + 1 => by
    intro p p0 p1
    have h1 := sp_hr_b h p0
    show sp_G1 p e (if sp_hr T e p = 33 then sp_not (sp_fac T e n (p + 1)) else if sp_hr T e p = 40 then sp_clo T e (sp_som T e (sp_fac T e n) (p + 1)) else sp_tt1 T e p)
    split
    · obtain ⟨f1, f2, f3⟩ := sp_fac_G h n (p + 1) (by omega) (by omega)
      refine ⟨by show p ≤ (sp_fac T e n (p + 1)).2.1; omega, f2, ?_⟩
      show (((sp_fac T e n (p + 1)).2.2 ++ (if (sp_fac T e n (p + 1)).1 = true then [(-1 : Int)] else [])).length : Int) ≤ (sp_fac T e n (p + 1)).2.1 - p
      rw [List.length_append]
      split <;> simp only [List.length_cons, List.length_nil] <;> omega
    · split
      · obtain ⟨f1, f2, f3⟩ := sp_som_G h (sp_fac_G h n) (p + 1) (by omega) (by omega)
        have h2 := sp_hr_b (p := (sp_som T e (sp_fac T e n) (p + 1)).2.1) h (by omega)
        unfold sp_clo sp_G1
        dsimp only
        split <;> omega
      · exact sp_tt1_G h p p0 p1
/-- a step is written -/
def sp_em1 (a : Int) (s : Int → Int) (x : Int) : Int → Int := rj_up (rj_up s (299 + 140 * a + s (294 + a)) x) (294 + a) (s (294 + a) + 1)
def sp_ems (s : Int → Int) (a : Int) (l : List Int) : Int → Int := l.foldl (sp_em1 a) s
theorem sp_ems_nil (s : Int → Int) (a : Int) : sp_ems s a [] = s := rfl
theorem sp_ems_app (s : Int → Int) (a : Int) (l m : List Int) : sp_ems s a (l ++ m) = sp_ems (sp_ems s a l) a m := List.foldl_append
theorem sp_ems_1 (s : Int → Int) (a x : Int) : sp_ems s a [x] = sp_em1 a s x := rfl
theorem sp_em1_lo {s : Int → Int} {a x j : Int} (ha : 0 ≤ a) (hc : 0 ≤ s (294 + a)) (hj : j < 294) : sp_em1 a s x j = s j := by
  unfold sp_em1; rw [rj_up_ne _ _ (by omega), rj_up_ne _ _ (by omega)]
theorem sp_em1_c {s : Int → Int} {a x : Int} : sp_em1 a s x (294 + a) = s (294 + a) + 1 := rj_up_eq _ _ _
theorem sp_ems_c {a : Int} : ∀ (l : List Int) (s : Int → Int), sp_ems s a l (294 + a) = s (294 + a) + (l.length : Int)
  | [], s => by simp [sp_ems]
  | x :: l, s => by
    show sp_ems (sp_em1 a s x) a l (294 + a) = _
    rw [sp_ems_c l, sp_em1_c]; simp only [List.length_cons]; omega
theorem sp_ems_lo {a : Int} (ha : 0 ≤ a) {j : Int} (hj : j < 294) : ∀ (l : List Int) (s : Int → Int), 0 ≤ s (294 + a) → sp_ems s a l j = s j
  | [], s, _ => rfl
  | x :: l, s, hc => by
    show sp_ems (sp_em1 a s x) a l j = _
    rw [sp_ems_lo ha hj l _ (by rw [sp_em1_c]; omega), sp_em1_lo ha hc hj]
/-- a text that is read from p on, into valley a -/
def sp_P (T : Int → Int) (e a p : Int) (s : Int → Int) : Prop := (0 ≤ a ∧ a ≤ 4) ∧ (0 ≤ p ∧ p ≤ e) ∧ e ≤ 120 ∧ sp_TB T e ∧ (∀ j : Int, 0 ≤ j → j < e → s (10 + j) = T j) ∧ 0 ≤ s (294 + a) ∧ s (294 + a) ≤ p
theorem sp_P.st {T : Int → Int} {e a p p' : Int} {s : Int → Int} {l : List Int} (h : sp_P T e a p s) (hl : p + (l.length : Int) ≤ p') (he : p' ≤ e) : sp_P T e a p' (sp_ems s a l) := by
  obtain ⟨h1, h2, h3, h4, h5, h6, h7⟩ := h
  refine ⟨h1, by omega, h3, h4, fun j a1 a2 => ?_, ?_, ?_⟩
  · rw [sp_ems_lo h1.1 (by omega) l s h6]; exact h5 j a1 a2
  · rw [sp_ems_c]; omega
  · rw [sp_ems_c]; omega
theorem sp_P.up {T : Int → Int} {e a p p' : Int} {s : Int → Int} (h : sp_P T e a p s) (hl : p ≤ p') (he : p' ≤ e) : sp_P T e a p' s := by
  obtain ⟨h1, h2, h3, h4, h5, h6, h7⟩ := h
  exact ⟨h1, by omega, h3, h4, h5, h6, by omega⟩
/-- registers behind a part of the parser -/
def rm_e (r r' : rm_R) (s' : Int → Int) (p w : Int) : Prop := r' 1 = s' ∧ r' 5 0 = p ∧ r' 7 0 = w ∧ r' 8 0 = r 8 0 ∧ ∀ j : Nat, j ≠ 1 → j ≠ 5 → j ≠ 7 → j ≠ 8 → r' j = r j
set_option maxRecDepth 20000 in
/-- m_here -/
theorem m_here {X9 : rj_X} {σ : rj_H} {d : Nat} {mb : Nat} {r : rm_R} {s T : Int → Int} {e a p : Int} (hs : r 1 = s) (hp : r 5 0 = p) (he : r 6 0 = e) (hP : sp_P T e a p s) : rj_Cl X9 d yX12_here cX12_here 1 (some .int) [.ref mb] (rm_p X9 mb r σ) (fun w9 τ => w9 = some (rj_i (sp_hr T e p)) ∧ τ = (rm_p X9 mb r σ)) := by
  obtain ⟨pa, pp, pe, pT, pt, pc0, pc1⟩ := id hP
  have ph := sp_hr_b pT pp.1
  refine go_call (by decide +kernel) (Nat.le_of_ble_eq_true rfl) ?_
  refine go_eq (pc' := 0) (lv' := [(0, .ref mb)]) (st' := []) rfl rfl rfl rfl ?_
  refine go_aload_n dX12_here_0 rfl 0 rfl ?_
  refine grm_g5 rfl dX12_here_1 ?_
  rw [show r 5 0 = p from hp]
  refine go_aload_n dX12_here_4 rfl 0 rfl ?_
  refine grm_g6 rfl dX12_here_5 ?_
  rw [show r 6 0 = e from he]
  refine go_icmp_geI (tgt := 26) (by omega) (by omega) dX12_here_8 (by decide) (fun c_8 => ?_) (fun c_8 => ?_)
  · refine go_iconst (v := Int32.ofInt (-1)) dX12_here_26 rfl ?_
    refine go_retI rfl rfl ?_ dX12_here_27
    exact ⟨rj_vi (by unfold sp_hr; rw [if_neg (by omega)]), rfl⟩
  · refine go_aload_n dX12_here_11 rfl 0 rfl ?_
    refine grm_g1 rfl dX12_here_12 ?_
    refine go_bipush (v := Int32.ofInt 10) dX12_here_15 (by decide) ?_
    refine go_aload_n dX12_here_17 rfl 0 rfl ?_
    refine grm_g5 rfl dX12_here_18 ?_
    rw [show r 5 0 = p from hp]
    refine go_addI dX12_here_21 ?_
    refine grm_l1 (by omega) (by omega) dX12_here_22 ?_
    rw [show r 1 = s from hs]
    refine go_goto (tgt := 27) dX12_here_23 (by decide) ?_
    refine go_retI rfl rfl ?_ dX12_here_27
    exact ⟨rj_vi (by unfold sp_hr; rw [if_pos (by omega), pt p pp.1 (by omega)]), rfl⟩
set_option maxRecDepth 20000 in
/-- m_must -/
theorem m_must {X9 : rj_X} {σ : rj_H} {d : Nat} {mb : Nat} {r : rm_R} {c : Int} (hd : 1 ≤ d) (hc : -1 ≤ c ∧ c ≤ 65535) {s T : Int → Int} {e a p o : Int} (hs : r 1 = s) (ha : r 4 0 = a) (hp : r 5 0 = p) (he : r 6 0 = e) (ho : r 8 0 = o) (hP : sp_P T e a p s) (h7 : r 7 0 = 0) : rj_Cl X9 d yX12_must cX12_must 2 none [.ref mb, rj_i c] (rm_p X9 mb r σ) (fun w9 τ => w9 = none ∧ ∃ r0, rm_e r r0 s (if sp_hr T e p = c then p + 1 else p) (rj_b (¬ sp_hr T e p = c)) ∧ τ = rm_p X9 mb r0 σ) := by
  obtain ⟨pa, pp, pe, pT, pt, pc0, pc1⟩ := id hP
  have ph := sp_hr_b pT pp.1
  refine go_call (by decide +kernel) (Nat.le_of_ble_eq_true rfl) ?_
  refine go_eq (pc' := 0) (lv' := [(0, .ref mb), (1, rj_i c)]) (st' := []) rfl rfl rfl rfl ?_
  refine go_aload_n dX12_must_0 rfl 0 rfl ?_
  refine go_aload_n dX12_must_1 rfl 0 rfl ?_
  refine grm_g7 rfl dX12_must_2 ?_
  rw [show r 7 0 = 0 from h7]
  refine go_if_neI (tgt := 16) (by omega) dX12_must_5 (by decide) (fun c_5 => ?_) (fun c_5 => ?_)
  · exact absurd c_5 (by omega)
  · refine go_aload_n dX12_must_8 rfl 0 rfl ?_
    refine go_callV (d1 := d - 1) wVX12_74 kX12 rm_ob rfl (by omega) (m_here (T := T) (a := a) (hs := (show r 1 = s from hs)) (hp := (show r 5 0 = p from hp)) (he := (show r 6 0 = e from he)) hP) rfl (Nat.le_of_ble_eq_true rfl) dX12_must_9 (fun w σ1 hP9 => ?_)
    obtain ⟨rfl, rfl⟩ := hP9
    refine go_iload_n dX12_must_12 rfl 1 rfl ?_
    refine go_icmp_eqI (tgt := 20) (by omega) (by omega) dX12_must_13 (by decide) (fun c_13 => ?_) (fun c_13 => ?_)
    · refine go_iconst (v := Int32.ofInt 0) dX12_must_20 rfl ?_
      refine grm_w7 rfl (by omega) dX12_must_21 ?_
      refine go_aload_n dX12_must_24 rfl 0 rfl ?_
      refine go_dup dX12_must_25 rfl ?_
      refine grm_g5 rfl dX12_must_26 ?_
      rw [show (rm_u r 7 (fun _ => 0)) 5 0 = p from hp]
      refine go_aload_n dX12_must_29 rfl 0 rfl ?_
      refine grm_g7 rfl dX12_must_30 ?_
      rw [show (rm_u r 7 (fun _ => 0)) 7 0 = 0 from rfl]
      refine go_if_eqI (tgt := 40) (by omega) dX12_must_33 (by decide) (fun c_33 => ?_) (fun c_33 => ?_)
      · refine go_iconst (v := Int32.ofInt 1) dX12_must_40 rfl ?_
        refine go_addI dX12_must_41 ?_
        refine grm_w5 rfl dX12_must_42 ?_
        refine go_retV rfl ?_ dX12_must_45
        exact ⟨rfl, (rm_u (rm_u r 7 (fun _ => 0)) 5 (fun _ => p + 1)), ⟨((show (rm_u (rm_u r 7 (fun _ => 0)) 5 (fun _ => p + 1)) 1 = s from hs)).trans rfl, ((show (rm_u (rm_u r 7 (fun _ => 0)) 5 (fun _ => p + 1)) 5 0 = p + 1 from rfl)).trans (by rw [if_pos c_13]), ((show (rm_u (rm_u r 7 (fun _ => 0)) 5 (fun _ => p + 1)) 7 0 = 0 from rfl)).trans ((rj_bf (by omega)).symm), ((show (rm_u (rm_u r 7 (fun _ => 0)) 5 (fun _ => p + 1)) 8 0 = o from ho)).trans ho.symm, (fun j b1 b2 b3 b4 => (rm_u_ne _ _ b2).trans ((fun j b1 b2 b3 b4 => (rm_u_ne _ _ b3).trans ((fun j _ _ _ _ => rfl) j b1 b2 b3 b4)) j b1 b2 b3 b4))⟩, rfl⟩
      · exact absurd c_33 (by omega)
    · refine go_iconst (v := Int32.ofInt 1) dX12_must_16 rfl ?_
      refine go_goto (tgt := 21) dX12_must_17 (by decide) ?_
      refine grm_w7 rfl (by omega) dX12_must_21 ?_
      refine go_aload_n dX12_must_24 rfl 0 rfl ?_
      refine go_dup dX12_must_25 rfl ?_
      refine grm_g5 rfl dX12_must_26 ?_
      rw [show (rm_u r 7 (fun _ => 1)) 5 0 = p from hp]
      refine go_aload_n dX12_must_29 rfl 0 rfl ?_
      refine grm_g7 rfl dX12_must_30 ?_
      rw [show (rm_u r 7 (fun _ => 1)) 7 0 = 1 from rfl]
      refine go_if_eqI (tgt := 40) (by omega) dX12_must_33 (by decide) (fun c_33 => ?_) (fun c_33 => ?_)
      · exact absurd c_33 (by omega)
      · refine go_iconst (v := Int32.ofInt 0) dX12_must_36 rfl ?_
        refine go_goto (tgt := 41) dX12_must_37 (by decide) ?_
        refine go_addI dX12_must_41 ?_
        refine grm_w5 rfl dX12_must_42 ?_
        refine go_retV rfl ?_ dX12_must_45
        exact ⟨rfl, (rm_u (rm_u r 7 (fun _ => 1)) 5 (fun _ => p + 0)), ⟨((show (rm_u (rm_u r 7 (fun _ => 1)) 5 (fun _ => p + 0)) 1 = s from hs)).trans rfl, ((show (rm_u (rm_u r 7 (fun _ => 1)) 5 (fun _ => p + 0)) 5 0 = p + 0 from rfl)).trans (by rw [if_neg c_13]; omega), ((show (rm_u (rm_u r 7 (fun _ => 1)) 5 (fun _ => p + 0)) 7 0 = 1 from rfl)).trans ((rj_bt (by omega)).symm), ((show (rm_u (rm_u r 7 (fun _ => 1)) 5 (fun _ => p + 0)) 8 0 = o from ho)).trans ho.symm, (fun j b1 b2 b3 b4 => (rm_u_ne _ _ b2).trans ((fun j b1 b2 b3 b4 => (rm_u_ne _ _ b3).trans ((fun j _ _ _ _ => rfl) j b1 b2 b3 b4)) j b1 b2 b3 b4))⟩, rfl⟩
set_option maxRecDepth 20000 in
/-- m_must_w -/
theorem m_must_w {X9 : rj_X} {σ : rj_H} {d : Nat} {mb : Nat} {r : rm_R} {c : Int} (hd : 1 ≤ d) {s T : Int → Int} {e a p o : Int} (hs : r 1 = s) (ha : r 4 0 = a) (hp : r 5 0 = p) (he : r 6 0 = e) (ho : r 8 0 = o) (hP : sp_P T e a p s) (h7 : r 7 0 = 1) : rj_Cl X9 d yX12_must cX12_must 2 none [.ref mb, rj_i c] (rm_p X9 mb r σ) (fun w9 τ => w9 = none ∧ ∃ r0, rm_e r r0 s p 1 ∧ τ = rm_p X9 mb r0 σ) := by
  obtain ⟨pa, pp, pe, pT, pt, pc0, pc1⟩ := id hP
  have ph := sp_hr_b pT pp.1
  refine go_call (by decide +kernel) (Nat.le_of_ble_eq_true rfl) ?_
  refine go_eq (pc' := 0) (lv' := [(0, .ref mb), (1, rj_i c)]) (st' := []) rfl rfl rfl rfl ?_
  refine go_aload_n dX12_must_0 rfl 0 rfl ?_
  refine go_aload_n dX12_must_1 rfl 0 rfl ?_
  refine grm_g7 rfl dX12_must_2 ?_
  rw [show r 7 0 = 1 from h7]
  refine go_if_neI (tgt := 16) (by omega) dX12_must_5 (by decide) (fun c_5 => ?_) (fun c_5 => ?_)
  · refine go_iconst (v := Int32.ofInt 1) dX12_must_16 rfl ?_
    refine go_goto (tgt := 21) dX12_must_17 (by decide) ?_
    refine grm_w7 rfl (by omega) dX12_must_21 ?_
    refine go_aload_n dX12_must_24 rfl 0 rfl ?_
    refine go_dup dX12_must_25 rfl ?_
    refine grm_g5 rfl dX12_must_26 ?_
    rw [show (rm_u r 7 (fun _ => 1)) 5 0 = p from hp]
    refine go_aload_n dX12_must_29 rfl 0 rfl ?_
    refine grm_g7 rfl dX12_must_30 ?_
    rw [show (rm_u r 7 (fun _ => 1)) 7 0 = 1 from rfl]
    refine go_if_eqI (tgt := 40) (by omega) dX12_must_33 (by decide) (fun c_33 => ?_) (fun c_33 => ?_)
    · exact absurd c_33 (by omega)
    · refine go_iconst (v := Int32.ofInt 0) dX12_must_36 rfl ?_
      refine go_goto (tgt := 41) dX12_must_37 (by decide) ?_
      refine go_addI dX12_must_41 ?_
      refine grm_w5 rfl dX12_must_42 ?_
      refine go_retV rfl ?_ dX12_must_45
      exact ⟨rfl, (rm_u (rm_u r 7 (fun _ => 1)) 5 (fun _ => p + 0)), ⟨((show (rm_u (rm_u r 7 (fun _ => 1)) 5 (fun _ => p + 0)) 1 = s from hs)).trans rfl, ((show (rm_u (rm_u r 7 (fun _ => 1)) 5 (fun _ => p + 0)) 5 0 = p + 0 from rfl)).trans (by omega), ((show (rm_u (rm_u r 7 (fun _ => 1)) 5 (fun _ => p + 0)) 7 0 = 1 from rfl)).trans rfl, ((show (rm_u (rm_u r 7 (fun _ => 1)) 5 (fun _ => p + 0)) 8 0 = o from ho)).trans ho.symm, (fun j b1 b2 b3 b4 => (rm_u_ne _ _ b2).trans ((fun j b1 b2 b3 b4 => (rm_u_ne _ _ b3).trans ((fun j _ _ _ _ => rfl) j b1 b2 b3 b4)) j b1 b2 b3 b4))⟩, rfl⟩
  · exact absurd c_5 (by omega)
set_option maxRecDepth 20000 in
/-- m_emits -/
theorem m_emits {X9 : rj_X} {σ : rj_H} {d : Nat} {mb : Nat} {r : rm_R} {x : Int} {s T : Int → Int} {e a p o : Int} (hs : r 1 = s) (ha : r 4 0 = a) (hp : r 5 0 = p) (he : r 6 0 = e) (ho : r 8 0 = o) (hP : sp_P T e a p s) (h7 : r 7 0 = 0) : rj_Cl X9 d yX12_emits cX12_emits 2 none [.ref mb, rj_i x] (rm_p X9 mb r σ) (fun w9 τ => w9 = none ∧ ∃ r0, rm_e r r0 (sp_em1 a s x) p 0 ∧ τ = rm_p X9 mb r0 σ) := by
  obtain ⟨pa, pp, pe, pT, pt, pc0, pc1⟩ := id hP
  have ph := sp_hr_b pT pp.1
  refine go_call (by decide +kernel) (Nat.le_of_ble_eq_true rfl) ?_
  refine go_eq (pc' := 0) (lv' := [(0, .ref mb), (1, rj_i x)]) (st' := []) rfl rfl rfl rfl ?_
  refine go_aload_n dX12_emits_0 rfl 0 rfl ?_
  refine grm_g7 rfl dX12_emits_1 ?_
  rw [show r 7 0 = 0 from h7]
  refine go_if_neI (tgt := 56) (by omega) dX12_emits_4 (by decide) (fun c_4 => ?_) (fun c_4 => ?_)
  · exact absurd c_4 (by omega)
  · refine go_aload_n dX12_emits_7 rfl 0 rfl ?_
    refine grm_g1 rfl dX12_emits_8 ?_
    refine go_sipush (v := Int32.ofInt 299) dX12_emits_11 (by decide) ?_
    refine go_sipush (v := Int32.ofInt 140) dX12_emits_14 (by decide) ?_
    refine go_aload_n dX12_emits_17 rfl 0 rfl ?_
    refine grm_g4 rfl dX12_emits_18 ?_
    rw [show r 4 0 = a from ha]
    refine go_mulI dX12_emits_21 ?_
    refine go_addI dX12_emits_22 ?_
    refine go_aload_n dX12_emits_23 rfl 0 rfl ?_
    refine grm_g1 rfl dX12_emits_24 ?_
    refine go_sipush (v := Int32.ofInt 294) dX12_emits_27 (by decide) ?_
    refine go_aload_n dX12_emits_30 rfl 0 rfl ?_
    refine grm_g4 rfl dX12_emits_31 ?_
    rw [show r 4 0 = a from ha]
    refine go_addI dX12_emits_34 ?_
    refine grm_l1 (by omega) (by omega) dX12_emits_35 ?_
    rw [show r 1 = s from hs]
    refine go_addI dX12_emits_36 ?_
    refine go_iload_n dX12_emits_37 rfl 1 rfl ?_
    refine grm_s1 (by omega) (by omega) dX12_emits_38 ?_
    obtain ⟨r1, e1⟩ : ∃ x_, x_ = (rm_u r 1 (rj_up (r 1) ((299 + (140 * a)) + (s (294 + a))) x)) := ⟨_, rfl⟩
    rw [← e1]
    have q1_1 : r1 1 = (rj_up s ((299 + (140 * a)) + (s (294 + a))) x) := by rw [e1]; exact (show (rm_u r 1 (rj_up (r 1) ((299 + (140 * a)) + (s (294 + a))) x)) 1 = (rj_up s ((299 + (140 * a)) + (s (294 + a))) x) from (congrArg (fun zz => rj_up zz ((299 + (140 * a)) + (s (294 + a))) x) (show r 1 = s from hs)))
    have q1_4 : r1 4 0 = a := by rw [e1]; exact (show (rm_u r 1 (rj_up (r 1) ((299 + (140 * a)) + (s (294 + a))) x)) 4 0 = a from ha)
    have q1_5 : r1 5 0 = p := by rw [e1]; exact (show (rm_u r 1 (rj_up (r 1) ((299 + (140 * a)) + (s (294 + a))) x)) 5 0 = p from hp)
    have q1_6 : r1 6 0 = e := by rw [e1]; exact (show (rm_u r 1 (rj_up (r 1) ((299 + (140 * a)) + (s (294 + a))) x)) 6 0 = e from he)
    have q1_8 : r1 8 0 = o := by rw [e1]; exact (show (rm_u r 1 (rj_up (r 1) ((299 + (140 * a)) + (s (294 + a))) x)) 8 0 = o from ho)
    have q1_7 : r1 7 0 = 0 := by rw [e1]; exact (show (rm_u r 1 (rj_up (r 1) ((299 + (140 * a)) + (s (294 + a))) x)) 7 0 = 0 from h7)
    have ao1 : ∀ j : Nat, j ≠ 1 → j ≠ 5 → j ≠ 7 → j ≠ 8 → r1 j = r j := by rw [e1]; exact (fun j b1 b2 b3 b4 => (rm_u_ne _ _ b1).trans ((fun j _ _ _ _ => rfl) j b1 b2 b3 b4))
    refine go_aload_n dX12_emits_39 rfl 0 rfl ?_
    refine grm_g1 rfl dX12_emits_40 ?_
    refine go_sipush (v := Int32.ofInt 294) dX12_emits_43 (by decide) ?_
    refine go_aload_n dX12_emits_46 rfl 0 rfl ?_
    refine grm_g4 rfl dX12_emits_47 ?_
    rw [show r1 4 0 = a from q1_4]
    refine go_addI dX12_emits_50 ?_
    refine go_dup2_11 dX12_emits_51 rfl rfl ?_
    refine grm_l1 (by omega) (by omega) dX12_emits_52 ?_
    rw [show r1 1 = (rj_up s ((299 + (140 * a)) + (s (294 + a))) x) from q1_1]
    rw [show (rj_up s ((299 + (140 * a)) + (s (294 + a))) x) (294 + a) = s (294 + a) from rj_up_ne _ _ (by omega)]
    refine go_iconst (v := Int32.ofInt 1) dX12_emits_53 rfl ?_
    refine go_addI dX12_emits_54 ?_
    refine grm_s1 (by omega) (by omega) dX12_emits_55 ?_
    obtain ⟨r2, e2⟩ : ∃ x_, x_ = (rm_u r1 1 (rj_up (r1 1) (294 + a) ((s (294 + a)) + 1))) := ⟨_, rfl⟩
    rw [← e2]
    have q2_1 : r2 1 = (rj_up (rj_up s ((299 + (140 * a)) + (s (294 + a))) x) (294 + a) ((s (294 + a)) + 1)) := by rw [e2]; exact (show (rm_u r1 1 (rj_up (r1 1) (294 + a) ((s (294 + a)) + 1))) 1 = (rj_up (rj_up s ((299 + (140 * a)) + (s (294 + a))) x) (294 + a) ((s (294 + a)) + 1)) from (congrArg (fun zz => rj_up zz (294 + a) ((s (294 + a)) + 1)) (show r1 1 = (rj_up s ((299 + (140 * a)) + (s (294 + a))) x) from q1_1)))
    have q2_4 : r2 4 0 = a := by rw [e2]; exact (show (rm_u r1 1 (rj_up (r1 1) (294 + a) ((s (294 + a)) + 1))) 4 0 = a from q1_4)
    have q2_5 : r2 5 0 = p := by rw [e2]; exact (show (rm_u r1 1 (rj_up (r1 1) (294 + a) ((s (294 + a)) + 1))) 5 0 = p from q1_5)
    have q2_6 : r2 6 0 = e := by rw [e2]; exact (show (rm_u r1 1 (rj_up (r1 1) (294 + a) ((s (294 + a)) + 1))) 6 0 = e from q1_6)
    have q2_8 : r2 8 0 = o := by rw [e2]; exact (show (rm_u r1 1 (rj_up (r1 1) (294 + a) ((s (294 + a)) + 1))) 8 0 = o from q1_8)
    have q2_7 : r2 7 0 = 0 := by rw [e2]; exact (show (rm_u r1 1 (rj_up (r1 1) (294 + a) ((s (294 + a)) + 1))) 7 0 = 0 from q1_7)
    have ao2 : ∀ j : Nat, j ≠ 1 → j ≠ 5 → j ≠ 7 → j ≠ 8 → r2 j = r j := by rw [e2]; exact (fun j b1 b2 b3 b4 => (rm_u_ne _ _ b1).trans (ao1 j b1 b2 b3 b4))
    refine go_retV rfl ?_ dX12_emits_56
    exact ⟨rfl, r2, ⟨((show r2 1 = (rj_up (rj_up s ((299 + (140 * a)) + (s (294 + a))) x) (294 + a) ((s (294 + a)) + 1)) from q2_1)).trans (by unfold sp_em1; rfl), ((show r2 5 0 = p from q2_5)).trans rfl, ((show r2 7 0 = 0 from q2_7)).trans rfl, ((show r2 8 0 = o from q2_8)).trans ho.symm, ao2⟩, rfl⟩
set_option maxRecDepth 20000 in
/-- m_emits_w -/
theorem m_emits_w {X9 : rj_X} {σ : rj_H} {d : Nat} {mb : Nat} {r : rm_R} {x : Int} {s T : Int → Int} {e a p o : Int} (hs : r 1 = s) (ha : r 4 0 = a) (hp : r 5 0 = p) (he : r 6 0 = e) (ho : r 8 0 = o) (hP : sp_P T e a p s) (h7 : r 7 0 = 1) : rj_Cl X9 d yX12_emits cX12_emits 2 none [.ref mb, rj_i x] (rm_p X9 mb r σ) (fun w9 τ => w9 = none ∧ ∃ r0, rm_e r r0 s p 1 ∧ τ = rm_p X9 mb r0 σ) := by
  obtain ⟨pa, pp, pe, pT, pt, pc0, pc1⟩ := id hP
  have ph := sp_hr_b pT pp.1
  refine go_call (by decide +kernel) (Nat.le_of_ble_eq_true rfl) ?_
  refine go_eq (pc' := 0) (lv' := [(0, .ref mb), (1, rj_i x)]) (st' := []) rfl rfl rfl rfl ?_
  refine go_aload_n dX12_emits_0 rfl 0 rfl ?_
  refine grm_g7 rfl dX12_emits_1 ?_
  rw [show r 7 0 = 1 from h7]
  refine go_if_neI (tgt := 56) (by omega) dX12_emits_4 (by decide) (fun c_4 => ?_) (fun c_4 => ?_)
  · refine go_retV rfl ?_ dX12_emits_56
    exact ⟨rfl, r, ⟨((show r 1 = s from hs)).trans rfl, ((show r 5 0 = p from hp)).trans rfl, ((show r 7 0 = 1 from h7)).trans rfl, ((show r 8 0 = o from ho)).trans ho.symm, (fun j _ _ _ _ => rfl)⟩, rfl⟩
  · exact absurd c_4 (by omega)
set_option maxRecDepth 20000 in
/-- m_figures -/
theorem m_figures {X9 : rj_X} {σ : rj_H} {d : Nat} {mb : Nat} {r : rm_R} (hd : 1 ≤ d) {s T : Int → Int} {e a p o : Int} (hs : r 1 = s) (ha : r 4 0 = a) (hp : r 5 0 = p) (he : r 6 0 = e) (ho : r 8 0 = o) (hP : sp_P T e a p s) (h7 : r 7 0 = 0) : rj_Cl X9 d yX12_figures cX12_figures 3 (some .int) [.ref mb] (rm_p X9 mb r σ) (fun w9 τ => w9 = some (rj_i ((sp_num T e p).2.2)) ∧ ∃ r0, rm_e r r0 s ((sp_num T e p).2.1) (rj_b ((sp_num T e p).1 = false)) ∧ τ = rm_p X9 mb r0 σ) := by
  obtain ⟨pa, pp, pe, pT, pt, pc0, pc1⟩ := id hP
  have ph := sp_hr_b pT pp.1
  refine go_call (by decide +kernel) (Nat.le_of_ble_eq_true rfl) ?_
  refine go_eq (pc' := 0) (lv' := [(0, .ref mb)]) (st' := []) rfl rfl rfl rfl ?_
  refine go_aload_n dX12_figures_0 rfl 0 rfl ?_
  refine go_aload_n dX12_figures_1 rfl 0 rfl ?_
  refine grm_g7 rfl dX12_figures_2 ?_
  rw [show r 7 0 = 0 from h7]
  refine go_if_neI (tgt := 22) (by omega) dX12_figures_5 (by decide) (fun c_5 => ?_) (fun c_5 => ?_)
  · exact absurd c_5 (by omega)
  · refine go_aload_n dX12_figures_8 rfl 0 rfl ?_
    refine go_callV (d1 := d - 1) wVX12_74 kX12 rm_ob rfl (by omega) (m_here (T := T) (a := a) (hs := (show r 1 = s from hs)) (hp := (show r 5 0 = p from hp)) (he := (show r 6 0 = e from he)) hP) rfl (Nat.le_of_ble_eq_true rfl) dX12_figures_9 (fun w σ1 hP9 => ?_)
    obtain ⟨rfl, rfl⟩ := hP9
    refine go_bipush (v := Int32.ofInt 48) dX12_figures_12 (by decide) ?_
    refine go_bipush (v := Int32.ofInt 57) dX12_figures_14 (by decide) ?_
    refine go_callS (d1 := d - 1) wSX12_47 rfl (by omega) (m_in (v := sp_hr T e p) (lo := 48) (hi := 57) (by omega) (by omega) (by omega)) rfl (Nat.le_of_ble_eq_true rfl) dX12_figures_16 (fun w σ1 hP9 => ?_)
    obtain ⟨rfl, rfl⟩ := hP9
    refine go_if_neB (tgt := 26) dX12_figures_19 (by decide) (fun c_19 => ?_) (fun c_19 => ?_)
    · refine go_iconst (v := Int32.ofInt 0) dX12_figures_26 rfl ?_
      refine grm_w7 rfl (by omega) dX12_figures_27 ?_
      refine go_iconst (v := Int32.ofInt 0) dX12_figures_30 rfl ?_
      refine go_istore_nS (lv' := [(0, .ref mb), (1, rj_i 0)]) rfl (by decide) rfl dX12_figures_31 ?_
      refine go_iconst (v := Int32.ofInt 0) dX12_figures_32 rfl ?_
      refine go_istore_nS (lv' := [(0, .ref mb), (1, rj_i 0), (2, rj_i 0)]) rfl (by decide) rfl dX12_figures_33 ?_
      refine go_iload_n dX12_figures_34 rfl 2 rfl ?_
      refine go_iconst (v := Int32.ofInt 2) dX12_figures_35 rfl ?_
      refine go_icmp_geI (tgt := 97) (by omega) (by omega) dX12_figures_36 (by decide) (fun c_36 => ?_) (fun c_36 => ?_)
      · exact absurd c_36 (by omega)
      · refine go_aload_n dX12_figures_39 rfl 0 rfl ?_
        refine grm_g7 rfl dX12_figures_40 ?_
        rw [show (rm_u r 7 (fun _ => 0)) 7 0 = 0 from rfl]
        refine go_if_neI (tgt := 97) (by omega) dX12_figures_43 (by decide) (fun c_43 => ?_) (fun c_43 => ?_)
        · exact absurd c_43 (by omega)
        · refine go_aload_n dX12_figures_46 rfl 0 rfl ?_
          refine go_callV (d1 := d - 1) wVX12_74 kX12 rm_ob rfl (by omega) (m_here (T := T) (a := a) (hs := (show (rm_u r 7 (fun _ => 0)) 1 = s from hs)) (hp := (show (rm_u r 7 (fun _ => 0)) 5 0 = p from hp)) (he := (show (rm_u r 7 (fun _ => 0)) 6 0 = e from he)) hP) rfl (Nat.le_of_ble_eq_true rfl) dX12_figures_47 (fun w σ1 hP9 => ?_)
          obtain ⟨rfl, rfl⟩ := hP9
          refine go_bipush (v := Int32.ofInt 48) dX12_figures_50 (by decide) ?_
          refine go_bipush (v := Int32.ofInt 57) dX12_figures_52 (by decide) ?_
          refine go_callS (d1 := d - 1) wSX12_47 rfl (by omega) (m_in (v := sp_hr T e p) (lo := 48) (hi := 57) (by omega) (by omega) (by omega)) rfl (Nat.le_of_ble_eq_true rfl) dX12_figures_54 (fun w σ1 hP9 => ?_)
          obtain ⟨rfl, rfl⟩ := hP9
          refine go_if_eqB (tgt := 97) dX12_figures_57 (by decide) (fun c_57 => ?_) (fun c_57 => ?_)
          · refine go_iload_n dX12_figures_97 rfl 1 rfl ?_
            refine go_retI rfl rfl ?_ dX12_figures_98
            exact ⟨rj_vi (by unfold sp_num; (repeat' split) <;> dsimp only <;> omega), (rm_u r 7 (fun _ => 0)), ⟨((show (rm_u r 7 (fun _ => 0)) 1 = s from hs)).trans rfl, ((show (rm_u r 7 (fun _ => 0)) 5 0 = p from hp)).trans (by unfold sp_num; (repeat' split) <;> dsimp only <;> omega), ((show (rm_u r 7 (fun _ => 0)) 7 0 = 0 from rfl)).trans (by unfold sp_num; (repeat' split) <;> first | rfl | omega), ((show (rm_u r 7 (fun _ => 0)) 8 0 = o from ho)).trans ho.symm, (fun j b1 b2 b3 b4 => (rm_u_ne _ _ b3).trans ((fun j _ _ _ _ => rfl) j b1 b2 b3 b4))⟩, rfl⟩
          · refine go_iload_n dX12_figures_60 rfl 2 rfl ?_
            refine go_if_eqI (tgt := 68) (by omega) dX12_figures_61 (by decide) (fun c_61 => ?_) (fun c_61 => ?_)
            · refine go_bipush (v := Int32.ofInt 10) dX12_figures_68 (by decide) ?_
              refine go_iload_n dX12_figures_70 rfl 1 rfl ?_
              refine go_mulI dX12_figures_71 ?_
              refine go_aload_n dX12_figures_72 rfl 0 rfl ?_
              refine go_callV (d1 := d - 1) wVX12_74 kX12 rm_ob rfl (by omega) (m_here (T := T) (a := a) (hs := (show (rm_u r 7 (fun _ => 0)) 1 = s from hs)) (hp := (show (rm_u r 7 (fun _ => 0)) 5 0 = p from hp)) (he := (show (rm_u r 7 (fun _ => 0)) 6 0 = e from he)) hP) rfl (Nat.le_of_ble_eq_true rfl) dX12_figures_73 (fun w σ1 hP9 => ?_)
              obtain ⟨rfl, rfl⟩ := hP9
              refine go_addI dX12_figures_76 ?_
              refine go_bipush (v := Int32.ofInt 48) dX12_figures_77 (by decide) ?_
              refine go_subI dX12_figures_79 ?_
              refine go_istore_nS (lv' := [(0, .ref mb), (1, rj_i (((10 * 0) + (sp_hr T e p)) - 48)), (2, rj_i 0)]) rfl (by decide) rfl dX12_figures_80 ?_
              refine go_aload_n dX12_figures_81 rfl 0 rfl ?_
              refine go_dup dX12_figures_82 rfl ?_
              refine grm_g5 rfl dX12_figures_83 ?_
              rw [show (rm_u r 7 (fun _ => 0)) 5 0 = p from hp]
              refine go_iconst (v := Int32.ofInt 1) dX12_figures_86 rfl ?_
              refine go_addI dX12_figures_87 ?_
              refine grm_w5 rfl dX12_figures_88 ?_
              refine go_iincI (a := 0) (n := 1) (k0 := 2) (lv' := [(0, .ref mb), (1, rj_i (((10 * 0) + (sp_hr T e p)) - 48)), (2, rj_i (0 + 1))]) rfl (by decide) rfl dX12_figures_91 ?_
              refine go_goto (tgt := 34) dX12_figures_94 (by decide) ?_
              have ph2 := sp_hr_b (p := p + 1) pT (by omega)
              refine go_iload_n dX12_figures_34 rfl 2 rfl ?_
              refine go_iconst (v := Int32.ofInt 2) dX12_figures_35 rfl ?_
              refine go_icmp_geI (tgt := 97) (by omega) (by omega) dX12_figures_36 (by decide) (fun c_36 => ?_) (fun c_36 => ?_)
              · exact absurd c_36 (by omega)
              · refine go_aload_n dX12_figures_39 rfl 0 rfl ?_
                refine grm_g7 rfl dX12_figures_40 ?_
                rw [show (rm_u (rm_u r 7 (fun _ => 0)) 5 (fun _ => p + 1)) 7 0 = 0 from rfl]
                refine go_if_neI (tgt := 97) (by omega) dX12_figures_43 (by decide) (fun c_43 => ?_) (fun c_43 => ?_)
                · exact absurd c_43 (by omega)
                · refine go_aload_n dX12_figures_46 rfl 0 rfl ?_
                  refine go_callV (d1 := d - 1) wVX12_74 kX12 rm_ob rfl (by omega) (m_here (T := T) (a := a) (hs := (show (rm_u (rm_u r 7 (fun _ => 0)) 5 (fun _ => p + 1)) 1 = s from hs)) (hp := (show (rm_u (rm_u r 7 (fun _ => 0)) 5 (fun _ => p + 1)) 5 0 = p + 1 from rfl)) (he := (show (rm_u (rm_u r 7 (fun _ => 0)) 5 (fun _ => p + 1)) 6 0 = e from he)) (hP.up (p' := p + 1) (by omega) (by omega))) rfl (Nat.le_of_ble_eq_true rfl) dX12_figures_47 (fun w σ1 hP9 => ?_)
                  obtain ⟨rfl, rfl⟩ := hP9
                  refine go_bipush (v := Int32.ofInt 48) dX12_figures_50 (by decide) ?_
                  refine go_bipush (v := Int32.ofInt 57) dX12_figures_52 (by decide) ?_
                  refine go_callS (d1 := d - 1) wSX12_47 rfl (by omega) (m_in (v := sp_hr T e (p + 1)) (lo := 48) (hi := 57) (by omega) (by omega) (by omega)) rfl (Nat.le_of_ble_eq_true rfl) dX12_figures_54 (fun w σ1 hP9 => ?_)
                  obtain ⟨rfl, rfl⟩ := hP9
                  refine go_if_eqB (tgt := 97) dX12_figures_57 (by decide) (fun c_57 => ?_) (fun c_57 => ?_)
                  · refine go_iload_n dX12_figures_97 rfl 1 rfl ?_
                    refine go_retI rfl rfl ?_ dX12_figures_98
                    exact ⟨rj_vi (by unfold sp_num; (repeat' split) <;> dsimp only <;> omega), (rm_u (rm_u r 7 (fun _ => 0)) 5 (fun _ => p + 1)), ⟨((show (rm_u (rm_u r 7 (fun _ => 0)) 5 (fun _ => p + 1)) 1 = s from hs)).trans rfl, ((show (rm_u (rm_u r 7 (fun _ => 0)) 5 (fun _ => p + 1)) 5 0 = p + 1 from rfl)).trans (by unfold sp_num; (repeat' split) <;> dsimp only <;> omega), ((show (rm_u (rm_u r 7 (fun _ => 0)) 5 (fun _ => p + 1)) 7 0 = 0 from rfl)).trans (by unfold sp_num; (repeat' split) <;> first | rfl | omega), ((show (rm_u (rm_u r 7 (fun _ => 0)) 5 (fun _ => p + 1)) 8 0 = o from ho)).trans ho.symm, (fun j b1 b2 b3 b4 => (rm_u_ne _ _ b2).trans ((fun j b1 b2 b3 b4 => (rm_u_ne _ _ b3).trans ((fun j _ _ _ _ => rfl) j b1 b2 b3 b4)) j b1 b2 b3 b4))⟩, rfl⟩
                  · refine go_iload_n dX12_figures_60 rfl 2 rfl ?_
                    refine go_if_eqI (tgt := 68) (by omega) dX12_figures_61 (by decide) (fun c_61 => ?_) (fun c_61 => ?_)
                    · exact absurd c_61 (by omega)
                    · refine go_iload_n dX12_figures_64 rfl 1 rfl ?_
                      refine go_if_leI (tgt := 97) (by omega) dX12_figures_65 (by decide) (fun c_65 => ?_) (fun c_65 => ?_)
                      · refine go_iload_n dX12_figures_97 rfl 1 rfl ?_
                        refine go_retI rfl rfl ?_ dX12_figures_98
                        exact ⟨rj_vi (by unfold sp_num; (repeat' split) <;> dsimp only <;> omega), (rm_u (rm_u r 7 (fun _ => 0)) 5 (fun _ => p + 1)), ⟨((show (rm_u (rm_u r 7 (fun _ => 0)) 5 (fun _ => p + 1)) 1 = s from hs)).trans rfl, ((show (rm_u (rm_u r 7 (fun _ => 0)) 5 (fun _ => p + 1)) 5 0 = p + 1 from rfl)).trans (by unfold sp_num; (repeat' split) <;> dsimp only <;> omega), ((show (rm_u (rm_u r 7 (fun _ => 0)) 5 (fun _ => p + 1)) 7 0 = 0 from rfl)).trans (by unfold sp_num; (repeat' split) <;> first | rfl | omega), ((show (rm_u (rm_u r 7 (fun _ => 0)) 5 (fun _ => p + 1)) 8 0 = o from ho)).trans ho.symm, (fun j b1 b2 b3 b4 => (rm_u_ne _ _ b2).trans ((fun j b1 b2 b3 b4 => (rm_u_ne _ _ b3).trans ((fun j _ _ _ _ => rfl) j b1 b2 b3 b4)) j b1 b2 b3 b4))⟩, rfl⟩
                      · refine go_bipush (v := Int32.ofInt 10) dX12_figures_68 (by decide) ?_
                        refine go_iload_n dX12_figures_70 rfl 1 rfl ?_
                        refine go_mulI dX12_figures_71 ?_
                        refine go_aload_n dX12_figures_72 rfl 0 rfl ?_
                        refine go_callV (d1 := d - 1) wVX12_74 kX12 rm_ob rfl (by omega) (m_here (T := T) (a := a) (hs := (show (rm_u (rm_u r 7 (fun _ => 0)) 5 (fun _ => p + 1)) 1 = s from hs)) (hp := (show (rm_u (rm_u r 7 (fun _ => 0)) 5 (fun _ => p + 1)) 5 0 = p + 1 from rfl)) (he := (show (rm_u (rm_u r 7 (fun _ => 0)) 5 (fun _ => p + 1)) 6 0 = e from he)) (hP.up (p' := p + 1) (by omega) (by omega))) rfl (Nat.le_of_ble_eq_true rfl) dX12_figures_73 (fun w σ1 hP9 => ?_)
                        obtain ⟨rfl, rfl⟩ := hP9
                        refine go_addI dX12_figures_76 ?_
                        refine go_bipush (v := Int32.ofInt 48) dX12_figures_77 (by decide) ?_
                        refine go_subI dX12_figures_79 ?_
                        refine go_istore_nS (lv' := [(0, .ref mb), (1, rj_i (((10 * (((10 * 0) + (sp_hr T e p)) - 48)) + (sp_hr T e (p + 1))) - 48)), (2, rj_i (0 + 1))]) rfl (by decide) rfl dX12_figures_80 ?_
                        refine go_aload_n dX12_figures_81 rfl 0 rfl ?_
                        refine go_dup dX12_figures_82 rfl ?_
                        refine grm_g5 rfl dX12_figures_83 ?_
                        rw [show (rm_u (rm_u r 7 (fun _ => 0)) 5 (fun _ => p + 1)) 5 0 = p + 1 from rfl]
                        refine go_iconst (v := Int32.ofInt 1) dX12_figures_86 rfl ?_
                        refine go_addI dX12_figures_87 ?_
                        refine grm_w5 rfl dX12_figures_88 ?_
                        refine go_iincI (a := 0 + 1) (n := 1) (k0 := 2) (lv' := [(0, .ref mb), (1, rj_i (((10 * (((10 * 0) + (sp_hr T e p)) - 48)) + (sp_hr T e (p + 1))) - 48)), (2, rj_i (0 + 1 + 1))]) rfl (by decide) rfl dX12_figures_91 ?_
                        refine go_goto (tgt := 34) dX12_figures_94 (by decide) ?_
                        have pz2 : p + 2 ≤ e := by omega
                        refine go_iload_n dX12_figures_34 rfl 2 rfl ?_
                        refine go_iconst (v := Int32.ofInt 2) dX12_figures_35 rfl ?_
                        refine go_icmp_geI (tgt := 97) (by omega) (by omega) dX12_figures_36 (by decide) (fun c_36 => ?_) (fun c_36 => ?_)
                        · refine go_iload_n dX12_figures_97 rfl 1 rfl ?_
                          refine go_retI rfl rfl ?_ dX12_figures_98
                          exact ⟨rj_vi (by unfold sp_num; (repeat' split) <;> dsimp only <;> omega), (rm_u (rm_u (rm_u r 7 (fun _ => 0)) 5 (fun _ => p + 1)) 5 (fun _ => (p + 1) + 1)), ⟨((show (rm_u (rm_u (rm_u r 7 (fun _ => 0)) 5 (fun _ => p + 1)) 5 (fun _ => (p + 1) + 1)) 1 = s from hs)).trans rfl, ((show (rm_u (rm_u (rm_u r 7 (fun _ => 0)) 5 (fun _ => p + 1)) 5 (fun _ => (p + 1) + 1)) 5 0 = (p + 1) + 1 from rfl)).trans (by unfold sp_num; (repeat' split) <;> dsimp only <;> omega), ((show (rm_u (rm_u (rm_u r 7 (fun _ => 0)) 5 (fun _ => p + 1)) 5 (fun _ => (p + 1) + 1)) 7 0 = 0 from rfl)).trans (by unfold sp_num; (repeat' split) <;> first | rfl | omega), ((show (rm_u (rm_u (rm_u r 7 (fun _ => 0)) 5 (fun _ => p + 1)) 5 (fun _ => (p + 1) + 1)) 8 0 = o from ho)).trans ho.symm, (fun j b1 b2 b3 b4 => (rm_u_ne _ _ b2).trans ((fun j b1 b2 b3 b4 => (rm_u_ne _ _ b2).trans ((fun j b1 b2 b3 b4 => (rm_u_ne _ _ b3).trans ((fun j _ _ _ _ => rfl) j b1 b2 b3 b4)) j b1 b2 b3 b4)) j b1 b2 b3 b4))⟩, rfl⟩
                        · exact absurd c_36 (by omega)
            · exact absurd c_61 (by omega)
    · refine go_iconst (v := Int32.ofInt 1) dX12_figures_22 rfl ?_
      refine go_goto (tgt := 27) dX12_figures_23 (by decide) ?_
      refine grm_w7 rfl (by omega) dX12_figures_27 ?_
      refine go_iconst (v := Int32.ofInt 0) dX12_figures_30 rfl ?_
      refine go_istore_nS (lv' := [(0, .ref mb), (1, rj_i 0)]) rfl (by decide) rfl dX12_figures_31 ?_
      refine go_iconst (v := Int32.ofInt 0) dX12_figures_32 rfl ?_
      refine go_istore_nS (lv' := [(0, .ref mb), (1, rj_i 0), (2, rj_i 0)]) rfl (by decide) rfl dX12_figures_33 ?_
      refine go_iload_n dX12_figures_34 rfl 2 rfl ?_
      refine go_iconst (v := Int32.ofInt 2) dX12_figures_35 rfl ?_
      refine go_icmp_geI (tgt := 97) (by omega) (by omega) dX12_figures_36 (by decide) (fun c_36 => ?_) (fun c_36 => ?_)
      · exact absurd c_36 (by omega)
      · refine go_aload_n dX12_figures_39 rfl 0 rfl ?_
        refine grm_g7 rfl dX12_figures_40 ?_
        rw [show (rm_u r 7 (fun _ => 1)) 7 0 = 1 from rfl]
        refine go_if_neI (tgt := 97) (by omega) dX12_figures_43 (by decide) (fun c_43 => ?_) (fun c_43 => ?_)
        · refine go_iload_n dX12_figures_97 rfl 1 rfl ?_
          refine go_retI rfl rfl ?_ dX12_figures_98
          exact ⟨rj_vi (by unfold sp_num; (repeat' split) <;> dsimp only <;> omega), (rm_u r 7 (fun _ => 1)), ⟨((show (rm_u r 7 (fun _ => 1)) 1 = s from hs)).trans rfl, ((show (rm_u r 7 (fun _ => 1)) 5 0 = p from hp)).trans (by unfold sp_num; (repeat' split) <;> dsimp only <;> omega), ((show (rm_u r 7 (fun _ => 1)) 7 0 = 1 from rfl)).trans (by unfold sp_num; (repeat' split) <;> first | rfl | omega), ((show (rm_u r 7 (fun _ => 1)) 8 0 = o from ho)).trans ho.symm, (fun j b1 b2 b3 b4 => (rm_u_ne _ _ b3).trans ((fun j _ _ _ _ => rfl) j b1 b2 b3 b4))⟩, rfl⟩
        · exact absurd c_43 (by omega)
set_option maxRecDepth 20000 in
/-- m_figures_w -/
theorem m_figures_w {X9 : rj_X} {σ : rj_H} {d : Nat} {mb : Nat} {r : rm_R} (hd : 1 ≤ d) {s T : Int → Int} {e a p o : Int} (hs : r 1 = s) (ha : r 4 0 = a) (hp : r 5 0 = p) (he : r 6 0 = e) (ho : r 8 0 = o) (hP : sp_P T e a p s) (h7 : r 7 0 = 1) : rj_Cl X9 d yX12_figures cX12_figures 3 (some .int) [.ref mb] (rm_p X9 mb r σ) (fun w9 τ => w9 = some (rj_i 0) ∧ ∃ r0, rm_e r r0 s p 1 ∧ τ = rm_p X9 mb r0 σ) := by
  obtain ⟨pa, pp, pe, pT, pt, pc0, pc1⟩ := id hP
  have ph := sp_hr_b pT pp.1
  refine go_call (by decide +kernel) (Nat.le_of_ble_eq_true rfl) ?_
  refine go_eq (pc' := 0) (lv' := [(0, .ref mb)]) (st' := []) rfl rfl rfl rfl ?_
  refine go_aload_n dX12_figures_0 rfl 0 rfl ?_
  refine go_aload_n dX12_figures_1 rfl 0 rfl ?_
  refine grm_g7 rfl dX12_figures_2 ?_
  rw [show r 7 0 = 1 from h7]
  refine go_if_neI (tgt := 22) (by omega) dX12_figures_5 (by decide) (fun c_5 => ?_) (fun c_5 => ?_)
  · refine go_iconst (v := Int32.ofInt 1) dX12_figures_22 rfl ?_
    refine go_goto (tgt := 27) dX12_figures_23 (by decide) ?_
    refine grm_w7 rfl (by omega) dX12_figures_27 ?_
    refine go_iconst (v := Int32.ofInt 0) dX12_figures_30 rfl ?_
    refine go_istore_nS (lv' := [(0, .ref mb), (1, rj_i 0)]) rfl (by decide) rfl dX12_figures_31 ?_
    refine go_iconst (v := Int32.ofInt 0) dX12_figures_32 rfl ?_
    refine go_istore_nS (lv' := [(0, .ref mb), (1, rj_i 0), (2, rj_i 0)]) rfl (by decide) rfl dX12_figures_33 ?_
    refine go_iload_n dX12_figures_34 rfl 2 rfl ?_
    refine go_iconst (v := Int32.ofInt 2) dX12_figures_35 rfl ?_
    refine go_icmp_geI (tgt := 97) (by omega) (by omega) dX12_figures_36 (by decide) (fun c_36 => ?_) (fun c_36 => ?_)
    · refine go_iload_n dX12_figures_97 rfl 1 rfl ?_
      refine go_retI rfl rfl ?_ dX12_figures_98
      exact ⟨rfl, (rm_u r 7 (fun _ => 1)), ⟨((show (rm_u r 7 (fun _ => 1)) 1 = s from hs)).trans rfl, ((show (rm_u r 7 (fun _ => 1)) 5 0 = p from hp)).trans rfl, ((show (rm_u r 7 (fun _ => 1)) 7 0 = 1 from rfl)).trans rfl, ((show (rm_u r 7 (fun _ => 1)) 8 0 = o from ho)).trans ho.symm, (fun j b1 b2 b3 b4 => (rm_u_ne _ _ b3).trans ((fun j _ _ _ _ => rfl) j b1 b2 b3 b4))⟩, rfl⟩
    · refine go_aload_n dX12_figures_39 rfl 0 rfl ?_
      refine grm_g7 rfl dX12_figures_40 ?_
      rw [show (rm_u r 7 (fun _ => 1)) 7 0 = 1 from rfl]
      refine go_if_neI (tgt := 97) (by omega) dX12_figures_43 (by decide) (fun c_43 => ?_) (fun c_43 => ?_)
      · refine go_iload_n dX12_figures_97 rfl 1 rfl ?_
        refine go_retI rfl rfl ?_ dX12_figures_98
        exact ⟨rfl, (rm_u r 7 (fun _ => 1)), ⟨((show (rm_u r 7 (fun _ => 1)) 1 = s from hs)).trans rfl, ((show (rm_u r 7 (fun _ => 1)) 5 0 = p from hp)).trans rfl, ((show (rm_u r 7 (fun _ => 1)) 7 0 = 1 from rfl)).trans rfl, ((show (rm_u r 7 (fun _ => 1)) 8 0 = o from ho)).trans ho.symm, (fun j b1 b2 b3 b4 => (rm_u_ne _ _ b3).trans ((fun j _ _ _ _ => rfl) j b1 b2 b3 b4))⟩, rfl⟩
      · exact absurd c_43 (by omega)
  · exact absurd c_5 (by omega)
