/-! THE REFERENCE, 16: day; coarse -/
theorem sp_ht_ag {s s' : Int → Int} {off : Int} : ∀ n : Nat, (∀ k : Nat, k < n → s' (off + (k : Int)) = s (off + (k : Int))) → sp_ht s' off n = sp_ht s off n
  | 0, _ => rfl
  | n + 1, h => by rw [sp_ht, sp_ht, sp_ht_ag n (fun k hk => h k (by omega)), h n (by omega)]
theorem sp_tells_ag {s s' : Int → Int} {w n : Int} (h7 : s' 7 = s 7) (hw : s' (w + s 7) = s (w + s 7)) : sp_tells s' w n = sp_tells s w n := by unfold sp_tells; rw [h7, hw]
theorem sp_IV_ag {s s' : Int → Int} (h7 : s' 7 = s 7) (hc : ∀ j : Int, 283 ≤ j → j < 999 → s' j = s j) (hb : -1 ≤ s 7 ∧ s 7 ≤ 4) (h : sp_IV s) : sp_IV s' := by
  obtain ⟨v1, v2, v3, v4⟩ := h
  have e1 : sp_tells s' 294 0 = sp_tells s 294 0 := sp_tells_ag h7 (hc _ (by omega) (by omega))
  have e2 : sp_tells s' 284 0 = sp_tells s 284 0 := sp_tells_ag h7 (hc _ (by omega) (by omega))
  have e3 : sp_tells s' 289 9 = sp_tells s 289 9 := sp_tells_ag h7 (hc _ (by omega) (by omega))
  refine ⟨by rw [e1]; exact v1, by rw [e2]; exact v2, by rw [e3]; exact v3, fun n hn => ?_⟩
  rw [e1] at hn
  have h0 : 0 ≤ s 7 ∨ s 7 = -1 := by omega
  have hz : s 7 = -1 → sp_tells s 294 0 = 0 := fun q => by unfold sp_tells; rw [if_pos q]
  have h3 : 0 ≤ s 7 := by rcases h0 with q | q; exact q; have := hz q; omega
  rw [h7, sp_ht_ag n (fun k hk => hc _ (by omega) (by omega)), hc _ (by omega) (by omega)]
  exact v4 n hn
/-- snow alone differs -/
theorem sp_I_sn {s s' : Int → Int} (ha : ∀ j : Int, (j < 190 ∨ 196 ≤ j) → s' j = s j) (hb : ∀ p : Int, 0 ≤ p → p < s 1 → 0 ≤ s' (190 + p) ∧ s' (190 + p) ≤ 20) (h : sp_I s) : sp_I s' := by
  obtain ⟨⟨h0, h1, h2, h3, h4, h5, h6, h7⟩, hM, hP, hW, hL, hV⟩ := h
  refine ⟨?_, fun m a b => ?_, fun p a b => ?_, fun w a b => ?_, fun m q a b c d => ?_, sp_IV_ag (ha _ (by omega)) (fun j a b => ha j (by omega)) h7 hV⟩
  · unfold sp_IC; rw [ha 0 (by omega), ha 1 (by omega), ha 2 (by omega), ha 3 (by omega), ha 4 (by omega), ha 5 (by omega), ha 6 (by omega), ha 7 (by omega)]; exact ⟨h0, h1, h2, h3, h4, h5, h6, h7⟩
  · rw [ha 0 (by omega)] at b
    rw [ha _ (by omega), ha _ (by omega), ha _ (by omega), ha _ (by omega), ha _ (by omega), ha _ (by omega), ha _ (by omega)]; exact hM m a b
  · rw [ha 1 (by omega)] at b
    rw [ha (172 + p) (by omega), ha (178 + p) (by omega), ha (184 + p) (by omega)]
    have := hP p a b
    exact ⟨this.1, this.2.1, this.2.2.1, hb p a b⟩
  · rw [ha 2 (by omega)] at b
    rw [ha _ (by omega), ha _ (by omega), ha _ (by omega), ha _ (by omega), ha _ (by omega)]; exact hW w a b
  · rw [ha _ (by omega), ha 1 (by omega)]; exact hL m q a b c d
def sp_dayK (s : Int → Int) : Nat → Int → Int
  | 0 => s
  | k + 1 => rj_up (sp_dayK s k) (190 + (k : Int)) (if sp_dayK s k (190 + (k : Int)) - sp_sunny (sp_dayK s k) (s 4) (k : Int) < 0 then 0 else sp_dayK s k (190 + (k : Int)) - sp_sunny (sp_dayK s k) (s 4) (k : Int))
theorem sp_dayK_ag {s : Int → Int} (h : sp_I s) : ∀ k : Nat, (k : Int) ≤ s 1 → (∀ j : Int, (j < 190 ∨ 196 ≤ j) → sp_dayK s k j = s j) ∧ sp_I (sp_dayK s k)
  | 0, _ => ⟨fun _ _ => rfl, h⟩
  | k + 1, hk => by
    have ih := sp_dayK_ag h k (by omega)
    have h16 : s 1 ≤ 6 := h.1.2.1.2
    have ag : ∀ j : Int, (j < 190 ∨ 196 ≤ j) → sp_dayK s (k + 1) j = s j := fun j hj => by
      rw [sp_dayK, rj_up_ne _ _ (by omega)]; exact ih.1 j hj
    refine ⟨ag, sp_I_sn ag (fun p a b => ?_) h⟩
    have hs := sp_sunny_b (sp_dayK s k) (s 4) (k : Int)
    have e1 : sp_dayK s k 1 = s 1 := ih.1 1 (by omega)
    have hp := ih.2.2.2.1 p a (by omega)
    rw [sp_dayK]
    by_cases hpk : p = (k : Int)
    · subst hpk
      rw [rj_up_eq]
      split <;> omega
    · rw [rj_up_ne _ _ (by omega)]; exact hp.2.2.2
def sp_dayF (s : Int → Int) : Int := if s 4 = 89 then -3 else s 4 + 1
def sp_dayS (s : Int → Int) : Int → Int := if s 4 = 89 then s else rj_up (sp_dayK s (s 1).toNat) 4 (s 4 + 1)
set_option maxRecDepth 20000 in
/-- m_day -/
theorem m_day {X9 : rj_X} {σ : rj_H} {d : Nat} {mb : Nat} {r : rm_R} (hd : 7 ≤ d) {s : Int → Int} (hs : r 1 = s) (hI : sp_I s) : rj_Cl X9 d yX12_day cX12_day 3 (some .int) [.ref mb] (rm_p X9 mb r σ) (fun w9 τ => w9 = some (rj_i (sp_dayF s)) ∧ ∃ r0, rm_V r r0 (sp_dayS s) ∧ τ = rm_p X9 mb r0 σ) := by
  obtain ⟨⟨h0, h1, h2, h3, h4, h5, h6, h7⟩, hM, hP, hW, hL, hV⟩ := id hI
  obtain ⟨v1, v2, v3, v4⟩ := id hV
  refine go_call (by decide +kernel) (Nat.le_of_ble_eq_true rfl) ?_
  refine go_eq (pc' := 0) (lv' := [(0, .ref mb)]) (st' := []) rfl rfl rfl rfl ?_
  refine go_aload_n dX12_day_0 rfl 0 rfl ?_
  refine grm_g1 rfl dX12_day_1 ?_
  refine go_iconst (v := Int32.ofInt 4) dX12_day_4 rfl ?_
  refine grm_l1 (by omega) (by omega) dX12_day_5 ?_
  rw [show r 1 = s from hs]
  refine go_bipush (v := Int32.ofInt 89) dX12_day_6 (by decide) ?_
  refine go_icmp_neI (tgt := 14) (by omega) (by omega) dX12_day_8 (by decide) (fun c_8 => ?_) (fun c_8 => ?_)
  · refine go_aload_n dX12_day_14 rfl 0 rfl ?_
    refine go_aload_n dX12_day_15 rfl 0 rfl ?_
    refine grm_g1 rfl dX12_day_16 ?_
    refine go_iconst (v := Int32.ofInt 4) dX12_day_19 rfl ?_
    refine grm_l1 (by omega) (by omega) dX12_day_20 ?_
    rw [show r 1 = s from hs]
    refine grm_w11 rfl dX12_day_21 ?_
    obtain ⟨r1, e1⟩ : ∃ x_, x_ = (rm_u r 11 (fun _ => s 4)) := ⟨_, rfl⟩
    rw [← e1]
    have q1_1 : r1 1 = s := by rw [e1]; exact (show (rm_u r 11 (fun _ => s 4)) 1 = s from hs)
    have q1_2 : r1 2 = (r 2) := by rw [e1]; exact (show (rm_u r 11 (fun _ => s 4)) 2 = (r 2) from rfl)
    have q1_3 : r1 3 0 = (r 3 0) := by rw [e1]; exact (show (rm_u r 11 (fun _ => s 4)) 3 0 = (r 3 0) from rfl)
    have q1_17 : r1 17 = (r 17) := by rw [e1]; exact (show (rm_u r 11 (fun _ => s 4)) 17 = (r 17) from rfl)
    have q1_18 : r1 18 0 = (r 18 0) := by rw [e1]; exact (show (rm_u r 11 (fun _ => s 4)) 18 0 = (r 18 0) from rfl)
    have q1_11 : r1 11 0 = s 4 := by rw [e1]; exact (show (rm_u r 11 (fun _ => s 4)) 11 0 = s 4 from rfl)
    refine go_iconst (v := Int32.ofInt 0) dX12_day_24 rfl ?_
    refine go_istore_nS (lv' := [(0, .ref mb), (1, rj_i 0)]) rfl (by decide) rfl dX12_day_25 ?_
    have loop : ∀ (n k : Nat) (rl : rm_R), k + n = (s 1).toNat → rl 1 = sp_dayK s k → rl 2 = (r 2) → rl 3 0 = (r 3 0) → rl 11 0 = s 4 → rl 17 = (r 17) → rl 18 0 = (r 18 0) → rj_Go X9 yX12_day cX12_day 3 (some .int) d (fun w9 τ => w9 = some (rj_i (sp_dayF s)) ∧ ∃ r0, rm_V r r0 (sp_dayS s) ∧ τ = rm_p X9 mb r0 σ) 26 [(0, .ref mb), (1, rj_i (k : Int))] [] (rm_p X9 mb rl σ) := by
      intro n
      induction n with
      | zero =>
        intro k rl hk el1 el2 el3 el11 el17 el18
        obtain ⟨ag, hIk⟩ := sp_dayK_ag hI k (by omega)
        have a1 : sp_dayK s k 1 = s 1 := ag 1 (by omega)
        have a4 : sp_dayK s k 4 = s 4 := ag 4 (by omega)
        refine go_iload_n dX12_day_26 rfl 1 rfl ?_
        refine go_aload_n dX12_day_27 rfl 0 rfl ?_
        refine grm_g1 rfl dX12_day_28 ?_
        refine go_iconst (v := Int32.ofInt 1) dX12_day_31 rfl ?_
        refine grm_l1 (by omega) (by omega) dX12_day_32 ?_
        rw [show rl 1 = sp_dayK s k from el1]
        rw [show (sp_dayK s k) 1 = s 1 from a1]
        refine go_icmp_geI (tgt := 78) (by omega) (by omega) dX12_day_33 (by decide) (fun c_33 => ?_) (fun c_33 => ?_)
        · refine go_aload_n dX12_day_78 rfl 0 rfl ?_
          refine grm_g1 rfl dX12_day_79 ?_
          refine go_iconst (v := Int32.ofInt 4) dX12_day_82 rfl ?_
          refine go_dup2_11 dX12_day_83 rfl rfl ?_
          refine grm_l1 (by omega) (by omega) dX12_day_84 ?_
          rw [show rl 1 = sp_dayK s k from el1]
          rw [show (sp_dayK s k) 4 = s 4 from a4]
          refine go_iconst (v := Int32.ofInt 1) dX12_day_85 rfl ?_
          refine go_addI dX12_day_86 ?_
          refine grm_s1 (by omega) (by omega) dX12_day_87 ?_
          refine go_aload_n dX12_day_88 rfl 0 rfl ?_
          refine grm_g1 rfl dX12_day_89 ?_
          refine go_iconst (v := Int32.ofInt 4) dX12_day_92 rfl ?_
          refine grm_l1 (by omega) (by omega) dX12_day_93 ?_
          rw [show (rm_u rl 1 (rj_up (rl 1) 4 ((s 4) + 1))) 1 = (rj_up (sp_dayK s k) 4 ((s 4) + 1)) from (congrArg (fun zz => rj_up zz 4 ((s 4) + 1)) (show rl 1 = sp_dayK s k from el1))]
          rw [show (rj_up (sp_dayK s k) 4 ((s 4) + 1)) 4 = s 4 + 1 from rj_up_eq _ _ _]
          refine go_retI rfl rfl ?_ dX12_day_94
          exact ⟨rj_vi (by unfold sp_dayF; rw [if_neg (by omega)]), (rm_u rl 1 (rj_up (rl 1) 4 ((s 4) + 1))), ⟨((show (rm_u rl 1 (rj_up (rl 1) 4 ((s 4) + 1))) 1 = (rj_up (sp_dayK s k) 4 ((s 4) + 1)) from (congrArg (fun zz => rj_up zz 4 ((s 4) + 1)) (show rl 1 = sp_dayK s k from el1)))).trans (by unfold sp_dayS; rw [if_neg (by omega), show (s 1).toNat = k by omega]), (show (rm_u rl 1 (rj_up (rl 1) 4 ((s 4) + 1))) 2 = (r 2) from el2), (show (rm_u rl 1 (rj_up (rl 1) 4 ((s 4) + 1))) 3 0 = (r 3 0) from el3), (show (rm_u rl 1 (rj_up (rl 1) 4 ((s 4) + 1))) 17 = (r 17) from el17), (show (rm_u rl 1 (rj_up (rl 1) 4 ((s 4) + 1))) 18 0 = (r 18 0) from el18)⟩, rfl⟩
        · exact absurd c_33 (by omega)
      | succ n ih =>
        intro k rl hk el1 el2 el3 el11 el17 el18
        obtain ⟨ag, hIk⟩ := sp_dayK_ag hI k (by omega)
        have a1 : sp_dayK s k 1 = s 1 := ag 1 (by omega)
        have a4 : sp_dayK s k 4 = s 4 := ag 4 (by omega)
        have pk : 0 ≤ sp_dayK s k (190 + (k : Int)) ∧ sp_dayK s k (190 + (k : Int)) ≤ 20 := by
          exact (hIk.2.2.1 (k : Int) (by omega) (by omega)).2.2.2
        have sb := sp_sunny_b (sp_dayK s k) (s 4) (k : Int)
        refine go_iload_n dX12_day_26 rfl 1 rfl ?_
        refine go_aload_n dX12_day_27 rfl 0 rfl ?_
        refine grm_g1 rfl dX12_day_28 ?_
        refine go_iconst (v := Int32.ofInt 1) dX12_day_31 rfl ?_
        refine grm_l1 (by omega) (by omega) dX12_day_32 ?_
        rw [show rl 1 = sp_dayK s k from el1]
        rw [show (sp_dayK s k) 1 = s 1 from a1]
        refine go_icmp_geI (tgt := 78) (by omega) (by omega) dX12_day_33 (by decide) (fun c_33 => ?_) (fun c_33 => ?_)
        · exact absurd c_33 (by omega)
        · refine go_aload_n dX12_day_36 rfl 0 rfl ?_
          refine grm_g1 rfl dX12_day_37 ?_
          refine go_sipush (v := Int32.ofInt 190) dX12_day_40 (by decide) ?_
          refine go_iload_n dX12_day_43 rfl 1 rfl ?_
          refine go_addI dX12_day_44 ?_
          refine grm_l1 (by omega) (by omega) dX12_day_45 ?_
          rw [show rl 1 = sp_dayK s k from el1]
          refine go_aload_n dX12_day_46 rfl 0 rfl ?_
          refine go_iload_n dX12_day_47 rfl 1 rfl ?_
          refine go_callV (d1 := d - 1) wVX12_227 kX12 rm_ob rfl (by omega) (m_sunny (by omega) (p := (k : Int)) (hs := (show rl 1 = sp_dayK s k from el1)) (hD := (show rl 11 0 = s 4 from el11)) (by omega) hIk (by omega)) rfl (Nat.le_of_ble_eq_true rfl) dX12_day_48 (fun w σ1 hP => ?_)
          obtain ⟨rfl, r51, hr51, rfl⟩ := hP
          have q51_1 : r51 1 = sp_dayK s k := (hr51 1 (by decide) (by decide)).trans (show rl 1 = sp_dayK s k from el1)
          have q51_2 : r51 2 = (r 2) := (hr51 2 (by decide) (by decide)).trans (show rl 2 = (r 2) from el2)
          have q51_3 : r51 3 0 = (r 3 0) := (congrFun (hr51 3 (by decide) (by decide)) 0).trans (show rl 3 0 = (r 3 0) from el3)
          have q51_11 : r51 11 0 = s 4 := (congrFun (hr51 11 (by decide) (by decide)) 0).trans (show rl 11 0 = s 4 from el11)
          have q51_17 : r51 17 = (r 17) := (hr51 17 (by decide) (by decide)).trans (show rl 17 = (r 17) from el17)
          have q51_18 : r51 18 0 = (r 18 0) := (congrFun (hr51 18 (by decide) (by decide)) 0).trans (show rl 18 0 = (r 18 0) from el18)
          refine go_subI dX12_day_51 ?_
          refine go_istore_nS (lv' := [(0, .ref mb), (1, rj_i (k : Int)), (2, rj_i (((sp_dayK s k) (190 + (k : Int))) - (sp_sunny (sp_dayK s k) (s 4) (k : Int))))]) rfl (by decide) rfl dX12_day_52 ?_
          refine go_aload_n dX12_day_53 rfl 0 rfl ?_
          refine grm_g1 rfl dX12_day_54 ?_
          refine go_sipush (v := Int32.ofInt 190) dX12_day_57 (by decide) ?_
          refine go_iload_n dX12_day_60 rfl 1 rfl ?_
          refine go_addI dX12_day_61 ?_
          refine go_iload_n dX12_day_62 rfl 2 rfl ?_
          refine go_if_geI (tgt := 70) (by omega) dX12_day_63 (by decide) (fun c_63 => ?_) (fun c_63 => ?_)
          · refine go_iload_n dX12_day_70 rfl 2 rfl ?_
            refine grm_s1 (by omega) (by omega) dX12_day_71 ?_
            refine go_iincI (a := (k : Int)) (n := 1) (k0 := 1) (lv' := [(0, .ref mb), (1, rj_i ((k : Int) + 1)), (2, rj_i (((sp_dayK s k) (190 + (k : Int))) - (sp_sunny (sp_dayK s k) (s 4) (k : Int))))]) rfl (by decide) rfl dX12_day_72 ?_
            refine go_goto (tgt := 26) dX12_day_75 (by decide) ?_
            refine go_sub (lv' := [(0, .ref mb), (1, rj_i ((k : Int) + 1))]) (by intro q hq; simp only [List.mem_cons, List.not_mem_nil, or_false] at hq ⊢; rcases hq with rfl | rfl <;> simp) ?_
            exact go_eq rfl (lv' := [(0, .ref mb), (1, rj_i ((k + 1 : Nat) : Int))]) (rj_lk (rj_lj (by omega) rfl)) rfl rfl (ih (k + 1) (rm_u r51 1 (rj_up (r51 1) (190 + (k : Int)) (((sp_dayK s k) (190 + (k : Int))) - (sp_sunny (sp_dayK s k) (s 4) (k : Int))))) (by omega) (((show (rm_u r51 1 (rj_up (r51 1) (190 + (k : Int)) (((sp_dayK s k) (190 + (k : Int))) - (sp_sunny (sp_dayK s k) (s 4) (k : Int))))) 1 = (rj_up (sp_dayK s k) (190 + (k : Int)) (((sp_dayK s k) (190 + (k : Int))) - (sp_sunny (sp_dayK s k) (s 4) (k : Int)))) from (congrArg (fun zz => rj_up zz (190 + (k : Int)) (((sp_dayK s k) (190 + (k : Int))) - (sp_sunny (sp_dayK s k) (s 4) (k : Int)))) (show r51 1 = sp_dayK s k from q51_1)))).trans (by rw [sp_dayK, if_neg (by omega)])) ((show (rm_u r51 1 (rj_up (r51 1) (190 + (k : Int)) (((sp_dayK s k) (190 + (k : Int))) - (sp_sunny (sp_dayK s k) (s 4) (k : Int))))) 2 = (r 2) from q51_2)) ((show (rm_u r51 1 (rj_up (r51 1) (190 + (k : Int)) (((sp_dayK s k) (190 + (k : Int))) - (sp_sunny (sp_dayK s k) (s 4) (k : Int))))) 3 0 = (r 3 0) from q51_3)) ((show (rm_u r51 1 (rj_up (r51 1) (190 + (k : Int)) (((sp_dayK s k) (190 + (k : Int))) - (sp_sunny (sp_dayK s k) (s 4) (k : Int))))) 11 0 = s 4 from q51_11)) ((show (rm_u r51 1 (rj_up (r51 1) (190 + (k : Int)) (((sp_dayK s k) (190 + (k : Int))) - (sp_sunny (sp_dayK s k) (s 4) (k : Int))))) 17 = (r 17) from q51_17)) ((show (rm_u r51 1 (rj_up (r51 1) (190 + (k : Int)) (((sp_dayK s k) (190 + (k : Int))) - (sp_sunny (sp_dayK s k) (s 4) (k : Int))))) 18 0 = (r 18 0) from q51_18)))
          · refine go_iconst (v := Int32.ofInt 0) dX12_day_66 rfl ?_
            refine go_goto (tgt := 71) dX12_day_67 (by decide) ?_
            refine grm_s1 (by omega) (by omega) dX12_day_71 ?_
            refine go_iincI (a := (k : Int)) (n := 1) (k0 := 1) (lv' := [(0, .ref mb), (1, rj_i ((k : Int) + 1)), (2, rj_i (((sp_dayK s k) (190 + (k : Int))) - (sp_sunny (sp_dayK s k) (s 4) (k : Int))))]) rfl (by decide) rfl dX12_day_72 ?_
            refine go_goto (tgt := 26) dX12_day_75 (by decide) ?_
            refine go_sub (lv' := [(0, .ref mb), (1, rj_i ((k : Int) + 1))]) (by intro q hq; simp only [List.mem_cons, List.not_mem_nil, or_false] at hq ⊢; rcases hq with rfl | rfl <;> simp) ?_
            exact go_eq rfl (lv' := [(0, .ref mb), (1, rj_i ((k + 1 : Nat) : Int))]) (rj_lk (rj_lj (by omega) rfl)) rfl rfl (ih (k + 1) (rm_u r51 1 (rj_up (r51 1) (190 + (k : Int)) 0)) (by omega) (((show (rm_u r51 1 (rj_up (r51 1) (190 + (k : Int)) 0)) 1 = (rj_up (sp_dayK s k) (190 + (k : Int)) 0) from (congrArg (fun zz => rj_up zz (190 + (k : Int)) 0) (show r51 1 = sp_dayK s k from q51_1)))).trans (by rw [sp_dayK, if_pos (by omega)])) ((show (rm_u r51 1 (rj_up (r51 1) (190 + (k : Int)) 0)) 2 = (r 2) from q51_2)) ((show (rm_u r51 1 (rj_up (r51 1) (190 + (k : Int)) 0)) 3 0 = (r 3 0) from q51_3)) ((show (rm_u r51 1 (rj_up (r51 1) (190 + (k : Int)) 0)) 11 0 = s 4 from q51_11)) ((show (rm_u r51 1 (rj_up (r51 1) (190 + (k : Int)) 0)) 17 = (r 17) from q51_17)) ((show (rm_u r51 1 (rj_up (r51 1) (190 + (k : Int)) 0)) 18 0 = (r 18 0) from q51_18)))
    exact go_eq rfl (lv' := [(0, .ref mb), (1, rj_i ((0 : Nat) : Int))]) (rj_lk (rj_lj (rfl) rfl)) rfl rfl (loop (s 1).toNat 0 r1 (by omega) ((show r1 1 = s from q1_1)) ((show r1 2 = (r 2) from q1_2)) ((show r1 3 0 = (r 3 0) from q1_3)) ((show r1 11 0 = s 4 from q1_11)) ((show r1 17 = (r 17) from q1_17)) ((show r1 18 0 = (r 18 0) from q1_18)))
  · refine go_bipush (v := Int32.ofInt (-3)) dX12_day_11 (by decide) ?_
    refine go_retI rfl rfl ?_ dX12_day_13
    exact ⟨rj_vi (by unfold sp_dayF; rw [if_pos (by omega)]), r, ⟨((show r 1 = s from hs)).trans (by unfold sp_dayS; rw [if_pos (by omega)]), (show r 2 = (r 2) from rfl), (show r 3 0 = (r 3 0) from rfl), (show r 17 = (r 17) from rfl), (show r 18 0 = (r 18 0) from rfl)⟩, rfl⟩
