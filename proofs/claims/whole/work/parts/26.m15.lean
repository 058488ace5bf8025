/-! THE REFERENCE, 15: image, undo, day, judged -/
/-- a copy of the first k numbers -/
def sp_cp (a b : Int → Int) (k : Nat) : Int → Int := fun j => if 0 ≤ j ∧ j < (k : Int) then a j else b j
theorem sp_cp_0 (a b : Int → Int) : sp_cp a b 0 = b := by funext j; unfold sp_cp; rw [if_neg (by omega)]
theorem sp_cp_s (a b : Int → Int) (k : Nat) : rj_up (sp_cp a b k) (k : Int) (a (k : Int)) = sp_cp a b (k + 1) := by
  funext j
  unfold sp_cp rj_up
  by_cases h : j = (k : Int)
  · rw [if_pos h, if_pos (by omega), h]
  · rw [if_neg h]
    show (if 0 ≤ j ∧ j < (k : Int) then a j else b j) = _
    by_cases h2 : 0 ≤ j ∧ j < (k : Int)
    · rw [if_pos h2, if_pos (by omega)]
    · rw [if_neg h2, if_neg (by omega)]
/-- nothing outside of the row -/
def sp_IO (a : Int → Int) : Prop := ∀ j : Int, ¬ (0 ≤ j ∧ j < 1029) → a j = 0
theorem sp_cp_all {a b : Int → Int} (ha : sp_IO a) (hb : sp_IO b) : sp_cp a b 1029 = a := by
  funext j
  unfold sp_cp
  split
  · rfl
  · rename_i h
    rw [ha j h, hb j h]
set_option maxRecDepth 20000 in
/-- m_image -/
theorem m_image {X9 : rj_X} {σ : rj_H} {d : Nat} {mb : Nat} {r : rm_R} {t : Int → Int} (ht : r 2 = t) {s : Int → Int} (hs : r 1 = s) (hI : sp_I s) (hO : sp_IO s) (hOt : sp_IO t) : rj_Cl X9 d yX12_image cX12_image 2 (some .int) [.ref mb] (rm_p X9 mb r σ) (fun w9 τ => w9 = some (rj_i (s 0)) ∧ ∃ r0, (r0 1 = s ∧ r0 2 = s ∧ r0 3 0 = 1 ∧ r0 17 = r 17 ∧ r0 18 0 = r 18 0) ∧ τ = rm_p X9 mb r0 σ) := by
  obtain ⟨⟨h0, h1, h2, h3, h4, h5, h6, h7⟩, hM, hP, hW, hL, hV⟩ := id hI
  obtain ⟨v1, v2, v3, v4⟩ := id hV
  refine go_call (by decide +kernel) (Nat.le_of_ble_eq_true rfl) ?_
  refine go_eq (pc' := 0) (lv' := [(0, .ref mb)]) (st' := []) rfl rfl rfl rfl ?_
  refine go_iconst (v := Int32.ofInt 0) dX12_image_0 rfl ?_
  refine go_istore_nS (lv' := [(0, .ref mb), (1, rj_i 0)]) rfl (by decide) rfl dX12_image_1 ?_
  have loop : ∀ (n k : Nat) (rl : rm_R), k + n = (1029 : Int).toNat → rl 1 = s → rl 2 = sp_cp s t k → rl 3 0 = (r 3 0) → rl 17 = (r 17) → rl 18 0 = (r 18 0) → rj_Go X9 yX12_image cX12_image 2 (some .int) d (fun w9 τ => w9 = some (rj_i (s 0)) ∧ ∃ r0, (r0 1 = s ∧ r0 2 = s ∧ r0 3 0 = 1 ∧ r0 17 = r 17 ∧ r0 18 0 = r 18 0) ∧ τ = rm_p X9 mb r0 σ) 2 [(0, .ref mb), (1, rj_i (k : Int))] [] (rm_p X9 mb rl σ) := by
    intro n
    induction n with
    | zero =>
      intro k rl hk el1 el2 el3 el17 el18
      refine go_iload_n dX12_image_2 rfl 1 rfl ?_
      refine go_sipush (v := Int32.ofInt 1029) dX12_image_3 (by decide) ?_
      refine go_icmp_geI (tgt := 27) (by omega) (by omega) dX12_image_6 (by decide) (fun c_6 => ?_) (fun c_6 => ?_)
      · refine go_aload_n dX12_image_27 rfl 0 rfl ?_
        refine go_iconst (v := Int32.ofInt 1) dX12_image_28 rfl ?_
        refine grm_w3 rfl (by omega) dX12_image_29 ?_
        refine go_aload_n dX12_image_32 rfl 0 rfl ?_
        refine grm_g1 rfl dX12_image_33 ?_
        refine go_iconst (v := Int32.ofInt 0) dX12_image_36 rfl ?_
        refine grm_l1 (by omega) (by omega) dX12_image_37 ?_
        rw [show (rm_u rl 3 (fun _ => 1)) 1 = s from el1]
        refine go_retI rfl rfl ?_ dX12_image_38
        exact ⟨rfl, (rm_u rl 3 (fun _ => 1)), ⟨(show (rm_u rl 3 (fun _ => 1)) 1 = s from el1), ((show (rm_u rl 3 (fun _ => 1)) 2 = sp_cp s t k from el2)).trans (by rw [show k = 1029 by omega]; exact sp_cp_all hO hOt), (show (rm_u rl 3 (fun _ => 1)) 3 0 = 1 from rfl), (show (rm_u rl 3 (fun _ => 1)) 17 = (r 17) from el17), (show (rm_u rl 3 (fun _ => 1)) 18 0 = (r 18 0) from el18)⟩, rfl⟩
      · exact absurd c_6 (by omega)
    | succ n ih =>
      intro k rl hk el1 el2 el3 el17 el18
      refine go_iload_n dX12_image_2 rfl 1 rfl ?_
      refine go_sipush (v := Int32.ofInt 1029) dX12_image_3 (by decide) ?_
      refine go_icmp_geI (tgt := 27) (by omega) (by omega) dX12_image_6 (by decide) (fun c_6 => ?_) (fun c_6 => ?_)
      · exact absurd c_6 (by omega)
      · refine go_aload_n dX12_image_9 rfl 0 rfl ?_
        refine grm_g2 rfl dX12_image_10 ?_
        refine go_iload_n dX12_image_13 rfl 1 rfl ?_
        refine go_aload_n dX12_image_14 rfl 0 rfl ?_
        refine grm_g1 rfl dX12_image_15 ?_
        refine go_iload_n dX12_image_18 rfl 1 rfl ?_
        refine grm_l1 (by omega) (by omega) dX12_image_19 ?_
        rw [show rl 1 = s from el1]
        refine grm_s2 (by omega) (by omega) dX12_image_20 ?_
        refine go_iincI (a := (k : Int)) (n := 1) (k0 := 1) (lv' := [(0, .ref mb), (1, rj_i ((k : Int) + 1))]) rfl (by decide) rfl dX12_image_21 ?_
        refine go_goto (tgt := 2) dX12_image_24 (by decide) ?_
        exact go_eq rfl (lv' := [(0, .ref mb), (1, rj_i ((k + 1 : Nat) : Int))]) (rj_lk (rj_lj (by omega) rfl)) rfl rfl (ih (k + 1) (rm_u rl 2 (rj_up (rl 2) (k : Int) (s (k : Int)))) (by omega) ((show (rm_u rl 2 (rj_up (rl 2) (k : Int) (s (k : Int)))) 1 = s from el1)) (((show (rm_u rl 2 (rj_up (rl 2) (k : Int) (s (k : Int)))) 2 = (rj_up (sp_cp s t k) (k : Int) (s (k : Int))) from (congrArg (fun zz => rj_up zz (k : Int) (s (k : Int))) (show rl 2 = sp_cp s t k from el2)))).trans (sp_cp_s s t k)) ((show (rm_u rl 2 (rj_up (rl 2) (k : Int) (s (k : Int)))) 3 0 = (r 3 0) from el3)) ((show (rm_u rl 2 (rj_up (rl 2) (k : Int) (s (k : Int)))) 17 = (r 17) from el17)) ((show (rm_u rl 2 (rj_up (rl 2) (k : Int) (s (k : Int)))) 18 0 = (r 18 0) from el18)))
  exact go_eq rfl (lv' := [(0, .ref mb), (1, rj_i ((0 : Nat) : Int))]) (rj_lk (rj_lj (rfl) rfl)) rfl rfl (loop (1029 : Int).toNat 0 r (by omega) ((show r 1 = s from hs)) (((show r 2 = t from ht)).trans (sp_cp_0 s t).symm) ((show r 3 0 = (r 3 0) from rfl)) ((show r 17 = (r 17) from rfl)) ((show r 18 0 = (r 18 0) from rfl)))
set_option maxRecDepth 20000 in
/-- m_undo -/
theorem m_undo {X9 : rj_X} {σ : rj_H} {d : Nat} {mb : Nat} {r : rm_R} {t : Int → Int} {hi9 : Int} (ht : r 2 = t) (h3r : r 3 0 = hi9) (h39 : hi9 = 0 ∨ hi9 = 1) {s : Int → Int} (hs : r 1 = s) (hI : sp_I s) (hO : sp_IO s) (hOt : sp_IO t) : rj_Cl X9 d yX12_undo cX12_undo 2 (some .int) [.ref mb] (rm_p X9 mb r σ) (fun w9 τ => w9 = some (rj_i (if hi9 = 0 then -3 else t 0)) ∧ ∃ r0, (r0 1 = (if hi9 = 0 then s else t) ∧ r0 2 = t ∧ r0 3 0 = hi9 ∧ r0 17 = r 17 ∧ r0 18 0 = r 18 0) ∧ τ = rm_p X9 mb r0 σ) := by
  obtain ⟨⟨h0, h1, h2, h3, h4, h5, h6, h7⟩, hM, hP, hW, hL, hV⟩ := id hI
  obtain ⟨v1, v2, v3, v4⟩ := id hV
  refine go_call (by decide +kernel) (Nat.le_of_ble_eq_true rfl) ?_
  refine go_eq (pc' := 0) (lv' := [(0, .ref mb)]) (st' := []) rfl rfl rfl rfl ?_
  refine go_aload_n dX12_undo_0 rfl 0 rfl ?_
  refine grm_g3 rfl dX12_undo_1 ?_
  rw [show r 3 0 = hi9 from h3r]
  refine go_if_neI (tgt := 10) (by omega) dX12_undo_4 (by decide) (fun c_4 => ?_) (fun c_4 => ?_)
  · refine go_iconst (v := Int32.ofInt 0) dX12_undo_10 rfl ?_
    refine go_istore_nS (lv' := [(0, .ref mb), (1, rj_i 0)]) rfl (by decide) rfl dX12_undo_11 ?_
    have loop : ∀ (n k : Nat) (rl : rm_R), k + n = (1029 : Int).toNat → rl 1 = sp_cp t s k → rl 2 = t → rl 3 0 = hi9 → rl 17 = (r 17) → rl 18 0 = (r 18 0) → rj_Go X9 yX12_undo cX12_undo 2 (some .int) d (fun w9 τ => w9 = some (rj_i (if hi9 = 0 then -3 else t 0)) ∧ ∃ r0, (r0 1 = (if hi9 = 0 then s else t) ∧ r0 2 = t ∧ r0 3 0 = hi9 ∧ r0 17 = r 17 ∧ r0 18 0 = r 18 0) ∧ τ = rm_p X9 mb r0 σ) 12 [(0, .ref mb), (1, rj_i (k : Int))] [] (rm_p X9 mb rl σ) := by
      intro n
      induction n with
      | zero =>
        intro k rl hk el1 el2 el3 el17 el18
        refine go_iload_n dX12_undo_12 rfl 1 rfl ?_
        refine go_sipush (v := Int32.ofInt 1029) dX12_undo_13 (by decide) ?_
        refine go_icmp_geI (tgt := 37) (by omega) (by omega) dX12_undo_16 (by decide) (fun c_16 => ?_) (fun c_16 => ?_)
        · refine go_aload_n dX12_undo_37 rfl 0 rfl ?_
          refine grm_g1 rfl dX12_undo_38 ?_
          refine go_iconst (v := Int32.ofInt 0) dX12_undo_41 rfl ?_
          refine grm_l1 (by omega) (by omega) dX12_undo_42 ?_
          rw [show rl 1 = sp_cp t s k from el1]
          refine go_retI rfl rfl ?_ dX12_undo_43
          exact ⟨rj_vi (by rw [if_neg (by omega), show k = 1029 by omega, sp_cp_all hOt hO]), rl, ⟨(by rw [if_neg (by omega), (show rl 1 = sp_cp t s k from el1), show k = 1029 by omega]; exact sp_cp_all hOt hO), (show rl 2 = t from el2), (show rl 3 0 = hi9 from el3), (show rl 17 = (r 17) from el17), (show rl 18 0 = (r 18 0) from el18)⟩, rfl⟩
        · exact absurd c_16 (by omega)
      | succ n ih =>
        intro k rl hk el1 el2 el3 el17 el18
        refine go_iload_n dX12_undo_12 rfl 1 rfl ?_
        refine go_sipush (v := Int32.ofInt 1029) dX12_undo_13 (by decide) ?_
        refine go_icmp_geI (tgt := 37) (by omega) (by omega) dX12_undo_16 (by decide) (fun c_16 => ?_) (fun c_16 => ?_)
        · exact absurd c_16 (by omega)
        · refine go_aload_n dX12_undo_19 rfl 0 rfl ?_
          refine grm_g1 rfl dX12_undo_20 ?_
          refine go_iload_n dX12_undo_23 rfl 1 rfl ?_
          refine go_aload_n dX12_undo_24 rfl 0 rfl ?_
          refine grm_g2 rfl dX12_undo_25 ?_
          refine go_iload_n dX12_undo_28 rfl 1 rfl ?_
          refine grm_l2 (by omega) (by omega) dX12_undo_29 ?_
          rw [show rl 2 = t from el2]
          refine grm_s1 (by omega) (by omega) dX12_undo_30 ?_
          refine go_iincI (a := (k : Int)) (n := 1) (k0 := 1) (lv' := [(0, .ref mb), (1, rj_i ((k : Int) + 1))]) rfl (by decide) rfl dX12_undo_31 ?_
          refine go_goto (tgt := 12) dX12_undo_34 (by decide) ?_
          exact go_eq rfl (lv' := [(0, .ref mb), (1, rj_i ((k + 1 : Nat) : Int))]) (rj_lk (rj_lj (by omega) rfl)) rfl rfl (ih (k + 1) (rm_u rl 1 (rj_up (rl 1) (k : Int) (t (k : Int)))) (by omega) (((show (rm_u rl 1 (rj_up (rl 1) (k : Int) (t (k : Int)))) 1 = (rj_up (sp_cp t s k) (k : Int) (t (k : Int))) from (congrArg (fun zz => rj_up zz (k : Int) (t (k : Int))) (show rl 1 = sp_cp t s k from el1)))).trans (sp_cp_s t s k)) ((show (rm_u rl 1 (rj_up (rl 1) (k : Int) (t (k : Int)))) 2 = t from el2)) ((show (rm_u rl 1 (rj_up (rl 1) (k : Int) (t (k : Int)))) 3 0 = hi9 from el3)) ((show (rm_u rl 1 (rj_up (rl 1) (k : Int) (t (k : Int)))) 17 = (r 17) from el17)) ((show (rm_u rl 1 (rj_up (rl 1) (k : Int) (t (k : Int)))) 18 0 = (r 18 0) from el18)))
    exact go_eq rfl (lv' := [(0, .ref mb), (1, rj_i ((0 : Nat) : Int))]) (rj_lk (rj_lj (rfl) rfl)) rfl rfl (loop (1029 : Int).toNat 0 r (by omega) (((show r 1 = s from hs)).trans (sp_cp_0 t s).symm) ((show r 2 = t from ht)) ((show r 3 0 = hi9 from h3r)) ((show r 17 = (r 17) from rfl)) ((show r 18 0 = (r 18 0) from rfl)))
  · refine go_bipush (v := Int32.ofInt (-3)) dX12_undo_7 (by decide) ?_
    refine go_retI rfl rfl ?_ dX12_undo_9
    exact ⟨rj_vi (by rw [if_pos (by omega)]), r, ⟨((show r 1 = s from hs)).trans (by rw [if_pos (by omega)]), (show r 2 = t from ht), (show r 3 0 = hi9 from h3r), (show r 17 = (r 17) from rfl), (show r 18 0 = (r 18 0) from rfl)⟩, rfl⟩
def sp_jB (s : Int → Int) (q m : Int) : Bool := decide (s (236 + 8 * m + q) ≠ -1) && (!sp_can s (s 4) m (s (236 + 8 * m + q)) q || (decide (0 < q) && sp_far s (s (236 + 8 * m + q)) (s (236 + 8 * m + q - 1))))
def sp_j2 (s : Int → Int) (q : Nat) (K : Int) : Nat → Nat → Int
  | 0, _ => K
  | n + 1, m => if sp_jB s (q : Int) (m : Int) = true then 10 * (q : Int) + (m : Int) else sp_j2 s q K n (m + 1)
def sp_j1 (s : Int → Int) : Nat → Nat → Int
  | 0, _ => -5
  | n + 1, q => sp_j2 s q (sp_j1 s n (q + 1)) (s 0).toNat 0
def sp_judF (s : Int → Int) : Int := sp_j1 s 8 0
set_option maxRecDepth 20000 in
/-- m_judged -/
theorem m_judged {X9 : rj_X} {σ : rj_H} {d : Nat} {mb : Nat} {r : rm_R} (hd : 5 ≤ d) {s : Int → Int} (hs : r 1 = s) (hI : sp_I s) : rj_Cl X9 d yX12_judged cX12_judged 4 (some .int) [.ref mb] (rm_p X9 mb r σ) (fun w9 τ => w9 = some (rj_i (sp_judF s)) ∧ ∃ r0, rm_V r r0 s ∧ τ = rm_p X9 mb r0 σ) := by
  obtain ⟨⟨h0, h1, h2, h3, h4, h5, h6, h7⟩, hM, hP, hW, hL, hV⟩ := id hI
  obtain ⟨v1, v2, v3, v4⟩ := id hV
  refine go_call (by decide +kernel) (Nat.le_of_ble_eq_true rfl) ?_
  refine go_eq (pc' := 0) (lv' := [(0, .ref mb)]) (st' := []) rfl rfl rfl rfl ?_
  refine go_aload_n dX12_judged_0 rfl 0 rfl ?_
  refine go_aload_n dX12_judged_1 rfl 0 rfl ?_
  refine grm_g1 rfl dX12_judged_2 ?_
  refine go_iconst (v := Int32.ofInt 4) dX12_judged_5 rfl ?_
  refine grm_l1 (by omega) (by omega) dX12_judged_6 ?_
  rw [show r 1 = s from hs]
  refine grm_w11 rfl dX12_judged_7 ?_
  obtain ⟨r1, e1⟩ : ∃ x_, x_ = (rm_u r 11 (fun _ => s 4)) := ⟨_, rfl⟩
  rw [← e1]
  have q1_1 : r1 1 = s := by rw [e1]; exact (show (rm_u r 11 (fun _ => s 4)) 1 = s from hs)
  have q1_2 : r1 2 = (r 2) := by rw [e1]; exact (show (rm_u r 11 (fun _ => s 4)) 2 = (r 2) from rfl)
  have q1_3 : r1 3 0 = (r 3 0) := by rw [e1]; exact (show (rm_u r 11 (fun _ => s 4)) 3 0 = (r 3 0) from rfl)
  have q1_17 : r1 17 = (r 17) := by rw [e1]; exact (show (rm_u r 11 (fun _ => s 4)) 17 = (r 17) from rfl)
  have q1_18 : r1 18 0 = (r 18 0) := by rw [e1]; exact (show (rm_u r 11 (fun _ => s 4)) 18 0 = (r 18 0) from rfl)
  have q1_11 : r1 11 0 = s 4 := by rw [e1]; exact (show (rm_u r 11 (fun _ => s 4)) 11 0 = s 4 from rfl)
  refine go_iconst (v := Int32.ofInt 0) dX12_judged_10 rfl ?_
  refine go_istore_nS (lv' := [(0, .ref mb), (1, rj_i 0)]) rfl (by decide) rfl dX12_judged_11 ?_
  have loopa : ∀ (na ka : Nat) (rla : rm_R), ka + na = (8 : Int).toNat → rm_t r1 rla → (sp_judF s) = sp_j1 s na ka → rj_Go X9 yX12_judged cX12_judged 4 (some .int) d (fun w9 τ => w9 = some (rj_i (sp_judF s)) ∧ ∃ r0, rm_V r r0 s ∧ τ = rm_p X9 mb r0 σ) 12 [(0, .ref mb), (1, rj_i (ka : Int))] [] (rm_p X9 mb rla σ) := by
    intro na
    induction na with
    | zero =>
      intro ka rla hka hra hFa 
      have ela1 : rla 1 = s := (hra 1 (by decide) (by decide)).trans (show r1 1 = s from q1_1)
      have ela2 : rla 2 = (r 2) := (hra 2 (by decide) (by decide)).trans (show r1 2 = (r 2) from q1_2)
      have ela3 : rla 3 0 = (r 3 0) := (congrFun (hra 3 (by decide) (by decide)) 0).trans (show r1 3 0 = (r 3 0) from q1_3)
      have ela17 : rla 17 = (r 17) := (hra 17 (by decide) (by decide)).trans (show r1 17 = (r 17) from q1_17)
      have ela18 : rla 18 0 = (r 18 0) := (congrFun (hra 18 (by decide) (by decide)) 0).trans (show r1 18 0 = (r 18 0) from q1_18)
      have ela11 : rla 11 0 = s 4 := (congrFun (hra 11 (by decide) (by decide)) 0).trans (show r1 11 0 = s 4 from q1_11)
      refine go_iload_n dX12_judged_12 rfl 1 rfl ?_
      refine go_bipush (v := Int32.ofInt 8) dX12_judged_13 (by decide) ?_
      refine go_icmp_geI (tgt := 109) (by omega) (by omega) dX12_judged_15 (by decide) (fun c_15 => ?_) (fun c_15 => ?_)
      · refine go_bipush (v := Int32.ofInt (-5)) dX12_judged_109 (by decide) ?_
        refine go_retI rfl rfl ?_ dX12_judged_111
        exact ⟨rj_vi (by rw [hFa]; rfl), rla, ⟨(show rla 1 = s from ela1), (show rla 2 = (r 2) from ela2), (show rla 3 0 = (r 3 0) from ela3), (show rla 17 = (r 17) from ela17), (show rla 18 0 = (r 18 0) from ela18)⟩, rfl⟩
      · exact absurd c_15 (by omega)
    | succ na iha =>
      intro ka rla hka hra hFa 
      have ela1 : rla 1 = s := (hra 1 (by decide) (by decide)).trans (show r1 1 = s from q1_1)
      have ela2 : rla 2 = (r 2) := (hra 2 (by decide) (by decide)).trans (show r1 2 = (r 2) from q1_2)
      have ela3 : rla 3 0 = (r 3 0) := (congrFun (hra 3 (by decide) (by decide)) 0).trans (show r1 3 0 = (r 3 0) from q1_3)
      have ela17 : rla 17 = (r 17) := (hra 17 (by decide) (by decide)).trans (show r1 17 = (r 17) from q1_17)
      have ela18 : rla 18 0 = (r 18 0) := (congrFun (hra 18 (by decide) (by decide)) 0).trans (show r1 18 0 = (r 18 0) from q1_18)
      have ela11 : rla 11 0 = s 4 := (congrFun (hra 11 (by decide) (by decide)) 0).trans (show r1 11 0 = s 4 from q1_11)
      have hFa2 := hFa
      rw [sp_j1] at hFa2
      refine go_iload_n dX12_judged_12 rfl 1 rfl ?_
      refine go_bipush (v := Int32.ofInt 8) dX12_judged_13 (by decide) ?_
      refine go_icmp_geI (tgt := 109) (by omega) (by omega) dX12_judged_15 (by decide) (fun c_15 => ?_) (fun c_15 => ?_)
      · exact absurd c_15 (by omega)
      · refine go_iconst (v := Int32.ofInt 0) dX12_judged_18 rfl ?_
        refine go_istore_nS (lv' := [(0, .ref mb), (1, rj_i (ka : Int)), (2, rj_i 0)]) rfl (by decide) rfl dX12_judged_19 ?_
        have loopb : ∀ (nb kb : Nat) (rlb : rm_R), kb + nb = (s 0).toNat → rm_t rla rlb → (sp_judF s) = sp_j2 s ka (sp_j1 s na (ka + 1)) nb kb → rj_Go X9 yX12_judged cX12_judged 4 (some .int) d (fun w9 τ => w9 = some (rj_i (sp_judF s)) ∧ ∃ r0, rm_V r r0 s ∧ τ = rm_p X9 mb r0 σ) 20 [(0, .ref mb), (1, rj_i (ka : Int)), (2, rj_i (kb : Int))] [] (rm_p X9 mb rlb σ) := by
          intro nb
          induction nb with
          | zero =>
            intro kb rlb hkb hrb hFb 
            have elb1 : rlb 1 = s := (hrb 1 (by decide) (by decide)).trans (show rla 1 = s from ela1)
            have elb2 : rlb 2 = (r 2) := (hrb 2 (by decide) (by decide)).trans (show rla 2 = (r 2) from ela2)
            have elb3 : rlb 3 0 = (r 3 0) := (congrFun (hrb 3 (by decide) (by decide)) 0).trans (show rla 3 0 = (r 3 0) from ela3)
            have elb17 : rlb 17 = (r 17) := (hrb 17 (by decide) (by decide)).trans (show rla 17 = (r 17) from ela17)
            have elb18 : rlb 18 0 = (r 18 0) := (congrFun (hrb 18 (by decide) (by decide)) 0).trans (show rla 18 0 = (r 18 0) from ela18)
            have elb11 : rlb 11 0 = s 4 := (congrFun (hrb 11 (by decide) (by decide)) 0).trans (show rla 11 0 = s 4 from ela11)
            refine go_iload_n dX12_judged_20 rfl 2 rfl ?_
            refine go_aload_n dX12_judged_21 rfl 0 rfl ?_
            refine grm_g1 rfl dX12_judged_22 ?_
            refine go_iconst (v := Int32.ofInt 0) dX12_judged_25 rfl ?_
            refine grm_l1 (by omega) (by omega) dX12_judged_26 ?_
            rw [show rlb 1 = s from elb1]
            refine go_icmp_geI (tgt := 103) (by omega) (by omega) dX12_judged_27 (by decide) (fun c_27 => ?_) (fun c_27 => ?_)
            · refine go_iincI (a := (ka : Int)) (n := 1) (k0 := 1) (lv' := [(0, .ref mb), (1, rj_i ((ka : Int) + 1)), (2, rj_i (kb : Int))]) rfl (by decide) rfl dX12_judged_103 ?_
              refine go_goto (tgt := 12) dX12_judged_106 (by decide) ?_
              refine go_sub (lv' := [(0, .ref mb), (1, rj_i ((ka : Int) + 1))]) (by intro q hq; simp only [List.mem_cons, List.not_mem_nil, or_false] at hq ⊢; rcases hq with rfl | rfl <;> simp) ?_
              exact go_eq rfl (lv' := [(0, .ref mb), (1, rj_i ((ka + 1 : Nat) : Int))]) (rj_lk (rj_lj (by omega) rfl)) rfl rfl (iha (ka + 1) rlb (by omega) (hra.tr hrb) (by rw [hFb]; rfl))
            · exact absurd c_27 (by omega)
          | succ nb ihb =>
            intro kb rlb hkb hrb hFb 
            have elb1 : rlb 1 = s := (hrb 1 (by decide) (by decide)).trans (show rla 1 = s from ela1)
            have elb2 : rlb 2 = (r 2) := (hrb 2 (by decide) (by decide)).trans (show rla 2 = (r 2) from ela2)
            have elb3 : rlb 3 0 = (r 3 0) := (congrFun (hrb 3 (by decide) (by decide)) 0).trans (show rla 3 0 = (r 3 0) from ela3)
            have elb17 : rlb 17 = (r 17) := (hrb 17 (by decide) (by decide)).trans (show rla 17 = (r 17) from ela17)
            have elb18 : rlb 18 0 = (r 18 0) := (congrFun (hrb 18 (by decide) (by decide)) 0).trans (show rla 18 0 = (r 18 0) from ela18)
            have elb11 : rlb 11 0 = s 4 := (congrFun (hrb 11 (by decide) (by decide)) 0).trans (show rla 11 0 = s 4 from ela11)
            have l1 := hL (kb : Int) (ka : Int) (by omega) (by omega) (by omega) (by omega)
            have l2 : 0 < (ka : Int) → -1 ≤ s (236 + 8 * (kb : Int) + (ka : Int) - 1) ∧ s (236 + 8 * (kb : Int) + (ka : Int) - 1) < s 1 := fun h9 => by have := hL (kb : Int) ((ka : Int) - 1) (by omega) (by omega) (by omega) (by omega); rw [show 236 + 8 * (kb : Int) + (ka : Int) - 1 = 236 + 8 * (kb : Int) + ((ka : Int) - 1) by omega]; exact this
            refine go_iload_n dX12_judged_20 rfl 2 rfl ?_
            refine go_aload_n dX12_judged_21 rfl 0 rfl ?_
            refine grm_g1 rfl dX12_judged_22 ?_
            refine go_iconst (v := Int32.ofInt 0) dX12_judged_25 rfl ?_
            refine grm_l1 (by omega) (by omega) dX12_judged_26 ?_
            rw [show rlb 1 = s from elb1]
            refine go_icmp_geI (tgt := 103) (by omega) (by omega) dX12_judged_27 (by decide) (fun c_27 => ?_) (fun c_27 => ?_)
            · exact absurd c_27 (by omega)
            · refine go_aload_n dX12_judged_30 rfl 0 rfl ?_
              refine grm_g1 rfl dX12_judged_31 ?_
              refine go_sipush (v := Int32.ofInt 236) dX12_judged_34 (by decide) ?_
              refine go_bipush (v := Int32.ofInt 8) dX12_judged_37 (by decide) ?_
              refine go_iload_n dX12_judged_39 rfl 2 rfl ?_
              refine go_mulI dX12_judged_40 ?_
              refine go_addI dX12_judged_41 ?_
              refine go_iload_n dX12_judged_42 rfl 1 rfl ?_
              refine go_addI dX12_judged_43 ?_
              refine grm_l1 (by omega) (by omega) dX12_judged_44 ?_
              rw [show rlb 1 = s from elb1]
              refine go_istore_nS (lv' := [(0, .ref mb), (1, rj_i (ka : Int)), (2, rj_i (kb : Int)), (3, rj_i (s ((236 + (8 * (kb : Int))) + (ka : Int))))]) rfl (by decide) rfl dX12_judged_45 ?_
              refine go_iload_n dX12_judged_46 rfl 3 rfl ?_
              refine go_iconst (v := Int32.ofInt (-1)) dX12_judged_47 rfl ?_
              refine go_icmp_eqI (tgt := 97) (by omega) (by omega) dX12_judged_48 (by decide) (fun c_48 => ?_) (fun c_48 => ?_)
              · refine go_iincI (a := (kb : Int)) (n := 1) (k0 := 2) (lv' := [(0, .ref mb), (1, rj_i (ka : Int)), (2, rj_i ((kb : Int) + 1)), (3, rj_i (s ((236 + (8 * (kb : Int))) + (ka : Int))))]) rfl (by decide) rfl dX12_judged_97 ?_
                refine go_goto (tgt := 20) dX12_judged_100 (by decide) ?_
                refine go_sub (lv' := [(0, .ref mb), (1, rj_i (ka : Int)), (2, rj_i ((kb : Int) + 1))]) (by intro q hq; simp only [List.mem_cons, List.not_mem_nil, or_false] at hq ⊢; rcases hq with rfl | rfl | rfl <;> simp) ?_
                exact go_eq rfl (lv' := [(0, .ref mb), (1, rj_i (ka : Int)), (2, rj_i ((kb + 1 : Nat) : Int))]) (rj_lk (rj_lk (rj_lj (by omega) rfl))) rfl rfl (ihb (kb + 1) rlb (by omega) hrb (by rw [hFb, sp_j2, if_neg (by unfold sp_jB; simp [c_48]; try omega)]))
              · refine go_aload_n dX12_judged_51 rfl 0 rfl ?_
                refine go_iload_n dX12_judged_52 rfl 2 rfl ?_
                refine go_iload_n dX12_judged_53 rfl 3 rfl ?_
                refine go_iload_n dX12_judged_54 rfl 1 rfl ?_
                refine go_callV (d1 := d - 1) wVX12_178 kX12 rm_ob rfl (by omega) (m_canThrow (by omega) (m := (kb : Int)) (p := s ((236 + (8 * (kb : Int))) + (ka : Int))) (q := (ka : Int)) (hs := (show rlb 1 = s from elb1)) (hD := (show rlb 11 0 = s 4 from elb11)) (by omega) hI (by omega) (by omega) (by omega)) rfl (Nat.le_of_ble_eq_true rfl) dX12_judged_55 (fun w σ1 hP => ?_)
                obtain ⟨rfl, r61, hr61, rfl⟩ := hP
                have q61_1 : r61 1 = s := (hr61 1 (by decide) (by decide)).trans (show rlb 1 = s from elb1)
                have q61_2 : r61 2 = (r 2) := (hr61 2 (by decide) (by decide)).trans (show rlb 2 = (r 2) from elb2)
                have q61_3 : r61 3 0 = (r 3 0) := (congrFun (hr61 3 (by decide) (by decide)) 0).trans (show rlb 3 0 = (r 3 0) from elb3)
                have q61_17 : r61 17 = (r 17) := (hr61 17 (by decide) (by decide)).trans (show rlb 17 = (r 17) from elb17)
                have q61_18 : r61 18 0 = (r 18 0) := (congrFun (hr61 18 (by decide) (by decide)) 0).trans (show rlb 18 0 = (r 18 0) from elb18)
                have q61_11 : r61 11 0 = s 4 := (congrFun (hr61 11 (by decide) (by decide)) 0).trans (show rlb 11 0 = s 4 from elb11)
                refine go_if_eqB (tgt := 90) dX12_judged_58 (by decide) (fun c_58 => ?_) (fun c_58 => ?_)
                · refine go_bipush (v := Int32.ofInt 10) dX12_judged_90 (by decide) ?_
                  refine go_iload_n dX12_judged_92 rfl 1 rfl ?_
                  refine go_mulI dX12_judged_93 ?_
                  refine go_iload_n dX12_judged_94 rfl 2 rfl ?_
                  refine go_addI dX12_judged_95 ?_
                  refine go_retI rfl rfl ?_ dX12_judged_96
                  exact ⟨rj_vi (by rw [hFb, sp_j2, if_pos (by unfold sp_jB; simp [c_48, c_58]; try omega)]), r61, ⟨(show r61 1 = s from q61_1), (show r61 2 = (r 2) from q61_2), (show r61 3 0 = (r 3 0) from q61_3), (show r61 17 = (r 17) from q61_17), (show r61 18 0 = (r 18 0) from q61_18)⟩, rfl⟩
                · refine go_iload_n dX12_judged_61 rfl 1 rfl ?_
                  refine go_if_leI (tgt := 97) (by omega) dX12_judged_62 (by decide) (fun c_62 => ?_) (fun c_62 => ?_)
                  · refine go_iincI (a := (kb : Int)) (n := 1) (k0 := 2) (lv' := [(0, .ref mb), (1, rj_i (ka : Int)), (2, rj_i ((kb : Int) + 1)), (3, rj_i (s ((236 + (8 * (kb : Int))) + (ka : Int))))]) rfl (by decide) rfl dX12_judged_97 ?_
                    refine go_goto (tgt := 20) dX12_judged_100 (by decide) ?_
                    refine go_sub (lv' := [(0, .ref mb), (1, rj_i (ka : Int)), (2, rj_i ((kb : Int) + 1))]) (by intro q hq; simp only [List.mem_cons, List.not_mem_nil, or_false] at hq ⊢; rcases hq with rfl | rfl | rfl <;> simp) ?_
                    exact go_eq rfl (lv' := [(0, .ref mb), (1, rj_i (ka : Int)), (2, rj_i ((kb + 1 : Nat) : Int))]) (rj_lk (rj_lk (rj_lj (by omega) rfl))) rfl rfl (ihb (kb + 1) r61 (by omega) (hrb.tr hr61) (by rw [hFb, sp_j2, if_neg (by unfold sp_jB; simp [c_62, c_58, c_48]; try omega)]))
                  · refine go_aload_n dX12_judged_65 rfl 0 rfl ?_
                    refine go_iload_n dX12_judged_66 rfl 3 rfl ?_
                    refine go_aload_n dX12_judged_67 rfl 0 rfl ?_
                    refine grm_g1 rfl dX12_judged_68 ?_
                    refine go_sipush (v := Int32.ofInt 236) dX12_judged_71 (by decide) ?_
                    refine go_bipush (v := Int32.ofInt 8) dX12_judged_74 (by decide) ?_
                    refine go_iload_n dX12_judged_76 rfl 2 rfl ?_
                    refine go_mulI dX12_judged_77 ?_
                    refine go_addI dX12_judged_78 ?_
                    refine go_iload_n dX12_judged_79 rfl 1 rfl ?_
                    refine go_addI dX12_judged_80 ?_
                    refine go_iconst (v := Int32.ofInt 1) dX12_judged_81 rfl ?_
                    refine go_subI dX12_judged_82 ?_
                    refine grm_l1 (by omega) (by omega) dX12_judged_83 ?_
                    rw [show r61 1 = s from q61_1]
                    refine go_callV (d1 := d - 1) wVX12_184 kX12 rm_ob rfl (by omega) (m_turnsTooFar (by omega) (p := s ((236 + (8 * (kb : Int))) + (ka : Int))) (q := s (((236 + (8 * (kb : Int))) + (ka : Int)) - 1)) (by omega) (by omega) (hs := (show r61 1 = s from q61_1)) h7 v3) rfl (Nat.le_of_ble_eq_true rfl) dX12_judged_84 (fun w σ1 hP => ?_)
                    obtain ⟨rfl, rfl⟩ := hP
                    refine go_if_eqB (tgt := 97) dX12_judged_87 (by decide) (fun c_87 => ?_) (fun c_87 => ?_)
                    · refine go_iincI (a := (kb : Int)) (n := 1) (k0 := 2) (lv' := [(0, .ref mb), (1, rj_i (ka : Int)), (2, rj_i ((kb : Int) + 1)), (3, rj_i (s ((236 + (8 * (kb : Int))) + (ka : Int))))]) rfl (by decide) rfl dX12_judged_97 ?_
                      refine go_goto (tgt := 20) dX12_judged_100 (by decide) ?_
                      refine go_sub (lv' := [(0, .ref mb), (1, rj_i (ka : Int)), (2, rj_i ((kb : Int) + 1))]) (by intro q hq; simp only [List.mem_cons, List.not_mem_nil, or_false] at hq ⊢; rcases hq with rfl | rfl | rfl <;> simp) ?_
                      exact go_eq rfl (lv' := [(0, .ref mb), (1, rj_i (ka : Int)), (2, rj_i ((kb + 1 : Nat) : Int))]) (rj_lk (rj_lk (rj_lj (by omega) rfl))) rfl rfl (ihb (kb + 1) r61 (by omega) (hrb.tr hr61) (by rw [hFb, sp_j2, if_neg (by unfold sp_jB; simp [c_87, c_62, c_58, c_48]; try omega)]))
                    · refine go_bipush (v := Int32.ofInt 10) dX12_judged_90 (by decide) ?_
                      refine go_iload_n dX12_judged_92 rfl 1 rfl ?_
                      refine go_mulI dX12_judged_93 ?_
                      refine go_iload_n dX12_judged_94 rfl 2 rfl ?_
                      refine go_addI dX12_judged_95 ?_
                      refine go_retI rfl rfl ?_ dX12_judged_96
                      exact ⟨rj_vi (by rw [hFb, sp_j2, if_pos (by unfold sp_jB; simp [c_48, c_58, c_87]; try omega)]), r61, ⟨(show r61 1 = s from q61_1), (show r61 2 = (r 2) from q61_2), (show r61 3 0 = (r 3 0) from q61_3), (show r61 17 = (r 17) from q61_17), (show r61 18 0 = (r 18 0) from q61_18)⟩, rfl⟩
        exact go_eq rfl (lv' := [(0, .ref mb), (1, rj_i (ka : Int)), (2, rj_i ((0 : Nat) : Int))]) (rj_lk (rj_lk (rj_lj (rfl) rfl))) rfl rfl (loopb (s 0).toNat 0 rla (by omega) rm_t.rf hFa2)
  exact go_eq rfl (lv' := [(0, .ref mb), (1, rj_i ((0 : Nat) : Int))]) (rj_lk (rj_lj (rfl) rfl)) rfl rfl (loopa 8 0 r1 (by omega) rm_t.rf rfl)
