/-! THE REFERENCE, 21: best -/
def sp_wt (s : Int → Int) (m p : Int) : Int := if p = -1 then 0 else s (184 + p) * sp_light s m
def sp_nx (s : Int → Int) (m q b p : Int) : Bool := decide (p = -1) || (sp_can s (s 4) m p q && !sp_far s b p)
/-- the most of the first k of p = -1, 0, .. -/
def sp_bm (s : Int → Int) (m q : Int) (G : Int → Int) (b : Int) : Nat → Int
  | 0 => 0
  | k + 1 => if sp_bm s m q G b k < (if sp_nx s m q b ((k : Int) - 1) = true then sp_wt s m ((k : Int) - 1) + G ((k : Int) - 1) else 0) then (if sp_nx s m q b ((k : Int) - 1) = true then sp_wt s m ((k : Int) - 1) + G ((k : Int) - 1) else 0) else sp_bm s m q G b k
/-- what the last j quarters can bring behind b -/
def sp_fo (s : Int → Int) (m : Int) : Nat → Int → Int
  | 0, _ => 0
  | j + 1, b => sp_bm s m (7 - (j : Int)) (sp_fo s m j) b (s 1 + 1).toNat
def sp_isB (s : Int → Int) (m : Int) (j : Nat) (b p : Int) : Bool := sp_nx s m (7 - (j : Int)) b p && decide (sp_wt s m p + sp_fo s m j p = sp_fo s m (j + 1) b)
def sp_fs (g : Int → Bool) : Nat → Int → Int
  | 0, p => p
  | n + 1, p => if g p = true then p else sp_fs g n (p + 1)
/-- the first best p behind b -/
def sp_pk (s : Int → Int) (m : Int) (j : Nat) (b : Int) : Int := sp_fs (sp_isB s m j b) (s 1 + 1).toNat (-1)
/-- the row of the best, before quarter q -/
def sp_bf (s : Int → Int) (m : Int) : Nat → Int
  | 0 => -1
  | q + 1 => sp_pk s m (7 - q) (sp_bf s m q)
def sp_bestF (s : Int → Int) (m i : Int) : Int :=
  if (0 ≤ m ∧ m < s 0) ∧ -1 ≤ i ∧ i ≤ 7 then (if i = -1 then sp_fo s m 8 (-1) else if sp_bf s m (i.toNat + 1) = -1 then -5 else sp_bf s m (i.toNat + 1)) else -1
theorem sp_wt_b {s : Int → Int} {m p : Int} (hl : 1 ≤ sp_light s m ∧ sp_light s m ≤ 18) (hw : 0 ≤ p → 0 ≤ s (184 + p) ∧ s (184 + p) ≤ 20) (hp : -1 ≤ p) : 0 ≤ sp_wt s m p ∧ sp_wt s m p ≤ 360 := by
  unfold sp_wt
  split
  · omega
  · have h := rj_mb (A := 20) (B := 18) (hw (show 0 ≤ p by omega)) (show 0 ≤ sp_light s m ∧ sp_light s m ≤ 18 by omega)
    omega
theorem sp_bm_b {s : Int → Int} {m q b B : Int} {G : Int → Int} (hw : ∀ p : Int, -1 ≤ p → p < s 1 → 0 ≤ sp_wt s m p ∧ sp_wt s m p ≤ 360) (hG : ∀ p : Int, -1 ≤ p → p < s 1 → 0 ≤ G p ∧ G p ≤ B) : ∀ k : Nat, (k : Int) ≤ s 1 + 1 → 0 ≤ sp_bm s m q G b k ∧ sp_bm s m q G b k ≤ 360 + B ∨ k = 0
  | 0, _ => Or.inr rfl
  | k + 1, hk => by
    have h1 := hw ((k : Int) - 1) (by omega) (by omega)
    have h2 := hG ((k : Int) - 1) (by omega) (by omega)
    have ih := sp_bm_b (q := q) (b := b) hw hG k (by omega)
    have hz : k = 0 → sp_bm s m q G b k = 0 := fun h => by subst h; rfl
    left
    rw [sp_bm]
    split <;> (try split) <;> omega
theorem sp_fo_b {s : Int → Int} {m : Int} (hw : ∀ p : Int, -1 ≤ p → p < s 1 → 0 ≤ sp_wt s m p ∧ sp_wt s m p ≤ 360) (h1 : 0 ≤ s 1) : ∀ (j : Nat) (b : Int), 0 ≤ sp_fo s m j b ∧ sp_fo s m j b ≤ 360 * (j : Int)
  | 0, _ => by simp [sp_fo]
  | j + 1, b => by
    have h := sp_bm_b (q := 7 - (j : Int)) (b := b) (B := 360 * (j : Int)) hw (fun p _ _ => sp_fo_b hw h1 j p) (s 1 + 1).toNat (by omega)
    rw [sp_fo]
    omega
/-- the most is reached -/
theorem sp_bm_at {s : Int → Int} {m q b : Int} {G : Int → Int} (hw : ∀ p : Int, -1 ≤ p → p < s 1 → 0 ≤ sp_wt s m p) (hG : ∀ p : Int, -1 ≤ p → p < s 1 → 0 ≤ G p) : ∀ k : Nat, (k : Int) ≤ s 1 + 1 → 0 < k → ∃ p : Int, -1 ≤ p ∧ p < (k : Int) - 1 ∧ sp_nx s m q b p = true ∧ sp_wt s m p + G p = sp_bm s m q G b k
  | 0, _, h => absurd h (Nat.lt_irrefl 0)
  | 1, hk, _ => by
    have h1 := hw (-1) (by omega) (by omega)
    have h2 := hG (-1) (by omega) (by omega)
    have hn : sp_nx s m q b (-1) = true := by unfold sp_nx; simp
    refine ⟨-1, by omega, by omega, hn, ?_⟩
    rw [sp_bm, show ((0 : Nat) : Int) - 1 = -1 from rfl, sp_bm, if_pos hn]
    split <;> omega
  | k + 2, hk, _ => by
    obtain ⟨p, p1, p2, p3, p4⟩ := sp_bm_at (q := q) (b := b) hw hG (k + 1) (by omega) (by omega)
    have hg : 0 ≤ sp_bm s m q G b (k + 1) := by have := hw p p1 (by omega); have := hG p p1 (by omega); omega
    rw [sp_bm]
    by_cases hn : sp_nx s m q b (((k + 1 : Nat) : Int) - 1) = true
    · rw [if_pos hn]
      split
      · exact ⟨((k + 1 : Nat) : Int) - 1, by omega, by omega, hn, rfl⟩
      · exact ⟨p, p1, by omega, p3, p4⟩
    · rw [if_neg hn, if_neg (by omega)]; exact ⟨p, p1, by omega, p3, p4⟩
theorem sp_fs_at (g : Int → Bool) : ∀ (n : Nat) (a p : Int), a ≤ p → p < a + (n : Int) → g p = true → a ≤ sp_fs g n a ∧ sp_fs g n a ≤ p ∧ g (sp_fs g n a) = true
  | 0, a, p, h1, h2, _ => by omega
  | n + 1, a, p, h1, h2, h3 => by
    rw [sp_fs]
    split
    · rename_i h; exact ⟨by omega, h1, h⟩
    · rename_i h
      have ne : a ≠ p := fun e => h (e ▸ h3)
      have ih := sp_fs_at g n (a + 1) p (by omega) (by omega) h3
      exact ⟨by omega, ih.2.1, ih.2.2⟩
theorem sp_pk_at {s : Int → Int} {m : Int} (hw : ∀ p : Int, -1 ≤ p → p < s 1 → 0 ≤ sp_wt s m p ∧ sp_wt s m p ≤ 360) (h1 : 0 ≤ s 1) (j : Nat) (b : Int) : -1 ≤ sp_pk s m j b ∧ sp_pk s m j b < s 1 ∧ sp_isB s m j b (sp_pk s m j b) = true := by
  obtain ⟨p, p1, p2, p3, p4⟩ := sp_bm_at (q := 7 - (j : Int)) (b := b) (G := sp_fo s m j) (fun p a b => (hw p a b).1) (fun p a b => (sp_fo_b hw h1 j p).1) (s 1 + 1).toNat (by omega) (by omega)
  have h := sp_fs_at (sp_isB s m j b) (s 1 + 1).toNat (-1) p p1 (by omega) (by unfold sp_isB; rw [p3, sp_fo, p4]; simp)
  unfold sp_pk
  exact ⟨h.1, by omega, h.2.2⟩
theorem sp_bf_b {s : Int → Int} {m : Int} (hw : ∀ p : Int, -1 ≤ p → p < s 1 → 0 ≤ sp_wt s m p ∧ sp_wt s m p ≤ 360) (h1 : 0 ≤ s 1) : ∀ q : Nat, -1 ≤ sp_bf s m q ∧ (sp_bf s m q < s 1)
  | 0 => by rw [sp_bf]; omega
  | q + 1 => by rw [sp_bf]; have := sp_pk_at hw h1 (7 - q) (sp_bf s m q); omega
/-- cans, by quarters below q and patches; at q those below k -/
def sp_CI (s : Int → Int) (m : Int) (C : Int → Int) (q k : Int) : Prop := ∀ a p : Int, 0 ≤ a → (a < q ∨ a = q ∧ p < k) → 0 ≤ p → p < s 1 → C (6 * a + p) = rj_b (sp_can s (s 4) m p a = true)
theorem sp_CI_up {s : Int → Int} {m : Int} {C : Int → Int} {q k : Int} (h : sp_CI s m C q k) (h1 : s 1 ≤ 6) (hk : 0 ≤ k ∧ k < s 1) (hq : 0 ≤ q) : sp_CI s m (rj_up C (6 * q + k) (rj_b (sp_can s (s 4) m k q = true))) q (k + 1) := by
  intro a p a0 hl p0 p1
  by_cases e : a = q ∧ p = k
  · obtain ⟨rfl, rfl⟩ := e; exact rj_up_eq _ _ _
  · rw [rj_up_ne _ _ (by omega)]; exact h a p a0 (by omega) p0 p1
/-- follows: the rows behind row 7 - j stand; of row 7 - j the first k -/
def sp_FI (s : Int → Int) (m : Int) (A : Int → Int) (j k : Nat) : Prop := ∀ (i : Nat) (b : Int), (i < j + 1 ∨ i = j + 1 ∧ b + 1 < (k : Int)) → i ≤ 8 → -1 ≤ b → b < s 1 → A (7 * (8 - (i : Int)) + b + 1) = sp_fo s m i b
theorem sp_FI_up {s : Int → Int} {m : Int} {A : Int → Int} {j k : Nat} (h : sp_FI s m A j k) (h1 : s 1 ≤ 6) (hk : (k : Int) < s 1 + 1) (hj : j < 8) : sp_FI s m (rj_up A (7 * (7 - (j : Int)) + ((k : Int) - 1) + 1) (sp_fo s m (j + 1) ((k : Int) - 1))) j (k + 1) := by
  intro i b hl i8 b0 b1
  by_cases e : i = j + 1 ∧ b = (k : Int) - 1
  · obtain ⟨rfl, rfl⟩ := e; rw [show 7 * (8 - ((j + 1 : Nat) : Int)) + ((k : Int) - 1) + 1 = 7 * (7 - (j : Int)) + ((k : Int) - 1) + 1 by omega]; exact rj_up_eq _ _ _
  · rw [rj_up_ne _ _ (by omega)]; exact h i b (by omega) i8 b0 b1
theorem sp_FI_n {s : Int → Int} {m : Int} {A : Int → Int} {j k : Nat} (h : sp_FI s m A j k) (hk : s 1 + 1 ≤ (k : Int)) : sp_FI s m A (j + 1) 0 := by
  intro i b hl i8 b0 b1
  exact h i b (by omega) i8 b0 b1
theorem sp_Az {A : Int → Int} {k : Nat} (h : ∀ j : Int, 0 ≤ j → j < (k : Int) → A (56 + j) = 0) : ∀ j : Int, 0 ≤ j → j < ((k + 1 : Nat) : Int) → rj_up A (56 + (k : Int)) 0 (56 + j) = 0 := fun j a b => by
  by_cases e : j = (k : Int)
  · rw [e]; exact rj_up_eq _ _ _
  · rw [rj_up_ne _ _ (by omega)]; exact h j a (by omega)
theorem sp_Rz {F : Nat → Int} {A : Int → Int} {k : Nat} {w : Int} (h : ∀ j : Nat, j < k → A (j : Int) = F (j + 1)) (hw : w = F (k + 1)) : ∀ j : Nat, j < k + 1 → rj_up A (k : Int) w (j : Int) = F (j + 1) := fun j hj => by
  by_cases e : j = k
  · subst e; rw [rj_up_eq]; exact hw
  · rw [rj_up_ne _ _ (by omega)]; exact h j (by omega)
set_option maxRecDepth 20000 in
/-- m_isNext -/
theorem m_isNext {X9 : rj_X} {σ : rj_H} {d : Nat} {mb : Nat} {r : rm_R} {m q b p : Int} {C : Int → Int} (hd : 2 ≤ d)  {s : Int → Int} (hs : r 1 = s) (hC9 : r 14 = C) (hI : sp_I s) (hq : 0 ≤ q ∧ q < 8) (hb : -1 ≤ b ∧ b < s 1) (hp : -1 ≤ p ∧ p < s 1) (hC : p ≠ -1 → C (6 * q + p) = rj_b (sp_can s (s 4) m p q = true)) : rj_Cl X9 d yX12_isNext cX12_isNext 4 (some .boolean) [.ref mb, rj_i q, rj_i b, rj_i p] (rm_p X9 mb r σ) (fun w9 τ => w9 = some (rj_i (rj_b (sp_nx s m q b p = true))) ∧ τ = (rm_p X9 mb r σ)) := by
  obtain ⟨⟨h0, h1, h2, h3, h4, h5, h6, h7⟩, hM, hP, hW, hL, hV⟩ := id hI
  obtain ⟨v1, v2, v3, v4⟩ := id hV
  refine go_call (by decide +kernel) (Nat.le_of_ble_eq_true rfl) ?_
  refine go_eq (pc' := 0) (lv' := [(0, .ref mb), (1, rj_i q), (2, rj_i b), (3, rj_i p)]) (st' := []) rfl rfl rfl rfl ?_
  refine go_iload_n dX12_isNext_0 rfl 3 rfl ?_
  refine go_iconst (v := Int32.ofInt (-1)) dX12_isNext_1 rfl ?_
  refine go_icmp_eqI (tgt := 28) (by omega) (by omega) dX12_isNext_2 (by decide) (fun c_2 => ?_) (fun c_2 => ?_)
  · refine go_iconst (v := Int32.ofInt 1) dX12_isNext_28 rfl ?_
    refine go_goto (tgt := 33) dX12_isNext_29 (by decide) ?_
    refine go_retI rfl (rj_n01 (by decide)) ?_ dX12_isNext_33
    exact ⟨rj_vi (rj_bt (by unfold sp_nx; simp []; try omega)).symm, rfl⟩
  · refine go_aload_n dX12_isNext_5 rfl 0 rfl ?_
    refine grm_g14 rfl dX12_isNext_6 ?_
    refine go_bipush (v := Int32.ofInt 6) dX12_isNext_9 (by decide) ?_
    refine go_iload_n dX12_isNext_11 rfl 1 rfl ?_
    refine go_mulI dX12_isNext_12 ?_
    refine go_iload_n dX12_isNext_13 rfl 3 rfl ?_
    refine go_addI dX12_isNext_14 ?_
    refine grm_l14 (by omega) (by omega) dX12_isNext_15 ?_
    rw [show r 14 = C from hC9]
    rw [show C ((6 * q) + p) = rj_b (sp_can s (s 4) m p q = true) from hC (by omega)]
    refine go_if_eqB (tgt := 32) dX12_isNext_16 (by decide) (fun c_16 => ?_) (fun c_16 => ?_)
    · refine go_iconst (v := Int32.ofInt 0) dX12_isNext_32 rfl ?_
      refine go_retI rfl (rj_n01 (by decide)) ?_ dX12_isNext_33
      exact ⟨rj_vi (rj_bf (by unfold sp_nx; simp [c_16]; try omega)).symm, rfl⟩
    · refine go_aload_n dX12_isNext_19 rfl 0 rfl ?_
      refine go_iload_n dX12_isNext_20 rfl 2 rfl ?_
      refine go_iload_n dX12_isNext_21 rfl 3 rfl ?_
      refine go_callV (d1 := d - 1) wVX12_184 kX12 rm_ob rfl (by omega) (m_turnsTooFar (by omega) (p := b) (q := p) (by omega) (by omega) (hs := (show r 1 = s from hs)) h7 v3) rfl (Nat.le_of_ble_eq_true rfl) dX12_isNext_22 (fun w σ1 hP => ?_)
      obtain ⟨rfl, rfl⟩ := hP
      refine go_if_neB (tgt := 32) dX12_isNext_25 (by decide) (fun c_25 => ?_) (fun c_25 => ?_)
      · refine go_iconst (v := Int32.ofInt 0) dX12_isNext_32 rfl ?_
        refine go_retI rfl (rj_n01 (by decide)) ?_ dX12_isNext_33
        exact ⟨rj_vi (rj_bf (by unfold sp_nx; simp [c_25, c_16]; try omega)).symm, rfl⟩
      · refine go_iconst (v := Int32.ofInt 1) dX12_isNext_28 rfl ?_
        refine go_goto (tgt := 33) dX12_isNext_29 (by decide) ?_
        refine go_retI rfl (rj_n01 (by decide)) ?_ dX12_isNext_33
        exact ⟨rj_vi (rj_bt (by unfold sp_nx; simp [c_25, c_16]; try omega)).symm, rfl⟩
set_option maxRecDepth 20000 in
/-- m_worthThere -/
theorem m_worthThere {X9 : rj_X} {σ : rj_H} {d : Nat} {mb : Nat} {r : rm_R} {m p : Int} (hd : 2 ≤ d) {s : Int → Int} (hs : r 1 = s) (hI : sp_I s) (hm : 0 ≤ m ∧ m < s 0) (hp : -1 ≤ p ∧ p < s 1) : rj_Cl X9 d yX12_worthThere cX12_worthThere 3 (some .int) [.ref mb, rj_i m, rj_i p] (rm_p X9 mb r σ) (fun w9 τ => w9 = some (rj_i (sp_wt s m p)) ∧ τ = (rm_p X9 mb r σ)) := by
  obtain ⟨⟨h0, h1, h2, h3, h4, h5, h6, h7⟩, hM, hP, hW, hL, hV⟩ := id hI
  obtain ⟨v1, v2, v3, v4⟩ := id hV
  refine go_call (by decide +kernel) (Nat.le_of_ble_eq_true rfl) ?_
  refine go_eq (pc' := 0) (lv' := [(0, .ref mb), (1, rj_i m), (2, rj_i p)]) (st' := []) rfl rfl rfl rfl ?_
  refine go_iload_n dX12_worthThere_0 rfl 2 rfl ?_
  refine go_iconst (v := Int32.ofInt (-1)) dX12_worthThere_1 rfl ?_
  refine go_icmp_neI (tgt := 9) (by omega) (by omega) dX12_worthThere_2 (by decide) (fun c_2 => ?_) (fun c_2 => ?_)
  · refine go_aload_n dX12_worthThere_9 rfl 0 rfl ?_
    refine grm_g1 rfl dX12_worthThere_10 ?_
    refine go_sipush (v := Int32.ofInt 184) dX12_worthThere_13 (by decide) ?_
    refine go_iload_n dX12_worthThere_16 rfl 2 rfl ?_
    refine go_addI dX12_worthThere_17 ?_
    refine grm_l1 (by omega) (by omega) dX12_worthThere_18 ?_
    rw [show r 1 = s from hs]
    refine go_aload_n dX12_worthThere_19 rfl 0 rfl ?_
    refine go_iload_n dX12_worthThere_20 rfl 1 rfl ?_
    refine go_callV (d1 := d - 1) wVX12_187 kX12 rm_ob rfl (by omega) (m_lightOf (m := m) (by omega) (hs := (show r 1 = s from hs)) (hM m (by omega) (by omega)).1) rfl (Nat.le_of_ble_eq_true rfl) dX12_worthThere_21 (fun w σ1 hP => ?_)
    obtain ⟨rfl, rfl⟩ := hP
    refine go_mulI dX12_worthThere_24 ?_
    refine go_retI rfl rfl ?_ dX12_worthThere_25
    exact ⟨rj_vi (by unfold sp_wt; rw [if_neg (by omega)]), rfl⟩
  · refine go_iconst (v := Int32.ofInt 0) dX12_worthThere_5 rfl ?_
    refine go_goto (tgt := 25) dX12_worthThere_6 (by decide) ?_
    refine go_retI rfl rfl ?_ dX12_worthThere_25
    exact ⟨rj_vi (by unfold sp_wt; rw [if_pos (by omega)]), rfl⟩
set_option maxRecDepth 20000 in
/-- m_best -/
theorem m_best {X9 : rj_X} {σ : rj_H} {d : Nat} {mb : Nat} {r : rm_R} {m i : Int} (hd : 6 ≤ d) (hm : -2147483648 ≤ m ∧ m < 2147483648) (hi : -2147483648 ≤ i ∧ i < 2147483648) {s : Int → Int} (hs : r 1 = s) (hI : sp_I s) : rj_Cl X9 d yX12_best cX12_best 8 (some .int) [.ref mb, rj_i m, rj_i i] (rm_p X9 mb r σ) (fun w9 τ => w9 = some (rj_i (sp_bestF s m i)) ∧ ∃ r0, rm_V r r0 s ∧ τ = rm_p X9 mb r0 σ) := by
  obtain ⟨⟨h0, h1, h2, h3, h4, h5, h6, h7⟩, hM, hP, hW, hL, hV⟩ := id hI
  obtain ⟨v1, v2, v3, v4⟩ := id hV
  refine go_call (by decide +kernel) (Nat.le_of_ble_eq_true rfl) ?_
  refine go_eq (pc' := 0) (lv' := [(0, .ref mb), (1, rj_i m), (2, rj_i i)]) (st' := []) rfl rfl rfl rfl ?_
  refine go_aload_n dX12_best_0 rfl 0 rfl ?_
  refine go_iload_n dX12_best_1 rfl 1 rfl ?_
  refine go_callV (d1 := d - 1) wVX12_56 kX12 rm_ob rfl (by omega) (m_isMirror (m := m) (by omega) (by omega) (hs := (show r 1 = s from hs)) (by omega)) rfl (Nat.le_of_ble_eq_true rfl) dX12_best_2 (fun w σ1 hP => ?_)
  obtain ⟨rfl, rfl⟩ := hP
  refine go_if_eqB (tgt := 18) dX12_best_5 (by decide) (fun c_5 => ?_) (fun c_5 => ?_)
  · refine go_iconst (v := Int32.ofInt (-1)) dX12_best_18 rfl ?_
    refine go_retI rfl rfl ?_ dX12_best_19
    exact ⟨rj_vi (by unfold sp_bestF; rw [if_neg (by omega)]), r, ⟨(show r 1 = s from hs), (show r 2 = (r 2) from rfl), (show r 3 0 = (r 3 0) from rfl), (show r 17 = (r 17) from rfl), (show r 18 0 = (r 18 0) from rfl)⟩, rfl⟩
  · refine go_iload_n dX12_best_8 rfl 2 rfl ?_
    refine go_iconst (v := Int32.ofInt (-1)) dX12_best_9 rfl ?_
    refine go_bipush (v := Int32.ofInt 7) dX12_best_10 (by decide) ?_
    refine go_callS (d1 := d - 1) wSX12_47 rfl (by omega) (m_in (v := i) (lo := (-1)) (hi := 7) (by omega) (by omega) (by omega)) rfl (Nat.le_of_ble_eq_true rfl) dX12_best_12 (fun w σ1 hP => ?_)
    obtain ⟨rfl, rfl⟩ := hP
    refine go_if_neB (tgt := 20) dX12_best_15 (by decide) (fun c_15 => ?_) (fun c_15 => ?_)
    · refine go_aload_n dX12_best_20 rfl 0 rfl ?_
      refine go_aload_n dX12_best_21 rfl 0 rfl ?_
      refine grm_g1 rfl dX12_best_22 ?_
      refine go_iconst (v := Int32.ofInt 4) dX12_best_25 rfl ?_
      refine grm_l1 (by omega) (by omega) dX12_best_26 ?_
      rw [show r 1 = s from hs]
      refine grm_w11 rfl dX12_best_27 ?_
      obtain ⟨r1, e1⟩ : ∃ x_, x_ = (rm_u r 11 (fun _ => s 4)) := ⟨_, rfl⟩
      rw [← e1]
      have q1_1 : r1 1 = s := by rw [e1]; exact (show (rm_u r 11 (fun _ => s 4)) 1 = s from hs)
      have q1_2 : r1 2 = (r 2) := by rw [e1]; exact (show (rm_u r 11 (fun _ => s 4)) 2 = (r 2) from rfl)
      have q1_3 : r1 3 0 = (r 3 0) := by rw [e1]; exact (show (rm_u r 11 (fun _ => s 4)) 3 0 = (r 3 0) from rfl)
      have q1_17 : r1 17 = (r 17) := by rw [e1]; exact (show (rm_u r 11 (fun _ => s 4)) 17 = (r 17) from rfl)
      have q1_18 : r1 18 0 = (r 18 0) := by rw [e1]; exact (show (rm_u r 11 (fun _ => s 4)) 18 0 = (r 18 0) from rfl)
      have q1_11 : r1 11 0 = s 4 := by rw [e1]; exact (show (rm_u r 11 (fun _ => s 4)) 11 0 = s 4 from rfl)
      refine go_iconst (v := Int32.ofInt 0) dX12_best_30 rfl ?_
      refine go_istore_nS (lv' := [(0, .ref mb), (1, rj_i m), (2, rj_i i), (3, rj_i 0)]) rfl (by decide) rfl dX12_best_31 ?_
      obtain ⟨C0, hC0⟩ : ∃ t, t = r1 14 := ⟨_, rfl⟩
      obtain ⟨A0, hA0⟩ : ∃ t, t = r1 12 := ⟨_, rfl⟩
      obtain ⟨R0, hR0⟩ : ∃ t, t = r1 13 := ⟨_, rfl⟩
      have hl9 := sp_light_b (hM m (by omega) (by omega)).2.2.2.2.1
      have hw9 : ∀ p : Int, -1 ≤ p → p < s 1 → 0 ≤ sp_wt s m p ∧ sp_wt s m p ≤ 360 := fun p a b => sp_wt_b hl9 (fun a2 => (hP p a2 b).2.2.1) a
      have loopa : ∀ (na ka : Nat) (rla : rm_R) (C : Int → Int), ka + na = (8 : Int).toNat → rla 1 = s → rla 2 = (r 2) → rla 3 0 = (r 3 0) → rla 11 0 = s 4 → rla 17 = (r 17) → rla 18 0 = (r 18 0) → rla 14 = C → rla 12 = A0 → rla 13 = R0 → sp_CI s m C (ka : Int) 0 → rj_Go X9 yX12_best cX12_best 8 (some .int) d (fun w9 τ => w9 = some (rj_i (sp_bestF s m i)) ∧ ∃ r0, rm_V r r0 s ∧ τ = rm_p X9 mb r0 σ) 32 [(0, .ref mb), (1, rj_i m), (2, rj_i i), (3, rj_i (ka : Int))] [] (rm_p X9 mb rla σ) := by
        intro na
        induction na with
        | zero =>
          intro ka rla C hka ela1 ela2 ela3 ela11 ela17 ela18 ela14 ela12 ela13 hCa
          refine go_iload_n dX12_best_32 rfl 3 rfl ?_
          refine go_bipush (v := Int32.ofInt 8) dX12_best_33 (by decide) ?_
          refine go_icmp_geI (tgt := 84) (by omega) (by omega) dX12_best_35 (by decide) (fun c_35 => ?_) (fun c_35 => ?_)
          · have hC8 : ∀ q p : Int, 0 ≤ q → q < 8 → 0 ≤ p → p < s 1 → C (6 * q + p) = rj_b (sp_can s (s 4) m p q = true) := fun q p a b c e => hCa q p a (Or.inl (by omega)) c e
            refine go_iconst (v := Int32.ofInt 0) dX12_best_84 rfl ?_
            refine go_istore_nS (lv' := [(0, .ref mb), (1, rj_i m), (2, rj_i i), (3, rj_i 0)]) rfl (by decide) rfl dX12_best_85 ?_
            have loopc : ∀ (nc kc : Nat) (rlc : rm_R) (A : Int → Int), kc + nc = (7 : Int).toNat → rlc 1 = s → rlc 2 = (r 2) → rlc 3 0 = (r 3 0) → rlc 11 0 = s 4 → rlc 17 = (r 17) → rlc 18 0 = (r 18 0) → rlc 14 = C → rlc 12 = A → rlc 13 = R0 → (∀ j : Int, 0 ≤ j → j < (kc : Int) → A (56 + j) = 0) → rj_Go X9 yX12_best cX12_best 8 (some .int) d (fun w9 τ => w9 = some (rj_i (sp_bestF s m i)) ∧ ∃ r0, rm_V r r0 s ∧ τ = rm_p X9 mb r0 σ) 86 [(0, .ref mb), (1, rj_i m), (2, rj_i i), (3, rj_i (kc : Int))] [] (rm_p X9 mb rlc σ) := by
              intro nc
              induction nc with
              | zero =>
                intro kc rlc A hkc elc1 elc2 elc3 elc11 elc17 elc18 elc14 elc12 elc13 hAc
                refine go_iload_n dX12_best_86 rfl 3 rfl ?_
                refine go_bipush (v := Int32.ofInt 7) dX12_best_87 (by decide) ?_
                refine go_icmp_geI (tgt := 108) (by omega) (by omega) dX12_best_89 (by decide) (fun c_89 => ?_) (fun c_89 => ?_)
                · have hF0 : sp_FI s m A 0 0 := fun i b hl i8 b0 b1 => by
                    have : i = 0 := by omega
                    subst this
                    rw [show 7 * (8 - ((0 : Nat) : Int)) + b + 1 = 56 + (b + 1) by omega, hAc (b + 1) (by omega) (by omega)]; rfl
                  refine go_bipush (v := Int32.ofInt 7) dX12_best_108 (by decide) ?_
                  refine go_istore_nS (lv' := [(0, .ref mb), (1, rj_i m), (2, rj_i i), (3, rj_i 7)]) rfl (by decide) rfl dX12_best_110 ?_
                  have loopd : ∀ (nd kd : Nat) (rld : rm_R) (B : Int → Int), kd + nd = (8 : Int).toNat → rld 1 = s → rld 2 = (r 2) → rld 3 0 = (r 3 0) → rld 11 0 = s 4 → rld 17 = (r 17) → rld 18 0 = (r 18 0) → rld 14 = C → rld 12 = B → rld 13 = R0 → sp_FI s m B kd 0 → rj_Go X9 yX12_best cX12_best 8 (some .int) d (fun w9 τ => w9 = some (rj_i (sp_bestF s m i)) ∧ ∃ r0, rm_V r r0 s ∧ τ = rm_p X9 mb r0 σ) 111 [(0, .ref mb), (1, rj_i m), (2, rj_i i), (3, rj_i (7 - (kd : Int)))] [] (rm_p X9 mb rld σ) := by
                    intro nd
                    induction nd with
                    | zero =>
                      intro kd rld B hkd eld1 eld2 eld3 eld11 eld17 eld18 eld14 eld12 eld13 hD
                      refine go_iload_n dX12_best_111 rfl 3 rfl ?_
                      refine go_if_ltI (tgt := 238) (by omega) dX12_best_112 (by decide) (fun c_112 => ?_) (fun c_112 => ?_)
                      · have hF8 : ∀ (j : Nat) (b : Int), j ≤ 8 → -1 ≤ b → b < s 1 → B (7 * (8 - (j : Int)) + b + 1) = sp_fo s m j b := fun j b a c e => hD j b (Or.inl (by omega)) a c e
                        refine go_iconst (v := Int32.ofInt (-1)) dX12_best_238 rfl ?_
                        refine go_istore_nS (lv' := [(0, .ref mb), (1, rj_i m), (2, rj_i i), (3, rj_i (-1))]) rfl (by decide) rfl dX12_best_239 ?_
                        refine go_iconst (v := Int32.ofInt 0) dX12_best_240 rfl ?_
                        refine go_istoreS (lv' := [(0, .ref mb), (1, rj_i m), (2, rj_i i), (3, rj_i (-1)), (4, rj_i 0)]) (by decide) rfl dX12_best_241 ?_
                        have loopg : ∀ (ng kg : Nat) (rlg : rm_R) (R : Int → Int), kg + ng = (8 : Int).toNat → rlg 1 = s → rlg 2 = (r 2) → rlg 3 0 = (r 3 0) → rlg 11 0 = s 4 → rlg 17 = (r 17) → rlg 18 0 = (r 18 0) → rlg 14 = C → rlg 12 = B → rlg 13 = R → (∀ j : Nat, j < kg → R (j : Int) = sp_bf s m (j + 1)) → rj_Go X9 yX12_best cX12_best 8 (some .int) d (fun w9 τ => w9 = some (rj_i (sp_bestF s m i)) ∧ ∃ r0, rm_V r r0 s ∧ τ = rm_p X9 mb r0 σ) 243 [(0, .ref mb), (1, rj_i m), (2, rj_i i), (3, rj_i (sp_bf s m kg)), (4, rj_i (kg : Int))] [] (rm_p X9 mb rlg σ) := by
                          intro ng
                          induction ng with
                          | zero =>
                            intro kg rlg R hkg elg1 elg2 elg3 elg11 elg17 elg18 elg14 elg12 elg13 hR
                            refine go_iload dX12_best_243 4 rfl ?_
                            refine go_bipush (v := Int32.ofInt 8) dX12_best_245 (by decide) ?_
                            refine go_icmp_geI (tgt := 331) (by omega) (by omega) dX12_best_247 (by decide) (fun c_247 => ?_) (fun c_247 => ?_)
                            · refine go_iload_n dX12_best_331 rfl 2 rfl ?_
                              refine go_iconst (v := Int32.ofInt (-1)) dX12_best_332 rfl ?_
                              refine go_icmp_neI (tgt := 345) (by omega) (by omega) dX12_best_333 (by decide) (fun c_333 => ?_) (fun c_333 => ?_)
                              · refine go_aload_n dX12_best_345 rfl 0 rfl ?_
                                refine grm_g13 rfl dX12_best_346 ?_
                                refine go_iload_n dX12_best_349 rfl 2 rfl ?_
                                refine grm_l13 (by omega) (by omega) dX12_best_350 ?_
                                rw [show rlg 13 = R from elg13]
                                rw [show R i = sp_bf s m (i.toNat + 1) from by rw [← hR i.toNat (by omega)]; congr 1; omega]
                                have hbi := sp_bf_b hw9 (by omega) (i.toNat + 1)
                                refine go_iconst (v := Int32.ofInt (-1)) dX12_best_351 rfl ?_
                                refine go_icmp_neI (tgt := 360) (by omega) (by omega) dX12_best_352 (by decide) (fun c_352 => ?_) (fun c_352 => ?_)
                                · refine go_aload_n dX12_best_360 rfl 0 rfl ?_
                                  refine grm_g13 rfl dX12_best_361 ?_
                                  refine go_iload_n dX12_best_364 rfl 2 rfl ?_
                                  refine grm_l13 (by omega) (by omega) dX12_best_365 ?_
                                  rw [show rlg 13 = R from elg13]
                                  rw [show R i = sp_bf s m (i.toNat + 1) from by rw [← hR i.toNat (by omega)]; congr 1; omega]
                                  refine go_retI rfl rfl ?_ dX12_best_366
                                  exact ⟨rj_vi (by unfold sp_bestF; rw [if_pos (by omega), if_neg (by omega), if_neg (by omega)]), rlg, ⟨(show rlg 1 = s from elg1), (show rlg 2 = (r 2) from elg2), (show rlg 3 0 = (r 3 0) from elg3), (show rlg 17 = (r 17) from elg17), (show rlg 18 0 = (r 18 0) from elg18)⟩, rfl⟩
                                · refine go_bipush (v := Int32.ofInt (-5)) dX12_best_355 (by decide) ?_
                                  refine go_goto (tgt := 366) dX12_best_357 (by decide) ?_
                                  refine go_retI rfl rfl ?_ dX12_best_366
                                  exact ⟨rj_vi (by unfold sp_bestF; rw [if_pos (by omega), if_neg (by omega), if_pos (by omega)]), rlg, ⟨(show rlg 1 = s from elg1), (show rlg 2 = (r 2) from elg2), (show rlg 3 0 = (r 3 0) from elg3), (show rlg 17 = (r 17) from elg17), (show rlg 18 0 = (r 18 0) from elg18)⟩, rfl⟩
                              · refine go_aload_n dX12_best_336 rfl 0 rfl ?_
                                refine grm_g12 rfl dX12_best_337 ?_
                                refine go_iconst (v := Int32.ofInt 0) dX12_best_340 rfl ?_
                                refine grm_l12 (by omega) (by omega) dX12_best_341 ?_
                                rw [show rlg 12 = B from elg12]
                                rw [show B 0 = sp_fo s m 8 (-1) from by rw [← hF8 8 (-1) (by omega) (by omega) (by omega)]; rfl]
                                refine go_goto (tgt := 366) dX12_best_342 (by decide) ?_
                                refine go_retI rfl rfl ?_ dX12_best_366
                                exact ⟨rj_vi (by unfold sp_bestF; rw [if_pos (by omega), if_pos (by omega)]), rlg, ⟨(show rlg 1 = s from elg1), (show rlg 2 = (r 2) from elg2), (show rlg 3 0 = (r 3 0) from elg3), (show rlg 17 = (r 17) from elg17), (show rlg 18 0 = (r 18 0) from elg18)⟩, rfl⟩
                            · exact absurd c_247 (by omega)
                          | succ ng ihg =>
                            intro kg rlg R hkg elg1 elg2 elg3 elg11 elg17 elg18 elg14 elg12 elg13 hR
                            refine go_iload dX12_best_243 4 rfl ?_
                            refine go_bipush (v := Int32.ofInt 8) dX12_best_245 (by decide) ?_
                            refine go_icmp_geI (tgt := 331) (by omega) (by omega) dX12_best_247 (by decide) (fun c_247 => ?_) (fun c_247 => ?_)
                            · exact absurd c_247 (by omega)
                            · refine go_iconst (v := Int32.ofInt (-1)) dX12_best_250 rfl ?_
                              refine go_istoreS (lv' := [(0, .ref mb), (1, rj_i m), (2, rj_i i), (3, rj_i (sp_bf s m kg)), (4, rj_i (kg : Int)), (5, rj_i (-1))]) (by decide) rfl dX12_best_251 ?_
                              have hbf := sp_bf_b hw9 (by omega) kg
                              have hpk := sp_pk_at hw9 (by omega) (7 - kg) (sp_bf s m kg)
                              have h7k : 7 - ((7 - kg : Nat) : Int) = (kg : Int) := by omega
                              obtain ⟨nf, hnf⟩ : ∃ nf, nf = (s 1 + 1).toNat := ⟨_, rfl⟩
                              have looph : ∀ (n : Nat) (p : Int), sp_fs (sp_isB s m (7 - kg) (sp_bf s m kg)) n p = sp_pk s m (7 - kg) (sp_bf s m kg) → -1 ≤ p → p ≤ sp_pk s m (7 - kg) (sp_bf s m kg) → rj_Go X9 yX12_best cX12_best 8 (some .int) d (fun w9 τ => w9 = some (rj_i (sp_bestF s m i)) ∧ ∃ r0, rm_V r r0 s ∧ τ = rm_p X9 mb r0 σ) 253 [(0, .ref mb), (1, rj_i m), (2, rj_i i), (3, rj_i (sp_bf s m kg)), (4, rj_i (kg : Int)), (5, rj_i p)] [] (rm_p X9 mb rlg σ) := by
                                intro n
                                induction n with
                                | zero =>
                                  intro p hfs p0 p1
                                  have pe : p = sp_pk s m (7 - kg) (sp_bf s m kg) := hfs
                                  have bfo := sp_fo_b hw9 (by omega) (7 - kg) p
                                  have bfp := sp_fo_b hw9 (by omega) (8 - kg) (sp_bf s m kg)
                                  have bwt := hw9 p (by omega) (by omega)
                                  have hwf : sp_isB s m (7 - kg) (sp_bf s m kg) p = true ↔ sp_nx s m (kg : Int) (sp_bf s m kg) p = true ∧ sp_wt s m p + sp_fo s m (7 - kg) p = sp_fo s m (8 - kg) (sp_bf s m kg) := by
                                    unfold sp_isB
                                    rw [h7k, show 7 - kg + 1 = 8 - kg by omega]
                                    simp
                                  have hgp := hwf.mp (by rw [pe]; exact hpk.2.2)
                                  refine go_aload_n dX12_best_253 rfl 0 rfl ?_
                                  refine go_iload dX12_best_254 4 rfl ?_
                                  refine go_iload_n dX12_best_256 rfl 3 rfl ?_
                                  refine go_iload dX12_best_257 5 rfl ?_
                                  refine go_callV (d1 := d - 1) wVX12_202 kX12 rm_ob rfl (by omega) (m_isNext (m := m) (by omega) (q := (kg : Int)) (b := sp_bf s m kg) (p := p) (hs := (show rlg 1 = s from elg1)) (show rlg 14 = C from elg14) hI (by omega) (by omega) (by omega) (fun hh => hC8 _ _ (by omega) (by omega) (by omega) (by omega))) rfl (Nat.le_of_ble_eq_true rfl) dX12_best_259 (fun w σ1 hP => ?_)
                                  obtain ⟨rfl, rfl⟩ := hP
                                  refine go_if_eqB (tgt := 307) dX12_best_262 (by decide) (fun c_262 => ?_) (fun c_262 => ?_)
                                  · exact absurd hgp.1 c_262
                                  · refine go_aload_n dX12_best_265 rfl 0 rfl ?_
                                    refine go_iload_n dX12_best_266 rfl 1 rfl ?_
                                    refine go_iload dX12_best_267 5 rfl ?_
                                    refine go_callV (d1 := d - 1) wVX12_205 kX12 rm_ob rfl (by omega) (m_worthThere (by omega) (m := m) (p := p) (hs := (show rlg 1 = s from elg1)) hI (by omega) (by omega)) rfl (Nat.le_of_ble_eq_true rfl) dX12_best_269 (fun w σ1 hP => ?_)
                                    obtain ⟨rfl, rfl⟩ := hP
                                    refine go_aload_n dX12_best_272 rfl 0 rfl ?_
                                    refine grm_g12 rfl dX12_best_273 ?_
                                    refine go_bipush (v := Int32.ofInt 7) dX12_best_276 (by decide) ?_
                                    refine go_iload dX12_best_278 4 rfl ?_
                                    refine go_iconst (v := Int32.ofInt 1) dX12_best_280 rfl ?_
                                    refine go_addI dX12_best_281 ?_
                                    refine go_mulI dX12_best_282 ?_
                                    refine go_iload dX12_best_283 5 rfl ?_
                                    refine go_addI dX12_best_285 ?_
                                    refine go_iconst (v := Int32.ofInt 1) dX12_best_286 rfl ?_
                                    refine go_addI dX12_best_287 ?_
                                    refine grm_l12 (by omega) (by omega) dX12_best_288 ?_
                                    rw [show rlg 12 = B from elg12]
                                    rw [show B (((7 * ((kg : Int) + 1)) + p) + 1) = sp_fo s m (7 - kg) p from by rw [← hF8 (7 - kg) p (by omega) (by omega) (by omega)]; congr 1; omega]
                                    refine go_addI dX12_best_289 ?_
                                    refine go_aload_n dX12_best_290 rfl 0 rfl ?_
                                    refine grm_g12 rfl dX12_best_291 ?_
                                    refine go_bipush (v := Int32.ofInt 7) dX12_best_294 (by decide) ?_
                                    refine go_iload dX12_best_296 4 rfl ?_
                                    refine go_mulI dX12_best_298 ?_
                                    refine go_iload_n dX12_best_299 rfl 3 rfl ?_
                                    refine go_addI dX12_best_300 ?_
                                    refine go_iconst (v := Int32.ofInt 1) dX12_best_301 rfl ?_
                                    refine go_addI dX12_best_302 ?_
                                    refine grm_l12 (by omega) (by omega) dX12_best_303 ?_
                                    rw [show rlg 12 = B from elg12]
                                    rw [show B (((7 * (kg : Int)) + (sp_bf s m kg)) + 1) = sp_fo s m (8 - kg) (sp_bf s m kg) from by rw [← hF8 (8 - kg) (sp_bf s m kg) (by omega) (by omega) (by omega)]; congr 1; omega]
                                    refine go_icmp_eqI (tgt := 313) (by omega) (by omega) dX12_best_304 (by decide) (fun c_304 => ?_) (fun c_304 => ?_)
                                    · refine go_aload_n dX12_best_313 rfl 0 rfl ?_
                                      refine grm_g13 rfl dX12_best_314 ?_
                                      refine go_iload dX12_best_317 4 rfl ?_
                                      refine go_iload dX12_best_319 5 rfl ?_
                                      refine grm_s13 (by omega) (by omega) dX12_best_321 ?_
                                      refine go_iload dX12_best_322 5 rfl ?_
                                      refine go_istore_nS (lv' := [(0, .ref mb), (1, rj_i m), (2, rj_i i), (3, rj_i p), (4, rj_i (kg : Int)), (5, rj_i p)]) rfl (by decide) rfl dX12_best_324 ?_
                                      have ebf : p = sp_bf s m (kg + 1) := by rw [sp_bf]; exact pe
                                      refine go_iincI (a := (kg : Int)) (n := 1) (k0 := 4) (lv' := [(0, .ref mb), (1, rj_i m), (2, rj_i i), (3, rj_i p), (4, rj_i ((kg : Int) + 1)), (5, rj_i p)]) rfl (by decide) rfl dX12_best_325 ?_
                                      refine go_goto (tgt := 243) dX12_best_328 (by decide) ?_
                                      refine go_sub (lv' := [(0, .ref mb), (1, rj_i m), (2, rj_i i), (3, rj_i p), (4, rj_i ((kg : Int) + 1))]) (by intro q hq; simp only [List.mem_cons, List.not_mem_nil, or_false] at hq ⊢; rcases hq with rfl | rfl | rfl | rfl | rfl <;> simp) ?_
                                      exact go_eq rfl (lv' := [(0, .ref mb), (1, rj_i m), (2, rj_i i), (3, rj_i (sp_bf s m (kg + 1))), (4, rj_i ((kg + 1 : Nat) : Int))]) (rj_lk (rj_lk (rj_lk (rj_lj (ebf) (rj_lj (by omega) rfl))))) rfl rfl (ihg (kg + 1) (rm_u rlg 13 (rj_up (rlg 13) (kg : Int) p)) (rj_up R (kg : Int) p) (by omega) ((show (rm_u rlg 13 (rj_up (rlg 13) (kg : Int) p)) 1 = s from elg1)) ((show (rm_u rlg 13 (rj_up (rlg 13) (kg : Int) p)) 2 = (r 2) from elg2)) ((show (rm_u rlg 13 (rj_up (rlg 13) (kg : Int) p)) 3 0 = (r 3 0) from elg3)) ((show (rm_u rlg 13 (rj_up (rlg 13) (kg : Int) p)) 11 0 = s 4 from elg11)) ((show (rm_u rlg 13 (rj_up (rlg 13) (kg : Int) p)) 17 = (r 17) from elg17)) ((show (rm_u rlg 13 (rj_up (rlg 13) (kg : Int) p)) 18 0 = (r 18 0) from elg18)) ((show (rm_u rlg 13 (rj_up (rlg 13) (kg : Int) p)) 14 = C from elg14)) ((show (rm_u rlg 13 (rj_up (rlg 13) (kg : Int) p)) 12 = B from elg12)) ((show (rm_u rlg 13 (rj_up (rlg 13) (kg : Int) p)) 13 = (rj_up R (kg : Int) p) from (congrArg (fun zz => rj_up zz (kg : Int) p) (show rlg 13 = R from elg13)))) (sp_Rz hR ebf))
                                    · exact absurd hgp.2 c_304
                                | succ n ihh =>
                                  intro p hfs p0 p1
                                  have bfo := sp_fo_b hw9 (by omega) (7 - kg) p
                                  have bfp := sp_fo_b hw9 (by omega) (8 - kg) (sp_bf s m kg)
                                  have bwt := hw9 p (by omega) (by omega)
                                  have hwf : sp_isB s m (7 - kg) (sp_bf s m kg) p = true ↔ sp_nx s m (kg : Int) (sp_bf s m kg) p = true ∧ sp_wt s m p + sp_fo s m (7 - kg) p = sp_fo s m (8 - kg) (sp_bf s m kg) := by
                                    unfold sp_isB
                                    rw [h7k, show 7 - kg + 1 = 8 - kg by omega]
                                    simp
                                  refine go_aload_n dX12_best_253 rfl 0 rfl ?_
                                  refine go_iload dX12_best_254 4 rfl ?_
                                  refine go_iload_n dX12_best_256 rfl 3 rfl ?_
                                  refine go_iload dX12_best_257 5 rfl ?_
                                  refine go_callV (d1 := d - 1) wVX12_202 kX12 rm_ob rfl (by omega) (m_isNext (m := m) (by omega) (q := (kg : Int)) (b := sp_bf s m kg) (p := p) (hs := (show rlg 1 = s from elg1)) (show rlg 14 = C from elg14) hI (by omega) (by omega) (by omega) (fun hh => hC8 _ _ (by omega) (by omega) (by omega) (by omega))) rfl (Nat.le_of_ble_eq_true rfl) dX12_best_259 (fun w σ1 hP => ?_)
                                  obtain ⟨rfl, rfl⟩ := hP
                                  refine go_if_eqB (tgt := 307) dX12_best_262 (by decide) (fun c_262 => ?_) (fun c_262 => ?_)
                                  · refine go_iincI (a := p) (n := 1) (k0 := 5) (lv' := [(0, .ref mb), (1, rj_i m), (2, rj_i i), (3, rj_i (sp_bf s m kg)), (4, rj_i (kg : Int)), (5, rj_i (p + 1))]) rfl (by decide) rfl dX12_best_307 ?_
                                    refine go_goto (tgt := 253) dX12_best_310 (by decide) ?_
                                    have ng : ¬ sp_isB s m (7 - kg) (sp_bf s m kg) p = true := fun h => by have := hwf.mp h; exact c_262 this.1
                                    have ne9 : p ≠ sp_pk s m (7 - kg) (sp_bf s m kg) := fun e => ng (by rw [e]; exact hpk.2.2)
                                    rw [sp_fs, if_neg ng] at hfs
                                    exact go_eq rfl (lv' := [(0, .ref mb), (1, rj_i m), (2, rj_i i), (3, rj_i (sp_bf s m kg)), (4, rj_i (kg : Int)), (5, rj_i (p + 1))]) (rj_lk (rj_lk (rj_lk (rj_lk (rj_lk (rj_lk rfl)))))) rfl rfl (ihh (p + 1) hfs (by omega) (by omega))
                                  · refine go_aload_n dX12_best_265 rfl 0 rfl ?_
                                    refine go_iload_n dX12_best_266 rfl 1 rfl ?_
                                    refine go_iload dX12_best_267 5 rfl ?_
                                    refine go_callV (d1 := d - 1) wVX12_205 kX12 rm_ob rfl (by omega) (m_worthThere (by omega) (m := m) (p := p) (hs := (show rlg 1 = s from elg1)) hI (by omega) (by omega)) rfl (Nat.le_of_ble_eq_true rfl) dX12_best_269 (fun w σ1 hP => ?_)
                                    obtain ⟨rfl, rfl⟩ := hP
                                    refine go_aload_n dX12_best_272 rfl 0 rfl ?_
                                    refine grm_g12 rfl dX12_best_273 ?_
                                    refine go_bipush (v := Int32.ofInt 7) dX12_best_276 (by decide) ?_
                                    refine go_iload dX12_best_278 4 rfl ?_
                                    refine go_iconst (v := Int32.ofInt 1) dX12_best_280 rfl ?_
                                    refine go_addI dX12_best_281 ?_
                                    refine go_mulI dX12_best_282 ?_
                                    refine go_iload dX12_best_283 5 rfl ?_
                                    refine go_addI dX12_best_285 ?_
                                    refine go_iconst (v := Int32.ofInt 1) dX12_best_286 rfl ?_
                                    refine go_addI dX12_best_287 ?_
                                    refine grm_l12 (by omega) (by omega) dX12_best_288 ?_
                                    rw [show rlg 12 = B from elg12]
                                    rw [show B (((7 * ((kg : Int) + 1)) + p) + 1) = sp_fo s m (7 - kg) p from by rw [← hF8 (7 - kg) p (by omega) (by omega) (by omega)]; congr 1; omega]
                                    refine go_addI dX12_best_289 ?_
                                    refine go_aload_n dX12_best_290 rfl 0 rfl ?_
                                    refine grm_g12 rfl dX12_best_291 ?_
                                    refine go_bipush (v := Int32.ofInt 7) dX12_best_294 (by decide) ?_
                                    refine go_iload dX12_best_296 4 rfl ?_
                                    refine go_mulI dX12_best_298 ?_
                                    refine go_iload_n dX12_best_299 rfl 3 rfl ?_
                                    refine go_addI dX12_best_300 ?_
                                    refine go_iconst (v := Int32.ofInt 1) dX12_best_301 rfl ?_
                                    refine go_addI dX12_best_302 ?_
                                    refine grm_l12 (by omega) (by omega) dX12_best_303 ?_
                                    rw [show rlg 12 = B from elg12]
                                    rw [show B (((7 * (kg : Int)) + (sp_bf s m kg)) + 1) = sp_fo s m (8 - kg) (sp_bf s m kg) from by rw [← hF8 (8 - kg) (sp_bf s m kg) (by omega) (by omega) (by omega)]; congr 1; omega]
                                    refine go_icmp_eqI (tgt := 313) (by omega) (by omega) dX12_best_304 (by decide) (fun c_304 => ?_) (fun c_304 => ?_)
                                    · refine go_aload_n dX12_best_313 rfl 0 rfl ?_
                                      refine grm_g13 rfl dX12_best_314 ?_
                                      refine go_iload dX12_best_317 4 rfl ?_
                                      refine go_iload dX12_best_319 5 rfl ?_
                                      refine grm_s13 (by omega) (by omega) dX12_best_321 ?_
                                      refine go_iload dX12_best_322 5 rfl ?_
                                      refine go_istore_nS (lv' := [(0, .ref mb), (1, rj_i m), (2, rj_i i), (3, rj_i p), (4, rj_i (kg : Int)), (5, rj_i p)]) rfl (by decide) rfl dX12_best_324 ?_
                                      rw [sp_fs, if_pos (hwf.mpr ⟨c_262, c_304⟩)] at hfs
                                      have ebf : p = sp_bf s m (kg + 1) := by rw [sp_bf]; exact hfs
                                      refine go_iincI (a := (kg : Int)) (n := 1) (k0 := 4) (lv' := [(0, .ref mb), (1, rj_i m), (2, rj_i i), (3, rj_i p), (4, rj_i ((kg : Int) + 1)), (5, rj_i p)]) rfl (by decide) rfl dX12_best_325 ?_
                                      refine go_goto (tgt := 243) dX12_best_328 (by decide) ?_
                                      refine go_sub (lv' := [(0, .ref mb), (1, rj_i m), (2, rj_i i), (3, rj_i p), (4, rj_i ((kg : Int) + 1))]) (by intro q hq; simp only [List.mem_cons, List.not_mem_nil, or_false] at hq ⊢; rcases hq with rfl | rfl | rfl | rfl | rfl <;> simp) ?_
                                      exact go_eq rfl (lv' := [(0, .ref mb), (1, rj_i m), (2, rj_i i), (3, rj_i (sp_bf s m (kg + 1))), (4, rj_i ((kg + 1 : Nat) : Int))]) (rj_lk (rj_lk (rj_lk (rj_lj (ebf) (rj_lj (by omega) rfl))))) rfl rfl (ihg (kg + 1) (rm_u rlg 13 (rj_up (rlg 13) (kg : Int) p)) (rj_up R (kg : Int) p) (by omega) ((show (rm_u rlg 13 (rj_up (rlg 13) (kg : Int) p)) 1 = s from elg1)) ((show (rm_u rlg 13 (rj_up (rlg 13) (kg : Int) p)) 2 = (r 2) from elg2)) ((show (rm_u rlg 13 (rj_up (rlg 13) (kg : Int) p)) 3 0 = (r 3 0) from elg3)) ((show (rm_u rlg 13 (rj_up (rlg 13) (kg : Int) p)) 11 0 = s 4 from elg11)) ((show (rm_u rlg 13 (rj_up (rlg 13) (kg : Int) p)) 17 = (r 17) from elg17)) ((show (rm_u rlg 13 (rj_up (rlg 13) (kg : Int) p)) 18 0 = (r 18 0) from elg18)) ((show (rm_u rlg 13 (rj_up (rlg 13) (kg : Int) p)) 14 = C from elg14)) ((show (rm_u rlg 13 (rj_up (rlg 13) (kg : Int) p)) 12 = B from elg12)) ((show (rm_u rlg 13 (rj_up (rlg 13) (kg : Int) p)) 13 = (rj_up R (kg : Int) p) from (congrArg (fun zz => rj_up zz (kg : Int) p) (show rlg 13 = R from elg13)))) (sp_Rz hR ebf))
                                    · refine go_iincI (a := p) (n := 1) (k0 := 5) (lv' := [(0, .ref mb), (1, rj_i m), (2, rj_i i), (3, rj_i (sp_bf s m kg)), (4, rj_i (kg : Int)), (5, rj_i (p + 1))]) rfl (by decide) rfl dX12_best_307 ?_
                                      refine go_goto (tgt := 253) dX12_best_310 (by decide) ?_
                                      have ng : ¬ sp_isB s m (7 - kg) (sp_bf s m kg) p = true := fun h => by have := hwf.mp h; exact c_304 this.2
                                      have ne9 : p ≠ sp_pk s m (7 - kg) (sp_bf s m kg) := fun e => ng (by rw [e]; exact hpk.2.2)
                                      rw [sp_fs, if_neg ng] at hfs
                                      exact go_eq rfl (lv' := [(0, .ref mb), (1, rj_i m), (2, rj_i i), (3, rj_i (sp_bf s m kg)), (4, rj_i (kg : Int)), (5, rj_i (p + 1))]) (rj_lk (rj_lk (rj_lk (rj_lk (rj_lk (rj_lk rfl)))))) rfl rfl (ihh (p + 1) hfs (by omega) (by omega))
                              exact go_eq rfl (lv' := [(0, .ref mb), (1, rj_i m), (2, rj_i i), (3, rj_i (sp_bf s m kg)), (4, rj_i (kg : Int)), (5, rj_i (-1))]) (rj_lk (rj_lk (rj_lk (rj_lk (rj_lk (rj_lk rfl)))))) rfl rfl (looph (s 1 + 1).toNat (-1) rfl (by omega) (by omega))
                        exact go_eq rfl (lv' := [(0, .ref mb), (1, rj_i m), (2, rj_i i), (3, rj_i (sp_bf s m 0)), (4, rj_i ((0 : Nat) : Int))]) (rj_lk (rj_lk (rj_lk (rj_lj (rfl) (rj_lj (rfl) rfl))))) rfl rfl (loopg (8 : Int).toNat 0 rld R0 (by omega) ((show rld 1 = s from eld1)) ((show rld 2 = (r 2) from eld2)) ((show rld 3 0 = (r 3 0) from eld3)) ((show rld 11 0 = s 4 from eld11)) ((show rld 17 = (r 17) from eld17)) ((show rld 18 0 = (r 18 0) from eld18)) ((show rld 14 = C from eld14)) ((show rld 12 = B from eld12)) ((show rld 13 = R0 from eld13)) (fun j hj => absurd hj (by omega)))
                      · exact absurd c_112 (by omega)
                    | succ nd ihd =>
                      intro kd rld B hkd eld1 eld2 eld3 eld11 eld17 eld18 eld14 eld12 eld13 hD
                      refine go_iload_n dX12_best_111 rfl 3 rfl ?_
                      refine go_if_ltI (tgt := 238) (by omega) dX12_best_112 (by decide) (fun c_112 => ?_) (fun c_112 => ?_)
                      · exact absurd c_112 (by omega)
                      · refine go_iconst (v := Int32.ofInt (-1)) dX12_best_115 rfl ?_
                        refine go_istoreS (lv' := [(0, .ref mb), (1, rj_i m), (2, rj_i i), (3, rj_i (7 - (kd : Int))), (4, rj_i (-1))]) (by decide) rfl dX12_best_116 ?_
                        have loope : ∀ (ne ke : Nat) (rle : rm_R) (B : Int → Int), ke + ne = (s 1 + 1).toNat → rle 1 = s → rle 2 = (r 2) → rle 3 0 = (r 3 0) → rle 11 0 = s 4 → rle 17 = (r 17) → rle 18 0 = (r 18 0) → rle 14 = C → rle 12 = B → rle 13 = R0 → sp_FI s m B kd ke → rj_Go X9 yX12_best cX12_best 8 (some .int) d (fun w9 τ => w9 = some (rj_i (sp_bestF s m i)) ∧ ∃ r0, rm_V r r0 s ∧ τ = rm_p X9 mb r0 σ) 118 [(0, .ref mb), (1, rj_i m), (2, rj_i i), (3, rj_i (7 - (kd : Int))), (4, rj_i ((ke : Int) - 1))] [] (rm_p X9 mb rle σ) := by
                          intro ne
                          induction ne with
                          | zero =>
                            intro ke rle B hke ele1 ele2 ele3 ele11 ele17 ele18 ele14 ele12 ele13 hE
                            refine go_iload dX12_best_118 4 rfl ?_
                            refine go_aload_n dX12_best_120 rfl 0 rfl ?_
                            refine grm_g1 rfl dX12_best_121 ?_
                            refine go_iconst (v := Int32.ofInt 1) dX12_best_124 rfl ?_
                            refine grm_l1 (by omega) (by omega) dX12_best_125 ?_
                            rw [show rle 1 = s from ele1]
                            refine go_icmp_geI (tgt := 232) (by omega) (by omega) dX12_best_126 (by decide) (fun c_126 => ?_) (fun c_126 => ?_)
                            · refine go_iincI (a := 7 - (kd : Int)) (n := -1) (k0 := 3) (lv' := [(0, .ref mb), (1, rj_i m), (2, rj_i i), (3, rj_i (7 - (kd : Int) + (-1))), (4, rj_i ((ke : Int) - 1))]) rfl (by decide) rfl dX12_best_232 ?_
                              refine go_goto (tgt := 111) dX12_best_235 (by decide) ?_
                              refine go_sub (lv' := [(0, .ref mb), (1, rj_i m), (2, rj_i i), (3, rj_i (7 - (kd : Int) + (-1)))]) (by intro q hq; simp only [List.mem_cons, List.not_mem_nil, or_false] at hq ⊢; rcases hq with rfl | rfl | rfl | rfl <;> simp) ?_
                              exact go_eq rfl (lv' := [(0, .ref mb), (1, rj_i m), (2, rj_i i), (3, rj_i (7 - ((kd + 1 : Nat) : Int)))]) (rj_lk (rj_lk (rj_lk (rj_lj (by omega) rfl)))) rfl rfl (ihd (kd + 1) rle B (by omega) ((show rle 1 = s from ele1)) ((show rle 2 = (r 2) from ele2)) ((show rle 3 0 = (r 3 0) from ele3)) ((show rle 11 0 = s 4 from ele11)) ((show rle 17 = (r 17) from ele17)) ((show rle 18 0 = (r 18 0) from ele18)) ((show rle 14 = C from ele14)) ((show rle 12 = B from ele12)) ((show rle 13 = R0 from ele13)) (sp_FI_n hE (by omega)))
                            · exact absurd c_126 (by omega)
                          | succ ne ihe =>
                            intro ke rle B hke ele1 ele2 ele3 ele11 ele17 ele18 ele14 ele12 ele13 hE
                            refine go_iload dX12_best_118 4 rfl ?_
                            refine go_aload_n dX12_best_120 rfl 0 rfl ?_
                            refine grm_g1 rfl dX12_best_121 ?_
                            refine go_iconst (v := Int32.ofInt 1) dX12_best_124 rfl ?_
                            refine grm_l1 (by omega) (by omega) dX12_best_125 ?_
                            rw [show rle 1 = s from ele1]
                            refine go_icmp_geI (tgt := 232) (by omega) (by omega) dX12_best_126 (by decide) (fun c_126 => ?_) (fun c_126 => ?_)
                            · exact absurd c_126 (by omega)
                            · refine go_iconst (v := Int32.ofInt 0) dX12_best_129 rfl ?_
                              refine go_istoreS (lv' := [(0, .ref mb), (1, rj_i m), (2, rj_i i), (3, rj_i (7 - (kd : Int))), (4, rj_i ((ke : Int) - 1)), (5, rj_i 0)]) (by decide) rfl dX12_best_130 ?_
                              refine go_iconst (v := Int32.ofInt (-1)) dX12_best_132 rfl ?_
                              refine go_istoreS (lv' := [(0, .ref mb), (1, rj_i m), (2, rj_i i), (3, rj_i (7 - (kd : Int))), (4, rj_i ((ke : Int) - 1)), (5, rj_i 0), (6, rj_i (-1))]) (by decide) rfl dX12_best_133 ?_
                              have loopf : ∀ n kf : Nat, kf + n = (s 1 + 1).toNat → rj_Go X9 yX12_best cX12_best 8 (some .int) d (fun w9 τ => w9 = some (rj_i (sp_bestF s m i)) ∧ ∃ r0, rm_V r r0 s ∧ τ = rm_p X9 mb r0 σ) 135 [(0, .ref mb), (1, rj_i m), (2, rj_i i), (3, rj_i (7 - (kd : Int))), (4, rj_i ((ke : Int) - 1)), (5, rj_i (sp_bm s m (7 - (kd : Int)) (sp_fo s m kd) ((ke : Int) - 1) kf)), (6, rj_i ((kf : Int) - 1))] [] (rm_p X9 mb rle σ) := by
                                intro n
                                induction n with
                                | zero =>
                                  intro kf hkf
                                  refine go_iload dX12_best_135 6 rfl ?_
                                  refine go_aload_n dX12_best_137 rfl 0 rfl ?_
                                  refine grm_g1 rfl dX12_best_138 ?_
                                  refine go_iconst (v := Int32.ofInt 1) dX12_best_141 rfl ?_
                                  refine grm_l1 (by omega) (by omega) dX12_best_142 ?_
                                  rw [show rle 1 = s from ele1]
                                  refine go_icmp_geI (tgt := 210) (by omega) (by omega) dX12_best_143 (by decide) (fun c_143 => ?_) (fun c_143 => ?_)
                                  · have efo : sp_bm s m (7 - (kd : Int)) (sp_fo s m kd) ((ke : Int) - 1) kf = sp_fo s m (kd + 1) ((ke : Int) - 1) := by rw [sp_fo, show kf = (s 1 + 1).toNat by omega]
                                    rw [efo]
                                    refine go_aload_n dX12_best_210 rfl 0 rfl ?_
                                    refine grm_g12 rfl dX12_best_211 ?_
                                    refine go_bipush (v := Int32.ofInt 7) dX12_best_214 (by decide) ?_
                                    refine go_iload_n dX12_best_216 rfl 3 rfl ?_
                                    refine go_mulI dX12_best_217 ?_
                                    refine go_iload dX12_best_218 4 rfl ?_
                                    refine go_addI dX12_best_220 ?_
                                    refine go_iconst (v := Int32.ofInt 1) dX12_best_221 rfl ?_
                                    refine go_addI dX12_best_222 ?_
                                    refine go_iload dX12_best_223 5 rfl ?_
                                    refine grm_s12 (by omega) (by omega) dX12_best_225 ?_
                                    refine go_iincI (a := (ke : Int) - 1) (n := 1) (k0 := 4) (lv' := [(0, .ref mb), (1, rj_i m), (2, rj_i i), (3, rj_i (7 - (kd : Int))), (4, rj_i ((ke : Int) - 1 + 1)), (5, rj_i (sp_fo s m (kd + 1) ((ke : Int) - 1))), (6, rj_i ((kf : Int) - 1))]) rfl (by decide) rfl dX12_best_226 ?_
                                    refine go_goto (tgt := 118) dX12_best_229 (by decide) ?_
                                    refine go_sub (lv' := [(0, .ref mb), (1, rj_i m), (2, rj_i i), (3, rj_i (7 - (kd : Int))), (4, rj_i ((ke : Int) - 1 + 1))]) (by intro q hq; simp only [List.mem_cons, List.not_mem_nil, or_false] at hq ⊢; rcases hq with rfl | rfl | rfl | rfl | rfl <;> simp) ?_
                                    exact go_eq rfl (lv' := [(0, .ref mb), (1, rj_i m), (2, rj_i i), (3, rj_i (7 - (kd : Int))), (4, rj_i (((ke + 1 : Nat) : Int) - 1))]) (rj_lk (rj_lk (rj_lk (rj_lk (rj_lj (by omega) rfl))))) rfl rfl (ihe (ke + 1) (rm_u rle 12 (rj_up (rle 12) (((7 * (7 - (kd : Int))) + ((ke : Int) - 1)) + 1) (sp_fo s m (kd + 1) ((ke : Int) - 1)))) (rj_up B (((7 * (7 - (kd : Int))) + ((ke : Int) - 1)) + 1) (sp_fo s m (kd + 1) ((ke : Int) - 1))) (by omega) ((show (rm_u rle 12 (rj_up (rle 12) (((7 * (7 - (kd : Int))) + ((ke : Int) - 1)) + 1) (sp_fo s m (kd + 1) ((ke : Int) - 1)))) 1 = s from ele1)) ((show (rm_u rle 12 (rj_up (rle 12) (((7 * (7 - (kd : Int))) + ((ke : Int) - 1)) + 1) (sp_fo s m (kd + 1) ((ke : Int) - 1)))) 2 = (r 2) from ele2)) ((show (rm_u rle 12 (rj_up (rle 12) (((7 * (7 - (kd : Int))) + ((ke : Int) - 1)) + 1) (sp_fo s m (kd + 1) ((ke : Int) - 1)))) 3 0 = (r 3 0) from ele3)) ((show (rm_u rle 12 (rj_up (rle 12) (((7 * (7 - (kd : Int))) + ((ke : Int) - 1)) + 1) (sp_fo s m (kd + 1) ((ke : Int) - 1)))) 11 0 = s 4 from ele11)) ((show (rm_u rle 12 (rj_up (rle 12) (((7 * (7 - (kd : Int))) + ((ke : Int) - 1)) + 1) (sp_fo s m (kd + 1) ((ke : Int) - 1)))) 17 = (r 17) from ele17)) ((show (rm_u rle 12 (rj_up (rle 12) (((7 * (7 - (kd : Int))) + ((ke : Int) - 1)) + 1) (sp_fo s m (kd + 1) ((ke : Int) - 1)))) 18 0 = (r 18 0) from ele18)) ((show (rm_u rle 12 (rj_up (rle 12) (((7 * (7 - (kd : Int))) + ((ke : Int) - 1)) + 1) (sp_fo s m (kd + 1) ((ke : Int) - 1)))) 14 = C from ele14)) ((show (rm_u rle 12 (rj_up (rle 12) (((7 * (7 - (kd : Int))) + ((ke : Int) - 1)) + 1) (sp_fo s m (kd + 1) ((ke : Int) - 1)))) 12 = (rj_up B (((7 * (7 - (kd : Int))) + ((ke : Int) - 1)) + 1) (sp_fo s m (kd + 1) ((ke : Int) - 1))) from (congrArg (fun zz => rj_up zz (((7 * (7 - (kd : Int))) + ((ke : Int) - 1)) + 1) (sp_fo s m (kd + 1) ((ke : Int) - 1))) (show rle 12 = B from ele12)))) ((show (rm_u rle 12 (rj_up (rle 12) (((7 * (7 - (kd : Int))) + ((ke : Int) - 1)) + 1) (sp_fo s m (kd + 1) ((ke : Int) - 1)))) 13 = R0 from ele13)) (sp_FI_up hE (by omega) (by omega) (by omega)))
                                  · exact absurd c_143 (by omega)
                                | succ n ihf =>
                                  intro kf hkf
                                  have bfo := sp_fo_b hw9 (by omega) kd ((kf : Int) - 1)
                                  have bwt := hw9 ((kf : Int) - 1) (by omega) (by omega)
                                  have bbm := sp_bm_b (q := 7 - (kd : Int)) (b := (ke : Int) - 1) (B := 360 * (kd : Int)) hw9 (fun p _ _ => sp_fo_b hw9 (by omega) kd p) kf (by omega)
                                  have bbz : kf = 0 → sp_bm s m (7 - (kd : Int)) (sp_fo s m kd) ((ke : Int) - 1) kf = 0 := fun h => by subst h; rfl
                                  refine go_iload dX12_best_135 6 rfl ?_
                                  refine go_aload_n dX12_best_137 rfl 0 rfl ?_
                                  refine grm_g1 rfl dX12_best_138 ?_
                                  refine go_iconst (v := Int32.ofInt 1) dX12_best_141 rfl ?_
                                  refine grm_l1 (by omega) (by omega) dX12_best_142 ?_
                                  rw [show rle 1 = s from ele1]
                                  refine go_icmp_geI (tgt := 210) (by omega) (by omega) dX12_best_143 (by decide) (fun c_143 => ?_) (fun c_143 => ?_)
                                  · exact absurd c_143 (by omega)
                                  · refine go_aload_n dX12_best_146 rfl 0 rfl ?_
                                    refine go_iload_n dX12_best_147 rfl 3 rfl ?_
                                    refine go_iload dX12_best_148 4 rfl ?_
                                    refine go_iload dX12_best_150 6 rfl ?_
                                    refine go_callV (d1 := d - 1) wVX12_202 kX12 rm_ob rfl (by omega) (m_isNext (m := m) (by omega) (q := 7 - (kd : Int)) (b := (ke : Int) - 1) (p := (kf : Int) - 1) (hs := (show rle 1 = s from ele1)) (show rle 14 = C from ele14) hI (by omega) (by omega) (by omega) (fun hh => hC8 _ _ (by omega) (by omega) (by omega) (by omega))) rfl (Nat.le_of_ble_eq_true rfl) dX12_best_152 (fun w σ1 hP => ?_)
                                    obtain ⟨rfl, rfl⟩ := hP
                                    refine go_if_eqB (tgt := 185) dX12_best_155 (by decide) (fun c_155 => ?_) (fun c_155 => ?_)
                                    · refine go_iconst (v := Int32.ofInt 0) dX12_best_185 rfl ?_
                                      refine go_istoreS (lv' := [(0, .ref mb), (1, rj_i m), (2, rj_i i), (3, rj_i (7 - (kd : Int))), (4, rj_i ((ke : Int) - 1)), (5, rj_i (sp_bm s m (7 - (kd : Int)) (sp_fo s m kd) ((ke : Int) - 1) kf)), (6, rj_i ((kf : Int) - 1)), (7, rj_i 0)]) (by decide) rfl dX12_best_186 ?_
                                      refine go_iload dX12_best_188 7 rfl ?_
                                      refine go_iload dX12_best_190 5 rfl ?_
                                      refine go_icmp_leI (tgt := 200) (by omega) (by omega) dX12_best_192 (by decide) (fun c_192 => ?_) (fun c_192 => ?_)
                                      · refine go_iload dX12_best_200 5 rfl ?_
                                        refine go_istoreS (lv' := [(0, .ref mb), (1, rj_i m), (2, rj_i i), (3, rj_i (7 - (kd : Int))), (4, rj_i ((ke : Int) - 1)), (5, rj_i (sp_bm s m (7 - (kd : Int)) (sp_fo s m kd) ((ke : Int) - 1) kf)), (6, rj_i ((kf : Int) - 1)), (7, rj_i 0)]) (by decide) rfl dX12_best_202 ?_
                                        refine go_iincI (a := (kf : Int) - 1) (n := 1) (k0 := 6) (lv' := [(0, .ref mb), (1, rj_i m), (2, rj_i i), (3, rj_i (7 - (kd : Int))), (4, rj_i ((ke : Int) - 1)), (5, rj_i (sp_bm s m (7 - (kd : Int)) (sp_fo s m kd) ((ke : Int) - 1) kf)), (6, rj_i ((kf : Int) - 1 + 1)), (7, rj_i 0)]) rfl (by decide) rfl dX12_best_204 ?_
                                        refine go_goto (tgt := 135) dX12_best_207 (by decide) ?_
                                        refine go_sub (lv' := [(0, .ref mb), (1, rj_i m), (2, rj_i i), (3, rj_i (7 - (kd : Int))), (4, rj_i ((ke : Int) - 1)), (5, rj_i (sp_bm s m (7 - (kd : Int)) (sp_fo s m kd) ((ke : Int) - 1) kf)), (6, rj_i ((kf : Int) - 1 + 1))]) (by intro q hq; simp only [List.mem_cons, List.not_mem_nil, or_false] at hq ⊢; rcases hq with rfl | rfl | rfl | rfl | rfl | rfl | rfl <;> simp) ?_
                                        exact go_eq rfl (lv' := [(0, .ref mb), (1, rj_i m), (2, rj_i i), (3, rj_i (7 - (kd : Int))), (4, rj_i ((ke : Int) - 1)), (5, rj_i (sp_bm s m (7 - (kd : Int)) (sp_fo s m kd) ((ke : Int) - 1) (kf + 1))), (6, rj_i (((kf + 1 : Nat) : Int) - 1))]) (rj_lk (rj_lk (rj_lk (rj_lk (rj_lk (rj_lj (by rw [sp_bm]; (first | rw [if_pos c_155] | rw [if_neg c_155]); (split <;> omega)) (rj_lj (by omega) rfl))))))) rfl rfl (ihf (kf + 1) (by omega))
                                      · refine go_iload dX12_best_195 7 rfl ?_
                                        refine go_goto (tgt := 202) dX12_best_197 (by decide) ?_
                                        refine go_istoreS (lv' := [(0, .ref mb), (1, rj_i m), (2, rj_i i), (3, rj_i (7 - (kd : Int))), (4, rj_i ((ke : Int) - 1)), (5, rj_i 0), (6, rj_i ((kf : Int) - 1)), (7, rj_i 0)]) (by decide) rfl dX12_best_202 ?_
                                        refine go_iincI (a := (kf : Int) - 1) (n := 1) (k0 := 6) (lv' := [(0, .ref mb), (1, rj_i m), (2, rj_i i), (3, rj_i (7 - (kd : Int))), (4, rj_i ((ke : Int) - 1)), (5, rj_i 0), (6, rj_i ((kf : Int) - 1 + 1)), (7, rj_i 0)]) rfl (by decide) rfl dX12_best_204 ?_
                                        refine go_goto (tgt := 135) dX12_best_207 (by decide) ?_
                                        refine go_sub (lv' := [(0, .ref mb), (1, rj_i m), (2, rj_i i), (3, rj_i (7 - (kd : Int))), (4, rj_i ((ke : Int) - 1)), (5, rj_i 0), (6, rj_i ((kf : Int) - 1 + 1))]) (by intro q hq; simp only [List.mem_cons, List.not_mem_nil, or_false] at hq ⊢; rcases hq with rfl | rfl | rfl | rfl | rfl | rfl | rfl <;> simp) ?_
                                        exact go_eq rfl (lv' := [(0, .ref mb), (1, rj_i m), (2, rj_i i), (3, rj_i (7 - (kd : Int))), (4, rj_i ((ke : Int) - 1)), (5, rj_i (sp_bm s m (7 - (kd : Int)) (sp_fo s m kd) ((ke : Int) - 1) (kf + 1))), (6, rj_i (((kf + 1 : Nat) : Int) - 1))]) (rj_lk (rj_lk (rj_lk (rj_lk (rj_lk (rj_lj (by rw [sp_bm]; (first | rw [if_pos c_155] | rw [if_neg c_155]); (split <;> omega)) (rj_lj (by omega) rfl))))))) rfl rfl (ihf (kf + 1) (by omega))
                                    · refine go_aload_n dX12_best_158 rfl 0 rfl ?_
                                      refine go_iload_n dX12_best_159 rfl 1 rfl ?_
                                      refine go_iload dX12_best_160 6 rfl ?_
                                      refine go_callV (d1 := d - 1) wVX12_205 kX12 rm_ob rfl (by omega) (m_worthThere (by omega) (m := m) (p := (kf : Int) - 1) (hs := (show rle 1 = s from ele1)) hI (by omega) (by omega)) rfl (Nat.le_of_ble_eq_true rfl) dX12_best_162 (fun w σ1 hP => ?_)
                                      obtain ⟨rfl, rfl⟩ := hP
                                      refine go_aload_n dX12_best_165 rfl 0 rfl ?_
                                      refine grm_g12 rfl dX12_best_166 ?_
                                      refine go_bipush (v := Int32.ofInt 7) dX12_best_169 (by decide) ?_
                                      refine go_iload_n dX12_best_171 rfl 3 rfl ?_
                                      refine go_iconst (v := Int32.ofInt 1) dX12_best_172 rfl ?_
                                      refine go_addI dX12_best_173 ?_
                                      refine go_mulI dX12_best_174 ?_
                                      refine go_iload dX12_best_175 6 rfl ?_
                                      refine go_addI dX12_best_177 ?_
                                      refine go_iconst (v := Int32.ofInt 1) dX12_best_178 rfl ?_
                                      refine go_addI dX12_best_179 ?_
                                      refine grm_l12 (by omega) (by omega) dX12_best_180 ?_
                                      rw [show rle 12 = B from ele12]
                                      rw [show B (((7 * ((7 - (kd : Int)) + 1)) + ((kf : Int) - 1)) + 1) = sp_fo s m kd ((kf : Int) - 1) from by rw [← hE kd ((kf : Int) - 1) (Or.inl (by omega)) (by omega) (by omega) (by omega)]; congr 1; omega]
                                      refine go_addI dX12_best_181 ?_
                                      refine go_goto (tgt := 186) dX12_best_182 (by decide) ?_
                                      refine go_istoreS (lv' := [(0, .ref mb), (1, rj_i m), (2, rj_i i), (3, rj_i (7 - (kd : Int))), (4, rj_i ((ke : Int) - 1)), (5, rj_i (sp_bm s m (7 - (kd : Int)) (sp_fo s m kd) ((ke : Int) - 1) kf)), (6, rj_i ((kf : Int) - 1)), (7, rj_i ((sp_wt s m ((kf : Int) - 1)) + (sp_fo s m kd ((kf : Int) - 1))))]) (by decide) rfl dX12_best_186 ?_
                                      refine go_iload dX12_best_188 7 rfl ?_
                                      refine go_iload dX12_best_190 5 rfl ?_
                                      refine go_icmp_leI (tgt := 200) (by omega) (by omega) dX12_best_192 (by decide) (fun c_192 => ?_) (fun c_192 => ?_)
                                      · refine go_iload dX12_best_200 5 rfl ?_
                                        refine go_istoreS (lv' := [(0, .ref mb), (1, rj_i m), (2, rj_i i), (3, rj_i (7 - (kd : Int))), (4, rj_i ((ke : Int) - 1)), (5, rj_i (sp_bm s m (7 - (kd : Int)) (sp_fo s m kd) ((ke : Int) - 1) kf)), (6, rj_i ((kf : Int) - 1)), (7, rj_i ((sp_wt s m ((kf : Int) - 1)) + (sp_fo s m kd ((kf : Int) - 1))))]) (by decide) rfl dX12_best_202 ?_
                                        refine go_iincI (a := (kf : Int) - 1) (n := 1) (k0 := 6) (lv' := [(0, .ref mb), (1, rj_i m), (2, rj_i i), (3, rj_i (7 - (kd : Int))), (4, rj_i ((ke : Int) - 1)), (5, rj_i (sp_bm s m (7 - (kd : Int)) (sp_fo s m kd) ((ke : Int) - 1) kf)), (6, rj_i ((kf : Int) - 1 + 1)), (7, rj_i ((sp_wt s m ((kf : Int) - 1)) + (sp_fo s m kd ((kf : Int) - 1))))]) rfl (by decide) rfl dX12_best_204 ?_
                                        refine go_goto (tgt := 135) dX12_best_207 (by decide) ?_
                                        refine go_sub (lv' := [(0, .ref mb), (1, rj_i m), (2, rj_i i), (3, rj_i (7 - (kd : Int))), (4, rj_i ((ke : Int) - 1)), (5, rj_i (sp_bm s m (7 - (kd : Int)) (sp_fo s m kd) ((ke : Int) - 1) kf)), (6, rj_i ((kf : Int) - 1 + 1))]) (by intro q hq; simp only [List.mem_cons, List.not_mem_nil, or_false] at hq ⊢; rcases hq with rfl | rfl | rfl | rfl | rfl | rfl | rfl <;> simp) ?_
                                        exact go_eq rfl (lv' := [(0, .ref mb), (1, rj_i m), (2, rj_i i), (3, rj_i (7 - (kd : Int))), (4, rj_i ((ke : Int) - 1)), (5, rj_i (sp_bm s m (7 - (kd : Int)) (sp_fo s m kd) ((ke : Int) - 1) (kf + 1))), (6, rj_i (((kf + 1 : Nat) : Int) - 1))]) (rj_lk (rj_lk (rj_lk (rj_lk (rj_lk (rj_lj (by rw [sp_bm]; (first | rw [if_pos c_155] | rw [if_neg c_155]); (split <;> omega)) (rj_lj (by omega) rfl))))))) rfl rfl (ihf (kf + 1) (by omega))
                                      · refine go_iload dX12_best_195 7 rfl ?_
                                        refine go_goto (tgt := 202) dX12_best_197 (by decide) ?_
                                        refine go_istoreS (lv' := [(0, .ref mb), (1, rj_i m), (2, rj_i i), (3, rj_i (7 - (kd : Int))), (4, rj_i ((ke : Int) - 1)), (5, rj_i ((sp_wt s m ((kf : Int) - 1)) + (sp_fo s m kd ((kf : Int) - 1)))), (6, rj_i ((kf : Int) - 1)), (7, rj_i ((sp_wt s m ((kf : Int) - 1)) + (sp_fo s m kd ((kf : Int) - 1))))]) (by decide) rfl dX12_best_202 ?_
                                        refine go_iincI (a := (kf : Int) - 1) (n := 1) (k0 := 6) (lv' := [(0, .ref mb), (1, rj_i m), (2, rj_i i), (3, rj_i (7 - (kd : Int))), (4, rj_i ((ke : Int) - 1)), (5, rj_i ((sp_wt s m ((kf : Int) - 1)) + (sp_fo s m kd ((kf : Int) - 1)))), (6, rj_i ((kf : Int) - 1 + 1)), (7, rj_i ((sp_wt s m ((kf : Int) - 1)) + (sp_fo s m kd ((kf : Int) - 1))))]) rfl (by decide) rfl dX12_best_204 ?_
                                        refine go_goto (tgt := 135) dX12_best_207 (by decide) ?_
                                        refine go_sub (lv' := [(0, .ref mb), (1, rj_i m), (2, rj_i i), (3, rj_i (7 - (kd : Int))), (4, rj_i ((ke : Int) - 1)), (5, rj_i ((sp_wt s m ((kf : Int) - 1)) + (sp_fo s m kd ((kf : Int) - 1)))), (6, rj_i ((kf : Int) - 1 + 1))]) (by intro q hq; simp only [List.mem_cons, List.not_mem_nil, or_false] at hq ⊢; rcases hq with rfl | rfl | rfl | rfl | rfl | rfl | rfl <;> simp) ?_
                                        exact go_eq rfl (lv' := [(0, .ref mb), (1, rj_i m), (2, rj_i i), (3, rj_i (7 - (kd : Int))), (4, rj_i ((ke : Int) - 1)), (5, rj_i (sp_bm s m (7 - (kd : Int)) (sp_fo s m kd) ((ke : Int) - 1) (kf + 1))), (6, rj_i (((kf + 1 : Nat) : Int) - 1))]) (rj_lk (rj_lk (rj_lk (rj_lk (rj_lk (rj_lj (by rw [sp_bm]; (first | rw [if_pos c_155] | rw [if_neg c_155]); (split <;> omega)) (rj_lj (by omega) rfl))))))) rfl rfl (ihf (kf + 1) (by omega))
                              exact go_eq rfl (lv' := [(0, .ref mb), (1, rj_i m), (2, rj_i i), (3, rj_i (7 - (kd : Int))), (4, rj_i ((ke : Int) - 1)), (5, rj_i (sp_bm s m (7 - (kd : Int)) (sp_fo s m kd) ((ke : Int) - 1) 0)), (6, rj_i (((0 : Nat) : Int) - 1))]) (rj_lk (rj_lk (rj_lk (rj_lk (rj_lk (rj_lj (rfl) (rj_lj (by omega) rfl))))))) rfl rfl (loopf (s 1 + 1).toNat 0 (by omega))
                        exact go_eq rfl (lv' := [(0, .ref mb), (1, rj_i m), (2, rj_i i), (3, rj_i (7 - (kd : Int))), (4, rj_i (((0 : Nat) : Int) - 1))]) (rj_lk (rj_lk (rj_lk (rj_lk (rj_lj (by omega) rfl))))) rfl rfl (loope (s 1 + 1).toNat 0 rld B (by omega) ((show rld 1 = s from eld1)) ((show rld 2 = (r 2) from eld2)) ((show rld 3 0 = (r 3 0) from eld3)) ((show rld 11 0 = s 4 from eld11)) ((show rld 17 = (r 17) from eld17)) ((show rld 18 0 = (r 18 0) from eld18)) ((show rld 14 = C from eld14)) ((show rld 12 = B from eld12)) ((show rld 13 = R0 from eld13)) (hD))
                  exact go_eq rfl (lv' := [(0, .ref mb), (1, rj_i m), (2, rj_i i), (3, rj_i (7 - ((0 : Nat) : Int)))]) (rj_lk (rj_lk (rj_lk (rj_lj (by omega) rfl)))) rfl rfl (loopd (8 : Int).toNat 0 rlc A (by omega) ((show rlc 1 = s from elc1)) ((show rlc 2 = (r 2) from elc2)) ((show rlc 3 0 = (r 3 0) from elc3)) ((show rlc 11 0 = s 4 from elc11)) ((show rlc 17 = (r 17) from elc17)) ((show rlc 18 0 = (r 18 0) from elc18)) ((show rlc 14 = C from elc14)) ((show rlc 12 = A from elc12)) ((show rlc 13 = R0 from elc13)) (hF0))
                · exact absurd c_89 (by omega)
              | succ nc ihc =>
                intro kc rlc A hkc elc1 elc2 elc3 elc11 elc17 elc18 elc14 elc12 elc13 hAc
                refine go_iload_n dX12_best_86 rfl 3 rfl ?_
                refine go_bipush (v := Int32.ofInt 7) dX12_best_87 (by decide) ?_
                refine go_icmp_geI (tgt := 108) (by omega) (by omega) dX12_best_89 (by decide) (fun c_89 => ?_) (fun c_89 => ?_)
                · exact absurd c_89 (by omega)
                · refine go_aload_n dX12_best_92 rfl 0 rfl ?_
                  refine grm_g12 rfl dX12_best_93 ?_
                  refine go_bipush (v := Int32.ofInt 56) dX12_best_96 (by decide) ?_
                  refine go_iload_n dX12_best_98 rfl 3 rfl ?_
                  refine go_addI dX12_best_99 ?_
                  refine go_iconst (v := Int32.ofInt 0) dX12_best_100 rfl ?_
                  refine grm_s12 (by omega) (by omega) dX12_best_101 ?_
                  refine go_iincI (a := (kc : Int)) (n := 1) (k0 := 3) (lv' := [(0, .ref mb), (1, rj_i m), (2, rj_i i), (3, rj_i ((kc : Int) + 1))]) rfl (by decide) rfl dX12_best_102 ?_
                  refine go_goto (tgt := 86) dX12_best_105 (by decide) ?_
                  exact go_eq rfl (lv' := [(0, .ref mb), (1, rj_i m), (2, rj_i i), (3, rj_i ((kc + 1 : Nat) : Int))]) (rj_lk (rj_lk (rj_lk (rj_lj (by omega) rfl)))) rfl rfl (ihc (kc + 1) (rm_u rlc 12 (rj_up (rlc 12) (56 + (kc : Int)) 0)) (rj_up A (56 + (kc : Int)) 0) (by omega) ((show (rm_u rlc 12 (rj_up (rlc 12) (56 + (kc : Int)) 0)) 1 = s from elc1)) ((show (rm_u rlc 12 (rj_up (rlc 12) (56 + (kc : Int)) 0)) 2 = (r 2) from elc2)) ((show (rm_u rlc 12 (rj_up (rlc 12) (56 + (kc : Int)) 0)) 3 0 = (r 3 0) from elc3)) ((show (rm_u rlc 12 (rj_up (rlc 12) (56 + (kc : Int)) 0)) 11 0 = s 4 from elc11)) ((show (rm_u rlc 12 (rj_up (rlc 12) (56 + (kc : Int)) 0)) 17 = (r 17) from elc17)) ((show (rm_u rlc 12 (rj_up (rlc 12) (56 + (kc : Int)) 0)) 18 0 = (r 18 0) from elc18)) ((show (rm_u rlc 12 (rj_up (rlc 12) (56 + (kc : Int)) 0)) 14 = C from elc14)) ((show (rm_u rlc 12 (rj_up (rlc 12) (56 + (kc : Int)) 0)) 12 = (rj_up A (56 + (kc : Int)) 0) from (congrArg (fun zz => rj_up zz (56 + (kc : Int)) 0) (show rlc 12 = A from elc12)))) ((show (rm_u rlc 12 (rj_up (rlc 12) (56 + (kc : Int)) 0)) 13 = R0 from elc13)) (sp_Az hAc))
            exact go_eq rfl (lv' := [(0, .ref mb), (1, rj_i m), (2, rj_i i), (3, rj_i ((0 : Nat) : Int))]) (rj_lk (rj_lk (rj_lk (rj_lj (rfl) rfl)))) rfl rfl (loopc (7 : Int).toNat 0 rla A0 (by omega) ((show rla 1 = s from ela1)) ((show rla 2 = (r 2) from ela2)) ((show rla 3 0 = (r 3 0) from ela3)) ((show rla 11 0 = s 4 from ela11)) ((show rla 17 = (r 17) from ela17)) ((show rla 18 0 = (r 18 0) from ela18)) ((show rla 14 = C from ela14)) ((show rla 12 = A0 from ela12)) ((show rla 13 = R0 from ela13)) (fun j a b => absurd b (by omega)))
          · exact absurd c_35 (by omega)
        | succ na iha =>
          intro ka rla C hka ela1 ela2 ela3 ela11 ela17 ela18 ela14 ela12 ela13 hCa
          refine go_iload_n dX12_best_32 rfl 3 rfl ?_
          refine go_bipush (v := Int32.ofInt 8) dX12_best_33 (by decide) ?_
          refine go_icmp_geI (tgt := 84) (by omega) (by omega) dX12_best_35 (by decide) (fun c_35 => ?_) (fun c_35 => ?_)
          · exact absurd c_35 (by omega)
          · refine go_iconst (v := Int32.ofInt 0) dX12_best_38 rfl ?_
            refine go_istoreS (lv' := [(0, .ref mb), (1, rj_i m), (2, rj_i i), (3, rj_i (ka : Int)), (4, rj_i 0)]) (by decide) rfl dX12_best_39 ?_
            have loopb : ∀ (nb kb : Nat) (rlb : rm_R) (C : Int → Int), kb + nb = (s 1).toNat → rlb 1 = s → rlb 2 = (r 2) → rlb 3 0 = (r 3 0) → rlb 11 0 = s 4 → rlb 17 = (r 17) → rlb 18 0 = (r 18 0) → rlb 14 = C → rlb 12 = A0 → rlb 13 = R0 → sp_CI s m C (ka : Int) (kb : Int) → rj_Go X9 yX12_best cX12_best 8 (some .int) d (fun w9 τ => w9 = some (rj_i (sp_bestF s m i)) ∧ ∃ r0, rm_V r r0 s ∧ τ = rm_p X9 mb r0 σ) 41 [(0, .ref mb), (1, rj_i m), (2, rj_i i), (3, rj_i (ka : Int)), (4, rj_i (kb : Int))] [] (rm_p X9 mb rlb σ) := by
              intro nb
              induction nb with
              | zero =>
                intro kb rlb C hkb elb1 elb2 elb3 elb11 elb17 elb18 elb14 elb12 elb13 hCb
                refine go_iload dX12_best_41 4 rfl ?_
                refine go_aload_n dX12_best_43 rfl 0 rfl ?_
                refine grm_g1 rfl dX12_best_44 ?_
                refine go_iconst (v := Int32.ofInt 1) dX12_best_47 rfl ?_
                refine grm_l1 (by omega) (by omega) dX12_best_48 ?_
                rw [show rlb 1 = s from elb1]
                refine go_icmp_geI (tgt := 78) (by omega) (by omega) dX12_best_49 (by decide) (fun c_49 => ?_) (fun c_49 => ?_)
                · refine go_iincI (a := (ka : Int)) (n := 1) (k0 := 3) (lv' := [(0, .ref mb), (1, rj_i m), (2, rj_i i), (3, rj_i ((ka : Int) + 1)), (4, rj_i (kb : Int))]) rfl (by decide) rfl dX12_best_78 ?_
                  refine go_goto (tgt := 32) dX12_best_81 (by decide) ?_
                  refine go_sub (lv' := [(0, .ref mb), (1, rj_i m), (2, rj_i i), (3, rj_i ((ka : Int) + 1))]) (by intro q hq; simp only [List.mem_cons, List.not_mem_nil, or_false] at hq ⊢; rcases hq with rfl | rfl | rfl | rfl <;> simp) ?_
                  exact go_eq rfl (lv' := [(0, .ref mb), (1, rj_i m), (2, rj_i i), (3, rj_i ((ka + 1 : Nat) : Int))]) (rj_lk (rj_lk (rj_lk (rj_lj (by omega) rfl)))) rfl rfl (iha (ka + 1) rlb C (by omega) ((show rlb 1 = s from elb1)) ((show rlb 2 = (r 2) from elb2)) ((show rlb 3 0 = (r 3 0) from elb3)) ((show rlb 11 0 = s 4 from elb11)) ((show rlb 17 = (r 17) from elb17)) ((show rlb 18 0 = (r 18 0) from elb18)) ((show rlb 14 = C from elb14)) ((show rlb 12 = A0 from elb12)) ((show rlb 13 = R0 from elb13)) (fun a p a0 hl p0 p1 => hCb a p a0 (by omega) p0 p1))
                · exact absurd c_49 (by omega)
              | succ nb ihb =>
                intro kb rlb C hkb elb1 elb2 elb3 elb11 elb17 elb18 elb14 elb12 elb13 hCb
                refine go_iload dX12_best_41 4 rfl ?_
                refine go_aload_n dX12_best_43 rfl 0 rfl ?_
                refine grm_g1 rfl dX12_best_44 ?_
                refine go_iconst (v := Int32.ofInt 1) dX12_best_47 rfl ?_
                refine grm_l1 (by omega) (by omega) dX12_best_48 ?_
                rw [show rlb 1 = s from elb1]
                refine go_icmp_geI (tgt := 78) (by omega) (by omega) dX12_best_49 (by decide) (fun c_49 => ?_) (fun c_49 => ?_)
                · exact absurd c_49 (by omega)
                · refine go_aload_n dX12_best_52 rfl 0 rfl ?_
                  refine grm_g14 rfl dX12_best_53 ?_
                  refine go_bipush (v := Int32.ofInt 6) dX12_best_56 (by decide) ?_
                  refine go_iload_n dX12_best_58 rfl 3 rfl ?_
                  refine go_mulI dX12_best_59 ?_
                  refine go_iload dX12_best_60 4 rfl ?_
                  refine go_addI dX12_best_62 ?_
                  refine go_aload_n dX12_best_63 rfl 0 rfl ?_
                  refine go_iload_n dX12_best_64 rfl 1 rfl ?_
                  refine go_iload dX12_best_65 4 rfl ?_
                  refine go_iload_n dX12_best_67 rfl 3 rfl ?_
                  refine go_callV (d1 := d - 1) wVX12_178 kX12 rm_ob rfl (by omega) (m_canThrow (by omega) (m := m) (p := (kb : Int)) (q := (ka : Int)) (hs := (show rlb 1 = s from elb1)) (hD := (show rlb 11 0 = s 4 from elb11)) (by omega) hI (by omega) (by omega) (by omega)) rfl (Nat.le_of_ble_eq_true rfl) dX12_best_68 (fun w σ1 hP => ?_)
                  obtain ⟨rfl, r61, hr61, rfl⟩ := hP
                  have q61_1 : r61 1 = s := (hr61 1 (by decide) (by decide)).trans (show rlb 1 = s from elb1)
                  have q61_2 : r61 2 = (r 2) := (hr61 2 (by decide) (by decide)).trans (show rlb 2 = (r 2) from elb2)
                  have q61_3 : r61 3 0 = (r 3 0) := (congrFun (hr61 3 (by decide) (by decide)) 0).trans (show rlb 3 0 = (r 3 0) from elb3)
                  have q61_11 : r61 11 0 = s 4 := (congrFun (hr61 11 (by decide) (by decide)) 0).trans (show rlb 11 0 = s 4 from elb11)
                  have q61_17 : r61 17 = (r 17) := (hr61 17 (by decide) (by decide)).trans (show rlb 17 = (r 17) from elb17)
                  have q61_18 : r61 18 0 = (r 18 0) := (congrFun (hr61 18 (by decide) (by decide)) 0).trans (show rlb 18 0 = (r 18 0) from elb18)
                  have q61_14 : r61 14 = C := (hr61 14 (by decide) (by decide)).trans (show rlb 14 = C from elb14)
                  have q61_12 : r61 12 = A0 := (hr61 12 (by decide) (by decide)).trans (show rlb 12 = A0 from elb12)
                  have q61_13 : r61 13 = R0 := (hr61 13 (by decide) (by decide)).trans (show rlb 13 = R0 from elb13)
                  refine grm_s14 (by omega) (by omega) (rj_b01 _) dX12_best_71 ?_
                  refine go_iincI (a := (kb : Int)) (n := 1) (k0 := 4) (lv' := [(0, .ref mb), (1, rj_i m), (2, rj_i i), (3, rj_i (ka : Int)), (4, rj_i ((kb : Int) + 1))]) rfl (by decide) rfl dX12_best_72 ?_
                  refine go_goto (tgt := 41) dX12_best_75 (by decide) ?_
                  exact go_eq rfl (lv' := [(0, .ref mb), (1, rj_i m), (2, rj_i i), (3, rj_i (ka : Int)), (4, rj_i ((kb + 1 : Nat) : Int))]) (rj_lk (rj_lk (rj_lk (rj_lk (rj_lj (by omega) rfl))))) rfl rfl (ihb (kb + 1) (rm_u r61 14 (rj_up (r61 14) ((6 * (ka : Int)) + (kb : Int)) (rj_b (sp_can s (s 4) m (kb : Int) (ka : Int) = true)))) (rj_up C ((6 * (ka : Int)) + (kb : Int)) (rj_b (sp_can s (s 4) m (kb : Int) (ka : Int) = true))) (by omega) ((show (rm_u r61 14 (rj_up (r61 14) ((6 * (ka : Int)) + (kb : Int)) (rj_b (sp_can s (s 4) m (kb : Int) (ka : Int) = true)))) 1 = s from q61_1)) ((show (rm_u r61 14 (rj_up (r61 14) ((6 * (ka : Int)) + (kb : Int)) (rj_b (sp_can s (s 4) m (kb : Int) (ka : Int) = true)))) 2 = (r 2) from q61_2)) ((show (rm_u r61 14 (rj_up (r61 14) ((6 * (ka : Int)) + (kb : Int)) (rj_b (sp_can s (s 4) m (kb : Int) (ka : Int) = true)))) 3 0 = (r 3 0) from q61_3)) ((show (rm_u r61 14 (rj_up (r61 14) ((6 * (ka : Int)) + (kb : Int)) (rj_b (sp_can s (s 4) m (kb : Int) (ka : Int) = true)))) 11 0 = s 4 from q61_11)) ((show (rm_u r61 14 (rj_up (r61 14) ((6 * (ka : Int)) + (kb : Int)) (rj_b (sp_can s (s 4) m (kb : Int) (ka : Int) = true)))) 17 = (r 17) from q61_17)) ((show (rm_u r61 14 (rj_up (r61 14) ((6 * (ka : Int)) + (kb : Int)) (rj_b (sp_can s (s 4) m (kb : Int) (ka : Int) = true)))) 18 0 = (r 18 0) from q61_18)) ((show (rm_u r61 14 (rj_up (r61 14) ((6 * (ka : Int)) + (kb : Int)) (rj_b (sp_can s (s 4) m (kb : Int) (ka : Int) = true)))) 14 = (rj_up C ((6 * (ka : Int)) + (kb : Int)) (rj_b (sp_can s (s 4) m (kb : Int) (ka : Int) = true))) from (congrArg (fun zz => rj_up zz ((6 * (ka : Int)) + (kb : Int)) (rj_b (sp_can s (s 4) m (kb : Int) (ka : Int) = true))) (show r61 14 = C from q61_14)))) ((show (rm_u r61 14 (rj_up (r61 14) ((6 * (ka : Int)) + (kb : Int)) (rj_b (sp_can s (s 4) m (kb : Int) (ka : Int) = true)))) 12 = A0 from q61_12)) ((show (rm_u r61 14 (rj_up (r61 14) ((6 * (ka : Int)) + (kb : Int)) (rj_b (sp_can s (s 4) m (kb : Int) (ka : Int) = true)))) 13 = R0 from q61_13)) (by rw [Int.natCast_succ]; exact sp_CI_up hCb (by omega) (by omega) (by omega)))
            exact go_eq rfl (lv' := [(0, .ref mb), (1, rj_i m), (2, rj_i i), (3, rj_i (ka : Int)), (4, rj_i ((0 : Nat) : Int))]) (rj_lk (rj_lk (rj_lk (rj_lk (rj_lj (rfl) rfl))))) rfl rfl (loopb (s 1).toNat 0 rla C (by omega) ((show rla 1 = s from ela1)) ((show rla 2 = (r 2) from ela2)) ((show rla 3 0 = (r 3 0) from ela3)) ((show rla 11 0 = s 4 from ela11)) ((show rla 17 = (r 17) from ela17)) ((show rla 18 0 = (r 18 0) from ela18)) ((show rla 14 = C from ela14)) ((show rla 12 = A0 from ela12)) ((show rla 13 = R0 from ela13)) (hCa))
      exact go_eq rfl (lv' := [(0, .ref mb), (1, rj_i m), (2, rj_i i), (3, rj_i ((0 : Nat) : Int))]) (rj_lk (rj_lk (rj_lk (rj_lj (rfl) rfl)))) rfl rfl (loopa (8 : Int).toNat 0 r1 C0 (by omega) ((show r1 1 = s from q1_1)) ((show r1 2 = (r 2) from q1_2)) ((show r1 3 0 = (r 3 0) from q1_3)) ((show r1 11 0 = s 4 from q1_11)) ((show r1 17 = (r 17) from q1_17)) ((show r1 18 0 = (r 18 0) from q1_18)) ((show r1 14 = C0 from hC0.symm)) ((show r1 12 = A0 from hA0.symm)) ((show r1 13 = R0 from hR0.symm)) (fun a p a0 hl p0 p1 => absurd hl (by omega)))
    · refine go_iconst (v := Int32.ofInt (-1)) dX12_best_18 rfl ?_
      refine go_retI rfl rfl ?_ dX12_best_19
      exact ⟨rj_vi (by unfold sp_bestF; rw [if_neg (by omega)]), r, ⟨(show r 1 = s from hs), (show r 2 = (r 2) from rfl), (show r 3 0 = (r 3 0) from rfl), (show r 17 = (r 17) from rfl), (show r 18 0 = (r 18 0) from rfl)⟩, rfl⟩
