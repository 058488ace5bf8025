/-! what depends on what -/
theorem sp_zs_ag {b b' : Int → Int} {sort off : Int} {s s' : Int → Int} (hb : b' = b) : ∀ n : Nat, (∀ k : Nat, k < n → s' (off + (k : Int)) = s (off + (k : Int))) → sp_zs b' sort s' off n = sp_zs b sort s off n
  | 0, _ => rfl
  | n + 1, h => by rw [sp_zs, sp_zs, sp_zs_ag hb n (fun k hk => h k (by omega)), h n (by omega), hb]
theorem sp_so_ag {s s' : Int → Int} {D sort m p q : Int} (h7 : s' 7 = s 7) (hb : -1 ≤ s 7 ∧ s 7 ≤ 4) (hst : ∀ j : Int, 284 ≤ j → j < 999 → s' j = s j) (hn : 0 ≤ sp_tells s 294 0 ∧ sp_tells s 294 0 ≤ 140) (hm : m = 99 ∨ s' (148 + m) = s (148 + m)) : sp_so s' D sort m p q = sp_so s D sort m p q := by
  have ht : sp_tells s' 294 0 = sp_tells s 294 0 := by
    unfold sp_tells; rw [h7]
    split
    · rfl
    · exact hst _ (by omega) (by omega)
  have hB : sp_b s' D m p q = sp_b s D m p q := by
    funext j; unfold sp_b
    by_cases h99 : m = 99
    · simp [h99]
    · rw [hm.resolve_left h99]
  unfold sp_so
  rw [ht, h7, sp_zs_ag hB]
  intro k hk
  have hk2 : s 7 ≠ -1 := fun q => by
    have : sp_tells s 294 0 = 0 := by unfold sp_tells; rw [if_pos q]
    rw [this] at hk; simp at hk
  exact hst _ (by omega) (by omega)
theorem sp_may_ag {s s' : Int → Int} {m p : Int} (h : ∀ j : Int, 130 ≤ j → j < 190 → s' j = s j) (hm : 0 ≤ m ∧ m < 6) (hp : 0 ≤ p ∧ p < 6) : sp_may s' m p = sp_may s m p := by
  unfold sp_may
  rw [h (166 + m) (by omega) (by omega), h (136 + m) (by omega) (by omega), h (142 + m) (by omega) (by omega), h (130 + m) (by omega) (by omega), h (172 + p) (by omega) (by omega), h (178 + p) (by omega) (by omega)]
theorem sp_opn_ag {s s' : Int → Int} {x y hi u v lo : Int} (h : ∀ j : Int, 196 ≤ j → j < 236 → s' j = s j) : ∀ n : Nat, n ≤ 8 → sp_opn s' x y hi u v lo n = sp_opn s x y hi u v lo n
  | 0, _ => rfl
  | n + 1, hn => by
    rw [sp_opn, sp_opn, sp_opn_ag h n (by omega)]
    have e : sp_btw s' (n : Int) x y hi u v lo = sp_btw s (n : Int) x y hi u v lo := by
      unfold sp_btw
      rw [h (220 + (n : Int)) (by omega) (by omega), h (204 + (n : Int)) (by omega) (by omega), h (212 + (n : Int)) (by omega) (by omega), h (196 + (n : Int)) (by omega) (by omega), h (228 + (n : Int)) (by omega) (by omega)]
    rw [show decide (sp_btw s' (n : Int) x y hi u v lo) = decide (sp_btw s (n : Int) x y hi u v lo) from decide_eq_decide.mpr (by rw [e])]
theorem sp_open_ag {s s' : Int → Int} {x y hi u v lo : Int} (h : ∀ j : Int, 196 ≤ j → j < 236 → s' j = s j) (h2 : s' 2 = s 2) (hb : 0 ≤ s 2 ∧ s 2 ≤ 8) : sp_open s' x y hi u v lo = sp_open s x y hi u v lo := by
  unfold sp_open
  rw [h2, sp_opn_ag h _ (by omega)]
theorem sp_free_ag {s s' : Int → Int} {m p : Int} (h : ∀ j : Int, 130 ≤ j → j < 190 → s' j = s j) (hw : ∀ j : Int, 196 ≤ j → j < 236 → s' j = s j) (h2 : s' 2 = s 2) (hb : 0 ≤ s 2 ∧ s 2 ≤ 8) (hm : 0 ≤ m ∧ m < 6) (hp : 0 ≤ p ∧ p < 6) : sp_free s' m p = sp_free s m p := by
  unfold sp_free
  rw [h (136 + m) (by omega) (by omega), h (142 + m) (by omega) (by omega), h (148 + m) (by omega) (by omega), h (172 + p) (by omega) (by omega), h (178 + p) (by omega) (by omega), sp_open_ag hw h2 hb]
/-- all but snow and the plan is the same -/
def sp_like (s s' : Int → Int) : Prop := ∀ j : Int, 0 ≤ j → j < 999 → ¬ (190 ≤ j ∧ j < 196) → ¬ (236 ≤ j ∧ j < 284) → ¬ (4 ≤ j ∧ j ≤ 6) → ¬ (8 ≤ j ∧ j < 130) → s' j = s j
theorem sp_can_ag {s s' : Int → Int} {D m p q : Int} (h : sp_like s s') (hI : sp_I s) (hm : 0 ≤ m ∧ m < 6) (hp : 0 ≤ p ∧ p < 6) : sp_can s' D m p q = sp_can s D m p q := by
  obtain ⟨⟨h0, h1, h2, h3, h4, h5, h6, h7⟩, hM, hP, hW, hL, hV⟩ := hI
  obtain ⟨v1, v2, v3, v4⟩ := id hV
  have e7 : s' 7 = s 7 := h 7 (by omega) (by omega) (by omega) (by omega) (by omega) (by omega)
  have e2 : s' 2 = s 2 := h 2 (by omega) (by omega) (by omega) (by omega) (by omega) (by omega)
  have es : ∀ j : Int, 284 ≤ j → j < 999 → s' j = s j := fun j a b => h j (by omega) b (by omega) (by omega) (by omega) (by omega)
  have em : s' (148 + m) = s (148 + m) := h _ (by omega) (by omega) (by omega) (by omega) (by omega) (by omega)
  have e3 : ∀ j : Int, 130 ≤ j → j < 190 → s' j = s j := fun j a b => h j (by omega) (by omega) (by omega) (by omega) (by omega) (by omega)
  have e4 : ∀ j : Int, 196 ≤ j → j < 236 → s' j = s j := fun j a b => h j (by omega) (by omega) (by omega) (by omega) (by omega) (by omega)
  unfold sp_can
  rw [sp_so_ag e7 h7 es v1 (Or.inr em), sp_so_ag e7 h7 es v1 (Or.inr em), sp_may_ag e3 hm hp, sp_free_ag e3 e4 e2 h2 hm hp]
theorem sp_light_ag {s s' : Int → Int} {m : Int} (h : sp_like s s') (hm : 0 ≤ m ∧ m < 6) : sp_light s' m = sp_light s m := by
  unfold sp_light
  rw [h (130 + m) (by omega) (by omega) (by omega) (by omega) (by omega) (by omega), h (154 + m) (by omega) (by omega) (by omega) (by omega) (by omega) (by omega)]
