/-! WHAT HOLDS OF A ROW; setters keep it -/
/-- what holds of the reference's row -/
def sp_J (s : Int → Int) : Prop := sp_I s ∧ sp_IT s ∧ (0 ≤ s 8 ∧ s 8 ≤ 6) ∧ (0 < s 5 → 1 ≤ s 8) ∧ (∀ j : Int, 0 ≤ j → j < s 6 → 0 ≤ s (10 + j) ∧ s (10 + j) ≤ 255) ∧ s 7 < s 3 ∧ sp_IO s
section PRE
variable {s S : Int → Int}
theorem sp_IM_ag (h : sp_IM s) (h0 : s 0 ≤ 6) (e : ∀ j : Int, j = 0 ∨ (130 ≤ j ∧ j < 172) → S j = s j) : sp_IM S := by
  intro m m0 m1
  rw [e 0 (Or.inl rfl)] at m1
  rw [e (130 + m) (by omega), e (136 + m) (by omega), e (142 + m) (by omega), e (148 + m) (by omega), e (154 + m) (by omega), e (160 + m) (by omega), e (166 + m) (by omega)]
  exact h m m0 m1
theorem sp_IP_ag (h : sp_IP s) (h1 : s 1 ≤ 6) (e : ∀ j : Int, j = 1 ∨ (172 ≤ j ∧ j < 196) → S j = s j) : sp_IP S := by
  intro p p0 p1
  rw [e 1 (Or.inl rfl)] at p1
  rw [e (172 + p) (by omega), e (178 + p) (by omega), e (184 + p) (by omega), e (190 + p) (by omega)]
  exact h p p0 p1
theorem sp_IW_ag (h : sp_IW s) (h2 : s 2 ≤ 8) (e : ∀ j : Int, j = 2 ∨ (196 ≤ j ∧ j < 236) → S j = s j) : sp_IW S := by
  intro p p0 p1
  rw [e 2 (Or.inl rfl)] at p1
  rw [e (196 + p) (by omega), e (204 + p) (by omega), e (212 + p) (by omega), e (220 + p) (by omega), e (228 + p) (by omega)]
  exact h p p0 p1
theorem sp_IL_ag (h : sp_IL s) (h1 : s 1 ≤ S 1) (e : ∀ j : Int, (236 ≤ j ∧ j < 284) → S j = s j) : sp_IL S := by
  intro m q m0 m1 q0 q1
  rw [e _ (by omega)]
  have := h m q m0 m1 q0 q1
  omega
theorem sp_IV_ag2 (h : sp_IV s) (e7 : S 7 = s 7) (ht : s 7 ≠ -1 → S (284 + s 7) = s (284 + s 7) ∧ S (289 + s 7) = s (289 + s 7) ∧ S (294 + s 7) = s (294 + s 7)) (e : s 7 ≠ -1 → ∀ i : Int, 0 ≤ i → i < 140 → S (299 + 140 * s 7 + i) = s (299 + 140 * s 7 + i)) : sp_IV S := by
  obtain ⟨v1, v2, v3, v4⟩ := h
  have t1 : sp_tells S 284 0 = sp_tells s 284 0 := by
    unfold sp_tells; rw [e7]; split
    · rfl
    · exact (ht (by assumption)).1
  have t2 : sp_tells S 289 9 = sp_tells s 289 9 := by
    unfold sp_tells; rw [e7]; split
    · rfl
    · exact (ht (by assumption)).2.1
  have t3 : sp_tells S 294 0 = sp_tells s 294 0 := by
    unfold sp_tells; rw [e7]; split
    · rfl
    · exact (ht (by assumption)).2.2
  refine ⟨by rw [t3]; exact v1, by rw [t1]; exact v2, by rw [t2]; exact v3, fun n hn => ?_⟩
  rw [t3] at hn
  have hk : s 7 ≠ -1 := fun q => by
    have : sp_tells s 294 0 = 0 := by unfold sp_tells; rw [if_pos q]
    rw [this] at hn; simp at hn
  rw [e7, e hk n (by omega) (by omega), sp_ht_ag n (fun k hk2 => e hk k (by omega) (by omega))]
  exact v4 n hn
theorem sp_J_mk (h : sp_J s) (hC : sp_IC S) (hM : sp_IM S) (hP : sp_IP S) (hW : sp_IW S) (hL : sp_IL S) (hV : ∀ j : Int, (j = 7 ∨ (284 ≤ j ∧ j < 999)) → S j = s j) (hT : ∀ j : Int, 999 ≤ j → j < 1029 → S j = s j) (h8 : S 8 = s 8) (h5 : S 5 = s 5) (hB : ∀ j : Int, 0 ≤ j → j < S 6 → 0 ≤ S (10 + j) ∧ S (10 + j) ≤ 255) (h3 : S 3 = s 3) (hO : ∀ j : Int, ¬ (0 ≤ j ∧ j < 1029) → S j = s j) : sp_J S := by
  obtain ⟨⟨⟨z0, z1, z2, z3, z4, z5, z6, z7⟩, a2, a3, a4, a5, a6⟩, b1, b2, b3, b4, b5, b6⟩ := h
  refine ⟨⟨hC, hM, hP, hW, hL, sp_IV_ag2 a6 (hV 7 (Or.inl rfl)) (fun q => ⟨hV _ (by omega), hV _ (by omega), hV _ (by omega)⟩) (fun q i i0 i1 => hV _ (by omega))⟩, fun k a k0 k1 a0 a1 => ?_, by rw [h8]; exact b2, by rw [h5, h8]; exact b3, hB, by rw [hV 7 (Or.inl rfl), h3]; exact b5, fun j hj => by rw [hO j hj]; exact b6 j hj⟩
  rw [hT _ (by omega) (by omega)]
  exact b1 k a k0 k1 a0 a1
theorem J_mir {kd pt mk : Int} (h : sp_J s) : sp_J (sp_mirS s kd pt mk) := by
  unfold sp_mirS
  split
  · rename_i hc
    obtain ⟨⟨⟨h0, h1, h2, h3, h4, h5, h6, h7⟩, hM, hP, hW, hL, hV⟩, b1, b2, b3, b4, b5, b6⟩ := id h
    have E : ∀ j : Int, j ≠ 0 → ¬ (130 ≤ j ∧ j < 172) → sp_mirU s kd pt mk j = s j := fun j a b => by
      unfold sp_mirU
      rw [rj_up_ne _ _ a, rj_up_ne _ _ (by omega), rj_up_ne _ _ (by omega), rj_up_ne _ _ (by omega), rj_up_ne _ _ (by omega), rj_up_ne _ _ (by omega), rj_up_ne _ _ (by omega), rj_up_ne _ _ (by omega)]
    have E0 : sp_mirU s kd pt mk 0 = s 0 + 1 := rj_up_eq _ _ _
    have e : ∀ j : Int, j ≠ 0 → (j < 130 ∨ 172 ≤ j) → sp_mirU s kd pt mk j = s j := fun j a b => E j a (by omega)
    refine sp_J_mk h ⟨by rw [E0]; omega, by rw [e 1 (by omega) (by omega)]; exact h1, by rw [e 2 (by omega) (by omega)]; exact h2, by rw [e 3 (by omega) (by omega)]; exact h3, by rw [e 4 (by omega) (by omega)]; exact h4, by rw [e 5 (by omega) (by omega)]; exact h5, by rw [e 6 (by omega) (by omega)]; exact h6, by rw [e 7 (by omega) (by omega)]; exact h7⟩ (fun m m0 m1 => ?_) (sp_IP_ag hP h1.2 (fun j hj => e j (by omega) (by omega))) (sp_IW_ag hW h2.2 (fun j hj => e j (by omega) (by omega))) (sp_IL_ag hL (by rw [e 1 (by omega) (by omega)]; omega) (fun j hj => e j (by omega) (by omega))) (fun j hj => e j (by omega) (by omega)) (fun j a b => e j (by omega) (by omega)) (e 8 (by omega) (by omega)) (e 5 (by omega) (by omega)) (fun j a b => by rw [e 6 (by omega) (by omega)] at b; rw [e _ (by omega) (by omega)]; exact b4 j a b) (e 3 (by omega) (by omega)) (fun j hj => e j (by omega) (by omega))
    rw [E0] at m1
    by_cases hm : m = s 0
    · subst hm
      unfold sp_mirU sp_at
      rw [rj_up_ne _ _ (show 130 + s 0 ≠ 0 by omega), rj_up_ne _ _ (show 130 + s 0 ≠ 166 + s 0 by omega), rj_up_ne _ _ (show 130 + s 0 ≠ 160 + s 0 by omega), rj_up_ne _ _ (show 130 + s 0 ≠ 154 + s 0 by omega), rj_up_ne _ _ (show 130 + s 0 ≠ 148 + s 0 by omega), rj_up_ne _ _ (show 130 + s 0 ≠ 142 + s 0 by omega), rj_up_ne _ _ (show 130 + s 0 ≠ 136 + s 0 by omega), rj_up_eq,
        rj_up_ne _ _ (show 136 + s 0 ≠ 0 by omega), rj_up_ne _ _ (show 136 + s 0 ≠ 166 + s 0 by omega), rj_up_ne _ _ (show 136 + s 0 ≠ 160 + s 0 by omega), rj_up_ne _ _ (show 136 + s 0 ≠ 154 + s 0 by omega), rj_up_ne _ _ (show 136 + s 0 ≠ 148 + s 0 by omega), rj_up_ne _ _ (show 136 + s 0 ≠ 142 + s 0 by omega), rj_up_eq,
        rj_up_ne _ _ (show 142 + s 0 ≠ 0 by omega), rj_up_ne _ _ (show 142 + s 0 ≠ 166 + s 0 by omega), rj_up_ne _ _ (show 142 + s 0 ≠ 160 + s 0 by omega), rj_up_ne _ _ (show 142 + s 0 ≠ 154 + s 0 by omega), rj_up_ne _ _ (show 142 + s 0 ≠ 148 + s 0 by omega), rj_up_eq,
        rj_up_ne _ _ (show 148 + s 0 ≠ 0 by omega), rj_up_ne _ _ (show 148 + s 0 ≠ 166 + s 0 by omega), rj_up_ne _ _ (show 148 + s 0 ≠ 160 + s 0 by omega), rj_up_ne _ _ (show 148 + s 0 ≠ 154 + s 0 by omega), rj_up_eq,
        rj_up_ne _ _ (show 154 + s 0 ≠ 0 by omega), rj_up_ne _ _ (show 154 + s 0 ≠ 166 + s 0 by omega), rj_up_ne _ _ (show 154 + s 0 ≠ 160 + s 0 by omega), rj_up_eq,
        rj_up_ne _ _ (show 160 + s 0 ≠ 0 by omega), rj_up_ne _ _ (show 160 + s 0 ≠ 166 + s 0 by omega), rj_up_eq,
        rj_up_ne _ _ (show 166 + s 0 ≠ 0 by omega), rj_up_eq]
      omega
    · have em : ∀ b : Int, (b = 130 ∨ b = 136 ∨ b = 142 ∨ b = 148 ∨ b = 154 ∨ b = 160 ∨ b = 166) → sp_mirU s kd pt mk (b + m) = s (b + m) := fun b hb => by
        unfold sp_mirU
        rw [rj_up_ne _ _ (by omega), rj_up_ne _ _ (by omega), rj_up_ne _ _ (by omega), rj_up_ne _ _ (by omega), rj_up_ne _ _ (by omega), rj_up_ne _ _ (by omega), rj_up_ne _ _ (by omega), rj_up_ne _ _ (by omega)]
      rw [em 130 (by omega), em 136 (by omega), em 142 (by omega), em 148 (by omega), em 154 (by omega), em 160 (by omega), em 166 (by omega)]
      exact hM m m0 (by omega)
  · exact h
theorem J_pat {pt w sn : Int} (h : sp_J s) : sp_J (sp_patS s pt w sn) := by
  unfold sp_patS
  split
  · rename_i hc
    obtain ⟨⟨⟨h0, h1, h2, h3, h4, h5, h6, h7⟩, hM, hP, hW, hL, hV⟩, b1, b2, b3, b4, b5, b6⟩ := id h
    have e : ∀ j : Int, j ≠ 1 → (j < 172 ∨ 196 ≤ j) → sp_patU s pt w sn j = s j := fun j a b => by
      unfold sp_patU
      rw [rj_up_ne _ _ a, rj_up_ne _ _ (by omega), rj_up_ne _ _ (by omega), rj_up_ne _ _ (by omega), rj_up_ne _ _ (by omega)]
    have E0 : sp_patU s pt w sn 1 = s 1 + 1 := rj_up_eq _ _ _
    refine sp_J_mk h ⟨by rw [e 0 (by omega) (by omega)]; exact h0, by rw [E0]; omega, by rw [e 2 (by omega) (by omega)]; exact h2, by rw [e 3 (by omega) (by omega)]; exact h3, by rw [e 4 (by omega) (by omega)]; exact h4, by rw [e 5 (by omega) (by omega)]; exact h5, by rw [e 6 (by omega) (by omega)]; exact h6, by rw [e 7 (by omega) (by omega)]; exact h7⟩ (sp_IM_ag hM h0.2 (fun j hj => e j (by omega) (by omega))) (fun m m0 m1 => ?_) (sp_IW_ag hW h2.2 (fun j hj => e j (by omega) (by omega))) (sp_IL_ag hL (by rw [E0]; omega) (fun j hj => e j (by omega) (by omega))) (fun j hj => e j (by omega) (by omega)) (fun j a b => e j (by omega) (by omega)) (e 8 (by omega) (by omega)) (e 5 (by omega) (by omega)) (fun j a b => by rw [e 6 (by omega) (by omega)] at b; rw [e _ (by omega) (by omega)]; exact b4 j a b) (e 3 (by omega) (by omega)) (fun j hj => e j (by omega) (by omega))
    rw [E0] at m1
    by_cases hm : m = s 1
    · subst hm
      unfold sp_patU sp_at
      rw [rj_up_ne _ _ (show 172 + s 1 ≠ 1 by omega), rj_up_ne _ _ (show 172 + s 1 ≠ 190 + s 1 by omega), rj_up_ne _ _ (show 172 + s 1 ≠ 184 + s 1 by omega), rj_up_ne _ _ (show 172 + s 1 ≠ 178 + s 1 by omega), rj_up_eq,
        rj_up_ne _ _ (show 178 + s 1 ≠ 1 by omega), rj_up_ne _ _ (show 178 + s 1 ≠ 190 + s 1 by omega), rj_up_ne _ _ (show 178 + s 1 ≠ 184 + s 1 by omega), rj_up_eq,
        rj_up_ne _ _ (show 184 + s 1 ≠ 1 by omega), rj_up_ne _ _ (show 184 + s 1 ≠ 190 + s 1 by omega), rj_up_eq,
        rj_up_ne _ _ (show 190 + s 1 ≠ 1 by omega), rj_up_eq]
      omega
    · have em : ∀ b : Int, (b = 172 ∨ b = 178 ∨ b = 184 ∨ b = 190) → sp_patU s pt w sn (b + m) = s (b + m) := fun b hb => by
        unfold sp_patU
        rw [rj_up_ne _ _ (by omega), rj_up_ne _ _ (by omega), rj_up_ne _ _ (by omega), rj_up_ne _ _ (by omega), rj_up_ne _ _ (by omega)]
      rw [em 172 (by omega), em 178 (by omega), em 184 (by omega), em 190 (by omega)]
      exact hP m m0 (by omega)
  · exact h
theorem J_wal {pt to w : Int} (h : sp_J s) : sp_J (sp_walS s pt to w) := by
  unfold sp_walS
  split
  · rename_i hc
    obtain ⟨⟨⟨h0, h1, h2, h3, h4, h5, h6, h7⟩, hM, hP, hW, hL, hV⟩, b1, b2, b3, b4, b5, b6⟩ := id h
    have e : ∀ j : Int, j ≠ 2 → (j < 196 ∨ 236 ≤ j) → sp_walU s pt to w j = s j := fun j a b => by
      unfold sp_walU
      rw [rj_up_ne _ _ a, rj_up_ne _ _ (by omega), rj_up_ne _ _ (by omega), rj_up_ne _ _ (by omega), rj_up_ne _ _ (by omega), rj_up_ne _ _ (by omega)]
    have E0 : sp_walU s pt to w 2 = s 2 + 1 := rj_up_eq _ _ _
    refine sp_J_mk h ⟨by rw [e 0 (by omega) (by omega)]; exact h0, by rw [e 1 (by omega) (by omega)]; exact h1, by rw [E0]; omega, by rw [e 3 (by omega) (by omega)]; exact h3, by rw [e 4 (by omega) (by omega)]; exact h4, by rw [e 5 (by omega) (by omega)]; exact h5, by rw [e 6 (by omega) (by omega)]; exact h6, by rw [e 7 (by omega) (by omega)]; exact h7⟩ (sp_IM_ag hM h0.2 (fun j hj => e j (by omega) (by omega))) (sp_IP_ag hP h1.2 (fun j hj => e j (by omega) (by omega))) (fun m m0 m1 => ?_) (sp_IL_ag hL (by rw [e 1 (by omega) (by omega)]; omega) (fun j hj => e j (by omega) (by omega))) (fun j hj => e j (by omega) (by omega)) (fun j a b => e j (by omega) (by omega)) (e 8 (by omega) (by omega)) (e 5 (by omega) (by omega)) (fun j a b => by rw [e 6 (by omega) (by omega)] at b; rw [e _ (by omega) (by omega)]; exact b4 j a b) (e 3 (by omega) (by omega)) (fun j hj => e j (by omega) (by omega))
    rw [E0] at m1
    by_cases hm : m = s 2
    · subst hm
      unfold sp_walU sp_at
      rw [rj_up_ne _ _ (show 196 + s 2 ≠ 2 by omega), rj_up_ne _ _ (show 196 + s 2 ≠ 228 + s 2 by omega), rj_up_ne _ _ (show 196 + s 2 ≠ 220 + s 2 by omega), rj_up_ne _ _ (show 196 + s 2 ≠ 212 + s 2 by omega), rj_up_ne _ _ (show 196 + s 2 ≠ 204 + s 2 by omega), rj_up_eq,
        rj_up_ne _ _ (show 204 + s 2 ≠ 2 by omega), rj_up_ne _ _ (show 204 + s 2 ≠ 228 + s 2 by omega), rj_up_ne _ _ (show 204 + s 2 ≠ 220 + s 2 by omega), rj_up_ne _ _ (show 204 + s 2 ≠ 212 + s 2 by omega), rj_up_eq,
        rj_up_ne _ _ (show 212 + s 2 ≠ 2 by omega), rj_up_ne _ _ (show 212 + s 2 ≠ 228 + s 2 by omega), rj_up_ne _ _ (show 212 + s 2 ≠ 220 + s 2 by omega), rj_up_eq,
        rj_up_ne _ _ (show 220 + s 2 ≠ 2 by omega), rj_up_ne _ _ (show 220 + s 2 ≠ 228 + s 2 by omega), rj_up_eq,
        rj_up_ne _ _ (show 228 + s 2 ≠ 2 by omega), rj_up_eq]
      omega
    · have em : ∀ b : Int, (b = 196 ∨ b = 204 ∨ b = 212 ∨ b = 220 ∨ b = 228) → sp_walU s pt to w (b + m) = s (b + m) := fun b hb => by
        unfold sp_walU
        rw [rj_up_ne _ _ (by omega), rj_up_ne _ _ (by omega), rj_up_ne _ _ (by omega), rj_up_ne _ _ (by omega), rj_up_ne _ _ (by omega), rj_up_ne _ _ (by omega)]
      rw [em 196 (by omega), em 204 (by omega), em 212 (by omega), em 220 (by omega), em 228 (by omega)]
      exact hW m m0 (by omega)
  · exact h
theorem J_pln {m q p : Int} (h : sp_J s) : sp_J (sp_planS s m q p) := by
  unfold sp_planS
  split
  · rename_i hc
    obtain ⟨⟨⟨h0, h1, h2, h3, h4, h5, h6, h7⟩, hM, hP, hW, hL, hV⟩, b1, b2, b3, b4, b5, b6⟩ := id h
    have e : ∀ j : Int, (j < 236 ∨ 284 ≤ j) → rj_up s (236 + 8 * m + q) p j = s j := fun j a => rj_up_ne _ _ (by omega)
    refine sp_J_mk h ⟨by rw [e 0 (by omega)]; exact h0, by rw [e 1 (by omega)]; exact h1, by rw [e 2 (by omega)]; exact h2, by rw [e 3 (by omega)]; exact h3, by rw [e 4 (by omega)]; exact h4, by rw [e 5 (by omega)]; exact h5, by rw [e 6 (by omega)]; exact h6, by rw [e 7 (by omega)]; exact h7⟩ (sp_IM_ag hM h0.2 (fun j hj => e j (by omega))) (sp_IP_ag hP h1.2 (fun j hj => e j (by omega))) (sp_IW_ag hW h2.2 (fun j hj => e j (by omega))) (fun m' q' m0 m1 q0 q1 => ?_) (fun j hj => e j (by omega)) (fun j a b => e j (by omega)) (e 8 (by omega)) (e 5 (by omega)) (fun j a b => by rw [e 6 (by omega)] at b; rw [e _ (by omega)]; exact b4 j a b) (e 3 (by omega)) (fun j hj => e j (by omega))
    rw [e 1 (by omega)]
    by_cases hj : 236 + 8 * m' + q' = 236 + 8 * m + q
    · rw [hj, rj_up_eq]; omega
    · rw [rj_up_ne _ _ hj]; exact hL m' q' m0 m1 q0 q1
  · exact h
theorem J_clr (h : sp_J s) : sp_J (rj_up s 5 0) := by
  obtain ⟨⟨⟨h0, h1, h2, h3, h4, h5, h6, h7⟩, hM, hP, hW, hL, hV⟩, b1, b2, b3, b4, b5, b6⟩ := id h
  have e : ∀ j : Int, j ≠ 5 → rj_up s 5 0 j = s j := fun j a => rj_up_ne _ _ a
  have e5 : rj_up s 5 0 5 = 0 := rj_up_eq _ _ _
  refine ⟨⟨⟨by rw [e 0 (by omega)]; exact h0, by rw [e 1 (by omega)]; exact h1, by rw [e 2 (by omega)]; exact h2, by rw [e 3 (by omega)]; exact h3, by rw [e 4 (by omega)]; exact h4, by rw [e5]; omega, by rw [e 6 (by omega)]; exact h6, by rw [e 7 (by omega)]; exact h7⟩, sp_IM_ag hM h0.2 (fun j hj => e j (by omega)), sp_IP_ag hP h1.2 (fun j hj => e j (by omega)), sp_IW_ag hW h2.2 (fun j hj => e j (by omega)), sp_IL_ag hL (by rw [e 1 (by omega)]; omega) (fun j hj => e j (by omega)), sp_IV_ag2 hV (e 7 (by omega)) (fun q => ⟨e _ (by omega), e _ (by omega), e _ (by omega)⟩) (fun q i i0 i1 => e _ (by omega))⟩, fun k a k0 k1 a0 a1 => by rw [e _ (by omega)]; exact b1 k a k0 k1 a0 a1, by rw [e 8 (by omega)]; exact b2, fun q => by rw [e5] at q; omega, fun j a b => by rw [e 6 (by omega)] at b; rw [e _ (by omega)]; exact b4 j a b, by rw [e 7 (by omega), e 3 (by omega)]; exact b5, fun j hj => by rw [e j (by omega)]; exact b6 j hj⟩
theorem J_fdS {w : Int64} {c9 : Int} (h : sp_J s) : ∀ n : Nat, s 6 + (n : Int) ≤ 120 → sp_J (sp_fdS s w c9 n)
  | 0, _ => h
  | n + 1, hn => by
    have ih := J_fdS (w := w) (c9 := c9) h n (by omega)
    have h6n := sp_fdS_6 s w c9 n
    have hs6 : 0 ≤ s 6 := h.1.1.2.2.2.2.2.2.1.1
    show sp_J (rj_up (rj_up (sp_fdS s w c9 n) (10 + sp_fdS s w c9 n 6) (sp_fb w (c9 - 1 - (n : Int)))) 6 (sp_fdS s w c9 n 6 + 1))
    generalize sp_fdS s w c9 n = t at ih h6n ⊢
    obtain ⟨⟨⟨h0, h1, h2, h3, h4, h5, h6, h7⟩, hM, hP, hW, hL, hV⟩, b1, b2, b3, b4, b5, b6⟩ := id ih
    have hb := sp_fb_b w (c9 - 1 - (n : Int))
    have e : ∀ j : Int, j ≠ 6 → (j < 10 ∨ 130 ≤ j) → rj_up (rj_up t (10 + t 6) (sp_fb w (c9 - 1 - (n : Int)))) 6 (t 6 + 1) j = t j := fun j a b => by rw [rj_up_ne _ _ a, rj_up_ne _ _ (by omega)]
    have e6 : rj_up (rj_up t (10 + t 6) (sp_fb w (c9 - 1 - (n : Int)))) 6 (t 6 + 1) 6 = t 6 + 1 := rj_up_eq _ _ _
    refine sp_J_mk ih ⟨by rw [e 0 (by omega) (by omega)]; exact h0, by rw [e 1 (by omega) (by omega)]; exact h1, by rw [e 2 (by omega) (by omega)]; exact h2, by rw [e 3 (by omega) (by omega)]; exact h3, by rw [e 4 (by omega) (by omega)]; exact h4, by rw [e 5 (by omega) (by omega)]; exact h5, by rw [e6]; omega, by rw [e 7 (by omega) (by omega)]; exact h7⟩ (sp_IM_ag hM h0.2 (fun j hj => e j (by omega) (by omega))) (sp_IP_ag hP h1.2 (fun j hj => e j (by omega) (by omega))) (sp_IW_ag hW h2.2 (fun j hj => e j (by omega) (by omega))) (sp_IL_ag hL (by rw [e 1 (by omega) (by omega)]; omega) (fun j hj => e j (by omega) (by omega))) (fun j hj => e j (by omega) (by omega)) (fun j a b => e j (by omega) (by omega)) (e 8 (by omega) (by omega)) (e 5 (by omega) (by omega)) (fun j a b => ?_) (e 3 (by omega) (by omega)) (fun j hj => e j (by omega) (by omega))
    rw [e6] at b
    rw [rj_up_ne _ _ (by omega)]
    by_cases hj : 10 + j = 10 + t 6
    · rw [hj, rj_up_eq]; exact hb
    · rw [rj_up_ne _ _ hj]; exact b4 j a (by omega)
theorem J_fed {w : Int64} {c9 : Int} (h : sp_J s) : sp_J (sp_feedS s w c9) := by
  unfold sp_feedS
  split
  · exact J_fdS h _ (by omega)
  · exact h
theorem J_day (h : sp_J s) : sp_J (sp_dayS s) := by
  unfold sp_dayS
  split
  · exact h
  · rename_i hc
    obtain ⟨⟨⟨h0, h1, h2, h3, h4, h5, h6, h7⟩, -⟩, b1, b2, b3, b4, b5, b6⟩ := id h
    obtain ⟨E, hI⟩ := sp_dayK_ag h.1 (s 1).toNat (by omega)
    generalize sp_dayK s (s 1).toNat = t at E hI ⊢
    obtain ⟨-, hM, hP, hW, hL, hV⟩ := hI
    have e : ∀ j : Int, j ≠ 4 → (j < 190 ∨ 196 ≤ j) → rj_up t 4 (s 4 + 1) j = s j := fun j a b => by rw [rj_up_ne _ _ a]; exact E j b
    have eo : ∀ j : Int, j ≠ 4 → rj_up t 4 (s 4 + 1) j = t j := fun j a => rj_up_ne _ _ a
    exact sp_J_mk h ⟨by rw [e 0 (by omega) (by omega)]; exact h0, by rw [e 1 (by omega) (by omega)]; exact h1, by rw [e 2 (by omega) (by omega)]; exact h2, by rw [e 3 (by omega) (by omega)]; exact h3, by rw [rj_up_eq]; omega, by rw [e 5 (by omega) (by omega)]; exact h5, by rw [e 6 (by omega) (by omega)]; exact h6, by rw [e 7 (by omega) (by omega)]; exact h7⟩ (sp_IM_ag hM (by rw [E 0 (by omega)]; exact h0.2) (fun j hj => eo j (by omega))) (sp_IP_ag hP (by rw [E 1 (by omega)]; exact h1.2) (fun j hj => eo j (by omega))) (sp_IW_ag hW (by rw [E 2 (by omega)]; exact h2.2) (fun j hj => eo j (by omega))) (sp_IL_ag hL (by rw [eo 1 (by omega)]; omega) (fun j hj => eo j (by omega))) (fun j hj => e j (by omega) (by omega)) (fun j a b => e j (by omega) (by omega)) (e 8 (by omega) (by omega)) (e 5 (by omega) (by omega)) (fun j a b => by rw [e 6 (by omega) (by omega)] at b; rw [e _ (by omega) (by omega)]; exact b4 j a b) (e 3 (by omega) (by omega)) (fun j hj => e j (by omega) (by omega))
theorem J_vot {x : Int} (h : sp_J s) : sp_J (sp_voteS s x) := by
  unfold sp_voteS
  split
  · rename_i hc
    obtain ⟨hc1, hc2, hc3⟩ := hc
    obtain ⟨c4, c5⟩ := hc1
    obtain ⟨d1, d2, d3⟩ := hc2
    obtain ⟨⟨⟨h0, h1, h2, h3, h4, h5, h6, h7⟩, hM, hP, hW, hL, hV⟩, b1, b2, b3, b4, b5, b6⟩ := id h
    obtain ⟨n, hn⟩ : ∃ x_, x_ = (s 1).toNat := ⟨_, rfl⟩
    rw [← hn] at d3
    rw [← hn]
    have hn6 : n ≤ 6 := by omega
    have hn1 : (n : Int) = s 1 := by omega
    have ea : ∀ i : Int, (i < 999 + 6 * s 5 ∨ 999 + 6 * s 5 + 6 ≤ i) → sp_vtK s x n i = s i := fun i hi => sp_vtK_ag d3 hn6 hi n (Nat.le_refl _)
    have hv : ∀ m : Nat, m ≤ n → ∀ i : Int, sp_vtK s x m i = s i ∨ (0 ≤ sp_vtK s x m i ∧ sp_vtK s x m i ≤ 5) := fun m => by
      induction m with
      | zero => exact fun _ i => Or.inl rfl
      | succ m ih =>
        intro hm i
        rw [sp_vtK]
        by_cases hi : i = 999 + 6 * s 5 + sp_dg x m
        · rw [hi, rj_up_eq]; exact Or.inr (by omega)
        · rw [rj_up_ne _ _ hi]; exact ih (by omega) i
    obtain ⟨t, ht⟩ : ∃ x_, x_ = sp_vtK s x n := ⟨_, rfl⟩
    have hv2 := hv n (Nat.le_refl _)
    rw [← ht] at ea hv2
    rw [← ht]
    have e : ∀ j : Int, j ≠ 5 → j ≠ 8 → (j < 999 ∨ 1029 ≤ j) → rj_up (rj_up t 8 (s 1)) 5 (s 5 + 1) j = s j := fun j a b c => by rw [rj_up_ne _ _ a, rj_up_ne _ _ b]; exact ea j (by omega)
    have e5 : rj_up (rj_up t 8 (s 1)) 5 (s 5 + 1) 5 = s 5 + 1 := rj_up_eq _ _ _
    have e8 : rj_up (rj_up t 8 (s 1)) 5 (s 5 + 1) 8 = s 1 := by rw [rj_up_ne _ _ (by decide), rj_up_eq]
    refine ⟨⟨⟨by rw [e 0 (by omega) (by omega) (by omega)]; exact h0, by rw [e 1 (by omega) (by omega) (by omega)]; exact h1, by rw [e 2 (by omega) (by omega) (by omega)]; exact h2, by rw [e 3 (by omega) (by omega) (by omega)]; exact h3, by rw [e 4 (by omega) (by omega) (by omega)]; exact h4, by rw [e5]; omega, by rw [e 6 (by omega) (by omega) (by omega)]; exact h6, by rw [e 7 (by omega) (by omega) (by omega)]; exact h7⟩, sp_IM_ag hM h0.2 (fun j hj => e j (by omega) (by omega) (by omega)), sp_IP_ag hP h1.2 (fun j hj => e j (by omega) (by omega) (by omega)), sp_IW_ag hW h2.2 (fun j hj => e j (by omega) (by omega) (by omega)), sp_IL_ag hL (by rw [e 1 (by omega) (by omega) (by omega)]; omega) (fun j hj => e j (by omega) (by omega) (by omega)), sp_IV_ag2 hV (e 7 (by omega) (by omega) (by omega)) (fun q => ⟨e _ (by omega) (by omega) (by omega), e _ (by omega) (by omega) (by omega), e _ (by omega) (by omega) (by omega)⟩) (fun q i i0 i1 => e _ (by omega) (by omega) (by omega))⟩, fun k a k0 k1 a0 a1 => ?_, by rw [e8]; exact h1, fun q => by rw [e8]; omega, fun j a b => by rw [e 6 (by omega) (by omega) (by omega)] at b; rw [e _ (by omega) (by omega) (by omega)]; exact b4 j a b, by rw [e 7 (by omega) (by omega) (by omega), e 3 (by omega) (by omega) (by omega)]; exact b5, fun j hj => by rw [e j (by omega) (by omega) (by omega)]; exact b6 j hj⟩
    rw [rj_up_ne _ _ (by omega), rj_up_ne _ _ (by omega)]
    rcases hv2 (999 + 6 * k + a) with q | q
    · rw [q]; exact b1 k a k0 k1 a0 a1
    · exact q
  · exact h
theorem J_val (h : sp_J s) : sp_J (sp_valS s) := by
  unfold sp_valS
  split
  · exact h
  · rename_i h35
    obtain ⟨hI, b1, b2, b3, b4, b5, b6⟩ := id h
    obtain ⟨⟨h0, h1, h2, h3, h4, h5, h6, h7⟩, hM, hP, hW, hL, hV⟩ := id hI
    obtain ⟨hE, ⟨E3, E7⟩, Ec, Et, En, Ei, hB⟩ := sp_vE_V hI (by omega) b4
    have hTB : sp_TB (fun j => s (10 + j)) (s 6) := b4
    split
    · rename_i hok
      obtain ⟨B1, B2, B3, B4, B5⟩ := id hB
      have hlen : (sp_vC s).2.2.1.length ≤ 120 := by omega
      obtain ⟨S', hS'⟩ : ∃ x_, x_ = rj_up (rj_up (sp_vV s) 3 (s 3 + 1)) 7 (s 3) := ⟨_, rfl⟩
      rw [← hS']
      have F3 : S' 3 = s 3 + 1 := by rw [hS', rj_up_ne _ _ (by decide), rj_up_eq]
      have F7 : S' 7 = s 3 := by rw [hS', rj_up_eq]
      have Fo : ∀ j : Int, j ≠ 3 → j ≠ 7 → S' j = sp_vV s j := fun j a b => by rw [hS', rj_up_ne _ _ b, rj_up_ne _ _ a]
      have e : ∀ j : Int, j ≠ 3 → j ≠ 7 → j ≠ 6 → (j < 284 ∨ 999 ≤ j) → S' j = s j := fun j a b c d => by rw [Fo j a b]; exact hE.2 j c a b (by omega) (by omega) (by omega) (by omega)
      have e6 : S' 6 = 0 := by rw [Fo 6 (by decide) (by decide)]; exact hE.1
      have t1 : ∀ w n : Int, sp_tells S' w n = S' (w + s 3) := fun w n => by unfold sp_tells; rw [F7, if_neg (by omega)]
      have q1 : S' (294 + s 3) = ((sp_vC s).2.2.1.length : Int) := by rw [Fo _ (by omega) (by omega)]; exact En
      have q2 : S' (284 + s 3) = (sp_vC s).2.2.2.1 := by rw [Fo _ (by omega) (by omega)]; exact Ec
      have q3 : S' (289 + s 3) = (sp_vC s).2.2.2.2 := by rw [Fo _ (by omega) (by omega)]; exact Et
      have hvr := rc_vr_of (f := S') (off := 299 + 140 * s 3) (L := (sp_vC s).2.2.1) (g1 := fun _ => 0) (g2 := fun _ => 0) (g3 := fun _ => 0) (fun i hi => by rw [Fo _ (by omega) (by omega)]; exact Ei i hi) (sp_vl_W hTB h6.1 hok.1) hlen (sp_vl_m hTB h6.1 hok.1)
      refine ⟨⟨⟨by rw [e 0 (by omega) (by omega) (by omega) (by omega)]; exact h0, by rw [e 1 (by omega) (by omega) (by omega) (by omega)]; exact h1, by rw [e 2 (by omega) (by omega) (by omega) (by omega)]; exact h2, by rw [F3]; omega, by rw [e 4 (by omega) (by omega) (by omega) (by omega)]; exact h4, by rw [e 5 (by omega) (by omega) (by omega) (by omega)]; exact h5, by rw [e6]; omega, by rw [F7]; omega⟩, sp_IM_ag hM h0.2 (fun j hj => e j (by omega) (by omega) (by omega) (by omega)), sp_IP_ag hP h1.2 (fun j hj => e j (by omega) (by omega) (by omega) (by omega)), sp_IW_ag hW h2.2 (fun j hj => e j (by omega) (by omega) (by omega) (by omega)), sp_IL_ag hL (by rw [e 1 (by omega) (by omega) (by omega) (by omega)]; omega) (fun j hj => e j (by omega) (by omega) (by omega) (by omega)), ?_⟩, fun k a k0 k1 a0 a1 => by rw [e _ (by omega) (by omega) (by omega) (by omega)]; exact b1 k a k0 k1 a0 a1, by rw [e 8 (by omega) (by omega) (by omega) (by omega)]; exact b2, by rw [e 5 (by omega) (by omega) (by omega) (by omega), e 8 (by omega) (by omega) (by omega) (by omega)]; exact b3, fun j a b => by rw [e6] at b; omega, by rw [F7, F3]; omega, fun j hj => by rw [e j (by omega) (by omega) (by omega) (by omega)]; exact b6 j hj⟩
      refine ⟨by rw [t1, q1]; omega, by rw [t1, q2]; omega, by rw [t1, q3]; omega, fun n hn => ?_⟩
      rw [t1, q1, Int.toNat_natCast] at hn
      rw [F7]
      exact hvr.2.2.2.2.2.2.2 n hn
    · have e : ∀ j : Int, j ≠ 6 → (j < 284 ∨ 999 ≤ j) → sp_vV s j = s j := fun j a b => by
        by_cases j3 : j = 3
        · rw [j3]; exact E3
        · by_cases j7 : j = 7
          · rw [j7]; exact E7
          · exact hE.2 j a j3 j7 (by omega) (by omega) (by omega) (by omega)
      exact ⟨⟨⟨by rw [e 0 (by omega) (by omega)]; exact h0, by rw [e 1 (by omega) (by omega)]; exact h1, by rw [e 2 (by omega) (by omega)]; exact h2, by rw [e 3 (by omega) (by omega)]; exact h3, by rw [e 4 (by omega) (by omega)]; exact h4, by rw [e 5 (by omega) (by omega)]; exact h5, by rw [hE.1]; omega, by rw [e 7 (by omega) (by omega)]; exact h7⟩, sp_IM_ag hM h0.2 (fun j hj => e j (by omega) (by omega)), sp_IP_ag hP h1.2 (fun j hj => e j (by omega) (by omega)), sp_IW_ag hW h2.2 (fun j hj => e j (by omega) (by omega)), sp_IL_ag hL (by rw [e 1 (by omega) (by omega)]; omega) (fun j hj => e j (by omega) (by omega)), sp_IV_ag2 hV E7 (fun q => ⟨hE.2 _ (by omega) (by omega) (by omega) (by omega) (by omega) (by omega) (by omega), hE.2 _ (by omega) (by omega) (by omega) (by omega) (by omega) (by omega) (by omega), hE.2 _ (by omega) (by omega) (by omega) (by omega) (by omega) (by omega) (by omega)⟩) (fun q i i0 i1 => hE.2 _ (by omega) (by omega) (by omega) (by omega) (by omega) (by omega) (by omega))⟩, fun k a k0 k1 a0 a1 => by rw [e _ (by omega) (by omega)]; exact b1 k a k0 k1 a0 a1, by rw [e 8 (by omega) (by omega)]; exact b2, by rw [e 5 (by omega) (by omega), e 8 (by omega) (by omega)]; exact b3, fun j a b => by rw [hE.1] at b; omega, by rw [e 7 (by omega) (by omega), e 3 (by omega) (by omega)]; exact b5, fun j hj => by rw [e j (by omega) (by omega)]; exact b6 j hj⟩
theorem J_in : sp_J (sp_in9 48) := by
  have e : ∀ j : Int, j ≠ 7 → (j < 236 ∨ 284 ≤ j) → sp_in9 48 j = 0 := fun j a b => by unfold sp_in9; rw [if_neg a, if_neg (by omega)]
  have e7 : sp_in9 48 7 = -1 := if_pos rfl
  have t1 : ∀ w n : Int, sp_tells (sp_in9 48) w n = n := fun w n => by unfold sp_tells; rw [e7, if_pos rfl]
  refine ⟨⟨⟨by rw [e 0 (by omega) (by omega)]; omega, by rw [e 1 (by omega) (by omega)]; omega, by rw [e 2 (by omega) (by omega)]; omega, by rw [e 3 (by omega) (by omega)]; omega, by rw [e 4 (by omega) (by omega)]; omega, by rw [e 5 (by omega) (by omega)]; omega, by rw [e 6 (by omega) (by omega)]; omega, by rw [e7]; omega⟩, fun m a b => by rw [e 0 (by omega) (by omega)] at b; omega, fun m a b => by rw [e 1 (by omega) (by omega)] at b; omega, fun m a b => by rw [e 2 (by omega) (by omega)] at b; omega, fun m q m0 m1 q0 q1 => ?_, ⟨by rw [t1]; omega, by rw [t1]; omega, by rw [t1]; omega, fun n hn => by rw [t1] at hn; simp at hn⟩⟩, fun k a k0 k1 a0 a1 => by rw [e _ (by omega) (by omega)]; omega, by rw [e 8 (by omega) (by omega)]; omega, fun q => by rw [e 5 (by omega) (by omega)] at q; omega, fun j a b => by rw [e 6 (by omega) (by omega)] at b; omega, by rw [e7, e 3 (by omega) (by omega)]; omega, fun j hj => e j (by omega) (by omega)⟩
  have : sp_in9 48 (236 + 8 * m + q) = -1 := by unfold sp_in9; rw [if_neg (by omega), if_pos (by omega)]
  rw [this, e 1 (by omega) (by omega)]
  omega
end PRE
