/-! THE CLASS: valley, its end -/
theorem sp_cls_m {T : Int → Int} {e : Int} (hT : sp_TB T e) : ∀ (f : Nat) (C : sp_C) (k : Nat), sp_CB 0 e C → (C.1 = true → (lz_w C.2.2.1).length ≤ k) → (sp_cls T e f C).1 = true → (lz_w (sp_cls T e f C).2.2.1).length ≤ k + f
  | 0, C, k, hB, hC, ho => hC ho
  | f + 1, C, k, hB, hC, ho => by
    revert ho
    rw [sp_cls]
    split
    · rename_i hq
      intro ho
      obtain ⟨b1, b2, b3, b4, b5⟩ := id hB
      have hr := sp_hr_b (p := C.2.1) hT (by omega)
      have := sp_cls_m hT f _ (k + 1) (sp_cct_B hB (sp_cla_B hT (by omega) b4 b5)) (fun hx => by
        show (lz_w (C.2.2.1 ++ (sp_cla T e (C.2.1 + 1) C.2.2.2.1 C.2.2.2.2).2.2.1)).length ≤ _
        rw [lz_w_app, List.length_append]
        have h1 := hC hq.1
        have h2 := (sp_cla_W (T := T) (e := e) (p := C.2.1 + 1) (cl := C.2.2.2.1) (tn := C.2.2.2.2) hT (by omega) hx).2
        omega) ho
      omega
    · intro ho
      have := hC ho
      omega
theorem sp_vl_m {T : Int → Int} {e : Int} (hT : sp_TB T e) (he : 0 ≤ e) (ho : (sp_vl T e).1 = true) : (lz_w (sp_vl T e).2.2.1).length ≤ 10 := sp_cls_m hT 9 _ 1 (sp_cla_B hT (by omega) (by omega) (by omega)) (fun h => (sp_cla_W hT (by omega) h).2) ho
theorem rc_sto {X9 : rj_X} {cb vv vk a : Nat} {c : rm_R} {σ : rj_H} {e : va_E} (h : rc_out cb a ∧ a ≠ vv ∧ a ≠ vk) : rj_set (rc_p X9 cb vv vk c σ) a e = rc_p X9 cb vv vk c (rj_set σ a e) := by
  unfold rj_set rc_p
  refine congrArg _ (congrArg _ (funext fun q => ?_))
  show (if q = a then _ else if q = vv then _ else if q = vk then _ else if cb ≤ q ∧ rc_fx (q - cb) = true then _ else _) = (if q = vv then _ else if q = vk then _ else if cb ≤ q ∧ rc_fx (q - cb) = true then _ else if q = a then _ else _)
  by_cases hq : q = a
  · have o := h.1.x
    rw [← hq] at o
    rw [if_pos hq, if_neg (by rw [hq]; exact h.2.1), if_neg (by rw [hq]; exact h.2.2), if_neg o, if_pos hq]
  · rw [if_neg hq, if_neg hq]
/-- the heap with an object that is to be read -/
def rv_h (X9 : rj_X) (σ : rj_H) : rj_H := rj_set (rk_v5 X9 (rj_new σ 13 (.inr (9, rk_v0)))) σ.1 (.inr (9, rk_vf (σ.1 + 1)))
theorem rv_h_e {X9 : rj_X} {cb vv vk : Nat} {c : rm_R} {σ : rj_H} (h : cb + 103 ≤ σ.1 ∧ vv < σ.1 ∧ vk < σ.1) : rj_set (rk_v5 X9 (rj_new (rc_p X9 cb vv vk c σ) 13 (.inr (9, rk_v0)))) σ.1 (.inr (9, rk_vf (σ.1 + 1))) = rc_p X9 cb vv vk c (rv_h X9 σ) := by
  unfold rk_v5 rv_h
  rw [rc_new h, rc_new (by show cb + 103 ≤ σ.1 + 1 ∧ vv < σ.1 + 1 ∧ vk < σ.1 + 1; omega), rc_new (by show cb + 103 ≤ σ.1 + 1 + 1 ∧ vv < σ.1 + 1 + 1 ∧ vk < σ.1 + 1 + 1; omega), rc_new (by show cb + 103 ≤ σ.1 + 1 + 1 + 1 ∧ vv < σ.1 + 1 + 1 + 1 ∧ vk < σ.1 + 1 + 1 + 1; omega), rc_new (by show cb + 103 ≤ σ.1 + 1 + 1 + 1 + 1 ∧ vv < σ.1 + 1 + 1 + 1 + 1 ∧ vk < σ.1 + 1 + 1 + 1 + 1; omega), rc_new (by show cb + 103 ≤ σ.1 + 1 + 1 + 1 + 1 + 1 ∧ vv < σ.1 + 1 + 1 + 1 + 1 + 1 ∧ vk < σ.1 + 1 + 1 + 1 + 1 + 1; omega), rc_sto ⟨rc_out.ge (by omega), by omega, by omega⟩]
  rfl
theorem rv_h_o {X9 : rj_X} {σ : rj_H} {a : Nat} (h : a < σ.1) : (rv_h X9 σ).2.2 a = σ.2.2 a := by
  show (if a = σ.1 then _ else if a = σ.1 + 1 + 1 + 1 + 1 + 1 then _ else if a = σ.1 + 1 + 1 + 1 + 1 then _ else if a = σ.1 + 1 + 1 + 1 then _ else if a = σ.1 + 1 + 1 then _ else if a = σ.1 + 1 then _ else if a = σ.1 then _ else σ.2.2 a) = _
  rw [if_neg (by omega), if_neg (by omega), if_neg (by omega), if_neg (by omega), if_neg (by omega), if_neg (by omega), if_neg (by omega)]
theorem rv_p_o {X9 : rj_X} {σ : rj_H} {a tx : Nat} {g : rm_R} (h : a < σ.1) : (pv_p X9 σ.1 tx g (rv_s X9 σ)).2.2 a = σ.2.2 a := by
  rw [pv_o (by omega)]
  show (if a = σ.1 + 4 then _ else if a = σ.1 + 5 then _ else σ.2.2 a) = _
  rw [if_neg (by omega), if_neg (by omega)]
section EV
variable {X9 : rj_X} {cb vv vk tx : Nat} {c c0 g2 : rm_R} {σ : rj_H} {s S : Int → Int} {ad : Nat → Int → Nat}
/-- what a valley's reading writes of the row -/
def sp_vE (s S : Int → Int) : Prop := S 6 = 0 ∧ (∀ j : Int, j ≠ 6 → j ≠ 3 → j ≠ 7 → j ≠ 284 + s 3 → j ≠ 289 + s 3 → j ≠ 294 + s 3 → (j < 299 + 140 * s 3 ∨ 299 + 140 * s 3 + 140 ≤ j) → S j = s j)
theorem sp_vE_V (hI : sp_I s) (h3 : s 3 < 5) (hT : ∀ j : Int, 0 ≤ j → j < s 6 → 0 ≤ s (10 + j) ∧ s (10 + j) ≤ 255) : sp_vE s (sp_vV s) ∧ (sp_vV s 3 = s 3 ∧ sp_vV s 7 = s 7) ∧ sp_vV s (284 + s 3) = (sp_vC s).2.2.2.1 ∧ sp_vV s (289 + s 3) = (sp_vC s).2.2.2.2 ∧ sp_vV s (294 + s 3) = ((sp_vC s).2.2.1.length : Int) ∧ (∀ (i : Nat) (h : i < (sp_vC s).2.2.1.length), sp_vV s (299 + 140 * s 3 + (i : Int)) = (sp_vC s).2.2.1[i]) ∧ sp_CB 0 (s 6) (sp_vC s) := by
  obtain ⟨⟨h0, h1, h2, h3', h4, h5, h6, h7⟩, hM, hP, hW, hL, hV⟩ := id hI
  have hTB : sp_TB (fun j => s (10 + j)) (s 6) := hT
  have hB : sp_CB 0 (s 6) (sp_vC s) := sp_vl_B hTB h6.1
  have hl : (sp_vC s).2.2.1.length ≤ 120 := by
    obtain ⟨a1, a2, a3, -⟩ := hB
    omega
  have hb0 : sp_vB s (294 + s 3) = 0 := rj_up_eq _ _ _
  obtain ⟨q1, q2, q3, q4, q5⟩ := sp_vs_at (B := sp_vB s) (a := s 3) (cl := (sp_vC s).2.2.2.1) (tn := (sp_vC s).2.2.2.2) (by omega) hb0 hl
  have hBj : ∀ j : Int, j ≠ 6 → j ≠ 294 + s 3 → sp_vB s j = s j := fun j a b => by unfold sp_vB; rw [rj_up_ne _ _ b, rj_up_ne _ _ a]
  refine ⟨⟨?_, fun j a b c d e f g => ?_⟩, ⟨?_, ?_⟩, q2, q3, q4, q1, hB⟩
  · refine (q5 6 (by omega) (by omega) (by omega) (by omega)).trans ?_
    unfold sp_vB; rw [rj_up_ne _ _ (by omega), rj_up_eq]
  · exact (q5 j d e f g).trans (hBj j a f)
  · exact (q5 3 (by omega) (by omega) (by omega) (by omega)).trans (hBj 3 (by omega) (by omega))
  · exact (q5 7 (by omega) (by omega) (by omega) (by omega)).trans (hBj 7 (by omega) (by omega))
/-- all but the valley -/
theorem e_valS {va : Nat} {ad' : Nat → Int → Nat} (hR : rc_R X9 cb vv vk c σ s ad) (hI : sp_I s) (h3 : s 3 < 5) (hE : sp_vE s S) (e1 : ∀ k : Int, k ≠ 7 → k ≠ 8 → k ≠ 9 → c0 1 k = c 1 k) (e7 : c0 1 7 = 0) (e8 : c0 1 8 = (ad' 2 0 : Int)) (e9 : c0 1 9 = S 3) (ec : ∀ k : Nat, k ≠ 1 → c0 k = c k) (ha : ∀ k i, k ≠ 2 → ad' k i = ad k i) : rc_S 1 cb vv vk c0 (pv_p X9 σ.1 tx g2 (rv_s X9 σ)) S ad' := by
  obtain ⟨⟨h0, h1, h2, h3', h4, h5, h6, h7⟩, hM, hP, hW, hL, hV⟩ := id hI
  have hR2 := hR.sig (σ' := pv_p X9 σ.1 tx g2 (rv_s X9 σ)) (by show _ ≤ σ.1 + 6; omega) (fun a h _ _ => rv_p_o h)
  obtain ⟨r1, r2, ⟨g1, g2', g3, g4, g5, g6, g7⟩, r4⟩ := hR2
  have E : ∀ j : Int, j ≠ 6 → j ≠ 3 → j ≠ 7 → (j < 284 ∨ 999 ≤ j) → S j = s j := fun j a b c d => hE.2 j a b c (by omega) (by omega) (by omega) (by omega)
  obtain ⟨b1, b2, b3, b4, b5, b6, b7, b8, b9⟩ := g1
  refine ⟨⟨?_, ?_, ?_, ?_, e8, e9, ?_, ?_, ?_⟩, fun m m0 m1 => ?_, rg_pat g3 (E 1 (by omega) (by omega) (by omega) (by omega)) (fun j a b => E j (by omega) (by omega) (by omega) (by omega)) (fun k a b => ec k (by omega)), fun w w0 w1 => ?_, fun j j0 j1 => ?_, rg_pln g6 (fun j a b => E j (by omega) (by omega) (by omega) (by omega)) (fun k a b => ec k (by omega)), rg_ahd g7 h5 (E 5 (by omega) (by omega) (by omega) (by omega)) (E 8 (by omega) (by omega) (by omega) (by omega)) (fun j a b => E j (by omega) (by omega) (by omega) (by omega)) (fun k a b => ec k (by omega))⟩
  · rw [e1 1 (by decide) (by decide) (by decide), E 0 (by omega) (by omega) (by omega) (by omega)]; exact b1
  · rw [e1 3 (by decide) (by decide) (by decide), E 1 (by omega) (by omega) (by omega) (by omega)]; exact b2
  · rw [e1 5 (by decide) (by decide) (by decide), E 2 (by omega) (by omega) (by omega) (by omega)]; exact b3
  · rw [e7, hE.1]
  · rw [e1 11 (by decide) (by decide) (by decide), E 4 (by omega) (by omega) (by omega) (by omega)]; exact b7
  · rw [e1 13 (by decide) (by decide) (by decide), E 5 (by omega) (by omega) (by omega) (by omega)]; exact b8
  · rw [e1 14 (by decide) (by decide) (by decide), E 8 (by omega) (by omega) (by omega) (by omega)]; exact b9
  · rw [ha 0 m (by decide)]
    exact rg_mir g2' h0.2 (E 0 (by omega) (by omega) (by omega) (by omega)) (fun j a b => E j (by omega) (by omega) (by omega) (by omega)) (ec 2 (by omega)) m m0 m1
  · rw [ha 1 w (by decide)]
    exact rg_wal g4 h2.2 (E 2 (by omega) (by omega) (by omega) (by omega)) (fun j a b => E j (by omega) (by omega) (by omega) (by omega)) (ec 10 (by omega)) w w0 w1
  · rw [hE.1] at j1; omega
theorem rv_gr : (σ.1 ≤ (pv_p X9 σ.1 tx g2 (rv_s X9 σ)).1 ∧ σ.2.1 ≤ (pv_p X9 σ.1 tx g2 (rv_s X9 σ)).2.1 ∧ (pv_p X9 σ.1 tx g2 (rv_s X9 σ)).1 ≤ σ.1 + 6 ∧ (pv_p X9 σ.1 tx g2 (rv_s X9 σ)).2.1 ≤ σ.2.1 + 200) := ⟨by show _ ≤ σ.1 + 6; omega, by show _ ≤ σ.2.1 + 171; omega, by show σ.1 + 6 ≤ _; omega, by show σ.2.1 + 171 ≤ _; omega⟩
theorem e_valN (hR : rc_R X9 cb vv vk c σ s ad) (hI : sp_I s) (hN : rc_N c 1 s) (h3 : s 3 < 5) (h73 : s 7 < s 3) (hT : ∀ j : Int, 0 ≤ j → j < s 6 → 0 ≤ s (10 + j) ∧ s (10 + j) ≤ 255) (e1 : c0 1 = rj_up (c 1) 7 0) (ec : ∀ k : Nat, k ≠ 1 → c0 k = c k) : rc_G X9 cb vv vk c σ (sp_vV s) (rc_p X9 cb vv vk c0 (pv_p X9 σ.1 tx g2 (rv_s X9 σ))) := by
  obtain ⟨hE, ⟨E3, E7⟩, -⟩ := sp_vE_V hI h3 hT
  obtain ⟨⟨h0, h1, h2, h3', h4, h5, h6, h7⟩, hM, hP, hW, hL, hV⟩ := id hI
  obtain ⟨v1, v2, v3, v4⟩ := id hV
  have hz := hR.2.1
  have hR2 := hR.sig (σ' := pv_p X9 σ.1 tx g2 (rv_s X9 σ)) (by show _ ≤ σ.1 + 6; omega) (fun a h _ _ => rv_p_o h)
  refine ⟨c0, _, ad, vv, vk, ⟨hR.1, hR2.2.1, e_valS (va := 0) hR hI h3 hE (fun k a b c => by rw [e1]; exact rj_up_ne _ _ a) (by rw [e1, rj_up_eq]) (by rw [e1, rj_up_ne _ _ (by decide)]; exact hR.va) (by rw [e1, rj_up_ne _ _ (by decide), E3]; exact hR.n3) ec (fun _ _ _ => rfl), ?_⟩, ⟨rv_gr, fun a h _ _ => rv_p_o h, Or.inl ⟨rfl, rfl⟩⟩, ⟨ec 0 (by decide), ec 11 (by decide), fun k a b => ec k (by omega)⟩, ⟨fun m a b => ?_, fun w a b => ?_⟩, rfl⟩
  · refine rg_vy2 hR2.vy E7 (fun q => ⟨hE.2 _ (by omega) (by omega) (by omega) (by omega) (by omega) (by omega) (by omega), hE.2 _ (by omega) (by omega) (by omega) (by omega) (by omega) (by omega) (by omega), hE.2 _ (by omega) (by omega) (by omega) (by omega) (by omega) (by omega) (by omega)⟩) v1 (fun q i i0 i1 => hE.2 _ (by omega) (by omega) (by omega) (by omega) (by omega) (by omega) (by omega))
  · rw [hE.2 0 (by omega) (by omega) (by omega) (by omega) (by omega) (by omega) (by omega)] at a
    rw [show 1 + 1 = 2 from rfl, ec 2 (by decide)]; exact hN.1 m a b
  · rw [hE.2 2 (by omega) (by omega) (by omega) (by omega) (by omega) (by omega) (by omega)] at a
    rw [show 1 + 9 = 10 from rfl, ec 10 (by decide)]; exact hN.2 w a b
theorem e_valY (hR : rc_R X9 cb vv vk c σ s ad) (hI : sp_I s) (hN : rc_N c 1 s) (h3 : s 3 < 5) (hT : ∀ j : Int, 0 ≤ j → j < s 6 → 0 ≤ s (10 + j) ∧ s (10 + j) ≤ 255) (hok : (sp_vC s).1 = true) (hF : pv_F vg0 g2 (sp_vC s)) (e1 : c0 1 = rj_up (rj_up (rj_up (c 1) 7 0) 8 (σ.1 : Int)) 9 (s 3 + 1)) (ec : ∀ k : Nat, k ≠ 1 → c0 k = c k) : rc_G X9 cb vv vk c σ (rj_up (rj_up (sp_vV s) 3 (s 3 + 1)) 7 (s 3)) (rc_p X9 cb vv vk c0 (pv_p X9 σ.1 tx g2 (rv_s X9 σ))) := by
  obtain ⟨hE, ⟨E3, E7⟩, Ec, Et, En, Ei, hB⟩ := sp_vE_V hI h3 hT
  obtain ⟨⟨h0, h1, h2, h3', h4, h5, h6, h7⟩, hM, hP, hW, hL, hV⟩ := id hI
  have hz := hR.2.1
  obtain ⟨S', hS'⟩ : ∃ x_, x_ = rj_up (rj_up (sp_vV s) 3 (s 3 + 1)) 7 (s 3) := ⟨_, rfl⟩
  rw [← hS']
  have F3 : S' 3 = s 3 + 1 := by rw [hS', rj_up_ne _ _ (by decide), rj_up_eq]
  have F7 : S' 7 = s 3 := by rw [hS', rj_up_eq]
  have Fo : ∀ j : Int, j ≠ 3 → j ≠ 7 → S' j = sp_vV s j := fun j a b => by rw [hS', rj_up_ne _ _ b, rj_up_ne _ _ a]
  have hE2 : sp_vE s S' := ⟨by rw [Fo 6 (by decide) (by decide)]; exact hE.1, fun j a b c d e f g => by rw [Fo j b c]; exact hE.2 j a b c d e f g⟩
  have hTB : sp_TB (fun j => s (10 + j)) (s 6) := hT
  have hL9 : sp_lw9 (sp_vC s).2.2.1 := sp_vl_W hTB h6.1 hok
  have hlen : (sp_vC s).2.2.1.length ≤ 120 := by obtain ⟨a1, a2, a3, -⟩ := hB; omega
  have hSS := e_valS (tx := tx) (g2 := g2) (va := 0) (S := S') (c0 := c0) (ad' := rc_ad ad 2 0 σ.1) hR hI h3 hE2 (fun k a b c => by rw [e1, rj_up_ne _ _ c, rj_up_ne _ _ b, rj_up_ne _ _ a]) (by rw [e1, rj_up_ne _ _ (by decide), rj_up_ne _ _ (by decide), rj_up_eq]) (by rw [e1, rj_up_ne _ _ (by decide), rj_up_eq, rc_ad_eq]) (by rw [e1, rj_up_eq, F3]) ec (fun k i hk => rc_ad_ne (fun q => hk q.1))
  have hI0 : 0 ≤ S' 0 ∧ S' 0 ≤ 6 := by rw [hE2.2 0 (by omega) (by omega) (by omega) (by omega) (by omega) (by omega) (by omega)]; exact h0
  have l4 : (pv_p X9 σ.1 tx g2 (rv_s X9 σ)).2.2 (σ.1 + 4) = some (rj_ar X9 0 5 (fun _ => 0)) := by rw [pv_o (by omega)]; exact if_pos rfl
  have l5 : (pv_p X9 σ.1 tx g2 (rv_s X9 σ)).2.2 (σ.1 + 5) = some (rj_ar X9 0 13 (fun _ => 0)) := by
    rw [pv_o (by omega)]
    show (if σ.1 + 5 = σ.1 + 4 then _ else if σ.1 + 5 = σ.1 + 5 then _ else _) = _
    rw [if_neg (by omega), if_pos rfl]
  have hW9 : rc_V cb (σ.1 + 4) (σ.1 + 5) := ⟨by omega, rc_out.ge (by omega), rc_out.ge (by omega)⟩
  rw [rc_sw hR.1 hW9 l4 l5 ⟨⟨by omega, by omega⟩, by omega, by omega⟩]
  obtain ⟨f1, f2, ⟨f3, f4⟩, f5, f6, f7⟩ := hF
  have hk : ∀ q : Nat, q < 92 → rm_u (rm_u c0 92 (fun _ => 0)) 93 (fun _ => 0) q = c0 q := fun q hq => by rw [rm_u_ne _ _ (by omega), rm_u_ne _ _ (by omega)]
  have ho3 : ∀ a : Nat, σ.1 ≤ a → a ≤ σ.1 + 3 → rc_o3 cb (σ.1 + 4) (σ.1 + 5) (rc_put X9 vv vk c0 (pv_p X9 σ.1 tx g2 (rv_s X9 σ))) a := fun a h h' => ⟨rc_out.ge (by omega), by omega, by omega, by show a < σ.1 + 6; omega⟩
  have hpt : ∀ a : Nat, σ.1 ≤ a → (rc_put X9 vv vk c0 (pv_p X9 σ.1 tx g2 (rv_s X9 σ))).2.2 a = (pv_p X9 σ.1 tx g2 (rv_s X9 σ)).2.2 a := fun a h => by
    show (if a = vv then _ else if a = vk then _ else _) = _
    rw [if_neg (by omega), if_neg (by omega)]
  refine ⟨rm_u (rm_u c0 92 (fun _ => 0)) 93 (fun _ => 0), rc_put X9 vv vk c0 (pv_p X9 σ.1 tx g2 (rv_s X9 σ)), rc_ad ad 2 0 σ.1, σ.1 + 4, σ.1 + 5, ⟨hW9, ⟨by show _ ≤ σ.1 + 6; omega, by show _ < σ.1 + 6; omega, by show _ < σ.1 + 6; omega⟩, ?_, ?_⟩, ⟨rv_gr (X9 := X9) (tx := tx) (g2 := g2), fun a h q1 q2 => ?_, Or.inr ⟨by omega, by omega, c0 92, c0 93, if_pos rfl, ?_⟩⟩, ⟨by rw [hk 0 (by decide), ec 0 (by decide)], by rw [hk 11 (by decide), ec 11 (by decide)], fun k a b => by rw [hk k (by omega), ec k (by omega)]⟩, ⟨fun m a b => ?_, fun w a b => ?_⟩, rfl⟩
  · -- the scene
    obtain ⟨a1, a2, a3, a4, a5, a6, a7⟩ := hSS
    refine ⟨by rw [hk 1 (by omega)]; exact a1, fun m m0 m1 => ?_, fun p p0 p1 p2 => by rw [hk _ (by omega)]; exact a3 p p0 p1 p2, fun w w0 w1 => ?_, fun j j0 j1 => by rw [hk _ (by omega)]; exact a5 j j0 j1, fun m q m0 m1 q0 q1 => by rw [hk _ (by omega)]; exact a6 m q m0 m1 q0 q1, fun a e a0 a1 e0 e1 hh => by rw [hk _ (by omega)]; exact a7 a e a0 a1 e0 e1 hh⟩
    · rw [hk _ (by omega)]
      exact ⟨(a2 m m0 m1).1, rc_o3_sw (a2 m m0 m1).2.1 (a2 m m0 m1).2.2 l4 l5 (fun q => by cases q) (fun q => by cases q)⟩
    · rw [hk _ (by omega)]
      exact ⟨(a4 w w0 w1).1, rc_o3_sw (a4 w w0 w1).2.1 (a4 w w0 w1).2.2 l4 l5 (fun q => by cases q) (fun q => by cases q)⟩
  · -- the valley
    rw [rc_ad_eq]
    refine ⟨σ.1 + 1, σ.1 + 2, σ.1 + 3, g2 1, g2 2, g2 3, g2 0 1, g2 0 4, [.ref tx, rj_i (g2 0 10), rj_i (g2 0 11), rj_i (g2 0 12)], rfl, ⟨ho3 _ (by omega) (by omega), ?_, ho3 _ (by omega) (by omega), ?_, ho3 _ (by omega) (by omega), ?_, ho3 _ (by omega) (by omega), ?_⟩, ?_⟩
    · rw [hpt _ (by omega), pv_0]
      unfold pv_f sp_tells
      rw [if_neg (by rw [F7]; omega), if_neg (by rw [F7]; omega), F7, Fo _ (by omega) (by omega), Fo _ (by omega) (by omega), Ec, Et, f3, f4]
    · rw [hpt _ (by omega)]; exact pv_1
    · rw [hpt _ (by omega)]; exact pv_2
    · rw [hpt _ (by omega)]; exact pv_3
    · have ht : sp_tells S' 294 0 = ((sp_vC s).2.2.1.length : Int) := by unfold sp_tells; rw [if_neg (by rw [F7]; omega), F7, Fo _ (by omega) (by omega)]; exact En
      rw [ht, F7, Int.toNat_natCast, f1, f2, f5, f6, f7]
      refine rc_vr_of (fun i h => ?_) hL9 hlen ?_
      · rw [Fo _ (by omega) (by omega)]; exact Ei i h
      · exact sp_vl_m hTB h6.1 hok
  · show (if a = vv then _ else if a = vk then _ else _) = _
    rw [if_neg q1, if_neg q2, rv_p_o h]
  · show (if vk = vv then _ else if vk = vk then _ else _) = _
    rw [if_neg (fun q => hR.1.1 q.symm), if_pos rfl]
  · rw [hE2.2 0 (by omega) (by omega) (by omega) (by omega) (by omega) (by omega) (by omega)] at a
    rw [show 1 + 1 = 2 from rfl, hk 2 (by decide), ec 2 (by decide)]; exact hN.1 m a b
  · rw [hE2.2 2 (by omega) (by omega) (by omega) (by omega) (by omega) (by omega) (by omega)] at a
    rw [show 1 + 9 = 10 from rfl, hk 10 (by decide), ec 10 (by decide)]; exact hN.2 w a b
end EV
set_option maxRecDepth 20000 in
/-- x_valley -/
theorem x_valley {X9 : rj_X} {σ : rj_H} {d cb vv vk : Nat} {c : rm_R} (hd : 28 ≤ d) {s : Int → Int} {ad : Nat → Int → Nat} (hR : rc_R X9 cb vv vk c σ s ad) (hI : sp_I s) (hN : rc_N c 1 s) (h73 : s 7 < s 3) (hTp : ∀ j : Int, 0 ≤ j → j < s 6 → 0 ≤ s (10 + j) ∧ s (10 + j) ≤ 255) : rj_Cl X9 d yX11_valley cX11_valley 3 (some .int) [.ref cb] (rc_p X9 cb vv vk c σ) (fun w9 τ => w9 = some (rj_i (sp_valF s)) ∧ rc_G X9 cb vv vk c σ (sp_valS s) τ) := by
  obtain ⟨⟨h0, h1, h2, h3, h4, h5, h6, h7⟩, hM, hP, hW, hL, hV⟩ := id hI
  obtain ⟨v1, v2, v3, v4⟩ := id hV
  have hz := hR.2.1
  have hBc : sp_CB 0 (s 6) (sp_vC s) := sp_vl_B hTp h6.1
  obtain ⟨bc1, bc2, -⟩ := hBc
  refine go_call (by decide +kernel) (Nat.le_of_ble_eq_true rfl) ?_
  refine go_eq (pc' := 0) (lv' := [(0, .ref cb)]) (st' := []) rfl rfl rfl rfl ?_
  refine go_aload_n dX11_valley_0 rfl 0 rfl ?_
  refine rc_gx hR.V (k := 0) (by decide) fX11_12 rfl dX11_valley_1 ?_
  refine rc_gs hR.V (k := 9) (v := rj_i (s 3)) (by decide) fX11_114 (rj_vi hR.n3) dX11_valley_4 ?_
  refine go_iconst (v := Int32.ofInt 5) dX11_valley_7 rfl ?_
  refine go_icmp_ltI (tgt := 14) (by omega) (by omega) dX11_valley_8 (by decide) (fun c_8 => ?_) (fun c_8 => ?_)
  · refine go_newo (fs := rk_v0) kX9 (rj_inT 448 (by decide +kernel)) (rj_inT 44 (by decide +kernel)) (rj_inT 3 (by decide +kernel)) rj_z13 dX11_valley_14 ?_
    refine go_dup dX11_valley_17 rfl ?_
    refine go_callN (d1 := d - 1) (Pc := fun _ τ => τ = _) wNX11_119 rfl (by omega) (k_valley (by omega) (rj_new_eq _ _ _) (by show σ.1 < σ.1 + 1; omega)) rfl (Nat.le_of_ble_eq_true rfl) dX11_valley_18 (fun σ1 hP9 => ?_)
    subst hP9
    rw [show rj_set (rk_v5 X9 (rj_new (rc_p X9 cb vv vk c σ) 13 (.inr (9, rk_v0)))) (rc_p X9 cb vv vk c σ).1 (.inr (9, rk_vf (rj_new (rc_p X9 cb vv vk c σ) 13 (.inr (9, rk_v0))).1)) = rc_p X9 cb vv vk c (rv_h X9 σ) from rv_h_e hz]
    have hRh := hR.sig (σ' := rv_h X9 σ) (by show σ.1 ≤ σ.1 + 6; omega) (fun a h _ _ => rv_h_o h)
    refine go_astore_nS (lv' := [(0, .ref cb), (1, .ref σ.1)]) rfl (by decide) rfl dX11_valley_21 ?_
    refine go_aload_n dX11_valley_22 rfl 1 rfl ?_
    refine go_aload_n dX11_valley_23 rfl 0 rfl ?_
    refine rc_gx hRh.V (k := 0) (by decide) fX11_12 rfl dX11_valley_24 ?_
    refine rc_gs hRh.V (k := 6) (v := .ref (cb + 11)) (by decide) fX11_110 rfl dX11_valley_27 ?_
    refine go_aload_n dX11_valley_30 rfl 0 rfl ?_
    refine rc_gx hRh.V (k := 0) (by decide) fX11_12 rfl dX11_valley_31 ?_
    refine rc_gs hRh.V (k := 7) (v := rj_i (s 6)) (by decide) fX11_107 (rj_vi hRh.n6) dX11_valley_34 ?_
    refine go_callV (d1 := d - 1) wVX11_120 kX9 ((rc_of (rc_out.ge (by omega)) (by omega) (by omega)).trans (rj_set_eq _ _ _)) rfl (by omega) (v_fault (T := fun j => s (10 + j)) (e := s 6) (tx := cb + 11) (va := σ.1) (g := vg0) (σ := rc_p X9 cb vv vk c (rv_s X9 σ)) (by omega) ⟨by omega, h6, hTp, c 11, rc_at hR.V 11 rfl, fun j a b => hR.tape j a b⟩ ((rc_of (rc_out.ge (by omega)) (by omega) (by omega)).trans (rj_set_eq _ _ _)) (by rw [← rv_h_e hz]; exact pv_new hz) rfl rfl rfl rfl) rfl (Nat.le_of_ble_eq_true rfl) dX11_valley_37 (fun w σ1 hP9 => ?_)
    obtain ⟨rfl, g2, hF, rfl⟩ := hP9
    rw [show sp_vl (fun j => s (10 + j)) (s 6) = sp_vC s from rfl] at hF ⊢
    rw [pv_rc (fun i hi => ⟨rc_out.ge (by omega), by omega, by omega⟩)]
    have hR2 := hR.sig (σ' := pv_p X9 σ.1 (cb + 11) g2 (rv_s X9 σ)) (by show σ.1 ≤ σ.1 + 6; omega) (fun a h _ _ => rv_p_o h)
    by_cases hok : (sp_vC s).1 = true ∧ (sp_vC s).2.1 = s 6
    · rw [if_pos hok]
      refine go_istore_nS (lv' := [(0, .ref cb), (1, .ref σ.1), (2, rj_i (-1))]) rfl (by decide) rfl dX11_valley_40 ?_
      refine go_aload_n dX11_valley_41 rfl 0 rfl ?_
      refine rc_gx hR2.V (k := 0) (by decide) fX11_12 rfl dX11_valley_42 ?_
      refine go_iconst (v := Int32.ofInt 0) dX11_valley_45 rfl ?_
      refine rc_ps7 hR2.V fX11_107 dX11_valley_46 ?_
      refine go_iload_n dX11_valley_49 rfl 2 rfl ?_
      refine go_if_ltI (tgt := 58) (by omega) dX11_valley_50 (by decide) (fun c_50 => ?_) (fun c_50 => ?_)
      · refine go_aload_n dX11_valley_58 rfl 0 rfl ?_
        refine rc_gx hR2.V (k := 0) (by decide) fX11_12 rfl dX11_valley_59 ?_
        refine go_aload_n dX11_valley_62 rfl 1 rfl ?_
        refine rc_ps8 hR2.V fX11_124 dX11_valley_63 ?_
        refine go_aload_n dX11_valley_66 rfl 0 rfl ?_
        refine rc_gx hR2.V (k := 0) (by decide) fX11_12 rfl dX11_valley_67 ?_
        refine go_dup dX11_valley_70 rfl ?_
        refine rc_gs hR2.V (k := 9) (by decide) fX11_114 rfl dX11_valley_71 ?_
        rw [show (rm_u (rm_u c 1 (rj_up (c 1) 7 0)) 1 (rj_up ((rm_u c 1 (rj_up (c 1) 7 0)) 1) 8 ((σ.1 : Nat) : Int))) 1 = (rj_up (rj_up (c 1) 7 0) 8 ((σ.1 : Nat) : Int)) from (congrArg (fun zz => rj_up zz 8 ((σ.1 : Nat) : Int)) (show (rm_u c 1 (rj_up (c 1) 7 0)) 1 = (rj_up (c 1) 7 0) from (congrArg (fun zz => rj_up zz 7 0) (show c 1 = (c 1) from rfl))))]
        rw [show (rj_up (rj_up (c 1) 7 0) 8 ((σ.1 : Nat) : Int)) 9 = s 3 from (rj_up_ne _ _ (by decide)).trans ((rj_up_ne _ _ (by decide)).trans hR.n3)]
        refine go_iconst (v := Int32.ofInt 1) dX11_valley_74 rfl ?_
        refine go_addI dX11_valley_75 ?_
        refine rc_ps9 hR2.V fX11_114 dX11_valley_76 ?_
        refine go_aload_n dX11_valley_79 rfl 0 rfl ?_
        refine rc_gx hR2.V (k := 0) (by decide) fX11_12 rfl dX11_valley_80 ?_
        refine rc_gs hR2.V (k := 9) (by decide) fX11_114 rfl dX11_valley_83 ?_
        rw [show (rm_u (rm_u (rm_u c 1 (rj_up (c 1) 7 0)) 1 (rj_up ((rm_u c 1 (rj_up (c 1) 7 0)) 1) 8 ((σ.1 : Nat) : Int))) 1 (rj_up ((rm_u (rm_u c 1 (rj_up (c 1) 7 0)) 1 (rj_up ((rm_u c 1 (rj_up (c 1) 7 0)) 1) 8 ((σ.1 : Nat) : Int))) 1) 9 ((s 3) + 1))) 1 = (rj_up (rj_up (rj_up (c 1) 7 0) 8 ((σ.1 : Nat) : Int)) 9 ((s 3) + 1)) from (congrArg (fun zz => rj_up zz 9 ((s 3) + 1)) (show (rm_u (rm_u c 1 (rj_up (c 1) 7 0)) 1 (rj_up ((rm_u c 1 (rj_up (c 1) 7 0)) 1) 8 ((σ.1 : Nat) : Int))) 1 = (rj_up (rj_up (c 1) 7 0) 8 ((σ.1 : Nat) : Int)) from (congrArg (fun zz => rj_up zz 8 ((σ.1 : Nat) : Int)) (show (rm_u c 1 (rj_up (c 1) 7 0)) 1 = (rj_up (c 1) 7 0) from (congrArg (fun zz => rj_up zz 7 0) (show c 1 = (c 1) from rfl))))))]
        rw [show (rj_up (rj_up (rj_up (c 1) 7 0) 8 ((σ.1 : Nat) : Int)) 9 ((s 3) + 1)) 9 = s 3 + 1 from rj_up_eq _ _ _]
        refine go_iconst (v := Int32.ofInt 1) dX11_valley_86 rfl ?_
        refine go_subI dX11_valley_87 ?_
        refine go_retI rfl rfl ?_ dX11_valley_88
        exact ⟨rj_vi (by unfold sp_valF; rw [if_neg (by omega), if_pos hok]; omega), (by unfold sp_valS; rw [if_neg (by omega), if_pos hok]; exact e_valY hR hI hN (by omega) hTp hok.1 (hF hok.1) (show (rm_u (rm_u (rm_u c 1 (rj_up (c 1) 7 0)) 1 (rj_up ((rm_u c 1 (rj_up (c 1) 7 0)) 1) 8 ((σ.1 : Nat) : Int))) 1 (rj_up ((rm_u (rm_u c 1 (rj_up (c 1) 7 0)) 1 (rj_up ((rm_u c 1 (rj_up (c 1) 7 0)) 1) 8 ((σ.1 : Nat) : Int))) 1) 9 ((s 3) + 1))) 1 = (rj_up (rj_up (rj_up (c 1) 7 0) 8 ((σ.1 : Nat) : Int)) 9 ((s 3) + 1)) from (congrArg (fun zz => rj_up zz 9 ((s 3) + 1)) (show (rm_u (rm_u c 1 (rj_up (c 1) 7 0)) 1 (rj_up ((rm_u c 1 (rj_up (c 1) 7 0)) 1) 8 ((σ.1 : Nat) : Int))) 1 = (rj_up (rj_up (c 1) 7 0) 8 ((σ.1 : Nat) : Int)) from (congrArg (fun zz => rj_up zz 8 ((σ.1 : Nat) : Int)) (show (rm_u c 1 (rj_up (c 1) 7 0)) 1 = (rj_up (c 1) 7 0) from (congrArg (fun zz => rj_up zz 7 0) (show c 1 = (c 1) from rfl))))))) (fun k a => (rm_u_ne _ _ a).trans ((rm_u_ne _ _ a).trans (rm_u_ne _ _ a))))⟩
      · exact absurd c_50 (by omega)
    · rw [if_neg hok]
      refine go_istore_nS (lv' := [(0, .ref cb), (1, .ref σ.1), (2, rj_i ((sp_vC s).2.1))]) rfl (by decide) rfl dX11_valley_40 ?_
      refine go_aload_n dX11_valley_41 rfl 0 rfl ?_
      refine rc_gx hR2.V (k := 0) (by decide) fX11_12 rfl dX11_valley_42 ?_
      refine go_iconst (v := Int32.ofInt 0) dX11_valley_45 rfl ?_
      refine rc_ps7 hR2.V fX11_107 dX11_valley_46 ?_
      refine go_iload_n dX11_valley_49 rfl 2 rfl ?_
      refine go_if_ltI (tgt := 58) (by omega) dX11_valley_50 (by decide) (fun c_50 => ?_) (fun c_50 => ?_)
      · exact absurd c_50 (by omega)
      · refine go_bipush (v := Int32.ofInt (-10)) dX11_valley_53 (by decide) ?_
        refine go_iload_n dX11_valley_55 rfl 2 rfl ?_
        refine go_subI dX11_valley_56 ?_
        refine go_retI rfl rfl ?_ dX11_valley_57
        exact ⟨rj_vi (by unfold sp_valF; rw [if_neg (by omega), if_neg hok]), (by unfold sp_valS; rw [if_neg (by omega), if_neg hok]; exact e_valN hR hI hN (by omega) h73 hTp rfl (fun k a => rm_u_ne _ _ a))⟩
  · refine go_bipush (v := Int32.ofInt (-4)) dX11_valley_11 (by decide) ?_
    refine go_retI rfl rfl ?_ dX11_valley_13
    exact ⟨rj_vi (by unfold sp_valF; rw [if_pos (by omega)]), (by unfold sp_valS; rw [if_pos (by omega)]; exact e_same hR hN)⟩
