/-! THE LAW: act, trace, count, image, undo of both objects -/
theorem sp_act_n {s : Int → Int} {m a x : Int} {b : Int → Int} : 0 ≤ (sp_actA s m a x b).2.2 ∧ (sp_actA s m a x b).2.2 ≤ 1000 := by
  have h1 := sp_ca_n (s (130 + m)) m x b 0
  have h2 := sp_tu_n (s (130 + m)) m (s (166 + m)) x b 0
  have p1 : ∀ y b2, 0 ≤ (sp_pl (s (130 + m)) m (s (166 + m)) y b2 0).2.2 ∧ (sp_pl (s (130 + m)) m (s (166 + m)) y b2 0).2.2 ≤ 6 := fun y b2 => by have := sp_pl_n (s (130 + m)) m (s (166 + m)) y b2 0; omega
  have p2 : ∀ y b2, 0 ≤ (sp_pl (s (130 + m)) m (s (166 + m)) y b2 (0 + 1)).2.2 ∧ (sp_pl (s (130 + m)) m (s (166 + m)) y b2 (0 + 1)).2.2 ≤ 7 := fun y b2 => by have := sp_pl_n (s (130 + m)) m (s (166 + m)) y b2 (0 + 1); omega
  have c2 : ∀ b2 n, n ≤ (sp_ca (s (130 + m)) m 2 b2 n).2.2 ∧ (sp_ca (s (130 + m)) m 2 b2 n).2.2 ≤ n + 2 := fun b2 n => sp_ca_n _ _ _ _ _
  unfold sp_actA
  split
  · split
    · omega
    · split
      · omega
      · unfold sp_te
        split
        · exact ⟨(p2 _ _).1, by have := (p2 x (sp_run b 0 31)).2; show (sp_pl (s (130 + m)) m (s (166 + m)) x (sp_run b 0 31) (0 + 1)).2.2 ≤ 1000; omega⟩
        · split
          · have u1 := p2 (x - 1) (sp_run b 0 41)
            have u2 := c2 (sp_pl (s (130 + m)) m (s (166 + m)) (x - 1) (sp_run b 0 41) (0 + 1)).2.1 (sp_pl (s (130 + m)) m (s (166 + m)) (x - 1) (sp_run b 0 41) (0 + 1)).2.2
            show 0 ≤ (sp_ca (s (130 + m)) m 2 (sp_pl (s (130 + m)) m (s (166 + m)) (x - 1) (sp_run b 0 41) (0 + 1)).2.1 (sp_pl (s (130 + m)) m (s (166 + m)) (x - 1) (sp_run b 0 41) (0 + 1)).2.2).2.2 ∧ (sp_ca (s (130 + m)) m 2 (sp_pl (s (130 + m)) m (s (166 + m)) (x - 1) (sp_run b 0 41) (0 + 1)).2.1 (sp_pl (s (130 + m)) m (s (166 + m)) (x - 1) (sp_run b 0 41) (0 + 1)).2.2).2.2 ≤ 1000
            omega
          · have := p1 x b; omega
  · exact ⟨Int.le_refl _, by show (0 : Int) ≤ 1000; omega⟩
section L2
variable {X9 : rj_X} {cb d : Nat} {r : rm_R} {s S t b : Int → Int} {h9 n : Int} {τ : rj_H}
theorem lx_act {m a x : Int} (hd : 30 ≤ d) (hm : -2147483648 ≤ m ∧ m < 2147483648) (ha : -2147483648 ≤ a ∧ a < 2147483648) (hx : -2147483648 ≤ x ∧ x < 2147483648) (H : rl_H X9 cb r s t h9 b n τ) (J : sp_J s) : rj_Cl X9 d yX11_act cX11_act 5 (some .int) [.ref cb, rj_i m, rj_i a, rj_i x] τ (fun w9 τ9 => w9 = some (rj_i (sp_actA s m a x b).1) ∧ rl_H X9 cb r s t h9 (sp_actA s m a x b).2.1 (sp_actA s m a x b).2.2 τ9 ∧ rl_z τ τ9) := by
  obtain ⟨vv, vk, c, σ, ad, rfl, hmm, hR, hN, hY, ⟨rfl, rfl⟩, h2, hT⟩ := H
  refine (x_act (by omega) hm ha hx hR J.1).mono (fun w9 τ9 q => ?_)
  obtain ⟨q1, rfl⟩ := q
  exact ⟨q1, ⟨vv, vk, rc_tr c _ _, σ, ad, rfl, hmm, hR.b (rc_tr_t.le (by decide)), hN.a (fun q _ _ => rc_tr_o (by omega) (by omega)), by rw [rc_tr_o (by decide) (by decide)]; exact hY, ⟨rc_tr_64, rc_tr_63⟩, by rw [rc_tr_o (by decide) (by decide)]; exact h2, fun q => (hT q).reg (fun q _ _ => rc_tr_o (by omega) (by omega))⟩, by show σ.1 ≤ σ.1 + 6; omega, by show σ.2.1 ≤ σ.2.1 + 200; omega⟩
theorem lm_act {m a x : Int} (hd : 30 ≤ d) (hm : -2147483648 ≤ m ∧ m < 2147483648) (ha : -2147483648 ≤ a ∧ a < 2147483648) (hx : -2147483648 ≤ x ∧ x < 2147483648) (H : rl_H X9 cb r S t h9 b n τ) (hs : r 1 = s) (J : sp_J s) : rj_Cl X9 d yX12_act cX12_act 4 (some .int) [.ref (cb + 92), rj_i m, rj_i a, rj_i x] τ (fun w9 τ9 => w9 = some (rj_i (sp_actA s m a x (r 17)).1) ∧ ∃ r0 : rm_R, rm_Vt r r0 s (sp_actA s m a x (r 17)).2.1 (sp_actA s m a x (r 17)).2.2 ∧ rl_H X9 cb r0 S t h9 b n τ9 ∧ τ9.1 = τ.1 ∧ τ9.2.1 = τ.2.1) := by
  obtain ⟨ρ, rfl, hqq⟩ := H.m
  refine (m_act (by omega) rfl hm ha hx hs J.1).mono (fun w9 τ9 q => ?_)
  obtain ⟨q1, r0, k, rfl⟩ := q
  exact ⟨q1, r0, k, hqq r0, rfl, rfl⟩
theorem lx_trace {i : Int} (hd : 30 ≤ d) (hi : -2147483648 ≤ i ∧ i < 2147483648) (hn : 0 ≤ n ∧ n ≤ 1000) (H : rl_H X9 cb r s t h9 b n τ) (J : sp_J s) : rj_Cl X9 d yX11_trace cX11_trace 2 (some .int) [.ref cb, rj_i i] τ (fun w9 τ9 => w9 = some (rj_i (sp_traceF b n i)) ∧ rl_H X9 cb r s t h9 b n τ9 ∧ rl_z τ τ9) := by
  obtain ⟨vv, vk, c, σ, ad, rfl, hmm, hR, hN, hY, hb, h2, hT⟩ := id H
  exact (x_trace (by omega) hi hR J.1 hb.1 hb.2 hn).mono (fun w9 τ9 q => ⟨q.1, by rw [q.2]; exact H, by rw [q.2]; exact ⟨by omega, by omega⟩⟩)
theorem lm_trace {i : Int} (hd : 30 ≤ d) (hi : -2147483648 ≤ i ∧ i < 2147483648) (hn : 0 ≤ r 18 0 ∧ r 18 0 ≤ 1000) (H : rl_H X9 cb r S t h9 b n τ) (hs : r 1 = s) (J : sp_J s) : rj_Cl X9 d yX12_trace cX12_trace 2 (some .int) [.ref (cb + 92), rj_i i] τ (fun w9 τ9 => w9 = some (rj_i (sp_traceF (r 17) (r 18 0) i)) ∧ ∃ r0 : rm_R, rm_V r r0 s ∧ rl_H X9 cb r0 S t h9 b n τ9 ∧ τ9.1 = τ.1 ∧ τ9.2.1 = τ.2.1) := by
  obtain ⟨ρ, rfl, hqq⟩ := H.m
  refine (m_trace (by omega) hi hs J.1 hn).mono (fun w9 τ9 q => ?_)
  obtain ⟨q1, r0, k, rfl⟩ := q
  exact ⟨q1, r0, k, hqq r0, rfl, rfl⟩
theorem lx_count {w : Int} (hd : 30 ≤ d) (hw : -2147483648 ≤ w ∧ w < 2147483648) (H : rl_H X9 cb r s t h9 b n τ) (J : sp_J s) : rj_Cl X9 d yX11_count cX11_count 2 (some .int) [.ref cb, rj_i w] τ (fun w9 τ9 => w9 = some (rj_i (sp_countF s n w)) ∧ rl_H X9 cb r s t h9 b n τ9 ∧ rl_z τ τ9) := by
  obtain ⟨vv, vk, c, σ, ad, rfl, hmm, hR, hN, hY, hb, h2, hT⟩ := id H
  exact (x_count hw hR J.1 hb.2).mono (fun w9 τ9 q => ⟨q.1, by rw [q.2]; exact H, by rw [q.2]; exact ⟨by omega, by omega⟩⟩)
theorem lm_count {w : Int} (hd : 30 ≤ d) (hw : -2147483648 ≤ w ∧ w < 2147483648) (H : rl_H X9 cb r S t h9 b n τ) (hs : r 1 = s) (J : sp_J s) : rj_Cl X9 d yX12_count cX12_count 2 (some .int) [.ref (cb + 92), rj_i w] τ (fun w9 τ9 => w9 = some (rj_i (sp_countF s (r 18 0) w)) ∧ ∃ r0 : rm_R, rm_V r r0 s ∧ rl_H X9 cb r0 S t h9 b n τ9 ∧ τ9.1 = τ.1 ∧ τ9.2.1 = τ.2.1) := by
  obtain ⟨ρ, rfl, hqq⟩ := H.m
  refine (m_count hw hs J.1).mono (fun w9 τ9 q => ?_)
  obtain ⟨q1, r0, k, rfl⟩ := q
  exact ⟨q1, r0, k, hqq r0, rfl, rfl⟩
theorem lx_image (hd : 30 ≤ d) (H : rl_H X9 cb r s t h9 b n τ) (J : sp_J s) : rj_Cl X9 d yX11_image cX11_image 1 (some .int) [.ref cb] τ (fun w9 τ9 => w9 = some (rj_i (s 0)) ∧ rl_H X9 cb r s s 1 b n τ9 ∧ rl_z τ τ9) := by
  obtain ⟨vv, vk, c, σ, ad, rfl, hmm, hR, hN, hY, hb, h2, hT⟩ := H
  refine (x_image (by omega) hR J.1 hN hY).mono (fun w9 τ9 q => ?_)
  obtain ⟨q1, c0, k1, k2, k3, k4, k5, k6, k7, k8, rfl⟩ := q
  exact ⟨q1, ⟨vv, vk, c0, σ, ad, rfl, hmm, k1, k3, k5, by rw [k8 64 (by decide) (by decide), k8 63 (by decide) (by decide)]; exact hb, k7, fun _ => ⟨ad, vv, vk, k2, k1.2.2.2, k4, k6, Or.inl ⟨rfl, rfl⟩⟩⟩, by show σ.1 ≤ σ.1 + 6; omega, by show σ.2.1 ≤ σ.2.1 + 200; omega⟩
theorem lm_image (hd : 30 ≤ d) (H : rl_H X9 cb r S t h9 b n τ) (hs : r 1 = s) (J : sp_J s) (hO : sp_IO (r 2)) : rj_Cl X9 d yX12_image cX12_image 2 (some .int) [.ref (cb + 92)] τ (fun w9 τ9 => w9 = some (rj_i (s 0)) ∧ ∃ r0 : rm_R, (r0 1 = s ∧ r0 2 = s ∧ r0 3 0 = 1 ∧ r0 17 = r 17 ∧ r0 18 0 = r 18 0) ∧ rl_H X9 cb r0 S t h9 b n τ9 ∧ τ9.1 = τ.1 ∧ τ9.2.1 = τ.2.1) := by
  obtain ⟨ρ, rfl, hqq⟩ := H.m
  refine (m_image rfl hs J.1 J.2.2.2.2.2.2 hO).mono (fun w9 τ9 q => ?_)
  obtain ⟨q1, r0, k, rfl⟩ := q
  exact ⟨q1, r0, k, hqq r0, rfl, rfl⟩
theorem lx_undo (hd : 30 ≤ d) (H : rl_H X9 cb r s t h9 b n τ) (J : sp_J s) (h01 : h9 = 0 ∨ h9 = 1) (Jt : h9 = 1 → sp_J t) : rj_Cl X9 d yX11_undo cX11_undo 1 (some .int) [.ref cb] τ (fun w9 τ9 => w9 = some (rj_i (if h9 = 0 then -3 else t 0)) ∧ rl_H X9 cb r (if h9 = 0 then s else t) t h9 b n τ9 ∧ rl_z τ τ9) := by
  obtain ⟨vv, vk, c, σ, ad, rfl, hmm, hR, hN, hY, hb, h2, hT⟩ := id H
  rcases h01 with rfl | rfl
  · refine (x_undo (t := t) (ad2 := ad) (by omega) hR J.1 h2 (Or.inl rfl) (fun q => absurd q (by decide))).mono (fun w9 τ9 q => ?_)
    obtain ⟨q1, c0, k1, k2, rfl⟩ := q
    obtain rfl := k1 rfl
    rw [if_pos rfl] at q1 ⊢
    rw [if_pos rfl]
    exact ⟨q1, H, by show σ.1 ≤ σ.1 + 6; omega, by show σ.2.1 ≤ σ.2.1 + 200; omega⟩
  · obtain ⟨ad2, v1, v2, g1, g2, g3, g4, g5⟩ := hT rfl
    refine (x_undo (t := t) (ad2 := ad2) (by omega) hR J.1 h2 (Or.inr rfl) (fun _ => ⟨g1, g3, (Jt rfl).1, g4⟩)).mono (fun w9 τ9 q => ?_)
    obtain ⟨q1, c0, -, k2, rfl⟩ := q
    have k := k2 rfl
    have ko : ∀ q : Nat, ¬ (1 ≤ q ∧ q < 1 + 31) → c0 q = c q := k.2.2.2.2.2.2.2
    rw [if_neg (by decide)] at q1 ⊢
    rw [if_neg (by decide)]
    have hV := hR.1
    have hz := hR.2.1
    have s1 := k.S g1 (Jt rfl).1
    have s32 : rc_S 32 cb vv vk c0 σ t ad2 := g1.a (fun q a e => ko q (by omega))
    have n1 := k.N g3
    have n32 : rc_N c0 32 t := g3.a (fun q a e => ko q (by omega))
    have y1 : rc_by (c0 11) := by
      intro j a e
      rw [show c0 11 j = c 42 j from k.2.2.2.2.1 j e]; exact g4 j a e
    have y2 : rc_by (c0 42) := by rw [ko 42 (by decide)]; exact g4
    have b1 : c0 64 = b ∧ c0 63 1 = n := by rw [ko 64 (by decide), ko 63 (by decide)]; exact hb
    have f1 : c0 0 2 = 1 := by rw [ko 0 (by decide)]; exact h2
    refine ⟨q1, ?_, by show σ.1 ≤ σ.1 + 6; omega, by show σ.2.1 ≤ σ.2.1 + 200; omega⟩
    rcases g5 with ⟨rfl, rfl⟩ | ⟨e1, e2, hn, hW, hl, p1, p2⟩
    · exact ⟨v1, v2, c0, σ, ad2, rfl, hmm, ⟨hV, hz, s1, g2⟩, n1, y1, b1, f1, fun _ => ⟨ad2, v1, v2, s32, g2, n32, y2, Or.inl ⟨rfl, rfl⟩⟩⟩
    · have hk : ∀ q : Nat, q < 92 → rm_u (rm_u c0 92 e1) 93 e2 q = c0 q := fun q hq => by rw [rm_u_ne _ _ (by omega), rm_u_ne _ _ (by omega)]
      refine ⟨v1, v2, rm_u (rm_u c0 92 e1) 93 e2, rc_put X9 vv vk c0 σ, ad2, rc_sw hV hW p1 p2 hn, fun j hj => ?_, ⟨hW, ⟨hz.1, hl.1, hl.2⟩, s1.sw (by decide) p1 p2 (Jt rfl).1, g2.sw p1 p2⟩, n1.a (fun q _ _ => hk q (by omega)), by rw [hk 11 (by decide)]; exact y1, by rw [hk 64 (by decide), hk 63 (by decide)]; exact b1, by rw [hk 0 (by decide)]; exact f1, fun _ => ⟨ad2, v1, v2, s32.sw (by decide) p1 p2 (Jt rfl).1, g2.sw p1 p2, n32.a (fun q _ _ => hk q (by omega)), by rw [hk 42 (by decide)]; exact y2, Or.inl ⟨rfl, rfl⟩⟩⟩
      show (if cb + 92 + j = vv then _ else if cb + 92 + j = vk then _ else _) = _
      rw [if_neg (fun q => hV.2.1.m hj q.symm), if_neg (fun q => hV.2.2.m hj q.symm)]
      exact hmm j hj
theorem lm_undo (hd : 30 ≤ d) (H : rl_H X9 cb r S t h9 b n τ) (hs : r 1 = s) (J : sp_J s) (hO : sp_IO (r 2)) (h01 : r 3 0 = 0 ∨ r 3 0 = 1) : rj_Cl X9 d yX12_undo cX12_undo 2 (some .int) [.ref (cb + 92)] τ (fun w9 τ9 => w9 = some (rj_i (if r 3 0 = 0 then -3 else r 2 0)) ∧ ∃ r0 : rm_R, (r0 1 = (if r 3 0 = 0 then s else r 2) ∧ r0 2 = r 2 ∧ r0 3 0 = r 3 0 ∧ r0 17 = r 17 ∧ r0 18 0 = r 18 0) ∧ rl_H X9 cb r0 S t h9 b n τ9 ∧ τ9.1 = τ.1 ∧ τ9.2.1 = τ.2.1) := by
  obtain ⟨ρ, rfl, hqq⟩ := H.m
  refine (m_undo rfl rfl h01 hs J.1 J.2.2.2.2.2.2 hO).mono (fun w9 τ9 q => ?_)
  obtain ⟨q1, r0, k, rfl⟩ := q
  exact ⟨q1, r0, k, hqq r0, rfl, rfl⟩
end L2
