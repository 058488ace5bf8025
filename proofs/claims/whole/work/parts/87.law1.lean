/-! THE LAW: both objects in one heap -/
section LR
variable {X9 : rj_X} {cb vv vk vv' vk' : Nat} {c c' : rm_R} {σ σ' : rj_H} {s S t : Int → Int} {ad : Nat → Int → Nat}
theorem rc_S.gr {b : Nat} (h : rc_S b cb vv vk c σ s ad) (k : σ.1 ≤ σ'.1) (e : ∀ a : Nat, rc_out cb a → a < σ.1 → a ≠ vv → a ≠ vk → σ'.2.2 a = σ.2.2 a) (hv : (vv' = vv ∧ vk' = vk) ∨ (σ.1 ≤ vv' ∧ σ.1 ≤ vk')) : rc_S b cb vv' vk' c σ' s ad := by
  obtain ⟨a1, a2, a3, a4, a5, a6, a7⟩ := h
  have o : ∀ a, rc_o3 cb vv vk σ a → rc_o3 cb vv' vk' σ' a := fun a q => ⟨q.1, by have := q.2; omega, by have := q.2; omega, by have := q.2; omega⟩
  have eq : ∀ a, rc_o3 cb vv vk σ a → σ'.2.2 a = σ.2.2 a := fun a q => e a q.1 q.2.2.2 q.2.1 q.2.2.1
  exact ⟨a1, fun m m0 m1 => ⟨(a2 m m0 m1).1, o _ (a2 m m0 m1).2.1, (eq _ (a2 m m0 m1).2.1).trans (a2 m m0 m1).2.2⟩, a3, fun m m0 m1 => ⟨(a4 m m0 m1).1, o _ (a4 m m0 m1).2.1, (eq _ (a4 m m0 m1).2.1).trans (a4 m m0 m1).2.2⟩, a5, a6, a7⟩
theorem rc_vy.gr {u1 u2 va : Nat} (h : rc_vy X9 cb vv vk u1 u2 σ s va) (k : σ.1 ≤ σ'.1) (e : ∀ a : Nat, rc_out cb a → a < σ.1 → a ≠ vv → a ≠ vk → σ'.2.2 a = σ.2.2 a) (hv : (vv' = vv ∧ vk' = vk) ∨ (σ.1 ≤ vv' ∧ σ.1 ≤ vk')) : rc_vy X9 cb vv' vk' u1 u2 σ' s va := by
  obtain ⟨a1, a2, a3, gs, gw, ge, vj, vm, rst, hl, ⟨v1, v2, v3, v4, v5, v6, v7, v8⟩, hr⟩ := h
  have o : ∀ a, rc_o3 cb vv vk σ a → rc_o3 cb vv' vk' σ' a := fun a q => ⟨q.1, by have := q.2; omega, by have := q.2; omega, by have := q.2; omega⟩
  have eq : ∀ a, rc_o3 cb vv vk σ a → σ'.2.2 a = σ.2.2 a := fun a q => e a q.1 q.2.2.2 q.2.1 q.2.2.1
  exact ⟨a1, a2, a3, gs, gw, ge, vj, vm, rst, hl, ⟨o _ v1, (eq _ v1).trans v2, o _ v3, (eq _ v3).trans v4, o _ v5, (eq _ v5).trans v6, o _ v7, (eq _ v7).trans v8⟩, hr⟩
theorem rc_R.gr (h : rc_R X9 cb vv vk c σ s ad) (k : σ.1 ≤ σ'.1) (e : ∀ a : Nat, rc_out cb a → a < σ.1 → a ≠ vv → a ≠ vk → σ'.2.2 a = σ.2.2 a) : rc_R X9 cb vv vk c σ' s ad :=
  ⟨h.1, ⟨by have := h.2.1; omega, by have := h.2.1; omega, by have := h.2.1; omega⟩, h.2.2.1.gr k e (Or.inl ⟨rfl, rfl⟩), h.2.2.2.gr k e (Or.inl ⟨rfl, rfl⟩)⟩
/-- what was taken -/
def rl_T (X9 : rj_X) (cb vv vk : Nat) (c : rm_R) (σ : rj_H) (t : Int → Int) : Prop := ∃ (ad2 : Nat → Int → Nat) (v1 v2 : Nat), rc_S 32 cb vv vk c σ t ad2 ∧ rc_vy X9 cb vv vk v1 v2 σ t (ad2 2 0) ∧ rc_N c 32 t ∧ rc_by (c 42) ∧ ((v1 = vv ∧ v2 = vk) ∨ ∃ g1 g2 : Int → Int, ((v1 ≠ vv ∧ v1 ≠ vk) ∧ v2 ≠ vv ∧ v2 ≠ vk) ∧ rc_V cb v1 v2 ∧ (v1 < σ.1 ∧ v2 < σ.1) ∧ σ.2.2 v1 = some (rj_ar X9 0 5 g1) ∧ σ.2.2 v2 = some (rj_ar X9 0 13 g2))
theorem rl_T.reg (h : rl_T X9 cb vv vk c σ t) (k : ∀ q : Nat, 32 ≤ q → q < 63 → c' q = c q) : rl_T X9 cb vv vk c' σ t := by
  obtain ⟨ad2, v1, v2, h1, h2, h3, h4, h5⟩ := h
  exact ⟨ad2, v1, v2, h1.a (fun q a b => k q a (by omega)), h2, h3.a (fun q a b => k q a (by omega)), by rw [k 42 (by omega) (by omega)]; exact h4, h5⟩
theorem rl_T.sig (h : rl_T X9 cb vv vk c σ t) (k : σ.1 ≤ σ'.1) (e : ∀ a : Nat, rc_out cb a → a < σ.1 → a ≠ vv → a ≠ vk → σ'.2.2 a = σ.2.2 a) : rl_T X9 cb vv vk c σ' t := by
  obtain ⟨ad2, v1, v2, h1, h2, h3, h4, h5⟩ := h
  refine ⟨ad2, v1, v2, h1.gr k e (Or.inl ⟨rfl, rfl⟩), h2.gr k e (Or.inl ⟨rfl, rfl⟩), h3, h4, ?_⟩
  rcases h5 with h5 | ⟨g1, g2, n, hV, ⟨l1, l2⟩, q1, q2⟩
  · exact Or.inl h5
  · exact Or.inr ⟨g1, g2, n, hV, ⟨by omega, by omega⟩, (e _ hV.2.1 l1 n.1.1 n.1.2).trans q1, (e _ hV.2.2 l2 n.2.1 n.2.2).trans q2⟩
theorem rl_T.grw (h : rl_T X9 cb vv vk c σ t) (hV : rc_V cb vv vk) (hl : vv < σ.1 ∧ vk < σ.1) (hg : rc_gr X9 vv vk σ vv' vk' σ') : rl_T X9 cb vv' vk' c σ' t := by
  obtain ⟨⟨z1, z2, z3, z4⟩, e, hv⟩ := hg
  have e' : ∀ a : Nat, rc_out cb a → a < σ.1 → a ≠ vv → a ≠ vk → σ'.2.2 a = σ.2.2 a := fun a _ b c d => e a b c d
  rcases hv with ⟨rfl, rfl⟩ | ⟨w1, w2, k1, k2, q1, q2⟩
  · exact h.sig z1 e'
  · obtain ⟨ad2, v1, v2, h1, h2, h3, h4, h5⟩ := h
    refine ⟨ad2, v1, v2, h1.gr z1 e' (Or.inr ⟨w1, w2⟩), h2.gr z1 e' (Or.inr ⟨w1, w2⟩), h3, h4, Or.inr ?_⟩
    rcases h5 with ⟨rfl, rfl⟩ | ⟨g1, g2, n, hV2, ⟨l1, l2⟩, p1, p2⟩
    · exact ⟨k1, k2, ⟨⟨by omega, by omega⟩, by omega, by omega⟩, hV, ⟨by omega, by omega⟩, q1, q2⟩
    · exact ⟨g1, g2, ⟨⟨by omega, by omega⟩, by omega, by omega⟩, hV2, ⟨by omega, by omega⟩, (e _ l1 n.1.1 n.1.2).trans p1, (e _ l2 n.2.1 n.2.2).trans p2⟩
/-- both objects: the class says S, t, flag, trace; the reference's registers are r -/
def rl_H (X9 : rj_X) (cb : Nat) (r : rm_R) (S t : Int → Int) (h9 : Int) (b : Int → Int) (n : Int) (τ : rj_H) : Prop := ∃ (vv vk : Nat) (c : rm_R) (σ : rj_H) (ad : Nat → Int → Nat), τ = rc_p X9 cb vv vk c σ ∧ (∀ j : Nat, j < 11 → σ.2.2 (cb + 92 + j) = rm_c X9 (cb + 92) r j) ∧ rc_R X9 cb vv vk c σ S ad ∧ rc_N c 1 S ∧ rc_by (c 11) ∧ (c 64 = b ∧ c 63 1 = n) ∧ c 0 2 = h9 ∧ (h9 = 1 → rl_T X9 cb vv vk c σ t)
end LR
def rl_z (τ τ' : rj_H) : Prop := τ'.1 ≤ τ.1 + 6 ∧ τ'.2.1 ≤ τ.2.1 + 200
section LR2
variable {X9 : rj_X} {cb vv vk : Nat} {c : rm_R} {r : rm_R} {σ : rj_H} {s S t b : Int → Int} {h9 n : Int} {ad : Nat → Int → Nat} {τ : rj_H}
theorem rl_t {c0 : rm_R} (hm : ∀ j : Nat, j < 11 → σ.2.2 (cb + 92 + j) = rm_c X9 (cb + 92) r j) (hR : rc_R X9 cb vv vk c σ s ad) (hN : rc_N c 1 s) (hY : rc_by (c 11)) (hb : c 64 = b ∧ c 63 1 = n) (h2 : c 0 2 = h9) (hT : h9 = 1 → rl_T X9 cb vv vk c σ t) (k : rc_t 65 c c0) : rl_H X9 cb r s t h9 b n (rc_p X9 cb vv vk c0 σ) :=
  ⟨vv, vk, c0, σ, ad, rfl, hm, hR.t k, hN.a (fun q _ _ => k q (by omega)), by rw [k 11 (by omega)]; exact hY, by rw [k 64 (by omega), k 63 (by omega)]; exact hb, by rw [k 0 (by omega)]; exact h2, fun q => (hT q).reg (fun q _ _ => k q (by omega))⟩
theorem rl_E (hm : ∀ j : Nat, j < 11 → σ.2.2 (cb + 92 + j) = rm_c X9 (cb + 92) r j) (hN : rc_N c 1 s) (hY : rc_by (c 11)) (hb : c 64 = b ∧ c 63 1 = n) (h2 : c 0 2 = h9) (hT : h9 = 1 → rl_T X9 cb vv vk c σ t) (e0 : S 0 = s 0 ∧ S 2 = s 2) (k : rc_E X9 cb vv vk c σ ad S τ) : rl_H X9 cb r S t h9 b n τ ∧ τ.1 = σ.1 ∧ τ.2.1 = σ.2.1 := by
  obtain ⟨c0, hR, ⟨k0, ⟨k2, k10, k11⟩, kk⟩, rfl⟩ := k
  exact ⟨⟨vv, vk, c0, σ, ad, rfl, hm, hR, ⟨fun m a e => by rw [show 1 + 1 = 2 from rfl, k2]; exact hN.1 m (by rw [← e0.1]; exact a) e, fun w a e => by rw [show 1 + 9 = 10 from rfl, k10]; exact hN.2 w (by rw [← e0.2]; exact a) e⟩, k11 hY, by rw [kk 64 (by omega) (by omega), kk 63 (by omega) (by omega)]; exact hb, by rw [k0]; exact h2, fun q => (hT q).reg (fun q a e => kk q a (by omega))⟩, rfl, rfl⟩
theorem rl_G (hR : rc_R X9 cb vv vk c σ s ad) (hm : ∀ j : Nat, j < 11 → σ.2.2 (cb + 92 + j) = rm_c X9 (cb + 92) r j) (hY : rc_by (c 11)) (hb : c 64 = b ∧ c 63 1 = n) (h2 : c 0 2 = h9) (hT : h9 = 1 → rl_T X9 cb vv vk c σ t) (k : rc_G X9 cb vv vk c σ S τ) : rl_H X9 cb r S t h9 b n τ ∧ τ.1 ≤ σ.1 + 6 ∧ τ.2.1 ≤ σ.2.1 + 200 := by
  obtain ⟨c0, σ', ad', vv', vk', hR', hg, ⟨k0, k11, kk⟩, hN', rfl⟩ := k
  have hz := hR.2.1
  have hV := hR.1
  refine ⟨⟨vv', vk', c0, σ', ad', rfl, fun j hj => ?_, hR', hN', by rw [k11]; exact hY, by rw [kk 64 (by omega) (by omega), kk 63 (by omega) (by omega)]; exact hb, by rw [k0]; exact h2, fun q => ((hT q).grw hV ⟨hz.2.1, hz.2.2⟩ hg).reg (fun q a e => kk q a (by omega))⟩, hg.1.2.2.1, hg.1.2.2.2⟩
  rw [hg.2.1 _ (by omega) (fun q => hV.2.1.m hj q.symm) (fun q => hV.2.2.m hj q.symm)]
  exact hm j hj
theorem rc_rm (hV : rc_V cb vv vk) (hm : ∀ j : Nat, j < 11 → σ.2.2 (cb + 92 + j) = rm_c X9 (cb + 92) r j) : rc_p X9 cb vv vk c σ = rm_p X9 (cb + 92) r (rc_p X9 cb vv vk c σ) := by
  unfold rm_p
  refine congrArg _ (congrArg _ (funext fun q => ?_))
  by_cases h : cb + 92 ≤ q ∧ q < cb + 92 + 11
  · rw [if_pos h]
    have hn1 : q ≠ vv := fun e => hV.2.1.m (i := q - (cb + 92)) (by omega) (by omega)
    have hn2 : q ≠ vk := fun e => hV.2.2.m (i := q - (cb + 92)) (by omega) (by omega)
    show (if q = vv then _ else if q = vk then _ else if cb ≤ q ∧ rc_fx (q - cb) = true then _ else _) = _
    have hf : ¬ (cb ≤ q ∧ rc_fx (q - cb) = true) := fun e => by
      have := e.2
      simp only [rc_fx, Bool.and_eq_true, decide_eq_true_eq] at this
      omega
    rw [if_neg hn1, if_neg hn2, if_neg hf]
    have := hm (q - (cb + 92)) (by omega)
    rw [show cb + 92 + (q - (cb + 92)) = q by omega] at this
    exact this
  · rw [if_neg h]; rfl
theorem rm_rc {r0 : rm_R} (hV : rc_V cb vv vk) : rm_p X9 (cb + 92) r0 (rc_p X9 cb vv vk c σ) = rc_p X9 cb vv vk c (rm_p X9 (cb + 92) r0 σ) := by
  unfold rm_p rc_p
  refine congrArg _ (congrArg _ (funext fun q => ?_))
  show (if cb + 92 ≤ q ∧ q < cb + 92 + 11 then _ else if q = vv then _ else if q = vk then _ else if cb ≤ q ∧ rc_fx (q - cb) = true then _ else _) = (if q = vv then _ else if q = vk then _ else if cb ≤ q ∧ rc_fx (q - cb) = true then _ else if cb + 92 ≤ q ∧ q < cb + 92 + 11 then _ else _)
  by_cases h : cb + 92 ≤ q ∧ q < cb + 92 + 11
  · have hn1 : q ≠ vv := fun e => hV.2.1.m (i := q - (cb + 92)) (by omega) (by omega)
    have hn2 : q ≠ vk := fun e => hV.2.2.m (i := q - (cb + 92)) (by omega) (by omega)
    have hf : ¬ (cb ≤ q ∧ rc_fx (q - cb) = true) := fun e => by
      have := e.2
      simp only [rc_fx, Bool.and_eq_true, decide_eq_true_eq] at this
      omega
    rw [if_pos h, if_neg hn1, if_neg hn2, if_neg hf, if_pos h]
  · rw [if_neg h, if_neg h]
/-- the reference's side -/
theorem rl_H.m (H : rl_H X9 cb r S t h9 b n τ) : ∃ ρ : rj_H, τ = rm_p X9 (cb + 92) r ρ ∧ ∀ r0 : rm_R, rl_H X9 cb r0 S t h9 b n (rm_p X9 (cb + 92) r0 ρ) := by
  obtain ⟨vv, vk, c, σ, ad, rfl, hm, hR, hN, hY, hb, h2, hT⟩ := H
  refine ⟨rc_p X9 cb vv vk c σ, rc_rm hR.1 hm, fun r0 => ?_⟩
  rw [rm_rc hR.1]
  have hout : ∀ a : Nat, rc_out cb a → ¬ (cb + 92 ≤ a ∧ a < cb + 92 + 11) := fun a o q => o.m (i := a - (cb + 92)) (by omega) (by omega)
  have e : ∀ a : Nat, rc_out cb a → a < σ.1 → a ≠ vv → a ≠ vk → (rm_p X9 (cb + 92) r0 σ).2.2 a = σ.2.2 a := fun a o _ _ _ => rm_out (hout a o)
  exact ⟨vv, vk, c, _, ad, rfl, fun j hj => rm_at j hj, hR.gr (Nat.le_refl _) e, hN, hY, hb, h2, fun q => (hT q).sig (Nat.le_refl _) e⟩
end LR2
theorem lx_mirror {X9 : rj_X} {cb d : Nat} {r : rm_R} {s t b : Int → Int} {h9 n : Int} {τ : rj_H} {kd pt mk : Int} (hd : 30 ≤ d) (hkd : -2147483648 ≤ kd ∧ kd < 2147483648) (hpt : -2147483648 ≤ pt ∧ pt < 2147483648) (hmk : -2147483648 ≤ mk ∧ mk < 2147483648) (H : rl_H X9 cb r s t h9 b n τ) (J : sp_J s) : rj_Cl X9 d yX11_mirror cX11_mirror 5 (some .int) [.ref cb, rj_i kd, rj_i pt, rj_i mk] τ (fun w9 τ9 => w9 = some (rj_i (sp_mirF s kd pt mk)) ∧ rl_H X9 cb r (sp_mirS s kd pt mk) t h9 b n τ9 ∧ rl_z τ τ9) := by
  obtain ⟨vv, vk, c, σ, ad, rfl, hmm, hR, hN, hY, hb, h2, hT⟩ := id H
  refine ((x_mirror (by omega) hkd hpt hmk hR J.1 hN)).mono (fun w9 τ9 q => ?_)
  obtain ⟨q1, q2, q3⟩ := rl_G hR hmm hY hb h2 hT q.2
  exact ⟨q.1, q1, q2, q3⟩
theorem lm_mirror {X9 : rj_X} {cb d : Nat} {r : rm_R} {s S t b : Int → Int} {h9 n : Int} {τ : rj_H} {kd pt mk : Int} (hd : 30 ≤ d) (hkd : -2147483648 ≤ kd ∧ kd < 2147483648) (hpt : -2147483648 ≤ pt ∧ pt < 2147483648) (hmk : -2147483648 ≤ mk ∧ mk < 2147483648) (H : rl_H X9 cb r S t h9 b n τ) (hs : r 1 = s) (J : sp_J s) : rj_Cl X9 d yX12_mirror cX12_mirror 5 (some .int) [.ref (cb + 92), rj_i kd, rj_i pt, rj_i mk] τ (fun w9 τ9 => w9 = some (rj_i (sp_mirF s kd pt mk)) ∧ ∃ r0 : rm_R, rm_V r r0 (sp_mirS s kd pt mk) ∧ rl_H X9 cb r0 S t h9 b n τ9 ∧ τ9.1 = τ.1 ∧ τ9.2.1 = τ.2.1) := by
  obtain ⟨ρ, rfl, hqq⟩ := H.m
  refine (m_mirror (by omega) hkd hpt hmk hs J.1).mono (fun w9 τ9 q => ?_)
  obtain ⟨q1, r0, k, rfl⟩ := q
  exact ⟨q1, r0, k, hqq r0, rfl, rfl⟩
theorem lx_patch {X9 : rj_X} {cb d : Nat} {r : rm_R} {s t b : Int → Int} {h9 n : Int} {τ : rj_H} {pt w sn : Int} (hd : 30 ≤ d) (hpt : -2147483648 ≤ pt ∧ pt < 2147483648) (hw : -2147483648 ≤ w ∧ w < 2147483648) (hsn : -2147483648 ≤ sn ∧ sn < 2147483648) (H : rl_H X9 cb r s t h9 b n τ) (J : sp_J s) : rj_Cl X9 d yX11_patch cX11_patch 6 (some .int) [.ref cb, rj_i pt, rj_i w, rj_i sn] τ (fun w9 τ9 => w9 = some (rj_i (sp_patF s pt w sn)) ∧ rl_H X9 cb r (sp_patS s pt w sn) t h9 b n τ9 ∧ rl_z τ τ9) := by
  obtain ⟨vv, vk, c, σ, ad, rfl, hmm, hR, hN, hY, hb, h2, hT⟩ := id H
  refine ((x_patch (by omega) hpt hw hsn hR J.1)).mono (fun w9 τ9 q => ?_)
  obtain ⟨q1, q2, q3⟩ := rl_E (s := s) hmm hN hY hb h2 hT (by unfold sp_patS; split <;> (first | (exact ⟨rfl, rfl⟩) | (unfold sp_patU; have := J.1.1.2.1; exact ⟨by rw [rj_up_ne _ _ (by omega), rj_up_ne _ _ (by omega), rj_up_ne _ _ (by omega), rj_up_ne _ _ (by omega), rj_up_ne _ _ (by omega)], by rw [rj_up_ne _ _ (by omega), rj_up_ne _ _ (by omega), rj_up_ne _ _ (by omega), rj_up_ne _ _ (by omega), rj_up_ne _ _ (by omega)]⟩))) q.2
  exact ⟨q.1, q1, by show τ9.1 ≤ σ.1 + 6; omega, by show τ9.2.1 ≤ σ.2.1 + 200; omega⟩
theorem lm_patch {X9 : rj_X} {cb d : Nat} {r : rm_R} {s S t b : Int → Int} {h9 n : Int} {τ : rj_H} {pt w sn : Int} (hd : 30 ≤ d) (hpt : -2147483648 ≤ pt ∧ pt < 2147483648) (hw : -2147483648 ≤ w ∧ w < 2147483648) (hsn : -2147483648 ≤ sn ∧ sn < 2147483648) (H : rl_H X9 cb r S t h9 b n τ) (hs : r 1 = s) (J : sp_J s) : rj_Cl X9 d yX12_patch cX12_patch 5 (some .int) [.ref (cb + 92), rj_i pt, rj_i w, rj_i sn] τ (fun w9 τ9 => w9 = some (rj_i (sp_patF s pt w sn)) ∧ ∃ r0 : rm_R, rm_V r r0 (sp_patS s pt w sn) ∧ rl_H X9 cb r0 S t h9 b n τ9 ∧ τ9.1 = τ.1 ∧ τ9.2.1 = τ.2.1) := by
  obtain ⟨ρ, rfl, hqq⟩ := H.m
  refine (m_patch (by omega) hpt hw hsn hs J.1).mono (fun w9 τ9 q => ?_)
  obtain ⟨q1, r0, k, rfl⟩ := q
  exact ⟨q1, r0, k, hqq r0, rfl, rfl⟩
theorem lx_wall {X9 : rj_X} {cb d : Nat} {r : rm_R} {s t b : Int → Int} {h9 n : Int} {τ : rj_H} {pt to h : Int} (hd : 30 ≤ d) (hpt : -2147483648 ≤ pt ∧ pt < 2147483648) (hto : -2147483648 ≤ to ∧ to < 2147483648) (hh : -2147483648 ≤ h ∧ h < 2147483648) (H : rl_H X9 cb r s t h9 b n τ) (J : sp_J s) : rj_Cl X9 d yX11_wall cX11_wall 5 (some .int) [.ref cb, rj_i pt, rj_i to, rj_i h] τ (fun w9 τ9 => w9 = some (rj_i (sp_walF s pt to h)) ∧ rl_H X9 cb r (sp_walS s pt to h) t h9 b n τ9 ∧ rl_z τ τ9) := by
  obtain ⟨vv, vk, c, σ, ad, rfl, hmm, hR, hN, hY, hb, h2, hT⟩ := id H
  refine ((x_wall (by omega) hpt hto hh hR J.1 hN)).mono (fun w9 τ9 q => ?_)
  obtain ⟨q1, q2, q3⟩ := rl_G hR hmm hY hb h2 hT q.2
  exact ⟨q.1, q1, q2, q3⟩
theorem lm_wall {X9 : rj_X} {cb d : Nat} {r : rm_R} {s S t b : Int → Int} {h9 n : Int} {τ : rj_H} {pt to h : Int} (hd : 30 ≤ d) (hpt : -2147483648 ≤ pt ∧ pt < 2147483648) (hto : -2147483648 ≤ to ∧ to < 2147483648) (hh : -2147483648 ≤ h ∧ h < 2147483648) (H : rl_H X9 cb r S t h9 b n τ) (hs : r 1 = s) (J : sp_J s) : rj_Cl X9 d yX12_wall cX12_wall 5 (some .int) [.ref (cb + 92), rj_i pt, rj_i to, rj_i h] τ (fun w9 τ9 => w9 = some (rj_i (sp_walF s pt to h)) ∧ ∃ r0 : rm_R, rm_V r r0 (sp_walS s pt to h) ∧ rl_H X9 cb r0 S t h9 b n τ9 ∧ τ9.1 = τ.1 ∧ τ9.2.1 = τ.2.1) := by
  obtain ⟨ρ, rfl, hqq⟩ := H.m
  refine (m_wall (by omega) hpt hto hh hs J.1).mono (fun w9 τ9 q => ?_)
  obtain ⟨q1, r0, k, rfl⟩ := q
  exact ⟨q1, r0, k, hqq r0, rfl, rfl⟩
theorem lx_of {X9 : rj_X} {cb d : Nat} {r : rm_R} {s t b : Int → Int} {h9 n : Int} {τ : rj_H} {m k : Int} (hd : 30 ≤ d) (hm : -2147483648 ≤ m ∧ m < 2147483648) (hk : -2147483648 ≤ k ∧ k < 2147483648) (H : rl_H X9 cb r s t h9 b n τ) (J : sp_J s) : rj_Cl X9 d yX11_of cX11_of 4 (some .int) [.ref cb, rj_i m, rj_i k] τ (fun w9 τ9 => w9 = some (rj_i (sp_of s m k)) ∧ rl_H X9 cb r s t h9 b n τ9 ∧ rl_z τ τ9) := by
  obtain ⟨vv, vk, c, σ, ad, rfl, hmm, hR, hN, hY, hb, h2, hT⟩ := id H
  exact ((x_of (by omega) hm hk hR J.1)).mono (fun w9 τ9 q => ⟨q.1, by rw [q.2]; exact H, by rw [q.2]; exact ⟨by omega, by omega⟩⟩)
theorem lm_of {X9 : rj_X} {cb d : Nat} {r : rm_R} {s S t b : Int → Int} {h9 n : Int} {τ : rj_H} {m k : Int} (hd : 30 ≤ d) (hm : -2147483648 ≤ m ∧ m < 2147483648) (hk : -2147483648 ≤ k ∧ k < 2147483648) (H : rl_H X9 cb r S t h9 b n τ) (hs : r 1 = s) (J : sp_J s) : rj_Cl X9 d yX12_of cX12_of 3 (some .int) [.ref (cb + 92), rj_i m, rj_i k] τ (fun w9 τ9 => w9 = some (rj_i (sp_of s m k)) ∧ ∃ r0 : rm_R, rm_V r r0 s ∧ rl_H X9 cb r0 S t h9 b n τ9 ∧ τ9.1 = τ.1 ∧ τ9.2.1 = τ.2.1) := by
  obtain ⟨ρ, rfl, hqq⟩ := H.m
  exact (m_of (by omega) hm hk hs J.1.1.1).mono (fun w9 τ9 q => ⟨q.1, r, ⟨hs, rfl, rfl, rfl, rfl⟩, by rw [q.2]; exact hqq r, by rw [q.2], by rw [q.2]⟩)
theorem lx_is {X9 : rj_X} {cb d : Nat} {r : rm_R} {s t b : Int → Int} {h9 n : Int} {τ : rj_H} {p k : Int} (hd : 30 ≤ d) (hp : -2147483648 ≤ p ∧ p < 2147483648) (hk : -2147483648 ≤ k ∧ k < 2147483648) (H : rl_H X9 cb r s t h9 b n τ) (J : sp_J s) : rj_Cl X9 d yX11_is cX11_is 3 (some .int) [.ref cb, rj_i p, rj_i k] τ (fun w9 τ9 => w9 = some (rj_i (sp_is s p k)) ∧ rl_H X9 cb r s t h9 b n τ9 ∧ rl_z τ τ9) := by
  obtain ⟨vv, vk, c, σ, ad, rfl, hmm, hR, hN, hY, hb, h2, hT⟩ := id H
  exact ((x_is (by omega) hp hk hR J.1)).mono (fun w9 τ9 q => ⟨q.1, by rw [q.2]; exact H, by rw [q.2]; exact ⟨by omega, by omega⟩⟩)
theorem lm_is {X9 : rj_X} {cb d : Nat} {r : rm_R} {s S t b : Int → Int} {h9 n : Int} {τ : rj_H} {p k : Int} (hd : 30 ≤ d) (hp : -2147483648 ≤ p ∧ p < 2147483648) (hk : -2147483648 ≤ k ∧ k < 2147483648) (H : rl_H X9 cb r S t h9 b n τ) (hs : r 1 = s) (J : sp_J s) : rj_Cl X9 d yX12_is cX12_is 3 (some .int) [.ref (cb + 92), rj_i p, rj_i k] τ (fun w9 τ9 => w9 = some (rj_i (sp_is s p k)) ∧ ∃ r0 : rm_R, rm_V r r0 s ∧ rl_H X9 cb r0 S t h9 b n τ9 ∧ τ9.1 = τ.1 ∧ τ9.2.1 = τ.2.1) := by
  obtain ⟨ρ, rfl, hqq⟩ := H.m
  exact (m_is (by omega) hp hk hs J.1.1.2.1).mono (fun w9 τ9 q => ⟨q.1, r, ⟨hs, rfl, rfl, rfl, rfl⟩, by rw [q.2]; exact hqq r, by rw [q.2], by rw [q.2]⟩)
theorem lx_valley {X9 : rj_X} {cb d : Nat} {r : rm_R} {s t b : Int → Int} {h9 n : Int} {τ : rj_H} (hd : 30 ≤ d)  (H : rl_H X9 cb r s t h9 b n τ) (J : sp_J s) : rj_Cl X9 d yX11_valley cX11_valley 3 (some .int) [.ref cb] τ (fun w9 τ9 => w9 = some (rj_i (sp_valF s)) ∧ rl_H X9 cb r (sp_valS s) t h9 b n τ9 ∧ rl_z τ τ9) := by
  obtain ⟨vv, vk, c, σ, ad, rfl, hmm, hR, hN, hY, hb, h2, hT⟩ := id H
  refine ((x_valley (by omega)  hR J.1 hN J.2.2.2.2.2.1 J.2.2.2.2.1)).mono (fun w9 τ9 q => ?_)
  obtain ⟨q1, q2, q3⟩ := rl_G hR hmm hY hb h2 hT q.2
  exact ⟨q.1, q1, q2, q3⟩
theorem lm_valley {X9 : rj_X} {cb d : Nat} {r : rm_R} {s S t b : Int → Int} {h9 n : Int} {τ : rj_H} (hd : 30 ≤ d)  (H : rl_H X9 cb r S t h9 b n τ) (hs : r 1 = s) (J : sp_J s) : rj_Cl X9 d yX12_valley cX12_valley 2 (some .int) [.ref (cb + 92)] τ (fun w9 τ9 => w9 = some (rj_i (sp_valF s)) ∧ ∃ r0 : rm_R, rm_V r r0 (sp_valS s) ∧ rl_H X9 cb r0 S t h9 b n τ9 ∧ τ9.1 = τ.1 ∧ τ9.2.1 = τ.2.1) := by
  obtain ⟨ρ, rfl, hqq⟩ := H.m
  refine (m_valley (by omega)  hs J.1 J.2.2.2.2.1).mono (fun w9 τ9 q => ?_)
  obtain ⟨q1, r0, k, rfl⟩ := q
  exact ⟨q1, r0, k, hqq r0, rfl, rfl⟩
theorem lx_free {X9 : rj_X} {cb d : Nat} {r : rm_R} {s t b : Int → Int} {h9 n : Int} {τ : rj_H} {m p : Int} (hd : 30 ≤ d) (hm : -2147483648 ≤ m ∧ m < 2147483648) (hp : -2147483648 ≤ p ∧ p < 2147483648) (H : rl_H X9 cb r s t h9 b n τ) (J : sp_J s) : rj_Cl X9 d yX11_free cX11_free 4 (some .int) [.ref cb, rj_i m, rj_i p] τ (fun w9 τ9 => w9 = some (rj_i (sp_freeF s m p)) ∧ rl_H X9 cb r s t h9 b n τ9 ∧ rl_z τ τ9) := by
  obtain ⟨vv, vk, c, σ, ad, rfl, hmm, hR, hN, hY, hb, h2, hT⟩ := id H
  exact ((x_free (by omega) hm hp hR J.1)).mono (fun w9 τ9 q => ⟨q.1, by rw [q.2]; exact H, by rw [q.2]; exact ⟨by omega, by omega⟩⟩)
theorem lm_free {X9 : rj_X} {cb d : Nat} {r : rm_R} {s S t b : Int → Int} {h9 n : Int} {τ : rj_H} {m p : Int} (hd : 30 ≤ d) (hm : -2147483648 ≤ m ∧ m < 2147483648) (hp : -2147483648 ≤ p ∧ p < 2147483648) (H : rl_H X9 cb r S t h9 b n τ) (hs : r 1 = s) (J : sp_J s) : rj_Cl X9 d yX12_free cX12_free 3 (some .int) [.ref (cb + 92), rj_i m, rj_i p] τ (fun w9 τ9 => w9 = some (rj_i (sp_freeF s m p)) ∧ ∃ r0 : rm_R, rm_V r r0 s ∧ rl_H X9 cb r0 S t h9 b n τ9 ∧ τ9.1 = τ.1 ∧ τ9.2.1 = τ.2.1) := by
  obtain ⟨ρ, rfl, hqq⟩ := H.m
  refine (m_free (by omega) hm hp hs J.1).mono (fun w9 τ9 q => ?_)
  obtain ⟨q1, r0, k, rfl⟩ := q
  exact ⟨q1, r0, k, hqq r0, rfl, rfl⟩
theorem lx_can {X9 : rj_X} {cb d : Nat} {r : rm_R} {s t b : Int → Int} {h9 n : Int} {τ : rj_H} {m p w : Int} (hd : 30 ≤ d) (hm : -2147483648 ≤ m ∧ m < 2147483648) (hp : -2147483648 ≤ p ∧ p < 2147483648) (hw : -2147483648 ≤ w ∧ w < 2147483648) (H : rl_H X9 cb r s t h9 b n τ) (J : sp_J s) : rj_Cl X9 d yX11_can cX11_can 5 (some .int) [.ref cb, rj_i m, rj_i p, rj_i w] τ (fun w9 τ9 => w9 = some (rj_i (sp_canF s m p w)) ∧ rl_H X9 cb r s t h9 b n τ9 ∧ rl_z τ τ9) := by
  obtain ⟨vv, vk, c, σ, ad, rfl, hmm, hR, hN, hY, hb, h2, hT⟩ := id H
  refine ((x_canP (by omega) hm hp hw hR J.1)).mono (fun w9 τ9 q => ?_)
  obtain ⟨q1, c0, k, rfl⟩ := q
  exact ⟨q1, rl_t hmm hR hN hY hb h2 hT (k.le (by decide)), by show σ.1 ≤ σ.1 + 6; omega, by show σ.2.1 ≤ σ.2.1 + 200; omega⟩
theorem lm_can {X9 : rj_X} {cb d : Nat} {r : rm_R} {s S t b : Int → Int} {h9 n : Int} {τ : rj_H} {m p w : Int} (hd : 30 ≤ d) (hm : -2147483648 ≤ m ∧ m < 2147483648) (hp : -2147483648 ≤ p ∧ p < 2147483648) (hw : -2147483648 ≤ w ∧ w < 2147483648) (H : rl_H X9 cb r S t h9 b n τ) (hs : r 1 = s) (J : sp_J s) : rj_Cl X9 d yX12_can cX12_can 7 (some .int) [.ref (cb + 92), rj_i m, rj_i p, rj_i w] τ (fun w9 τ9 => w9 = some (rj_i (sp_canF s m p w)) ∧ ∃ r0 : rm_R, rm_V r r0 s ∧ rl_H X9 cb r0 S t h9 b n τ9 ∧ τ9.1 = τ.1 ∧ τ9.2.1 = τ.2.1) := by
  obtain ⟨ρ, rfl, hqq⟩ := H.m
  refine (m_can (by omega) hm hp hw hs J.1).mono (fun w9 τ9 q => ?_)
  obtain ⟨q1, r0, k, rfl⟩ := q
  exact ⟨q1, r0, k, hqq r0, rfl, rfl⟩
theorem lx_plan {X9 : rj_X} {cb d : Nat} {r : rm_R} {s t b : Int → Int} {h9 n : Int} {τ : rj_H} {m q p : Int} (hd : 30 ≤ d) (hm : -2147483648 ≤ m ∧ m < 2147483648) (hq : -2147483648 ≤ q ∧ q < 2147483648) (hp : -2147483648 ≤ p ∧ p < 2147483648) (H : rl_H X9 cb r s t h9 b n τ) (J : sp_J s) : rj_Cl X9 d yX11_plan cX11_plan 6 (some .int) [.ref cb, rj_i m, rj_i q, rj_i p] τ (fun w9 τ9 => w9 = some (rj_i (sp_planF s m q p)) ∧ rl_H X9 cb r (sp_planS s m q p) t h9 b n τ9 ∧ rl_z τ τ9) := by
  obtain ⟨vv, vk, c, σ, ad, rfl, hmm, hR, hN, hY, hb, h2, hT⟩ := id H
  refine ((x_plan (by omega) hm hq hp hR J.1)).mono (fun w9 τ9 q => ?_)
  obtain ⟨q1, q2, q3⟩ := rl_E (s := s) hmm hN hY hb h2 hT (by unfold sp_planS; split; (· exact ⟨rj_up_ne _ _ (by omega), rj_up_ne _ _ (by omega)⟩); (· exact ⟨rfl, rfl⟩)) q.2
  exact ⟨q.1, q1, by show τ9.1 ≤ σ.1 + 6; omega, by show τ9.2.1 ≤ σ.2.1 + 200; omega⟩
theorem lm_plan {X9 : rj_X} {cb d : Nat} {r : rm_R} {s S t b : Int → Int} {h9 n : Int} {τ : rj_H} {m q p : Int} (hd : 30 ≤ d) (hm : -2147483648 ≤ m ∧ m < 2147483648) (hq : -2147483648 ≤ q ∧ q < 2147483648) (hp : -2147483648 ≤ p ∧ p < 2147483648) (H : rl_H X9 cb r S t h9 b n τ) (hs : r 1 = s) (J : sp_J s) : rj_Cl X9 d yX12_plan cX12_plan 6 (some .int) [.ref (cb + 92), rj_i m, rj_i q, rj_i p] τ (fun w9 τ9 => w9 = some (rj_i (sp_planF s m q p)) ∧ ∃ r0 : rm_R, rm_V r r0 (sp_planS s m q p) ∧ rl_H X9 cb r0 S t h9 b n τ9 ∧ τ9.1 = τ.1 ∧ τ9.2.1 = τ.2.1) := by
  obtain ⟨ρ, rfl, hqq⟩ := H.m
  refine (m_plan (by omega) hm hq hp hs J.1).mono (fun w9 τ9 q => ?_)
  obtain ⟨q1, r0, k, rfl⟩ := q
  exact ⟨q1, r0, k, hqq r0, rfl, rfl⟩
theorem lx_judged {X9 : rj_X} {cb d : Nat} {r : rm_R} {s t b : Int → Int} {h9 n : Int} {τ : rj_H} (hd : 30 ≤ d)  (H : rl_H X9 cb r s t h9 b n τ) (J : sp_J s) : rj_Cl X9 d yX11_judged cX11_judged 3 (some .int) [.ref cb] τ (fun w9 τ9 => w9 = some (rj_i (sp_judF s)) ∧ rl_H X9 cb r s t h9 b n τ9 ∧ rl_z τ τ9) := by
  obtain ⟨vv, vk, c, σ, ad, rfl, hmm, hR, hN, hY, hb, h2, hT⟩ := id H
  refine ((x_judged (by omega)  hR J.1)).mono (fun w9 τ9 q => ?_)
  obtain ⟨q1, c0, k, rfl⟩ := q
  exact ⟨q1, rl_t hmm hR hN hY hb h2 hT (k.le (by decide)), by show σ.1 ≤ σ.1 + 6; omega, by show σ.2.1 ≤ σ.2.1 + 200; omega⟩
theorem lm_judged {X9 : rj_X} {cb d : Nat} {r : rm_R} {s S t b : Int → Int} {h9 n : Int} {τ : rj_H} (hd : 30 ≤ d)  (H : rl_H X9 cb r S t h9 b n τ) (hs : r 1 = s) (J : sp_J s) : rj_Cl X9 d yX12_judged cX12_judged 4 (some .int) [.ref (cb + 92)] τ (fun w9 τ9 => w9 = some (rj_i (sp_judF s)) ∧ ∃ r0 : rm_R, rm_V r r0 s ∧ rl_H X9 cb r0 S t h9 b n τ9 ∧ τ9.1 = τ.1 ∧ τ9.2.1 = τ.2.1) := by
  obtain ⟨ρ, rfl, hqq⟩ := H.m
  refine (m_judged (by omega)  hs J.1).mono (fun w9 τ9 q => ?_)
  obtain ⟨q1, r0, k, rfl⟩ := q
  exact ⟨q1, r0, k, hqq r0, rfl, rfl⟩
theorem lx_has {X9 : rj_X} {cb d : Nat} {r : rm_R} {s t b : Int → Int} {h9 n : Int} {τ : rj_H} {p w : Int} (hd : 30 ≤ d) (hp : -2147483648 ≤ p ∧ p < 2147483648) (hw : -2147483648 ≤ w ∧ w < 2147483648) (H : rl_H X9 cb r s t h9 b n τ) (J : sp_J s) : rj_Cl X9 d yX11_has cX11_has 5 (some .int) [.ref cb, rj_i p, rj_i w] τ (fun w9 τ9 => w9 = some (rj_i (sp_hasF s p w)) ∧ rl_H X9 cb r s t h9 b n τ9 ∧ rl_z τ τ9) := by
  obtain ⟨vv, vk, c, σ, ad, rfl, hmm, hR, hN, hY, hb, h2, hT⟩ := id H
  refine ((x_has (by omega) hp hw hR J.1)).mono (fun w9 τ9 q => ?_)
  obtain ⟨q1, c0, k, rfl⟩ := q
  exact ⟨q1, rl_t hmm hR hN hY hb h2 hT (k.le (by decide)), by show σ.1 ≤ σ.1 + 6; omega, by show σ.2.1 ≤ σ.2.1 + 200; omega⟩
theorem lm_has {X9 : rj_X} {cb d : Nat} {r : rm_R} {s S t b : Int → Int} {h9 n : Int} {τ : rj_H} {p w : Int} (hd : 30 ≤ d) (hp : -2147483648 ≤ p ∧ p < 2147483648) (hw : -2147483648 ≤ w ∧ w < 2147483648) (H : rl_H X9 cb r S t h9 b n τ) (hs : r 1 = s) (J : sp_J s) : rj_Cl X9 d yX12_has cX12_has 7 (some .int) [.ref (cb + 92), rj_i p, rj_i w] τ (fun w9 τ9 => w9 = some (rj_i (sp_hasF s p w)) ∧ ∃ r0 : rm_R, rm_V r r0 s ∧ rl_H X9 cb r0 S t h9 b n τ9 ∧ τ9.1 = τ.1 ∧ τ9.2.1 = τ.2.1) := by
  obtain ⟨ρ, rfl, hqq⟩ := H.m
  refine (m_has (by omega) hp hw hs J.1).mono (fun w9 τ9 q => ?_)
  obtain ⟨q1, r0, k, rfl⟩ := q
  exact ⟨q1, r0, k, hqq r0, rfl, rfl⟩
theorem lx_worth {X9 : rj_X} {cb d : Nat} {r : rm_R} {s t b : Int → Int} {h9 n : Int} {τ : rj_H} {w : Int} (hd : 30 ≤ d) (hw : -2147483648 ≤ w ∧ w < 2147483648) (H : rl_H X9 cb r s t h9 b n τ) (J : sp_J s) : rj_Cl X9 d yX11_worth cX11_worth 2 (some .int) [.ref cb, rj_i w] τ (fun w9 τ9 => w9 = some (rj_i (sp_worthF s w)) ∧ rl_H X9 cb r s t h9 b n τ9 ∧ rl_z τ τ9) := by
  obtain ⟨vv, vk, c, σ, ad, rfl, hmm, hR, hN, hY, hb, h2, hT⟩ := id H
  refine ((x_worth (by omega) hw hR J.1)).mono (fun w9 τ9 q => ?_)
  obtain ⟨q1, c0, k, rfl⟩ := q
  exact ⟨q1, rl_t hmm hR hN hY hb h2 hT (k.le (by decide)), by show σ.1 ≤ σ.1 + 6; omega, by show σ.2.1 ≤ σ.2.1 + 200; omega⟩
theorem lm_worth {X9 : rj_X} {cb d : Nat} {r : rm_R} {s S t b : Int → Int} {h9 n : Int} {τ : rj_H} {w : Int} (hd : 30 ≤ d) (hw : -2147483648 ≤ w ∧ w < 2147483648) (H : rl_H X9 cb r S t h9 b n τ) (hs : r 1 = s) (J : sp_J s) : rj_Cl X9 d yX12_worth cX12_worth 4 (some .int) [.ref (cb + 92), rj_i w] τ (fun w9 τ9 => w9 = some (rj_i (sp_worthF s w)) ∧ ∃ r0 : rm_R, rm_V r r0 s ∧ rl_H X9 cb r0 S t h9 b n τ9 ∧ τ9.1 = τ.1 ∧ τ9.2.1 = τ.2.1) := by
  obtain ⟨ρ, rfl, hqq⟩ := H.m
  refine (m_worth (by omega) hw hs J.1).mono (fun w9 τ9 q => ?_)
  obtain ⟨q1, r0, k, rfl⟩ := q
  exact ⟨q1, r0, k, hqq r0, rfl, rfl⟩
theorem lx_best {X9 : rj_X} {cb d : Nat} {r : rm_R} {s t b : Int → Int} {h9 n : Int} {τ : rj_H} {m i : Int} (hd : 30 ≤ d) (hm : -2147483648 ≤ m ∧ m < 2147483648) (hi : -2147483648 ≤ i ∧ i < 2147483648) (H : rl_H X9 cb r s t h9 b n τ) (J : sp_J s) : rj_Cl X9 d yX11_best cX11_best 4 (some .int) [.ref cb, rj_i m, rj_i i] τ (fun w9 τ9 => w9 = some (rj_i (sp_bestF s m i)) ∧ rl_H X9 cb r s t h9 b n τ9 ∧ rl_z τ τ9) := by
  obtain ⟨vv, vk, c, σ, ad, rfl, hmm, hR, hN, hY, hb, h2, hT⟩ := id H
  refine ((x_best (by omega) hm hi hR J.1)).mono (fun w9 τ9 q => ?_)
  obtain ⟨q1, c0, k, rfl⟩ := q
  exact ⟨q1, rl_t hmm hR hN hY hb h2 hT (k.le (by decide)), by show σ.1 ≤ σ.1 + 6; omega, by show σ.2.1 ≤ σ.2.1 + 200; omega⟩
theorem lm_best {X9 : rj_X} {cb d : Nat} {r : rm_R} {s S t b : Int → Int} {h9 n : Int} {τ : rj_H} {m i : Int} (hd : 30 ≤ d) (hm : -2147483648 ≤ m ∧ m < 2147483648) (hi : -2147483648 ≤ i ∧ i < 2147483648) (H : rl_H X9 cb r S t h9 b n τ) (hs : r 1 = s) (J : sp_J s) : rj_Cl X9 d yX12_best cX12_best 8 (some .int) [.ref (cb + 92), rj_i m, rj_i i] τ (fun w9 τ9 => w9 = some (rj_i (sp_bestF s m i)) ∧ ∃ r0 : rm_R, rm_V r r0 s ∧ rl_H X9 cb r0 S t h9 b n τ9 ∧ τ9.1 = τ.1 ∧ τ9.2.1 = τ.2.1) := by
  obtain ⟨ρ, rfl, hqq⟩ := H.m
  refine (m_best (by omega) hm hi hs J.1).mono (fun w9 τ9 q => ?_)
  obtain ⟨q1, r0, k, rfl⟩ := q
  exact ⟨q1, r0, k, hqq r0, rfl, rfl⟩
theorem lx_fair {X9 : rj_X} {cb d : Nat} {r : rm_R} {s t b : Int → Int} {h9 n : Int} {τ : rj_H} {w : Int} (hd : 30 ≤ d) (hw : -2147483648 ≤ w ∧ w < 2147483648) (H : rl_H X9 cb r s t h9 b n τ) (J : sp_J s) : rj_Cl X9 d yX11_fair cX11_fair 7 (some .int) [.ref cb, rj_i w] τ (fun w9 τ9 => w9 = some (rj_i (sp_fairF s w)) ∧ rl_H X9 cb r s t h9 b n τ9 ∧ rl_z τ τ9) := by
  obtain ⟨vv, vk, c, σ, ad, rfl, hmm, hR, hN, hY, hb, h2, hT⟩ := id H
  refine ((x_fair (by omega) hw hR J.1)).mono (fun w9 τ9 q => ?_)
  obtain ⟨q1, c0, k, rfl⟩ := q
  exact ⟨q1, rl_t hmm hR hN hY hb h2 hT (k.le (by decide)), by show σ.1 ≤ σ.1 + 6; omega, by show σ.2.1 ≤ σ.2.1 + 200; omega⟩
theorem lm_fair {X9 : rj_X} {cb d : Nat} {r : rm_R} {s S t b : Int → Int} {h9 n : Int} {τ : rj_H} {w : Int} (hd : 30 ≤ d) (hw : -2147483648 ≤ w ∧ w < 2147483648) (H : rl_H X9 cb r S t h9 b n τ) (hs : r 1 = s) (J : sp_J s) : rj_Cl X9 d yX12_fair cX12_fair 7 (some .int) [.ref (cb + 92), rj_i w] τ (fun w9 τ9 => w9 = some (rj_i (sp_fairF s w)) ∧ ∃ r0 : rm_R, rm_V r r0 s ∧ rl_H X9 cb r0 S t h9 b n τ9 ∧ τ9.1 = τ.1 ∧ τ9.2.1 = τ.2.1) := by
  obtain ⟨ρ, rfl, hqq⟩ := H.m
  refine (m_fair (by omega) hw hs J.1).mono (fun w9 τ9 q => ?_)
  obtain ⟨q1, r0, k, rfl⟩ := q
  exact ⟨q1, r0, k, hqq r0, rfl, rfl⟩
theorem lx_take {X9 : rj_X} {cb d : Nat} {r : rm_R} {s t b : Int → Int} {h9 n : Int} {τ : rj_H} {coin w : Int} (hd : 30 ≤ d) (hcoin : -2147483648 ≤ coin ∧ coin < 2147483648) (hw : -2147483648 ≤ w ∧ w < 2147483648) (H : rl_H X9 cb r s t h9 b n τ) (J : sp_J s) : rj_Cl X9 d yX11_take cX11_take 4 (some .int) [.ref cb, rj_i coin, rj_i w] τ (fun w9 τ9 => w9 = some (rj_i (sp_takeF s coin w)) ∧ rl_H X9 cb r s t h9 b n τ9 ∧ rl_z τ τ9) := by
  obtain ⟨vv, vk, c, σ, ad, rfl, hmm, hR, hN, hY, hb, h2, hT⟩ := id H
  refine ((x_take (by omega) hcoin hw hR J.1)).mono (fun w9 τ9 q => ?_)
  obtain ⟨q1, c0, k, rfl⟩ := q
  exact ⟨q1, rl_t hmm hR hN hY hb h2 hT (k.le (by decide)), by show σ.1 ≤ σ.1 + 6; omega, by show σ.2.1 ≤ σ.2.1 + 200; omega⟩
theorem lm_take {X9 : rj_X} {cb d : Nat} {r : rm_R} {s S t b : Int → Int} {h9 n : Int} {τ : rj_H} {coin w : Int} (hd : 30 ≤ d) (hcoin : -2147483648 ≤ coin ∧ coin < 2147483648) (hw : -2147483648 ≤ w ∧ w < 2147483648) (H : rl_H X9 cb r S t h9 b n τ) (hs : r 1 = s) (J : sp_J s) : rj_Cl X9 d yX12_take cX12_take 10 (some .int) [.ref (cb + 92), rj_i coin, rj_i w] τ (fun w9 τ9 => w9 = some (rj_i (sp_takeF s coin w)) ∧ ∃ r0 : rm_R, rm_V r r0 s ∧ rl_H X9 cb r0 S t h9 b n τ9 ∧ τ9.1 = τ.1 ∧ τ9.2.1 = τ.2.1) := by
  obtain ⟨ρ, rfl, hqq⟩ := H.m
  refine (m_take (by omega) hcoin hw hs J.1).mono (fun w9 τ9 q => ?_)
  obtain ⟨q1, r0, k, rfl⟩ := q
  exact ⟨q1, r0, k, hqq r0, rfl, rfl⟩
theorem lx_coarse {X9 : rj_X} {cb d : Nat} {r : rm_R} {s t b : Int → Int} {h9 n : Int} {τ : rj_H} {n9 : Int} (hd : 30 ≤ d) (hn9 : -2147483648 ≤ n9 ∧ n9 < 2147483648) (H : rl_H X9 cb r s t h9 b n τ) (J : sp_J s) : rj_Cl X9 d yX11_coarse cX11_coarse 6 (some .int) [.ref cb, rj_i n9] τ (fun w9 τ9 => w9 = some (rj_i (sp_coaF s n9)) ∧ rl_H X9 cb r s t h9 b n τ9 ∧ rl_z τ τ9) := by
  obtain ⟨vv, vk, c, σ, ad, rfl, hmm, hR, hN, hY, hb, h2, hT⟩ := id H
  refine ((x_coarse (by omega) hn9 hR J.1)).mono (fun w9 τ9 q => ?_)
  obtain ⟨q1, c0, k, rfl⟩ := q
  exact ⟨q1, rl_t hmm hR hN hY hb h2 hT (k.le (by decide)), by show σ.1 ≤ σ.1 + 6; omega, by show σ.2.1 ≤ σ.2.1 + 200; omega⟩
theorem lm_coarse {X9 : rj_X} {cb d : Nat} {r : rm_R} {s S t b : Int → Int} {h9 n : Int} {τ : rj_H} {n9 : Int} (hd : 30 ≤ d) (hn9 : -2147483648 ≤ n9 ∧ n9 < 2147483648) (H : rl_H X9 cb r S t h9 b n τ) (hs : r 1 = s) (J : sp_J s) : rj_Cl X9 d yX12_coarse cX12_coarse 4 (some .int) [.ref (cb + 92), rj_i n9] τ (fun w9 τ9 => w9 = some (rj_i (sp_coaF s n9)) ∧ ∃ r0 : rm_R, rm_V r r0 s ∧ rl_H X9 cb r0 S t h9 b n τ9 ∧ τ9.1 = τ.1 ∧ τ9.2.1 = τ.2.1) := by
  obtain ⟨ρ, rfl, hqq⟩ := H.m
  refine (m_coarse (by omega) hn9 hs J.1).mono (fun w9 τ9 q => ?_)
  obtain ⟨q1, r0, k, rfl⟩ := q
  exact ⟨q1, r0, k, hqq r0, rfl, rfl⟩
theorem lx_kept {X9 : rj_X} {cb d : Nat} {r : rm_R} {s t b : Int → Int} {h9 n : Int} {τ : rj_H} {p k9 part : Int} (hd : 30 ≤ d) (hp : -2147483648 ≤ p ∧ p < 2147483648) (hk9 : -2147483648 ≤ k9 ∧ k9 < 2147483648) (hpart : -2147483648 ≤ part ∧ part < 2147483648) (H : rl_H X9 cb r s t h9 b n τ) (J : sp_J s) : rj_Cl X9 d yX11_kept cX11_kept 11 (some .long) [.ref cb, rj_i p, rj_i k9, rj_i part] τ (fun w9 τ9 => w9 = some (rj_l (sp_keptF s p k9 part)) ∧ rl_H X9 cb r s t h9 b n τ9 ∧ rl_z τ τ9) := by
  obtain ⟨vv, vk, c, σ, ad, rfl, hmm, hR, hN, hY, hb, h2, hT⟩ := id H
  refine ((x_kept (by omega) hp hk9 hpart hR J.1)).mono (fun w9 τ9 q => ?_)
  obtain ⟨q1, c0, k, rfl⟩ := q
  exact ⟨q1, rl_t hmm hR hN hY hb h2 hT (k.le (by decide)), by show σ.1 ≤ σ.1 + 6; omega, by show σ.2.1 ≤ σ.2.1 + 200; omega⟩
theorem lm_kept {X9 : rj_X} {cb d : Nat} {r : rm_R} {s S t b : Int → Int} {h9 n : Int} {τ : rj_H} {p k9 part : Int} (hd : 30 ≤ d) (hp : -2147483648 ≤ p ∧ p < 2147483648) (hk9 : -2147483648 ≤ k9 ∧ k9 < 2147483648) (hpart : -2147483648 ≤ part ∧ part < 2147483648) (H : rl_H X9 cb r S t h9 b n τ) (hs : r 1 = s) (J : sp_J s) : rj_Cl X9 d yX12_kept cX12_kept 10 (some .long) [.ref (cb + 92), rj_i p, rj_i k9, rj_i part] τ (fun w9 τ9 => w9 = some (rj_l (sp_keptF s p k9 part)) ∧ ∃ r0 : rm_R, rm_V r r0 s ∧ rl_H X9 cb r0 S t h9 b n τ9 ∧ τ9.1 = τ.1 ∧ τ9.2.1 = τ.2.1) := by
  obtain ⟨ρ, rfl, hqq⟩ := H.m
  refine (m_kept (by omega) hp hk9 hpart hs J.1).mono (fun w9 τ9 q => ?_)
  obtain ⟨q1, r0, k, rfl⟩ := q
  exact ⟨q1, r0, k, hqq r0, rfl, rfl⟩
theorem lx_gone {X9 : rj_X} {cb d : Nat} {r : rm_R} {s t b : Int → Int} {h9 n : Int} {τ : rj_H} {p : Int} (hd : 30 ≤ d) (hp : -2147483648 ≤ p ∧ p < 2147483648) (H : rl_H X9 cb r s t h9 b n τ) (J : sp_J s) : rj_Cl X9 d yX11_gone cX11_gone 4 (some .int) [.ref cb, rj_i p] τ (fun w9 τ9 => w9 = some (rj_i (sp_goneF s p)) ∧ rl_H X9 cb r s t h9 b n τ9 ∧ rl_z τ τ9) := by
  obtain ⟨vv, vk, c, σ, ad, rfl, hmm, hR, hN, hY, hb, h2, hT⟩ := id H
  refine ((x_gone (by omega) hp hR J.1)).mono (fun w9 τ9 q => ?_)
  obtain ⟨q1, c0, k, rfl⟩ := q
  exact ⟨q1, rl_t hmm hR hN hY hb h2 hT (k.le (by decide)), by show σ.1 ≤ σ.1 + 6; omega, by show σ.2.1 ≤ σ.2.1 + 200; omega⟩
theorem lm_gone {X9 : rj_X} {cb d : Nat} {r : rm_R} {s S t b : Int → Int} {h9 n : Int} {τ : rj_H} {p : Int} (hd : 30 ≤ d) (hp : -2147483648 ≤ p ∧ p < 2147483648) (H : rl_H X9 cb r S t h9 b n τ) (hs : r 1 = s) (J : sp_J s) : rj_Cl X9 d yX12_gone cX12_gone 4 (some .int) [.ref (cb + 92), rj_i p] τ (fun w9 τ9 => w9 = some (rj_i (sp_goneF s p)) ∧ ∃ r0 : rm_R, rm_V r r0 s ∧ rl_H X9 cb r0 S t h9 b n τ9 ∧ τ9.1 = τ.1 ∧ τ9.2.1 = τ.2.1) := by
  obtain ⟨ρ, rfl, hqq⟩ := H.m
  refine (m_gone (by omega) hp hs J.1).mono (fun w9 τ9 q => ?_)
  obtain ⟨q1, r0, k, rfl⟩ := q
  exact ⟨q1, r0, k, hqq r0, rfl, rfl⟩
theorem lx_day {X9 : rj_X} {cb d : Nat} {r : rm_R} {s t b : Int → Int} {h9 n : Int} {τ : rj_H} (hd : 30 ≤ d)  (H : rl_H X9 cb r s t h9 b n τ) (J : sp_J s) : rj_Cl X9 d yX11_day cX11_day 3 (some .int) [.ref cb] τ (fun w9 τ9 => w9 = some (rj_i (sp_dayF s)) ∧ rl_H X9 cb r (sp_dayS s) t h9 b n τ9 ∧ rl_z τ τ9) := by
  obtain ⟨vv, vk, c, σ, ad, rfl, hmm, hR, hN, hY, hb, h2, hT⟩ := id H
  refine ((x_day (by omega)  hR J.1)).mono (fun w9 τ9 q => ?_)
  obtain ⟨q1, q2, q3⟩ := rl_E (s := s) hmm hN hY hb h2 hT (by unfold sp_dayS; split; (· exact ⟨rfl, rfl⟩); (· have hE := (sp_dayK_ag J.1 (s 1).toNat (by have := J.1.1.2.1; omega)).1; exact ⟨(rj_up_ne _ _ (by decide)).trans (hE 0 (by omega)), (rj_up_ne _ _ (by decide)).trans (hE 2 (by omega))⟩)) q.2
  exact ⟨q.1, q1, by show τ9.1 ≤ σ.1 + 6; omega, by show τ9.2.1 ≤ σ.2.1 + 200; omega⟩
theorem lm_day {X9 : rj_X} {cb d : Nat} {r : rm_R} {s S t b : Int → Int} {h9 n : Int} {τ : rj_H} (hd : 30 ≤ d)  (H : rl_H X9 cb r S t h9 b n τ) (hs : r 1 = s) (J : sp_J s) : rj_Cl X9 d yX12_day cX12_day 3 (some .int) [.ref (cb + 92)] τ (fun w9 τ9 => w9 = some (rj_i (sp_dayF s)) ∧ ∃ r0 : rm_R, rm_V r r0 (sp_dayS s) ∧ rl_H X9 cb r0 S t h9 b n τ9 ∧ τ9.1 = τ.1 ∧ τ9.2.1 = τ.2.1) := by
  obtain ⟨ρ, rfl, hqq⟩ := H.m
  refine (m_day (by omega)  hs J.1).mono (fun w9 τ9 q => ?_)
  obtain ⟨q1, r0, k, rfl⟩ := q
  exact ⟨q1, r0, k, hqq r0, rfl, rfl⟩
theorem lx_passed {X9 : rj_X} {cb d : Nat} {r : rm_R} {s t b : Int → Int} {h9 n : Int} {τ : rj_H} {m p q : Int} (hd : 30 ≤ d) (hm : -2147483648 ≤ m ∧ m < 2147483648) (hp : -2147483648 ≤ p ∧ p < 2147483648) (hq : -2147483648 ≤ q ∧ q < 2147483648) (H : rl_H X9 cb r s t h9 b n τ) (J : sp_J s) : rj_Cl X9 d yX11_passed cX11_passed 6 (some .int) [.ref cb, rj_i m, rj_i p, rj_i q] τ (fun w9 τ9 => w9 = some (rj_i (sp_pasF s m p q)) ∧ rl_H X9 cb r s t h9 b n τ9 ∧ rl_z τ τ9) := by
  obtain ⟨vv, vk, c, σ, ad, rfl, hmm, hR, hN, hY, hb, h2, hT⟩ := id H
  refine ((x_passed (by omega) hm hp hq hR J.1)).mono (fun w9 τ9 q => ?_)
  obtain ⟨q1, c0, k, rfl⟩ := q
  exact ⟨q1, rl_t hmm hR hN hY hb h2 hT (k.le (by decide)), by show σ.1 ≤ σ.1 + 6; omega, by show σ.2.1 ≤ σ.2.1 + 200; omega⟩
theorem lm_passed {X9 : rj_X} {cb d : Nat} {r : rm_R} {s S t b : Int → Int} {h9 n : Int} {τ : rj_H} {m p q : Int} (hd : 30 ≤ d) (hm : -2147483648 ≤ m ∧ m < 2147483648) (hp : -2147483648 ≤ p ∧ p < 2147483648) (hq : -2147483648 ≤ q ∧ q < 2147483648) (H : rl_H X9 cb r S t h9 b n τ) (hs : r 1 = s) (J : sp_J s) : rj_Cl X9 d yX12_passed cX12_passed 6 (some .int) [.ref (cb + 92), rj_i m, rj_i p, rj_i q] τ (fun w9 τ9 => w9 = some (rj_i (sp_pasF s m p q)) ∧ ∃ r0 : rm_R, rm_V r r0 s ∧ rl_H X9 cb r0 S t h9 b n τ9 ∧ τ9.1 = τ.1 ∧ τ9.2.1 = τ.2.1) := by
  obtain ⟨ρ, rfl, hqq⟩ := H.m
  refine (m_passed (by omega) hm hp hq hs J.1).mono (fun w9 τ9 q => ?_)
  obtain ⟨q1, r0, k, rfl⟩ := q
  exact ⟨q1, r0, k, hqq r0, rfl, rfl⟩
theorem lx_vote {X9 : rj_X} {cb d : Nat} {r : rm_R} {s t b : Int → Int} {h9 n : Int} {τ : rj_H} {x : Int} (hd : 30 ≤ d) (hx : -2147483648 ≤ x ∧ x < 2147483648) (H : rl_H X9 cb r s t h9 b n τ) (J : sp_J s) : rj_Cl X9 d yX11_vote cX11_vote 4 (some .int) [.ref cb, rj_i x] τ (fun w9 τ9 => w9 = some (rj_i (sp_voteF s x)) ∧ rl_H X9 cb r (sp_voteS s x) t h9 b n τ9 ∧ rl_z τ τ9) := by
  obtain ⟨vv, vk, c, σ, ad, rfl, hmm, hR, hN, hY, hb, h2, hT⟩ := id H
  refine ((x_vote (by omega) hx hR J.1 J.2.2.1)).mono (fun w9 τ9 q => ?_)
  obtain ⟨q1, q2, q3⟩ := rl_E (s := s) hmm hN hY hb h2 hT (by unfold sp_voteS; split; (· have h5 := J.1.1.2.2.2.2.2.1.1; exact ⟨(rj_up_ne _ _ (by decide)).trans ((rj_up_ne _ _ (by decide)).trans (sp_vtK_lo h5 (by decide) _)), (rj_up_ne _ _ (by decide)).trans ((rj_up_ne _ _ (by decide)).trans (sp_vtK_lo h5 (by decide) _))⟩); (· exact ⟨rfl, rfl⟩)) q.2
  exact ⟨q.1, q1, by show τ9.1 ≤ σ.1 + 6; omega, by show τ9.2.1 ≤ σ.2.1 + 200; omega⟩
theorem lm_vote {X9 : rj_X} {cb d : Nat} {r : rm_R} {s S t b : Int → Int} {h9 n : Int} {τ : rj_H} {x : Int} (hd : 30 ≤ d) (hx : -2147483648 ≤ x ∧ x < 2147483648) (H : rl_H X9 cb r S t h9 b n τ) (hs : r 1 = s) (J : sp_J s) : rj_Cl X9 d yX12_vote cX12_vote 6 (some .int) [.ref (cb + 92), rj_i x] τ (fun w9 τ9 => w9 = some (rj_i (sp_voteF s x)) ∧ ∃ r0 : rm_R, rm_V r r0 (sp_voteS s x) ∧ rl_H X9 cb r0 S t h9 b n τ9 ∧ τ9.1 = τ.1 ∧ τ9.2.1 = τ.2.1) := by
  obtain ⟨ρ, rfl, hqq⟩ := H.m
  refine (m_vote (by omega) hx hs J.1 J.2.2.1).mono (fun w9 τ9 q => ?_)
  obtain ⟨q1, r0, k, rfl⟩ := q
  exact ⟨q1, r0, k, hqq r0, rfl, rfl⟩
theorem lx_clear {X9 : rj_X} {cb d : Nat} {r : rm_R} {s t b : Int → Int} {h9 n : Int} {τ : rj_H} (hd : 30 ≤ d)  (H : rl_H X9 cb r s t h9 b n τ) (J : sp_J s) : rj_Cl X9 d yX11_clear cX11_clear 3 (some .int) [.ref cb] τ (fun w9 τ9 => w9 = some (rj_i (s 5)) ∧ rl_H X9 cb r (rj_up s 5 0) t h9 b n τ9 ∧ rl_z τ τ9) := by
  obtain ⟨vv, vk, c, σ, ad, rfl, hmm, hR, hN, hY, hb, h2, hT⟩ := id H
  refine ((x_clear (by omega)  hR J.1)).mono (fun w9 τ9 q => ?_)
  obtain ⟨q1, q2, q3⟩ := rl_E (s := s) hmm hN hY hb h2 hT ⟨rj_up_ne _ _ (by decide), rj_up_ne _ _ (by decide)⟩ q.2
  exact ⟨q.1, q1, by show τ9.1 ≤ σ.1 + 6; omega, by show τ9.2.1 ≤ σ.2.1 + 200; omega⟩
theorem lm_clear {X9 : rj_X} {cb d : Nat} {r : rm_R} {s S t b : Int → Int} {h9 n : Int} {τ : rj_H} (hd : 30 ≤ d)  (H : rl_H X9 cb r S t h9 b n τ) (hs : r 1 = s) (J : sp_J s) : rj_Cl X9 d yX12_clear cX12_clear 2 (some .int) [.ref (cb + 92)] τ (fun w9 τ9 => w9 = some (rj_i (s 5)) ∧ ∃ r0 : rm_R, rm_V r r0 (rj_up s 5 0) ∧ rl_H X9 cb r0 S t h9 b n τ9 ∧ τ9.1 = τ.1 ∧ τ9.2.1 = τ.2.1) := by
  obtain ⟨ρ, rfl, hqq⟩ := H.m
  refine (m_clear  hs J.1).mono (fun w9 τ9 q => ?_)
  obtain ⟨q1, r0, k, rfl⟩ := q
  exact ⟨q1, r0, k, hqq r0, rfl, rfl⟩
theorem lx_holds {X9 : rj_X} {cb d : Nat} {r : rm_R} {s t b : Int → Int} {h9 n : Int} {τ : rj_H} {w : Int} (hd : 30 ≤ d) (hw : -2147483648 ≤ w ∧ w < 2147483648) (H : rl_H X9 cb r s t h9 b n τ) (J : sp_J s) : rj_Cl X9 d yX11_holds cX11_holds 4 (some .int) [.ref cb, rj_i w] τ (fun w9 τ9 => w9 = some (rj_i (sp_holdsF s w)) ∧ rl_H X9 cb r s t h9 b n τ9 ∧ rl_z τ τ9) := by
  obtain ⟨vv, vk, c, σ, ad, rfl, hmm, hR, hN, hY, hb, h2, hT⟩ := id H
  exact ((x_holds (by omega) hw hR J.1 J.2.2.1 J.2.2.2.1)).mono (fun w9 τ9 q => ⟨q.1, by rw [q.2]; exact H, by rw [q.2]; exact ⟨by omega, by omega⟩⟩)
theorem lm_holds {X9 : rj_X} {cb d : Nat} {r : rm_R} {s S t b : Int → Int} {h9 n : Int} {τ : rj_H} {w : Int} (hd : 30 ≤ d) (hw : -2147483648 ≤ w ∧ w < 2147483648) (H : rl_H X9 cb r S t h9 b n τ) (hs : r 1 = s) (J : sp_J s) : rj_Cl X9 d yX12_holds cX12_holds 4 (some .int) [.ref (cb + 92), rj_i w] τ (fun w9 τ9 => w9 = some (rj_i (sp_holdsF s w)) ∧ ∃ r0 : rm_R, rm_V r r0 s ∧ rl_H X9 cb r0 S t h9 b n τ9 ∧ τ9.1 = τ.1 ∧ τ9.2.1 = τ.2.1) := by
  obtain ⟨ρ, rfl, hqq⟩ := H.m
  refine (m_holds (by omega) hw hs J.1 J.2.1 (sp_all_h J.1.1.2.1.1) J.2.2.1 J.2.2.2.1).mono (fun w9 τ9 q => ?_)
  obtain ⟨q1, r0, k, rfl⟩ := q
  exact ⟨q1, r0, k, hqq r0, rfl, rfl⟩
theorem lx_as {X9 : rj_X} {cb d : Nat} {r : rm_R} {s t b : Int → Int} {h9 n : Int} {τ : rj_H} {m k : Int} (hd : 30 ≤ d) (hm : -2147483648 ≤ m ∧ m < 2147483648) (hk : -2147483648 ≤ k ∧ k < 2147483648) (H : rl_H X9 cb r s t h9 b n τ) (J : sp_J s) : rj_Cl X9 d yX11_as cX11_as 4 (some .int) [.ref cb, rj_i m, rj_i k] τ (fun w9 τ9 => w9 = some (rj_i (sp_asF s m k)) ∧ rl_H X9 cb r s t h9 b n τ9 ∧ rl_z τ τ9) := by
  obtain ⟨vv, vk, c, σ, ad, rfl, hmm, hR, hN, hY, hb, h2, hT⟩ := id H
  exact ((x_as (by omega) hm hk hR J.1)).mono (fun w9 τ9 q => ⟨q.1, by rw [q.2]; exact H, by rw [q.2]; exact ⟨by omega, by omega⟩⟩)
theorem lm_as {X9 : rj_X} {cb d : Nat} {r : rm_R} {s S t b : Int → Int} {h9 n : Int} {τ : rj_H} {m k : Int} (hd : 30 ≤ d) (hm : -2147483648 ≤ m ∧ m < 2147483648) (hk : -2147483648 ≤ k ∧ k < 2147483648) (H : rl_H X9 cb r S t h9 b n τ) (hs : r 1 = s) (J : sp_J s) : rj_Cl X9 d yX12_as cX12_as 3 (some .int) [.ref (cb + 92), rj_i m, rj_i k] τ (fun w9 τ9 => w9 = some (rj_i (sp_asF s m k)) ∧ ∃ r0 : rm_R, rm_V r r0 s ∧ rl_H X9 cb r0 S t h9 b n τ9 ∧ τ9.1 = τ.1 ∧ τ9.2.1 = τ.2.1) := by
  obtain ⟨ρ, rfl, hqq⟩ := H.m
  refine (m_as (by omega) hm hk hs J.1).mono (fun w9 τ9 q => ?_)
  obtain ⟨q1, r0, k, rfl⟩ := q
  exact ⟨q1, r0, k, hqq r0, rfl, rfl⟩
theorem lx_feed {X9 : rj_X} {cb d : Nat} {r : rm_R} {s t b : Int → Int} {h9 n : Int} {τ : rj_H} {w : Int64} {c9 : Int} (hd : 30 ≤ d) (hc9 : -2147483648 ≤ c9 ∧ c9 < 2147483648) (H : rl_H X9 cb r s t h9 b n τ) (J : sp_J s) : rj_Cl X9 d yX11_feed cX11_feed 5 (some .int) [.ref cb, .long w, rj_i c9] τ (fun w9 τ9 => w9 = some (rj_i (sp_feedF s c9)) ∧ rl_H X9 cb r (sp_feedS s w c9) t h9 b n τ9 ∧ rl_z τ τ9) := by
  obtain ⟨vv, vk, c, σ, ad, rfl, hmm, hR, hN, hY, hb, h2, hT⟩ := id H
  refine ((x_feed (by omega) hc9 hR J.1)).mono (fun w9 τ9 q => ?_)
  obtain ⟨q1, q2, q3⟩ := rl_E (s := s) hmm hN hY hb h2 hT (by unfold sp_feedS; split; (· have h6 := J.1.1.2.2.2.2.2.2.1.1; exact ⟨sp_fdS_lo s w c9 h6 _ 0 (by decide) (by omega), sp_fdS_lo s w c9 h6 _ 2 (by decide) (by omega)⟩); (· exact ⟨rfl, rfl⟩)) q.2
  exact ⟨q.1, q1, by show τ9.1 ≤ σ.1 + 6; omega, by show τ9.2.1 ≤ σ.2.1 + 200; omega⟩
theorem lm_feed {X9 : rj_X} {cb d : Nat} {r : rm_R} {s S t b : Int → Int} {h9 n : Int} {τ : rj_H} {w : Int64} {c9 : Int} (hd : 30 ≤ d) (hc9 : -2147483648 ≤ c9 ∧ c9 < 2147483648) (H : rl_H X9 cb r S t h9 b n τ) (hs : r 1 = s) (J : sp_J s) : rj_Cl X9 d yX12_feed cX12_feed 5 (some .int) [.ref (cb + 92), .long w, rj_i c9] τ (fun w9 τ9 => w9 = some (rj_i (sp_feedF s c9)) ∧ ∃ r0 : rm_R, rm_V r r0 (sp_feedS s w c9) ∧ rl_H X9 cb r0 S t h9 b n τ9 ∧ τ9.1 = τ.1 ∧ τ9.2.1 = τ.2.1) := by
  obtain ⟨ρ, rfl, hqq⟩ := H.m
  refine (m_feed (by omega) hc9 hs J.1).mono (fun w9 τ9 q => ?_)
  obtain ⟨q1, r0, k, rfl⟩ := q
  exact ⟨q1, r0, k, hqq r0, rfl, rfl⟩
