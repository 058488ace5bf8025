/-! THE CLASS: mirror, wall -/
/-- elements behind the count are null -/
def rc_N (c : rm_R) (b : Nat) (s : Int → Int) : Prop := (∀ m : Int, s 0 ≤ m → m < 6 → c (b + 1) m < 0) ∧ ∀ w : Int, s 2 ≤ w → w < 8 → c (b + 9) w < 0
/-- behind a call that makes things: what stood stays -/
def rc_gr (X9 : rj_X) (vv vk : Nat) (σ : rj_H) (vv' vk' : Nat) (σ' : rj_H) : Prop := (σ.1 ≤ σ'.1 ∧ σ.2.1 ≤ σ'.2.1 ∧ σ'.1 ≤ σ.1 + 6 ∧ σ'.2.1 ≤ σ.2.1 + 200) ∧ (∀ a : Nat, a < σ.1 → a ≠ vv → a ≠ vk → σ'.2.2 a = σ.2.2 a) ∧ ((vv' = vv ∧ vk' = vk) ∨ (σ.1 ≤ vv' ∧ σ.1 ≤ vk' ∧ ∃ g g' : Int → Int, σ'.2.2 vv = some (rj_ar X9 0 5 g) ∧ σ'.2.2 vk = some (rj_ar X9 0 13 g')))
def rc_G (X9 : rj_X) (cb vv vk : Nat) (c : rm_R) (σ : rj_H) (S : Int → Int) (τ : rj_H) : Prop := ∃ (c0 : rm_R) (σ' : rj_H) (ad' : Nat → Int → Nat) (vv' vk' : Nat), rc_R X9 cb vv' vk' c0 σ' S ad' ∧ rc_gr X9 vv vk σ vv' vk' σ' ∧ (c0 0 = c 0 ∧ c0 11 = c 11 ∧ ∀ k : Nat, 32 ≤ k → k < 65 → c0 k = c k) ∧ rc_N c0 1 S ∧ τ = rc_p X9 cb vv' vk' c0 σ'
theorem rc_gr.rf {X9 : rj_X} {vv vk : Nat} {σ : rj_H} : rc_gr X9 vv vk σ vv vk σ := ⟨⟨Nat.le_refl _, Nat.le_refl _, by omega, by omega⟩, fun _ _ _ _ => rfl, Or.inl ⟨rfl, rfl⟩⟩
theorem rc_gr.new {X9 : rj_X} {vv vk n : Nat} {σ : rj_H} {e : va_E} (hn : n ≤ 200) : rc_gr X9 vv vk σ vv vk (rj_new σ n e) := ⟨⟨by show _ ≤ σ.1 + 1; omega, by show _ ≤ σ.2.1 + n; omega, by show σ.1 + 1 ≤ _; omega, by show σ.2.1 + n ≤ _; omega⟩, fun a h _ _ => rj_new_ne _ _ _ (by omega), Or.inl ⟨rfl, rfl⟩⟩
section GRW
variable {X9 : rj_X} {cb vv vk : Nat} {c c' : rm_R} {σ σ' : rj_H} {s : Int → Int} {ad : Nat → Int → Nat}
theorem rc_new {n : Nat} {e : va_E} (h : cb + 103 ≤ σ.1 ∧ vv < σ.1 ∧ vk < σ.1) : rj_new (rc_p X9 cb vv vk c σ) n e = rc_p X9 cb vv vk c (rj_new σ n e) := by
  unfold rj_new rc_p
  refine congrArg _ (congrArg _ (funext fun q => ?_))
  show (if q = σ.1 then _ else if q = vv then _ else if q = vk then _ else if cb ≤ q ∧ rc_fx (q - cb) = true then _ else σ.2.2 q) = (if q = vv then _ else if q = vk then _ else if cb ≤ q ∧ rc_fx (q - cb) = true then _ else if q = σ.1 then _ else σ.2.2 q)
  by_cases hq : q = σ.1
  · have ho : rc_out cb q := rc_out.ge (by omega)
    rw [if_pos hq, if_neg (by omega), if_neg (by omega), if_neg ho.x, if_pos hq]
  · rw [if_neg hq, if_neg hq]
/-- what stood stays in a greater heap -/
theorem rc_R.sig (h : rc_R X9 cb vv vk c σ s ad) (k : σ.1 ≤ σ'.1) (e : ∀ a : Nat, a < σ.1 → a ≠ vv → a ≠ vk → σ'.2.2 a = σ.2.2 a) : rc_R X9 cb vv vk c σ' s ad := by
  obtain ⟨h1, h2, ⟨g1, g2, g3, g4, g5, g6, g7⟩, a1, a2, a3, gs, gw, ge, vj, vm, rst, hl, ⟨v1, v2, v3, v4, v5, v6, v7, v8⟩, hr⟩ := h
  have o : ∀ a, rc_o3 cb vv vk σ a → rc_o3 cb vv vk σ' a := fun a q => ⟨q.1, q.2.1, q.2.2.1, by omega⟩
  have eq : ∀ a, rc_o3 cb vv vk σ a → σ'.2.2 a = σ.2.2 a := fun a q => e a q.2.2.2 q.2.1 q.2.2.1
  exact ⟨h1, ⟨by omega, by omega, by omega⟩, ⟨g1, fun m a b => ⟨(g2 m a b).1, o _ (g2 m a b).2.1, (eq _ (g2 m a b).2.1).trans (g2 m a b).2.2⟩, g3, fun w a b => ⟨(g4 w a b).1, o _ (g4 w a b).2.1, (eq _ (g4 w a b).2.1).trans (g4 w a b).2.2⟩, g5, g6, g7⟩, a1, a2, a3, gs, gw, ge, vj, vm, rst, hl, ⟨o _ v1, (eq _ v1).trans v2, o _ v3, (eq _ v3).trans v4, o _ v5, (eq _ v5).trans v6, o _ v7, (eq _ v7).trans v8⟩, hr⟩
theorem rc_o_up (g : Int → Int) (z : Int) (v : Nat) : rc_o (rj_up g z (v : Int)) = rj_up (rc_o g) z (some v) := by
  funext j
  unfold rc_o
  by_cases h : j = z
  · subst h; rw [rj_up_eq, rj_up_eq, if_neg (by omega)]; rfl
  · rw [rj_up_ne _ _ h, rj_up_ne _ _ h]
end GRW
section GRR
variable {X9 : rj_X} {y9 : MethodName} {cc : ByteArray} {nL : Nat} {rt9 : Option FieldType} {d9 : Nat} {P9 : Option Value → rj_H → Prop} {pc : Nat} {lv : List (Nat × Value)} {rest : List Value} {σ : rj_H} {cb vv vk : Nat} {c : rm_R} {z kd : Int} {a : Nat} {fs : List Value}
/-- a mirror into the scene's row -/
theorem rc_am (hV : rc_V cb vv vk) (ho : rc_o3 cb vv vk σ a) (hk : 0 ≤ kd ∧ kd ≤ 6) (ha : σ.2.2 a = some (.inr (rc_ci kd, fs))) (h0 : 0 ≤ z) (h1 : z < 6) (hdg : decode cc pc = .ok (.aastore, 1)) (kk : rj_Go X9 y9 cc nL rt9 d9 P9 (pc + 1) lv rest (rc_p X9 cb vv vk (rm_u c 2 (rj_up (c 2) z (a : Int))) σ)) : rj_Go X9 y9 cc nL rt9 d9 P9 pc lv (.ref a :: rj_i z :: .ref (cb + 2) :: rest) (rc_p X9 cb vv vk c σ) := by
  have hm : (rc_p X9 cb vv vk c σ).2.2 (cb + 2) = some (rj_rr X9 4 6 (rc_o (c 2))) := rc_at hV 2 rfl
  have ha2 := (rc_of (X9 := X9) (c := c) ho.1 ho.2.1 ho.2.2.1).trans ha
  have kk2 : rj_Go X9 y9 cc nL rt9 d9 P9 (pc + 1) lv rest (rj_set (rc_p X9 cb vv vk c σ) (cb + 2) (rj_rr X9 4 6 (rj_up (rc_o (c 2)) z (some a)))) := by
    rw [rc_set hV 2 rfl (g := rj_up (c 2) z (a : Int)) (show rc_k X9 cb 2 (rj_up (c 2) z (a : Int)) = _ by rw [← rc_o_up]; rfl)]
    exact kk
  revert ha2
  exact rc_kd (P := fun _ ci => (rc_p X9 cb vv vk c σ).2.2 a = some (.inr (ci, fs)) → rj_Go X9 y9 cc nL rt9 d9 P9 pc lv (.ref a :: rj_i z :: .ref (cb + 2) :: rest) (rc_p X9 cb vv vk c σ)) hk
    (fun ha => go_aast hm rfl kX2 ha (Or.inl rfl) h0 h1 (by decide) hdg kk2)
    (fun ha => go_aast hm rfl kX8 ha (Or.inr (by simp [rj_cas, RX8])) h0 h1 (by decide) hdg kk2)
    (fun ha => go_aast hm rfl kX0 ha (Or.inr (by simp [rj_cas, RX0])) h0 h1 (by decide) hdg kk2)
    (fun ha => go_aast hm rfl kX3 ha (Or.inr (by simp [rj_cas, RX3])) h0 h1 (by decide) hdg kk2)
    (fun ha => go_aast hm rfl kX1 ha (Or.inr (by simp [rj_cas, RX1])) h0 h1 (by decide) hdg kk2)
    (fun ha => go_aast hm rfl kX4 ha (Or.inr (by simp [rj_cas, RX4])) h0 h1 (by decide) hdg kk2)
    (fun ha => go_aast hm rfl kX6 ha (Or.inr (by simp [rj_cas, RX6])) h0 h1 (by decide) hdg kk2)
/-- a wall into the scene's row -/
theorem rc_aw (hV : rc_V cb vv vk) (ho : rc_o3 cb vv vk σ a) (ha : σ.2.2 a = some (.inr (10, fs))) (h0 : 0 ≤ z) (h1 : z < 8) (hdg : decode cc pc = .ok (.aastore, 1)) (kk : rj_Go X9 y9 cc nL rt9 d9 P9 (pc + 1) lv rest (rc_p X9 cb vv vk (rm_u c 10 (rj_up (c 10) z (a : Int))) σ)) : rj_Go X9 y9 cc nL rt9 d9 P9 pc lv (.ref a :: rj_i z :: .ref (cb + 10) :: rest) (rc_p X9 cb vv vk c σ) := by
  have hm : (rc_p X9 cb vv vk c σ).2.2 (cb + 10) = some (rj_rr X9 5 8 (rc_o (c 10))) := rc_at hV 10 rfl
  have kk2 : rj_Go X9 y9 cc nL rt9 d9 P9 (pc + 1) lv rest (rj_set (rc_p X9 cb vv vk c σ) (cb + 10) (rj_rr X9 5 8 (rj_up (rc_o (c 10)) z (some a)))) := by
    rw [rc_set hV 10 rfl (g := rj_up (c 10) z (a : Int)) (show rc_k X9 cb 10 (rj_up (c 10) z (a : Int)) = _ by rw [← rc_o_up]; rfl)]
    exact kk
  exact go_aast hm rfl kX10 ((rc_of (X9 := X9) (c := c) ho.1 ho.2.1 ho.2.2.1).trans ha) (Or.inl rfl) h0 h1 (by decide) hdg kk2
end GRR
/-- where a new thing stands -/
def rc_ad (ad : Nat → Int → Nat) (k0 : Nat) (i0 : Int) (v : Nat) : Nat → Int → Nat := fun k i => if k = k0 ∧ i = i0 then v else ad k i
theorem rc_ad_eq (ad : Nat → Int → Nat) (k0 : Nat) (i0 : Int) (v : Nat) : rc_ad ad k0 i0 v k0 i0 = v := if_pos ⟨rfl, rfl⟩
theorem rc_ad_ne {ad : Nat → Int → Nat} {k0 : Nat} {i0 : Int} {v k : Nat} {i : Int} (h : ¬ (k = k0 ∧ i = i0)) : rc_ad ad k0 i0 v k i = ad k i := if_neg h
section GRE
variable {X9 : rj_X} {cb vv vk : Nat} {c c0 : rm_R} {σ : rj_H} {s : Int → Int} {ad : Nat → Int → Nat}
theorem e_mirror {kd pt mk : Int} (hR : rc_R X9 cb vv vk c σ s ad) (hI : sp_I s) (hN : rc_N c 1 s) (hs : s 0 < 6) (e1 : c0 1 = rj_up (c 1) 1 (s 0 + 1)) (e2 : c0 2 = rj_up (c 2) (s 0) (σ.1 : Int)) (ec : ∀ k : Nat, k ≠ 1 → k ≠ 2 → c0 k = c k) : rc_G X9 cb vv vk c σ (sp_mirU s kd pt mk) (rc_p X9 cb vv vk c0 (rj_new σ 8 (.inr (rc_ci kd, rk_mf kd (s 0) pt mk)))) := by
  obtain ⟨⟨h0, h1, h2, h3, h4, h5, h6, h7⟩, hM, hP, hW, hL, hV⟩ := id hI
  obtain ⟨v1, v2, v3, v4⟩ := id hV
  have hz := hR.2.1
  have hR2 := hR.sig (σ' := rj_new σ 8 (.inr (rc_ci kd, rk_mf kd (s 0) pt mk))) (by show _ ≤ σ.1 + 1; omega) (fun a h _ _ => rj_new_ne _ _ _ (by omega))
  obtain ⟨r1, r2, ⟨g1, g2, g3, g4, g5, g6, g7⟩, r4⟩ := hR2
  have E0 : sp_mirU s kd pt mk 0 = s 0 + 1 := rj_up_eq _ _ _
  have E : ∀ j : Int, j ≠ 0 → ¬ (130 ≤ j ∧ j < 172) → sp_mirU s kd pt mk j = s j := fun j a b => by
    unfold sp_mirU
    rw [rj_up_ne _ _ a, rj_up_ne _ _ (by omega), rj_up_ne _ _ (by omega), rj_up_ne _ _ (by omega), rj_up_ne _ _ (by omega), rj_up_ne _ _ (by omega), rj_up_ne _ _ (by omega), rj_up_ne _ _ (by omega)]
  have Em : ∀ (b m : Int), (b = 130 ∨ b = 136 ∨ b = 142 ∨ b = 148 ∨ b = 154 ∨ b = 160 ∨ b = 166) → 0 ≤ m → m < s 0 → sp_mirU s kd pt mk (b + m) = s (b + m) := fun b m hb a e => by
    unfold sp_mirU
    rw [rj_up_ne _ _ (by omega), rj_up_ne _ _ (by omega), rj_up_ne _ _ (by omega), rj_up_ne _ _ (by omega), rj_up_ne _ _ (by omega), rj_up_ne _ _ (by omega), rj_up_ne _ _ (by omega), rj_up_ne _ _ (by omega)]
  refine ⟨c0, _, rc_ad ad 0 (s 0) σ.1, vv, vk, ⟨r1, r2, ⟨?_, ?_, rg_pat g3 (E 1 (by omega) (by omega)) (fun j a b => E j (by omega) (by omega)) (fun k a b => ec k (by omega) (by omega)), ?_, rg_tap g5 h6.2 (E 6 (by omega) (by omega)) (fun j a b => E j (by omega) (by omega)) (ec 11 (by omega) (by omega)), rg_pln g6 (fun j a b => E j (by omega) (by omega)) (fun k a b => ec k (by omega) (by omega)), rg_ahd g7 h5 (E 5 (by omega) (by omega)) (E 8 (by omega) (by omega)) (fun j a b => E j (by omega) (by omega)) (fun k a b => ec k (by omega) (by omega))⟩, ?_⟩, rc_gr.new (by decide), ⟨ec 0 (by omega) (by omega), ec 11 (by omega) (by omega), fun k a b => ec k (by omega) (by omega)⟩, ⟨?_, ?_⟩, rfl⟩
  · rw [e1, E0, E 1 (by omega) (by omega), E 2 (by omega) (by omega), E 6 (by omega) (by omega), E 3 (by omega) (by omega), E 4 (by omega) (by omega), E 5 (by omega) (by omega), E 8 (by omega) (by omega)]
    obtain ⟨b1, b2, b3, b4, b5, b6, b7, b8, b9⟩ := g1
    exact ⟨rj_up_eq _ _ _, by rw [rj_up_ne _ _ (by decide)]; exact b2, by rw [rj_up_ne _ _ (by decide)]; exact b3, by rw [rj_up_ne _ _ (by decide)]; exact b4, by rw [rj_up_ne _ _ (by decide), rc_ad_ne (fun q => absurd q.1 (by decide))]; exact b5, by rw [rj_up_ne _ _ (by decide)]; exact b6, by rw [rj_up_ne _ _ (by decide)]; exact b7, by rw [rj_up_ne _ _ (by decide)]; exact b8, by rw [rj_up_ne _ _ (by decide)]; exact b9⟩
  · intro m m0 m1
    rw [E0] at m1
    by_cases hm : m = s 0
    · subst hm
      refine ⟨by rw [show 1 + 1 = 2 from rfl, e2, rj_up_eq, rc_ad_eq], ?_⟩
      rw [rc_ad_eq]
      refine ⟨⟨rc_out.ge (by omega), by omega, by omega, by show _ < σ.1 + 1; omega⟩, (rj_new_eq _ _ _).trans ?_⟩
      unfold rc_mf rk_mf sp_mirU
      rw [show (rj_up (rj_up (rj_up (rj_up (rj_up (rj_up (rj_up (rj_up s (130 + s 0) (kd)) (136 + s 0) (pt / 100)) (142 + s 0) (pt % 100)) (148 + s 0) (mk / 100 % 100)) (154 + s 0) (mk / 10 % 10)) (160 + s 0) (mk / 10000)) (166 + s 0) (mk % 10)) (0) (s 0 + 1)) (130 + s 0) = kd by rw [rj_up_ne _ _ (by omega), rj_up_ne _ _ (by omega), rj_up_ne _ _ (by omega), rj_up_ne _ _ (by omega), rj_up_ne _ _ (by omega), rj_up_ne _ _ (by omega), rj_up_ne _ _ (by omega), rj_up_eq],
        show (rj_up (rj_up (rj_up (rj_up (rj_up (rj_up (rj_up (rj_up s (130 + s 0) (kd)) (136 + s 0) (pt / 100)) (142 + s 0) (pt % 100)) (148 + s 0) (mk / 100 % 100)) (154 + s 0) (mk / 10 % 10)) (160 + s 0) (mk / 10000)) (166 + s 0) (mk % 10)) (0) (s 0 + 1)) (136 + s 0) = pt / 100 by rw [rj_up_ne _ _ (by omega), rj_up_ne _ _ (by omega), rj_up_ne _ _ (by omega), rj_up_ne _ _ (by omega), rj_up_ne _ _ (by omega), rj_up_ne _ _ (by omega), rj_up_eq],
        show (rj_up (rj_up (rj_up (rj_up (rj_up (rj_up (rj_up (rj_up s (130 + s 0) (kd)) (136 + s 0) (pt / 100)) (142 + s 0) (pt % 100)) (148 + s 0) (mk / 100 % 100)) (154 + s 0) (mk / 10 % 10)) (160 + s 0) (mk / 10000)) (166 + s 0) (mk % 10)) (0) (s 0 + 1)) (142 + s 0) = pt % 100 by rw [rj_up_ne _ _ (by omega), rj_up_ne _ _ (by omega), rj_up_ne _ _ (by omega), rj_up_ne _ _ (by omega), rj_up_ne _ _ (by omega), rj_up_eq],
        show (rj_up (rj_up (rj_up (rj_up (rj_up (rj_up (rj_up (rj_up s (130 + s 0) (kd)) (136 + s 0) (pt / 100)) (142 + s 0) (pt % 100)) (148 + s 0) (mk / 100 % 100)) (154 + s 0) (mk / 10 % 10)) (160 + s 0) (mk / 10000)) (166 + s 0) (mk % 10)) (0) (s 0 + 1)) (148 + s 0) = mk / 100 % 100 by rw [rj_up_ne _ _ (by omega), rj_up_ne _ _ (by omega), rj_up_ne _ _ (by omega), rj_up_ne _ _ (by omega), rj_up_eq],
        show (rj_up (rj_up (rj_up (rj_up (rj_up (rj_up (rj_up (rj_up s (130 + s 0) (kd)) (136 + s 0) (pt / 100)) (142 + s 0) (pt % 100)) (148 + s 0) (mk / 100 % 100)) (154 + s 0) (mk / 10 % 10)) (160 + s 0) (mk / 10000)) (166 + s 0) (mk % 10)) (0) (s 0 + 1)) (154 + s 0) = mk / 10 % 10 by rw [rj_up_ne _ _ (by omega), rj_up_ne _ _ (by omega), rj_up_ne _ _ (by omega), rj_up_eq],
        show (rj_up (rj_up (rj_up (rj_up (rj_up (rj_up (rj_up (rj_up s (130 + s 0) (kd)) (136 + s 0) (pt / 100)) (142 + s 0) (pt % 100)) (148 + s 0) (mk / 100 % 100)) (154 + s 0) (mk / 10 % 10)) (160 + s 0) (mk / 10000)) (166 + s 0) (mk % 10)) (0) (s 0 + 1)) (160 + s 0) = mk / 10000 by rw [rj_up_ne _ _ (by omega), rj_up_ne _ _ (by omega), rj_up_eq],
        show (rj_up (rj_up (rj_up (rj_up (rj_up (rj_up (rj_up (rj_up s (130 + s 0) (kd)) (136 + s 0) (pt / 100)) (142 + s 0) (pt % 100)) (148 + s 0) (mk / 100 % 100)) (154 + s 0) (mk / 10 % 10)) (160 + s 0) (mk / 10000)) (166 + s 0) (mk % 10)) (0) (s 0 + 1)) (166 + s 0) = mk % 10 by rw [rj_up_ne _ _ (by omega), rj_up_eq]]
    · have ha : ¬ (0 = 0 ∧ m = s 0) := fun q => hm q.2
      have := g2 m m0 (by omega)
      refine ⟨by rw [show 1 + 1 = 2 from rfl, e2, rj_up_ne _ _ hm, rc_ad_ne ha]; exact this.1, ?_⟩
      rw [rc_ad_ne ha]
      refine ⟨this.2.1, this.2.2.trans ?_⟩
      unfold rc_mf
      rw [Em 130 m (by omega) m0 (by omega), Em 136 m (by omega) m0 (by omega), Em 142 m (by omega) m0 (by omega), Em 148 m (by omega) m0 (by omega), Em 154 m (by omega) m0 (by omega), Em 160 m (by omega) m0 (by omega), Em 166 m (by omega) m0 (by omega)]
  · intro w w0 w1
    have ha : ¬ (1 = 0 ∧ w = s 0) := fun q => absurd q.1 (by decide)
    rw [rc_ad_ne ha]
    exact rg_wal g4 h2.2 (E 2 (by omega) (by omega)) (fun j a b => E j (by omega) (by omega)) (ec 10 (by omega) (by omega)) w w0 w1
  · have ha : ¬ (2 = 0 ∧ (0 : Int) = s 0) := fun q => absurd q.1 (by decide)
    rw [rc_ad_ne ha]
    exact rg_vy r4 h7 v1 (E 7 (by omega) (by omega)) (fun j a b => E j (by omega) (by omega))
  · intro m a b
    rw [E0] at a
    rw [show 1 + 1 = 2 from rfl, e2, rj_up_ne _ _ (by omega)]
    exact hN.1 m (by omega) b
  · intro w a b
    rw [E 2 (by omega) (by omega)] at a
    rw [show 1 + 9 = 10 from rfl, ec 10 (by omega) (by omega)]
    exact hN.2 w a b
theorem e_wall {pt to h : Int} (hR : rc_R X9 cb vv vk c σ s ad) (hI : sp_I s) (hN : rc_N c 1 s) (hs : s 2 < 8) (e1 : c0 1 = rj_up (c 1) 5 (s 2 + 1)) (e2 : c0 10 = rj_up (c 10) (s 2) (σ.1 : Int)) (ec : ∀ k : Nat, k ≠ 1 → k ≠ 10 → c0 k = c k) : rc_G X9 cb vv vk c σ (sp_walU s pt to h) (rc_p X9 cb vv vk c0 (rj_new σ 5 (.inr (10, rk_wf pt to h)))) := by
  obtain ⟨⟨h0, h1, h2, h3, h4, h5, h6, h7⟩, hM, hP, hW, hL, hV⟩ := id hI
  obtain ⟨v1, v2, v3, v4⟩ := id hV
  have hz := hR.2.1
  have hR2 := hR.sig (σ' := rj_new σ 5 (.inr (10, rk_wf pt to h))) (by show _ ≤ σ.1 + 1; omega) (fun a h _ _ => rj_new_ne _ _ _ (by omega))
  obtain ⟨r1, r2, ⟨g1, g2, g3, g4, g5, g6, g7⟩, r4⟩ := hR2
  obtain ⟨S', hS'⟩ : ∃ x_, x_ = sp_walU s pt to h := ⟨_, rfl⟩
  have E0 : S' 2 = s 2 + 1 := by rw [hS']; exact rj_up_eq _ _ _
  have E : ∀ j : Int, j ≠ 2 → ¬ (196 ≤ j ∧ j < 236) → S' j = s j := fun j a b => by
    rw [hS']; unfold sp_walU
    rw [rj_up_ne _ _ a, rj_up_ne _ _ (by omega), rj_up_ne _ _ (by omega), rj_up_ne _ _ (by omega), rj_up_ne _ _ (by omega), rj_up_ne _ _ (by omega)]
  have Em : ∀ (b m : Int), (b = 196 ∨ b = 204 ∨ b = 212 ∨ b = 220 ∨ b = 228) → 0 ≤ m → m < s 2 → S' (b + m) = s (b + m) := fun b m hb a e => by
    rw [hS']; unfold sp_walU
    rw [rj_up_ne _ _ (by omega), rj_up_ne _ _ (by omega), rj_up_ne _ _ (by omega), rj_up_ne _ _ (by omega), rj_up_ne _ _ (by omega), rj_up_ne _ _ (by omega)]
  have F1 : S' (196 + s 2) = pt / 100 := by rw [hS']; unfold sp_walU; rw [rj_up_ne _ _ (by omega), rj_up_ne _ _ (by omega), rj_up_ne _ _ (by omega), rj_up_ne _ _ (by omega), rj_up_ne _ _ (by omega), rj_up_eq]
  have F2 : S' (204 + s 2) = pt % 100 := by rw [hS']; unfold sp_walU; rw [rj_up_ne _ _ (by omega), rj_up_ne _ _ (by omega), rj_up_ne _ _ (by omega), rj_up_ne _ _ (by omega), rj_up_eq]
  have F3 : S' (212 + s 2) = to / 100 := by rw [hS']; unfold sp_walU; rw [rj_up_ne _ _ (by omega), rj_up_ne _ _ (by omega), rj_up_ne _ _ (by omega), rj_up_eq]
  have F4 : S' (220 + s 2) = to % 100 := by rw [hS']; unfold sp_walU; rw [rj_up_ne _ _ (by omega), rj_up_ne _ _ (by omega), rj_up_eq]
  have F5 : S' (228 + s 2) = h := by rw [hS']; unfold sp_walU; rw [rj_up_ne _ _ (by omega), rj_up_eq]
  rw [← hS']
  refine ⟨c0, _, rc_ad ad 1 (s 2) σ.1, vv, vk, ⟨r1, r2, ⟨?_, ?_, rg_pat g3 (E 1 (by omega) (by omega)) (fun j a b => E j (by omega) (by omega)) (fun k a b => ec k (by omega) (by omega)), ?_, rg_tap g5 h6.2 (E 6 (by omega) (by omega)) (fun j a b => E j (by omega) (by omega)) (ec 11 (by omega) (by omega)), rg_pln g6 (fun j a b => E j (by omega) (by omega)) (fun k a b => ec k (by omega) (by omega)), rg_ahd g7 h5 (E 5 (by omega) (by omega)) (E 8 (by omega) (by omega)) (fun j a b => E j (by omega) (by omega)) (fun k a b => ec k (by omega) (by omega))⟩, ?_⟩, rc_gr.new (by decide), ⟨ec 0 (by omega) (by omega), ec 11 (by omega) (by omega), fun k a b => ec k (by omega) (by omega)⟩, ⟨?_, ?_⟩, rfl⟩
  · rw [e1, E0, E 0 (by omega) (by omega), E 1 (by omega) (by omega), E 6 (by omega) (by omega), E 3 (by omega) (by omega), E 4 (by omega) (by omega), E 5 (by omega) (by omega), E 8 (by omega) (by omega)]
    obtain ⟨b1, b2, b3, b4, b5, b6, b7, b8, b9⟩ := g1
    exact ⟨by rw [rj_up_ne _ _ (by decide)]; exact b1, by rw [rj_up_ne _ _ (by decide)]; exact b2, rj_up_eq _ _ _, by rw [rj_up_ne _ _ (by decide)]; exact b4, by rw [rj_up_ne _ _ (by decide), rc_ad_ne (fun q => absurd q.1 (by decide))]; exact b5, by rw [rj_up_ne _ _ (by decide)]; exact b6, by rw [rj_up_ne _ _ (by decide)]; exact b7, by rw [rj_up_ne _ _ (by decide)]; exact b8, by rw [rj_up_ne _ _ (by decide)]; exact b9⟩
  · intro m m0 m1
    have ha : ¬ (0 = 1 ∧ m = s 2) := fun q => absurd q.1 (by decide)
    rw [rc_ad_ne ha]
    exact rg_mir g2 h0.2 (E 0 (by omega) (by omega)) (fun j a b => E j (by omega) (by omega)) (ec 2 (by omega) (by omega)) m m0 m1
  · intro w w0 w1
    rw [E0] at w1
    by_cases hm : w = s 2
    · subst hm
      refine ⟨by rw [show 1 + 9 = 10 from rfl, e2, rj_up_eq, rc_ad_eq], ?_⟩
      rw [rc_ad_eq]
      refine ⟨⟨rc_out.ge (by omega), by omega, by omega, by show _ < σ.1 + 1; omega⟩, (rj_new_eq _ _ _).trans ?_⟩
      unfold rk_wf
      rw [F1, F2, F3, F4, F5]
    · have ha : ¬ (1 = 1 ∧ w = s 2) := fun q => hm q.2
      have := g4 w w0 (by omega)
      refine ⟨by rw [show 1 + 9 = 10 from rfl, e2, rj_up_ne _ _ hm, rc_ad_ne ha]; exact this.1, ?_⟩
      rw [rc_ad_ne ha]
      refine ⟨this.2.1, this.2.2.trans ?_⟩
      rw [Em 196 w (by omega) w0 (by omega), Em 204 w (by omega) w0 (by omega), Em 212 w (by omega) w0 (by omega), Em 220 w (by omega) w0 (by omega), Em 228 w (by omega) w0 (by omega)]
  · have ha : ¬ (2 = 1 ∧ (0 : Int) = s 2) := fun q => absurd q.1 (by decide)
    rw [rc_ad_ne ha]
    exact rg_vy r4 h7 v1 (E 7 (by omega) (by omega)) (fun j a b => E j (by omega) (by omega))
  · intro m a b
    rw [E 0 (by omega) (by omega)] at a
    rw [show 1 + 1 = 2 from rfl, ec 2 (by omega) (by omega)]
    exact hN.1 m a b
  · intro w a b
    rw [E0] at a
    rw [show 1 + 9 = 10 from rfl, e2, rj_up_ne _ _ (by omega)]
    exact hN.2 w (by omega) b
theorem e_same (hR : rc_R X9 cb vv vk c σ s ad) (hN : rc_N c 1 s) : rc_G X9 cb vv vk c σ s (rc_p X9 cb vv vk c σ) := ⟨c, σ, ad, vv, vk, hR, rc_gr.rf, ⟨rfl, rfl, fun _ _ _ => rfl⟩, hN, rfl⟩
end GRE
set_option maxRecDepth 20000 in
/-- x_mirror -/
theorem x_mirror {X9 : rj_X} {σ : rj_H} {d cb vv vk : Nat} {c : rm_R} {kd pt mk : Int} (hd : 5 ≤ d) (hkd : -2147483648 ≤ kd ∧ kd < 2147483648) (hpt : -2147483648 ≤ pt ∧ pt < 2147483648) (hmk : -2147483648 ≤ mk ∧ mk < 2147483648) {s : Int → Int} {ad : Nat → Int → Nat} (hR : rc_R X9 cb vv vk c σ s ad) (hI : sp_I s) (hN : rc_N c 1 s) : rj_Cl X9 d yX11_mirror cX11_mirror 5 (some .int) [.ref cb, rj_i kd, rj_i pt, rj_i mk] (rc_p X9 cb vv vk c σ) (fun w9 τ => w9 = some (rj_i (sp_mirF s kd pt mk)) ∧ rc_G X9 cb vv vk c σ (sp_mirS s kd pt mk) τ) := by
  obtain ⟨⟨h0, h1, h2, h3, h4, h5, h6, h7⟩, hM, hP, hW, hL, hV⟩ := id hI
  obtain ⟨v1, v2, v3, v4⟩ := id hV
  have hz := hR.2.1
  refine go_call (by decide +kernel) (Nat.le_of_ble_eq_true rfl) ?_
  refine go_eq (pc' := 0) (lv' := [(0, .ref cb), (1, rj_i kd), (2, rj_i pt), (3, rj_i mk)]) (st' := []) rfl rfl rfl rfl ?_
  refine go_iload_n dX11_mirror_0 rfl 1 rfl ?_
  refine go_if_ltI (tgt := 10) (by omega) dX11_mirror_1 (by decide) (fun c_1 => ?_) (fun c_1 => ?_)
  · refine go_iconst (v := Int32.ofInt (-1)) dX11_mirror_10 rfl ?_
    refine go_retI rfl rfl ?_ dX11_mirror_11
    exact ⟨rj_vi (by unfold sp_mirF; (repeat' split) <;> omega), (by unfold sp_mirS; rw [if_neg (by omega)]; exact e_same hR hN)⟩
  · refine go_iload_n dX11_mirror_4 rfl 1 rfl ?_
    refine go_bipush (v := Int32.ofInt 7) dX11_mirror_5 (by decide) ?_
    refine go_icmp_ltI (tgt := 12) (by omega) (by omega) dX11_mirror_7 (by decide) (fun c_7 => ?_) (fun c_7 => ?_)
    · refine go_iload_n dX11_mirror_12 rfl 2 rfl ?_
      refine go_callS (d1 := d - 1) wSX11_53 rfl (by omega) (x_point (a := pt) (by omega)) rfl (Nat.le_of_ble_eq_true rfl) dX11_mirror_13 (fun w σ1 hP9 => ?_)
      obtain ⟨rfl, rfl⟩ := hP9
      refine go_if_eqB (tgt := 26) dX11_mirror_16 (by decide) (fun c_16 => ?_) (fun c_16 => ?_)
      · refine go_bipush (v := Int32.ofInt (-2)) dX11_mirror_26 (by decide) ?_
        refine go_retI rfl rfl ?_ dX11_mirror_28
        exact ⟨rj_vi (by unfold sp_mirF; (repeat' split) <;> omega), (by unfold sp_mirS; rw [if_neg (by omega)]; exact e_same hR hN)⟩
      · refine go_iload_n dX11_mirror_19 rfl 3 rfl ?_
        refine go_callS (d1 := d - 1) wSX11_57 rfl (by omega) (x_make (mk := mk) (by omega) (by omega)) rfl (Nat.le_of_ble_eq_true rfl) dX11_mirror_20 (fun w σ1 hP9 => ?_)
        obtain ⟨rfl, rfl⟩ := hP9
        refine go_if_neB (tgt := 29) dX11_mirror_23 (by decide) (fun c_23 => ?_) (fun c_23 => ?_)
        · refine go_aload_n dX11_mirror_29 rfl 0 rfl ?_
          refine rc_gx hR.V (k := 0) (by decide) fX11_12 rfl dX11_mirror_30 ?_
          refine rc_gs hR.V (k := 1) (v := rj_i (s 0)) (by decide) fX11_60 (rj_vi hR.n0) dX11_mirror_33 ?_
          refine go_bipush (v := Int32.ofInt 6) dX11_mirror_36 (by decide) ?_
          refine go_icmp_ltI (tgt := 44) (by omega) (by omega) dX11_mirror_38 (by decide) (fun c_38 => ?_) (fun c_38 => ?_)
          · refine go_aload_n dX11_mirror_44 rfl 0 rfl ?_
            refine rc_gx hR.V (k := 0) (by decide) fX11_12 rfl dX11_mirror_45 ?_
            refine rc_gs hR.V (k := 1) (v := rj_i (s 0)) (by decide) fX11_60 (rj_vi hR.n0) dX11_mirror_48 ?_
            refine go_istoreS (lv' := [(0, .ref cb), (1, rj_i kd), (2, rj_i pt), (3, rj_i mk), (4, rj_i (s 0))]) (by decide) rfl dX11_mirror_51 ?_
            refine go_aload_n dX11_mirror_53 rfl 0 rfl ?_
            refine rc_gx hR.V (k := 0) (by decide) fX11_12 rfl dX11_mirror_54 ?_
            refine rc_gs hR.V (k := 0) (v := .ref (cb + 2)) (by decide) fX11_64 rfl dX11_mirror_57 ?_
            refine go_iload dX11_mirror_60 4 rfl ?_
            refine go_iload_n dX11_mirror_62 rfl 1 rfl ?_
            refine go_iload dX11_mirror_63 4 rfl ?_
            refine go_iload_n dX11_mirror_65 rfl 2 rfl ?_
            refine go_iload_n dX11_mirror_66 rfl 3 rfl ?_
            refine go_callS (d1 := d - 1) wSX11_68 rfl (by omega) (k_newMirror (kd := kd) (nb := s 0) (t := pt) (w := mk) (by omega) (by omega) (by omega) (by omega)) rfl (Nat.le_of_ble_eq_true rfl) dX11_mirror_67 (fun w σ1 hP9 => ?_)
            obtain ⟨rfl, rfl⟩ := hP9
            rw [rc_new hR.2.1]
            refine rc_am (a := σ.1) (kd := kd) hR.V ⟨rc_out.ge (by omega), by omega, by omega, by show _ < σ.1 + 1; omega⟩ (by omega) (rj_new_eq _ _ _) (by omega) (by omega) dX11_mirror_70 ?_
            refine go_aload_n dX11_mirror_71 rfl 0 rfl ?_
            refine rc_gx hR.V (k := 0) (by decide) fX11_12 rfl dX11_mirror_72 ?_
            refine go_dup dX11_mirror_75 rfl ?_
            refine rc_gs hR.V (k := 1) (by decide) fX11_60 rfl dX11_mirror_76 ?_
            rw [show (rm_u c 2 (rj_up (c 2) (s 0) (σ.1 : Int))) 1 = (c 1) from ((rm_u_ne _ _ (by omega)).trans (show c 1 = (c 1) from rfl))]
            rw [show c 1 1 = s 0 from hR.n0]
            refine go_iconst (v := Int32.ofInt 1) dX11_mirror_79 rfl ?_
            refine go_addI dX11_mirror_80 ?_
            refine rc_ps1 hR.V fX11_60 dX11_mirror_81 ?_
            refine go_iload dX11_mirror_84 4 rfl ?_
            refine go_retI rfl rfl ?_ dX11_mirror_86
            exact ⟨rj_vi (by unfold sp_mirF; (repeat' split) <;> omega), (by unfold sp_mirS; rw [if_pos (by omega)]; exact e_mirror hR hI hN (by omega) (show (rm_u (rm_u c 2 (rj_up (c 2) (s 0) (σ.1 : Int))) 1 (rj_up ((rm_u c 2 (rj_up (c 2) (s 0) (σ.1 : Int))) 1) 1 ((s 0) + 1))) 1 = (rj_up (c 1) 1 ((s 0) + 1)) from (congrArg (fun zz => rj_up zz 1 ((s 0) + 1)) (show (rm_u c 2 (rj_up (c 2) (s 0) (σ.1 : Int))) 1 = (c 1) from ((rm_u_ne _ _ (by omega)).trans (show c 1 = (c 1) from rfl))))) ((rm_u_ne _ _ (by decide)).trans (rm_u_eq _ _ _)) (fun k a b => (rm_u_ne _ _ a).trans (rm_u_ne _ _ b)))⟩
          · refine go_bipush (v := Int32.ofInt (-4)) dX11_mirror_41 (by decide) ?_
            refine go_retI rfl rfl ?_ dX11_mirror_43
            exact ⟨rj_vi (by unfold sp_mirF; (repeat' split) <;> omega), (by unfold sp_mirS; rw [if_neg (by omega)]; exact e_same hR hN)⟩
        · refine go_bipush (v := Int32.ofInt (-2)) dX11_mirror_26 (by decide) ?_
          refine go_retI rfl rfl ?_ dX11_mirror_28
          exact ⟨rj_vi (by unfold sp_mirF; (repeat' split) <;> omega), (by unfold sp_mirS; rw [if_neg (by omega)]; exact e_same hR hN)⟩
    · refine go_iconst (v := Int32.ofInt (-1)) dX11_mirror_10 rfl ?_
      refine go_retI rfl rfl ?_ dX11_mirror_11
      exact ⟨rj_vi (by unfold sp_mirF; (repeat' split) <;> omega), (by unfold sp_mirS; rw [if_neg (by omega)]; exact e_same hR hN)⟩
set_option maxRecDepth 20000 in
/-- x_wall -/
theorem x_wall {X9 : rj_X} {σ : rj_H} {d cb vv vk : Nat} {c : rm_R} {pt to h : Int} (hd : 2 ≤ d) (hpt : -2147483648 ≤ pt ∧ pt < 2147483648) (hto : -2147483648 ≤ to ∧ to < 2147483648) (hh : -2147483648 ≤ h ∧ h < 2147483648) {s : Int → Int} {ad : Nat → Int → Nat} (hR : rc_R X9 cb vv vk c σ s ad) (hI : sp_I s) (hN : rc_N c 1 s) : rj_Cl X9 d yX11_wall cX11_wall 5 (some .int) [.ref cb, rj_i pt, rj_i to, rj_i h] (rc_p X9 cb vv vk c σ) (fun w9 τ => w9 = some (rj_i (sp_walF s pt to h)) ∧ rc_G X9 cb vv vk c σ (sp_walS s pt to h) τ) := by
  obtain ⟨⟨h0, h1, h2, h3, h4, h5, h6, h7⟩, hM, hP, hW, hL, hV⟩ := id hI
  obtain ⟨v1, v2, v3, v4⟩ := id hV
  have hz := hR.2.1
  refine go_call (by decide +kernel) (Nat.le_of_ble_eq_true rfl) ?_
  refine go_eq (pc' := 0) (lv' := [(0, .ref cb), (1, rj_i pt), (2, rj_i to), (3, rj_i h)]) (st' := []) rfl rfl rfl rfl ?_
  refine go_iload_n dX11_wall_0 rfl 1 rfl ?_
  refine go_callS (d1 := d - 1) wSX11_53 rfl (by omega) (x_point (a := pt) (by omega)) rfl (Nat.le_of_ble_eq_true rfl) dX11_wall_1 (fun w σ1 hP9 => ?_)
  obtain ⟨rfl, rfl⟩ := hP9
  refine go_if_eqB (tgt := 24) dX11_wall_4 (by decide) (fun c_4 => ?_) (fun c_4 => ?_)
  · refine go_bipush (v := Int32.ofInt (-2)) dX11_wall_24 (by decide) ?_
    refine go_retI rfl rfl ?_ dX11_wall_26
    exact ⟨rj_vi (by unfold sp_walF; (repeat' split) <;> omega), (by unfold sp_walS; rw [if_neg (by omega)]; exact e_same hR hN)⟩
  · refine go_iload_n dX11_wall_7 rfl 2 rfl ?_
    refine go_callS (d1 := d - 1) wSX11_53 rfl (by omega) (x_point (a := to) (by omega)) rfl (Nat.le_of_ble_eq_true rfl) dX11_wall_8 (fun w σ1 hP9 => ?_)
    obtain ⟨rfl, rfl⟩ := hP9
    refine go_if_eqB (tgt := 24) dX11_wall_11 (by decide) (fun c_11 => ?_) (fun c_11 => ?_)
    · refine go_bipush (v := Int32.ofInt (-2)) dX11_wall_24 (by decide) ?_
      refine go_retI rfl rfl ?_ dX11_wall_26
      exact ⟨rj_vi (by unfold sp_walF; (repeat' split) <;> omega), (by unfold sp_walS; rw [if_neg (by omega)]; exact e_same hR hN)⟩
    · refine go_iload_n dX11_wall_14 rfl 3 rfl ?_
      refine go_iconst (v := Int32.ofInt 1) dX11_wall_15 rfl ?_
      refine go_bipush (v := Int32.ofInt 40) dX11_wall_16 (by decide) ?_
      refine go_callS (d1 := d - 1) wSX11_72 rfl (by omega) (x_within (v := h) (lo := 1) (hi := 40) (by omega) (by omega) (by omega)) rfl (Nat.le_of_ble_eq_true rfl) dX11_wall_18 (fun w σ1 hP9 => ?_)
      obtain ⟨rfl, rfl⟩ := hP9
      refine go_if_neB (tgt := 27) dX11_wall_21 (by decide) (fun c_21 => ?_) (fun c_21 => ?_)
      · refine go_aload_n dX11_wall_27 rfl 0 rfl ?_
        refine rc_gx hR.V (k := 0) (by decide) fX11_12 rfl dX11_wall_28 ?_
        refine rc_gs hR.V (k := 5) (v := rj_i (s 2)) (by decide) fX11_82 (rj_vi hR.n2) dX11_wall_31 ?_
        refine go_bipush (v := Int32.ofInt 8) dX11_wall_34 (by decide) ?_
        refine go_icmp_ltI (tgt := 42) (by omega) (by omega) dX11_wall_36 (by decide) (fun c_36 => ?_) (fun c_36 => ?_)
        · refine go_aload_n dX11_wall_42 rfl 0 rfl ?_
          refine rc_gx hR.V (k := 0) (by decide) fX11_12 rfl dX11_wall_43 ?_
          refine rc_gs hR.V (k := 5) (v := rj_i (s 2)) (by decide) fX11_82 (rj_vi hR.n2) dX11_wall_46 ?_
          refine go_istoreS (lv' := [(0, .ref cb), (1, rj_i pt), (2, rj_i to), (3, rj_i h), (4, rj_i (s 2))]) (by decide) rfl dX11_wall_49 ?_
          refine go_aload_n dX11_wall_51 rfl 0 rfl ?_
          refine rc_gx hR.V (k := 0) (by decide) fX11_12 rfl dX11_wall_52 ?_
          refine rc_gs hR.V (k := 4) (v := .ref (cb + 10)) (by decide) fX11_85 rfl dX11_wall_55 ?_
          refine go_iload dX11_wall_58 4 rfl ?_
          refine go_newo (fs := [rj_i 0, rj_i 0, rj_i 0, rj_i 0, rj_i 0]) kX10 (rj_inT 391 (by decide +kernel)) (rj_inT 392 (by decide +kernel)) (rj_inT 15 (by decide +kernel)) rj_z5 dX11_wall_60 ?_
          refine go_dup dX11_wall_63 rfl ?_
          refine go_iload_n dX11_wall_64 rfl 1 rfl ?_
          refine go_iload_n dX11_wall_65 rfl 2 rfl ?_
          refine go_iload_n dX11_wall_66 rfl 3 rfl ?_
          refine go_callI (d1 := d - 1) (Pc := fun _ τ => τ = _) wIX11_91 rfl (by omega) (k_wall (u := pt) (v := to) (hi := h) (by omega) (by omega) (by omega) (rj_new_eq _ _ _)) rfl (Nat.le_of_ble_eq_true rfl) dX11_wall_67 (fun σ1 hP9 => ?_)
          subst hP9
          rw [show rj_set (rj_new (rc_p X9 cb vv vk c σ) 5 (.inr (10, [rj_i 0, rj_i 0, rj_i 0, rj_i 0, rj_i 0]))) (rc_p X9 cb vv vk c σ).1 (.inr (10, rk_wf pt to h)) = rj_new (rc_p X9 cb vv vk c σ) 5 (.inr (10, rk_wf pt to h)) from rj_set_new _ _ _ _, rc_new hR.2.1]
          refine rc_aw (a := σ.1) hR.V ⟨rc_out.ge (by omega), by omega, by omega, by show _ < σ.1 + 1; omega⟩ (rj_new_eq _ _ _) (by omega) (by omega) dX11_wall_70 ?_
          refine go_aload_n dX11_wall_71 rfl 0 rfl ?_
          refine rc_gx hR.V (k := 0) (by decide) fX11_12 rfl dX11_wall_72 ?_
          refine go_dup dX11_wall_75 rfl ?_
          refine rc_gs hR.V (k := 5) (by decide) fX11_82 rfl dX11_wall_76 ?_
          rw [show (rm_u c 10 (rj_up (c 10) (s 2) (σ.1 : Int))) 1 = (c 1) from ((rm_u_ne _ _ (by omega)).trans (show c 1 = (c 1) from rfl))]
          rw [show c 1 5 = s 2 from hR.n2]
          refine go_iconst (v := Int32.ofInt 1) dX11_wall_79 rfl ?_
          refine go_addI dX11_wall_80 ?_
          refine rc_ps5 hR.V fX11_82 dX11_wall_81 ?_
          refine go_iload dX11_wall_84 4 rfl ?_
          refine go_retI rfl rfl ?_ dX11_wall_86
          exact ⟨rj_vi (by unfold sp_walF; (repeat' split) <;> omega), (by unfold sp_walS; rw [if_pos (by omega)]; exact e_wall hR hI hN (by omega) (show (rm_u (rm_u c 10 (rj_up (c 10) (s 2) (σ.1 : Int))) 1 (rj_up ((rm_u c 10 (rj_up (c 10) (s 2) (σ.1 : Int))) 1) 5 ((s 2) + 1))) 1 = (rj_up (c 1) 5 ((s 2) + 1)) from (congrArg (fun zz => rj_up zz 5 ((s 2) + 1)) (show (rm_u c 10 (rj_up (c 10) (s 2) (σ.1 : Int))) 1 = (c 1) from ((rm_u_ne _ _ (by omega)).trans (show c 1 = (c 1) from rfl))))) ((rm_u_ne _ _ (by decide)).trans (rm_u_eq _ _ _)) (fun k a b => (rm_u_ne _ _ a).trans (rm_u_ne _ _ b)))⟩
        · refine go_bipush (v := Int32.ofInt (-4)) dX11_wall_39 (by decide) ?_
          refine go_retI rfl rfl ?_ dX11_wall_41
          exact ⟨rj_vi (by unfold sp_walF; (repeat' split) <;> omega), (by unfold sp_walS; rw [if_neg (by omega)]; exact e_same hR hN)⟩
      · refine go_bipush (v := Int32.ofInt (-2)) dX11_wall_24 (by decide) ?_
        refine go_retI rfl rfl ?_ dX11_wall_26
        exact ⟨rj_vi (by unfold sp_walF; (repeat' split) <;> omega), (by unfold sp_walS; rw [if_neg (by omega)]; exact e_same hR hN)⟩
