/-! THE CLASS: rows that write; what stays -/
section RS
variable {X9 : rj_X} {y9 : MethodName} {cc : ByteArray} {nL : Nat} {rt9 : Option FieldType} {d9 : Nat} {P9 : Option Value → rj_H → Prop} {pc : Nat} {lv : List (Nat × Value)} {rest : List Value} {σ : rj_H} {cb vv vk : Nat} {c : rm_R} {z w : Int} {s : Int → Int} {ad : Nat → Int → Nat}
theorem rc_ps1 {idx : Nat} (hV : rc_V cb vv vk) (hln : rj_ln y9.cls idx (TX5 1)) (hdg : decode cc pc = .ok (.putfield idx, 3)) (kk : rj_Go X9 y9 cc nL rt9 d9 P9 (pc + 3) lv rest (rc_p X9 cb vv vk (rm_u c 1 (rj_up (c 1) 1 w)) σ)) : rj_Go X9 y9 cc nL rt9 d9 P9 pc lv (rj_i w :: .ref (cb + 1) :: rest) (rc_p X9 cb vv vk c σ) := go_put (k := 1) kX5 (by decide) hln (Or.inl rfl) (rc_a1 hV) (by show 1 < 15; decide) rfl rfl hdg (go_eq rfl rfl rfl (rc_set hV 1 rfl (g := rj_up (c 1) 1 w) rfl) kk)
theorem rc_ps3 {idx : Nat} (hV : rc_V cb vv vk) (hln : rj_ln y9.cls idx (TX5 3)) (hdg : decode cc pc = .ok (.putfield idx, 3)) (kk : rj_Go X9 y9 cc nL rt9 d9 P9 (pc + 3) lv rest (rc_p X9 cb vv vk (rm_u c 1 (rj_up (c 1) 3 w)) σ)) : rj_Go X9 y9 cc nL rt9 d9 P9 pc lv (rj_i w :: .ref (cb + 1) :: rest) (rc_p X9 cb vv vk c σ) := go_put (k := 3) kX5 (by decide) hln (Or.inl rfl) (rc_a1 hV) (by show 3 < 15; decide) rfl rfl hdg (go_eq rfl rfl rfl (rc_set hV 1 rfl (g := rj_up (c 1) 3 w) rfl) kk)
theorem rc_ps5 {idx : Nat} (hV : rc_V cb vv vk) (hln : rj_ln y9.cls idx (TX5 5)) (hdg : decode cc pc = .ok (.putfield idx, 3)) (kk : rj_Go X9 y9 cc nL rt9 d9 P9 (pc + 3) lv rest (rc_p X9 cb vv vk (rm_u c 1 (rj_up (c 1) 5 w)) σ)) : rj_Go X9 y9 cc nL rt9 d9 P9 pc lv (rj_i w :: .ref (cb + 1) :: rest) (rc_p X9 cb vv vk c σ) := go_put (k := 5) kX5 (by decide) hln (Or.inl rfl) (rc_a1 hV) (by show 5 < 15; decide) rfl rfl hdg (go_eq rfl rfl rfl (rc_set hV 1 rfl (g := rj_up (c 1) 5 w) rfl) kk)
theorem rc_ps7 {idx : Nat} (hV : rc_V cb vv vk) (hln : rj_ln y9.cls idx (TX5 7)) (hdg : decode cc pc = .ok (.putfield idx, 3)) (kk : rj_Go X9 y9 cc nL rt9 d9 P9 (pc + 3) lv rest (rc_p X9 cb vv vk (rm_u c 1 (rj_up (c 1) 7 w)) σ)) : rj_Go X9 y9 cc nL rt9 d9 P9 pc lv (rj_i w :: .ref (cb + 1) :: rest) (rc_p X9 cb vv vk c σ) := go_put (k := 7) kX5 (by decide) hln (Or.inl rfl) (rc_a1 hV) (by show 7 < 15; decide) rfl rfl hdg (go_eq rfl rfl rfl (rc_set hV 1 rfl (g := rj_up (c 1) 7 w) rfl) kk)
theorem rc_ps9 {idx : Nat} (hV : rc_V cb vv vk) (hln : rj_ln y9.cls idx (TX5 9)) (hdg : decode cc pc = .ok (.putfield idx, 3)) (kk : rj_Go X9 y9 cc nL rt9 d9 P9 (pc + 3) lv rest (rc_p X9 cb vv vk (rm_u c 1 (rj_up (c 1) 9 w)) σ)) : rj_Go X9 y9 cc nL rt9 d9 P9 pc lv (rj_i w :: .ref (cb + 1) :: rest) (rc_p X9 cb vv vk c σ) := go_put (k := 9) kX5 (by decide) hln (Or.inl rfl) (rc_a1 hV) (by show 9 < 15; decide) rfl rfl hdg (go_eq rfl rfl rfl (rc_set hV 1 rfl (g := rj_up (c 1) 9 w) rfl) kk)
theorem rc_ps11 {idx : Nat} (hV : rc_V cb vv vk) (hln : rj_ln y9.cls idx (TX5 11)) (hdg : decode cc pc = .ok (.putfield idx, 3)) (kk : rj_Go X9 y9 cc nL rt9 d9 P9 (pc + 3) lv rest (rc_p X9 cb vv vk (rm_u c 1 (rj_up (c 1) 11 w)) σ)) : rj_Go X9 y9 cc nL rt9 d9 P9 pc lv (rj_i w :: .ref (cb + 1) :: rest) (rc_p X9 cb vv vk c σ) := go_put (k := 11) kX5 (by decide) hln (Or.inl rfl) (rc_a1 hV) (by show 11 < 15; decide) rfl rfl hdg (go_eq rfl rfl rfl (rc_set hV 1 rfl (g := rj_up (c 1) 11 w) rfl) kk)
theorem rc_ps13 {idx : Nat} (hV : rc_V cb vv vk) (hln : rj_ln y9.cls idx (TX5 13)) (hdg : decode cc pc = .ok (.putfield idx, 3)) (kk : rj_Go X9 y9 cc nL rt9 d9 P9 (pc + 3) lv rest (rc_p X9 cb vv vk (rm_u c 1 (rj_up (c 1) 13 w)) σ)) : rj_Go X9 y9 cc nL rt9 d9 P9 pc lv (rj_i w :: .ref (cb + 1) :: rest) (rc_p X9 cb vv vk c σ) := go_put (k := 13) kX5 (by decide) hln (Or.inl rfl) (rc_a1 hV) (by show 13 < 15; decide) rfl rfl hdg (go_eq rfl rfl rfl (rc_set hV 1 rfl (g := rj_up (c 1) 13 w) rfl) kk)
theorem rc_ps14 {idx : Nat} (hV : rc_V cb vv vk) (hln : rj_ln y9.cls idx (TX5 14)) (hdg : decode cc pc = .ok (.putfield idx, 3)) (kk : rj_Go X9 y9 cc nL rt9 d9 P9 (pc + 3) lv rest (rc_p X9 cb vv vk (rm_u c 1 (rj_up (c 1) 14 w)) σ)) : rj_Go X9 y9 cc nL rt9 d9 P9 pc lv (rj_i w :: .ref (cb + 1) :: rest) (rc_p X9 cb vv vk c σ) := go_put (k := 14) kX5 (by decide) hln (Or.inl rfl) (rc_a1 hV) (by show 14 < 15; decide) rfl rfl hdg (go_eq rfl rfl rfl (rc_set hV 1 rfl (g := rj_up (c 1) 14 w) rfl) kk)
theorem rc_ps8 {idx a : Nat} (hV : rc_V cb vv vk) (hln : rj_ln y9.cls idx (TX5 8)) (hdg : decode cc pc = .ok (.putfield idx, 3)) (kk : rj_Go X9 y9 cc nL rt9 d9 P9 (pc + 3) lv rest (rc_p X9 cb vv vk (rm_u c 1 (rj_up (c 1) 8 (a : Int))) σ)) : rj_Go X9 y9 cc nL rt9 d9 P9 pc lv (.ref a :: .ref (cb + 1) :: rest) (rc_p X9 cb vv vk c σ) := go_put (k := 8) kX5 (by decide) hln (Or.inl rfl) (rc_a1 hV) (by show 8 < 15; decide) rfl rfl hdg (go_eq rfl rfl rfl (rc_set hV 1 rfl (g := rj_up (c 1) 8 (a : Int)) rfl) kk)
theorem rc_px2 {idx : Nat} (hV : rc_V cb vv vk) (hw : w = 0 ∨ w = 1) (hln : rj_ln y9.cls idx (TX11 2)) (hdg : decode cc pc = .ok (.putfield idx, 3)) (kk : rj_Go X9 y9 cc nL rt9 d9 P9 (pc + 3) lv rest (rc_p X9 cb vv vk (rm_u c 0 (rj_up (c 0) 2 w)) σ)) : rj_Go X9 y9 cc nL rt9 d9 P9 pc lv (rj_i w :: .ref cb :: rest) (rc_p X9 cb vv vk c σ) := go_put (k := 2) kX11 (by decide) hln (Or.inl rfl) (rc_a0 hV) (by show 2 < 10; decide) (rj_n01 hw) (by rcases hw with rfl | rfl <;> rfl) hdg (go_eq rfl rfl rfl (rc_set hV 0 rfl (g := rj_up (c 0) 2 w) rfl) kk)
theorem rc_pt1 {idx : Nat} (hV : rc_V cb vv vk) (hln : rj_ln y9.cls idx (TX7 1)) (hdg : decode cc pc = .ok (.putfield idx, 3)) (kk : rj_Go X9 y9 cc nL rt9 d9 P9 (pc + 3) lv rest (rc_p X9 cb vv vk (rm_u c 63 (rj_up (c 63) 1 w)) σ)) : rj_Go X9 y9 cc nL rt9 d9 P9 pc lv (rj_i w :: .ref (cb + 63) :: rest) (rc_p X9 cb vv vk c σ) := go_put (k := 1) kX7 (by decide) hln (Or.inl rfl) (rc_a63 hV) (by show 1 < 2; decide) rfl rfl hdg (go_eq rfl rfl rfl (rc_set hV 63 rfl (g := rj_up (c 63) 1 w) rfl) kk)
end RS
/-- bytes -/
def rc_by (g : Int → Int) : Prop := ∀ j : Int, 0 ≤ j → j < 120 → -128 ≤ g j ∧ g j ≤ 127
/-- what a setter of the scene keeps -/
def rc_kp (c c0 : rm_R) : Prop := c0 0 = c 0 ∧ (c0 2 = c 2 ∧ c0 10 = c 10 ∧ (rc_by (c 11) → rc_by (c0 11))) ∧ ∀ k : Nat, 32 ≤ k → k < 65 → c0 k = c k
theorem rc_kp.rf {c : rm_R} : rc_kp c c := ⟨rfl, ⟨rfl, rfl, id⟩, fun _ _ _ => rfl⟩
theorem rc_kp.tr {c c1 c2 : rm_R} (h : rc_kp c c1) (k : rc_kp c1 c2) : rc_kp c c2 := ⟨k.1.trans h.1, ⟨k.2.1.1.trans h.2.1.1, k.2.1.2.1.trans h.2.1.2.1, fun q => k.2.1.2.2 (h.2.1.2.2 q)⟩, fun j a b => (k.2.2 j a b).trans (h.2.2 j a b)⟩
theorem rc_kp.u {c : rm_R} {k : Nat} {g : Int → Int} (h : 1 ≤ k ∧ k ≠ 2 ∧ k ≠ 10 ∧ k ≠ 11 ∧ (k < 32 ∨ 65 ≤ k)) : rc_kp c (rm_u c k g) := ⟨rm_u_ne _ _ (by omega), ⟨rm_u_ne _ _ (by omega), rm_u_ne _ _ (by omega), fun q => by rw [rm_u_ne _ _ (by omega)]; exact q⟩, fun j a b => rm_u_ne _ _ (by omega)⟩
theorem rc_kp.b {c : rm_R} {z w : Int} (h : -128 ≤ w ∧ w ≤ 127) : rc_kp c (rm_u c 11 (rj_up (c 11) z w)) := ⟨rm_u_ne _ _ (by omega), ⟨rm_u_ne _ _ (by omega), rm_u_ne _ _ (by omega), fun q => by rw [rm_u_eq]; intro j a b; by_cases hj : j = z; (· rw [hj, rj_up_eq]; exact h); (· rw [rj_up_ne _ _ hj]; exact q j a b)⟩, fun j a b => rm_u_ne _ _ (by omega)⟩
theorem rc_kp.t {c c0 : rm_R} (h : rc_t 65 c c0) : rc_kp c c0 := ⟨h 0 (by omega), ⟨h 2 (by omega), h 10 (by omega), fun q => by rw [h 11 (by omega)]; exact q⟩, fun j a b => h j b⟩
section AG
variable {X9 : rj_X} {cb vv vk : Nat} {c c0 : rm_R} {σ : rj_H} {s s' : Int → Int} {ad : Nat → Int → Nat}
/-- pieces that stay -/
theorem rg_mir (h : ∀ m : Int, 0 ≤ m → m < s 0 → c 2 m = (ad 0 m : Int) ∧ rc_mir cb vv vk σ s m (ad 0 m)) (hb : s 0 ≤ 6) (e0 : s' 0 = s 0) (e : ∀ j : Int, 130 ≤ j → j < 172 → s' j = s j) (ec : c0 2 = c 2) : ∀ m : Int, 0 ≤ m → m < s' 0 → c0 2 m = (ad 0 m : Int) ∧ rc_mir cb vv vk σ s' m (ad 0 m) := by
  intro m m0 m1
  rw [e0] at m1
  rw [ec]
  refine ⟨(h m m0 m1).1, (h m m0 m1).2.1, ?_⟩
  rw [(h m m0 m1).2.2]
  unfold rc_mf
  rw [e (130 + m) (by omega) (by omega), e (136 + m) (by omega) (by omega), e (142 + m) (by omega) (by omega), e (148 + m) (by omega) (by omega), e (154 + m) (by omega) (by omega), e (160 + m) (by omega) (by omega), e (166 + m) (by omega) (by omega)]
theorem rg_pat (h : ∀ p : Int, 0 ≤ p → p < s 1 → p < 6 → c (1 + (3 + p.toNat)) 0 = s (172 + p) ∧ c (1 + (3 + p.toNat)) 1 = s (178 + p) ∧ c (1 + (3 + p.toNat)) 2 = s (184 + p) ∧ c (1 + (3 + p.toNat)) 3 = s (190 + p)) (e1 : s' 1 = s 1) (e : ∀ j : Int, 172 ≤ j → j < 196 → s' j = s j) (ec : ∀ k : Nat, 4 ≤ k → k < 10 → c0 k = c k) : ∀ p : Int, 0 ≤ p → p < s' 1 → p < 6 → c0 (1 + (3 + p.toNat)) 0 = s' (172 + p) ∧ c0 (1 + (3 + p.toNat)) 1 = s' (178 + p) ∧ c0 (1 + (3 + p.toNat)) 2 = s' (184 + p) ∧ c0 (1 + (3 + p.toNat)) 3 = s' (190 + p) := by
  intro p p0 p1 p2
  rw [e1] at p1
  rw [ec _ (by omega) (by omega), e (172 + p) (by omega) (by omega), e (178 + p) (by omega) (by omega), e (184 + p) (by omega) (by omega), e (190 + p) (by omega) (by omega)]
  exact h p p0 p1 p2
theorem rg_wal (h : ∀ w : Int, 0 ≤ w → w < s 2 → c 10 w = (ad 1 w : Int) ∧ rc_wal cb vv vk σ s w (ad 1 w)) (hb : s 2 ≤ 8) (e2 : s' 2 = s 2) (e : ∀ j : Int, 196 ≤ j → j < 236 → s' j = s j) (ec : c0 10 = c 10) : ∀ w : Int, 0 ≤ w → w < s' 2 → c0 10 w = (ad 1 w : Int) ∧ rc_wal cb vv vk σ s' w (ad 1 w) := by
  intro w w0 w1
  rw [e2] at w1
  rw [ec]
  refine ⟨(h w w0 w1).1, (h w w0 w1).2.1, ?_⟩
  rw [(h w w0 w1).2.2, e (196 + w) (by omega) (by omega), e (204 + w) (by omega) (by omega), e (212 + w) (by omega) (by omega), e (220 + w) (by omega) (by omega), e (228 + w) (by omega) (by omega)]
theorem rg_tap (h : ∀ j : Int, 0 ≤ j → j < s 6 → c 11 j = rc_sb (s (10 + j))) (hb : s 6 ≤ 120) (e6 : s' 6 = s 6) (e : ∀ j : Int, 10 ≤ j → j < 130 → s' j = s j) (ec : c0 11 = c 11) : ∀ j : Int, 0 ≤ j → j < s' 6 → c0 11 j = rc_sb (s' (10 + j)) := by
  intro j j0 j1
  rw [e6] at j1
  rw [ec, e (10 + j) (by omega) (by omega)]
  exact h j j0 j1
theorem rg_pln (h : ∀ m q : Int, 0 ≤ m → m < 6 → 0 ≤ q → q < 8 → c (1 + (18 + m.toNat)) q = s (236 + 8 * m + q)) (e : ∀ j : Int, 236 ≤ j → j < 284 → s' j = s j) (ec : ∀ k : Nat, 19 ≤ k → k < 25 → c0 k = c k) : ∀ m q : Int, 0 ≤ m → m < 6 → 0 ≤ q → q < 8 → c0 (1 + (18 + m.toNat)) q = s' (236 + 8 * m + q) := by
  intro m q m0 m1 q0 q1
  rw [ec _ (by omega) (by omega), e _ (by omega) (by omega)]
  exact h m q m0 m1 q0 q1
theorem rg_vn {a e9 : Int} (e5 : s' 5 = s 5) (h5 : 0 ≤ s 5 ∧ s 5 ≤ 5) (ha : 0 ≤ a ∧ a < 6) (he : 0 ≤ e9 ∧ e9 < 6) (e : ∀ j : Int, 999 ≤ j → j < 1029 → s' j = s j) : sp_vn s' a e9 = sp_vn s a e9 := by
  unfold sp_vn
  rw [e5]
  refine sp_sum_ext _ (fun k k0 k1 => ?_)
  unfold sp_vc
  rw [e (999 + 6 * k + a) (by omega) (by omega), e (999 + 6 * k + e9) (by omega) (by omega)]
theorem rg_ahd (h : ∀ a e : Int, 0 ≤ a → a < 6 → 0 ≤ e → e < 6 → (s 5 = 0 ∨ (a < s 8 ∧ e < s 8)) → c (1 + (25 + a.toNat)) e = sp_vn s a e) (h5 : 0 ≤ s 5 ∧ s 5 ≤ 5) (e5 : s' 5 = s 5) (e8 : s' 8 = s 8) (e : ∀ j : Int, 999 ≤ j → j < 1029 → s' j = s j) (ec : ∀ k : Nat, 26 ≤ k → k < 32 → c0 k = c k) : ∀ a e : Int, 0 ≤ a → a < 6 → 0 ≤ e → e < 6 → (s' 5 = 0 ∨ (a < s' 8 ∧ e < s' 8)) → c0 (1 + (25 + a.toNat)) e = sp_vn s' a e := by
  intro a e9 a0 a1 b0 b1 hh
  rw [e5, e8] at hh
  rw [ec _ (by omega) (by omega), rg_vn e5 h5 ⟨a0, a1⟩ ⟨b0, b1⟩ e]
  exact h a e9 a0 a1 b0 b1 hh
theorem rg_vr {n : Nat} {gs gw ge : Int → Int} {vj vm off : Int} (h : rc_vr s off n gs gw ge vj vm) (e : ∀ i : Nat, i < n → s' (off + (i : Int)) = s (off + (i : Int))) : rc_vr s' off n gs gw ge vj vm := by
  have hj : ∀ k : Nat, k ≤ n → sp_cj s' off k = sp_cj s off k ∧ sp_cm s' off k = sp_cm s off k := fun k => by
    induction k with
    | zero => exact fun _ => ⟨rfl, rfl⟩
    | succ k ih => intro hk; have := ih (by omega); rw [sp_cj, sp_cj, sp_cm, sp_cm, this.1, this.2, e k (by omega)]; exact ⟨rfl, rfl⟩
  obtain ⟨h1, h2, h3, h4, h5, h6, h7, h8⟩ := h
  refine ⟨by rw [(hj n (Nat.le_refl _)).1]; exact h1, by rw [(hj n (Nat.le_refl _)).2]; exact h2, by rw [(hj n (Nat.le_refl _)).1]; exact h3, by rw [(hj n (Nat.le_refl _)).2]; exact h4, fun i hi => by rw [e i hi, (hj i (by omega)).1, (hj i (by omega)).2]; exact h5 i hi, ?_, fun i hi => by rw [e i hi]; exact h7 i hi, fun i hi => by rw [e i hi, sp_ht_ag i (fun k hk => e k (by omega))]; exact h8 i hi⟩
  rcases h6 with h6 | h6
  · exact Or.inl h6
  · rcases Nat.eq_zero_or_pos n with h0 | h0
    · exact Or.inl h0
    · refine Or.inr ?_
      have := e (n - 1) (by omega)
      rw [show off + ((n - 1 : Nat) : Int) = off + (n : Int) - 1 by omega] at this
      rw [this]; exact h6
theorem rg_vy {v1 v2 va : Nat} (h : rc_vy X9 cb vv vk v1 v2 σ s va) (h7 : -1 ≤ s 7 ∧ s 7 ≤ 4) (hn : 0 ≤ sp_tells s 294 0 ∧ sp_tells s 294 0 ≤ 140) (e7 : s' 7 = s 7) (e : ∀ j : Int, 284 ≤ j → j < 999 → s' j = s j) : rc_vy X9 cb vv vk v1 v2 σ s' va := by
  obtain ⟨a1, a2, a3, gs, gw, ge, vj, vm, rst, hl, hv, hr⟩ := h
  have ht : ∀ w n : Int, 284 ≤ w → w ≤ 294 → sp_tells s' w n = sp_tells s w n := fun w n h1 h2 => by
    unfold sp_tells; rw [e7]
    split
    · rfl
    · exact e _ (by omega) (by omega)
  refine ⟨a1, a2, a3, gs, gw, ge, vj, vm, rst, hl, ?_, ?_⟩
  · rw [ht 284 0 (by omega) (by omega), ht 289 9 (by omega) (by omega)]; exact hv
  · rw [ht 294 0 (by omega) (by omega), e7]
    refine rg_vr hr (fun i hi => ?_)
    have hk2 : s 7 ≠ -1 := fun q => by
      have : sp_tells s 294 0 = 0 := by unfold sp_tells; rw [if_pos q]
      rw [this] at hi; simp at hi
    exact e _ (by omega) (by omega)
end AG
/-- the end of a setter that makes nothing -/
def rc_E (X9 : rj_X) (cb vv vk : Nat) (c : rm_R) (σ : rj_H) (ad : Nat → Int → Nat) (S : Int → Int) (τ : rj_H) : Prop := ∃ c0 : rm_R, rc_R X9 cb vv vk c0 σ S ad ∧ rc_kp c c0 ∧ τ = rc_p X9 cb vv vk c0 σ
