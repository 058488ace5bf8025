/-! THE CLASS: valley -/
def rc_put (X9 : rj_X) (vv vk : Nat) (c : rm_R) (σ : rj_H) : rj_H := (σ.1, σ.2.1, fun a => if a = vv then some (rj_ar X9 0 5 (c 92)) else if a = vk then some (rj_ar X9 0 13 (c 93)) else σ.2.2 a)
section SWI
variable {X9 : rj_X} {cb vv vk v1 v2 : Nat} {c : rm_R} {σ : rj_H} {s : Int → Int} {ad : Nat → Int → Nat} {g1 g2 : Int → Int}
theorem rc_sw (hV : rc_V cb vv vk) (hW : rc_V cb v1 v2) (h1 : σ.2.2 v1 = some (rj_ar X9 0 5 g1)) (h2 : σ.2.2 v2 = some (rj_ar X9 0 13 g2)) (hn : (v1 ≠ vv ∧ v1 ≠ vk) ∧ v2 ≠ vv ∧ v2 ≠ vk) : rc_p X9 cb vv vk c σ = rc_p X9 cb v1 v2 (rm_u (rm_u c 92 g1) 93 g2) (rc_put X9 vv vk c σ) := by
  obtain ⟨⟨n1, n2⟩, n3, n4⟩ := hn
  unfold rc_p rc_put
  refine congrArg _ (congrArg _ (funext fun q => ?_))
  show (if q = vv then _ else if q = vk then _ else if cb ≤ q ∧ rc_fx (q - cb) = true then _ else _) = (if q = v1 then _ else if q = v2 then _ else if cb ≤ q ∧ rc_fx (q - cb) = true then _ else if q = vv then _ else if q = vk then _ else _)
  by_cases e1 : q = v1
  · subst e1
    rw [if_neg n1, if_neg n2, if_neg hW.2.1.x, if_pos rfl, h1, rm_u_ne _ _ (by decide), rm_u_eq]
  · rw [if_neg e1]
    by_cases e2 : q = v2
    · subst e2
      rw [if_neg n3, if_neg n4, if_neg hW.2.2.x, if_pos rfl, h2, rm_u_eq]
    · rw [if_neg e2]
      by_cases e3 : q = vv
      · subst e3
        rw [if_pos rfl, if_neg hV.2.1.x, if_pos rfl]
      · rw [if_neg e3]
        by_cases e4 : q = vk
        · subst e4
          rw [if_pos rfl, if_neg hV.2.2.x, if_neg e3, if_pos rfl]
        · rw [if_neg e4, if_neg e3, if_neg e4]
          by_cases hq : cb ≤ q ∧ rc_fx (q - cb) = true
          · have n92 : q - cb < 92 := by
              have := hq.2
              simp only [rc_fx, Bool.and_eq_true, decide_eq_true_eq] at this
              exact this.1.1
            rw [if_pos hq, if_pos hq, rm_u_ne _ _ (show q - cb ≠ 93 by omega), rm_u_ne _ _ (show q - cb ≠ 92 by omega)]
          · rw [if_neg hq, if_neg hq]
theorem rc_o3_sw {a : Nat} {E : va_E} (h : rc_o3 cb vv vk σ a) (k : σ.2.2 a = some E) (h1 : σ.2.2 v1 = some (rj_ar X9 0 5 g1)) (h2 : σ.2.2 v2 = some (rj_ar X9 0 13 g2)) (e1 : E ≠ rj_ar X9 0 5 g1) (e2 : E ≠ rj_ar X9 0 13 g2) : rc_o3 cb v1 v2 (rc_put X9 vv vk c σ) a ∧ (rc_put X9 vv vk c σ).2.2 a = some E := by
  refine ⟨⟨h.1, fun q => ?_, fun q => ?_, h.2.2.2⟩, ?_⟩
  · subst q; rw [k] at h1; exact e1 (Option.some.inj h1)
  · subst q; rw [k] at h2; exact e2 (Option.some.inj h2)
  · show (if a = vv then _ else if a = vk then _ else _) = _
    rw [if_neg h.2.1, if_neg h.2.2.1, k]
theorem rj_ar_n {X9 : rj_X} {n m : Nat} {f g : Int → Int} (h : n ≠ m) : rj_ar X9 0 n f ≠ rj_ar X9 0 m g := fun q => by
  have := congrArg (fun e : va_E => match e with | .inl x => x.2.1 | .inr _ => 0) q
  exact h this
theorem rc_S.sw {b : Nat} (hb : b ≤ 61) (h : rc_S b cb vv vk c σ s ad) (h1 : σ.2.2 v1 = some (rj_ar X9 0 5 g1)) (h2 : σ.2.2 v2 = some (rj_ar X9 0 13 g2)) (hI : sp_I s) : rc_S b cb v1 v2 (rm_u (rm_u c 92 g1) 93 g2) (rc_put X9 vv vk c σ) s ad := by
  obtain ⟨a1, a2, a3, a4, a5, a6, a7⟩ := h
  have hk : ∀ q : Nat, q < 92 → rm_u (rm_u c 92 g1) 93 g2 q = c q := fun q hq => by rw [rm_u_ne _ _ (by omega), rm_u_ne _ _ (by omega)]
  obtain ⟨⟨z0, z1, z2, z3, z4, z5, z6, z7⟩, -⟩ := id hI
  refine ⟨by rw [hk b (by omega)]; exact a1, fun m m0 m1 => ?_, fun p p0 p1 p2 => by rw [hk _ (by omega)]; exact a3 p p0 p1 p2, fun w w0 w1 => ?_, fun j j0 j1 => by rw [hk _ (by omega)]; exact a5 j j0 j1, fun m q m0 m1 q0 q1 => by rw [hk _ (by omega)]; exact a6 m q m0 m1 q0 q1, fun a e a0 a1 e0 e1 hh => by rw [hk _ (by omega)]; exact a7 a e a0 a1 e0 e1 hh⟩
  · rw [hk _ (by omega)]
    exact ⟨(a2 m m0 m1).1, rc_o3_sw (a2 m m0 m1).2.1 (a2 m m0 m1).2.2 h1 h2 (fun q => by cases q) (fun q => by cases q)⟩
  · rw [hk _ (by omega)]
    exact ⟨(a4 w w0 w1).1, rc_o3_sw (a4 w w0 w1).2.1 (a4 w w0 w1).2.2 h1 h2 (fun q => by cases q) (fun q => by cases q)⟩
theorem rc_vy.sw {u1 u2 va : Nat} (h : rc_vy X9 cb vv vk u1 u2 σ s va) (h1 : σ.2.2 v1 = some (rj_ar X9 0 5 g1)) (h2 : σ.2.2 v2 = some (rj_ar X9 0 13 g2)) : rc_vy X9 cb v1 v2 u1 u2 (rc_put X9 vv vk c σ) s va := by
  obtain ⟨a1, a2, a3, gs, gw, ge, vj, vm, rst, hl, ⟨b1, b2, b3, b4, b5, b6, b7, b8⟩, hr⟩ := h
  have x1 := rc_o3_sw (c := c) b1 b2 h1 h2 (fun q => by cases q) (fun q => by cases q)
  have x2 := rc_o3_sw (c := c) b3 b4 h1 h2 (rj_ar_n (by decide)) (rj_ar_n (by decide))
  have x3 := rc_o3_sw (c := c) b5 b6 h1 h2 (rj_ar_n (by decide)) (rj_ar_n (by decide))
  have x4 := rc_o3_sw (c := c) b7 b8 h1 h2 (rj_ar_n (by decide)) (rj_ar_n (by decide))
  exact ⟨a1, a2, a3, gs, gw, ge, vj, vm, rst, hl, ⟨x1.1, x1.2, x2.1, x2.2, x3.1, x3.2, x4.1, x4.2⟩, hr⟩
theorem rg_vy2 {u1 u2 va : Nat} {s' : Int → Int} (h : rc_vy X9 cb vv vk u1 u2 σ s va) (e7 : s' 7 = s 7) (ht : s 7 ≠ -1 → s' (284 + s 7) = s (284 + s 7) ∧ s' (289 + s 7) = s (289 + s 7) ∧ s' (294 + s 7) = s (294 + s 7)) (hn : 0 ≤ sp_tells s 294 0 ∧ sp_tells s 294 0 ≤ 140) (e : s 7 ≠ -1 → ∀ i : Int, 0 ≤ i → i < 140 → s' (299 + 140 * s 7 + i) = s (299 + 140 * s 7 + i)) : rc_vy X9 cb vv vk u1 u2 σ s' va := by
  obtain ⟨a1, a2, a3, gs, gw, ge, vj, vm, rst, hl, hv, hr⟩ := h
  have t1 : sp_tells s' 284 0 = sp_tells s 284 0 := by
    unfold sp_tells; rw [e7]; split
    · rfl
    · exact (ht (by assumption)).1
  have t2 : sp_tells s' 289 9 = sp_tells s 289 9 := by
    unfold sp_tells; rw [e7]; split
    · rfl
    · exact (ht (by assumption)).2.1
  have t3 : sp_tells s' 294 0 = sp_tells s 294 0 := by
    unfold sp_tells; rw [e7]; split
    · rfl
    · exact (ht (by assumption)).2.2
  refine ⟨a1, a2, a3, gs, gw, ge, vj, vm, rst, hl, by rw [t1, t2]; exact hv, ?_⟩
  rw [t3, e7]
  refine rg_vr hr (fun i hi => ?_)
  have hk2 : s 7 ≠ -1 := fun q => by
    have : sp_tells s 294 0 = 0 := by unfold sp_tells; rw [if_pos q]
    rw [this] at hi; simp at hi
  exact e hk2 i (by omega) (by omega)
end SWI
/-- the heap below a valley that is read -/
def rv_s (X9 : rj_X) (σ : rj_H) : rj_H := (σ.1 + 6, σ.2.1 + 171, fun a => if a = σ.1 + 4 then some (rj_ar X9 0 5 (fun _ => 0)) else if a = σ.1 + 5 then some (rj_ar X9 0 13 (fun _ => 0)) else σ.2.2 a)
def vg0 : rm_R := fun j => if j = 0 then (fun k => if k = 8 then 9 else if k = 12 then -1 else 0) else fun _ => 0
def rk_v0 : List Value := [.null, rj_i 0, .null, .null, rj_i 0, .null, .null, rj_i 0, rj_i 0, .null, rj_i 0, rj_i 0, rj_i 0]
section NV
variable {X9 : rj_X} {cb vv vk tx va : Nat} {c g : rm_R} {σ : rj_H}
theorem pv_rc (ho : ∀ i : Nat, i ≤ 3 → rc_out cb (va + i) ∧ va + i ≠ vv ∧ va + i ≠ vk) : pv_p X9 va tx g (rc_p X9 cb vv vk c σ) = rc_p X9 cb vv vk c (pv_p X9 va tx g σ) := by
  unfold pv_p rc_p
  refine congrArg _ (congrArg _ (funext fun q => ?_))
  show (if q = va then _ else if q = va + 1 then _ else if q = va + 2 then _ else if q = va + 3 then _ else if q = vv then _ else if q = vk then _ else if cb ≤ q ∧ rc_fx (q - cb) = true then _ else _) = (if q = vv then _ else if q = vk then _ else if cb ≤ q ∧ rc_fx (q - cb) = true then _ else if q = va then _ else if q = va + 1 then _ else if q = va + 2 then _ else if q = va + 3 then _ else _)
  by_cases h : va ≤ q ∧ q ≤ va + 3
  · obtain ⟨o1, o2, o3⟩ := ho (q - va) (by omega)
    rw [show va + (q - va) = q by omega] at o1 o2 o3
    rw [if_neg o2, if_neg o3, if_neg o1.x, if_neg o2, if_neg o3, if_neg o1.x]
  · rw [if_neg (show q ≠ va by omega), if_neg (show q ≠ va + 1 by omega), if_neg (show q ≠ va + 2 by omega), if_neg (show q ≠ va + 3 by omega), if_neg (show q ≠ va by omega), if_neg (show q ≠ va + 1 by omega), if_neg (show q ≠ va + 2 by omega), if_neg (show q ≠ va + 3 by omega)]
theorem pv_new (h : cb + 103 ≤ σ.1 ∧ vv < σ.1 ∧ vk < σ.1) : rj_set (rj_set (rk_v5 X9 (rj_new (rc_p X9 cb vv vk c σ) 13 (.inr (9, rk_v0)))) σ.1 (.inr (9, rk_vf (σ.1 + 1)))) σ.1 (.inr (9, pv_f σ.1 tx (vg0 0))) = pv_p X9 σ.1 tx vg0 (rc_p X9 cb vv vk c (rv_s X9 σ)) := by
  rw [rj_set_set]
  refine congrArg _ (congrArg _ (funext fun q => ?_))
  show (if q = σ.1 then _ else if q = σ.1 + 1 + 1 + 1 + 1 + 1 then _ else if q = σ.1 + 1 + 1 + 1 + 1 then _ else if q = σ.1 + 1 + 1 + 1 then _ else if q = σ.1 + 1 + 1 then _ else if q = σ.1 + 1 then _ else if q = σ.1 then _ else if q = vv then _ else if q = vk then _ else if cb ≤ q ∧ rc_fx (q - cb) = true then _ else _) = (if q = σ.1 then _ else if q = σ.1 + 1 then _ else if q = σ.1 + 2 then _ else if q = σ.1 + 3 then _ else if q = vv then _ else if q = vk then _ else if cb ≤ q ∧ rc_fx (q - cb) = true then _ else if q = σ.1 + 4 then _ else if q = σ.1 + 5 then _ else _)
  have ho : σ.1 ≤ q → ¬ (cb ≤ q ∧ rc_fx (q - cb) = true) := fun hq => (rc_out.ge (cb := cb) (a := q) (by omega)).x
  by_cases e0 : q = σ.1
  · rw [if_pos e0, if_pos e0]
  · rw [if_neg e0, if_neg e0, if_neg e0]
    by_cases e1 : q = σ.1 + 1
    · rw [if_neg (by omega), if_neg (by omega), if_neg (by omega), if_neg (by omega), if_pos e1, if_pos e1]; rfl
    · by_cases e2 : q = σ.1 + 2
      · rw [if_neg (by omega), if_neg (by omega), if_neg (by omega), if_pos e2, if_neg e1, if_pos e2]; rfl
      · by_cases e3 : q = σ.1 + 3
        · rw [if_neg (by omega), if_neg (by omega), if_pos e3, if_neg e1, if_neg e2, if_pos e3]; rfl
        · by_cases e4 : q = σ.1 + 4
          · rw [if_neg (by omega), if_pos e4, if_neg e1, if_neg e2, if_neg e3, if_neg (by omega), if_neg (by omega), if_neg (ho (by omega)), if_pos e4]
          · by_cases e5 : q = σ.1 + 5
            · rw [if_pos e5, if_neg e1, if_neg e2, if_neg e3, if_neg (by omega), if_neg (by omega), if_neg (ho (by omega)), if_neg e4, if_pos e5]
            · rw [if_neg (by omega), if_neg (by omega), if_neg (by omega), if_neg (by omega), if_neg e1, if_neg e1, if_neg e2, if_neg e3, if_neg e4, if_neg e5]
end NV
