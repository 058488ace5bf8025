/-! THE CLASS: what its heap says of the reference; rows that read it -/
/-- the held valley's object says the row's steps -/
def rc_vy (X9 : rj_X) (cb vv vk v1 v2 : Nat) (σ : rj_H) (s : Int → Int) (va : Nat) : Prop :=
  ∃ (a1 a2 a3 : Nat) (gs gw ge : Int → Int) (vj vm : Int) (rst : List Value), rst.length = 4 ∧ rc_vd X9 cb vv vk σ v1 v2 va a1 a2 a3 gs gw ge vj vm (sp_tells s 284 0) (sp_tells s 289 9) rst ∧ rc_vr s (299 + 140 * s 7) (sp_tells s 294 0).toNat gs gw ge vj vm
/-- the class's heap says what the reference's row s says -/
def rc_R (X9 : rj_X) (cb vv vk : Nat) (c : rm_R) (σ : rj_H) (s : Int → Int) (ad : Nat → Int → Nat) : Prop :=
  rc_V cb vv vk ∧ (cb + 103 ≤ σ.1 ∧ vv < σ.1 ∧ vk < σ.1) ∧ rc_S 1 cb vv vk c σ s ad ∧ rc_vy X9 cb vv vk vv vk σ s (ad 2 0)
section RR
variable {X9 : rj_X} {cb vv vk : Nat} {c c' : rm_R} {σ : rj_H} {s : Int → Int} {ad : Nat → Int → Nat}
theorem rc_R.V (h : rc_R X9 cb vv vk c σ s ad) : rc_V cb vv vk := h.1
theorem rc_R.n0 (h : rc_R X9 cb vv vk c σ s ad) : c 1 1 = s 0 := h.2.2.1.1.1
theorem rc_R.n1 (h : rc_R X9 cb vv vk c σ s ad) : c 1 3 = s 1 := h.2.2.1.1.2.1
theorem rc_R.n2 (h : rc_R X9 cb vv vk c σ s ad) : c 1 5 = s 2 := h.2.2.1.1.2.2.1
theorem rc_R.n6 (h : rc_R X9 cb vv vk c σ s ad) : c 1 7 = s 6 := h.2.2.1.1.2.2.2.1
theorem rc_R.va (h : rc_R X9 cb vv vk c σ s ad) : c 1 8 = (ad 2 0 : Int) := h.2.2.1.1.2.2.2.2.1
theorem rc_R.n3 (h : rc_R X9 cb vv vk c σ s ad) : c 1 9 = s 3 := h.2.2.1.1.2.2.2.2.2.1
theorem rc_R.n4 (h : rc_R X9 cb vv vk c σ s ad) : c 1 11 = s 4 := h.2.2.1.1.2.2.2.2.2.2.1
theorem rc_R.n5 (h : rc_R X9 cb vv vk c σ s ad) : c 1 13 = s 5 := h.2.2.1.1.2.2.2.2.2.2.2.1
theorem rc_R.n8 (h : rc_R X9 cb vv vk c σ s ad) : c 1 14 = s 8 := h.2.2.1.1.2.2.2.2.2.2.2.2
theorem rc_R.vref (h : rc_R X9 cb vv vk c σ s ad) : (rc_sc (cb + 1) (c 1))[8]? = some (.ref (ad 2 0)) := by
  show some (Value.ref (c 1 8).toNat) = _
  rw [h.va]; rfl
theorem rc_R.mir (h : rc_R X9 cb vv vk c σ s ad) (m : Int) (a : 0 ≤ m) (e : m < s 0) : c 2 m = (ad 0 m : Int) ∧ rc_mir cb vv vk σ s m (ad 0 m) := h.2.2.1.2.1 m a e
theorem rc_R.wal (h : rc_R X9 cb vv vk c σ s ad) (m : Int) (a : 0 ≤ m) (e : m < s 2) : c 10 m = (ad 1 m : Int) ∧ rc_wal cb vv vk σ s m (ad 1 m) := h.2.2.1.2.2.2.1 m a e
theorem rc_R.pat (h : rc_R X9 cb vv vk c σ s ad) (p : Int) (a : 0 ≤ p) (e : p < s 1) (f : p < 6) : c (4 + p.toNat) 0 = s (172 + p) ∧ c (4 + p.toNat) 1 = s (178 + p) ∧ c (4 + p.toNat) 2 = s (184 + p) ∧ c (4 + p.toNat) 3 = s (190 + p) := by
  have := h.2.2.1.2.2.1 p a e f
  rw [show 1 + (3 + p.toNat) = 4 + p.toNat by omega] at this; exact this
theorem rc_R.tape (h : rc_R X9 cb vv vk c σ s ad) (j : Int) (a : 0 ≤ j) (e : j < s 6) : c 11 j = rc_sb (s (10 + j)) := h.2.2.1.2.2.2.2.1 j a e
theorem rc_R.pln (h : rc_R X9 cb vv vk c σ s ad) (m q : Int) (a : 0 ≤ m) (e : m < 6) (f : 0 ≤ q) (g : q < 8) : c (19 + m.toNat) q = s (236 + 8 * m + q) := by
  have := h.2.2.1.2.2.2.2.2.1 m q a e f g
  rw [show 1 + (18 + m.toNat) = 19 + m.toNat by omega] at this; exact this
theorem rc_R.ahd (h : rc_R X9 cb vv vk c σ s ad) (a e : Int) (i : 0 ≤ a) (j : a < 6) (f : 0 ≤ e) (g : e < 6) (l : s 5 = 0 ∨ (a < s 8 ∧ e < s 8)) : c (26 + a.toNat) e = sp_vn s a e := by
  have := h.2.2.1.2.2.2.2.2.2 a e i j f g l
  rw [show 1 + (25 + a.toNat) = 26 + a.toNat by omega] at this; exact this
theorem rc_R.vy (h : rc_R X9 cb vv vk c σ s ad) : rc_vy X9 cb vv vk vv vk σ s (ad 2 0) := h.2.2.2
theorem rc_R.t (h : rc_R X9 cb vv vk c σ s ad) (k : rc_t 65 c c') : rc_R X9 cb vv vk c' σ s ad := by
  obtain ⟨h1, h2, ⟨g1, g2, g3, g4, g5, g6, g7⟩, h4⟩ := h
  refine ⟨h1, h2, ⟨by rw [k 1 (by omega)]; exact g1, fun m a e => by rw [k _ (by omega)]; exact g2 m a e, fun p a e f => by rw [k _ (by omega)]; exact g3 p a e f, fun w a e => by rw [k _ (by omega)]; exact g4 w a e, fun j a e => by rw [k _ (by omega)]; exact g5 j a e, fun m q a e f g => by rw [k _ (by omega)]; exact g6 m q a e f g, fun a e f g i j l => by rw [k _ (by omega)]; exact g7 a e f g i j l⟩, h4⟩
end RR
theorem rc_k4 {X9 : rj_X} {cb : Nat} : ∀ i : Nat, i < 6 → rc_fx (4 + i) = true ∧ ∀ g, rc_k X9 cb (4 + i) g = rj_ar X9 0 4 g
  | 0, _ => ⟨rfl, fun _ => rfl⟩
  | 1, _ => ⟨rfl, fun _ => rfl⟩
  | 2, _ => ⟨rfl, fun _ => rfl⟩
  | 3, _ => ⟨rfl, fun _ => rfl⟩
  | 4, _ => ⟨rfl, fun _ => rfl⟩
  | 5, _ => ⟨rfl, fun _ => rfl⟩
  | n + 6, h => absurd h (by omega)
theorem rc_k19 {X9 : rj_X} {cb : Nat} : ∀ i : Nat, i < 6 → rc_fx (19 + i) = true ∧ ∀ g, rc_k X9 cb (19 + i) g = rj_ar X9 0 8 g
  | 0, _ => ⟨rfl, fun _ => rfl⟩
  | 1, _ => ⟨rfl, fun _ => rfl⟩
  | 2, _ => ⟨rfl, fun _ => rfl⟩
  | 3, _ => ⟨rfl, fun _ => rfl⟩
  | 4, _ => ⟨rfl, fun _ => rfl⟩
  | 5, _ => ⟨rfl, fun _ => rfl⟩
  | n + 6, h => absurd h (by omega)
theorem rc_k26 {X9 : rj_X} {cb : Nat} : ∀ i : Nat, i < 6 → rc_fx (26 + i) = true ∧ ∀ g, rc_k X9 cb (26 + i) g = rj_ar X9 0 6 g
  | 0, _ => ⟨rfl, fun _ => rfl⟩
  | 1, _ => ⟨rfl, fun _ => rfl⟩
  | 2, _ => ⟨rfl, fun _ => rfl⟩
  | 3, _ => ⟨rfl, fun _ => rfl⟩
  | 4, _ => ⟨rfl, fun _ => rfl⟩
  | 5, _ => ⟨rfl, fun _ => rfl⟩
  | n + 6, h => absurd h (by omega)
theorem rc_k67 {X9 : rj_X} {cb : Nat} : ∀ i : Nat, i < 9 → rc_fx (67 + i) = true ∧ ∀ g, rc_k X9 cb (67 + i) g = rj_ar X9 0 7 g
  | 0, _ => ⟨rfl, fun _ => rfl⟩
  | 1, _ => ⟨rfl, fun _ => rfl⟩
  | 2, _ => ⟨rfl, fun _ => rfl⟩
  | 3, _ => ⟨rfl, fun _ => rfl⟩
  | 4, _ => ⟨rfl, fun _ => rfl⟩
  | 5, _ => ⟨rfl, fun _ => rfl⟩
  | 6, _ => ⟨rfl, fun _ => rfl⟩
  | 7, _ => ⟨rfl, fun _ => rfl⟩
  | 8, _ => ⟨rfl, fun _ => rfl⟩
  | n + 9, h => absurd h (by omega)
theorem rc_k77 {X9 : rj_X} {cb : Nat} : ∀ i : Nat, i < 6 → rc_fx (77 + i) = true ∧ ∀ g, rc_k X9 cb (77 + i) g = rj_ar X9 0 6 g
  | 0, _ => ⟨rfl, fun _ => rfl⟩
  | 1, _ => ⟨rfl, fun _ => rfl⟩
  | 2, _ => ⟨rfl, fun _ => rfl⟩
  | 3, _ => ⟨rfl, fun _ => rfl⟩
  | 4, _ => ⟨rfl, fun _ => rfl⟩
  | 5, _ => ⟨rfl, fun _ => rfl⟩
  | n + 6, h => absurd h (by omega)
theorem rc_k84 {X9 : rj_X} {cb : Nat} : ∀ i : Nat, i < 6 → rc_fx (84 + i) = true ∧ ∀ g, rc_k X9 cb (84 + i) g = rj_ar X9 0 6 g
  | 0, _ => ⟨rfl, fun _ => rfl⟩
  | 1, _ => ⟨rfl, fun _ => rfl⟩
  | 2, _ => ⟨rfl, fun _ => rfl⟩
  | 3, _ => ⟨rfl, fun _ => rfl⟩
  | 4, _ => ⟨rfl, fun _ => rfl⟩
  | 5, _ => ⟨rfl, fun _ => rfl⟩
  | n + 6, h => absurd h (by omega)
theorem rc_kr4 {X9 : rj_X} {cb : Nat} (g : Int → Int) : rc_k X9 cb 3 g = rj_rr X9 3 6 (fun j => some (cb + (4 + j.toNat))) := by
  show rj_rr X9 3 6 (fun j => some (cb + 1 + (3 + j.toNat))) = _
  exact congrArg (rj_rr X9 3 6) (funext fun j => congrArg some (by omega))
theorem rc_kr19 {X9 : rj_X} {cb : Nat} (g : Int → Int) : rc_k X9 cb 18 g = rj_rr X9 3 6 (fun j => some (cb + (19 + j.toNat))) := by
  show rj_rr X9 3 6 (fun j => some (cb + 1 + (18 + j.toNat))) = _
  exact congrArg (rj_rr X9 3 6) (funext fun j => congrArg some (by omega))
theorem rc_kr26 {X9 : rj_X} {cb : Nat} (g : Int → Int) : rc_k X9 cb 25 g = rj_rr X9 3 6 (fun j => some (cb + (26 + j.toNat))) := by
  show rj_rr X9 3 6 (fun j => some (cb + 1 + (25 + j.toNat))) = _
  exact congrArg (rj_rr X9 3 6) (funext fun j => congrArg some (by omega))
theorem rc_kr67 {X9 : rj_X} {cb : Nat} (g : Int → Int) : rc_k X9 cb 66 g = rj_rr X9 3 9 (fun j => some (cb + (67 + j.toNat))) := rfl
theorem rc_kr77 {X9 : rj_X} {cb : Nat} (g : Int → Int) : rc_k X9 cb 76 g = rj_rr X9 3 6 (fun j => some (cb + (77 + j.toNat))) := rfl
theorem rc_kr84 {X9 : rj_X} {cb : Nat} (g : Int → Int) : rc_k X9 cb 83 g = rj_rr X9 3 6 (fun j => some (cb + (84 + j.toNat))) := rfl
theorem rc_a0 {X9 : rj_X} {cb vv vk : Nat} {c : rm_R} {σ : rj_H} (hV : rc_V cb vv vk) : (rc_p X9 cb vv vk c σ).2.2 cb = some (.inr (11, rc_x cb (c 0))) := rc_at hV 0 rfl
theorem rc_a1 {X9 : rj_X} {cb vv vk : Nat} {c : rm_R} {σ : rj_H} (hV : rc_V cb vv vk) : (rc_p X9 cb vv vk c σ).2.2 (cb + 1) = some (.inr (5, rc_sc (cb + 1) (c 1))) := rc_at hV 1 rfl
theorem rc_a63 {X9 : rj_X} {cb vv vk : Nat} {c : rm_R} {σ : rj_H} (hV : rc_V cb vv vk) : (rc_p X9 cb vv vk c σ).2.2 (cb + 63) = some (.inr (7, [.ref (cb + 64), rj_i (c 63 1)])) := rc_at hV 63 rfl
theorem rc_wa {X9 : rj_X} {cb vv vk : Nat} {c : rm_R} {σ : rj_H} {s : Int → Int} {w : Int} {a : Nat} (h : rc_wal cb vv vk σ s w a) : (rc_p X9 cb vv vk c σ).2.2 a = some (.inr (10, [rj_i (s (196 + w)), rj_i (s (204 + w)), rj_i (s (212 + w) - s (196 + w)), rj_i (s (220 + w) - s (204 + w)), rj_i (s (228 + w))])) := (rc_of h.1.1 h.1.2.1 h.1.2.2.1).trans h.2
theorem rc_ma {X9 : rj_X} {cb vv vk : Nat} {c : rm_R} {σ : rj_H} {s : Int → Int} {w : Int} {a : Nat} (h : rc_mir cb vv vk σ s w a) : (rc_p X9 cb vv vk c σ).2.2 a = some (.inr (rc_ci (s (130 + w)), rc_mf s w)) := (rc_of h.1.1 h.1.2.1 h.1.2.2.1).trans h.2
/-- a mirror's kind decides its class -/
theorem rc_kd {k : Int} (h : 0 ≤ k ∧ k ≤ 6) {P : Int → Nat → Prop} (h0 : P 0 2) (h1 : P 1 8) (h2 : P 2 0) (h3 : P 3 3) (h4 : P 4 1) (h5 : P 5 4) (h6 : P 6 6) : P k (rc_ci k) := by
  rcases (show k = 0 ∨ k = 1 ∨ k = 2 ∨ k = 3 ∨ k = 4 ∨ k = 5 ∨ k = 6 by omega) with rfl | rfl | rfl | rfl | rfl | rfl | rfl <;> assumption
section RRW
variable {X9 : rj_X} {y9 : MethodName} {cc : ByteArray} {nL : Nat} {rt9 : Option FieldType} {d9 : Nat} {P9 : Option Value → rj_H → Prop} {pc : Nat} {lv : List (Nat × Value)} {rest : List Value} {σ : rj_H} {cb vv vk : Nat} {c : rm_R} {z w : Int} {s : Int → Int} {ad : Nat → Int → Nat}
theorem rc_gm {m : Int} {a k idx : Nat} {v : Value} (hm : rc_mir cb vv vk σ s m a) (hkd : 0 ≤ s (130 + m) ∧ s (130 + m) ≤ 6) (hk : k < 8) (hln : rj_ln y9.cls idx (TX2 k)) (hv : (rc_mf s m)[k]? = some v) (hdg : decode cc pc = .ok (.getfield idx, 3)) (kk : rj_Go X9 y9 cc nL rt9 d9 P9 (pc + 3) lv (v :: rest) (rc_p X9 cb vv vk c σ)) : rj_Go X9 y9 cc nL rt9 d9 P9 pc lv (.ref a :: rest) (rc_p X9 cb vv vk c σ) := by
  obtain ⟨ho, ha⟩ := hm
  revert ha
  exact rc_kd (P := fun _ ci => σ.2.2 a = some (.inr (ci, rc_mf s m)) → rj_Go X9 y9 cc nL rt9 d9 P9 pc lv (.ref a :: rest) (rc_p X9 cb vv vk c σ)) hkd
    (fun ha => rc_go kX2 ho.1 ho.2.1 ho.2.2.1 ha hk hln hv hdg kk) (fun ha => rc_go kX8 ho.1 ho.2.1 ho.2.2.1 ha hk hln hv hdg kk) (fun ha => rc_go kX0 ho.1 ho.2.1 ho.2.2.1 ha hk hln hv hdg kk) (fun ha => rc_go kX3 ho.1 ho.2.1 ho.2.2.1 ha hk hln hv hdg kk) (fun ha => rc_go kX1 ho.1 ho.2.1 ho.2.2.1 ha hk hln hv hdg kk) (fun ha => rc_go kX4 ho.1 ho.2.1 ho.2.2.1 ha hk hln hv hdg kk) (fun ha => rc_go kX6 ho.1 ho.2.1 ho.2.2.1 ha hk hln hv hdg kk)
theorem rc_gw {m : Int} {a k idx : Nat} {v : Value} (hw : rc_wal cb vv vk σ s m a) (hk : k < 5) (hln : rj_ln y9.cls idx (TX10 k)) (hv : ([rj_i (s (196 + m)), rj_i (s (204 + m)), rj_i (s (212 + m) - s (196 + m)), rj_i (s (220 + m) - s (204 + m)), rj_i (s (228 + m))] : List Value)[k]? = some v) (hdg : decode cc pc = .ok (.getfield idx, 3)) (kk : rj_Go X9 y9 cc nL rt9 d9 P9 (pc + 3) lv (v :: rest) (rc_p X9 cb vv vk c σ)) : rj_Go X9 y9 cc nL rt9 d9 P9 pc lv (.ref a :: rest) (rc_p X9 cb vv vk c σ) := rc_go kX10 hw.1.1 hw.1.2.1 hw.1.2.2.1 hw.2 hk hln hv hdg kk
theorem rc_gv7 {idx : Nat} (hR : rc_R X9 cb vv vk c σ s ad) (hln : rj_ln y9.cls idx (TX9 7)) (hdg : decode cc pc = .ok (.getfield idx, 3)) (kk : rj_Go X9 y9 cc nL rt9 d9 P9 (pc + 3) lv (rj_i (sp_tells s 284 0) :: rest) (rc_p X9 cb vv vk c σ)) : rj_Go X9 y9 cc nL rt9 d9 P9 pc lv (.ref (ad 2 0) :: rest) (rc_p X9 cb vv vk c σ) := by
  obtain ⟨a1, a2, a3, gs, gw, ge, vj, vm, rst, hl, hv, hr⟩ := hR.vy
  exact rc_go (k := 7) kX9 hv.1.1 hv.1.2.1 hv.1.2.2.1 hv.2.1 (by decide) hln rfl hdg kk
theorem rc_gv8 {idx : Nat} (hR : rc_R X9 cb vv vk c σ s ad) (hln : rj_ln y9.cls idx (TX9 8)) (hdg : decode cc pc = .ok (.getfield idx, 3)) (kk : rj_Go X9 y9 cc nL rt9 d9 P9 (pc + 3) lv (rj_i (sp_tells s 289 9) :: rest) (rc_p X9 cb vv vk c σ)) : rj_Go X9 y9 cc nL rt9 d9 P9 pc lv (.ref (ad 2 0) :: rest) (rc_p X9 cb vv vk c σ) := by
  obtain ⟨a1, a2, a3, gs, gw, ge, vj, vm, rst, hl, hv, hr⟩ := hR.vy
  exact rc_go (k := 8) kX9 hv.1.1 hv.1.2.1 hv.1.2.2.1 hv.2.1 (by decide) hln rfl hdg kk
theorem rc_em {m : Int} (hR : rc_R X9 cb vv vk c σ s ad) (m0 : 0 ≤ m) (m1 : m < s 0) (h0 : 0 ≤ s 0 ∧ s 0 ≤ 6) (hdg : decode cc pc = .ok (.aaload, 1)) (kk : rj_Go X9 y9 cc nL rt9 d9 P9 (pc + 1) lv (.ref (ad 0 m) :: rest) (rc_p X9 cb vv vk c σ)) : rj_Go X9 y9 cc nL rt9 d9 P9 pc lv (rj_i m :: .ref (cb + 2) :: rest) (rc_p X9 cb vv vk c σ) := by
  have e := (hR.mir m m0 m1).1
  refine rc_el hR.V (n := 2) (L := 6) (t := 4) (ty := .object "SunMirrors$Mirror") rfl rfl rfl rfl m0 (by omega) (by decide) (by rw [e]; omega) hdg ?_
  rw [e]; exact kk
theorem rc_ew (hR : rc_R X9 cb vv vk c σ s ad) (m0 : 0 ≤ w) (m1 : w < s 2) (h0 : 0 ≤ s 2 ∧ s 2 ≤ 8) (hdg : decode cc pc = .ok (.aaload, 1)) (kk : rj_Go X9 y9 cc nL rt9 d9 P9 (pc + 1) lv (.ref (ad 1 w) :: rest) (rc_p X9 cb vv vk c σ)) : rj_Go X9 y9 cc nL rt9 d9 P9 pc lv (rj_i w :: .ref (cb + 10) :: rest) (rc_p X9 cb vv vk c σ) := by
  have e := (hR.wal w m0 m1).1
  refine rc_el hR.V (n := 10) (L := 8) (t := 5) (ty := .object "SunMirrors$Wall") rfl rfl rfl rfl m0 (by omega) (by decide) (by rw [e]; omega) hdg ?_
  rw [e]; exact kk
theorem rc_r4 (hV : rc_V cb vv vk) (z0 : 0 ≤ z) (z1 : z < 6) (hdg : decode cc pc = .ok (.aaload, 1)) (kk : rj_Go X9 y9 cc nL rt9 d9 P9 (pc + 1) lv (.ref (cb + (4 + z.toNat)) :: rest) (rc_p X9 cb vv vk c σ)) : rj_Go X9 y9 cc nL rt9 d9 P9 pc lv (rj_i z :: .ref (cb + 3) :: rest) (rc_p X9 cb vv vk c σ) := rc_row hV (n := 3) (L := 6) (m := 4) rfl (rc_kr4 _) z0 z1 (by decide) hdg kk
theorem rc_r19 (hV : rc_V cb vv vk) (z0 : 0 ≤ z) (z1 : z < 6) (hdg : decode cc pc = .ok (.aaload, 1)) (kk : rj_Go X9 y9 cc nL rt9 d9 P9 (pc + 1) lv (.ref (cb + (19 + z.toNat)) :: rest) (rc_p X9 cb vv vk c σ)) : rj_Go X9 y9 cc nL rt9 d9 P9 pc lv (rj_i z :: .ref (cb + 18) :: rest) (rc_p X9 cb vv vk c σ) := rc_row hV (n := 18) (L := 6) (m := 19) rfl (rc_kr19 _) z0 z1 (by decide) hdg kk
theorem rc_r26 (hV : rc_V cb vv vk) (z0 : 0 ≤ z) (z1 : z < 6) (hdg : decode cc pc = .ok (.aaload, 1)) (kk : rj_Go X9 y9 cc nL rt9 d9 P9 (pc + 1) lv (.ref (cb + (26 + z.toNat)) :: rest) (rc_p X9 cb vv vk c σ)) : rj_Go X9 y9 cc nL rt9 d9 P9 pc lv (rj_i z :: .ref (cb + 25) :: rest) (rc_p X9 cb vv vk c σ) := rc_row hV (n := 25) (L := 6) (m := 26) rfl (rc_kr26 _) z0 z1 (by decide) hdg kk
theorem rc_r67 (hV : rc_V cb vv vk) (z0 : 0 ≤ z) (z1 : z < 9) (hdg : decode cc pc = .ok (.aaload, 1)) (kk : rj_Go X9 y9 cc nL rt9 d9 P9 (pc + 1) lv (.ref (cb + (67 + z.toNat)) :: rest) (rc_p X9 cb vv vk c σ)) : rj_Go X9 y9 cc nL rt9 d9 P9 pc lv (rj_i z :: .ref (cb + 66) :: rest) (rc_p X9 cb vv vk c σ) := rc_row hV (n := 66) (L := 9) (m := 67) rfl (rc_kr67 _) z0 z1 (by decide) hdg kk
theorem rc_r77 (hV : rc_V cb vv vk) (z0 : 0 ≤ z) (z1 : z < 6) (hdg : decode cc pc = .ok (.aaload, 1)) (kk : rj_Go X9 y9 cc nL rt9 d9 P9 (pc + 1) lv (.ref (cb + (77 + z.toNat)) :: rest) (rc_p X9 cb vv vk c σ)) : rj_Go X9 y9 cc nL rt9 d9 P9 pc lv (rj_i z :: .ref (cb + 76) :: rest) (rc_p X9 cb vv vk c σ) := rc_row hV (n := 76) (L := 6) (m := 77) rfl (rc_kr77 _) z0 z1 (by decide) hdg kk
theorem rc_r84 (hV : rc_V cb vv vk) (z0 : 0 ≤ z) (z1 : z < 6) (hdg : decode cc pc = .ok (.aaload, 1)) (kk : rj_Go X9 y9 cc nL rt9 d9 P9 (pc + 1) lv (.ref (cb + (84 + z.toNat)) :: rest) (rc_p X9 cb vv vk c σ)) : rj_Go X9 y9 cc nL rt9 d9 P9 pc lv (rj_i z :: .ref (cb + 83) :: rest) (rc_p X9 cb vv vk c σ) := rc_row hV (n := 83) (L := 6) (m := 84) rfl (rc_kr84 _) z0 z1 (by decide) hdg kk
theorem rc_ip0 {p : Int} (hR : rc_R X9 cb vv vk c σ s ad) (p0 : 0 ≤ p) (p1 : p < s 1) (h1 : 0 ≤ s 1 ∧ s 1 ≤ 6) (hdg : decode cc pc = .ok (.iaload, 1)) (kk : rj_Go X9 y9 cc nL rt9 d9 P9 (pc + 1) lv (rj_i (s (172 + p)) :: rest) (rc_p X9 cb vv vk c σ)) : rj_Go X9 y9 cc nL rt9 d9 P9 pc lv (rj_i 0 :: .ref (cb + (4 + p.toNat)) :: rest) (rc_p X9 cb vv vk c σ) := by
  refine rc_ld hR.V (n := 4 + p.toNat) (L := 4) (rc_k4 (X9 := X9) (cb := cb) _ (by omega)).1 ((rc_k4 (X9 := X9) (cb := cb) _ (by omega)).2 _) (by decide) (by decide) (by decide) hdg ?_
  rw [(hR.pat p p0 p1 (by omega)).1]; exact kk
theorem rc_ip1 {p : Int} (hR : rc_R X9 cb vv vk c σ s ad) (p0 : 0 ≤ p) (p1 : p < s 1) (h1 : 0 ≤ s 1 ∧ s 1 ≤ 6) (hdg : decode cc pc = .ok (.iaload, 1)) (kk : rj_Go X9 y9 cc nL rt9 d9 P9 (pc + 1) lv (rj_i (s (178 + p)) :: rest) (rc_p X9 cb vv vk c σ)) : rj_Go X9 y9 cc nL rt9 d9 P9 pc lv (rj_i 1 :: .ref (cb + (4 + p.toNat)) :: rest) (rc_p X9 cb vv vk c σ) := by
  refine rc_ld hR.V (n := 4 + p.toNat) (L := 4) (rc_k4 (X9 := X9) (cb := cb) _ (by omega)).1 ((rc_k4 (X9 := X9) (cb := cb) _ (by omega)).2 _) (by decide) (by decide) (by decide) hdg ?_
  rw [(hR.pat p p0 p1 (by omega)).2.1]; exact kk
theorem rc_ip2 {p : Int} (hR : rc_R X9 cb vv vk c σ s ad) (p0 : 0 ≤ p) (p1 : p < s 1) (h1 : 0 ≤ s 1 ∧ s 1 ≤ 6) (hdg : decode cc pc = .ok (.iaload, 1)) (kk : rj_Go X9 y9 cc nL rt9 d9 P9 (pc + 1) lv (rj_i (s (184 + p)) :: rest) (rc_p X9 cb vv vk c σ)) : rj_Go X9 y9 cc nL rt9 d9 P9 pc lv (rj_i 2 :: .ref (cb + (4 + p.toNat)) :: rest) (rc_p X9 cb vv vk c σ) := by
  refine rc_ld hR.V (n := 4 + p.toNat) (L := 4) (rc_k4 (X9 := X9) (cb := cb) _ (by omega)).1 ((rc_k4 (X9 := X9) (cb := cb) _ (by omega)).2 _) (by decide) (by decide) (by decide) hdg ?_
  rw [(hR.pat p p0 p1 (by omega)).2.2.1]; exact kk
theorem rc_ip3 {p : Int} (hR : rc_R X9 cb vv vk c σ s ad) (p0 : 0 ≤ p) (p1 : p < s 1) (h1 : 0 ≤ s 1 ∧ s 1 ≤ 6) (hdg : decode cc pc = .ok (.iaload, 1)) (kk : rj_Go X9 y9 cc nL rt9 d9 P9 (pc + 1) lv (rj_i (s (190 + p)) :: rest) (rc_p X9 cb vv vk c σ)) : rj_Go X9 y9 cc nL rt9 d9 P9 pc lv (rj_i 3 :: .ref (cb + (4 + p.toNat)) :: rest) (rc_p X9 cb vv vk c σ) := by
  refine rc_ld hR.V (n := 4 + p.toNat) (L := 4) (rc_k4 (X9 := X9) (cb := cb) _ (by omega)).1 ((rc_k4 (X9 := X9) (cb := cb) _ (by omega)).2 _) (by decide) (by decide) (by decide) hdg ?_
  rw [(hR.pat p p0 p1 (by omega)).2.2.2]; exact kk
theorem rc_il {m q : Int} (hR : rc_R X9 cb vv vk c σ s ad) (m0 : 0 ≤ m) (m1 : m < 6) (q0 : 0 ≤ q) (q1 : q < 8) (hdg : decode cc pc = .ok (.iaload, 1)) (kk : rj_Go X9 y9 cc nL rt9 d9 P9 (pc + 1) lv (rj_i (s (236 + 8 * m + q)) :: rest) (rc_p X9 cb vv vk c σ)) : rj_Go X9 y9 cc nL rt9 d9 P9 pc lv (rj_i q :: .ref (cb + (19 + m.toNat)) :: rest) (rc_p X9 cb vv vk c σ) := by
  refine rc_ld hR.V (n := 19 + m.toNat) (L := 8) (rc_k19 (X9 := X9) (cb := cb) _ (by omega)).1 ((rc_k19 (X9 := X9) (cb := cb) _ (by omega)).2 _) q0 q1 (by decide) hdg ?_
  rw [hR.pln m q m0 m1 q0 q1]; exact kk
theorem rc_ia {a e : Int} (hR : rc_R X9 cb vv vk c σ s ad) (m0 : 0 ≤ a) (m1 : a < 6) (q0 : 0 ≤ e) (q1 : e < 6) (hh : s 5 = 0 ∨ (a < s 8 ∧ e < s 8)) (hdg : decode cc pc = .ok (.iaload, 1)) (kk : rj_Go X9 y9 cc nL rt9 d9 P9 (pc + 1) lv (rj_i (sp_vn s a e) :: rest) (rc_p X9 cb vv vk c σ)) : rj_Go X9 y9 cc nL rt9 d9 P9 pc lv (rj_i e :: .ref (cb + (26 + a.toNat)) :: rest) (rc_p X9 cb vv vk c σ) := by
  refine rc_ld hR.V (n := 26 + a.toNat) (L := 6) (rc_k26 (X9 := X9) (cb := cb) _ (by omega)).1 ((rc_k26 (X9 := X9) (cb := cb) _ (by omega)).2 _) q0 q1 (by decide) hdg ?_
  rw [hR.ahd a e m0 m1 q0 q1 hh]; exact kk
theorem rc_l4 {i : Int} (hV : rc_V cb vv vk) (i0 : 0 ≤ i) (i1 : i < 6) (z0 : 0 ≤ z) (z1 : z < 4) (hdg : decode cc pc = .ok (.iaload, 1)) (kk : rj_Go X9 y9 cc nL rt9 d9 P9 (pc + 1) lv (rj_i (c (4 + i.toNat) z) :: rest) (rc_p X9 cb vv vk c σ)) : rj_Go X9 y9 cc nL rt9 d9 P9 pc lv (rj_i z :: .ref (cb + (4 + i.toNat)) :: rest) (rc_p X9 cb vv vk c σ) := rc_ld hV (n := 4 + i.toNat) (L := 4) (rc_k4 (X9 := X9) (cb := cb) _ (by omega)).1 ((rc_k4 (X9 := X9) (cb := cb) _ (by omega)).2 _) z0 z1 (by decide) hdg kk
theorem rc_s4 {i : Int} (hV : rc_V cb vv vk) (i0 : 0 ≤ i) (i1 : i < 6) (z0 : 0 ≤ z) (z1 : z < 4) (hdg : decode cc pc = .ok (.iastore, 1)) (kk : rj_Go X9 y9 cc nL rt9 d9 P9 (pc + 1) lv (rest) (rc_p X9 cb vv vk (rm_u c (4 + i.toNat) (rj_up (c (4 + i.toNat)) z w)) σ)) : rj_Go X9 y9 cc nL rt9 d9 P9 pc lv (rj_i w :: rj_i z :: .ref (cb + (4 + i.toNat)) :: rest) (rc_p X9 cb vv vk c σ) := rc_st hV (n := 4 + i.toNat) (L := 4) (rc_k4 (X9 := X9) (cb := cb) _ (by omega)).1 (rc_k4 (X9 := X9) (cb := cb) _ (by omega)).2 z0 z1 (by decide) hdg kk
theorem rc_l19 {i : Int} (hV : rc_V cb vv vk) (i0 : 0 ≤ i) (i1 : i < 6) (z0 : 0 ≤ z) (z1 : z < 8) (hdg : decode cc pc = .ok (.iaload, 1)) (kk : rj_Go X9 y9 cc nL rt9 d9 P9 (pc + 1) lv (rj_i (c (19 + i.toNat) z) :: rest) (rc_p X9 cb vv vk c σ)) : rj_Go X9 y9 cc nL rt9 d9 P9 pc lv (rj_i z :: .ref (cb + (19 + i.toNat)) :: rest) (rc_p X9 cb vv vk c σ) := rc_ld hV (n := 19 + i.toNat) (L := 8) (rc_k19 (X9 := X9) (cb := cb) _ (by omega)).1 ((rc_k19 (X9 := X9) (cb := cb) _ (by omega)).2 _) z0 z1 (by decide) hdg kk
theorem rc_s19 {i : Int} (hV : rc_V cb vv vk) (i0 : 0 ≤ i) (i1 : i < 6) (z0 : 0 ≤ z) (z1 : z < 8) (hdg : decode cc pc = .ok (.iastore, 1)) (kk : rj_Go X9 y9 cc nL rt9 d9 P9 (pc + 1) lv (rest) (rc_p X9 cb vv vk (rm_u c (19 + i.toNat) (rj_up (c (19 + i.toNat)) z w)) σ)) : rj_Go X9 y9 cc nL rt9 d9 P9 pc lv (rj_i w :: rj_i z :: .ref (cb + (19 + i.toNat)) :: rest) (rc_p X9 cb vv vk c σ) := rc_st hV (n := 19 + i.toNat) (L := 8) (rc_k19 (X9 := X9) (cb := cb) _ (by omega)).1 (rc_k19 (X9 := X9) (cb := cb) _ (by omega)).2 z0 z1 (by decide) hdg kk
theorem rc_l26 {i : Int} (hV : rc_V cb vv vk) (i0 : 0 ≤ i) (i1 : i < 6) (z0 : 0 ≤ z) (z1 : z < 6) (hdg : decode cc pc = .ok (.iaload, 1)) (kk : rj_Go X9 y9 cc nL rt9 d9 P9 (pc + 1) lv (rj_i (c (26 + i.toNat) z) :: rest) (rc_p X9 cb vv vk c σ)) : rj_Go X9 y9 cc nL rt9 d9 P9 pc lv (rj_i z :: .ref (cb + (26 + i.toNat)) :: rest) (rc_p X9 cb vv vk c σ) := rc_ld hV (n := 26 + i.toNat) (L := 6) (rc_k26 (X9 := X9) (cb := cb) _ (by omega)).1 ((rc_k26 (X9 := X9) (cb := cb) _ (by omega)).2 _) z0 z1 (by decide) hdg kk
theorem rc_s26 {i : Int} (hV : rc_V cb vv vk) (i0 : 0 ≤ i) (i1 : i < 6) (z0 : 0 ≤ z) (z1 : z < 6) (hdg : decode cc pc = .ok (.iastore, 1)) (kk : rj_Go X9 y9 cc nL rt9 d9 P9 (pc + 1) lv (rest) (rc_p X9 cb vv vk (rm_u c (26 + i.toNat) (rj_up (c (26 + i.toNat)) z w)) σ)) : rj_Go X9 y9 cc nL rt9 d9 P9 pc lv (rj_i w :: rj_i z :: .ref (cb + (26 + i.toNat)) :: rest) (rc_p X9 cb vv vk c σ) := rc_st hV (n := 26 + i.toNat) (L := 6) (rc_k26 (X9 := X9) (cb := cb) _ (by omega)).1 (rc_k26 (X9 := X9) (cb := cb) _ (by omega)).2 z0 z1 (by decide) hdg kk
theorem rc_l67 {i : Int} (hV : rc_V cb vv vk) (i0 : 0 ≤ i) (i1 : i < 9) (z0 : 0 ≤ z) (z1 : z < 7) (hdg : decode cc pc = .ok (.iaload, 1)) (kk : rj_Go X9 y9 cc nL rt9 d9 P9 (pc + 1) lv (rj_i (c (67 + i.toNat) z) :: rest) (rc_p X9 cb vv vk c σ)) : rj_Go X9 y9 cc nL rt9 d9 P9 pc lv (rj_i z :: .ref (cb + (67 + i.toNat)) :: rest) (rc_p X9 cb vv vk c σ) := rc_ld hV (n := 67 + i.toNat) (L := 7) (rc_k67 (X9 := X9) (cb := cb) _ (by omega)).1 ((rc_k67 (X9 := X9) (cb := cb) _ (by omega)).2 _) z0 z1 (by decide) hdg kk
theorem rc_s67 {i : Int} (hV : rc_V cb vv vk) (i0 : 0 ≤ i) (i1 : i < 9) (z0 : 0 ≤ z) (z1 : z < 7) (hdg : decode cc pc = .ok (.iastore, 1)) (kk : rj_Go X9 y9 cc nL rt9 d9 P9 (pc + 1) lv (rest) (rc_p X9 cb vv vk (rm_u c (67 + i.toNat) (rj_up (c (67 + i.toNat)) z w)) σ)) : rj_Go X9 y9 cc nL rt9 d9 P9 pc lv (rj_i w :: rj_i z :: .ref (cb + (67 + i.toNat)) :: rest) (rc_p X9 cb vv vk c σ) := rc_st hV (n := 67 + i.toNat) (L := 7) (rc_k67 (X9 := X9) (cb := cb) _ (by omega)).1 (rc_k67 (X9 := X9) (cb := cb) _ (by omega)).2 z0 z1 (by decide) hdg kk
theorem rc_l77 {i : Int} (hV : rc_V cb vv vk) (i0 : 0 ≤ i) (i1 : i < 6) (z0 : 0 ≤ z) (z1 : z < 6) (hdg : decode cc pc = .ok (.iaload, 1)) (kk : rj_Go X9 y9 cc nL rt9 d9 P9 (pc + 1) lv (rj_i (c (77 + i.toNat) z) :: rest) (rc_p X9 cb vv vk c σ)) : rj_Go X9 y9 cc nL rt9 d9 P9 pc lv (rj_i z :: .ref (cb + (77 + i.toNat)) :: rest) (rc_p X9 cb vv vk c σ) := rc_ld hV (n := 77 + i.toNat) (L := 6) (rc_k77 (X9 := X9) (cb := cb) _ (by omega)).1 ((rc_k77 (X9 := X9) (cb := cb) _ (by omega)).2 _) z0 z1 (by decide) hdg kk
theorem rc_s77 {i : Int} (hV : rc_V cb vv vk) (i0 : 0 ≤ i) (i1 : i < 6) (z0 : 0 ≤ z) (z1 : z < 6) (hdg : decode cc pc = .ok (.iastore, 1)) (kk : rj_Go X9 y9 cc nL rt9 d9 P9 (pc + 1) lv (rest) (rc_p X9 cb vv vk (rm_u c (77 + i.toNat) (rj_up (c (77 + i.toNat)) z w)) σ)) : rj_Go X9 y9 cc nL rt9 d9 P9 pc lv (rj_i w :: rj_i z :: .ref (cb + (77 + i.toNat)) :: rest) (rc_p X9 cb vv vk c σ) := rc_st hV (n := 77 + i.toNat) (L := 6) (rc_k77 (X9 := X9) (cb := cb) _ (by omega)).1 (rc_k77 (X9 := X9) (cb := cb) _ (by omega)).2 z0 z1 (by decide) hdg kk
theorem rc_l84 {i : Int} (hV : rc_V cb vv vk) (i0 : 0 ≤ i) (i1 : i < 6) (z0 : 0 ≤ z) (z1 : z < 6) (hdg : decode cc pc = .ok (.iaload, 1)) (kk : rj_Go X9 y9 cc nL rt9 d9 P9 (pc + 1) lv (rj_i (c (84 + i.toNat) z) :: rest) (rc_p X9 cb vv vk c σ)) : rj_Go X9 y9 cc nL rt9 d9 P9 pc lv (rj_i z :: .ref (cb + (84 + i.toNat)) :: rest) (rc_p X9 cb vv vk c σ) := rc_ld hV (n := 84 + i.toNat) (L := 6) (rc_k84 (X9 := X9) (cb := cb) _ (by omega)).1 ((rc_k84 (X9 := X9) (cb := cb) _ (by omega)).2 _) z0 z1 (by decide) hdg kk
theorem rc_s84 {i : Int} (hV : rc_V cb vv vk) (i0 : 0 ≤ i) (i1 : i < 6) (z0 : 0 ≤ z) (z1 : z < 6) (hdg : decode cc pc = .ok (.iastore, 1)) (kk : rj_Go X9 y9 cc nL rt9 d9 P9 (pc + 1) lv (rest) (rc_p X9 cb vv vk (rm_u c (84 + i.toNat) (rj_up (c (84 + i.toNat)) z w)) σ)) : rj_Go X9 y9 cc nL rt9 d9 P9 pc lv (rj_i w :: rj_i z :: .ref (cb + (84 + i.toNat)) :: rest) (rc_p X9 cb vv vk c σ) := rc_st hV (n := 84 + i.toNat) (L := 6) (rc_k84 (X9 := X9) (cb := cb) _ (by omega)).1 (rc_k84 (X9 := X9) (cb := cb) _ (by omega)).2 z0 z1 (by decide) hdg kk
end RRW
