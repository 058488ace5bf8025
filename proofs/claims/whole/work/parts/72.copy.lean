/-! THE CLASS: copies of a scene; image, undo -/
/-- rows that are copied: k of them -/
def rc_cr (c : rm_R) (M N L k : Nat) : rm_R := fun q => if N ≤ q ∧ q < N + k then (fun j => if j < (L : Int) then c (M + (q - N)) j else c q j) else c q
theorem rc_cr_0 (c : rm_R) (M N L : Nat) : rc_cr c M N L 0 = c := funext fun q => if_neg (by omega)
theorem rc_cr_o {c : rm_R} {M N L k q : Nat} (h : ¬ (N ≤ q ∧ q < N + k)) : rc_cr c M N L k q = c q := if_neg h
theorem rc_cr_i {c : rm_R} {M N L k q : Nat} {j : Int} (h : N ≤ q ∧ q < N + k) (hj : j < (L : Int)) : rc_cr c M N L k q j = c (M + (q - N)) j := by
  unfold rc_cr; rw [if_pos h]; exact if_pos hj
theorem rc_cr_s {c : rm_R} {M N L k : Nat} (hk : k < 6) (hd : M + 6 ≤ N ∨ N + 6 ≤ M) : rm_u (rc_cr c M N L k) (N + (k : Int).toNat) (fun j => if j < (L : Int) then rc_cr c M N L k (M + (k : Int).toNat) j else rc_cr c M N L k (N + (k : Int).toNat) j) = rc_cr c M N L (k + 1) := by
  funext q
  rw [Int.toNat_natCast]
  by_cases h : q = N + k
  · subst h
    rw [rm_u_eq, rc_cr_o (by omega), rc_cr_o (by omega)]
    unfold rc_cr
    rw [if_pos (by omega), Nat.add_sub_cancel_left]
  · rw [rm_u_ne _ _ h]
    unfold rc_cr
    by_cases h2 : N ≤ q ∧ q < N + k
    · rw [if_pos h2, if_pos (by omega)]
    · rw [if_neg h2, if_neg (by omega)]
/-- c0's scene at t is c's at b -/
def rc_cp (b t : Nat) (c c0 : rm_R) : Prop := (c0 t 1 = c b 1 ∧ c0 t 3 = c b 3 ∧ c0 t 5 = c b 5 ∧ c0 t 7 = c b 7 ∧ c0 t 8 = ((c b 8).toNat : Int) ∧ c0 t 9 = c b 9 ∧ c0 t 11 = c b 11 ∧ c0 t 13 = c b 13 ∧ c0 t 14 = c b 14) ∧ (∀ j : Int, j < 6 → c0 (t + 1) j = c (b + 1) j) ∧ (∀ (i : Nat) (j : Int), i < 6 → j < 4 → c0 (t + (3 + i)) j = c (b + (3 + i)) j) ∧ (∀ j : Int, j < 8 → c0 (t + 9) j = c (b + 9) j) ∧ (∀ j : Int, j < 120 → c0 (t + 10) j = c (b + 10) j) ∧ (∀ (i : Nat) (j : Int), i < 6 → j < 8 → c0 (t + (18 + i)) j = c (b + (18 + i)) j) ∧ (∀ (i : Nat) (j : Int), i < 6 → j < 6 → c0 (t + (25 + i)) j = c (b + (25 + i)) j) ∧ ∀ q : Nat, ¬ (t ≤ q ∧ q < t + 31) → c0 q = c q
theorem rc_cp.S {b t cb vv vk : Nat} {c c0 : rm_R} {σ : rj_H} {s : Int → Int} {ad : Nat → Int → Nat} (k : rc_cp b t c c0) (h : rc_S b cb vv vk c σ s ad) (hI : sp_I s) : rc_S t cb vv vk c0 σ s ad := by
  obtain ⟨⟨h0, h1, h2, h3, h4, h5, h6, h7⟩, -⟩ := id hI
  obtain ⟨⟨b1, b2, b3, b4, b5, b6, b7, b8, b9⟩, g2, g3, g4, g5, g6, g7⟩ := h
  obtain ⟨⟨a1, a2, a3, a4, a5, a6, a7, a8, a9⟩, k2, k3, k4, k5, k6, k7, -⟩ := k
  refine ⟨⟨a1.trans b1, a2.trans b2, a3.trans b3, a4.trans b4, by rw [a5, b5]; rfl, a6.trans b6, a7.trans b7, a8.trans b8, a9.trans b9⟩, fun m m0 m1 => ⟨(k2 m (by omega)).trans (g2 m m0 m1).1, (g2 m m0 m1).2⟩, fun p p0 p1 p2 => ?_, fun w w0 w1 => ⟨(k4 w (by omega)).trans (g4 w w0 w1).1, (g4 w w0 w1).2⟩, fun j j0 j1 => (k5 j (by omega)).trans (g5 j j0 j1), fun m q m0 m1 q0 q1 => (k6 _ q (by omega) (by omega)).trans (g6 m q m0 m1 q0 q1), fun a e a0 a1 e0 e1 hh => (k7 _ e (by omega) (by omega)).trans (g7 a e a0 a1 e0 e1 hh)⟩
  have := g3 p p0 p1 p2
  rw [k3 _ _ (by omega) (by omega), k3 _ _ (by omega) (by omega), k3 _ _ (by omega) (by omega), k3 _ _ (by omega) (by omega)]
  exact this
theorem rc_cp.N {b t : Nat} {c c0 : rm_R} {s : Int → Int} (k : rc_cp b t c c0) (h : rc_N c b s) : rc_N c0 t s := by
  obtain ⟨-, k2, k3, k4, k5, k6, k7, -⟩ := k
  exact ⟨fun m a e => by rw [k2 m e]; exact h.1 m a e, fun w a e => by rw [k4 w e]; exact h.2 w a e⟩
theorem rc_o_cp (f g : Int → Int) (n : Nat) : (fun j : Int => if j < (n : Int) then rc_o f j else rc_o g j) = rc_o (fun j => if j < (n : Int) then f j else g j) := by
  funext j
  unfold rc_o
  by_cases h : j < (n : Int)
  · simp only [if_pos h]
  · simp only [if_neg h]
section CPY
variable {X9 : rj_X} {y9 : MethodName} {cc : ByteArray} {nL : Nat} {rt9 : Option FieldType} {d9 : Nat} {P9 : Option Value → rj_H → Prop} {pc : Nat} {lv : List (Nat × Value)} {rest : List Value} {σ : rj_H} {cb vv vk : Nat} {c : rm_R} {z : Int}
/-- copies of numbers between fixed cells -/
theorem rc_cpp {A B t n idx L : Nat} {ty : FieldType} (hV : rc_V cb vv vk) (hA : rc_fx A = true) (hB : rc_fx B = true) (kA : ∀ g, rc_k X9 cb A g = rj_ar X9 t L g) (kB : ∀ g, rc_k X9 cb B g = rj_ar X9 t L g) (ht : (rj_tys X9)[t]? = some (X9.2.2.1 t, ty)) (hn : n = L) (hL : L < 100000) (hfit : ∀ j : Nat, j < n → fits ty (rj_i (c A (j : Int))) = true) (hlk : Cond.methodLink y9.cls idx arraycopyName ∈ rj_tbl) (hnat : Cond.native arraycopyName ∈ rj_tbl) (hst : Cond.static arraycopyName ∈ rj_tbl) (hini : Cond.initialized "java/lang/System" ∈ rj_tbl) (hd : 2 ≤ d9) (hcat : (rest.map fun v => v.category).sum ≤ 8) (hdg : decode cc pc = .ok (.invokestatic idx, 3)) (kk : rj_Go X9 y9 cc nL rt9 d9 P9 (pc + 3) lv rest (rc_p X9 cb vv vk (rm_u c B (fun j => if j < (L : Int) then c A j else c B j)) σ)) : rj_Go X9 y9 cc nL rt9 d9 P9 pc lv (rj_i n :: rj_i 0 :: .ref (cb + B) :: rj_i 0 :: .ref (cb + A) :: rest) (rc_p X9 cb vv vk c σ) := by
  subst hn
  refine go_cpp ((rc_at hV A hA).trans (congrArg some (kA _))) ((rc_at hV B hB).trans (congrArg some (kB _))) ht (Nat.le_refl _) (Nat.le_refl _) hL hfit hlk hnat hst hini hd hcat hdg ?_
  rw [rc_set hV B hB (g := fun j => if j < (n : Int) then c A j else c B j) (kB _)]
  exact kk
/-- .. of references -/
theorem rc_cpr {A B t n idx L : Nat} {E : String} (hV : rc_V cb vv vk) (hA : rc_fx A = true) (hB : rc_fx B = true) (kA : ∀ g, rc_k X9 cb A g = rj_rr X9 t L (rc_o g)) (kB : ∀ g, rc_k X9 cb B g = rj_rr X9 t L (rc_o g)) (ht : (rj_tys X9)[t]? = some (X9.2.2.1 t, .object E)) (hn : n = L) (hL : L < 100000) (hel : ∀ j : Nat, j < n → ∀ y : Nat, rc_o (c A) (j : Int) = some y → ∃ (ci : Nat) (C : String) (T : u_T) (N : Nat) (ty : Nat → FieldType) (fs : List Value), rj_cl ci C T N ty ∧ (rc_p X9 cb vv vk c σ).2.2 y = some (.inr (ci, fs)) ∧ (C = E ∨ (C, E) ∈ rj_cas)) (hlk : Cond.methodLink y9.cls idx arraycopyName ∈ rj_tbl) (hnat : Cond.native arraycopyName ∈ rj_tbl) (hst : Cond.static arraycopyName ∈ rj_tbl) (hini : Cond.initialized "java/lang/System" ∈ rj_tbl) (hd : 2 ≤ d9) (hcat : (rest.map fun v => v.category).sum ≤ 8) (hdg : decode cc pc = .ok (.invokestatic idx, 3)) (kk : rj_Go X9 y9 cc nL rt9 d9 P9 (pc + 3) lv rest (rc_p X9 cb vv vk (rm_u c B (fun j => if j < (L : Int) then c A j else c B j)) σ)) : rj_Go X9 y9 cc nL rt9 d9 P9 pc lv (rj_i n :: rj_i 0 :: .ref (cb + B) :: rj_i 0 :: .ref (cb + A) :: rest) (rc_p X9 cb vv vk c σ) := by
  subst hn
  refine go_cpr ((rc_at hV A hA).trans (congrArg some (kA _))) ((rc_at hV B hB).trans (congrArg some (kB _))) ht (Nat.le_refl _) (Nat.le_refl _) hL hel hlk hnat hst hini hd hcat hdg ?_
  rw [rc_o_cp, rc_set hV B hB (g := fun j => if j < (n : Int) then c A j else c B j) (kB _)]
  exact kk
/-- the elements of a scene's mirrors, walls -/
theorem rc_elm {b : Nat} {c' : rm_R} (he : c' (b + 1) = c (b + 1)) {s : Int → Int} {ad : Nat → Int → Nat} (h : rc_S b cb vv vk c σ s ad) (hN : rc_N c b s) (hM : sp_IM s) : ∀ j : Nat, j < 6 → ∀ y : Nat, rc_o (c' (b + 1)) (j : Int) = some y → ∃ (ci : Nat) (C : String) (T : u_T) (N : Nat) (ty : Nat → FieldType) (fs : List Value), rj_cl ci C T N ty ∧ (rc_p X9 cb vv vk c' σ).2.2 y = some (.inr (ci, fs)) ∧ (C = "SunMirrors$Mirror" ∨ (C, "SunMirrors$Mirror") ∈ rj_cas) := by
  intro j hj y hy
  rw [he] at hy
  unfold rc_o at hy
  by_cases hs : (j : Int) < s 0
  · obtain ⟨e1, e2⟩ := h.2.1 j (by omega) hs
    rw [e1, if_neg (by omega)] at hy
    cases hy
    rw [Int.toNat_natCast]
    have ha := rc_ma (X9 := X9) (c := c') e2
    revert ha
    exact rc_kd (P := fun _ ci => (rc_p X9 cb vv vk c' σ).2.2 (ad 0 j) = some (.inr (ci, rc_mf s j)) → _) (hM j (by omega) hs).1
      (fun ha => ⟨_, _, _, _, _, _, kX2, ha, Or.inl rfl⟩)
      (fun ha => ⟨_, _, _, _, _, _, kX8, ha, Or.inr (by simp [rj_cas, RX8])⟩)
      (fun ha => ⟨_, _, _, _, _, _, kX0, ha, Or.inr (by simp [rj_cas, RX0])⟩)
      (fun ha => ⟨_, _, _, _, _, _, kX3, ha, Or.inr (by simp [rj_cas, RX3])⟩)
      (fun ha => ⟨_, _, _, _, _, _, kX1, ha, Or.inr (by simp [rj_cas, RX1])⟩)
      (fun ha => ⟨_, _, _, _, _, _, kX4, ha, Or.inr (by simp [rj_cas, RX4])⟩)
      (fun ha => ⟨_, _, _, _, _, _, kX6, ha, Or.inr (by simp [rj_cas, RX6])⟩)
  · have := hN.1 j (by omega) (by omega)
    rw [if_pos this] at hy
    cases hy
theorem rc_elw {b : Nat} {c' : rm_R} (he : c' (b + 9) = c (b + 9)) {s : Int → Int} {ad : Nat → Int → Nat} (h : rc_S b cb vv vk c σ s ad) (hN : rc_N c b s) : ∀ j : Nat, j < 8 → ∀ y : Nat, rc_o (c' (b + 9)) (j : Int) = some y → ∃ (ci : Nat) (C : String) (T : u_T) (N : Nat) (ty : Nat → FieldType) (fs : List Value), rj_cl ci C T N ty ∧ (rc_p X9 cb vv vk c' σ).2.2 y = some (.inr (ci, fs)) ∧ (C = "SunMirrors$Wall" ∨ (C, "SunMirrors$Wall") ∈ rj_cas) := by
  intro j hj y hy
  rw [he] at hy
  unfold rc_o at hy
  by_cases hs : (j : Int) < s 2
  · obtain ⟨e1, e2⟩ := h.2.2.2.1 j (by omega) hs
    rw [e1, if_neg (by omega)] at hy
    cases hy
    rw [Int.toNat_natCast]
    exact ⟨_, _, _, _, _, _, kX10, rc_wa e2, Or.inl rfl⟩
  · have := hN.2 j (by omega) (by omega)
    rw [if_pos this] at hy
    cases hy
theorem rc_q1_1 {idx : Nat} (hV : rc_V cb vv vk) (hln : rj_ln y9.cls idx (TX5 1)) (hdg : decode cc pc = .ok (.putfield idx, 3)) (kk : rj_Go X9 y9 cc nL rt9 d9 P9 (pc + 3) lv rest (rc_p X9 cb vv vk (rm_u c 1 (rj_up (c 1) 1 z)) σ)) : rj_Go X9 y9 cc nL rt9 d9 P9 pc lv (rj_i z :: .ref (cb + 1) :: rest) (rc_p X9 cb vv vk c σ) := go_put (k := 1) kX5 (by decide) hln (Or.inl rfl) (rc_at hV 1 rfl) (by show 1 < 15; decide) rfl rfl hdg (go_eq rfl rfl rfl (rc_set hV 1 rfl (g := rj_up (c 1) 1 z) rfl) kk)
theorem rc_q1_3 {idx : Nat} (hV : rc_V cb vv vk) (hln : rj_ln y9.cls idx (TX5 3)) (hdg : decode cc pc = .ok (.putfield idx, 3)) (kk : rj_Go X9 y9 cc nL rt9 d9 P9 (pc + 3) lv rest (rc_p X9 cb vv vk (rm_u c 1 (rj_up (c 1) 3 z)) σ)) : rj_Go X9 y9 cc nL rt9 d9 P9 pc lv (rj_i z :: .ref (cb + 1) :: rest) (rc_p X9 cb vv vk c σ) := go_put (k := 3) kX5 (by decide) hln (Or.inl rfl) (rc_at hV 1 rfl) (by show 3 < 15; decide) rfl rfl hdg (go_eq rfl rfl rfl (rc_set hV 1 rfl (g := rj_up (c 1) 3 z) rfl) kk)
theorem rc_q1_5 {idx : Nat} (hV : rc_V cb vv vk) (hln : rj_ln y9.cls idx (TX5 5)) (hdg : decode cc pc = .ok (.putfield idx, 3)) (kk : rj_Go X9 y9 cc nL rt9 d9 P9 (pc + 3) lv rest (rc_p X9 cb vv vk (rm_u c 1 (rj_up (c 1) 5 z)) σ)) : rj_Go X9 y9 cc nL rt9 d9 P9 pc lv (rj_i z :: .ref (cb + 1) :: rest) (rc_p X9 cb vv vk c σ) := go_put (k := 5) kX5 (by decide) hln (Or.inl rfl) (rc_at hV 1 rfl) (by show 5 < 15; decide) rfl rfl hdg (go_eq rfl rfl rfl (rc_set hV 1 rfl (g := rj_up (c 1) 5 z) rfl) kk)
theorem rc_q1_7 {idx : Nat} (hV : rc_V cb vv vk) (hln : rj_ln y9.cls idx (TX5 7)) (hdg : decode cc pc = .ok (.putfield idx, 3)) (kk : rj_Go X9 y9 cc nL rt9 d9 P9 (pc + 3) lv rest (rc_p X9 cb vv vk (rm_u c 1 (rj_up (c 1) 7 z)) σ)) : rj_Go X9 y9 cc nL rt9 d9 P9 pc lv (rj_i z :: .ref (cb + 1) :: rest) (rc_p X9 cb vv vk c σ) := go_put (k := 7) kX5 (by decide) hln (Or.inl rfl) (rc_at hV 1 rfl) (by show 7 < 15; decide) rfl rfl hdg (go_eq rfl rfl rfl (rc_set hV 1 rfl (g := rj_up (c 1) 7 z) rfl) kk)
theorem rc_q1_9 {idx : Nat} (hV : rc_V cb vv vk) (hln : rj_ln y9.cls idx (TX5 9)) (hdg : decode cc pc = .ok (.putfield idx, 3)) (kk : rj_Go X9 y9 cc nL rt9 d9 P9 (pc + 3) lv rest (rc_p X9 cb vv vk (rm_u c 1 (rj_up (c 1) 9 z)) σ)) : rj_Go X9 y9 cc nL rt9 d9 P9 pc lv (rj_i z :: .ref (cb + 1) :: rest) (rc_p X9 cb vv vk c σ) := go_put (k := 9) kX5 (by decide) hln (Or.inl rfl) (rc_at hV 1 rfl) (by show 9 < 15; decide) rfl rfl hdg (go_eq rfl rfl rfl (rc_set hV 1 rfl (g := rj_up (c 1) 9 z) rfl) kk)
theorem rc_q1_11 {idx : Nat} (hV : rc_V cb vv vk) (hln : rj_ln y9.cls idx (TX5 11)) (hdg : decode cc pc = .ok (.putfield idx, 3)) (kk : rj_Go X9 y9 cc nL rt9 d9 P9 (pc + 3) lv rest (rc_p X9 cb vv vk (rm_u c 1 (rj_up (c 1) 11 z)) σ)) : rj_Go X9 y9 cc nL rt9 d9 P9 pc lv (rj_i z :: .ref (cb + 1) :: rest) (rc_p X9 cb vv vk c σ) := go_put (k := 11) kX5 (by decide) hln (Or.inl rfl) (rc_at hV 1 rfl) (by show 11 < 15; decide) rfl rfl hdg (go_eq rfl rfl rfl (rc_set hV 1 rfl (g := rj_up (c 1) 11 z) rfl) kk)
theorem rc_q1_13 {idx : Nat} (hV : rc_V cb vv vk) (hln : rj_ln y9.cls idx (TX5 13)) (hdg : decode cc pc = .ok (.putfield idx, 3)) (kk : rj_Go X9 y9 cc nL rt9 d9 P9 (pc + 3) lv rest (rc_p X9 cb vv vk (rm_u c 1 (rj_up (c 1) 13 z)) σ)) : rj_Go X9 y9 cc nL rt9 d9 P9 pc lv (rj_i z :: .ref (cb + 1) :: rest) (rc_p X9 cb vv vk c σ) := go_put (k := 13) kX5 (by decide) hln (Or.inl rfl) (rc_at hV 1 rfl) (by show 13 < 15; decide) rfl rfl hdg (go_eq rfl rfl rfl (rc_set hV 1 rfl (g := rj_up (c 1) 13 z) rfl) kk)
theorem rc_q1_14 {idx : Nat} (hV : rc_V cb vv vk) (hln : rj_ln y9.cls idx (TX5 14)) (hdg : decode cc pc = .ok (.putfield idx, 3)) (kk : rj_Go X9 y9 cc nL rt9 d9 P9 (pc + 3) lv rest (rc_p X9 cb vv vk (rm_u c 1 (rj_up (c 1) 14 z)) σ)) : rj_Go X9 y9 cc nL rt9 d9 P9 pc lv (rj_i z :: .ref (cb + 1) :: rest) (rc_p X9 cb vv vk c σ) := go_put (k := 14) kX5 (by decide) hln (Or.inl rfl) (rc_at hV 1 rfl) (by show 14 < 15; decide) rfl rfl hdg (go_eq rfl rfl rfl (rc_set hV 1 rfl (g := rj_up (c 1) 14 z) rfl) kk)
theorem rc_q1_8 {idx a : Nat} (hV : rc_V cb vv vk) (hln : rj_ln y9.cls idx (TX5 8)) (hdg : decode cc pc = .ok (.putfield idx, 3)) (kk : rj_Go X9 y9 cc nL rt9 d9 P9 (pc + 3) lv rest (rc_p X9 cb vv vk (rm_u c 1 (rj_up (c 1) 8 (a : Int))) σ)) : rj_Go X9 y9 cc nL rt9 d9 P9 pc lv (.ref a :: .ref (cb + 1) :: rest) (rc_p X9 cb vv vk c σ) := go_put (k := 8) kX5 (by decide) hln (Or.inl rfl) (rc_at hV 1 rfl) (by show 8 < 15; decide) rfl rfl hdg (go_eq rfl rfl rfl (rc_set hV 1 rfl (g := rj_up (c 1) 8 (a : Int)) rfl) kk)
theorem rc_q32_1 {idx : Nat} (hV : rc_V cb vv vk) (hln : rj_ln y9.cls idx (TX5 1)) (hdg : decode cc pc = .ok (.putfield idx, 3)) (kk : rj_Go X9 y9 cc nL rt9 d9 P9 (pc + 3) lv rest (rc_p X9 cb vv vk (rm_u c 32 (rj_up (c 32) 1 z)) σ)) : rj_Go X9 y9 cc nL rt9 d9 P9 pc lv (rj_i z :: .ref (cb + 32) :: rest) (rc_p X9 cb vv vk c σ) := go_put (k := 1) kX5 (by decide) hln (Or.inl rfl) (rc_at hV 32 rfl) (by show 1 < 15; decide) rfl rfl hdg (go_eq rfl rfl rfl (rc_set hV 32 rfl (g := rj_up (c 32) 1 z) rfl) kk)
theorem rc_q32_3 {idx : Nat} (hV : rc_V cb vv vk) (hln : rj_ln y9.cls idx (TX5 3)) (hdg : decode cc pc = .ok (.putfield idx, 3)) (kk : rj_Go X9 y9 cc nL rt9 d9 P9 (pc + 3) lv rest (rc_p X9 cb vv vk (rm_u c 32 (rj_up (c 32) 3 z)) σ)) : rj_Go X9 y9 cc nL rt9 d9 P9 pc lv (rj_i z :: .ref (cb + 32) :: rest) (rc_p X9 cb vv vk c σ) := go_put (k := 3) kX5 (by decide) hln (Or.inl rfl) (rc_at hV 32 rfl) (by show 3 < 15; decide) rfl rfl hdg (go_eq rfl rfl rfl (rc_set hV 32 rfl (g := rj_up (c 32) 3 z) rfl) kk)
theorem rc_q32_5 {idx : Nat} (hV : rc_V cb vv vk) (hln : rj_ln y9.cls idx (TX5 5)) (hdg : decode cc pc = .ok (.putfield idx, 3)) (kk : rj_Go X9 y9 cc nL rt9 d9 P9 (pc + 3) lv rest (rc_p X9 cb vv vk (rm_u c 32 (rj_up (c 32) 5 z)) σ)) : rj_Go X9 y9 cc nL rt9 d9 P9 pc lv (rj_i z :: .ref (cb + 32) :: rest) (rc_p X9 cb vv vk c σ) := go_put (k := 5) kX5 (by decide) hln (Or.inl rfl) (rc_at hV 32 rfl) (by show 5 < 15; decide) rfl rfl hdg (go_eq rfl rfl rfl (rc_set hV 32 rfl (g := rj_up (c 32) 5 z) rfl) kk)
theorem rc_q32_7 {idx : Nat} (hV : rc_V cb vv vk) (hln : rj_ln y9.cls idx (TX5 7)) (hdg : decode cc pc = .ok (.putfield idx, 3)) (kk : rj_Go X9 y9 cc nL rt9 d9 P9 (pc + 3) lv rest (rc_p X9 cb vv vk (rm_u c 32 (rj_up (c 32) 7 z)) σ)) : rj_Go X9 y9 cc nL rt9 d9 P9 pc lv (rj_i z :: .ref (cb + 32) :: rest) (rc_p X9 cb vv vk c σ) := go_put (k := 7) kX5 (by decide) hln (Or.inl rfl) (rc_at hV 32 rfl) (by show 7 < 15; decide) rfl rfl hdg (go_eq rfl rfl rfl (rc_set hV 32 rfl (g := rj_up (c 32) 7 z) rfl) kk)
theorem rc_q32_9 {idx : Nat} (hV : rc_V cb vv vk) (hln : rj_ln y9.cls idx (TX5 9)) (hdg : decode cc pc = .ok (.putfield idx, 3)) (kk : rj_Go X9 y9 cc nL rt9 d9 P9 (pc + 3) lv rest (rc_p X9 cb vv vk (rm_u c 32 (rj_up (c 32) 9 z)) σ)) : rj_Go X9 y9 cc nL rt9 d9 P9 pc lv (rj_i z :: .ref (cb + 32) :: rest) (rc_p X9 cb vv vk c σ) := go_put (k := 9) kX5 (by decide) hln (Or.inl rfl) (rc_at hV 32 rfl) (by show 9 < 15; decide) rfl rfl hdg (go_eq rfl rfl rfl (rc_set hV 32 rfl (g := rj_up (c 32) 9 z) rfl) kk)
theorem rc_q32_11 {idx : Nat} (hV : rc_V cb vv vk) (hln : rj_ln y9.cls idx (TX5 11)) (hdg : decode cc pc = .ok (.putfield idx, 3)) (kk : rj_Go X9 y9 cc nL rt9 d9 P9 (pc + 3) lv rest (rc_p X9 cb vv vk (rm_u c 32 (rj_up (c 32) 11 z)) σ)) : rj_Go X9 y9 cc nL rt9 d9 P9 pc lv (rj_i z :: .ref (cb + 32) :: rest) (rc_p X9 cb vv vk c σ) := go_put (k := 11) kX5 (by decide) hln (Or.inl rfl) (rc_at hV 32 rfl) (by show 11 < 15; decide) rfl rfl hdg (go_eq rfl rfl rfl (rc_set hV 32 rfl (g := rj_up (c 32) 11 z) rfl) kk)
theorem rc_q32_13 {idx : Nat} (hV : rc_V cb vv vk) (hln : rj_ln y9.cls idx (TX5 13)) (hdg : decode cc pc = .ok (.putfield idx, 3)) (kk : rj_Go X9 y9 cc nL rt9 d9 P9 (pc + 3) lv rest (rc_p X9 cb vv vk (rm_u c 32 (rj_up (c 32) 13 z)) σ)) : rj_Go X9 y9 cc nL rt9 d9 P9 pc lv (rj_i z :: .ref (cb + 32) :: rest) (rc_p X9 cb vv vk c σ) := go_put (k := 13) kX5 (by decide) hln (Or.inl rfl) (rc_at hV 32 rfl) (by show 13 < 15; decide) rfl rfl hdg (go_eq rfl rfl rfl (rc_set hV 32 rfl (g := rj_up (c 32) 13 z) rfl) kk)
theorem rc_q32_14 {idx : Nat} (hV : rc_V cb vv vk) (hln : rj_ln y9.cls idx (TX5 14)) (hdg : decode cc pc = .ok (.putfield idx, 3)) (kk : rj_Go X9 y9 cc nL rt9 d9 P9 (pc + 3) lv rest (rc_p X9 cb vv vk (rm_u c 32 (rj_up (c 32) 14 z)) σ)) : rj_Go X9 y9 cc nL rt9 d9 P9 pc lv (rj_i z :: .ref (cb + 32) :: rest) (rc_p X9 cb vv vk c σ) := go_put (k := 14) kX5 (by decide) hln (Or.inl rfl) (rc_at hV 32 rfl) (by show 14 < 15; decide) rfl rfl hdg (go_eq rfl rfl rfl (rc_set hV 32 rfl (g := rj_up (c 32) 14 z) rfl) kk)
theorem rc_q32_8 {idx a : Nat} (hV : rc_V cb vv vk) (hln : rj_ln y9.cls idx (TX5 8)) (hdg : decode cc pc = .ok (.putfield idx, 3)) (kk : rj_Go X9 y9 cc nL rt9 d9 P9 (pc + 3) lv rest (rc_p X9 cb vv vk (rm_u c 32 (rj_up (c 32) 8 (a : Int))) σ)) : rj_Go X9 y9 cc nL rt9 d9 P9 pc lv (.ref a :: .ref (cb + 32) :: rest) (rc_p X9 cb vv vk c σ) := go_put (k := 8) kX5 (by decide) hln (Or.inl rfl) (rc_at hV 32 rfl) (by show 8 < 15; decide) rfl rfl hdg (go_eq rfl rfl rfl (rc_set hV 32 rfl (g := rj_up (c 32) 8 (a : Int)) rfl) kk)
end CPY
set_option maxRecDepth 20000 in
/-- x_copyRows -/
theorem x_copyRows {X9 : rj_X} {σ : rj_H} {d cb vv vk : Nat} {c : rm_R} {A B M N L : Nat} (hd9 : 3 ≤ d) (hV : rc_V cb vv vk) (hA : rc_fx A = true ∧ ∀ g, rc_k X9 cb A g = rj_rr X9 3 6 (fun j => some (cb + (M + j.toNat)))) (hB : rc_fx B = true ∧ ∀ g, rc_k X9 cb B g = rj_rr X9 3 6 (fun j => some (cb + (N + j.toNat)))) (rM : ∀ i : Nat, i < 6 → rc_fx (M + i) = true ∧ ∀ g, rc_k X9 cb (M + i) g = rj_ar X9 0 L g) (rN : ∀ i : Nat, i < 6 → rc_fx (N + i) = true ∧ ∀ g, rc_k X9 cb (N + i) g = rj_ar X9 0 L g) (hL : L < 100) (hd : M + 6 ≤ N ∨ N + 6 ≤ M) : rj_Cl X9 d yX5_copyRows cX5_copyRows 3 none [.ref (cb + A), .ref (cb + B)] (rc_p X9 cb vv vk c σ) (fun w9 τ => w9 = none ∧ τ = rc_p X9 cb vv vk (rc_cr c M N L 6) σ) := by
  refine go_call (by decide +kernel) (Nat.le_of_ble_eq_true rfl) ?_
  refine go_eq (pc' := 0) (lv' := [(0, .ref (cb + A)), (1, .ref (cb + B))]) (st' := []) rfl rfl rfl rfl ?_
  refine go_iconst (v := Int32.ofInt 0) dX5_copyRows_0 rfl ?_
  refine go_istore_nS (lv' := [(0, .ref (cb + A)), (1, .ref (cb + B)), (2, rj_i 0)]) rfl (by decide) rfl dX5_copyRows_1 ?_
  have loopx : ∀ (nx : Nat) (k : Nat), k + nx = 6 → rj_Go X9 yX5_copyRows cX5_copyRows 3 none d (fun w9 τ => w9 = none ∧ τ = rc_p X9 cb vv vk (rc_cr c M N L 6) σ) 2 [(0, .ref (cb + A)), (1, .ref (cb + B)), (2, rj_i (k : Int))] [] (rc_p X9 cb vv vk (rc_cr c M N L k) σ) := by
    intro nx
    induction nx with
    | zero =>
      intro k hk
      have e6 : k = 6 := by omega
      subst e6
      refine go_iload_n dX5_copyRows_2 rfl 2 rfl ?_
      refine go_aload_n dX5_copyRows_3 rfl 0 rfl ?_
      refine go_alen (n := 6) ((rc_at hV A hA.1).trans (congrArg some (hA.2 _))) rfl rfl (by decide) dX5_copyRows_4 ?_
      refine go_icmp_geI (tgt := 42) (by omega) (by omega) dX5_copyRows_5 (by decide) (fun c_5 => ?_) (fun c_5 => ?_)
      · refine go_retV rfl ?_ dX5_copyRows_42
        exact ⟨rfl, rfl⟩
      · exact absurd c_5 (by omega)
    | succ nx ihx =>
      intro k hk
      refine go_iload_n dX5_copyRows_2 rfl 2 rfl ?_
      refine go_aload_n dX5_copyRows_3 rfl 0 rfl ?_
      refine go_alen (n := 6) ((rc_at hV A hA.1).trans (congrArg some (hA.2 _))) rfl rfl (by decide) dX5_copyRows_4 ?_
      refine go_icmp_geI (tgt := 42) (by omega) (by omega) dX5_copyRows_5 (by decide) (fun c_5 => ?_) (fun c_5 => ?_)
      · exact absurd c_5 (by omega)
      · refine go_iload_n dX5_copyRows_8 rfl 2 rfl ?_
        refine go_aload_n dX5_copyRows_9 rfl 1 rfl ?_
        refine go_alen (n := 6) ((rc_at hV B hB.1).trans (congrArg some (hB.2 _))) rfl rfl (by decide) dX5_copyRows_10 ?_
        refine go_icmp_geI (tgt := 42) (by omega) (by omega) dX5_copyRows_11 (by decide) (fun c_11 => ?_) (fun c_11 => ?_)
        · exact absurd c_11 (by omega)
        · refine go_aload_n dX5_copyRows_14 rfl 0 rfl ?_
          refine go_iload_n dX5_copyRows_15 rfl 2 rfl ?_
          refine rc_row hV (n := A) (m := M) hA.1 (hA.2 _) (z := (k : Int)) (by omega) (by omega) (by decide) dX5_copyRows_16 ?_
          refine go_iconst (v := Int32.ofInt 0) dX5_copyRows_17 rfl ?_
          refine go_aload_n dX5_copyRows_18 rfl 1 rfl ?_
          refine go_iload_n dX5_copyRows_19 rfl 2 rfl ?_
          refine rc_row hV (n := B) (m := N) hB.1 (hB.2 _) (z := (k : Int)) (by omega) (by omega) (by decide) dX5_copyRows_20 ?_
          refine go_iconst (v := Int32.ofInt 0) dX5_copyRows_21 rfl ?_
          refine go_aload_n dX5_copyRows_22 rfl 0 rfl ?_
          refine go_iload_n dX5_copyRows_23 rfl 2 rfl ?_
          refine rc_row hV (n := A) (m := M) hA.1 (hA.2 _) (z := (k : Int)) (by omega) (by omega) (by decide) dX5_copyRows_24 ?_
          refine go_alen (n := L) ((rc_at hV (M + (k : Int).toNat) (rM _ (by omega)).1).trans (congrArg some ((rM _ (by omega)).2 _))) rfl rfl (by omega) dX5_copyRows_25 ?_
          refine go_aload_n dX5_copyRows_26 rfl 1 rfl ?_
          refine go_iload_n dX5_copyRows_27 rfl 2 rfl ?_
          refine rc_row hV (n := B) (m := N) hB.1 (hB.2 _) (z := (k : Int)) (by omega) (by omega) (by decide) dX5_copyRows_28 ?_
          refine go_alen (n := L) ((rc_at hV (N + (k : Int).toNat) (rN _ (by omega)).1).trans (congrArg some ((rN _ (by omega)).2 _))) rfl rfl (by omega) dX5_copyRows_29 ?_
          refine go_mmin (a := (L : Int)) (b := (L : Int)) (by omega) (by omega) wSX5_86 (by omega) (Nat.le_of_ble_eq_true rfl) dX5_copyRows_30 ?_
          rw [show (if (L : Int) < (L : Int) then (L : Int) else (L : Int)) = ((L : Nat) : Int) from ite_self _]
          refine rc_cpp (n := L) hV (rM _ (by omega)).1 (rN _ (by omega)).1 (rM _ (by omega)).2 (rN _ (by omega)).2 (ty := .int) rfl rfl (by omega) (fun j _ => rfl) (rj_inT 1010 (by decide +kernel)) (rj_inT 1012 (by decide +kernel)) (rj_inT 1011 (by decide +kernel)) (rj_inT 22 (by decide +kernel)) (by omega) (Nat.le_of_ble_eq_true rfl) dX5_copyRows_33 ?_
          rw [rc_cr_s (by omega) hd]
          refine go_iincI (a := (k : Int)) (n := 1) (k0 := 2) (lv' := [(0, .ref (cb + A)), (1, .ref (cb + B)), (2, rj_i ((k : Int) + 1))]) rfl (by decide) rfl dX5_copyRows_36 ?_
          refine go_goto (tgt := 2) dX5_copyRows_39 (by decide) ?_
          exact go_eq rfl (lv' := [(0, .ref (cb + A)), (1, .ref (cb + B)), (2, rj_i ((k + 1 : Nat) : Int))]) (rj_lk (rj_lk (rj_lj (by omega) rfl))) rfl rfl (ihx (k + 1) (by omega))
  have l0 := loopx 6 0 (by omega)
  rw [rc_cr_0] at l0
  exact go_eq rfl (lv' := [(0, .ref (cb + A)), (1, .ref (cb + B)), (2, rj_i ((0 : Nat) : Int))]) (rj_lk (rj_lk (rj_lj (rfl) rfl))) rfl rfl (l0)
theorem rj_fbt {z : Int} (h : -128 ≤ z ∧ z ≤ 127) : fits .byte (rj_i z) = true := by
  have e := rj_ti (z := z) (by omega) (by omega)
  show (decide (-128 ≤ Int32.ofInt z) && decide (Int32.ofInt z ≤ 127)) = true
  rw [Bool.and_eq_true, decide_eq_true_eq, decide_eq_true_eq]
  exact ⟨Int32.le_iff_toInt_le.mpr (by rw [e]; exact h.1), Int32.le_iff_toInt_le.mpr (by rw [e]; exact h.2)⟩
theorem rc_tkr {m L : Nat} {X9 : rj_X} {cb : Nat} {b : Nat} (h : ∀ i : Nat, i < 6 → rc_fx (b + m + i) = true ∧ ∀ g, rc_k X9 cb (b + m + i) g = rj_ar X9 0 L g) : ∀ i : Nat, i < 6 → rc_fx (b + m + i) = true ∧ ∀ g, rc_k X9 cb (b + m + i) g = rj_ar X9 0 L g := h
theorem rc_k35 {X9 : rj_X} {cb : Nat} : ∀ i : Nat, i < 6 → rc_fx (35 + i) = true ∧ ∀ g, rc_k X9 cb (35 + i) g = rj_ar X9 0 4 g
  | 0, _ => ⟨rfl, fun _ => rfl⟩
  | 1, _ => ⟨rfl, fun _ => rfl⟩
  | 2, _ => ⟨rfl, fun _ => rfl⟩
  | 3, _ => ⟨rfl, fun _ => rfl⟩
  | 4, _ => ⟨rfl, fun _ => rfl⟩
  | 5, _ => ⟨rfl, fun _ => rfl⟩
  | n + 6, h => absurd h (by omega)
theorem rc_k50 {X9 : rj_X} {cb : Nat} : ∀ i : Nat, i < 6 → rc_fx (50 + i) = true ∧ ∀ g, rc_k X9 cb (50 + i) g = rj_ar X9 0 8 g
  | 0, _ => ⟨rfl, fun _ => rfl⟩
  | 1, _ => ⟨rfl, fun _ => rfl⟩
  | 2, _ => ⟨rfl, fun _ => rfl⟩
  | 3, _ => ⟨rfl, fun _ => rfl⟩
  | 4, _ => ⟨rfl, fun _ => rfl⟩
  | 5, _ => ⟨rfl, fun _ => rfl⟩
  | n + 6, h => absurd h (by omega)
theorem rc_k57 {X9 : rj_X} {cb : Nat} : ∀ i : Nat, i < 6 → rc_fx (57 + i) = true ∧ ∀ g, rc_k X9 cb (57 + i) g = rj_ar X9 0 6 g
  | 0, _ => ⟨rfl, fun _ => rfl⟩
  | 1, _ => ⟨rfl, fun _ => rfl⟩
  | 2, _ => ⟨rfl, fun _ => rfl⟩
  | 3, _ => ⟨rfl, fun _ => rfl⟩
  | 4, _ => ⟨rfl, fun _ => rfl⟩
  | 5, _ => ⟨rfl, fun _ => rfl⟩
  | n + 6, h => absurd h (by omega)
theorem rc_kz4 {X9 : rj_X} {cb : Nat} (g : Int → Int) : rc_k X9 cb 3 g = rj_rr X9 3 6 (fun j => some (cb + (4 + j.toNat))) := by
  show rj_rr X9 3 6 (fun j => some (cb + 1 + (3 + j.toNat))) = _
  exact congrArg (rj_rr X9 3 6) (funext fun j => congrArg some (by omega))
theorem rc_kz19 {X9 : rj_X} {cb : Nat} (g : Int → Int) : rc_k X9 cb 18 g = rj_rr X9 3 6 (fun j => some (cb + (19 + j.toNat))) := by
  show rj_rr X9 3 6 (fun j => some (cb + 1 + (18 + j.toNat))) = _
  exact congrArg (rj_rr X9 3 6) (funext fun j => congrArg some (by omega))
theorem rc_kz26 {X9 : rj_X} {cb : Nat} (g : Int → Int) : rc_k X9 cb 25 g = rj_rr X9 3 6 (fun j => some (cb + (26 + j.toNat))) := by
  show rj_rr X9 3 6 (fun j => some (cb + 1 + (25 + j.toNat))) = _
  exact congrArg (rj_rr X9 3 6) (funext fun j => congrArg some (by omega))
theorem rc_kz35 {X9 : rj_X} {cb : Nat} (g : Int → Int) : rc_k X9 cb 34 g = rj_rr X9 3 6 (fun j => some (cb + (35 + j.toNat))) := by
  show rj_rr X9 3 6 (fun j => some (cb + 32 + (3 + j.toNat))) = _
  exact congrArg (rj_rr X9 3 6) (funext fun j => congrArg some (by omega))
theorem rc_kz50 {X9 : rj_X} {cb : Nat} (g : Int → Int) : rc_k X9 cb 49 g = rj_rr X9 3 6 (fun j => some (cb + (50 + j.toNat))) := by
  show rj_rr X9 3 6 (fun j => some (cb + 32 + (18 + j.toNat))) = _
  exact congrArg (rj_rr X9 3 6) (funext fun j => congrArg some (by omega))
theorem rc_kz57 {X9 : rj_X} {cb : Nat} (g : Int → Int) : rc_k X9 cb 56 g = rj_rr X9 3 6 (fun j => some (cb + (57 + j.toNat))) := by
  show rj_rr X9 3 6 (fun j => some (cb + 32 + (25 + j.toNat))) = _
  exact congrArg (rj_rr X9 3 6) (funext fun j => congrArg some (by omega))
set_option maxRecDepth 20000 in
/-- x_copy1 -/
theorem x_copy1 {X9 : rj_X} {σ : rj_H} {d cb vv vk : Nat} {c : rm_R} {s : Int → Int} {ad : Nat → Int → Nat} (hd : 4 ≤ d) (hV : rc_V cb vv vk) (hS : rc_S 1 cb vv vk c σ s ad) (hN : rc_N c 1 s) (hM : sp_IM s) (hY : rc_by (c 11)) : rj_Cl X9 d yX5_copyFrom cX5_copyFrom 2 none [.ref (cb + 32), .ref (cb + 1)] (rc_p X9 cb vv vk c σ) (fun w9 τ => w9 = none ∧ ∃ c0 : rm_R, rc_cp 1 32 c c0 ∧ τ = rc_p X9 cb vv vk c0 σ) := by
  refine go_call (by decide +kernel) (Nat.le_of_ble_eq_true rfl) ?_
  refine go_eq (pc' := 0) (lv' := [(0, .ref (cb + 32)), (1, .ref (cb + 1))]) (st' := []) rfl rfl rfl rfl ?_
  refine go_aload_n dX5_copyFrom_0 rfl 1 rfl ?_
  refine go_get (k := 0) (w := .ref (cb + 2)) kX5 (by decide) fX5_11 (rc_at hV 1 rfl) rfl dX5_copyFrom_1 ?_
  refine go_iconst (v := Int32.ofInt 0) dX5_copyFrom_4 rfl ?_
  refine go_aload_n dX5_copyFrom_5 rfl 0 rfl ?_
  refine go_get (k := 0) (w := .ref (cb + 33)) kX5 (by decide) fX5_11 (rc_at hV 32 rfl) rfl dX5_copyFrom_6 ?_
  refine go_iconst (v := Int32.ofInt 0) dX5_copyFrom_9 rfl ?_
  refine go_bipush (v := Int32.ofInt 6) dX5_copyFrom_10 (by decide) ?_
  refine rc_cpr (A := 2) (B := 33) (n := 6) (L := 6) hV rfl rfl (fun _ => rfl) (fun _ => rfl) rfl rfl (by decide) (rc_elm ((fun q (_ : ¬ (32 ≤ q ∧ q < 63)) => (rfl : c q = c q)) 2 (by omega)) hS hN hM) (rj_inT 1010 (by decide +kernel)) (rj_inT 1012 (by decide +kernel)) (rj_inT 1011 (by decide +kernel)) (rj_inT 22 (by decide +kernel)) (by omega) (Nat.le_of_ble_eq_true rfl) dX5_copyFrom_12 ?_
  obtain ⟨c1, e1⟩ : ∃ x_, x_ = (rm_u c 33 (fun j => if j < ((6 : Nat) : Int) then c 2 j else c 33 j)) := ⟨_, rfl⟩
  rw [← e1]
  have o1 : ∀ q : Nat, ¬ (32 ≤ q ∧ q < 63) → c1 q = c q := fun q h => (congrFun e1 q).trans ((rm_u_ne _ _ (by omega)).trans ((fun q (_ : ¬ (32 ≤ q ∧ q < 63)) => (rfl : c q = c q)) q h))
  have t1_F : c1 32 = (c 32) := (congrFun e1 32).trans ((rm_u_ne _ _ (by omega)).trans (rfl : c 32 = c 32))
  have t1_C1 : ∀ j : Int, j < 6 → c1 33 j = c 2 j := fun j h => by rw [e1, rm_u_eq]; show (if j < ((6 : Nat) : Int) then c 2 j else _) = _; rw [if_pos (by omega), (fun q (_ : ¬ (32 ≤ q ∧ q < 63)) => (rfl : c q = c q)) 2 (by omega)]
  refine go_aload_n dX5_copyFrom_15 rfl 0 rfl ?_
  refine go_aload_n dX5_copyFrom_16 rfl 1 rfl ?_
  refine go_get (k := 1) kX5 (by decide) fX5_17 (rc_at hV 1 rfl) rfl dX5_copyFrom_17 ?_
  rw [show c1 1 = c 1 from o1 1 (by omega)]
  refine rc_q32_1 hV fX5_17 dX5_copyFrom_20 ?_
  obtain ⟨c2, e2⟩ : ∃ x_, x_ = (rm_u c1 32 (rj_up (c1 32) 1 (c 1 1))) := ⟨_, rfl⟩
  rw [← e2]
  have o2 : ∀ q : Nat, ¬ (32 ≤ q ∧ q < 63) → c2 q = c q := fun q h => (congrFun e2 q).trans ((rm_u_ne _ _ (by omega)).trans (o1 q h))
  have t2_F : c2 32 = (rj_up (c 32) 1 (c 1 1)) := by rw [e2, rm_u_eq, t1_F]
  have t2_C1 : ∀ j : Int, j < 6 → c2 33 j = c 2 j := fun j h => by rw [e2, rm_u_ne _ _ (by omega)]; exact t1_C1 j h
  refine go_aload_n dX5_copyFrom_23 rfl 1 rfl ?_
  refine go_get (k := 2) (w := .ref (cb + 3)) kX5 (by decide) fX5_23 (rc_at hV 1 rfl) rfl dX5_copyFrom_24 ?_
  refine go_aload_n dX5_copyFrom_27 rfl 0 rfl ?_
  refine go_get (k := 2) (w := .ref (cb + 34)) kX5 (by decide) fX5_23 (rc_at hV 32 rfl) rfl dX5_copyFrom_28 ?_
  refine go_callS (d1 := d - 1) wSX5_82 rfl (by omega) (x_copyRows (A := 3) (B := 34) (M := 4) (N := 35) (L := 4) (by omega) hV ⟨rfl, rc_kz4⟩ ⟨rfl, rc_kz35⟩ rc_k4 rc_k35 (by decide) (by decide)) rfl (Nat.le_of_ble_eq_true rfl) dX5_copyFrom_31 (fun w σ1 hP9 => ?_)
  obtain ⟨rfl, rfl⟩ := hP9
  obtain ⟨c3, e3⟩ : ∃ x_, x_ = (rc_cr c2 4 35 4 6) := ⟨_, rfl⟩
  rw [← e3]
  have o3 : ∀ q : Nat, ¬ (32 ≤ q ∧ q < 63) → c3 q = c q := fun q h => (congrFun e3 q).trans ((rc_cr_o (by omega)).trans (o2 q h))
  have t3_F : c3 32 = (rj_up (c 32) 1 (c 1 1)) := (congrFun e3 32).trans ((rc_cr_o (by omega)).trans t2_F)
  have t3_C1 : ∀ j : Int, j < 6 → c3 33 j = c 2 j := fun j h => by rw [e3, rc_cr_o (by omega)]; exact t2_C1 j h
  have t3_R3 : ∀ (i : Nat) (j : Int), i < 6 → j < 4 → c3 (32 + (3 + i)) j = c (1 + (3 + i)) j := fun i j h0 h => by rw [e3, rc_cr_i ⟨by omega, by omega⟩ (by omega), show 4 + (32 + (3 + i) - 35) = 1 + (3 + i) by omega, o2 _ (by omega)]
  refine go_aload_n dX5_copyFrom_34 rfl 0 rfl ?_
  refine go_aload_n dX5_copyFrom_35 rfl 1 rfl ?_
  refine go_get (k := 3) kX5 (by decide) fX5_26 (rc_at hV 1 rfl) rfl dX5_copyFrom_36 ?_
  rw [show c3 1 = c 1 from o3 1 (by omega)]
  refine rc_q32_3 hV fX5_26 dX5_copyFrom_39 ?_
  obtain ⟨c4, e4⟩ : ∃ x_, x_ = (rm_u c3 32 (rj_up (c3 32) 3 (c 1 3))) := ⟨_, rfl⟩
  rw [← e4]
  have o4 : ∀ q : Nat, ¬ (32 ≤ q ∧ q < 63) → c4 q = c q := fun q h => (congrFun e4 q).trans ((rm_u_ne _ _ (by omega)).trans (o3 q h))
  have t4_F : c4 32 = (rj_up (rj_up (c 32) 1 (c 1 1)) 3 (c 1 3)) := by rw [e4, rm_u_eq, t3_F]
  have t4_C1 : ∀ j : Int, j < 6 → c4 33 j = c 2 j := fun j h => by rw [e4, rm_u_ne _ _ (by omega)]; exact t3_C1 j h
  have t4_R3 : ∀ (i : Nat) (j : Int), i < 6 → j < 4 → c4 (32 + (3 + i)) j = c (1 + (3 + i)) j := fun i j h0 h => by rw [e4, rm_u_ne _ _ (by omega)]; exact t3_R3 i j h0 h
  refine go_aload_n dX5_copyFrom_42 rfl 1 rfl ?_
  refine go_get (k := 4) (w := .ref (cb + 10)) kX5 (by decide) fX5_31 (rc_at hV 1 rfl) rfl dX5_copyFrom_43 ?_
  refine go_iconst (v := Int32.ofInt 0) dX5_copyFrom_46 rfl ?_
  refine go_aload_n dX5_copyFrom_47 rfl 0 rfl ?_
  refine go_get (k := 4) (w := .ref (cb + 41)) kX5 (by decide) fX5_31 (rc_at hV 32 rfl) rfl dX5_copyFrom_48 ?_
  refine go_iconst (v := Int32.ofInt 0) dX5_copyFrom_51 rfl ?_
  refine go_bipush (v := Int32.ofInt 8) dX5_copyFrom_52 (by decide) ?_
  refine rc_cpr (A := 10) (B := 41) (n := 8) (L := 8) hV rfl rfl (fun _ => rfl) (fun _ => rfl) rfl rfl (by decide) (rc_elw (o4 10 (by omega)) hS hN) (rj_inT 1010 (by decide +kernel)) (rj_inT 1012 (by decide +kernel)) (rj_inT 1011 (by decide +kernel)) (rj_inT 22 (by decide +kernel)) (by omega) (Nat.le_of_ble_eq_true rfl) dX5_copyFrom_54 ?_
  obtain ⟨c5, e5⟩ : ∃ x_, x_ = (rm_u c4 41 (fun j => if j < ((8 : Nat) : Int) then c4 10 j else c4 41 j)) := ⟨_, rfl⟩
  rw [← e5]
  have o5 : ∀ q : Nat, ¬ (32 ≤ q ∧ q < 63) → c5 q = c q := fun q h => (congrFun e5 q).trans ((rm_u_ne _ _ (by omega)).trans (o4 q h))
  have t5_F : c5 32 = (rj_up (rj_up (c 32) 1 (c 1 1)) 3 (c 1 3)) := (congrFun e5 32).trans ((rm_u_ne _ _ (by omega)).trans t4_F)
  have t5_C1 : ∀ j : Int, j < 6 → c5 33 j = c 2 j := fun j h => by rw [e5, rm_u_ne _ _ (by omega)]; exact t4_C1 j h
  have t5_R3 : ∀ (i : Nat) (j : Int), i < 6 → j < 4 → c5 (32 + (3 + i)) j = c (1 + (3 + i)) j := fun i j h0 h => by rw [e5, rm_u_ne _ _ (by omega)]; exact t4_R3 i j h0 h
  have t5_C9 : ∀ j : Int, j < 8 → c5 41 j = c 10 j := fun j h => by rw [e5, rm_u_eq]; show (if j < ((8 : Nat) : Int) then c4 10 j else _) = _; rw [if_pos (by omega), o4 10 (by omega)]
  refine go_aload_n dX5_copyFrom_57 rfl 0 rfl ?_
  refine go_aload_n dX5_copyFrom_58 rfl 1 rfl ?_
  refine go_get (k := 5) kX5 (by decide) fX5_35 (rc_at hV 1 rfl) rfl dX5_copyFrom_59 ?_
  rw [show c5 1 = c 1 from o5 1 (by omega)]
  refine rc_q32_5 hV fX5_35 dX5_copyFrom_62 ?_
  obtain ⟨c6, e6⟩ : ∃ x_, x_ = (rm_u c5 32 (rj_up (c5 32) 5 (c 1 5))) := ⟨_, rfl⟩
  rw [← e6]
  have o6 : ∀ q : Nat, ¬ (32 ≤ q ∧ q < 63) → c6 q = c q := fun q h => (congrFun e6 q).trans ((rm_u_ne _ _ (by omega)).trans (o5 q h))
  have t6_F : c6 32 = (rj_up (rj_up (rj_up (c 32) 1 (c 1 1)) 3 (c 1 3)) 5 (c 1 5)) := by rw [e6, rm_u_eq, t5_F]
  have t6_C1 : ∀ j : Int, j < 6 → c6 33 j = c 2 j := fun j h => by rw [e6, rm_u_ne _ _ (by omega)]; exact t5_C1 j h
  have t6_R3 : ∀ (i : Nat) (j : Int), i < 6 → j < 4 → c6 (32 + (3 + i)) j = c (1 + (3 + i)) j := fun i j h0 h => by rw [e6, rm_u_ne _ _ (by omega)]; exact t5_R3 i j h0 h
  have t6_C9 : ∀ j : Int, j < 8 → c6 41 j = c 10 j := fun j h => by rw [e6, rm_u_ne _ _ (by omega)]; exact t5_C9 j h
  refine go_aload_n dX5_copyFrom_65 rfl 1 rfl ?_
  refine go_get (k := 6) (w := .ref (cb + 11)) kX5 (by decide) fX5_38 (rc_at hV 1 rfl) rfl dX5_copyFrom_66 ?_
  refine go_iconst (v := Int32.ofInt 0) dX5_copyFrom_69 rfl ?_
  refine go_aload_n dX5_copyFrom_70 rfl 0 rfl ?_
  refine go_get (k := 6) (w := .ref (cb + 42)) kX5 (by decide) fX5_38 (rc_at hV 32 rfl) rfl dX5_copyFrom_71 ?_
  refine go_iconst (v := Int32.ofInt 0) dX5_copyFrom_74 rfl ?_
  refine go_bipush (v := Int32.ofInt 120) dX5_copyFrom_75 (by decide) ?_
  refine rc_cpp (A := 11) (B := 42) (n := 120) (L := 120) hV rfl rfl (fun _ => rfl) (fun _ => rfl) (ty := .byte) rfl rfl (by decide) (fun j hj => by rw [o6 11 (by omega)]; exact rj_fbt (hY j (by omega) (by omega))) (rj_inT 1010 (by decide +kernel)) (rj_inT 1012 (by decide +kernel)) (rj_inT 1011 (by decide +kernel)) (rj_inT 22 (by decide +kernel)) (by omega) (Nat.le_of_ble_eq_true rfl) dX5_copyFrom_77 ?_
  obtain ⟨c7, e7⟩ : ∃ x_, x_ = (rm_u c6 42 (fun j => if j < ((120 : Nat) : Int) then c6 11 j else c6 42 j)) := ⟨_, rfl⟩
  rw [← e7]
  have o7 : ∀ q : Nat, ¬ (32 ≤ q ∧ q < 63) → c7 q = c q := fun q h => (congrFun e7 q).trans ((rm_u_ne _ _ (by omega)).trans (o6 q h))
  have t7_F : c7 32 = (rj_up (rj_up (rj_up (c 32) 1 (c 1 1)) 3 (c 1 3)) 5 (c 1 5)) := (congrFun e7 32).trans ((rm_u_ne _ _ (by omega)).trans t6_F)
  have t7_C1 : ∀ j : Int, j < 6 → c7 33 j = c 2 j := fun j h => by rw [e7, rm_u_ne _ _ (by omega)]; exact t6_C1 j h
  have t7_R3 : ∀ (i : Nat) (j : Int), i < 6 → j < 4 → c7 (32 + (3 + i)) j = c (1 + (3 + i)) j := fun i j h0 h => by rw [e7, rm_u_ne _ _ (by omega)]; exact t6_R3 i j h0 h
  have t7_C9 : ∀ j : Int, j < 8 → c7 41 j = c 10 j := fun j h => by rw [e7, rm_u_ne _ _ (by omega)]; exact t6_C9 j h
  have t7_C10 : ∀ j : Int, j < 120 → c7 42 j = c 11 j := fun j h => by rw [e7, rm_u_eq]; show (if j < ((120 : Nat) : Int) then c6 11 j else _) = _; rw [if_pos (by omega), o6 11 (by omega)]
  refine go_aload_n dX5_copyFrom_80 rfl 0 rfl ?_
  refine go_aload_n dX5_copyFrom_81 rfl 1 rfl ?_
  refine go_get (k := 7) kX5 (by decide) fX5_42 (rc_at hV 1 rfl) rfl dX5_copyFrom_82 ?_
  rw [show c7 1 = c 1 from o7 1 (by omega)]
  refine rc_q32_7 hV fX5_42 dX5_copyFrom_85 ?_
  obtain ⟨c8, e8⟩ : ∃ x_, x_ = (rm_u c7 32 (rj_up (c7 32) 7 (c 1 7))) := ⟨_, rfl⟩
  rw [← e8]
  have o8 : ∀ q : Nat, ¬ (32 ≤ q ∧ q < 63) → c8 q = c q := fun q h => (congrFun e8 q).trans ((rm_u_ne _ _ (by omega)).trans (o7 q h))
  have t8_F : c8 32 = (rj_up (rj_up (rj_up (rj_up (c 32) 1 (c 1 1)) 3 (c 1 3)) 5 (c 1 5)) 7 (c 1 7)) := by rw [e8, rm_u_eq, t7_F]
  have t8_C1 : ∀ j : Int, j < 6 → c8 33 j = c 2 j := fun j h => by rw [e8, rm_u_ne _ _ (by omega)]; exact t7_C1 j h
  have t8_R3 : ∀ (i : Nat) (j : Int), i < 6 → j < 4 → c8 (32 + (3 + i)) j = c (1 + (3 + i)) j := fun i j h0 h => by rw [e8, rm_u_ne _ _ (by omega)]; exact t7_R3 i j h0 h
  have t8_C9 : ∀ j : Int, j < 8 → c8 41 j = c 10 j := fun j h => by rw [e8, rm_u_ne _ _ (by omega)]; exact t7_C9 j h
  have t8_C10 : ∀ j : Int, j < 120 → c8 42 j = c 11 j := fun j h => by rw [e8, rm_u_ne _ _ (by omega)]; exact t7_C10 j h
  refine go_aload_n dX5_copyFrom_88 rfl 0 rfl ?_
  refine go_aload_n dX5_copyFrom_89 rfl 1 rfl ?_
  refine go_get (k := 8) kX5 (by decide) fX5_48 (rc_at hV 1 rfl) rfl dX5_copyFrom_90 ?_
  rw [show c8 1 = c 1 from o8 1 (by omega)]
  refine rc_q32_8 hV fX5_48 dX5_copyFrom_93 ?_
  obtain ⟨c9, e9⟩ : ∃ x_, x_ = (rm_u c8 32 (rj_up (c8 32) 8 ((((c 1 8).toNat : Nat)) : Int))) := ⟨_, rfl⟩
  rw [← e9]
  have o9 : ∀ q : Nat, ¬ (32 ≤ q ∧ q < 63) → c9 q = c q := fun q h => (congrFun e9 q).trans ((rm_u_ne _ _ (by omega)).trans (o8 q h))
  have t9_F : c9 32 = (rj_up (rj_up (rj_up (rj_up (rj_up (c 32) 1 (c 1 1)) 3 (c 1 3)) 5 (c 1 5)) 7 (c 1 7)) 8 ((((c 1 8).toNat : Nat)) : Int)) := by rw [e9, rm_u_eq, t8_F]
  have t9_C1 : ∀ j : Int, j < 6 → c9 33 j = c 2 j := fun j h => by rw [e9, rm_u_ne _ _ (by omega)]; exact t8_C1 j h
  have t9_R3 : ∀ (i : Nat) (j : Int), i < 6 → j < 4 → c9 (32 + (3 + i)) j = c (1 + (3 + i)) j := fun i j h0 h => by rw [e9, rm_u_ne _ _ (by omega)]; exact t8_R3 i j h0 h
  have t9_C9 : ∀ j : Int, j < 8 → c9 41 j = c 10 j := fun j h => by rw [e9, rm_u_ne _ _ (by omega)]; exact t8_C9 j h
  have t9_C10 : ∀ j : Int, j < 120 → c9 42 j = c 11 j := fun j h => by rw [e9, rm_u_ne _ _ (by omega)]; exact t8_C10 j h
  refine go_aload_n dX5_copyFrom_96 rfl 0 rfl ?_
  refine go_aload_n dX5_copyFrom_97 rfl 1 rfl ?_
  refine go_get (k := 9) kX5 (by decide) fX5_52 (rc_at hV 1 rfl) rfl dX5_copyFrom_98 ?_
  rw [show c9 1 = c 1 from o9 1 (by omega)]
  refine rc_q32_9 hV fX5_52 dX5_copyFrom_101 ?_
  obtain ⟨c10, e10⟩ : ∃ x_, x_ = (rm_u c9 32 (rj_up (c9 32) 9 (c 1 9))) := ⟨_, rfl⟩
  rw [← e10]
  have o10 : ∀ q : Nat, ¬ (32 ≤ q ∧ q < 63) → c10 q = c q := fun q h => (congrFun e10 q).trans ((rm_u_ne _ _ (by omega)).trans (o9 q h))
  have t10_F : c10 32 = (rj_up (rj_up (rj_up (rj_up (rj_up (rj_up (c 32) 1 (c 1 1)) 3 (c 1 3)) 5 (c 1 5)) 7 (c 1 7)) 8 ((((c 1 8).toNat : Nat)) : Int)) 9 (c 1 9)) := by rw [e10, rm_u_eq, t9_F]
  have t10_C1 : ∀ j : Int, j < 6 → c10 33 j = c 2 j := fun j h => by rw [e10, rm_u_ne _ _ (by omega)]; exact t9_C1 j h
  have t10_R3 : ∀ (i : Nat) (j : Int), i < 6 → j < 4 → c10 (32 + (3 + i)) j = c (1 + (3 + i)) j := fun i j h0 h => by rw [e10, rm_u_ne _ _ (by omega)]; exact t9_R3 i j h0 h
  have t10_C9 : ∀ j : Int, j < 8 → c10 41 j = c 10 j := fun j h => by rw [e10, rm_u_ne _ _ (by omega)]; exact t9_C9 j h
  have t10_C10 : ∀ j : Int, j < 120 → c10 42 j = c 11 j := fun j h => by rw [e10, rm_u_ne _ _ (by omega)]; exact t9_C10 j h
  refine go_aload_n dX5_copyFrom_104 rfl 1 rfl ?_
  refine go_get (k := 10) (w := .ref (cb + 18)) kX5 (by decide) fX5_55 (rc_at hV 1 rfl) rfl dX5_copyFrom_105 ?_
  refine go_aload_n dX5_copyFrom_108 rfl 0 rfl ?_
  refine go_get (k := 10) (w := .ref (cb + 49)) kX5 (by decide) fX5_55 (rc_at hV 32 rfl) rfl dX5_copyFrom_109 ?_
  refine go_callS (d1 := d - 1) wSX5_82 rfl (by omega) (x_copyRows (A := 18) (B := 49) (M := 19) (N := 50) (L := 8) (by omega) hV ⟨rfl, rc_kz19⟩ ⟨rfl, rc_kz50⟩ rc_k19 rc_k50 (by decide) (by decide)) rfl (Nat.le_of_ble_eq_true rfl) dX5_copyFrom_112 (fun w σ1 hP9 => ?_)
  obtain ⟨rfl, rfl⟩ := hP9
  obtain ⟨c11, e11⟩ : ∃ x_, x_ = (rc_cr c10 19 50 8 6) := ⟨_, rfl⟩
  rw [← e11]
  have o11 : ∀ q : Nat, ¬ (32 ≤ q ∧ q < 63) → c11 q = c q := fun q h => (congrFun e11 q).trans ((rc_cr_o (by omega)).trans (o10 q h))
  have t11_F : c11 32 = (rj_up (rj_up (rj_up (rj_up (rj_up (rj_up (c 32) 1 (c 1 1)) 3 (c 1 3)) 5 (c 1 5)) 7 (c 1 7)) 8 ((((c 1 8).toNat : Nat)) : Int)) 9 (c 1 9)) := (congrFun e11 32).trans ((rc_cr_o (by omega)).trans t10_F)
  have t11_C1 : ∀ j : Int, j < 6 → c11 33 j = c 2 j := fun j h => by rw [e11, rc_cr_o (by omega)]; exact t10_C1 j h
  have t11_R3 : ∀ (i : Nat) (j : Int), i < 6 → j < 4 → c11 (32 + (3 + i)) j = c (1 + (3 + i)) j := fun i j h0 h => by rw [e11, rc_cr_o (by omega)]; exact t10_R3 i j h0 h
  have t11_C9 : ∀ j : Int, j < 8 → c11 41 j = c 10 j := fun j h => by rw [e11, rc_cr_o (by omega)]; exact t10_C9 j h
  have t11_C10 : ∀ j : Int, j < 120 → c11 42 j = c 11 j := fun j h => by rw [e11, rc_cr_o (by omega)]; exact t10_C10 j h
  have t11_R18 : ∀ (i : Nat) (j : Int), i < 6 → j < 8 → c11 (32 + (18 + i)) j = c (1 + (18 + i)) j := fun i j h0 h => by rw [e11, rc_cr_i ⟨by omega, by omega⟩ (by omega), show 19 + (32 + (18 + i) - 50) = 1 + (18 + i) by omega, o10 _ (by omega)]
  refine go_aload_n dX5_copyFrom_115 rfl 0 rfl ?_
  refine go_aload_n dX5_copyFrom_116 rfl 1 rfl ?_
  refine go_get (k := 11) kX5 (by decide) fX5_58 (rc_at hV 1 rfl) rfl dX5_copyFrom_117 ?_
  rw [show c11 1 = c 1 from o11 1 (by omega)]
  refine rc_q32_11 hV fX5_58 dX5_copyFrom_120 ?_
  obtain ⟨c12, e12⟩ : ∃ x_, x_ = (rm_u c11 32 (rj_up (c11 32) 11 (c 1 11))) := ⟨_, rfl⟩
  rw [← e12]
  have o12 : ∀ q : Nat, ¬ (32 ≤ q ∧ q < 63) → c12 q = c q := fun q h => (congrFun e12 q).trans ((rm_u_ne _ _ (by omega)).trans (o11 q h))
  have t12_F : c12 32 = (rj_up (rj_up (rj_up (rj_up (rj_up (rj_up (rj_up (c 32) 1 (c 1 1)) 3 (c 1 3)) 5 (c 1 5)) 7 (c 1 7)) 8 ((((c 1 8).toNat : Nat)) : Int)) 9 (c 1 9)) 11 (c 1 11)) := by rw [e12, rm_u_eq, t11_F]
  have t12_C1 : ∀ j : Int, j < 6 → c12 33 j = c 2 j := fun j h => by rw [e12, rm_u_ne _ _ (by omega)]; exact t11_C1 j h
  have t12_R3 : ∀ (i : Nat) (j : Int), i < 6 → j < 4 → c12 (32 + (3 + i)) j = c (1 + (3 + i)) j := fun i j h0 h => by rw [e12, rm_u_ne _ _ (by omega)]; exact t11_R3 i j h0 h
  have t12_C9 : ∀ j : Int, j < 8 → c12 41 j = c 10 j := fun j h => by rw [e12, rm_u_ne _ _ (by omega)]; exact t11_C9 j h
  have t12_C10 : ∀ j : Int, j < 120 → c12 42 j = c 11 j := fun j h => by rw [e12, rm_u_ne _ _ (by omega)]; exact t11_C10 j h
  have t12_R18 : ∀ (i : Nat) (j : Int), i < 6 → j < 8 → c12 (32 + (18 + i)) j = c (1 + (18 + i)) j := fun i j h0 h => by rw [e12, rm_u_ne _ _ (by omega)]; exact t11_R18 i j h0 h
  refine go_aload_n dX5_copyFrom_123 rfl 1 rfl ?_
  refine go_get (k := 12) (w := .ref (cb + 25)) kX5 (by decide) fX5_61 (rc_at hV 1 rfl) rfl dX5_copyFrom_124 ?_
  refine go_aload_n dX5_copyFrom_127 rfl 0 rfl ?_
  refine go_get (k := 12) (w := .ref (cb + 56)) kX5 (by decide) fX5_61 (rc_at hV 32 rfl) rfl dX5_copyFrom_128 ?_
  refine go_callS (d1 := d - 1) wSX5_82 rfl (by omega) (x_copyRows (A := 25) (B := 56) (M := 26) (N := 57) (L := 6) (by omega) hV ⟨rfl, rc_kz26⟩ ⟨rfl, rc_kz57⟩ rc_k26 rc_k57 (by decide) (by decide)) rfl (Nat.le_of_ble_eq_true rfl) dX5_copyFrom_131 (fun w σ1 hP9 => ?_)
  obtain ⟨rfl, rfl⟩ := hP9
  obtain ⟨c13, e13⟩ : ∃ x_, x_ = (rc_cr c12 26 57 6 6) := ⟨_, rfl⟩
  rw [← e13]
  have o13 : ∀ q : Nat, ¬ (32 ≤ q ∧ q < 63) → c13 q = c q := fun q h => (congrFun e13 q).trans ((rc_cr_o (by omega)).trans (o12 q h))
  have t13_F : c13 32 = (rj_up (rj_up (rj_up (rj_up (rj_up (rj_up (rj_up (c 32) 1 (c 1 1)) 3 (c 1 3)) 5 (c 1 5)) 7 (c 1 7)) 8 ((((c 1 8).toNat : Nat)) : Int)) 9 (c 1 9)) 11 (c 1 11)) := (congrFun e13 32).trans ((rc_cr_o (by omega)).trans t12_F)
  have t13_C1 : ∀ j : Int, j < 6 → c13 33 j = c 2 j := fun j h => by rw [e13, rc_cr_o (by omega)]; exact t12_C1 j h
  have t13_R3 : ∀ (i : Nat) (j : Int), i < 6 → j < 4 → c13 (32 + (3 + i)) j = c (1 + (3 + i)) j := fun i j h0 h => by rw [e13, rc_cr_o (by omega)]; exact t12_R3 i j h0 h
  have t13_C9 : ∀ j : Int, j < 8 → c13 41 j = c 10 j := fun j h => by rw [e13, rc_cr_o (by omega)]; exact t12_C9 j h
  have t13_C10 : ∀ j : Int, j < 120 → c13 42 j = c 11 j := fun j h => by rw [e13, rc_cr_o (by omega)]; exact t12_C10 j h
  have t13_R18 : ∀ (i : Nat) (j : Int), i < 6 → j < 8 → c13 (32 + (18 + i)) j = c (1 + (18 + i)) j := fun i j h0 h => by rw [e13, rc_cr_o (by omega)]; exact t12_R18 i j h0 h
  have t13_R25 : ∀ (i : Nat) (j : Int), i < 6 → j < 6 → c13 (32 + (25 + i)) j = c (1 + (25 + i)) j := fun i j h0 h => by rw [e13, rc_cr_i ⟨by omega, by omega⟩ (by omega), show 26 + (32 + (25 + i) - 57) = 1 + (25 + i) by omega, o12 _ (by omega)]
  refine go_aload_n dX5_copyFrom_134 rfl 0 rfl ?_
  refine go_aload_n dX5_copyFrom_135 rfl 1 rfl ?_
  refine go_get (k := 13) kX5 (by decide) fX5_64 (rc_at hV 1 rfl) rfl dX5_copyFrom_136 ?_
  rw [show c13 1 = c 1 from o13 1 (by omega)]
  refine rc_q32_13 hV fX5_64 dX5_copyFrom_139 ?_
  obtain ⟨c14, e14⟩ : ∃ x_, x_ = (rm_u c13 32 (rj_up (c13 32) 13 (c 1 13))) := ⟨_, rfl⟩
  rw [← e14]
  have o14 : ∀ q : Nat, ¬ (32 ≤ q ∧ q < 63) → c14 q = c q := fun q h => (congrFun e14 q).trans ((rm_u_ne _ _ (by omega)).trans (o13 q h))
  have t14_F : c14 32 = (rj_up (rj_up (rj_up (rj_up (rj_up (rj_up (rj_up (rj_up (c 32) 1 (c 1 1)) 3 (c 1 3)) 5 (c 1 5)) 7 (c 1 7)) 8 ((((c 1 8).toNat : Nat)) : Int)) 9 (c 1 9)) 11 (c 1 11)) 13 (c 1 13)) := by rw [e14, rm_u_eq, t13_F]
  have t14_C1 : ∀ j : Int, j < 6 → c14 33 j = c 2 j := fun j h => by rw [e14, rm_u_ne _ _ (by omega)]; exact t13_C1 j h
  have t14_R3 : ∀ (i : Nat) (j : Int), i < 6 → j < 4 → c14 (32 + (3 + i)) j = c (1 + (3 + i)) j := fun i j h0 h => by rw [e14, rm_u_ne _ _ (by omega)]; exact t13_R3 i j h0 h
  have t14_C9 : ∀ j : Int, j < 8 → c14 41 j = c 10 j := fun j h => by rw [e14, rm_u_ne _ _ (by omega)]; exact t13_C9 j h
  have t14_C10 : ∀ j : Int, j < 120 → c14 42 j = c 11 j := fun j h => by rw [e14, rm_u_ne _ _ (by omega)]; exact t13_C10 j h
  have t14_R18 : ∀ (i : Nat) (j : Int), i < 6 → j < 8 → c14 (32 + (18 + i)) j = c (1 + (18 + i)) j := fun i j h0 h => by rw [e14, rm_u_ne _ _ (by omega)]; exact t13_R18 i j h0 h
  have t14_R25 : ∀ (i : Nat) (j : Int), i < 6 → j < 6 → c14 (32 + (25 + i)) j = c (1 + (25 + i)) j := fun i j h0 h => by rw [e14, rm_u_ne _ _ (by omega)]; exact t13_R25 i j h0 h
  refine go_aload_n dX5_copyFrom_142 rfl 0 rfl ?_
  refine go_aload_n dX5_copyFrom_143 rfl 1 rfl ?_
  refine go_get (k := 14) kX5 (by decide) fX5_67 (rc_at hV 1 rfl) rfl dX5_copyFrom_144 ?_
  rw [show c14 1 = c 1 from o14 1 (by omega)]
  refine rc_q32_14 hV fX5_67 dX5_copyFrom_147 ?_
  obtain ⟨c15, e15⟩ : ∃ x_, x_ = (rm_u c14 32 (rj_up (c14 32) 14 (c 1 14))) := ⟨_, rfl⟩
  rw [← e15]
  have o15 : ∀ q : Nat, ¬ (32 ≤ q ∧ q < 63) → c15 q = c q := fun q h => (congrFun e15 q).trans ((rm_u_ne _ _ (by omega)).trans (o14 q h))
  have t15_F : c15 32 = (rj_up (rj_up (rj_up (rj_up (rj_up (rj_up (rj_up (rj_up (rj_up (c 32) 1 (c 1 1)) 3 (c 1 3)) 5 (c 1 5)) 7 (c 1 7)) 8 ((((c 1 8).toNat : Nat)) : Int)) 9 (c 1 9)) 11 (c 1 11)) 13 (c 1 13)) 14 (c 1 14)) := by rw [e15, rm_u_eq, t14_F]
  have t15_C1 : ∀ j : Int, j < 6 → c15 33 j = c 2 j := fun j h => by rw [e15, rm_u_ne _ _ (by omega)]; exact t14_C1 j h
  have t15_R3 : ∀ (i : Nat) (j : Int), i < 6 → j < 4 → c15 (32 + (3 + i)) j = c (1 + (3 + i)) j := fun i j h0 h => by rw [e15, rm_u_ne _ _ (by omega)]; exact t14_R3 i j h0 h
  have t15_C9 : ∀ j : Int, j < 8 → c15 41 j = c 10 j := fun j h => by rw [e15, rm_u_ne _ _ (by omega)]; exact t14_C9 j h
  have t15_C10 : ∀ j : Int, j < 120 → c15 42 j = c 11 j := fun j h => by rw [e15, rm_u_ne _ _ (by omega)]; exact t14_C10 j h
  have t15_R18 : ∀ (i : Nat) (j : Int), i < 6 → j < 8 → c15 (32 + (18 + i)) j = c (1 + (18 + i)) j := fun i j h0 h => by rw [e15, rm_u_ne _ _ (by omega)]; exact t14_R18 i j h0 h
  have t15_R25 : ∀ (i : Nat) (j : Int), i < 6 → j < 6 → c15 (32 + (25 + i)) j = c (1 + (25 + i)) j := fun i j h0 h => by rw [e15, rm_u_ne _ _ (by omega)]; exact t14_R25 i j h0 h
  refine go_retV rfl ?_ dX5_copyFrom_150
  exact ⟨rfl, c15, ⟨⟨by rw [t15_F, rj_up_ne _ _ (by decide), rj_up_ne _ _ (by decide), rj_up_ne _ _ (by decide), rj_up_ne _ _ (by decide), rj_up_ne _ _ (by decide), rj_up_ne _ _ (by decide), rj_up_ne _ _ (by decide), rj_up_ne _ _ (by decide), rj_up_eq], by rw [t15_F, rj_up_ne _ _ (by decide), rj_up_ne _ _ (by decide), rj_up_ne _ _ (by decide), rj_up_ne _ _ (by decide), rj_up_ne _ _ (by decide), rj_up_ne _ _ (by decide), rj_up_ne _ _ (by decide), rj_up_eq], by rw [t15_F, rj_up_ne _ _ (by decide), rj_up_ne _ _ (by decide), rj_up_ne _ _ (by decide), rj_up_ne _ _ (by decide), rj_up_ne _ _ (by decide), rj_up_ne _ _ (by decide), rj_up_eq], by rw [t15_F, rj_up_ne _ _ (by decide), rj_up_ne _ _ (by decide), rj_up_ne _ _ (by decide), rj_up_ne _ _ (by decide), rj_up_ne _ _ (by decide), rj_up_eq], by rw [t15_F, rj_up_ne _ _ (by decide), rj_up_ne _ _ (by decide), rj_up_ne _ _ (by decide), rj_up_ne _ _ (by decide), rj_up_eq], by rw [t15_F, rj_up_ne _ _ (by decide), rj_up_ne _ _ (by decide), rj_up_ne _ _ (by decide), rj_up_eq], by rw [t15_F, rj_up_ne _ _ (by decide), rj_up_ne _ _ (by decide), rj_up_eq], by rw [t15_F, rj_up_ne _ _ (by decide), rj_up_eq], by rw [t15_F, rj_up_eq]⟩, t15_C1, t15_R3, t15_C9, t15_C10, t15_R18, t15_R25, o15⟩, rfl⟩
set_option maxRecDepth 20000 in
/-- x_copy32 -/
theorem x_copy32 {X9 : rj_X} {σ : rj_H} {d cb vv vk : Nat} {c : rm_R} {s : Int → Int} {ad : Nat → Int → Nat} (hd : 4 ≤ d) (hV : rc_V cb vv vk) (hS : rc_S 32 cb vv vk c σ s ad) (hN : rc_N c 32 s) (hM : sp_IM s) (hY : rc_by (c 42)) : rj_Cl X9 d yX5_copyFrom cX5_copyFrom 2 none [.ref (cb + 1), .ref (cb + 32)] (rc_p X9 cb vv vk c σ) (fun w9 τ => w9 = none ∧ ∃ c0 : rm_R, rc_cp 32 1 c c0 ∧ τ = rc_p X9 cb vv vk c0 σ) := by
  refine go_call (by decide +kernel) (Nat.le_of_ble_eq_true rfl) ?_
  refine go_eq (pc' := 0) (lv' := [(0, .ref (cb + 1)), (1, .ref (cb + 32))]) (st' := []) rfl rfl rfl rfl ?_
  refine go_aload_n dX5_copyFrom_0 rfl 1 rfl ?_
  refine go_get (k := 0) (w := .ref (cb + 33)) kX5 (by decide) fX5_11 (rc_at hV 32 rfl) rfl dX5_copyFrom_1 ?_
  refine go_iconst (v := Int32.ofInt 0) dX5_copyFrom_4 rfl ?_
  refine go_aload_n dX5_copyFrom_5 rfl 0 rfl ?_
  refine go_get (k := 0) (w := .ref (cb + 2)) kX5 (by decide) fX5_11 (rc_at hV 1 rfl) rfl dX5_copyFrom_6 ?_
  refine go_iconst (v := Int32.ofInt 0) dX5_copyFrom_9 rfl ?_
  refine go_bipush (v := Int32.ofInt 6) dX5_copyFrom_10 (by decide) ?_
  refine rc_cpr (A := 33) (B := 2) (n := 6) (L := 6) hV rfl rfl (fun _ => rfl) (fun _ => rfl) rfl rfl (by decide) (rc_elm ((fun q (_ : ¬ (1 ≤ q ∧ q < 32)) => (rfl : c q = c q)) 33 (by omega)) hS hN hM) (rj_inT 1010 (by decide +kernel)) (rj_inT 1012 (by decide +kernel)) (rj_inT 1011 (by decide +kernel)) (rj_inT 22 (by decide +kernel)) (by omega) (Nat.le_of_ble_eq_true rfl) dX5_copyFrom_12 ?_
  obtain ⟨c1, e1⟩ : ∃ x_, x_ = (rm_u c 2 (fun j => if j < ((6 : Nat) : Int) then c 33 j else c 2 j)) := ⟨_, rfl⟩
  rw [← e1]
  have o1 : ∀ q : Nat, ¬ (1 ≤ q ∧ q < 32) → c1 q = c q := fun q h => (congrFun e1 q).trans ((rm_u_ne _ _ (by omega)).trans ((fun q (_ : ¬ (1 ≤ q ∧ q < 32)) => (rfl : c q = c q)) q h))
  have t1_F : c1 1 = (c 1) := (congrFun e1 1).trans ((rm_u_ne _ _ (by omega)).trans (rfl : c 1 = c 1))
  have t1_C1 : ∀ j : Int, j < 6 → c1 2 j = c 33 j := fun j h => by rw [e1, rm_u_eq]; show (if j < ((6 : Nat) : Int) then c 33 j else _) = _; rw [if_pos (by omega), (fun q (_ : ¬ (1 ≤ q ∧ q < 32)) => (rfl : c q = c q)) 33 (by omega)]
  refine go_aload_n dX5_copyFrom_15 rfl 0 rfl ?_
  refine go_aload_n dX5_copyFrom_16 rfl 1 rfl ?_
  refine go_get (k := 1) kX5 (by decide) fX5_17 (rc_at hV 32 rfl) rfl dX5_copyFrom_17 ?_
  rw [show c1 32 = c 32 from o1 32 (by omega)]
  refine rc_q1_1 hV fX5_17 dX5_copyFrom_20 ?_
  obtain ⟨c2, e2⟩ : ∃ x_, x_ = (rm_u c1 1 (rj_up (c1 1) 1 (c 32 1))) := ⟨_, rfl⟩
  rw [← e2]
  have o2 : ∀ q : Nat, ¬ (1 ≤ q ∧ q < 32) → c2 q = c q := fun q h => (congrFun e2 q).trans ((rm_u_ne _ _ (by omega)).trans (o1 q h))
  have t2_F : c2 1 = (rj_up (c 1) 1 (c 32 1)) := by rw [e2, rm_u_eq, t1_F]
  have t2_C1 : ∀ j : Int, j < 6 → c2 2 j = c 33 j := fun j h => by rw [e2, rm_u_ne _ _ (by omega)]; exact t1_C1 j h
  refine go_aload_n dX5_copyFrom_23 rfl 1 rfl ?_
  refine go_get (k := 2) (w := .ref (cb + 34)) kX5 (by decide) fX5_23 (rc_at hV 32 rfl) rfl dX5_copyFrom_24 ?_
  refine go_aload_n dX5_copyFrom_27 rfl 0 rfl ?_
  refine go_get (k := 2) (w := .ref (cb + 3)) kX5 (by decide) fX5_23 (rc_at hV 1 rfl) rfl dX5_copyFrom_28 ?_
  refine go_callS (d1 := d - 1) wSX5_82 rfl (by omega) (x_copyRows (A := 34) (B := 3) (M := 35) (N := 4) (L := 4) (by omega) hV ⟨rfl, rc_kz35⟩ ⟨rfl, rc_kz4⟩ rc_k35 rc_k4 (by decide) (by decide)) rfl (Nat.le_of_ble_eq_true rfl) dX5_copyFrom_31 (fun w σ1 hP9 => ?_)
  obtain ⟨rfl, rfl⟩ := hP9
  obtain ⟨c3, e3⟩ : ∃ x_, x_ = (rc_cr c2 35 4 4 6) := ⟨_, rfl⟩
  rw [← e3]
  have o3 : ∀ q : Nat, ¬ (1 ≤ q ∧ q < 32) → c3 q = c q := fun q h => (congrFun e3 q).trans ((rc_cr_o (by omega)).trans (o2 q h))
  have t3_F : c3 1 = (rj_up (c 1) 1 (c 32 1)) := (congrFun e3 1).trans ((rc_cr_o (by omega)).trans t2_F)
  have t3_C1 : ∀ j : Int, j < 6 → c3 2 j = c 33 j := fun j h => by rw [e3, rc_cr_o (by omega)]; exact t2_C1 j h
  have t3_R3 : ∀ (i : Nat) (j : Int), i < 6 → j < 4 → c3 (1 + (3 + i)) j = c (32 + (3 + i)) j := fun i j h0 h => by rw [e3, rc_cr_i ⟨by omega, by omega⟩ (by omega), show 35 + (1 + (3 + i) - 4) = 32 + (3 + i) by omega, o2 _ (by omega)]
  refine go_aload_n dX5_copyFrom_34 rfl 0 rfl ?_
  refine go_aload_n dX5_copyFrom_35 rfl 1 rfl ?_
  refine go_get (k := 3) kX5 (by decide) fX5_26 (rc_at hV 32 rfl) rfl dX5_copyFrom_36 ?_
  rw [show c3 32 = c 32 from o3 32 (by omega)]
  refine rc_q1_3 hV fX5_26 dX5_copyFrom_39 ?_
  obtain ⟨c4, e4⟩ : ∃ x_, x_ = (rm_u c3 1 (rj_up (c3 1) 3 (c 32 3))) := ⟨_, rfl⟩
  rw [← e4]
  have o4 : ∀ q : Nat, ¬ (1 ≤ q ∧ q < 32) → c4 q = c q := fun q h => (congrFun e4 q).trans ((rm_u_ne _ _ (by omega)).trans (o3 q h))
  have t4_F : c4 1 = (rj_up (rj_up (c 1) 1 (c 32 1)) 3 (c 32 3)) := by rw [e4, rm_u_eq, t3_F]
  have t4_C1 : ∀ j : Int, j < 6 → c4 2 j = c 33 j := fun j h => by rw [e4, rm_u_ne _ _ (by omega)]; exact t3_C1 j h
  have t4_R3 : ∀ (i : Nat) (j : Int), i < 6 → j < 4 → c4 (1 + (3 + i)) j = c (32 + (3 + i)) j := fun i j h0 h => by rw [e4, rm_u_ne _ _ (by omega)]; exact t3_R3 i j h0 h
  refine go_aload_n dX5_copyFrom_42 rfl 1 rfl ?_
  refine go_get (k := 4) (w := .ref (cb + 41)) kX5 (by decide) fX5_31 (rc_at hV 32 rfl) rfl dX5_copyFrom_43 ?_
  refine go_iconst (v := Int32.ofInt 0) dX5_copyFrom_46 rfl ?_
  refine go_aload_n dX5_copyFrom_47 rfl 0 rfl ?_
  refine go_get (k := 4) (w := .ref (cb + 10)) kX5 (by decide) fX5_31 (rc_at hV 1 rfl) rfl dX5_copyFrom_48 ?_
  refine go_iconst (v := Int32.ofInt 0) dX5_copyFrom_51 rfl ?_
  refine go_bipush (v := Int32.ofInt 8) dX5_copyFrom_52 (by decide) ?_
  refine rc_cpr (A := 41) (B := 10) (n := 8) (L := 8) hV rfl rfl (fun _ => rfl) (fun _ => rfl) rfl rfl (by decide) (rc_elw (o4 41 (by omega)) hS hN) (rj_inT 1010 (by decide +kernel)) (rj_inT 1012 (by decide +kernel)) (rj_inT 1011 (by decide +kernel)) (rj_inT 22 (by decide +kernel)) (by omega) (Nat.le_of_ble_eq_true rfl) dX5_copyFrom_54 ?_
  obtain ⟨c5, e5⟩ : ∃ x_, x_ = (rm_u c4 10 (fun j => if j < ((8 : Nat) : Int) then c4 41 j else c4 10 j)) := ⟨_, rfl⟩
  rw [← e5]
  have o5 : ∀ q : Nat, ¬ (1 ≤ q ∧ q < 32) → c5 q = c q := fun q h => (congrFun e5 q).trans ((rm_u_ne _ _ (by omega)).trans (o4 q h))
  have t5_F : c5 1 = (rj_up (rj_up (c 1) 1 (c 32 1)) 3 (c 32 3)) := (congrFun e5 1).trans ((rm_u_ne _ _ (by omega)).trans t4_F)
  have t5_C1 : ∀ j : Int, j < 6 → c5 2 j = c 33 j := fun j h => by rw [e5, rm_u_ne _ _ (by omega)]; exact t4_C1 j h
  have t5_R3 : ∀ (i : Nat) (j : Int), i < 6 → j < 4 → c5 (1 + (3 + i)) j = c (32 + (3 + i)) j := fun i j h0 h => by rw [e5, rm_u_ne _ _ (by omega)]; exact t4_R3 i j h0 h
  have t5_C9 : ∀ j : Int, j < 8 → c5 10 j = c 41 j := fun j h => by rw [e5, rm_u_eq]; show (if j < ((8 : Nat) : Int) then c4 41 j else _) = _; rw [if_pos (by omega), o4 41 (by omega)]
  refine go_aload_n dX5_copyFrom_57 rfl 0 rfl ?_
  refine go_aload_n dX5_copyFrom_58 rfl 1 rfl ?_
  refine go_get (k := 5) kX5 (by decide) fX5_35 (rc_at hV 32 rfl) rfl dX5_copyFrom_59 ?_
  rw [show c5 32 = c 32 from o5 32 (by omega)]
  refine rc_q1_5 hV fX5_35 dX5_copyFrom_62 ?_
  obtain ⟨c6, e6⟩ : ∃ x_, x_ = (rm_u c5 1 (rj_up (c5 1) 5 (c 32 5))) := ⟨_, rfl⟩
  rw [← e6]
  have o6 : ∀ q : Nat, ¬ (1 ≤ q ∧ q < 32) → c6 q = c q := fun q h => (congrFun e6 q).trans ((rm_u_ne _ _ (by omega)).trans (o5 q h))
  have t6_F : c6 1 = (rj_up (rj_up (rj_up (c 1) 1 (c 32 1)) 3 (c 32 3)) 5 (c 32 5)) := by rw [e6, rm_u_eq, t5_F]
  have t6_C1 : ∀ j : Int, j < 6 → c6 2 j = c 33 j := fun j h => by rw [e6, rm_u_ne _ _ (by omega)]; exact t5_C1 j h
  have t6_R3 : ∀ (i : Nat) (j : Int), i < 6 → j < 4 → c6 (1 + (3 + i)) j = c (32 + (3 + i)) j := fun i j h0 h => by rw [e6, rm_u_ne _ _ (by omega)]; exact t5_R3 i j h0 h
  have t6_C9 : ∀ j : Int, j < 8 → c6 10 j = c 41 j := fun j h => by rw [e6, rm_u_ne _ _ (by omega)]; exact t5_C9 j h
  refine go_aload_n dX5_copyFrom_65 rfl 1 rfl ?_
  refine go_get (k := 6) (w := .ref (cb + 42)) kX5 (by decide) fX5_38 (rc_at hV 32 rfl) rfl dX5_copyFrom_66 ?_
  refine go_iconst (v := Int32.ofInt 0) dX5_copyFrom_69 rfl ?_
  refine go_aload_n dX5_copyFrom_70 rfl 0 rfl ?_
  refine go_get (k := 6) (w := .ref (cb + 11)) kX5 (by decide) fX5_38 (rc_at hV 1 rfl) rfl dX5_copyFrom_71 ?_
  refine go_iconst (v := Int32.ofInt 0) dX5_copyFrom_74 rfl ?_
  refine go_bipush (v := Int32.ofInt 120) dX5_copyFrom_75 (by decide) ?_
  refine rc_cpp (A := 42) (B := 11) (n := 120) (L := 120) hV rfl rfl (fun _ => rfl) (fun _ => rfl) (ty := .byte) rfl rfl (by decide) (fun j hj => by rw [o6 42 (by omega)]; exact rj_fbt (hY j (by omega) (by omega))) (rj_inT 1010 (by decide +kernel)) (rj_inT 1012 (by decide +kernel)) (rj_inT 1011 (by decide +kernel)) (rj_inT 22 (by decide +kernel)) (by omega) (Nat.le_of_ble_eq_true rfl) dX5_copyFrom_77 ?_
  obtain ⟨c7, e7⟩ : ∃ x_, x_ = (rm_u c6 11 (fun j => if j < ((120 : Nat) : Int) then c6 42 j else c6 11 j)) := ⟨_, rfl⟩
  rw [← e7]
  have o7 : ∀ q : Nat, ¬ (1 ≤ q ∧ q < 32) → c7 q = c q := fun q h => (congrFun e7 q).trans ((rm_u_ne _ _ (by omega)).trans (o6 q h))
  have t7_F : c7 1 = (rj_up (rj_up (rj_up (c 1) 1 (c 32 1)) 3 (c 32 3)) 5 (c 32 5)) := (congrFun e7 1).trans ((rm_u_ne _ _ (by omega)).trans t6_F)
  have t7_C1 : ∀ j : Int, j < 6 → c7 2 j = c 33 j := fun j h => by rw [e7, rm_u_ne _ _ (by omega)]; exact t6_C1 j h
  have t7_R3 : ∀ (i : Nat) (j : Int), i < 6 → j < 4 → c7 (1 + (3 + i)) j = c (32 + (3 + i)) j := fun i j h0 h => by rw [e7, rm_u_ne _ _ (by omega)]; exact t6_R3 i j h0 h
  have t7_C9 : ∀ j : Int, j < 8 → c7 10 j = c 41 j := fun j h => by rw [e7, rm_u_ne _ _ (by omega)]; exact t6_C9 j h
  have t7_C10 : ∀ j : Int, j < 120 → c7 11 j = c 42 j := fun j h => by rw [e7, rm_u_eq]; show (if j < ((120 : Nat) : Int) then c6 42 j else _) = _; rw [if_pos (by omega), o6 42 (by omega)]
  refine go_aload_n dX5_copyFrom_80 rfl 0 rfl ?_
  refine go_aload_n dX5_copyFrom_81 rfl 1 rfl ?_
  refine go_get (k := 7) kX5 (by decide) fX5_42 (rc_at hV 32 rfl) rfl dX5_copyFrom_82 ?_
  rw [show c7 32 = c 32 from o7 32 (by omega)]
  refine rc_q1_7 hV fX5_42 dX5_copyFrom_85 ?_
  obtain ⟨c8, e8⟩ : ∃ x_, x_ = (rm_u c7 1 (rj_up (c7 1) 7 (c 32 7))) := ⟨_, rfl⟩
  rw [← e8]
  have o8 : ∀ q : Nat, ¬ (1 ≤ q ∧ q < 32) → c8 q = c q := fun q h => (congrFun e8 q).trans ((rm_u_ne _ _ (by omega)).trans (o7 q h))
  have t8_F : c8 1 = (rj_up (rj_up (rj_up (rj_up (c 1) 1 (c 32 1)) 3 (c 32 3)) 5 (c 32 5)) 7 (c 32 7)) := by rw [e8, rm_u_eq, t7_F]
  have t8_C1 : ∀ j : Int, j < 6 → c8 2 j = c 33 j := fun j h => by rw [e8, rm_u_ne _ _ (by omega)]; exact t7_C1 j h
  have t8_R3 : ∀ (i : Nat) (j : Int), i < 6 → j < 4 → c8 (1 + (3 + i)) j = c (32 + (3 + i)) j := fun i j h0 h => by rw [e8, rm_u_ne _ _ (by omega)]; exact t7_R3 i j h0 h
  have t8_C9 : ∀ j : Int, j < 8 → c8 10 j = c 41 j := fun j h => by rw [e8, rm_u_ne _ _ (by omega)]; exact t7_C9 j h
  have t8_C10 : ∀ j : Int, j < 120 → c8 11 j = c 42 j := fun j h => by rw [e8, rm_u_ne _ _ (by omega)]; exact t7_C10 j h
  refine go_aload_n dX5_copyFrom_88 rfl 0 rfl ?_
  refine go_aload_n dX5_copyFrom_89 rfl 1 rfl ?_
  refine go_get (k := 8) kX5 (by decide) fX5_48 (rc_at hV 32 rfl) rfl dX5_copyFrom_90 ?_
  rw [show c8 32 = c 32 from o8 32 (by omega)]
  refine rc_q1_8 hV fX5_48 dX5_copyFrom_93 ?_
  obtain ⟨c9, e9⟩ : ∃ x_, x_ = (rm_u c8 1 (rj_up (c8 1) 8 ((((c 32 8).toNat : Nat)) : Int))) := ⟨_, rfl⟩
  rw [← e9]
  have o9 : ∀ q : Nat, ¬ (1 ≤ q ∧ q < 32) → c9 q = c q := fun q h => (congrFun e9 q).trans ((rm_u_ne _ _ (by omega)).trans (o8 q h))
  have t9_F : c9 1 = (rj_up (rj_up (rj_up (rj_up (rj_up (c 1) 1 (c 32 1)) 3 (c 32 3)) 5 (c 32 5)) 7 (c 32 7)) 8 ((((c 32 8).toNat : Nat)) : Int)) := by rw [e9, rm_u_eq, t8_F]
  have t9_C1 : ∀ j : Int, j < 6 → c9 2 j = c 33 j := fun j h => by rw [e9, rm_u_ne _ _ (by omega)]; exact t8_C1 j h
  have t9_R3 : ∀ (i : Nat) (j : Int), i < 6 → j < 4 → c9 (1 + (3 + i)) j = c (32 + (3 + i)) j := fun i j h0 h => by rw [e9, rm_u_ne _ _ (by omega)]; exact t8_R3 i j h0 h
  have t9_C9 : ∀ j : Int, j < 8 → c9 10 j = c 41 j := fun j h => by rw [e9, rm_u_ne _ _ (by omega)]; exact t8_C9 j h
  have t9_C10 : ∀ j : Int, j < 120 → c9 11 j = c 42 j := fun j h => by rw [e9, rm_u_ne _ _ (by omega)]; exact t8_C10 j h
  refine go_aload_n dX5_copyFrom_96 rfl 0 rfl ?_
  refine go_aload_n dX5_copyFrom_97 rfl 1 rfl ?_
  refine go_get (k := 9) kX5 (by decide) fX5_52 (rc_at hV 32 rfl) rfl dX5_copyFrom_98 ?_
  rw [show c9 32 = c 32 from o9 32 (by omega)]
  refine rc_q1_9 hV fX5_52 dX5_copyFrom_101 ?_
  obtain ⟨c10, e10⟩ : ∃ x_, x_ = (rm_u c9 1 (rj_up (c9 1) 9 (c 32 9))) := ⟨_, rfl⟩
  rw [← e10]
  have o10 : ∀ q : Nat, ¬ (1 ≤ q ∧ q < 32) → c10 q = c q := fun q h => (congrFun e10 q).trans ((rm_u_ne _ _ (by omega)).trans (o9 q h))
  have t10_F : c10 1 = (rj_up (rj_up (rj_up (rj_up (rj_up (rj_up (c 1) 1 (c 32 1)) 3 (c 32 3)) 5 (c 32 5)) 7 (c 32 7)) 8 ((((c 32 8).toNat : Nat)) : Int)) 9 (c 32 9)) := by rw [e10, rm_u_eq, t9_F]
  have t10_C1 : ∀ j : Int, j < 6 → c10 2 j = c 33 j := fun j h => by rw [e10, rm_u_ne _ _ (by omega)]; exact t9_C1 j h
  have t10_R3 : ∀ (i : Nat) (j : Int), i < 6 → j < 4 → c10 (1 + (3 + i)) j = c (32 + (3 + i)) j := fun i j h0 h => by rw [e10, rm_u_ne _ _ (by omega)]; exact t9_R3 i j h0 h
  have t10_C9 : ∀ j : Int, j < 8 → c10 10 j = c 41 j := fun j h => by rw [e10, rm_u_ne _ _ (by omega)]; exact t9_C9 j h
  have t10_C10 : ∀ j : Int, j < 120 → c10 11 j = c 42 j := fun j h => by rw [e10, rm_u_ne _ _ (by omega)]; exact t9_C10 j h
  refine go_aload_n dX5_copyFrom_104 rfl 1 rfl ?_
  refine go_get (k := 10) (w := .ref (cb + 49)) kX5 (by decide) fX5_55 (rc_at hV 32 rfl) rfl dX5_copyFrom_105 ?_
  refine go_aload_n dX5_copyFrom_108 rfl 0 rfl ?_
  refine go_get (k := 10) (w := .ref (cb + 18)) kX5 (by decide) fX5_55 (rc_at hV 1 rfl) rfl dX5_copyFrom_109 ?_
  refine go_callS (d1 := d - 1) wSX5_82 rfl (by omega) (x_copyRows (A := 49) (B := 18) (M := 50) (N := 19) (L := 8) (by omega) hV ⟨rfl, rc_kz50⟩ ⟨rfl, rc_kz19⟩ rc_k50 rc_k19 (by decide) (by decide)) rfl (Nat.le_of_ble_eq_true rfl) dX5_copyFrom_112 (fun w σ1 hP9 => ?_)
  obtain ⟨rfl, rfl⟩ := hP9
  obtain ⟨c11, e11⟩ : ∃ x_, x_ = (rc_cr c10 50 19 8 6) := ⟨_, rfl⟩
  rw [← e11]
  have o11 : ∀ q : Nat, ¬ (1 ≤ q ∧ q < 32) → c11 q = c q := fun q h => (congrFun e11 q).trans ((rc_cr_o (by omega)).trans (o10 q h))
  have t11_F : c11 1 = (rj_up (rj_up (rj_up (rj_up (rj_up (rj_up (c 1) 1 (c 32 1)) 3 (c 32 3)) 5 (c 32 5)) 7 (c 32 7)) 8 ((((c 32 8).toNat : Nat)) : Int)) 9 (c 32 9)) := (congrFun e11 1).trans ((rc_cr_o (by omega)).trans t10_F)
  have t11_C1 : ∀ j : Int, j < 6 → c11 2 j = c 33 j := fun j h => by rw [e11, rc_cr_o (by omega)]; exact t10_C1 j h
  have t11_R3 : ∀ (i : Nat) (j : Int), i < 6 → j < 4 → c11 (1 + (3 + i)) j = c (32 + (3 + i)) j := fun i j h0 h => by rw [e11, rc_cr_o (by omega)]; exact t10_R3 i j h0 h
  have t11_C9 : ∀ j : Int, j < 8 → c11 10 j = c 41 j := fun j h => by rw [e11, rc_cr_o (by omega)]; exact t10_C9 j h
  have t11_C10 : ∀ j : Int, j < 120 → c11 11 j = c 42 j := fun j h => by rw [e11, rc_cr_o (by omega)]; exact t10_C10 j h
  have t11_R18 : ∀ (i : Nat) (j : Int), i < 6 → j < 8 → c11 (1 + (18 + i)) j = c (32 + (18 + i)) j := fun i j h0 h => by rw [e11, rc_cr_i ⟨by omega, by omega⟩ (by omega), show 50 + (1 + (18 + i) - 19) = 32 + (18 + i) by omega, o10 _ (by omega)]
  refine go_aload_n dX5_copyFrom_115 rfl 0 rfl ?_
  refine go_aload_n dX5_copyFrom_116 rfl 1 rfl ?_
  refine go_get (k := 11) kX5 (by decide) fX5_58 (rc_at hV 32 rfl) rfl dX5_copyFrom_117 ?_
  rw [show c11 32 = c 32 from o11 32 (by omega)]
  refine rc_q1_11 hV fX5_58 dX5_copyFrom_120 ?_
  obtain ⟨c12, e12⟩ : ∃ x_, x_ = (rm_u c11 1 (rj_up (c11 1) 11 (c 32 11))) := ⟨_, rfl⟩
  rw [← e12]
  have o12 : ∀ q : Nat, ¬ (1 ≤ q ∧ q < 32) → c12 q = c q := fun q h => (congrFun e12 q).trans ((rm_u_ne _ _ (by omega)).trans (o11 q h))
  have t12_F : c12 1 = (rj_up (rj_up (rj_up (rj_up (rj_up (rj_up (rj_up (c 1) 1 (c 32 1)) 3 (c 32 3)) 5 (c 32 5)) 7 (c 32 7)) 8 ((((c 32 8).toNat : Nat)) : Int)) 9 (c 32 9)) 11 (c 32 11)) := by rw [e12, rm_u_eq, t11_F]
  have t12_C1 : ∀ j : Int, j < 6 → c12 2 j = c 33 j := fun j h => by rw [e12, rm_u_ne _ _ (by omega)]; exact t11_C1 j h
  have t12_R3 : ∀ (i : Nat) (j : Int), i < 6 → j < 4 → c12 (1 + (3 + i)) j = c (32 + (3 + i)) j := fun i j h0 h => by rw [e12, rm_u_ne _ _ (by omega)]; exact t11_R3 i j h0 h
  have t12_C9 : ∀ j : Int, j < 8 → c12 10 j = c 41 j := fun j h => by rw [e12, rm_u_ne _ _ (by omega)]; exact t11_C9 j h
  have t12_C10 : ∀ j : Int, j < 120 → c12 11 j = c 42 j := fun j h => by rw [e12, rm_u_ne _ _ (by omega)]; exact t11_C10 j h
  have t12_R18 : ∀ (i : Nat) (j : Int), i < 6 → j < 8 → c12 (1 + (18 + i)) j = c (32 + (18 + i)) j := fun i j h0 h => by rw [e12, rm_u_ne _ _ (by omega)]; exact t11_R18 i j h0 h
  refine go_aload_n dX5_copyFrom_123 rfl 1 rfl ?_
  refine go_get (k := 12) (w := .ref (cb + 56)) kX5 (by decide) fX5_61 (rc_at hV 32 rfl) rfl dX5_copyFrom_124 ?_
  refine go_aload_n dX5_copyFrom_127 rfl 0 rfl ?_
  refine go_get (k := 12) (w := .ref (cb + 25)) kX5 (by decide) fX5_61 (rc_at hV 1 rfl) rfl dX5_copyFrom_128 ?_
  refine go_callS (d1 := d - 1) wSX5_82 rfl (by omega) (x_copyRows (A := 56) (B := 25) (M := 57) (N := 26) (L := 6) (by omega) hV ⟨rfl, rc_kz57⟩ ⟨rfl, rc_kz26⟩ rc_k57 rc_k26 (by decide) (by decide)) rfl (Nat.le_of_ble_eq_true rfl) dX5_copyFrom_131 (fun w σ1 hP9 => ?_)
  obtain ⟨rfl, rfl⟩ := hP9
  obtain ⟨c13, e13⟩ : ∃ x_, x_ = (rc_cr c12 57 26 6 6) := ⟨_, rfl⟩
  rw [← e13]
  have o13 : ∀ q : Nat, ¬ (1 ≤ q ∧ q < 32) → c13 q = c q := fun q h => (congrFun e13 q).trans ((rc_cr_o (by omega)).trans (o12 q h))
  have t13_F : c13 1 = (rj_up (rj_up (rj_up (rj_up (rj_up (rj_up (rj_up (c 1) 1 (c 32 1)) 3 (c 32 3)) 5 (c 32 5)) 7 (c 32 7)) 8 ((((c 32 8).toNat : Nat)) : Int)) 9 (c 32 9)) 11 (c 32 11)) := (congrFun e13 1).trans ((rc_cr_o (by omega)).trans t12_F)
  have t13_C1 : ∀ j : Int, j < 6 → c13 2 j = c 33 j := fun j h => by rw [e13, rc_cr_o (by omega)]; exact t12_C1 j h
  have t13_R3 : ∀ (i : Nat) (j : Int), i < 6 → j < 4 → c13 (1 + (3 + i)) j = c (32 + (3 + i)) j := fun i j h0 h => by rw [e13, rc_cr_o (by omega)]; exact t12_R3 i j h0 h
  have t13_C9 : ∀ j : Int, j < 8 → c13 10 j = c 41 j := fun j h => by rw [e13, rc_cr_o (by omega)]; exact t12_C9 j h
  have t13_C10 : ∀ j : Int, j < 120 → c13 11 j = c 42 j := fun j h => by rw [e13, rc_cr_o (by omega)]; exact t12_C10 j h
  have t13_R18 : ∀ (i : Nat) (j : Int), i < 6 → j < 8 → c13 (1 + (18 + i)) j = c (32 + (18 + i)) j := fun i j h0 h => by rw [e13, rc_cr_o (by omega)]; exact t12_R18 i j h0 h
  have t13_R25 : ∀ (i : Nat) (j : Int), i < 6 → j < 6 → c13 (1 + (25 + i)) j = c (32 + (25 + i)) j := fun i j h0 h => by rw [e13, rc_cr_i ⟨by omega, by omega⟩ (by omega), show 57 + (1 + (25 + i) - 26) = 32 + (25 + i) by omega, o12 _ (by omega)]
  refine go_aload_n dX5_copyFrom_134 rfl 0 rfl ?_
  refine go_aload_n dX5_copyFrom_135 rfl 1 rfl ?_
  refine go_get (k := 13) kX5 (by decide) fX5_64 (rc_at hV 32 rfl) rfl dX5_copyFrom_136 ?_
  rw [show c13 32 = c 32 from o13 32 (by omega)]
  refine rc_q1_13 hV fX5_64 dX5_copyFrom_139 ?_
  obtain ⟨c14, e14⟩ : ∃ x_, x_ = (rm_u c13 1 (rj_up (c13 1) 13 (c 32 13))) := ⟨_, rfl⟩
  rw [← e14]
  have o14 : ∀ q : Nat, ¬ (1 ≤ q ∧ q < 32) → c14 q = c q := fun q h => (congrFun e14 q).trans ((rm_u_ne _ _ (by omega)).trans (o13 q h))
  have t14_F : c14 1 = (rj_up (rj_up (rj_up (rj_up (rj_up (rj_up (rj_up (rj_up (c 1) 1 (c 32 1)) 3 (c 32 3)) 5 (c 32 5)) 7 (c 32 7)) 8 ((((c 32 8).toNat : Nat)) : Int)) 9 (c 32 9)) 11 (c 32 11)) 13 (c 32 13)) := by rw [e14, rm_u_eq, t13_F]
  have t14_C1 : ∀ j : Int, j < 6 → c14 2 j = c 33 j := fun j h => by rw [e14, rm_u_ne _ _ (by omega)]; exact t13_C1 j h
  have t14_R3 : ∀ (i : Nat) (j : Int), i < 6 → j < 4 → c14 (1 + (3 + i)) j = c (32 + (3 + i)) j := fun i j h0 h => by rw [e14, rm_u_ne _ _ (by omega)]; exact t13_R3 i j h0 h
  have t14_C9 : ∀ j : Int, j < 8 → c14 10 j = c 41 j := fun j h => by rw [e14, rm_u_ne _ _ (by omega)]; exact t13_C9 j h
  have t14_C10 : ∀ j : Int, j < 120 → c14 11 j = c 42 j := fun j h => by rw [e14, rm_u_ne _ _ (by omega)]; exact t13_C10 j h
  have t14_R18 : ∀ (i : Nat) (j : Int), i < 6 → j < 8 → c14 (1 + (18 + i)) j = c (32 + (18 + i)) j := fun i j h0 h => by rw [e14, rm_u_ne _ _ (by omega)]; exact t13_R18 i j h0 h
  have t14_R25 : ∀ (i : Nat) (j : Int), i < 6 → j < 6 → c14 (1 + (25 + i)) j = c (32 + (25 + i)) j := fun i j h0 h => by rw [e14, rm_u_ne _ _ (by omega)]; exact t13_R25 i j h0 h
  refine go_aload_n dX5_copyFrom_142 rfl 0 rfl ?_
  refine go_aload_n dX5_copyFrom_143 rfl 1 rfl ?_
  refine go_get (k := 14) kX5 (by decide) fX5_67 (rc_at hV 32 rfl) rfl dX5_copyFrom_144 ?_
  rw [show c14 32 = c 32 from o14 32 (by omega)]
  refine rc_q1_14 hV fX5_67 dX5_copyFrom_147 ?_
  obtain ⟨c15, e15⟩ : ∃ x_, x_ = (rm_u c14 1 (rj_up (c14 1) 14 (c 32 14))) := ⟨_, rfl⟩
  rw [← e15]
  have o15 : ∀ q : Nat, ¬ (1 ≤ q ∧ q < 32) → c15 q = c q := fun q h => (congrFun e15 q).trans ((rm_u_ne _ _ (by omega)).trans (o14 q h))
  have t15_F : c15 1 = (rj_up (rj_up (rj_up (rj_up (rj_up (rj_up (rj_up (rj_up (rj_up (c 1) 1 (c 32 1)) 3 (c 32 3)) 5 (c 32 5)) 7 (c 32 7)) 8 ((((c 32 8).toNat : Nat)) : Int)) 9 (c 32 9)) 11 (c 32 11)) 13 (c 32 13)) 14 (c 32 14)) := by rw [e15, rm_u_eq, t14_F]
  have t15_C1 : ∀ j : Int, j < 6 → c15 2 j = c 33 j := fun j h => by rw [e15, rm_u_ne _ _ (by omega)]; exact t14_C1 j h
  have t15_R3 : ∀ (i : Nat) (j : Int), i < 6 → j < 4 → c15 (1 + (3 + i)) j = c (32 + (3 + i)) j := fun i j h0 h => by rw [e15, rm_u_ne _ _ (by omega)]; exact t14_R3 i j h0 h
  have t15_C9 : ∀ j : Int, j < 8 → c15 10 j = c 41 j := fun j h => by rw [e15, rm_u_ne _ _ (by omega)]; exact t14_C9 j h
  have t15_C10 : ∀ j : Int, j < 120 → c15 11 j = c 42 j := fun j h => by rw [e15, rm_u_ne _ _ (by omega)]; exact t14_C10 j h
  have t15_R18 : ∀ (i : Nat) (j : Int), i < 6 → j < 8 → c15 (1 + (18 + i)) j = c (32 + (18 + i)) j := fun i j h0 h => by rw [e15, rm_u_ne _ _ (by omega)]; exact t14_R18 i j h0 h
  have t15_R25 : ∀ (i : Nat) (j : Int), i < 6 → j < 6 → c15 (1 + (25 + i)) j = c (32 + (25 + i)) j := fun i j h0 h => by rw [e15, rm_u_ne _ _ (by omega)]; exact t14_R25 i j h0 h
  refine go_retV rfl ?_ dX5_copyFrom_150
  exact ⟨rfl, c15, ⟨⟨by rw [t15_F, rj_up_ne _ _ (by decide), rj_up_ne _ _ (by decide), rj_up_ne _ _ (by decide), rj_up_ne _ _ (by decide), rj_up_ne _ _ (by decide), rj_up_ne _ _ (by decide), rj_up_ne _ _ (by decide), rj_up_ne _ _ (by decide), rj_up_eq], by rw [t15_F, rj_up_ne _ _ (by decide), rj_up_ne _ _ (by decide), rj_up_ne _ _ (by decide), rj_up_ne _ _ (by decide), rj_up_ne _ _ (by decide), rj_up_ne _ _ (by decide), rj_up_ne _ _ (by decide), rj_up_eq], by rw [t15_F, rj_up_ne _ _ (by decide), rj_up_ne _ _ (by decide), rj_up_ne _ _ (by decide), rj_up_ne _ _ (by decide), rj_up_ne _ _ (by decide), rj_up_ne _ _ (by decide), rj_up_eq], by rw [t15_F, rj_up_ne _ _ (by decide), rj_up_ne _ _ (by decide), rj_up_ne _ _ (by decide), rj_up_ne _ _ (by decide), rj_up_ne _ _ (by decide), rj_up_eq], by rw [t15_F, rj_up_ne _ _ (by decide), rj_up_ne _ _ (by decide), rj_up_ne _ _ (by decide), rj_up_ne _ _ (by decide), rj_up_eq], by rw [t15_F, rj_up_ne _ _ (by decide), rj_up_ne _ _ (by decide), rj_up_ne _ _ (by decide), rj_up_eq], by rw [t15_F, rj_up_ne _ _ (by decide), rj_up_ne _ _ (by decide), rj_up_eq], by rw [t15_F, rj_up_ne _ _ (by decide), rj_up_eq], by rw [t15_F, rj_up_eq]⟩, t15_C1, t15_R3, t15_C9, t15_C10, t15_R18, t15_R25, o15⟩, rfl⟩
theorem rc_R.b1 {X9 : rj_X} {cb vv vk : Nat} {c c' : rm_R} {σ : rj_H} {s : Int → Int} {ad : Nat → Int → Nat} (h : rc_R X9 cb vv vk c σ s ad) (k : ∀ q : Nat, 1 ≤ q → q < 32 → c' q = c q) : rc_R X9 cb vv vk c' σ s ad := by
  obtain ⟨h1, h2, ⟨g1, g2, g3, g4, g5, g6, g7⟩, h4⟩ := h
  refine ⟨h1, h2, ⟨by rw [k 1 (by omega) (by omega)]; exact g1, fun m a e => by rw [k _ (by omega) (by omega)]; exact g2 m a e, fun p a e f => by rw [k _ (by omega) (by omega)]; exact g3 p a e f, fun w a e => by rw [k _ (by omega) (by omega)]; exact g4 w a e, fun j a e => by rw [k _ (by omega) (by omega)]; exact g5 j a e, fun m q a e f g => by rw [k _ (by omega) (by omega)]; exact g6 m q a e f g, fun a e f g i j l => by rw [k _ (by omega) (by omega)]; exact g7 a e f g i j l⟩, h4⟩
theorem rc_S.a {b cb vv vk : Nat} {c c' : rm_R} {σ : rj_H} {s : Int → Int} {ad : Nat → Int → Nat} (h : rc_S b cb vv vk c σ s ad) (k : ∀ q : Nat, b ≤ q → q < b + 31 → c' q = c q) : rc_S b cb vv vk c' σ s ad := by
  obtain ⟨g1, g2, g3, g4, g5, g6, g7⟩ := h
  refine ⟨by rw [k b (by omega) (by omega)]; exact g1, fun m a e => by rw [k _ (by omega) (by omega)]; exact g2 m a e, fun p a e f => by rw [k _ (by omega) (by omega)]; exact g3 p a e f, fun w a e => by rw [k _ (by omega) (by omega)]; exact g4 w a e, fun j a e => by rw [k _ (by omega) (by omega)]; exact g5 j a e, fun m q a e f g => by rw [k _ (by omega) (by omega)]; exact g6 m q a e f g, fun a e f g i j l => by rw [k _ (by omega) (by omega)]; exact g7 a e f g i j l⟩
theorem rc_N.a {b : Nat} {c c' : rm_R} {s : Int → Int} (h : rc_N c b s) (k : ∀ q : Nat, b ≤ q → q < b + 31 → c' q = c q) : rc_N c' b s := ⟨fun m a e => by rw [k _ (by omega) (by omega)]; exact h.1 m a e, fun w a e => by rw [k _ (by omega) (by omega)]; exact h.2 w a e⟩
set_option maxRecDepth 20000 in
/-- x_image -/
theorem x_image {X9 : rj_X} {σ : rj_H} {d cb vv vk : Nat} {c : rm_R} (hd : 5 ≤ d) {s : Int → Int} {ad : Nat → Int → Nat} (hR : rc_R X9 cb vv vk c σ s ad) (hI : sp_I s) (hN : rc_N c 1 s) (hY : rc_by (c 11)) : rj_Cl X9 d yX11_image cX11_image 1 (some .int) [.ref cb] (rc_p X9 cb vv vk c σ) (fun w9 τ => w9 = some (rj_i (s 0)) ∧ ∃ c0 : rm_R, rc_R X9 cb vv vk c0 σ s ad ∧ rc_S 32 cb vv vk c0 σ s ad ∧ rc_N c0 1 s ∧ rc_N c0 32 s ∧ rc_by (c0 11) ∧ rc_by (c0 42) ∧ c0 0 2 = 1 ∧ (∀ q : Nat, 63 ≤ q → q < 65 → c0 q = c q) ∧ τ = rc_p X9 cb vv vk c0 σ) := by
  obtain ⟨⟨h0, h1, h2, h3, h4, h5, h6, h7⟩, hM, hP, hW, hL, hV⟩ := id hI
  obtain ⟨v1, v2, v3, v4⟩ := id hV
  refine go_call (by decide +kernel) (Nat.le_of_ble_eq_true rfl) ?_
  refine go_eq (pc' := 0) (lv' := [(0, .ref cb)]) (st' := []) rfl rfl rfl rfl ?_
  refine go_aload_n dX11_image_0 rfl 0 rfl ?_
  refine rc_gx hR.V (k := 1) (by decide) fX11_18 rfl dX11_image_1 ?_
  refine go_aload_n dX11_image_4 rfl 0 rfl ?_
  refine rc_gx hR.V (k := 0) (by decide) fX11_12 rfl dX11_image_5 ?_
  refine go_callV (d1 := d - 1) wVX11_292 kX5 (rc_at hR.V 32 rfl) rfl (by omega) (x_copy1 (by omega) hR.V hR.2.2.1 hN hI.2.1 hY) rfl (Nat.le_of_ble_eq_true rfl) dX11_image_8 (fun w σ1 hP9 => ?_)
  obtain ⟨rfl, c1, hc1, rfl⟩ := hP9
  have ho := hc1.2.2.2.2.2.2.2
  refine go_aload_n dX11_image_11 rfl 0 rfl ?_
  refine go_iconst (v := Int32.ofInt 1) dX11_image_12 rfl ?_
  refine rc_px2 hR.V (Or.inr rfl) fX11_21 dX11_image_13 ?_
  have hR2 : rc_R X9 cb vv vk (rm_u c1 0 (rj_up (c1 0) 2 1)) σ s ad := hR.b1 (fun q a b => (rm_u_ne _ _ (by omega)).trans (ho q (by omega)))
  refine go_aload_n dX11_image_16 rfl 0 rfl ?_
  refine rc_gx hR.V (k := 0) (by decide) fX11_12 rfl dX11_image_17 ?_
  refine rc_gs hR.V (k := 1) (v := rj_i (s 0)) (by decide) fX11_60 (rj_vi hR2.n0) dX11_image_20 ?_
  refine go_retI rfl rfl ?_ dX11_image_23
  exact ⟨rfl, _, hR2, (hc1.S hR.2.2.1 hI).a (fun q a b => rm_u_ne _ _ (by omega)), hN.a (fun q a b => (rm_u_ne _ _ (by omega)).trans (ho q (by omega))), (hc1.N hN).a (fun q a b => rm_u_ne _ _ (by omega)), (by rw [rm_u_ne _ _ (by decide), ho 11 (by omega)]; exact hY), (by rw [rm_u_ne _ _ (by decide)]; intro j a b; rw [hc1.2.2.2.2.1 j b]; exact hY j a b), (by rw [rm_u_eq, rj_up_eq]), fun q a b => (rm_u_ne _ _ (by omega)).trans (ho q (by omega)), rfl⟩
set_option maxRecDepth 20000 in
/-- x_undo -/
theorem x_undo {X9 : rj_X} {σ : rj_H} {d cb vv vk : Nat} {c : rm_R} {t : Int → Int} {ad2 : Nat → Int → Nat} {h9 : Int} (hd : 5 ≤ d) {s : Int → Int} {ad : Nat → Int → Nat} (hR : rc_R X9 cb vv vk c σ s ad) (hI : sp_I s) (h2 : c 0 2 = h9) (h01 : h9 = 0 ∨ h9 = 1) (hT0 : h9 = 1 → rc_S 32 cb vv vk c σ t ad2 ∧ rc_N c 32 t ∧ sp_I t ∧ rc_by (c 42)) : rj_Cl X9 d yX11_undo cX11_undo 1 (some .int) [.ref cb] (rc_p X9 cb vv vk c σ) (fun w9 τ => w9 = some (rj_i (if h9 = 0 then -3 else t 0)) ∧ ∃ c0 : rm_R, (h9 = 0 → c0 = c) ∧ (h9 = 1 → rc_cp 32 1 c c0) ∧ τ = rc_p X9 cb vv vk c0 σ) := by
  obtain ⟨⟨h0, h1, h2, h3, h4, h5, h6, h7⟩, hM, hP, hW, hL, hV⟩ := id hI
  obtain ⟨v1, v2, v3, v4⟩ := id hV
  refine go_call (by decide +kernel) (Nat.le_of_ble_eq_true rfl) ?_
  refine go_eq (pc' := 0) (lv' := [(0, .ref cb)]) (st' := []) rfl rfl rfl rfl ?_
  refine go_aload_n dX11_undo_0 rfl 0 rfl ?_
  refine rc_gx hR.V (k := 2) (by decide) fX11_21 rfl dX11_undo_1 ?_
  refine go_if_neI (tgt := 10) (by omega) dX11_undo_4 (by decide) (fun c_4 => ?_) (fun c_4 => ?_)
  · have hT := hT0 (by omega)
    refine go_aload_n dX11_undo_10 rfl 0 rfl ?_
    refine rc_gx hR.V (k := 0) (by decide) fX11_12 rfl dX11_undo_11 ?_
    refine go_aload_n dX11_undo_14 rfl 0 rfl ?_
    refine rc_gx hR.V (k := 1) (by decide) fX11_18 rfl dX11_undo_15 ?_
    refine go_callV (d1 := d - 1) wVX11_292 kX5 (rc_at hR.V 1 rfl) rfl (by omega) (x_copy32 (by omega) hR.V hT.1 hT.2.1 hT.2.2.1.2.1 hT.2.2.2) rfl (Nat.le_of_ble_eq_true rfl) dX11_undo_18 (fun w σ1 hP9 => ?_)
    obtain ⟨rfl, c1, hc1, rfl⟩ := hP9
    have ho := hc1.2.2.2.2.2.2.2
    refine go_aload_n dX11_undo_21 rfl 0 rfl ?_
    refine rc_gx hR.V (k := 0) (by decide) fX11_12 rfl dX11_undo_22 ?_
    refine rc_gs hR.V (k := 1) (by decide) fX11_60 rfl dX11_undo_25 ?_
    refine go_retI rfl rfl ?_ dX11_undo_28
    exact ⟨rj_vi (by rw [if_neg (by omega)]; exact hc1.1.1.trans hT.1.1.1), c1, fun q => by omega, fun _ => hc1, rfl⟩
  · refine go_bipush (v := Int32.ofInt (-3)) dX11_undo_7 (by decide) ?_
    refine go_retI rfl rfl ?_ dX11_undo_9
    exact ⟨rj_vi (by rw [if_pos (by omega)]), c, fun _ => rfl, fun q => by omega, rfl⟩
