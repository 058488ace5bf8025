/-! THE LAW: its entry -/
def rl_LX (X9 : rj_X) (b9 : Nat) : List va_E := [.inr (11, [.ref (b9 + 1), .ref (b9 + 32), rj_i 0, .ref (b9 + 63), .ref (b9 + 65), .ref (b9 + 66), .ref (b9 + 76), .ref (b9 + 83), .ref (b9 + 90), .ref (b9 + 91)]), .inr (5, [.ref (b9 + 2), rj_i 0, .ref (b9 + 3), rj_i 0, .ref (b9 + 10), rj_i 0, .ref (b9 + 11), rj_i 0, .ref (b9 + 12), rj_i 0, .ref (b9 + 18), rj_i 0, .ref (b9 + 25), rj_i 0, rj_i 0]), rj_rr X9 4 6 (fun _ => none), rj_rr X9 3 6 (fun j => some (b9 + 3 + 1 + j.toNat)), rj_ar X9 0 4 (fun _ => 0), rj_ar X9 0 4 (fun _ => 0), rj_ar X9 0 4 (fun _ => 0), rj_ar X9 0 4 (fun _ => 0), rj_ar X9 0 4 (fun _ => 0), rj_ar X9 0 4 (fun _ => 0), rj_rr X9 5 8 (fun _ => none), rj_ar X9 1 120 (fun _ => 0), .inr (9, [.ref (b9 + 13), rj_i 0, .ref (b9 + 14), .ref (b9 + 15), rj_i 0, .ref (b9 + 16), .ref (b9 + 17), rj_i 0, rj_i 9, .null, rj_i 0, rj_i 0, rj_i (-1)]), rj_ar X9 0 120 (fun _ => 0), rj_ar X9 0 10 (fun _ => 0), rj_ar X9 0 10 (fun _ => 0), rj_ar X9 0 5 (fun _ => 0), rj_ar X9 0 13 (fun _ => 0), rj_rr X9 3 6 (fun j => some (b9 + 18 + 1 + j.toNat)), rj_ar X9 0 8 (rj_fl ((8 : Nat) : Int) (-1) (fun _ => 0)), rj_ar X9 0 8 (rj_fl ((8 : Nat) : Int) (-1) (fun _ => 0)), rj_ar X9 0 8 (rj_fl ((8 : Nat) : Int) (-1) (fun _ => 0)), rj_ar X9 0 8 (rj_fl ((8 : Nat) : Int) (-1) (fun _ => 0)), rj_ar X9 0 8 (rj_fl ((8 : Nat) : Int) (-1) (fun _ => 0)), rj_ar X9 0 8 (rj_fl ((8 : Nat) : Int) (-1) (fun _ => 0)), rj_rr X9 3 6 (fun j => some (b9 + 25 + 1 + j.toNat)), rj_ar X9 0 6 (fun _ => 0), rj_ar X9 0 6 (fun _ => 0), rj_ar X9 0 6 (fun _ => 0), rj_ar X9 0 6 (fun _ => 0), rj_ar X9 0 6 (fun _ => 0), rj_ar X9 0 6 (fun _ => 0), .inr (5, [.ref (b9 + 33), rj_i 0, .ref (b9 + 34), rj_i 0, .ref (b9 + 41), rj_i 0, .ref (b9 + 42), rj_i 0, .ref (b9 + 43), rj_i 0, .ref (b9 + 49), rj_i 0, .ref (b9 + 56), rj_i 0, rj_i 0]), rj_rr X9 4 6 (fun _ => none), rj_rr X9 3 6 (fun j => some (b9 + 34 + 1 + j.toNat)), rj_ar X9 0 4 (fun _ => 0), rj_ar X9 0 4 (fun _ => 0), rj_ar X9 0 4 (fun _ => 0), rj_ar X9 0 4 (fun _ => 0), rj_ar X9 0 4 (fun _ => 0), rj_ar X9 0 4 (fun _ => 0), rj_rr X9 5 8 (fun _ => none), rj_ar X9 1 120 (fun _ => 0), .inr (9, [.ref (b9 + 44), rj_i 0, .ref (b9 + 45), .ref (b9 + 46), rj_i 0, .ref (b9 + 47), .ref (b9 + 48), rj_i 0, rj_i 9, .null, rj_i 0, rj_i 0, rj_i (-1)]), rj_ar X9 0 120 (fun _ => 0), rj_ar X9 0 10 (fun _ => 0), rj_ar X9 0 10 (fun _ => 0), rj_ar X9 0 5 (fun _ => 0), rj_ar X9 0 13 (fun _ => 0), rj_rr X9 3 6 (fun j => some (b9 + 49 + 1 + j.toNat)), rj_ar X9 0 8 (rj_fl ((8 : Nat) : Int) (-1) (fun _ => 0)), rj_ar X9 0 8 (rj_fl ((8 : Nat) : Int) (-1) (fun _ => 0)), rj_ar X9 0 8 (rj_fl ((8 : Nat) : Int) (-1) (fun _ => 0)), rj_ar X9 0 8 (rj_fl ((8 : Nat) : Int) (-1) (fun _ => 0)), rj_ar X9 0 8 (rj_fl ((8 : Nat) : Int) (-1) (fun _ => 0)), rj_ar X9 0 8 (rj_fl ((8 : Nat) : Int) (-1) (fun _ => 0)), rj_rr X9 3 6 (fun j => some (b9 + 56 + 1 + j.toNat)), rj_ar X9 0 6 (fun _ => 0), rj_ar X9 0 6 (fun _ => 0), rj_ar X9 0 6 (fun _ => 0), rj_ar X9 0 6 (fun _ => 0), rj_ar X9 0 6 (fun _ => 0), rj_ar X9 0 6 (fun _ => 0), .inr (7, [.ref (b9 + 64), rj_i 0]), rj_ar X9 0 20 (fun _ => 0), rj_ar X9 0 6 (fun _ => 0), rj_rr X9 3 9 (fun j => some (b9 + 66 + 1 + j.toNat)), rj_ar X9 0 7 (fun _ => 0), rj_ar X9 0 7 (fun _ => 0), rj_ar X9 0 7 (fun _ => 0), rj_ar X9 0 7 (fun _ => 0), rj_ar X9 0 7 (fun _ => 0), rj_ar X9 0 7 (fun _ => 0), rj_ar X9 0 7 (fun _ => 0), rj_ar X9 0 7 (fun _ => 0), rj_ar X9 0 7 (fun _ => 0), rj_rr X9 3 6 (fun j => some (b9 + 76 + 1 + j.toNat)), rj_ar X9 0 6 (fun _ => 0), rj_ar X9 0 6 (fun _ => 0), rj_ar X9 0 6 (fun _ => 0), rj_ar X9 0 6 (fun _ => 0), rj_ar X9 0 6 (fun _ => 0), rj_ar X9 0 6 (fun _ => 0), rj_rr X9 3 6 (fun j => some (b9 + 83 + 1 + j.toNat)), rj_ar X9 0 6 (fun _ => 0), rj_ar X9 0 6 (fun _ => 0), rj_ar X9 0 6 (fun _ => 0), rj_ar X9 0 6 (fun _ => 0), rj_ar X9 0 6 (fun _ => 0), rj_ar X9 0 6 (fun _ => 0), rj_ar X9 0 6 (fun _ => 0), rj_ar X9 0 6 (fun _ => 0)]
def rl_LM (X9 : rj_X) (b9 : Nat) : List va_E := [.inr (12, [rj_i 0, .ref (b9 + 1), .ref (b9 + 2), rj_i 0, rj_i 0, rj_i 0, rj_i 0, rj_i 0, rj_i 0, .ref (b9 + 3), .ref (b9 + 4), rj_i 0, .ref (b9 + 5), .ref (b9 + 6), .ref (b9 + 7), .ref (b9 + 8), .ref (b9 + 9), .ref (b9 + 10), rj_i 0, rj_i 0, rj_i 0, rj_i 0]), rj_ar X9 0 1029 (sp_in9 48), rj_ar X9 0 1029 (fun _ => 0), rj_ar X9 0 5 (fun _ => 0), rj_ar X9 2 64 (fun _ => 0), rj_ar X9 0 63 (fun _ => 0), rj_ar X9 0 8 (fun _ => 0), rj_ar X9 2 48 (fun _ => 0), rj_ar X9 0 8 (fun _ => 0), rj_ar X9 0 6 (fun _ => 0), rj_ar X9 0 20 (fun _ => 0)]
/-- the class's registers at its start -/
def rl_c0 (cb : Nat) : rm_R := fun q => if q = 1 then (fun j => if j = 8 then ((cb + 12 : Nat) : Int) else 0) else if q = 32 then (fun j => if j = 8 then ((cb + 43 : Nat) : Int) else 0) else if q = 2 ∨ q = 10 ∨ q = 33 ∨ q = 41 then (fun _ => -1) else if (19 ≤ q ∧ q ≤ 24) ∨ (50 ≤ q ∧ q ≤ 55) then rj_fl ((8 : Nat) : Int) (-1) (fun _ => 0) else fun _ => 0
def rl_r0 : rm_R := fun q => if q = 1 then sp_in9 48 else fun _ => 0
theorem rl_rr {X9 : rj_X} {t n : Nat} {f g : Int → Option Nat} (h : ∀ j : Int, f j = g j) : some (rj_rr X9 t n f) = some (rj_rr X9 t n g) := by rw [show f = g from funext h]
set_option maxRecDepth 100000 in
set_option maxHeartbeats 4000000 in
theorem rl_cells {X9 : rj_X} {cb : Nat} : ∀ n : Nat, n < 92 → rc_fx n = true → (rl_LX X9 cb)[n]? = some (rc_k X9 cb n (rl_c0 cb n))

  | 0, _, _ => rfl
  | 1, _, _ => rfl
  | 2, _, _ => rfl
  | 3, _, _ => rl_rr (t := 3) (n := 6) (f := fun j => some (cb + 3 + 1 + j.toNat)) (g := fun j => some (cb + 1 + (3 + j.toNat))) (fun j => congrArg some (by omega))
  | 4, _, _ => rfl
  | 5, _, _ => rfl
  | 6, _, _ => rfl
  | 7, _, _ => rfl
  | 8, _, _ => rfl
  | 9, _, _ => rfl
  | 10, _, _ => rfl
  | 11, _, _ => rfl
  | 12, _, h => absurd h (by decide)
  | 13, _, h => absurd h (by decide)
  | 14, _, h => absurd h (by decide)
  | 15, _, h => absurd h (by decide)
  | 16, _, h => absurd h (by decide)
  | 17, _, h => absurd h (by decide)
  | 18, _, _ => rl_rr (t := 3) (n := 6) (f := fun j => some (cb + 18 + 1 + j.toNat)) (g := fun j => some (cb + 1 + (18 + j.toNat))) (fun j => congrArg some (by omega))
  | 19, _, _ => rfl
  | 20, _, _ => rfl
  | 21, _, _ => rfl
  | 22, _, _ => rfl
  | 23, _, _ => rfl
  | 24, _, _ => rfl
  | 25, _, _ => rl_rr (t := 3) (n := 6) (f := fun j => some (cb + 25 + 1 + j.toNat)) (g := fun j => some (cb + 1 + (25 + j.toNat))) (fun j => congrArg some (by omega))
  | 26, _, _ => rfl
  | 27, _, _ => rfl
  | 28, _, _ => rfl
  | 29, _, _ => rfl
  | 30, _, _ => rfl
  | 31, _, _ => rfl
  | 32, _, _ => rfl
  | 33, _, _ => rfl
  | 34, _, _ => rl_rr (t := 3) (n := 6) (f := fun j => some (cb + 34 + 1 + j.toNat)) (g := fun j => some (cb + 32 + (3 + j.toNat))) (fun j => congrArg some (by omega))
  | 35, _, _ => rfl
  | 36, _, _ => rfl
  | 37, _, _ => rfl
  | 38, _, _ => rfl
  | 39, _, _ => rfl
  | 40, _, _ => rfl
  | 41, _, _ => rfl
  | 42, _, _ => rfl
  | 43, _, h => absurd h (by decide)
  | 44, _, h => absurd h (by decide)
  | 45, _, h => absurd h (by decide)
  | 46, _, h => absurd h (by decide)
  | 47, _, h => absurd h (by decide)
  | 48, _, h => absurd h (by decide)
  | 49, _, _ => rl_rr (t := 3) (n := 6) (f := fun j => some (cb + 49 + 1 + j.toNat)) (g := fun j => some (cb + 32 + (18 + j.toNat))) (fun j => congrArg some (by omega))
  | 50, _, _ => rfl
  | 51, _, _ => rfl
  | 52, _, _ => rfl
  | 53, _, _ => rfl
  | 54, _, _ => rfl
  | 55, _, _ => rfl
  | 56, _, _ => rl_rr (t := 3) (n := 6) (f := fun j => some (cb + 56 + 1 + j.toNat)) (g := fun j => some (cb + 32 + (25 + j.toNat))) (fun j => congrArg some (by omega))
  | 57, _, _ => rfl
  | 58, _, _ => rfl
  | 59, _, _ => rfl
  | 60, _, _ => rfl
  | 61, _, _ => rfl
  | 62, _, _ => rfl
  | 63, _, _ => rfl
  | 64, _, _ => rfl
  | 65, _, _ => rfl
  | 66, _, _ => rl_rr (t := 3) (n := 9) (f := fun j => some (cb + 66 + 1 + j.toNat)) (g := fun j => some (cb + (67 + j.toNat))) (fun j => congrArg some (by omega))
  | 67, _, _ => rfl
  | 68, _, _ => rfl
  | 69, _, _ => rfl
  | 70, _, _ => rfl
  | 71, _, _ => rfl
  | 72, _, _ => rfl
  | 73, _, _ => rfl
  | 74, _, _ => rfl
  | 75, _, _ => rfl
  | 76, _, _ => rl_rr (t := 3) (n := 6) (f := fun j => some (cb + 76 + 1 + j.toNat)) (g := fun j => some (cb + (77 + j.toNat))) (fun j => congrArg some (by omega))
  | 77, _, _ => rfl
  | 78, _, _ => rfl
  | 79, _, _ => rfl
  | 80, _, _ => rfl
  | 81, _, _ => rfl
  | 82, _, _ => rfl
  | 83, _, _ => rl_rr (t := 3) (n := 6) (f := fun j => some (cb + 83 + 1 + j.toNat)) (g := fun j => some (cb + (84 + j.toNat))) (fun j => congrArg some (by omega))
  | 84, _, _ => rfl
  | 85, _, _ => rfl
  | 86, _, _ => rfl
  | 87, _, _ => rfl
  | 88, _, _ => rfl
  | 89, _, _ => rfl
  | 90, _, _ => rfl
  | 91, _, _ => rfl
  | n + 92, h, _ => absurd h (by omega)
theorem rl_mcell {X9 : rj_X} {mb : Nat} : ∀ j : Nat, j < 11 → (rl_LM X9 mb)[j]? = rm_c X9 mb rl_r0 j
  | 0, _ => rfl
  | 1, _ => rfl
  | 2, _ => rfl
  | 3, _ => rfl
  | 4, _ => rfl
  | 5, _ => rfl
  | 6, _ => rfl
  | 7, _ => rfl
  | 8, _ => rfl
  | 9, _ => rfl
  | 10, _ => rfl
  | j + 11, h => absurd h (by omega)
theorem rl_p {X9 : rj_X} {cb : Nat} {ρ : rj_H} (e1 : ρ.2.2 (cb + 16) = some (rj_ar X9 0 5 (fun _ => 0))) (e2 : ρ.2.2 (cb + 17) = some (rj_ar X9 0 13 (fun _ => 0))) (e : ∀ n : Nat, n < 92 → rc_fx n = true → ρ.2.2 (cb + n) = some (rc_k X9 cb n (rl_c0 cb n))) : ρ = rc_p X9 cb (cb + 16) (cb + 17) (rl_c0 cb) ρ := by
  unfold rc_p
  obtain ⟨ρ1, ρ2, ρ3⟩ := ρ
  refine congrArg (Prod.mk ρ1) (congrArg (Prod.mk ρ2) (funext fun q => ?_))
  show ρ3 q = _
  by_cases h1 : q = cb + 16
  · rw [if_pos h1, h1]; exact e1
  · rw [if_neg h1]
    by_cases h2 : q = cb + 17
    · rw [if_pos h2, h2]; exact e2
    · rw [if_neg h2]
      by_cases h3 : cb ≤ q ∧ rc_fx (q - cb) = true
      · rw [if_pos h3]
        have n92 : q - cb < 92 := by
          have := h3.2
          simp only [rc_fx, Bool.and_eq_true, decide_eq_true_eq] at this
          exact this.1.1
        have := e (q - cb) n92 h3.2
        rw [show cb + (q - cb) = q by omega] at this
        exact this
      · rw [if_neg h3]
theorem rl_out {cb n : Nat} (h : rc_fo n = false) : rc_out cb (cb + n) := fun q => by
  have := q.2
  rw [Nat.add_sub_cancel_left, h] at this
  cases this
set_option maxRecDepth 100000 in
/-- both objects, just made -/
theorem rl_start {X9 : rj_X} {σ : rj_H} {m n : Nat} : rl_I X9 σ.1 (σ.2.1 + m + n) 0 (rj_lg (rj_lg σ (rl_LX X9 σ.1) m) (rl_LM X9 (σ.1 + 92)) n) := by
  obtain ⟨ρ, hρ⟩ : ∃ ρ : rj_H, ρ = rj_lg (rj_lg σ (rl_LX X9 σ.1) m) (rl_LM X9 (σ.1 + 92)) n := ⟨_, rfl⟩
  have hz : ρ.1 = σ.1 + 92 + 11 ∧ ρ.2.1 = σ.2.1 + m + n := by rw [hρ]; exact ⟨rfl, rfl⟩
  have ha : ∀ k : Nat, k < 92 → ρ.2.2 (σ.1 + k) = (rl_LX X9 σ.1)[k]? := fun k hk => by
    rw [hρ]
    refine (lg_lt (q := σ.1 + k) ?_).trans lg_at
    show σ.1 + k < σ.1 + 92
    omega
  have hb : ∀ j : Nat, ρ.2.2 (σ.1 + 92 + j) = (rl_LM X9 (σ.1 + 92))[j]? := fun j => by
    rw [hρ]
    exact lg_at (σ := rj_lg σ (rl_LX X9 σ.1) m)
  rw [← hρ]
  have hp := rl_p (X9 := X9) (cb := σ.1) (ρ := ρ) ((ha 16 (by decide)).trans rfl) ((ha 17 (by decide)).trans rfl) (fun k h1 h2 => (ha k h1).trans (rl_cells k h1 h2))
  have e : ∀ j : Int, j ≠ 7 → (j < 236 ∨ 284 ≤ j) → sp_in9 48 j = 0 := fun j a b => by unfold sp_in9; rw [if_neg a, if_neg (by omega)]
  have e7 : sp_in9 48 7 = -1 := if_pos rfl
  have t1 : ∀ w n : Int, sp_tells (sp_in9 48) w n = n := fun w n => by unfold sp_tells; rw [e7, if_pos rfl]
  have o3 : ∀ k : Nat, k < 16 → rc_fo k = false → rc_o3 σ.1 (σ.1 + 16) (σ.1 + 17) ρ (σ.1 + k) := fun k h1 h2 => ⟨rl_out h2, by omega, by omega, by omega⟩
  have hV : rc_V σ.1 (σ.1 + 16) (σ.1 + 17) := ⟨by omega, rl_out rfl, rl_out rfl⟩
  have z0 : sp_in9 48 0 = 0 := e 0 (by omega) (by omega)
  have z2 : sp_in9 48 2 = 0 := e 2 (by omega) (by omega)
  have hS : rc_S 1 σ.1 (σ.1 + 16) (σ.1 + 17) (rl_c0 σ.1) ρ (sp_in9 48) (fun _ _ => σ.1 + 12) := by
    refine ⟨⟨rfl, rfl, rfl, rfl, rfl, rfl, rfl, rfl, rfl⟩, fun m a b => by rw [z0] at b; omega, fun p a b => by rw [e 1 (by omega) (by omega)] at b; omega, fun w a b => by rw [z2] at b; omega, fun j a b => by rw [e 6 (by omega) (by omega)] at b; omega, fun m q m0 m1 q0 q1 => ?_, fun a q a0 a1 q0 q1 _ => ?_⟩
    · have h1 : sp_in9 48 (236 + 8 * m + q) = -1 := by unfold sp_in9; rw [if_neg (by omega), if_pos (by omega)]
      rw [h1]
      unfold rl_c0
      rw [if_neg (by omega), if_neg (by omega), if_neg (by omega), if_pos (by omega)]
      unfold rj_fl
      rw [if_pos (by omega)]
    · have h1 : sp_vn (sp_in9 48) a q = 0 := by unfold sp_vn; rw [e 5 (by omega) (by omega)]; rfl
      rw [h1]
      unfold rl_c0
      rw [if_neg (by omega), if_neg (by omega), if_neg (by omega), if_neg (by omega)]
  have hv : rc_vy X9 σ.1 (σ.1 + 16) (σ.1 + 17) (σ.1 + 16) (σ.1 + 17) ρ (sp_in9 48) (σ.1 + 12) := by
    refine ⟨σ.1 + 13, σ.1 + 14, σ.1 + 15, fun _ => 0, fun _ => 0, fun _ => 0, 0, 0, [.null, rj_i 0, rj_i 0, rj_i (-1)], rfl, ⟨o3 12 (by decide) rfl, ?_, o3 13 (by decide) rfl, (ha 13 (by decide)).trans rfl, o3 14 (by decide) rfl, (ha 14 (by decide)).trans rfl, o3 15 (by decide) rfl, (ha 15 (by decide)).trans rfl⟩, ?_⟩
    · rw [t1, t1]; exact (ha 12 (by decide)).trans rfl
    · rw [t1]
      exact ⟨rfl, rfl, by decide, by decide, fun i hi => absurd hi (Nat.not_lt_zero i), Or.inl rfl, fun i hi => absurd hi (Nat.not_lt_zero i), fun i hi => absurd hi (Nat.not_lt_zero i)⟩
  have hR : rc_R X9 σ.1 (σ.1 + 16) (σ.1 + 17) (rl_c0 σ.1) ρ (sp_in9 48) (fun _ _ => σ.1 + 12) := ⟨hV, ⟨by omega, by omega, by omega⟩, hS, hv⟩
  have hN : rc_N (rl_c0 σ.1) 1 (sp_in9 48) := ⟨fun m _ _ => (show (-1 : Int) < 0 by decide), fun m _ _ => (show (-1 : Int) < 0 by decide)⟩
  have hY : rc_by (rl_c0 σ.1 11) := fun j _ _ => (show -128 ≤ (0 : Int) ∧ (0 : Int) ≤ 127 by decide)
  refine ⟨rl_r0, ⟨σ.1 + 16, σ.1 + 17, rl_c0 σ.1, ρ, fun _ _ => σ.1 + 12, hp, fun j hj => (hb j).trans (rl_mcell j hj), hR, hN, hY, ⟨rfl, rfl⟩, rfl, fun q => absurd q (by decide)⟩, J_in, ⟨fun j _ => rfl, Or.inl rfl, fun q => absurd q (by decide), by decide, by decide⟩, by omega, by omega⟩
set_option maxRecDepth 20000 in
/-- THE LAW -/
theorem L_law {X9 : rj_X} {σ : rj_H} {d : Nat} (hd : 40 ≤ d) (hn : rl_n X9 ≤ 256) (ht : rj_top σ) : rj_Go X9 yL_law cL_law 4 (some .boolean) d (fun v τ => v = some (rj_i 1) ∧ τ.1 ≤ σ.1 + 600 ∧ τ.2.1 ≤ σ.2.1 + 20000) 0 [(0, .ref (rl_b X9))] [] σ := by
  refine go_newo (fs := [.null, .null, rj_i 0, .null, .null, .null, .null, .null, .null, .null]) kX11 (rj_inT 23 (by decide +kernel)) (rj_inT 24 (by decide +kernel)) (rj_inT 1 (by decide +kernel)) rj_z10 dL_law_0 ?_
  rw [lg_0 ht]
  refine go_dup dL_law_3 rfl ?_
  refine go_callI (Pc := fun _ τ => τ = rj_lg σ (rl_LX X9 σ.1) 1098) (d1 := d - 1) (av := []) (rest := [.ref σ.1]) wIL_9 rfl (by omega) (k_x (by omega)) rfl (Nat.le_of_ble_eq_true rfl) dL_law_4 (fun σ1 hP9 => ?_)
  obtain rfl := hP9
  refine go_astore_nS (lv' := [(0, .ref (rl_b X9)), (1, .ref σ.1)]) rfl (by decide) rfl dL_law_7 ?_
  refine go_newo (fs := [rj_i 0, .null, .null, rj_i 0, rj_i 0, rj_i 0, rj_i 0, rj_i 0, rj_i 0, .null, .null, rj_i 0, .null, .null, .null, .null, .null, .null, rj_i 0, rj_i 0, rj_i 0, rj_i 0]) kX12 (rj_inT 1025 (by decide +kernel)) (rj_inT 1026 (by decide +kernel)) (rj_inT 7 (by decide +kernel)) rj_z22 dL_law_8 ?_
  rw [lg_0 lg_top]
  refine go_dup dL_law_11 rfl ?_
  refine go_callI (Pc := fun _ τ => τ = rj_lg (rj_lg σ (rl_LX X9 σ.1) 1098) (rl_LM X9 (σ.1 + 92)) 2302) (d1 := d - 1) (av := []) (rest := [.ref (σ.1 + 92)]) wIL_12 rfl (by omega) (k_m (by omega)) rfl (Nat.le_of_ble_eq_true rfl) dL_law_12 (fun σ1 hP9 => ?_)
  obtain rfl := hP9
  refine go_astore_nS (lv' := [(0, .ref (rl_b X9)), (1, .ref σ.1), (2, .ref (σ.1 + 92))]) rfl (by decide) rfl dL_law_15 ?_
  refine go_iconst (v := Int32.ofInt 0) dL_law_16 rfl ?_
  refine go_istore_nS (lv' := rl_lv X9 σ.1 0) rfl (by decide) rfl dL_law_17 ?_
  exact L_loop (K := σ.2.1 + 1098 + 2302) hd hn (fun N τ h I => by
    obtain ⟨r, -, -, -, z1, z2⟩ := I
    exact ⟨rfl, by omega, by omega⟩) 64 0 _ (by omega) (by omega) rl_start
