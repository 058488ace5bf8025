/-! THE REFERENCE, 3: what a valley says -/
/-- registers other than by and truths stay -/
def rm_t (r r' : rm_R) : Prop := ∀ j : Nat, j ≠ 9 → j ≠ 10 → r' j = r j
theorem rm_t.rf {r : rm_R} : rm_t r r := fun _ _ _ => rfl
theorem rm_t.tr {r r1 r2 : rm_R} (h : rm_t r r1) (k : rm_t r1 r2) : rm_t r r2 := fun j a b => (k j a b).trans (h j a b)
/-- what a test asks of: mirror, patch, quarter, day, height -/
def sp_b (s : Int → Int) (D m p q : Int) : Int → Int := fun j => if j = 0 then m else if j = 1 then p else if j = 2 then q else if j = 3 then D else if m = 99 then 0 else s (148 + m)
def sp_tst (x v how : Int) : Bool := if how = 0 then decide (x < v) else if how = 1 then decide (x = v) else decide (v < x)
/-- a step of a valley's code: over (how many wait, the truths that wait, whether it is so) -/
def sp_step (b : Int → Int) (sort : Int) (t : Int) (T : Int → Bool) (a : Bool) (c : Int) : Int × (Int → Bool) × Bool :=
  if 0 ≤ c then (t + 1, rj_up T t (sp_tst (b (c % 8)) (c / 32) (c / 8 % 4)), a)
  else if c = -1 then (t, rj_up T (t - 1) (!T (t - 1)), a)
  else if -11 < c then (t + (-1), rj_up T (t + (-1) - 1) (if c = -2 then T (t + (-1) - 1) && T (t + (-1)) else T (t + (-1) - 1) || T (t + (-1))), a)
  else (0, T, a || (decide (c = sort) && T 0))
def sp_zs (b : Int → Int) (sort : Int) (f : Int → Int) (off : Int) : Nat → Int × (Int → Bool) × Bool
  | 0 => (0, fun _ => false, false)
  | n + 1 => sp_step b sort (sp_zs b sort f off n).1 (sp_zs b sort f off n).2.1 (sp_zs b sort f off n).2.2 (f (off + (n : Int)))
/-- how many wait -/
def sp_ht (f : Int → Int) (off : Int) : Nat → Int
  | 0 => 0
  | n + 1 => if 0 ≤ f (off + (n : Int)) then sp_ht f off n + 1 else if f (off + (n : Int)) = -1 then sp_ht f off n else if -11 < f (off + (n : Int)) then sp_ht f off n + (-1) else 0
theorem sp_zs_ht (b : Int → Int) (sort : Int) (f : Int → Int) (off : Int) (n : Nat) : (sp_zs b sort f off n).1 = sp_ht f off n := by
  induction n with
  | zero => rfl
  | succ n ih => unfold sp_zs sp_ht sp_step; rw [← ih]; split <;> (try split) <;> (try split) <;> rfl
/-- a step that may come when t wait -/
def sp_ok (t c : Int) : Prop := 0 ≤ t ∧ t ≤ 13 ∧ (0 ≤ c → t < 13 ∧ c % 8 < 5 ∧ c < 8192) ∧ (c = -1 → 1 ≤ t) ∧ (c < -1 → -11 < c → 2 ≤ t) ∧ (c ≤ -11 → t = 1 ∧ -13 ≤ c)
/-- the valley that holds -/
def sp_IV (s : Int → Int) : Prop := (0 ≤ sp_tells s 294 0 ∧ sp_tells s 294 0 ≤ 140) ∧ (0 ≤ sp_tells s 284 0 ∧ sp_tells s 284 0 ≤ 10) ∧ (0 ≤ sp_tells s 289 9 ∧ sp_tells s 289 9 ≤ 99) ∧ ∀ n : Nat, n < (sp_tells s 294 0).toNat → sp_ok (sp_ht s (299 + 140 * s 7) n) (s (299 + 140 * s 7 + (n : Int)))
def sp_so (s : Int → Int) (D sort m p q : Int) : Bool := (sp_zs (sp_b s D m p q) sort s (299 + 140 * s 7) (sp_tells s 294 0).toNat).2.2
theorem sp_b_rng {s : Int → Int} {D m p q : Int} (j : Int) (hm : -2147483648 ≤ m ∧ m < 2147483648) (hp : -2147483648 ≤ p ∧ p < 2147483648) (hq : -2147483648 ≤ q ∧ q < 2147483648) (hD : -2147483648 ≤ D ∧ D < 2147483648) (hH : m = 99 ∨ -2147483648 ≤ s (148 + m) ∧ s (148 + m) < 2147483648) : -2147483648 ≤ sp_b s D m p q j ∧ sp_b s D m p q j < 2147483648 := by
  unfold sp_b
  split
  · exact hm
  · split
    · exact hp
    · split
      · exact hq
      · split
        · exact hD
        · split
          · omega
          · omega
theorem sp_Tup {A : Int → Int} {T : Int → Bool} {t t2 i w : Int} {b : Bool} (hT : ∀ j : Int, 0 ≤ j → j < t → A j = rj_b (T j = true)) (hw : w = rj_b (b = true)) (h : ∀ j : Int, 0 ≤ j → j < t2 → j ≠ i → j < t) : ∀ j : Int, 0 ≤ j → j < t2 → rj_up A i w j = rj_b (rj_up T i b j = true) := by
  intro j h1 h2
  by_cases hj : j = i
  · subst hj; rw [rj_up_eq, rj_up_eq]; exact hw
  · rw [rj_up_ne _ _ hj, rj_up_ne _ _ hj]; exact hT j h1 (h j h1 h2 hj)
theorem rj_b1 {b : Bool} (h : b = true) : (1 : Int) = rj_b (b = true) := (rj_bt h).symm
theorem rj_b0 {b : Bool} (h : ¬ b = true) : (0 : Int) = rj_b (b = true) := (rj_bf h).symm
set_option maxRecDepth 20000 in
set_option maxHeartbeats 4000000 in
/-- m_isSo -/
theorem m_isSo {X9 : rj_X} {σ : rj_H} {d : Nat} {mb : Nat} {r : rm_R} {sort m p q D : Int} (hd : 2 ≤ d) (hsort : -2147483648 ≤ sort ∧ sort < 2147483648) (hp : -2147483648 ≤ p ∧ p < 2147483648) (hq : -2147483648 ≤ q ∧ q < 2147483648) {s : Int → Int} (hs : r 1 = s) (hm : m = 99 ∨ 0 ≤ m ∧ m < 6) (hD : r 11 0 = D) (h7 : -1 ≤ s 7 ∧ s 7 ≤ 4) (hV : sp_IV s) (hD2 : 0 ≤ D ∧ D ≤ 200) (hH : m = 99 ∨ -2147483648 ≤ s (148 + m) ∧ s (148 + m) < 2147483648) : rj_Cl X9 d yX12_isSo cX12_isSo 14 (some .boolean) [.ref mb, rj_i sort, rj_i m, rj_i p, rj_i q] (rm_p X9 mb r σ) (fun w9 τ => w9 = some (rj_i (rj_b (sp_so s D sort m p q = true))) ∧ ∃ r0, rm_t r r0 ∧ τ = rm_p X9 mb r0 σ) := by
  obtain ⟨v1, v2, v3, v4⟩ := id hV
  refine go_call (by decide +kernel) (Nat.le_of_ble_eq_true rfl) ?_
  refine go_eq (pc' := 0) (lv' := [(0, .ref mb), (1, rj_i sort), (2, rj_i m), (3, rj_i p), (4, rj_i q)]) (st' := []) rfl rfl rfl rfl ?_
  have loop : ∀ (n k : Nat) (r1 : rm_R) (t : Int) (T : Int → Bool) (a : Bool), k + n = (sp_tells s 294 0).toNat → rm_t r r1 → (∀ j : Int, 0 ≤ j → j < 5 → r1 9 j = (sp_b s D m p q) j) → (∀ j : Int, 0 ≤ j → j < t → r1 10 j = rj_b (T j = true)) → sp_zs (sp_b s D m p q) sort s (299 + 140 * s 7) k = (t, T, a) → rj_Go X9 yX12_isSo cX12_isSo 14 (some .boolean) d (fun w9 τ => w9 = some (rj_i (rj_b (sp_so s D sort m p q = true))) ∧ ∃ r0, rm_t r r0 ∧ τ = rm_p X9 mb r0 σ) 95 [(0, .ref mb), (1, rj_i sort), (2, rj_i m), (3, rj_i p), (4, rj_i q), (5, rj_i (sp_tells s 294 0)), (6, rj_i (299 + 140 * s 7)), (7, rj_i t), (8, rj_i (rj_b (a = true))), (9, rj_i (299 + 140 * s 7 + (k : Int)))] [] (rm_p X9 mb r1 σ) := by
    intro n
    induction n with
    | zero =>
      intro k r1 t T a hk hr hby hT hz
      have e1 : r1 1 = s := (hr 1 (by decide) (by decide)).trans hs
      refine go_iload dX12_isSo_95 9 rfl ?_
      refine go_iload dX12_isSo_97 6 rfl ?_
      refine go_iload dX12_isSo_99 5 rfl ?_
      refine go_addI dX12_isSo_101 ?_
      refine go_icmp_geI (tgt := 370) (by omega) (by omega) dX12_isSo_102 (by decide) (fun c_102 => ?_) (fun c_102 => ?_)
      · refine go_iload dX12_isSo_370 8 rfl ?_
        refine go_retI rfl (rj_nb _) ?_ dX12_isSo_372
        exact ⟨rj_vi (by unfold sp_so; rw [show (sp_tells s 294 0).toNat = k by omega, hz]), r1, hr, rfl⟩
      · exact absurd c_102 (by omega)
    | succ n ih =>
      intro k r1 t T a hk hr hby hT hz
      have e1 : r1 1 = s := (hr 1 (by decide) (by decide)).trans hs
      have hok := v4 k (by omega)
      rw [← sp_zs_ht (sp_b s D m p q) sort, hz] at hok
      obtain ⟨c, hc⟩ : ∃ c, c = s ((299 + 140 * s 7) + (k : Int)) := ⟨_, rfl⟩
      rw [← hc] at hok
      obtain ⟨o1, o2, o3, o4, o5, o6⟩ := hok
      have hxr := sp_b_rng (s := s) (D := D) (m := m) (p := p) (q := q) (c % 8) (by omega) hp hq (by omega) hH
      have hz2 : sp_zs (sp_b s D m p q) sort s (299 + 140 * s 7) (k + 1) = sp_step (sp_b s D m p q) sort t T a c := by rw [sp_zs, hz, ← hc]
      refine go_iload dX12_isSo_95 9 rfl ?_
      refine go_iload dX12_isSo_97 6 rfl ?_
      refine go_iload dX12_isSo_99 5 rfl ?_
      refine go_addI dX12_isSo_101 ?_
      refine go_icmp_geI (tgt := 370) (by omega) (by omega) dX12_isSo_102 (by decide) (fun c_102 => ?_) (fun c_102 => ?_)
      · exact absurd c_102 (by omega)
      · refine go_aload_n dX12_isSo_105 rfl 0 rfl ?_
        refine grm_g1 rfl dX12_isSo_106 ?_
        refine go_iload dX12_isSo_109 9 rfl ?_
        refine grm_l1 (by omega) (by omega) dX12_isSo_111 ?_
        rw [show r1 1 = s from e1]
        rw [show s (299 + 140 * s 7 + (k : Int)) = c from hc.symm]
        refine go_istoreS (lv' := [(0, .ref mb), (1, rj_i sort), (2, rj_i m), (3, rj_i p), (4, rj_i q), (5, rj_i (sp_tells s 294 0)), (6, rj_i (299 + 140 * s 7)), (7, rj_i t), (8, rj_i (rj_b (a = true))), (9, rj_i (299 + 140 * s 7 + (k : Int))), (10, rj_i c)]) (by decide) rfl dX12_isSo_112 ?_
        refine go_iload dX12_isSo_114 10 rfl ?_
        refine go_if_ltI (tgt := 213) (by omega) dX12_isSo_116 (by decide) (fun c_116 => ?_) (fun c_116 => ?_)
        · refine go_iload dX12_isSo_213 10 rfl ?_
          refine go_iconst (v := Int32.ofInt (-1)) dX12_isSo_215 rfl ?_
          refine go_icmp_neI (tgt := 248) (by omega) (by omega) dX12_isSo_216 (by decide) (fun c_216 => ?_) (fun c_216 => ?_)
          · refine go_iload dX12_isSo_248 10 rfl ?_
            refine go_bipush (v := Int32.ofInt (-11)) dX12_isSo_250 (by decide) ?_
            refine go_icmp_leI (tgt := 334) (by omega) (by omega) dX12_isSo_252 (by decide) (fun c_252 => ?_) (fun c_252 => ?_)
            · refine go_iconst (v := Int32.ofInt 0) dX12_isSo_334 rfl ?_
              refine go_istoreS (lv' := [(0, .ref mb), (1, rj_i sort), (2, rj_i m), (3, rj_i p), (4, rj_i q), (5, rj_i (sp_tells s 294 0)), (6, rj_i (299 + 140 * s 7)), (7, rj_i 0), (8, rj_i (rj_b (a = true))), (9, rj_i (299 + 140 * s 7 + (k : Int))), (10, rj_i c)]) (by decide) rfl dX12_isSo_335 ?_
              refine go_iload dX12_isSo_337 8 rfl ?_
              refine go_if_neB (tgt := 357) dX12_isSo_339 (by decide) (fun c_339 => ?_) (fun c_339 => ?_)
              · refine go_iconst (v := Int32.ofInt 1) dX12_isSo_357 rfl ?_
                refine go_goto (tgt := 362) dX12_isSo_358 (by decide) ?_
                refine go_istoreS (lv' := [(0, .ref mb), (1, rj_i sort), (2, rj_i m), (3, rj_i p), (4, rj_i q), (5, rj_i (sp_tells s 294 0)), (6, rj_i (299 + 140 * s 7)), (7, rj_i 0), (8, rj_i 1), (9, rj_i (299 + 140 * s 7 + (k : Int))), (10, rj_i c)]) (by decide) rfl dX12_isSo_362 ?_
                refine go_iincI (a := 299 + 140 * s 7 + (k : Int)) (n := 1) (k0 := 9) (lv' := [(0, .ref mb), (1, rj_i sort), (2, rj_i m), (3, rj_i p), (4, rj_i q), (5, rj_i (sp_tells s 294 0)), (6, rj_i (299 + 140 * s 7)), (7, rj_i 0), (8, rj_i 1), (9, rj_i (299 + 140 * s 7 + (k : Int) + 1)), (10, rj_i c)]) rfl (by decide) rfl dX12_isSo_364 ?_
                refine go_goto (tgt := 95) dX12_isSo_367 (by decide) ?_
                refine go_sub (lv' := [(0, .ref mb), (1, rj_i sort), (2, rj_i m), (3, rj_i p), (4, rj_i q), (5, rj_i (sp_tells s 294 0)), (6, rj_i (299 + 140 * s 7)), (7, rj_i 0), (8, rj_i 1), (9, rj_i (299 + 140 * s 7 + (k : Int) + 1))]) (by intro q hq; simp only [List.mem_cons, List.not_mem_nil, or_false] at hq ⊢; rcases hq with rfl | rfl | rfl | rfl | rfl | rfl | rfl | rfl | rfl | rfl <;> simp) ?_
                exact go_eq rfl (lv' := [(0, .ref mb), (1, rj_i sort), (2, rj_i m), (3, rj_i p), (4, rj_i q), (5, rj_i (sp_tells s 294 0)), (6, rj_i (299 + 140 * s 7)), (7, rj_i 0), (8, rj_i (rj_b ((a || (decide (c = sort) && T 0)) = true))), (9, rj_i (299 + 140 * s 7 + ((k + 1 : Nat) : Int)))]) (rj_lk (rj_lk (rj_lk (rj_lk (rj_lk (rj_lk (rj_lk (rj_lj (rfl) (rj_lj (by rw [rj_bb]; simp [c_339]) (rj_lj (by omega) rfl)))))))))) rfl rfl (ih (k + 1) r1 0 T _ (by omega) hr hby (fun j h1 h2 => absurd h2 (by omega)) (by rw [hz2, sp_step, if_neg (by omega), if_neg (by omega), if_neg (by omega)]))
              · refine go_iload dX12_isSo_342 10 rfl ?_
                refine go_iload_n dX12_isSo_344 rfl 1 rfl ?_
                refine go_icmp_neI (tgt := 361) (by omega) (by omega) dX12_isSo_345 (by decide) (fun c_345 => ?_) (fun c_345 => ?_)
                · refine go_iconst (v := Int32.ofInt 0) dX12_isSo_361 rfl ?_
                  refine go_istoreS (lv' := [(0, .ref mb), (1, rj_i sort), (2, rj_i m), (3, rj_i p), (4, rj_i q), (5, rj_i (sp_tells s 294 0)), (6, rj_i (299 + 140 * s 7)), (7, rj_i 0), (8, rj_i 0), (9, rj_i (299 + 140 * s 7 + (k : Int))), (10, rj_i c)]) (by decide) rfl dX12_isSo_362 ?_
                  refine go_iincI (a := 299 + 140 * s 7 + (k : Int)) (n := 1) (k0 := 9) (lv' := [(0, .ref mb), (1, rj_i sort), (2, rj_i m), (3, rj_i p), (4, rj_i q), (5, rj_i (sp_tells s 294 0)), (6, rj_i (299 + 140 * s 7)), (7, rj_i 0), (8, rj_i 0), (9, rj_i (299 + 140 * s 7 + (k : Int) + 1)), (10, rj_i c)]) rfl (by decide) rfl dX12_isSo_364 ?_
                  refine go_goto (tgt := 95) dX12_isSo_367 (by decide) ?_
                  refine go_sub (lv' := [(0, .ref mb), (1, rj_i sort), (2, rj_i m), (3, rj_i p), (4, rj_i q), (5, rj_i (sp_tells s 294 0)), (6, rj_i (299 + 140 * s 7)), (7, rj_i 0), (8, rj_i 0), (9, rj_i (299 + 140 * s 7 + (k : Int) + 1))]) (by intro q hq; simp only [List.mem_cons, List.not_mem_nil, or_false] at hq ⊢; rcases hq with rfl | rfl | rfl | rfl | rfl | rfl | rfl | rfl | rfl | rfl <;> simp) ?_
                  exact go_eq rfl (lv' := [(0, .ref mb), (1, rj_i sort), (2, rj_i m), (3, rj_i p), (4, rj_i q), (5, rj_i (sp_tells s 294 0)), (6, rj_i (299 + 140 * s 7)), (7, rj_i 0), (8, rj_i (rj_b ((a || (decide (c = sort) && T 0)) = true))), (9, rj_i (299 + 140 * s 7 + ((k + 1 : Nat) : Int)))]) (rj_lk (rj_lk (rj_lk (rj_lk (rj_lk (rj_lk (rj_lk (rj_lj (rfl) (rj_lj (by rw [rj_bb]; simp [c_345, c_339]) (rj_lj (by omega) rfl)))))))))) rfl rfl (ih (k + 1) r1 0 T _ (by omega) hr hby (fun j h1 h2 => absurd h2 (by omega)) (by rw [hz2, sp_step, if_neg (by omega), if_neg (by omega), if_neg (by omega)]))
                · refine go_aload_n dX12_isSo_348 rfl 0 rfl ?_
                  refine grm_g10 rfl dX12_isSo_349 ?_
                  refine go_iconst (v := Int32.ofInt 0) dX12_isSo_352 rfl ?_
                  refine grm_l10 (by omega) (by omega) dX12_isSo_353 ?_
                  rw [show r1 10 0 = rj_b (T 0 = true) from hT _ (by omega) (by omega)]
                  refine go_if_eqB (tgt := 361) dX12_isSo_354 (by decide) (fun c_354 => ?_) (fun c_354 => ?_)
                  · refine go_iconst (v := Int32.ofInt 0) dX12_isSo_361 rfl ?_
                    refine go_istoreS (lv' := [(0, .ref mb), (1, rj_i sort), (2, rj_i m), (3, rj_i p), (4, rj_i q), (5, rj_i (sp_tells s 294 0)), (6, rj_i (299 + 140 * s 7)), (7, rj_i 0), (8, rj_i 0), (9, rj_i (299 + 140 * s 7 + (k : Int))), (10, rj_i c)]) (by decide) rfl dX12_isSo_362 ?_
                    refine go_iincI (a := 299 + 140 * s 7 + (k : Int)) (n := 1) (k0 := 9) (lv' := [(0, .ref mb), (1, rj_i sort), (2, rj_i m), (3, rj_i p), (4, rj_i q), (5, rj_i (sp_tells s 294 0)), (6, rj_i (299 + 140 * s 7)), (7, rj_i 0), (8, rj_i 0), (9, rj_i (299 + 140 * s 7 + (k : Int) + 1)), (10, rj_i c)]) rfl (by decide) rfl dX12_isSo_364 ?_
                    refine go_goto (tgt := 95) dX12_isSo_367 (by decide) ?_
                    refine go_sub (lv' := [(0, .ref mb), (1, rj_i sort), (2, rj_i m), (3, rj_i p), (4, rj_i q), (5, rj_i (sp_tells s 294 0)), (6, rj_i (299 + 140 * s 7)), (7, rj_i 0), (8, rj_i 0), (9, rj_i (299 + 140 * s 7 + (k : Int) + 1))]) (by intro q hq; simp only [List.mem_cons, List.not_mem_nil, or_false] at hq ⊢; rcases hq with rfl | rfl | rfl | rfl | rfl | rfl | rfl | rfl | rfl | rfl <;> simp) ?_
                    exact go_eq rfl (lv' := [(0, .ref mb), (1, rj_i sort), (2, rj_i m), (3, rj_i p), (4, rj_i q), (5, rj_i (sp_tells s 294 0)), (6, rj_i (299 + 140 * s 7)), (7, rj_i 0), (8, rj_i (rj_b ((a || (decide (c = sort) && T 0)) = true))), (9, rj_i (299 + 140 * s 7 + ((k + 1 : Nat) : Int)))]) (rj_lk (rj_lk (rj_lk (rj_lk (rj_lk (rj_lk (rj_lk (rj_lj (rfl) (rj_lj (by rw [rj_bb]; simp [c_354, c_345, c_339]) (rj_lj (by omega) rfl)))))))))) rfl rfl (ih (k + 1) r1 0 T _ (by omega) hr hby (fun j h1 h2 => absurd h2 (by omega)) (by rw [hz2, sp_step, if_neg (by omega), if_neg (by omega), if_neg (by omega)]))
                  · refine go_iconst (v := Int32.ofInt 1) dX12_isSo_357 rfl ?_
                    refine go_goto (tgt := 362) dX12_isSo_358 (by decide) ?_
                    refine go_istoreS (lv' := [(0, .ref mb), (1, rj_i sort), (2, rj_i m), (3, rj_i p), (4, rj_i q), (5, rj_i (sp_tells s 294 0)), (6, rj_i (299 + 140 * s 7)), (7, rj_i 0), (8, rj_i 1), (9, rj_i (299 + 140 * s 7 + (k : Int))), (10, rj_i c)]) (by decide) rfl dX12_isSo_362 ?_
                    refine go_iincI (a := 299 + 140 * s 7 + (k : Int)) (n := 1) (k0 := 9) (lv' := [(0, .ref mb), (1, rj_i sort), (2, rj_i m), (3, rj_i p), (4, rj_i q), (5, rj_i (sp_tells s 294 0)), (6, rj_i (299 + 140 * s 7)), (7, rj_i 0), (8, rj_i 1), (9, rj_i (299 + 140 * s 7 + (k : Int) + 1)), (10, rj_i c)]) rfl (by decide) rfl dX12_isSo_364 ?_
                    refine go_goto (tgt := 95) dX12_isSo_367 (by decide) ?_
                    refine go_sub (lv' := [(0, .ref mb), (1, rj_i sort), (2, rj_i m), (3, rj_i p), (4, rj_i q), (5, rj_i (sp_tells s 294 0)), (6, rj_i (299 + 140 * s 7)), (7, rj_i 0), (8, rj_i 1), (9, rj_i (299 + 140 * s 7 + (k : Int) + 1))]) (by intro q hq; simp only [List.mem_cons, List.not_mem_nil, or_false] at hq ⊢; rcases hq with rfl | rfl | rfl | rfl | rfl | rfl | rfl | rfl | rfl | rfl <;> simp) ?_
                    exact go_eq rfl (lv' := [(0, .ref mb), (1, rj_i sort), (2, rj_i m), (3, rj_i p), (4, rj_i q), (5, rj_i (sp_tells s 294 0)), (6, rj_i (299 + 140 * s 7)), (7, rj_i 0), (8, rj_i (rj_b ((a || (decide (c = sort) && T 0)) = true))), (9, rj_i (299 + 140 * s 7 + ((k + 1 : Nat) : Int)))]) (rj_lk (rj_lk (rj_lk (rj_lk (rj_lk (rj_lk (rj_lk (rj_lj (rfl) (rj_lj (by rw [rj_bb]; simp [c_354, c_345, c_339]) (rj_lj (by omega) rfl)))))))))) rfl rfl (ih (k + 1) r1 0 T _ (by omega) hr hby (fun j h1 h2 => absurd h2 (by omega)) (by rw [hz2, sp_step, if_neg (by omega), if_neg (by omega), if_neg (by omega)]))
            · refine go_iincI (a := t) (n := -1) (k0 := 7) (lv' := [(0, .ref mb), (1, rj_i sort), (2, rj_i m), (3, rj_i p), (4, rj_i q), (5, rj_i (sp_tells s 294 0)), (6, rj_i (299 + 140 * s 7)), (7, rj_i (t + (-1))), (8, rj_i (rj_b (a = true))), (9, rj_i (299 + 140 * s 7 + (k : Int))), (10, rj_i c)]) rfl (by decide) rfl dX12_isSo_255 ?_
              refine go_aload_n dX12_isSo_258 rfl 0 rfl ?_
              refine grm_g10 rfl dX12_isSo_259 ?_
              refine go_iload dX12_isSo_262 7 rfl ?_
              refine go_iconst (v := Int32.ofInt 1) dX12_isSo_264 rfl ?_
              refine go_subI dX12_isSo_265 ?_
              refine go_iload dX12_isSo_266 10 rfl ?_
              refine go_bipush (v := Int32.ofInt (-2)) dX12_isSo_268 (by decide) ?_
              refine go_icmp_neI (tgt := 303) (by omega) (by omega) dX12_isSo_270 (by decide) (fun c_270 => ?_) (fun c_270 => ?_)
              · refine go_aload_n dX12_isSo_303 rfl 0 rfl ?_
                refine grm_g10 rfl dX12_isSo_304 ?_
                refine go_iload dX12_isSo_307 7 rfl ?_
                refine go_iconst (v := Int32.ofInt 1) dX12_isSo_309 rfl ?_
                refine go_subI dX12_isSo_310 ?_
                refine grm_l10 (by omega) (by omega) dX12_isSo_311 ?_
                rw [show r1 10 ((t + (-1)) - 1) = rj_b (T ((t + (-1)) - 1) = true) from hT _ (by omega) (by omega)]
                refine go_if_neB (tgt := 325) dX12_isSo_312 (by decide) (fun c_312 => ?_) (fun c_312 => ?_)
                · refine go_iconst (v := Int32.ofInt 1) dX12_isSo_325 rfl ?_
                  refine go_goto (tgt := 330) dX12_isSo_326 (by decide) ?_
                  refine grm_s10 (by omega) (by omega) (by omega) dX12_isSo_330 ?_
                  refine go_goto (tgt := 364) dX12_isSo_331 (by decide) ?_
                  refine go_iincI (a := 299 + 140 * s 7 + (k : Int)) (n := 1) (k0 := 9) (lv' := [(0, .ref mb), (1, rj_i sort), (2, rj_i m), (3, rj_i p), (4, rj_i q), (5, rj_i (sp_tells s 294 0)), (6, rj_i (299 + 140 * s 7)), (7, rj_i (t + (-1))), (8, rj_i (rj_b (a = true))), (9, rj_i (299 + 140 * s 7 + (k : Int) + 1)), (10, rj_i c)]) rfl (by decide) rfl dX12_isSo_364 ?_
                  refine go_goto (tgt := 95) dX12_isSo_367 (by decide) ?_
                  refine go_sub (lv' := [(0, .ref mb), (1, rj_i sort), (2, rj_i m), (3, rj_i p), (4, rj_i q), (5, rj_i (sp_tells s 294 0)), (6, rj_i (299 + 140 * s 7)), (7, rj_i (t + (-1))), (8, rj_i (rj_b (a = true))), (9, rj_i (299 + 140 * s 7 + (k : Int) + 1))]) (by intro q hq; simp only [List.mem_cons, List.not_mem_nil, or_false] at hq ⊢; rcases hq with rfl | rfl | rfl | rfl | rfl | rfl | rfl | rfl | rfl | rfl <;> simp) ?_
                  exact go_eq rfl (lv' := [(0, .ref mb), (1, rj_i sort), (2, rj_i m), (3, rj_i p), (4, rj_i q), (5, rj_i (sp_tells s 294 0)), (6, rj_i (299 + 140 * s 7)), (7, rj_i (t + (-1))), (8, rj_i (rj_b (a = true))), (9, rj_i (299 + 140 * s 7 + ((k + 1 : Nat) : Int)))]) (rj_lk (rj_lk (rj_lk (rj_lk (rj_lk (rj_lk (rj_lk (rj_lj (rfl) (rj_lk (rj_lj (by omega) rfl)))))))))) rfl rfl (ih (k + 1) _ (t + (-1)) (rj_up T ((t + (-1)) - 1) (if c = -2 then T (t + (-1) - 1) && T (t + (-1)) else T (t + (-1) - 1) || T (t + (-1)))) a (by omega) (fun j h9 h10 => (rm_u_ne r1 _ h10).trans (hr j h9 h10)) (fun j h1 h2 => hby j h1 h2) (sp_Tup hT (rj_b1 (by simp [c_312, c_270])) (by omega)) (by rw [hz2, sp_step, if_neg (by omega), if_neg (by omega), if_pos (by omega)]))
                · refine go_aload_n dX12_isSo_315 rfl 0 rfl ?_
                  refine grm_g10 rfl dX12_isSo_316 ?_
                  refine go_iload dX12_isSo_319 7 rfl ?_
                  refine grm_l10 (by omega) (by omega) dX12_isSo_321 ?_
                  rw [show r1 10 (t + (-1)) = rj_b (T (t + (-1)) = true) from hT _ (by omega) (by omega)]
                  refine go_if_eqB (tgt := 329) dX12_isSo_322 (by decide) (fun c_322 => ?_) (fun c_322 => ?_)
                  · refine go_iconst (v := Int32.ofInt 0) dX12_isSo_329 rfl ?_
                    refine grm_s10 (by omega) (by omega) (by omega) dX12_isSo_330 ?_
                    refine go_goto (tgt := 364) dX12_isSo_331 (by decide) ?_
                    refine go_iincI (a := 299 + 140 * s 7 + (k : Int)) (n := 1) (k0 := 9) (lv' := [(0, .ref mb), (1, rj_i sort), (2, rj_i m), (3, rj_i p), (4, rj_i q), (5, rj_i (sp_tells s 294 0)), (6, rj_i (299 + 140 * s 7)), (7, rj_i (t + (-1))), (8, rj_i (rj_b (a = true))), (9, rj_i (299 + 140 * s 7 + (k : Int) + 1)), (10, rj_i c)]) rfl (by decide) rfl dX12_isSo_364 ?_
                    refine go_goto (tgt := 95) dX12_isSo_367 (by decide) ?_
                    refine go_sub (lv' := [(0, .ref mb), (1, rj_i sort), (2, rj_i m), (3, rj_i p), (4, rj_i q), (5, rj_i (sp_tells s 294 0)), (6, rj_i (299 + 140 * s 7)), (7, rj_i (t + (-1))), (8, rj_i (rj_b (a = true))), (9, rj_i (299 + 140 * s 7 + (k : Int) + 1))]) (by intro q hq; simp only [List.mem_cons, List.not_mem_nil, or_false] at hq ⊢; rcases hq with rfl | rfl | rfl | rfl | rfl | rfl | rfl | rfl | rfl | rfl <;> simp) ?_
                    exact go_eq rfl (lv' := [(0, .ref mb), (1, rj_i sort), (2, rj_i m), (3, rj_i p), (4, rj_i q), (5, rj_i (sp_tells s 294 0)), (6, rj_i (299 + 140 * s 7)), (7, rj_i (t + (-1))), (8, rj_i (rj_b (a = true))), (9, rj_i (299 + 140 * s 7 + ((k + 1 : Nat) : Int)))]) (rj_lk (rj_lk (rj_lk (rj_lk (rj_lk (rj_lk (rj_lk (rj_lj (rfl) (rj_lk (rj_lj (by omega) rfl)))))))))) rfl rfl (ih (k + 1) _ (t + (-1)) (rj_up T ((t + (-1)) - 1) (if c = -2 then T (t + (-1) - 1) && T (t + (-1)) else T (t + (-1) - 1) || T (t + (-1)))) a (by omega) (fun j h9 h10 => (rm_u_ne r1 _ h10).trans (hr j h9 h10)) (fun j h1 h2 => hby j h1 h2) (sp_Tup hT (rj_b0 (by simp [c_322, c_312, c_270])) (by omega)) (by rw [hz2, sp_step, if_neg (by omega), if_neg (by omega), if_pos (by omega)]))
                  · refine go_iconst (v := Int32.ofInt 1) dX12_isSo_325 rfl ?_
                    refine go_goto (tgt := 330) dX12_isSo_326 (by decide) ?_
                    refine grm_s10 (by omega) (by omega) (by omega) dX12_isSo_330 ?_
                    refine go_goto (tgt := 364) dX12_isSo_331 (by decide) ?_
                    refine go_iincI (a := 299 + 140 * s 7 + (k : Int)) (n := 1) (k0 := 9) (lv' := [(0, .ref mb), (1, rj_i sort), (2, rj_i m), (3, rj_i p), (4, rj_i q), (5, rj_i (sp_tells s 294 0)), (6, rj_i (299 + 140 * s 7)), (7, rj_i (t + (-1))), (8, rj_i (rj_b (a = true))), (9, rj_i (299 + 140 * s 7 + (k : Int) + 1)), (10, rj_i c)]) rfl (by decide) rfl dX12_isSo_364 ?_
                    refine go_goto (tgt := 95) dX12_isSo_367 (by decide) ?_
                    refine go_sub (lv' := [(0, .ref mb), (1, rj_i sort), (2, rj_i m), (3, rj_i p), (4, rj_i q), (5, rj_i (sp_tells s 294 0)), (6, rj_i (299 + 140 * s 7)), (7, rj_i (t + (-1))), (8, rj_i (rj_b (a = true))), (9, rj_i (299 + 140 * s 7 + (k : Int) + 1))]) (by intro q hq; simp only [List.mem_cons, List.not_mem_nil, or_false] at hq ⊢; rcases hq with rfl | rfl | rfl | rfl | rfl | rfl | rfl | rfl | rfl | rfl <;> simp) ?_
                    exact go_eq rfl (lv' := [(0, .ref mb), (1, rj_i sort), (2, rj_i m), (3, rj_i p), (4, rj_i q), (5, rj_i (sp_tells s 294 0)), (6, rj_i (299 + 140 * s 7)), (7, rj_i (t + (-1))), (8, rj_i (rj_b (a = true))), (9, rj_i (299 + 140 * s 7 + ((k + 1 : Nat) : Int)))]) (rj_lk (rj_lk (rj_lk (rj_lk (rj_lk (rj_lk (rj_lk (rj_lj (rfl) (rj_lk (rj_lj (by omega) rfl)))))))))) rfl rfl (ih (k + 1) _ (t + (-1)) (rj_up T ((t + (-1)) - 1) (if c = -2 then T (t + (-1) - 1) && T (t + (-1)) else T (t + (-1) - 1) || T (t + (-1)))) a (by omega) (fun j h9 h10 => (rm_u_ne r1 _ h10).trans (hr j h9 h10)) (fun j h1 h2 => hby j h1 h2) (sp_Tup hT (rj_b1 (by simp [c_322, c_312, c_270])) (by omega)) (by rw [hz2, sp_step, if_neg (by omega), if_neg (by omega), if_pos (by omega)]))
              · refine go_aload_n dX12_isSo_273 rfl 0 rfl ?_
                refine grm_g10 rfl dX12_isSo_274 ?_
                refine go_iload dX12_isSo_277 7 rfl ?_
                refine go_iconst (v := Int32.ofInt 1) dX12_isSo_279 rfl ?_
                refine go_subI dX12_isSo_280 ?_
                refine grm_l10 (by omega) (by omega) dX12_isSo_281 ?_
                rw [show r1 10 ((t + (-1)) - 1) = rj_b (T ((t + (-1)) - 1) = true) from hT _ (by omega) (by omega)]
                refine go_if_eqB (tgt := 299) dX12_isSo_282 (by decide) (fun c_282 => ?_) (fun c_282 => ?_)
                · refine go_iconst (v := Int32.ofInt 0) dX12_isSo_299 rfl ?_
                  refine go_goto (tgt := 330) dX12_isSo_300 (by decide) ?_
                  refine grm_s10 (by omega) (by omega) (by omega) dX12_isSo_330 ?_
                  refine go_goto (tgt := 364) dX12_isSo_331 (by decide) ?_
                  refine go_iincI (a := 299 + 140 * s 7 + (k : Int)) (n := 1) (k0 := 9) (lv' := [(0, .ref mb), (1, rj_i sort), (2, rj_i m), (3, rj_i p), (4, rj_i q), (5, rj_i (sp_tells s 294 0)), (6, rj_i (299 + 140 * s 7)), (7, rj_i (t + (-1))), (8, rj_i (rj_b (a = true))), (9, rj_i (299 + 140 * s 7 + (k : Int) + 1)), (10, rj_i c)]) rfl (by decide) rfl dX12_isSo_364 ?_
                  refine go_goto (tgt := 95) dX12_isSo_367 (by decide) ?_
                  refine go_sub (lv' := [(0, .ref mb), (1, rj_i sort), (2, rj_i m), (3, rj_i p), (4, rj_i q), (5, rj_i (sp_tells s 294 0)), (6, rj_i (299 + 140 * s 7)), (7, rj_i (t + (-1))), (8, rj_i (rj_b (a = true))), (9, rj_i (299 + 140 * s 7 + (k : Int) + 1))]) (by intro q hq; simp only [List.mem_cons, List.not_mem_nil, or_false] at hq ⊢; rcases hq with rfl | rfl | rfl | rfl | rfl | rfl | rfl | rfl | rfl | rfl <;> simp) ?_
                  exact go_eq rfl (lv' := [(0, .ref mb), (1, rj_i sort), (2, rj_i m), (3, rj_i p), (4, rj_i q), (5, rj_i (sp_tells s 294 0)), (6, rj_i (299 + 140 * s 7)), (7, rj_i (t + (-1))), (8, rj_i (rj_b (a = true))), (9, rj_i (299 + 140 * s 7 + ((k + 1 : Nat) : Int)))]) (rj_lk (rj_lk (rj_lk (rj_lk (rj_lk (rj_lk (rj_lk (rj_lj (rfl) (rj_lk (rj_lj (by omega) rfl)))))))))) rfl rfl (ih (k + 1) _ (t + (-1)) (rj_up T ((t + (-1)) - 1) (if c = -2 then T (t + (-1) - 1) && T (t + (-1)) else T (t + (-1) - 1) || T (t + (-1)))) a (by omega) (fun j h9 h10 => (rm_u_ne r1 _ h10).trans (hr j h9 h10)) (fun j h1 h2 => hby j h1 h2) (sp_Tup hT (rj_b0 (by simp [c_282, c_270])) (by omega)) (by rw [hz2, sp_step, if_neg (by omega), if_neg (by omega), if_pos (by omega)]))
                · refine go_aload_n dX12_isSo_285 rfl 0 rfl ?_
                  refine grm_g10 rfl dX12_isSo_286 ?_
                  refine go_iload dX12_isSo_289 7 rfl ?_
                  refine grm_l10 (by omega) (by omega) dX12_isSo_291 ?_
                  rw [show r1 10 (t + (-1)) = rj_b (T (t + (-1)) = true) from hT _ (by omega) (by omega)]
                  refine go_if_eqB (tgt := 299) dX12_isSo_292 (by decide) (fun c_292 => ?_) (fun c_292 => ?_)
                  · refine go_iconst (v := Int32.ofInt 0) dX12_isSo_299 rfl ?_
                    refine go_goto (tgt := 330) dX12_isSo_300 (by decide) ?_
                    refine grm_s10 (by omega) (by omega) (by omega) dX12_isSo_330 ?_
                    refine go_goto (tgt := 364) dX12_isSo_331 (by decide) ?_
                    refine go_iincI (a := 299 + 140 * s 7 + (k : Int)) (n := 1) (k0 := 9) (lv' := [(0, .ref mb), (1, rj_i sort), (2, rj_i m), (3, rj_i p), (4, rj_i q), (5, rj_i (sp_tells s 294 0)), (6, rj_i (299 + 140 * s 7)), (7, rj_i (t + (-1))), (8, rj_i (rj_b (a = true))), (9, rj_i (299 + 140 * s 7 + (k : Int) + 1)), (10, rj_i c)]) rfl (by decide) rfl dX12_isSo_364 ?_
                    refine go_goto (tgt := 95) dX12_isSo_367 (by decide) ?_
                    refine go_sub (lv' := [(0, .ref mb), (1, rj_i sort), (2, rj_i m), (3, rj_i p), (4, rj_i q), (5, rj_i (sp_tells s 294 0)), (6, rj_i (299 + 140 * s 7)), (7, rj_i (t + (-1))), (8, rj_i (rj_b (a = true))), (9, rj_i (299 + 140 * s 7 + (k : Int) + 1))]) (by intro q hq; simp only [List.mem_cons, List.not_mem_nil, or_false] at hq ⊢; rcases hq with rfl | rfl | rfl | rfl | rfl | rfl | rfl | rfl | rfl | rfl <;> simp) ?_
                    exact go_eq rfl (lv' := [(0, .ref mb), (1, rj_i sort), (2, rj_i m), (3, rj_i p), (4, rj_i q), (5, rj_i (sp_tells s 294 0)), (6, rj_i (299 + 140 * s 7)), (7, rj_i (t + (-1))), (8, rj_i (rj_b (a = true))), (9, rj_i (299 + 140 * s 7 + ((k + 1 : Nat) : Int)))]) (rj_lk (rj_lk (rj_lk (rj_lk (rj_lk (rj_lk (rj_lk (rj_lj (rfl) (rj_lk (rj_lj (by omega) rfl)))))))))) rfl rfl (ih (k + 1) _ (t + (-1)) (rj_up T ((t + (-1)) - 1) (if c = -2 then T (t + (-1) - 1) && T (t + (-1)) else T (t + (-1) - 1) || T (t + (-1)))) a (by omega) (fun j h9 h10 => (rm_u_ne r1 _ h10).trans (hr j h9 h10)) (fun j h1 h2 => hby j h1 h2) (sp_Tup hT (rj_b0 (by simp [c_292, c_282, c_270])) (by omega)) (by rw [hz2, sp_step, if_neg (by omega), if_neg (by omega), if_pos (by omega)]))
                  · refine go_iconst (v := Int32.ofInt 1) dX12_isSo_295 rfl ?_
                    refine go_goto (tgt := 330) dX12_isSo_296 (by decide) ?_
                    refine grm_s10 (by omega) (by omega) (by omega) dX12_isSo_330 ?_
                    refine go_goto (tgt := 364) dX12_isSo_331 (by decide) ?_
                    refine go_iincI (a := 299 + 140 * s 7 + (k : Int)) (n := 1) (k0 := 9) (lv' := [(0, .ref mb), (1, rj_i sort), (2, rj_i m), (3, rj_i p), (4, rj_i q), (5, rj_i (sp_tells s 294 0)), (6, rj_i (299 + 140 * s 7)), (7, rj_i (t + (-1))), (8, rj_i (rj_b (a = true))), (9, rj_i (299 + 140 * s 7 + (k : Int) + 1)), (10, rj_i c)]) rfl (by decide) rfl dX12_isSo_364 ?_
                    refine go_goto (tgt := 95) dX12_isSo_367 (by decide) ?_
                    refine go_sub (lv' := [(0, .ref mb), (1, rj_i sort), (2, rj_i m), (3, rj_i p), (4, rj_i q), (5, rj_i (sp_tells s 294 0)), (6, rj_i (299 + 140 * s 7)), (7, rj_i (t + (-1))), (8, rj_i (rj_b (a = true))), (9, rj_i (299 + 140 * s 7 + (k : Int) + 1))]) (by intro q hq; simp only [List.mem_cons, List.not_mem_nil, or_false] at hq ⊢; rcases hq with rfl | rfl | rfl | rfl | rfl | rfl | rfl | rfl | rfl | rfl <;> simp) ?_
                    exact go_eq rfl (lv' := [(0, .ref mb), (1, rj_i sort), (2, rj_i m), (3, rj_i p), (4, rj_i q), (5, rj_i (sp_tells s 294 0)), (6, rj_i (299 + 140 * s 7)), (7, rj_i (t + (-1))), (8, rj_i (rj_b (a = true))), (9, rj_i (299 + 140 * s 7 + ((k + 1 : Nat) : Int)))]) (rj_lk (rj_lk (rj_lk (rj_lk (rj_lk (rj_lk (rj_lk (rj_lj (rfl) (rj_lk (rj_lj (by omega) rfl)))))))))) rfl rfl (ih (k + 1) _ (t + (-1)) (rj_up T ((t + (-1)) - 1) (if c = -2 then T (t + (-1) - 1) && T (t + (-1)) else T (t + (-1) - 1) || T (t + (-1)))) a (by omega) (fun j h9 h10 => (rm_u_ne r1 _ h10).trans (hr j h9 h10)) (fun j h1 h2 => hby j h1 h2) (sp_Tup hT (rj_b1 (by simp [c_292, c_282, c_270])) (by omega)) (by rw [hz2, sp_step, if_neg (by omega), if_neg (by omega), if_pos (by omega)]))
          · refine go_aload_n dX12_isSo_219 rfl 0 rfl ?_
            refine grm_g10 rfl dX12_isSo_220 ?_
            refine go_iload dX12_isSo_223 7 rfl ?_
            refine go_iconst (v := Int32.ofInt 1) dX12_isSo_225 rfl ?_
            refine go_subI dX12_isSo_226 ?_
            refine go_aload_n dX12_isSo_227 rfl 0 rfl ?_
            refine grm_g10 rfl dX12_isSo_228 ?_
            refine go_iload dX12_isSo_231 7 rfl ?_
            refine go_iconst (v := Int32.ofInt 1) dX12_isSo_233 rfl ?_
            refine go_subI dX12_isSo_234 ?_
            refine grm_l10 (by omega) (by omega) dX12_isSo_235 ?_
            rw [show r1 10 (t - 1) = rj_b (T (t - 1) = true) from hT _ (by omega) (by omega)]
            refine go_if_neB (tgt := 243) dX12_isSo_236 (by decide) (fun c_236 => ?_) (fun c_236 => ?_)
            · refine go_iconst (v := Int32.ofInt 0) dX12_isSo_243 rfl ?_
              refine grm_s10 (by omega) (by omega) (by omega) dX12_isSo_244 ?_
              refine go_goto (tgt := 364) dX12_isSo_245 (by decide) ?_
              refine go_iincI (a := 299 + 140 * s 7 + (k : Int)) (n := 1) (k0 := 9) (lv' := [(0, .ref mb), (1, rj_i sort), (2, rj_i m), (3, rj_i p), (4, rj_i q), (5, rj_i (sp_tells s 294 0)), (6, rj_i (299 + 140 * s 7)), (7, rj_i t), (8, rj_i (rj_b (a = true))), (9, rj_i (299 + 140 * s 7 + (k : Int) + 1)), (10, rj_i c)]) rfl (by decide) rfl dX12_isSo_364 ?_
              refine go_goto (tgt := 95) dX12_isSo_367 (by decide) ?_
              refine go_sub (lv' := [(0, .ref mb), (1, rj_i sort), (2, rj_i m), (3, rj_i p), (4, rj_i q), (5, rj_i (sp_tells s 294 0)), (6, rj_i (299 + 140 * s 7)), (7, rj_i t), (8, rj_i (rj_b (a = true))), (9, rj_i (299 + 140 * s 7 + (k : Int) + 1))]) (by intro q hq; simp only [List.mem_cons, List.not_mem_nil, or_false] at hq ⊢; rcases hq with rfl | rfl | rfl | rfl | rfl | rfl | rfl | rfl | rfl | rfl <;> simp) ?_
              exact go_eq rfl (lv' := [(0, .ref mb), (1, rj_i sort), (2, rj_i m), (3, rj_i p), (4, rj_i q), (5, rj_i (sp_tells s 294 0)), (6, rj_i (299 + 140 * s 7)), (7, rj_i t), (8, rj_i (rj_b (a = true))), (9, rj_i (299 + 140 * s 7 + ((k + 1 : Nat) : Int)))]) (rj_lk (rj_lk (rj_lk (rj_lk (rj_lk (rj_lk (rj_lk (rj_lj (rfl) (rj_lk (rj_lj (by omega) rfl)))))))))) rfl rfl (ih (k + 1) _ (t) (rj_up T (t - 1) (!T (t - 1))) a (by omega) (fun j h9 h10 => (rm_u_ne r1 _ h10).trans (hr j h9 h10)) (fun j h1 h2 => hby j h1 h2) (sp_Tup hT (rj_b0 (by simp [c_236])) (by omega)) (by rw [hz2, sp_step, if_neg (by omega), if_pos (by omega)]))
            · refine go_iconst (v := Int32.ofInt 1) dX12_isSo_239 rfl ?_
              refine go_goto (tgt := 244) dX12_isSo_240 (by decide) ?_
              refine grm_s10 (by omega) (by omega) (by omega) dX12_isSo_244 ?_
              refine go_goto (tgt := 364) dX12_isSo_245 (by decide) ?_
              refine go_iincI (a := 299 + 140 * s 7 + (k : Int)) (n := 1) (k0 := 9) (lv' := [(0, .ref mb), (1, rj_i sort), (2, rj_i m), (3, rj_i p), (4, rj_i q), (5, rj_i (sp_tells s 294 0)), (6, rj_i (299 + 140 * s 7)), (7, rj_i t), (8, rj_i (rj_b (a = true))), (9, rj_i (299 + 140 * s 7 + (k : Int) + 1)), (10, rj_i c)]) rfl (by decide) rfl dX12_isSo_364 ?_
              refine go_goto (tgt := 95) dX12_isSo_367 (by decide) ?_
              refine go_sub (lv' := [(0, .ref mb), (1, rj_i sort), (2, rj_i m), (3, rj_i p), (4, rj_i q), (5, rj_i (sp_tells s 294 0)), (6, rj_i (299 + 140 * s 7)), (7, rj_i t), (8, rj_i (rj_b (a = true))), (9, rj_i (299 + 140 * s 7 + (k : Int) + 1))]) (by intro q hq; simp only [List.mem_cons, List.not_mem_nil, or_false] at hq ⊢; rcases hq with rfl | rfl | rfl | rfl | rfl | rfl | rfl | rfl | rfl | rfl <;> simp) ?_
              exact go_eq rfl (lv' := [(0, .ref mb), (1, rj_i sort), (2, rj_i m), (3, rj_i p), (4, rj_i q), (5, rj_i (sp_tells s 294 0)), (6, rj_i (299 + 140 * s 7)), (7, rj_i t), (8, rj_i (rj_b (a = true))), (9, rj_i (299 + 140 * s 7 + ((k + 1 : Nat) : Int)))]) (rj_lk (rj_lk (rj_lk (rj_lk (rj_lk (rj_lk (rj_lk (rj_lj (rfl) (rj_lk (rj_lj (by omega) rfl)))))))))) rfl rfl (ih (k + 1) _ (t) (rj_up T (t - 1) (!T (t - 1))) a (by omega) (fun j h9 h10 => (rm_u_ne r1 _ h10).trans (hr j h9 h10)) (fun j h1 h2 => hby j h1 h2) (sp_Tup hT (rj_b1 (by simp [c_236])) (by omega)) (by rw [hz2, sp_step, if_neg (by omega), if_pos (by omega)]))
        · refine go_iload dX12_isSo_119 10 rfl ?_
          refine go_bipush (v := Int32.ofInt 32) dX12_isSo_121 (by decide) ?_
          refine go_divI (by omega) (by omega) dX12_isSo_123 ?_
          refine go_istoreS (lv' := [(0, .ref mb), (1, rj_i sort), (2, rj_i m), (3, rj_i p), (4, rj_i q), (5, rj_i (sp_tells s 294 0)), (6, rj_i (299 + 140 * s 7)), (7, rj_i t), (8, rj_i (rj_b (a = true))), (9, rj_i (299 + 140 * s 7 + (k : Int))), (10, rj_i c), (11, rj_i (c / 32))]) (by decide) rfl dX12_isSo_124 ?_
          refine go_iload dX12_isSo_126 10 rfl ?_
          refine go_bipush (v := Int32.ofInt 8) dX12_isSo_128 (by decide) ?_
          refine go_divI (by omega) (by omega) dX12_isSo_130 ?_
          refine go_iconst (v := Int32.ofInt 4) dX12_isSo_131 rfl ?_
          refine go_remI (by omega) (by omega) dX12_isSo_132 ?_
          refine go_istoreS (lv' := [(0, .ref mb), (1, rj_i sort), (2, rj_i m), (3, rj_i p), (4, rj_i q), (5, rj_i (sp_tells s 294 0)), (6, rj_i (299 + 140 * s 7)), (7, rj_i t), (8, rj_i (rj_b (a = true))), (9, rj_i (299 + 140 * s 7 + (k : Int))), (10, rj_i c), (11, rj_i (c / 32)), (12, rj_i ((c / 8) % 4))]) (by decide) rfl dX12_isSo_133 ?_
          refine go_aload_n dX12_isSo_135 rfl 0 rfl ?_
          refine grm_g9 rfl dX12_isSo_136 ?_
          refine go_iload dX12_isSo_139 10 rfl ?_
          refine go_bipush (v := Int32.ofInt 8) dX12_isSo_141 (by decide) ?_
          refine go_remI (by omega) (by omega) dX12_isSo_143 ?_
          refine grm_l9 (by omega) (by omega) dX12_isSo_144 ?_
          rw [show r1 9 (c % 8) = sp_b s D m p q (c % 8) from hby _ (by omega) (by omega)]
          refine go_istoreS (lv' := [(0, .ref mb), (1, rj_i sort), (2, rj_i m), (3, rj_i p), (4, rj_i q), (5, rj_i (sp_tells s 294 0)), (6, rj_i (299 + 140 * s 7)), (7, rj_i t), (8, rj_i (rj_b (a = true))), (9, rj_i (299 + 140 * s 7 + (k : Int))), (10, rj_i c), (11, rj_i (c / 32)), (12, rj_i ((c / 8) % 4)), (13, rj_i (sp_b s D m p q (c % 8)))]) (by decide) rfl dX12_isSo_145 ?_
          refine go_aload_n dX12_isSo_147 rfl 0 rfl ?_
          refine grm_g10 rfl dX12_isSo_148 ?_
          refine go_iload dX12_isSo_151 7 rfl ?_
          refine go_iload dX12_isSo_153 12 rfl ?_
          refine go_if_neI (tgt := 173) (by omega) dX12_isSo_155 (by decide) (fun c_155 => ?_) (fun c_155 => ?_)
          · refine go_iload dX12_isSo_173 12 rfl ?_
            refine go_iconst (v := Int32.ofInt 1) dX12_isSo_175 rfl ?_
            refine go_icmp_neI (tgt := 194) (by omega) (by omega) dX12_isSo_176 (by decide) (fun c_176 => ?_) (fun c_176 => ?_)
            · refine go_iload dX12_isSo_194 13 rfl ?_
              refine go_iload dX12_isSo_196 11 rfl ?_
              refine go_icmp_leI (tgt := 205) (by omega) (by omega) dX12_isSo_198 (by decide) (fun c_198 => ?_) (fun c_198 => ?_)
              · refine go_iconst (v := Int32.ofInt 0) dX12_isSo_205 rfl ?_
                refine grm_s10 (by omega) (by omega) (by omega) dX12_isSo_206 ?_
                refine go_iincI (a := t) (n := 1) (k0 := 7) (lv' := [(0, .ref mb), (1, rj_i sort), (2, rj_i m), (3, rj_i p), (4, rj_i q), (5, rj_i (sp_tells s 294 0)), (6, rj_i (299 + 140 * s 7)), (7, rj_i (t + 1)), (8, rj_i (rj_b (a = true))), (9, rj_i (299 + 140 * s 7 + (k : Int))), (10, rj_i c), (11, rj_i (c / 32)), (12, rj_i ((c / 8) % 4)), (13, rj_i (sp_b s D m p q (c % 8)))]) rfl (by decide) rfl dX12_isSo_207 ?_
                refine go_goto (tgt := 364) dX12_isSo_210 (by decide) ?_
                refine go_iincI (a := 299 + 140 * s 7 + (k : Int)) (n := 1) (k0 := 9) (lv' := [(0, .ref mb), (1, rj_i sort), (2, rj_i m), (3, rj_i p), (4, rj_i q), (5, rj_i (sp_tells s 294 0)), (6, rj_i (299 + 140 * s 7)), (7, rj_i (t + 1)), (8, rj_i (rj_b (a = true))), (9, rj_i (299 + 140 * s 7 + (k : Int) + 1)), (10, rj_i c), (11, rj_i (c / 32)), (12, rj_i ((c / 8) % 4)), (13, rj_i (sp_b s D m p q (c % 8)))]) rfl (by decide) rfl dX12_isSo_364 ?_
                refine go_goto (tgt := 95) dX12_isSo_367 (by decide) ?_
                refine go_sub (lv' := [(0, .ref mb), (1, rj_i sort), (2, rj_i m), (3, rj_i p), (4, rj_i q), (5, rj_i (sp_tells s 294 0)), (6, rj_i (299 + 140 * s 7)), (7, rj_i (t + 1)), (8, rj_i (rj_b (a = true))), (9, rj_i (299 + 140 * s 7 + (k : Int) + 1))]) (by intro q hq; simp only [List.mem_cons, List.not_mem_nil, or_false] at hq ⊢; rcases hq with rfl | rfl | rfl | rfl | rfl | rfl | rfl | rfl | rfl | rfl <;> simp) ?_
                exact go_eq rfl (lv' := [(0, .ref mb), (1, rj_i sort), (2, rj_i m), (3, rj_i p), (4, rj_i q), (5, rj_i (sp_tells s 294 0)), (6, rj_i (299 + 140 * s 7)), (7, rj_i (t + 1)), (8, rj_i (rj_b (a = true))), (9, rj_i (299 + 140 * s 7 + ((k + 1 : Nat) : Int)))]) (rj_lk (rj_lk (rj_lk (rj_lk (rj_lk (rj_lk (rj_lk (rj_lj (rfl) (rj_lk (rj_lj (by omega) rfl)))))))))) rfl rfl (ih (k + 1) _ (t + 1) (rj_up T t (sp_tst (sp_b s D m p q (c % 8)) (c / 32) (c / 8 % 4))) a (by omega) (fun j h9 h10 => (rm_u_ne r1 _ h10).trans (hr j h9 h10)) (fun j h1 h2 => hby j h1 h2) (sp_Tup hT (rj_b0 (by unfold sp_tst; rw [if_neg (by omega), if_neg (by omega)]; exact fun h9 => absurd (of_decide_eq_true h9) (by omega))) (by omega)) (by rw [hz2, sp_step, if_pos (by omega)]))
              · refine go_iconst (v := Int32.ofInt 1) dX12_isSo_201 rfl ?_
                refine go_goto (tgt := 206) dX12_isSo_202 (by decide) ?_
                refine grm_s10 (by omega) (by omega) (by omega) dX12_isSo_206 ?_
                refine go_iincI (a := t) (n := 1) (k0 := 7) (lv' := [(0, .ref mb), (1, rj_i sort), (2, rj_i m), (3, rj_i p), (4, rj_i q), (5, rj_i (sp_tells s 294 0)), (6, rj_i (299 + 140 * s 7)), (7, rj_i (t + 1)), (8, rj_i (rj_b (a = true))), (9, rj_i (299 + 140 * s 7 + (k : Int))), (10, rj_i c), (11, rj_i (c / 32)), (12, rj_i ((c / 8) % 4)), (13, rj_i (sp_b s D m p q (c % 8)))]) rfl (by decide) rfl dX12_isSo_207 ?_
                refine go_goto (tgt := 364) dX12_isSo_210 (by decide) ?_
                refine go_iincI (a := 299 + 140 * s 7 + (k : Int)) (n := 1) (k0 := 9) (lv' := [(0, .ref mb), (1, rj_i sort), (2, rj_i m), (3, rj_i p), (4, rj_i q), (5, rj_i (sp_tells s 294 0)), (6, rj_i (299 + 140 * s 7)), (7, rj_i (t + 1)), (8, rj_i (rj_b (a = true))), (9, rj_i (299 + 140 * s 7 + (k : Int) + 1)), (10, rj_i c), (11, rj_i (c / 32)), (12, rj_i ((c / 8) % 4)), (13, rj_i (sp_b s D m p q (c % 8)))]) rfl (by decide) rfl dX12_isSo_364 ?_
                refine go_goto (tgt := 95) dX12_isSo_367 (by decide) ?_
                refine go_sub (lv' := [(0, .ref mb), (1, rj_i sort), (2, rj_i m), (3, rj_i p), (4, rj_i q), (5, rj_i (sp_tells s 294 0)), (6, rj_i (299 + 140 * s 7)), (7, rj_i (t + 1)), (8, rj_i (rj_b (a = true))), (9, rj_i (299 + 140 * s 7 + (k : Int) + 1))]) (by intro q hq; simp only [List.mem_cons, List.not_mem_nil, or_false] at hq ⊢; rcases hq with rfl | rfl | rfl | rfl | rfl | rfl | rfl | rfl | rfl | rfl <;> simp) ?_
                exact go_eq rfl (lv' := [(0, .ref mb), (1, rj_i sort), (2, rj_i m), (3, rj_i p), (4, rj_i q), (5, rj_i (sp_tells s 294 0)), (6, rj_i (299 + 140 * s 7)), (7, rj_i (t + 1)), (8, rj_i (rj_b (a = true))), (9, rj_i (299 + 140 * s 7 + ((k + 1 : Nat) : Int)))]) (rj_lk (rj_lk (rj_lk (rj_lk (rj_lk (rj_lk (rj_lk (rj_lj (rfl) (rj_lk (rj_lj (by omega) rfl)))))))))) rfl rfl (ih (k + 1) _ (t + 1) (rj_up T t (sp_tst (sp_b s D m p q (c % 8)) (c / 32) (c / 8 % 4))) a (by omega) (fun j h9 h10 => (rm_u_ne r1 _ h10).trans (hr j h9 h10)) (fun j h1 h2 => hby j h1 h2) (sp_Tup hT (rj_b1 (by unfold sp_tst; rw [if_neg (by omega), if_neg (by omega)]; exact decide_eq_true (by omega))) (by omega)) (by rw [hz2, sp_step, if_pos (by omega)]))
            · refine go_iload dX12_isSo_179 13 rfl ?_
              refine go_iload dX12_isSo_181 11 rfl ?_
              refine go_icmp_neI (tgt := 190) (by omega) (by omega) dX12_isSo_183 (by decide) (fun c_183 => ?_) (fun c_183 => ?_)
              · refine go_iconst (v := Int32.ofInt 0) dX12_isSo_190 rfl ?_
                refine go_goto (tgt := 206) dX12_isSo_191 (by decide) ?_
                refine grm_s10 (by omega) (by omega) (by omega) dX12_isSo_206 ?_
                refine go_iincI (a := t) (n := 1) (k0 := 7) (lv' := [(0, .ref mb), (1, rj_i sort), (2, rj_i m), (3, rj_i p), (4, rj_i q), (5, rj_i (sp_tells s 294 0)), (6, rj_i (299 + 140 * s 7)), (7, rj_i (t + 1)), (8, rj_i (rj_b (a = true))), (9, rj_i (299 + 140 * s 7 + (k : Int))), (10, rj_i c), (11, rj_i (c / 32)), (12, rj_i ((c / 8) % 4)), (13, rj_i (sp_b s D m p q (c % 8)))]) rfl (by decide) rfl dX12_isSo_207 ?_
                refine go_goto (tgt := 364) dX12_isSo_210 (by decide) ?_
                refine go_iincI (a := 299 + 140 * s 7 + (k : Int)) (n := 1) (k0 := 9) (lv' := [(0, .ref mb), (1, rj_i sort), (2, rj_i m), (3, rj_i p), (4, rj_i q), (5, rj_i (sp_tells s 294 0)), (6, rj_i (299 + 140 * s 7)), (7, rj_i (t + 1)), (8, rj_i (rj_b (a = true))), (9, rj_i (299 + 140 * s 7 + (k : Int) + 1)), (10, rj_i c), (11, rj_i (c / 32)), (12, rj_i ((c / 8) % 4)), (13, rj_i (sp_b s D m p q (c % 8)))]) rfl (by decide) rfl dX12_isSo_364 ?_
                refine go_goto (tgt := 95) dX12_isSo_367 (by decide) ?_
                refine go_sub (lv' := [(0, .ref mb), (1, rj_i sort), (2, rj_i m), (3, rj_i p), (4, rj_i q), (5, rj_i (sp_tells s 294 0)), (6, rj_i (299 + 140 * s 7)), (7, rj_i (t + 1)), (8, rj_i (rj_b (a = true))), (9, rj_i (299 + 140 * s 7 + (k : Int) + 1))]) (by intro q hq; simp only [List.mem_cons, List.not_mem_nil, or_false] at hq ⊢; rcases hq with rfl | rfl | rfl | rfl | rfl | rfl | rfl | rfl | rfl | rfl <;> simp) ?_
                exact go_eq rfl (lv' := [(0, .ref mb), (1, rj_i sort), (2, rj_i m), (3, rj_i p), (4, rj_i q), (5, rj_i (sp_tells s 294 0)), (6, rj_i (299 + 140 * s 7)), (7, rj_i (t + 1)), (8, rj_i (rj_b (a = true))), (9, rj_i (299 + 140 * s 7 + ((k + 1 : Nat) : Int)))]) (rj_lk (rj_lk (rj_lk (rj_lk (rj_lk (rj_lk (rj_lk (rj_lj (rfl) (rj_lk (rj_lj (by omega) rfl)))))))))) rfl rfl (ih (k + 1) _ (t + 1) (rj_up T t (sp_tst (sp_b s D m p q (c % 8)) (c / 32) (c / 8 % 4))) a (by omega) (fun j h9 h10 => (rm_u_ne r1 _ h10).trans (hr j h9 h10)) (fun j h1 h2 => hby j h1 h2) (sp_Tup hT (rj_b0 (by unfold sp_tst; rw [if_neg (by omega), if_pos (by omega)]; exact fun h9 => absurd (of_decide_eq_true h9) (by omega))) (by omega)) (by rw [hz2, sp_step, if_pos (by omega)]))
              · refine go_iconst (v := Int32.ofInt 1) dX12_isSo_186 rfl ?_
                refine go_goto (tgt := 206) dX12_isSo_187 (by decide) ?_
                refine grm_s10 (by omega) (by omega) (by omega) dX12_isSo_206 ?_
                refine go_iincI (a := t) (n := 1) (k0 := 7) (lv' := [(0, .ref mb), (1, rj_i sort), (2, rj_i m), (3, rj_i p), (4, rj_i q), (5, rj_i (sp_tells s 294 0)), (6, rj_i (299 + 140 * s 7)), (7, rj_i (t + 1)), (8, rj_i (rj_b (a = true))), (9, rj_i (299 + 140 * s 7 + (k : Int))), (10, rj_i c), (11, rj_i (c / 32)), (12, rj_i ((c / 8) % 4)), (13, rj_i (sp_b s D m p q (c % 8)))]) rfl (by decide) rfl dX12_isSo_207 ?_
                refine go_goto (tgt := 364) dX12_isSo_210 (by decide) ?_
                refine go_iincI (a := 299 + 140 * s 7 + (k : Int)) (n := 1) (k0 := 9) (lv' := [(0, .ref mb), (1, rj_i sort), (2, rj_i m), (3, rj_i p), (4, rj_i q), (5, rj_i (sp_tells s 294 0)), (6, rj_i (299 + 140 * s 7)), (7, rj_i (t + 1)), (8, rj_i (rj_b (a = true))), (9, rj_i (299 + 140 * s 7 + (k : Int) + 1)), (10, rj_i c), (11, rj_i (c / 32)), (12, rj_i ((c / 8) % 4)), (13, rj_i (sp_b s D m p q (c % 8)))]) rfl (by decide) rfl dX12_isSo_364 ?_
                refine go_goto (tgt := 95) dX12_isSo_367 (by decide) ?_
                refine go_sub (lv' := [(0, .ref mb), (1, rj_i sort), (2, rj_i m), (3, rj_i p), (4, rj_i q), (5, rj_i (sp_tells s 294 0)), (6, rj_i (299 + 140 * s 7)), (7, rj_i (t + 1)), (8, rj_i (rj_b (a = true))), (9, rj_i (299 + 140 * s 7 + (k : Int) + 1))]) (by intro q hq; simp only [List.mem_cons, List.not_mem_nil, or_false] at hq ⊢; rcases hq with rfl | rfl | rfl | rfl | rfl | rfl | rfl | rfl | rfl | rfl <;> simp) ?_
                exact go_eq rfl (lv' := [(0, .ref mb), (1, rj_i sort), (2, rj_i m), (3, rj_i p), (4, rj_i q), (5, rj_i (sp_tells s 294 0)), (6, rj_i (299 + 140 * s 7)), (7, rj_i (t + 1)), (8, rj_i (rj_b (a = true))), (9, rj_i (299 + 140 * s 7 + ((k + 1 : Nat) : Int)))]) (rj_lk (rj_lk (rj_lk (rj_lk (rj_lk (rj_lk (rj_lk (rj_lj (rfl) (rj_lk (rj_lj (by omega) rfl)))))))))) rfl rfl (ih (k + 1) _ (t + 1) (rj_up T t (sp_tst (sp_b s D m p q (c % 8)) (c / 32) (c / 8 % 4))) a (by omega) (fun j h9 h10 => (rm_u_ne r1 _ h10).trans (hr j h9 h10)) (fun j h1 h2 => hby j h1 h2) (sp_Tup hT (rj_b1 (by unfold sp_tst; rw [if_neg (by omega), if_pos (by omega)]; exact decide_eq_true (by omega))) (by omega)) (by rw [hz2, sp_step, if_pos (by omega)]))
          · refine go_iload dX12_isSo_158 13 rfl ?_
            refine go_iload dX12_isSo_160 11 rfl ?_
            refine go_icmp_geI (tgt := 169) (by omega) (by omega) dX12_isSo_162 (by decide) (fun c_162 => ?_) (fun c_162 => ?_)
            · refine go_iconst (v := Int32.ofInt 0) dX12_isSo_169 rfl ?_
              refine go_goto (tgt := 206) dX12_isSo_170 (by decide) ?_
              refine grm_s10 (by omega) (by omega) (by omega) dX12_isSo_206 ?_
              refine go_iincI (a := t) (n := 1) (k0 := 7) (lv' := [(0, .ref mb), (1, rj_i sort), (2, rj_i m), (3, rj_i p), (4, rj_i q), (5, rj_i (sp_tells s 294 0)), (6, rj_i (299 + 140 * s 7)), (7, rj_i (t + 1)), (8, rj_i (rj_b (a = true))), (9, rj_i (299 + 140 * s 7 + (k : Int))), (10, rj_i c), (11, rj_i (c / 32)), (12, rj_i ((c / 8) % 4)), (13, rj_i (sp_b s D m p q (c % 8)))]) rfl (by decide) rfl dX12_isSo_207 ?_
              refine go_goto (tgt := 364) dX12_isSo_210 (by decide) ?_
              refine go_iincI (a := 299 + 140 * s 7 + (k : Int)) (n := 1) (k0 := 9) (lv' := [(0, .ref mb), (1, rj_i sort), (2, rj_i m), (3, rj_i p), (4, rj_i q), (5, rj_i (sp_tells s 294 0)), (6, rj_i (299 + 140 * s 7)), (7, rj_i (t + 1)), (8, rj_i (rj_b (a = true))), (9, rj_i (299 + 140 * s 7 + (k : Int) + 1)), (10, rj_i c), (11, rj_i (c / 32)), (12, rj_i ((c / 8) % 4)), (13, rj_i (sp_b s D m p q (c % 8)))]) rfl (by decide) rfl dX12_isSo_364 ?_
              refine go_goto (tgt := 95) dX12_isSo_367 (by decide) ?_
              refine go_sub (lv' := [(0, .ref mb), (1, rj_i sort), (2, rj_i m), (3, rj_i p), (4, rj_i q), (5, rj_i (sp_tells s 294 0)), (6, rj_i (299 + 140 * s 7)), (7, rj_i (t + 1)), (8, rj_i (rj_b (a = true))), (9, rj_i (299 + 140 * s 7 + (k : Int) + 1))]) (by intro q hq; simp only [List.mem_cons, List.not_mem_nil, or_false] at hq ⊢; rcases hq with rfl | rfl | rfl | rfl | rfl | rfl | rfl | rfl | rfl | rfl <;> simp) ?_
              exact go_eq rfl (lv' := [(0, .ref mb), (1, rj_i sort), (2, rj_i m), (3, rj_i p), (4, rj_i q), (5, rj_i (sp_tells s 294 0)), (6, rj_i (299 + 140 * s 7)), (7, rj_i (t + 1)), (8, rj_i (rj_b (a = true))), (9, rj_i (299 + 140 * s 7 + ((k + 1 : Nat) : Int)))]) (rj_lk (rj_lk (rj_lk (rj_lk (rj_lk (rj_lk (rj_lk (rj_lj (rfl) (rj_lk (rj_lj (by omega) rfl)))))))))) rfl rfl (ih (k + 1) _ (t + 1) (rj_up T t (sp_tst (sp_b s D m p q (c % 8)) (c / 32) (c / 8 % 4))) a (by omega) (fun j h9 h10 => (rm_u_ne r1 _ h10).trans (hr j h9 h10)) (fun j h1 h2 => hby j h1 h2) (sp_Tup hT (rj_b0 (by unfold sp_tst; rw [if_pos (by omega)]; exact fun h9 => absurd (of_decide_eq_true h9) (by omega))) (by omega)) (by rw [hz2, sp_step, if_pos (by omega)]))
            · refine go_iconst (v := Int32.ofInt 1) dX12_isSo_165 rfl ?_
              refine go_goto (tgt := 206) dX12_isSo_166 (by decide) ?_
              refine grm_s10 (by omega) (by omega) (by omega) dX12_isSo_206 ?_
              refine go_iincI (a := t) (n := 1) (k0 := 7) (lv' := [(0, .ref mb), (1, rj_i sort), (2, rj_i m), (3, rj_i p), (4, rj_i q), (5, rj_i (sp_tells s 294 0)), (6, rj_i (299 + 140 * s 7)), (7, rj_i (t + 1)), (8, rj_i (rj_b (a = true))), (9, rj_i (299 + 140 * s 7 + (k : Int))), (10, rj_i c), (11, rj_i (c / 32)), (12, rj_i ((c / 8) % 4)), (13, rj_i (sp_b s D m p q (c % 8)))]) rfl (by decide) rfl dX12_isSo_207 ?_
              refine go_goto (tgt := 364) dX12_isSo_210 (by decide) ?_
              refine go_iincI (a := 299 + 140 * s 7 + (k : Int)) (n := 1) (k0 := 9) (lv' := [(0, .ref mb), (1, rj_i sort), (2, rj_i m), (3, rj_i p), (4, rj_i q), (5, rj_i (sp_tells s 294 0)), (6, rj_i (299 + 140 * s 7)), (7, rj_i (t + 1)), (8, rj_i (rj_b (a = true))), (9, rj_i (299 + 140 * s 7 + (k : Int) + 1)), (10, rj_i c), (11, rj_i (c / 32)), (12, rj_i ((c / 8) % 4)), (13, rj_i (sp_b s D m p q (c % 8)))]) rfl (by decide) rfl dX12_isSo_364 ?_
              refine go_goto (tgt := 95) dX12_isSo_367 (by decide) ?_
              refine go_sub (lv' := [(0, .ref mb), (1, rj_i sort), (2, rj_i m), (3, rj_i p), (4, rj_i q), (5, rj_i (sp_tells s 294 0)), (6, rj_i (299 + 140 * s 7)), (7, rj_i (t + 1)), (8, rj_i (rj_b (a = true))), (9, rj_i (299 + 140 * s 7 + (k : Int) + 1))]) (by intro q hq; simp only [List.mem_cons, List.not_mem_nil, or_false] at hq ⊢; rcases hq with rfl | rfl | rfl | rfl | rfl | rfl | rfl | rfl | rfl | rfl <;> simp) ?_
              exact go_eq rfl (lv' := [(0, .ref mb), (1, rj_i sort), (2, rj_i m), (3, rj_i p), (4, rj_i q), (5, rj_i (sp_tells s 294 0)), (6, rj_i (299 + 140 * s 7)), (7, rj_i (t + 1)), (8, rj_i (rj_b (a = true))), (9, rj_i (299 + 140 * s 7 + ((k + 1 : Nat) : Int)))]) (rj_lk (rj_lk (rj_lk (rj_lk (rj_lk (rj_lk (rj_lk (rj_lj (rfl) (rj_lk (rj_lj (by omega) rfl)))))))))) rfl rfl (ih (k + 1) _ (t + 1) (rj_up T t (sp_tst (sp_b s D m p q (c % 8)) (c / 32) (c / 8 % 4))) a (by omega) (fun j h9 h10 => (rm_u_ne r1 _ h10).trans (hr j h9 h10)) (fun j h1 h2 => hby j h1 h2) (sp_Tup hT (rj_b1 (by unfold sp_tst; rw [if_pos (by omega)]; exact decide_eq_true (by omega))) (by omega)) (by rw [hz2, sp_step, if_pos (by omega)]))
  refine go_aload_n dX12_isSo_0 rfl 0 rfl ?_
  refine grm_g9 rfl dX12_isSo_1 ?_
  refine go_iconst (v := Int32.ofInt 0) dX12_isSo_4 rfl ?_
  refine go_iload_n dX12_isSo_5 rfl 2 rfl ?_
  refine grm_s9 (by omega) (by omega) dX12_isSo_6 ?_
  obtain ⟨r1, e1⟩ : ∃ x_, x_ = (rm_u r 9 (rj_up (r 9) 0 m)) := ⟨_, rfl⟩
  rw [← e1]
  have q1_1 : r1 1 = s := by rw [e1]; exact (show (rm_u r 9 (rj_up (r 9) 0 m)) 1 = s from hs)
  have q1_11 : r1 11 0 = D := by rw [e1]; exact (show (rm_u r 9 (rj_up (r 9) 0 m)) 11 0 = D from hD)
  refine go_aload_n dX12_isSo_7 rfl 0 rfl ?_
  refine grm_g9 rfl dX12_isSo_8 ?_
  refine go_iconst (v := Int32.ofInt 1) dX12_isSo_11 rfl ?_
  refine go_iload_n dX12_isSo_12 rfl 3 rfl ?_
  refine grm_s9 (by omega) (by omega) dX12_isSo_13 ?_
  obtain ⟨r2, e2⟩ : ∃ x_, x_ = (rm_u r1 9 (rj_up (r1 9) 1 p)) := ⟨_, rfl⟩
  rw [← e2]
  have q2_1 : r2 1 = s := by rw [e2]; exact (show (rm_u r1 9 (rj_up (r1 9) 1 p)) 1 = s from q1_1)
  have q2_11 : r2 11 0 = D := by rw [e2]; exact (show (rm_u r1 9 (rj_up (r1 9) 1 p)) 11 0 = D from q1_11)
  refine go_aload_n dX12_isSo_14 rfl 0 rfl ?_
  refine grm_g9 rfl dX12_isSo_15 ?_
  refine go_iconst (v := Int32.ofInt 2) dX12_isSo_18 rfl ?_
  refine go_iload dX12_isSo_19 4 rfl ?_
  refine grm_s9 (by omega) (by omega) dX12_isSo_21 ?_
  obtain ⟨r3, e3⟩ : ∃ x_, x_ = (rm_u r2 9 (rj_up (r2 9) 2 q)) := ⟨_, rfl⟩
  rw [← e3]
  have q3_1 : r3 1 = s := by rw [e3]; exact (show (rm_u r2 9 (rj_up (r2 9) 2 q)) 1 = s from q2_1)
  have q3_11 : r3 11 0 = D := by rw [e3]; exact (show (rm_u r2 9 (rj_up (r2 9) 2 q)) 11 0 = D from q2_11)
  refine go_aload_n dX12_isSo_22 rfl 0 rfl ?_
  refine grm_g9 rfl dX12_isSo_23 ?_
  refine go_iconst (v := Int32.ofInt 3) dX12_isSo_26 rfl ?_
  refine go_aload_n dX12_isSo_27 rfl 0 rfl ?_
  refine grm_g11 rfl dX12_isSo_28 ?_
  rw [show r3 11 0 = D from q3_11]
  refine grm_s9 (by omega) (by omega) dX12_isSo_31 ?_
  obtain ⟨r4, e4⟩ : ∃ x_, x_ = (rm_u r3 9 (rj_up (r3 9) 3 D)) := ⟨_, rfl⟩
  rw [← e4]
  have q4_1 : r4 1 = s := by rw [e4]; exact (show (rm_u r3 9 (rj_up (r3 9) 3 D)) 1 = s from q3_1)
  have q4_11 : r4 11 0 = D := by rw [e4]; exact (show (rm_u r3 9 (rj_up (r3 9) 3 D)) 11 0 = D from q3_11)
  refine go_aload_n dX12_isSo_32 rfl 0 rfl ?_
  refine grm_g9 rfl dX12_isSo_33 ?_
  refine go_iconst (v := Int32.ofInt 4) dX12_isSo_36 rfl ?_
  refine go_iload_n dX12_isSo_37 rfl 2 rfl ?_
  refine go_bipush (v := Int32.ofInt 99) dX12_isSo_38 (by decide) ?_
  refine go_icmp_neI (tgt := 47) (by omega) (by omega) dX12_isSo_40 (by decide) (fun c_40 => ?_) (fun c_40 => ?_)
  · refine go_aload_n dX12_isSo_47 rfl 0 rfl ?_
    refine grm_g1 rfl dX12_isSo_48 ?_
    refine go_sipush (v := Int32.ofInt 148) dX12_isSo_51 (by decide) ?_
    refine go_iload_n dX12_isSo_54 rfl 2 rfl ?_
    refine go_addI dX12_isSo_55 ?_
    refine grm_l1 (by omega) (by omega) dX12_isSo_56 ?_
    rw [show r4 1 = s from q4_1]
    refine grm_s9 (by omega) (by omega) dX12_isSo_57 ?_
    obtain ⟨r5, e5⟩ : ∃ x_, x_ = (rm_u r4 9 (rj_up (r4 9) 4 (s (148 + m)))) := ⟨_, rfl⟩
    rw [← e5]
    have q5_1 : r5 1 = s := by rw [e5]; exact (show (rm_u r4 9 (rj_up (r4 9) 4 (s (148 + m)))) 1 = s from q4_1)
    have q5_11 : r5 11 0 = D := by rw [e5]; exact (show (rm_u r4 9 (rj_up (r4 9) 4 (s (148 + m)))) 11 0 = D from q4_11)
    refine go_aload_n dX12_isSo_58 rfl 0 rfl ?_
    refine go_sipush (v := Int32.ofInt 294) dX12_isSo_59 (by decide) ?_
    refine go_iconst (v := Int32.ofInt 0) dX12_isSo_62 rfl ?_
    refine go_callV (d1 := d - 1) wVX12_148 kX12 rm_ob rfl (by omega) (m_tellsOf (w := 294) (n := 0) (by omega) (by omega) (hs := (show r5 1 = s from q5_1)) h7) rfl (Nat.le_of_ble_eq_true rfl) dX12_isSo_63 (fun w σ1 hP => ?_)
    obtain ⟨rfl, rfl⟩ := hP
    refine go_istoreS (lv' := [(0, .ref mb), (1, rj_i sort), (2, rj_i m), (3, rj_i p), (4, rj_i q), (5, rj_i (sp_tells s 294 0))]) (by decide) rfl dX12_isSo_66 ?_
    refine go_sipush (v := Int32.ofInt 299) dX12_isSo_68 (by decide) ?_
    refine go_sipush (v := Int32.ofInt 140) dX12_isSo_71 (by decide) ?_
    refine go_aload_n dX12_isSo_74 rfl 0 rfl ?_
    refine grm_g1 rfl dX12_isSo_75 ?_
    refine go_bipush (v := Int32.ofInt 7) dX12_isSo_78 (by decide) ?_
    refine grm_l1 (by omega) (by omega) dX12_isSo_80 ?_
    rw [show r5 1 = s from q5_1]
    refine go_mulI dX12_isSo_81 ?_
    refine go_addI dX12_isSo_82 ?_
    refine go_istoreS (lv' := [(0, .ref mb), (1, rj_i sort), (2, rj_i m), (3, rj_i p), (4, rj_i q), (5, rj_i (sp_tells s 294 0)), (6, rj_i (299 + (140 * (s 7))))]) (by decide) rfl dX12_isSo_83 ?_
    refine go_iconst (v := Int32.ofInt 0) dX12_isSo_85 rfl ?_
    refine go_istoreS (lv' := [(0, .ref mb), (1, rj_i sort), (2, rj_i m), (3, rj_i p), (4, rj_i q), (5, rj_i (sp_tells s 294 0)), (6, rj_i (299 + (140 * (s 7)))), (7, rj_i 0)]) (by decide) rfl dX12_isSo_86 ?_
    refine go_iconst (v := Int32.ofInt 0) dX12_isSo_88 rfl ?_
    refine go_istoreS (lv' := [(0, .ref mb), (1, rj_i sort), (2, rj_i m), (3, rj_i p), (4, rj_i q), (5, rj_i (sp_tells s 294 0)), (6, rj_i (299 + (140 * (s 7)))), (7, rj_i 0), (8, rj_i 0)]) (by decide) rfl dX12_isSo_89 ?_
    refine go_iload dX12_isSo_91 6 rfl ?_
    refine go_istoreS (lv' := [(0, .ref mb), (1, rj_i sort), (2, rj_i m), (3, rj_i p), (4, rj_i q), (5, rj_i (sp_tells s 294 0)), (6, rj_i (299 + (140 * (s 7)))), (7, rj_i 0), (8, rj_i 0), (9, rj_i (299 + (140 * (s 7))))]) (by decide) rfl dX12_isSo_93 ?_
    exact go_eq rfl (lv' := [(0, .ref mb), (1, rj_i sort), (2, rj_i m), (3, rj_i p), (4, rj_i q), (5, rj_i (sp_tells s 294 0)), (6, rj_i (299 + 140 * s 7)), (7, rj_i 0), (8, rj_i (rj_b (false = true))), (9, rj_i (299 + 140 * s 7 + ((0 : Nat) : Int)))]) (rj_lk (rj_lk (rj_lk (rj_lk (rj_lk (rj_lk (rj_lj (by omega) (rj_lj (rfl) (rj_lj (rfl) (rj_lj (by omega) rfl)))))))))) rfl rfl (loop (sp_tells s 294 0).toNat 0 _ 0 (fun _ => false) false (by omega) (fun j h9 h10 => by simp [e5, e4, e3, e2, e1, rm_u, h9]) (fun j h1 h2 => by rcases (show j = 0 ∨ j = 1 ∨ j = 2 ∨ j = 3 ∨ j = 4 by omega) with rfl | rfl | rfl | rfl | rfl <;> simp [e5, e4, e3, e2, e1, rm_u, rj_up, sp_b, c_40]) (fun j h1 h2 => absurd h2 (by omega)) rfl)
  · refine go_iconst (v := Int32.ofInt 0) dX12_isSo_43 rfl ?_
    refine go_goto (tgt := 57) dX12_isSo_44 (by decide) ?_
    refine grm_s9 (by omega) (by omega) dX12_isSo_57 ?_
    obtain ⟨r5, e5⟩ : ∃ x_, x_ = (rm_u r4 9 (rj_up (r4 9) 4 0)) := ⟨_, rfl⟩
    rw [← e5]
    have q5_1 : r5 1 = s := by rw [e5]; exact (show (rm_u r4 9 (rj_up (r4 9) 4 0)) 1 = s from q4_1)
    have q5_11 : r5 11 0 = D := by rw [e5]; exact (show (rm_u r4 9 (rj_up (r4 9) 4 0)) 11 0 = D from q4_11)
    refine go_aload_n dX12_isSo_58 rfl 0 rfl ?_
    refine go_sipush (v := Int32.ofInt 294) dX12_isSo_59 (by decide) ?_
    refine go_iconst (v := Int32.ofInt 0) dX12_isSo_62 rfl ?_
    refine go_callV (d1 := d - 1) wVX12_148 kX12 rm_ob rfl (by omega) (m_tellsOf (w := 294) (n := 0) (by omega) (by omega) (hs := (show r5 1 = s from q5_1)) h7) rfl (Nat.le_of_ble_eq_true rfl) dX12_isSo_63 (fun w σ1 hP => ?_)
    obtain ⟨rfl, rfl⟩ := hP
    refine go_istoreS (lv' := [(0, .ref mb), (1, rj_i sort), (2, rj_i m), (3, rj_i p), (4, rj_i q), (5, rj_i (sp_tells s 294 0))]) (by decide) rfl dX12_isSo_66 ?_
    refine go_sipush (v := Int32.ofInt 299) dX12_isSo_68 (by decide) ?_
    refine go_sipush (v := Int32.ofInt 140) dX12_isSo_71 (by decide) ?_
    refine go_aload_n dX12_isSo_74 rfl 0 rfl ?_
    refine grm_g1 rfl dX12_isSo_75 ?_
    refine go_bipush (v := Int32.ofInt 7) dX12_isSo_78 (by decide) ?_
    refine grm_l1 (by omega) (by omega) dX12_isSo_80 ?_
    rw [show r5 1 = s from q5_1]
    refine go_mulI dX12_isSo_81 ?_
    refine go_addI dX12_isSo_82 ?_
    refine go_istoreS (lv' := [(0, .ref mb), (1, rj_i sort), (2, rj_i m), (3, rj_i p), (4, rj_i q), (5, rj_i (sp_tells s 294 0)), (6, rj_i (299 + (140 * (s 7))))]) (by decide) rfl dX12_isSo_83 ?_
    refine go_iconst (v := Int32.ofInt 0) dX12_isSo_85 rfl ?_
    refine go_istoreS (lv' := [(0, .ref mb), (1, rj_i sort), (2, rj_i m), (3, rj_i p), (4, rj_i q), (5, rj_i (sp_tells s 294 0)), (6, rj_i (299 + (140 * (s 7)))), (7, rj_i 0)]) (by decide) rfl dX12_isSo_86 ?_
    refine go_iconst (v := Int32.ofInt 0) dX12_isSo_88 rfl ?_
    refine go_istoreS (lv' := [(0, .ref mb), (1, rj_i sort), (2, rj_i m), (3, rj_i p), (4, rj_i q), (5, rj_i (sp_tells s 294 0)), (6, rj_i (299 + (140 * (s 7)))), (7, rj_i 0), (8, rj_i 0)]) (by decide) rfl dX12_isSo_89 ?_
    refine go_iload dX12_isSo_91 6 rfl ?_
    refine go_istoreS (lv' := [(0, .ref mb), (1, rj_i sort), (2, rj_i m), (3, rj_i p), (4, rj_i q), (5, rj_i (sp_tells s 294 0)), (6, rj_i (299 + (140 * (s 7)))), (7, rj_i 0), (8, rj_i 0), (9, rj_i (299 + (140 * (s 7))))]) (by decide) rfl dX12_isSo_93 ?_
    exact go_eq rfl (lv' := [(0, .ref mb), (1, rj_i sort), (2, rj_i m), (3, rj_i p), (4, rj_i q), (5, rj_i (sp_tells s 294 0)), (6, rj_i (299 + 140 * s 7)), (7, rj_i 0), (8, rj_i (rj_b (false = true))), (9, rj_i (299 + 140 * s 7 + ((0 : Nat) : Int)))]) (rj_lk (rj_lk (rj_lk (rj_lk (rj_lk (rj_lk (rj_lj (by omega) (rj_lj (rfl) (rj_lj (rfl) (rj_lj (by omega) rfl)))))))))) rfl rfl (loop (sp_tells s 294 0).toNat 0 _ 0 (fun _ => false) false (by omega) (fun j h9 h10 => by simp [e5, e4, e3, e2, e1, rm_u, h9]) (fun j h1 h2 => by rcases (show j = 0 ∨ j = 1 ∨ j = 2 ∨ j = 3 ∨ j = 4 by omega) with rfl | rfl | rfl | rfl | rfl <;> simp [e5, e4, e3, e2, e1, rm_u, rj_up, sp_b, c_40]) (fun j h1 h2 => absurd h2 (by omega)) rfl)
