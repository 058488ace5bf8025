/-! sums: what the class counts is what the reference counts -/
theorem sp_sum_add (f g : Int → Int) : ∀ n : Nat, sp_sum (fun q => f q + g q) n = sp_sum f n + sp_sum g n
  | 0 => rfl
  | n + 1 => by rw [sp_sum, sp_sum, sp_sum, sp_sum_add f g n]; omega
theorem sp_sum_z : ∀ n : Nat, sp_sum (fun _ => 0) n = 0
  | 0 => rfl
  | n + 1 => by rw [sp_sum, sp_sum_z n]; rfl
theorem sp_sum_swap (f : Int → Int → Int) (m : Nat) : ∀ n : Nat, sp_sum (fun q => sp_sum (f q) m) n = sp_sum (fun k => sp_sum (fun q => f q k) n) m
  | 0 => (sp_sum_z m).symm
  | n + 1 => by
    rw [sp_sum, sp_sum_swap f m n]
    exact (sp_sum_add (fun k => sp_sum (fun q => f q k) n) (f (n : Int)) m).symm
theorem sp_sum_ext {f g : Int → Int} : ∀ n : Nat, (∀ q : Int, 0 ≤ q → q < n → f q = g q) → sp_sum f n = sp_sum g n
  | 0, _ => rfl
  | n + 1, h => by rw [sp_sum, sp_sum, sp_sum_ext n (fun q a b => h q a (by omega)), h n (by omega) (by omega)]
theorem sp_sum_mul (f : Int → Int) (k : Int) : ∀ n : Nat, sp_sum (fun q => f q * k) n = sp_sum f n * k
  | 0 => (Int.zero_mul k).symm
  | n + 1 => by rw [sp_sum, sp_sum, sp_sum_mul f k n, Int.add_mul]
theorem sp_lt_thr (s : Int → Int) (D p q m : Int) : sp_lt s D p q m = rj_b (sp_thr s D m p q = true) * sp_light s m := by
  unfold sp_lt sp_thr
  by_cases h : s (236 + 8 * m + q) = p ∧ sp_can s D m p q = true
  · rw [if_pos h, rj_bt (by rw [decide_eq_true h.1, h.2]; rfl), Int.one_mul]
  · rw [if_neg h, rj_bf (by intro q2; rw [Bool.and_eq_true, decide_eq_true_eq] at q2; exact h q2), Int.zero_mul]
theorem sp_has_lo (s : Int → Int) (p : Int) : sp_has s (s 4) p = sp_sum (sp_lo1 s p) (s 0).toNat := by
  unfold sp_has sp_lat
  rw [sp_sum_swap (fun q => sp_lt s (s 4) p q) (s 0).toNat 8]
  refine sp_sum_ext _ (fun m _ _ => ?_)
  unfold sp_lo1
  rw [← sp_sum_mul]
  exact sp_sum_ext 8 (fun q _ _ => sp_lt_thr s (s 4) p q m)
theorem sp_any_lat {s : Int → Int} {D p q : Int} (h0 : 0 ≤ s 0 ∧ s 0 ≤ 6) (hM : sp_IM s) : ∀ n : Nat, (n : Int) ≤ s 0 → (0 ≤ sp_sum (sp_lt s D p q) n ∧ (sp_any s D p q n = true ↔ 0 < sp_sum (sp_lt s D p q) n))
  | 0, _ => by simp [sp_sum, sp_any]
  | n + 1, h => by
    obtain ⟨i1, i2⟩ := sp_any_lat h0 hM n (by omega)
    obtain ⟨m1, m2, m3, m4, m5, m6, m7⟩ := hM n (by omega) (by omega)
    have hl : 1 ≤ sp_light s (n : Int) := by unfold sp_light; split <;> omega
    rw [sp_sum, sp_lt_thr, sp_any, Bool.or_eq_true, i2]
    by_cases ht : sp_thr s D (n : Int) p q = true
    · rw [rj_bt ht, Int.one_mul]; constructor
      · omega
      · exact ⟨fun _ => by omega, fun _ => Or.inr ht⟩
    · rw [rj_bf ht, Int.zero_mul]; constructor
      · omega
      · exact ⟨fun h2 => by rcases h2 with h2 | h2; (· omega); (· exact absurd h2 ht), fun h2 => Or.inl (by omega)⟩
theorem sp_anyL {s : Int → Int} {D p q : Int} (h0 : 0 ≤ s 0 ∧ s 0 ≤ 6) (hM : sp_IM s) : sp_any s D p q (s 0).toNat = decide (0 < sp_lat s D p q) := by
  have h := (sp_any_lat (D := D) (p := p) (q := q) h0 hM (s 0).toNat (by omega)).2
  unfold sp_lat
  by_cases h2 : 0 < sp_sum (sp_lt s D p q) (s 0).toNat
  · rw [decide_eq_true h2]; exact h.mpr h2
  · rw [decide_eq_false h2]; exact Bool.eq_false_iff.mpr (fun q => h2 (h.mp q))
theorem sp_lat_n {s : Int → Int} {D p q : Int} (h0 : 0 ≤ s 0 ∧ s 0 ≤ 6) (hM : sp_IM s) : 0 ≤ sp_lat s D p q := (sp_any_lat (D := D) (p := p) (q := q) h0 hM (s 0).toNat (by omega)).1
theorem sp_sunnyL {s : Int → Int} {D p : Int} (h0 : 0 ≤ s 0 ∧ s 0 ≤ 6) (hM : sp_IM s) : sp_sum (fun q => rj_b ((fun q => sp_so s D (-13) 99 p q || sp_any s D p q (s 0).toNat) q = true)) 8 = sp_sunny s D p := by
  unfold sp_sunny
  refine sp_sum_ext 8 (fun q _ _ => ?_)
  show rj_b ((sp_so s D (-13) 99 p q || sp_any s D p q (s 0).toNat) = true) = sp_sun s D p q
  unfold sp_sun
  rw [sp_anyL h0 hM]
  unfold rj_b
  have e : ((sp_so s D (-13) 99 p q || decide (0 < sp_lat s D p q)) = true) ↔ (sp_so s D (-13) 99 p q = true ∨ 0 < sp_lat s D p q) := by rw [Bool.or_eq_true, decide_eq_true_eq]
  by_cases h : sp_so s D (-13) 99 p q = true ∨ 0 < sp_lat s D p q
  · rw [if_pos (e.mpr h), if_pos h]
  · rw [if_neg (fun q => h (e.mp q)), if_neg h]
theorem sp_btx_in (P : Int → Bool) {q : Int} (q0 : 0 ≤ q) (q1 : q < 8) : sp_btx (sp_bits P 8) q = 1 ↔ P q = true := by
  rw [sp_bits_bt P q0 q1]
  unfold rj_b
  by_cases h : P q = true
  · rw [if_pos h]; exact ⟨fun _ => h, fun _ => rfl⟩
  · rw [if_neg h]; exact ⟨fun h2 => by omega, fun h2 => absurd h2 h⟩
