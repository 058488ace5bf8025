/-! votes: the order, the winner, the ring -/
theorem sp_sum_z1 {f : Int → Int} {i : Int} : ∀ n : Nat, (∀ k : Int, 0 ≤ k → k < n → f k ≤ 1) → 0 ≤ i → i < n → f i = 0 → sp_sum f n ≤ (n : Int) - 1
  | 0, _, h1, h2, _ => by omega
  | n + 1, hf, h1, h2, h3 => by
    have hle : sp_sum f n ≤ n := by
      clear h1 h2 h3
      have : ∀ m : Nat, m ≤ n → sp_sum f m ≤ m := fun m => by
        induction m with
        | zero => intro _; exact Int.le_refl _
        | succ m ih => intro hm; have := ih (by omega); have := hf m (by omega) (by omega); rw [sp_sum]; omega
      exact this n (Nat.le_refl _)
    rw [sp_sum]
    by_cases h : i = n
    · rw [← h, h3]; omega
    · have := sp_sum_z1 n (fun k a b => hf k a (by omega)) h1 (by omega) h3
      have := hf n (by omega) (by omega)
      omega
theorem sp_sum_z2 {f : Int → Int} {i j : Int} (hij : i < j) : ∀ n : Nat, (∀ k : Int, 0 ≤ k → k < n → f k ≤ 1) → 0 ≤ i → j < n → f i = 0 → f j = 0 → sp_sum f n ≤ (n : Int) - 2
  | 0, _, h1, h2, _, _ => by omega
  | n + 1, hf, h1, h2, h3, h4 => by
    rw [sp_sum]
    by_cases h : j = n
    · have := sp_sum_z1 n (fun k a b => hf k a (by omega)) h1 (by omega) h3
      rw [← h, h4]; omega
    · have := sp_sum_z2 hij n (fun k a b => hf k a (by omega)) h1 (by omega) h3 h4
      have := hf n (by omega) (by omega)
      omega
theorem sp_sum_le {f g : Int → Int} : ∀ n : Nat, (∀ k : Int, 0 ≤ k → k < n → f k ≤ g k) → sp_sum f n ≤ sp_sum g n
  | 0, _ => Int.le_refl _
  | n + 1, h => by have := sp_sum_le n (fun k a b => h k a (by omega)); have := h n (by omega) (by omega); rw [sp_sum, sp_sum]; omega
theorem sp_sum_lt {f g : Int → Int} {j : Int} : ∀ n : Nat, (∀ k : Int, 0 ≤ k → k < n → f k ≤ g k) → 0 ≤ j → j < n → f j < g j → sp_sum f n < sp_sum g n
  | 0, _, h1, h2, _ => by omega
  | n + 1, h, h1, h2, h3 => by
    rw [sp_sum, sp_sum]
    by_cases hj : j = n
    · have := sp_sum_le n (fun k a b => h k a (by omega)); subst hj; omega
    · have := sp_sum_lt n (fun k a b => h k a (by omega)) h1 (by omega) h3; have := h n (by omega) (by omega); omega
theorem sp_vn_aa (s : Int → Int) (a : Int) : sp_vn s a a = 0 := by
  unfold sp_vn
  rw [sp_sum_ext (g := fun _ => 0) _ (fun k _ _ => by unfold sp_vc; rw [if_neg (by omega)]), sp_sum_z]
theorem sp_vn_ab {s : Int → Int} {a b : Int} (h5 : 0 ≤ s 5) : sp_vn s a b + sp_vn s b a ≤ s 5 := by
  unfold sp_vn
  rw [← sp_sum_add]
  have h := sp_sum_le (f := fun q => sp_vc s a b q + sp_vc s b a q) (g := fun _ => 1) (s 5).toNat (fun k _ _ => by show sp_vc s a b k + sp_vc s b a k ≤ 1; unfold sp_vc; (repeat' split) <;> omega)
  have h1 : ∀ n : Nat, sp_sum (fun _ => 1) n = n := fun n => by
    induction n with
    | zero => rfl
    | succ n ih => rw [sp_sum, ih]; omega
  rw [h1] at h
  omega
theorem sp_vb_i {s : Int → Int} {a b : Int} (h5 : 0 ≤ s 5) : (sp_vb s a b = true ↔ s 5 < 2 * sp_vn s a b) := by
  unfold sp_vb
  rw [Bool.and_eq_true, decide_eq_true_eq, decide_eq_true_eq]
  constructor
  · exact fun h => h.2
  · intro h; refine ⟨fun e => ?_, h⟩; subst e; rw [sp_vn_aa] at h; omega
theorem sp_vb_aa (s : Int → Int) (a : Int) : sp_vb s a a = false := by unfold sp_vb; rw [decide_eq_false (by omega)]; rfl
theorem sp_vb_as {s : Int → Int} {a b : Int} (h5 : 0 ≤ s 5) (h : sp_vb s a b = true) : sp_vb s b a = false := by
  refine Bool.eq_false_iff.mpr fun h2 => ?_
  have := (sp_vb_i h5).mp h; have := (sp_vb_i h5).mp h2; have := sp_vn_ab (s := s) (a := a) (b := b) h5
  omega
/-- p comes ahead of o -/
def sp_bf2 (s : Int → Int) (o p : Int) : Prop := sp_ven s p < sp_ven s o ∨ sp_ven s o = sp_ven s p ∧ o < p
theorem sp_vp_le {s : Int → Int} (p o : Int) : 0 ≤ sp_vp s p o ∧ sp_vp s p o ≤ 1 := by unfold sp_vp; split <;> omega
theorem sp_vpo_lt {s : Int → Int} {o p : Int} (h : sp_bf2 s o p) (ho : 0 ≤ o ∧ o < s 1) : sp_vpo s o < sp_vpo s p := by
  unfold sp_vpo
  unfold sp_bf2 at h
  refine sp_sum_lt (j := o) (s 1).toNat (fun k _ _ => ?_) ho.1 (by omega) ?_
  · unfold sp_vp; (repeat' split) <;> omega
  · unfold sp_vp; rw [if_neg (by omega), if_pos h]; omega
theorem sp_vpo_inj {s : Int → Int} {o p : Int} (ho : 0 ≤ o ∧ o < s 1) (hp : 0 ≤ p ∧ p < s 1) (h : sp_vpo s o = sp_vpo s p) : o = p := by
  refine Decidable.byContradiction fun hne => ?_
  rcases (show sp_bf2 s o p ∨ sp_bf2 s p o by unfold sp_bf2; omega) with h2 | h2
  · have := sp_vpo_lt h2 ho; omega
  · have := sp_vpo_lt h2 hp; omega
theorem sp_vpo_r {s : Int → Int} {p : Int} (hp : 0 ≤ p ∧ p < s 1) : 0 ≤ sp_vpo s p ∧ sp_vpo s p < s 1 := by
  unfold sp_vpo
  have h1 := sp_sum_z1 (f := sp_vp s p) (i := p) (s 1).toNat (fun k _ _ => (sp_vp_le p k).2) hp.1 (by omega) (by unfold sp_vp; rw [if_neg (by omega)])
  have h2 := sp_sum_le (f := fun _ => 0) (g := sp_vp s p) (s 1).toNat (fun k _ _ => (sp_vp_le p k).1)
  rw [sp_sum_z] at h2
  omega
theorem sp_sum_u {r : Int → Int} {j : Int} : ∀ n : Nat, (∀ a b : Int, 0 ≤ a → a < n → 0 ≤ b → b < n → r a = r b → a = b) → sp_sum (fun p => if j = r p then 1 else 0) n ≤ 1
  | 0, _ => by simp [sp_sum]
  | n + 1, h => by
    rw [sp_sum]
    by_cases hj : j = r n
    · rw [if_pos hj, sp_sum_ext (g := fun _ => 0) n (fun q a b => by rw [if_neg (fun e => by have := h q n a (by omega) (by omega) (by omega) (by omega); omega)]), sp_sum_z]; omega
    · rw [if_neg hj]
      have := sp_sum_u (j := j) n (fun a b h1 h2 h3 h4 => h a b h1 (by omega) h3 (by omega))
      omega
theorem sp_all_h {s : Int → Int} (h1 : 0 ≤ s 1) : sp_all s := by
  intro i i0 i1
  refine Classical.byContradiction fun hno => ?_
  have hne : ∀ p : Int, 0 ≤ p → p < s 1 → ¬ i = sp_vpo s p := fun p a b e => hno ⟨p.toNat, by omega, by rw [Int.toNat_of_nonneg a]; exact e.symm⟩
  have hsw := sp_sum_swap (fun j p => if j = sp_vpo s p then (1 : Int) else 0) (s 1).toNat (s 1).toNat
  have hr : sp_sum (fun k => sp_sum (fun q => if q = sp_vpo s k then (1 : Int) else 0) (s 1).toNat) (s 1).toNat = s 1 := by
    have e : sp_sum (fun k => sp_sum (fun q => if q = sp_vpo s k then (1 : Int) else 0) (s 1).toNat) (s 1).toNat = sp_sum (fun _ => 1) (s 1).toNat := sp_sum_ext _ (fun k a b => by
      have h2 := sp_vpo_r (s := s) (p := k) (by omega)
      have h3 := sp_sum_at (fun _ => 0) (sp_vpo s k) 1 (s 1).toNat
      rw [if_pos (by omega)] at h3
      show sp_sum (fun q => if q = sp_vpo s k then (1 : Int) else 0) (s 1).toNat = 1
      rw [h3, sp_sum_ext (g := fun _ => 0) _ (fun q _ _ => by split <;> rfl), sp_sum_z]; rfl)
    rw [e]
    have h4 : ∀ n : Nat, sp_sum (fun _ => 1) n = n := fun n => by
      induction n with
      | zero => rfl
      | succ n ih => rw [sp_sum, ih]; omega
    rw [h4]; omega
  rw [hr] at hsw
  have hz := sp_sum_z1 (f := fun j => sp_sum (fun p => if j = sp_vpo s p then (1 : Int) else 0) (s 1).toNat) (i := i) (s 1).toNat (fun k _ _ => sp_sum_u (s 1).toNat (fun a b a0 a1 b0 b1 e => sp_vpo_inj (by omega) (by omega) e)) i0 (by omega) (by
    show sp_sum (fun p => if i = sp_vpo s p then (1 : Int) else 0) (s 1).toNat = 0
    rw [sp_sum_ext (g := fun _ => 0) _ (fun q a b => by rw [if_neg (hne q a (by omega))]), sp_sum_z])
  omega
theorem sp_io_at {s : Int → Int} {i : Int} : ∀ n k : Nat, (∃ p : Nat, k ≤ p ∧ p < k + n ∧ sp_vpo s (p : Int) = i) → (k : Int) ≤ sp_io s i n k ∧ sp_io s i n k < ((k + n : Nat) : Int) ∧ sp_vpo s (sp_io s i n k) = i
  | 0, k, h => by obtain ⟨p, h1, h2, _⟩ := h; omega
  | n + 1, k, h => by
    rw [sp_io]
    split
    · rename_i hk; exact ⟨by omega, by omega, hk⟩
    · rename_i hk
      have := sp_io_at n (k + 1) (by obtain ⟨p, h1, h2, h3⟩ := h; exact ⟨p, by rcases Nat.eq_or_lt_of_le h1 with e | e; (· subst e; exact absurd h3 hk); (· omega), by omega, h3⟩)
      omega
/-- the first patch that beats all others -/
def sp_wn (s : Int → Int) : Nat → Nat → Int
  | 0, _ => -5
  | n + 1, k => if sp_ven s (k : Int) = s 1 - 1 then (k : Int) else sp_wn s n (k + 1)
theorem sp_ve_le (s : Int → Int) (p o : Int) : 0 ≤ sp_ve s p o ∧ sp_ve s p o ≤ 1 := by unfold sp_ve; split <;> omega
theorem sp_ven_w {s : Int → Int} {p o : Int} (h5 : 0 ≤ s 5) (hp : 0 ≤ p ∧ p < s 1) (ho : 0 ≤ o ∧ o < s 1) (hne : o ≠ p) (h : sp_ven s p = s 1 - 1) : sp_ven s o < s 1 - 1 := by
  have e1 : sp_ve s p p = 0 := by unfold sp_ve; rw [sp_vb_aa]; rfl
  have e2 : sp_ve s o o = 0 := by unfold sp_ve; rw [sp_vb_aa]; rfl
  have hb : sp_vb s p o = true := by
    refine Decidable.byContradiction fun h2 => ?_
    have e3 : sp_ve s p o = 0 := by unfold sp_ve; rw [if_neg h2]
    unfold sp_ven at h
    rcases (show p < o ∨ o < p by omega) with h3 | h3
    · have := sp_sum_z2 (f := sp_ve s p) h3 (s 1).toNat (fun k _ _ => (sp_ve_le s p k).2) hp.1 (by omega) e1 e3; omega
    · have := sp_sum_z2 (f := sp_ve s p) h3 (s 1).toNat (fun k _ _ => (sp_ve_le s p k).2) ho.1 (by omega) e3 e1; omega
  have e4 : sp_ve s o p = 0 := by unfold sp_ve; rw [sp_vb_as h5 hb]; rfl
  unfold sp_ven
  rcases (show p < o ∨ o < p by omega) with h3 | h3
  · have := sp_sum_z2 (f := sp_ve s o) h3 (s 1).toNat (fun k _ _ => (sp_ve_le s o k).2) hp.1 (by omega) e4 e2; omega
  · have := sp_sum_z2 (f := sp_ve s o) h3 (s 1).toNat (fun k _ _ => (sp_ve_le s o k).2) ho.1 (by omega) e2 e4; omega
theorem sp_vpo_w {s : Int → Int} {p : Int} (h5 : 0 ≤ s 5) (hp : 0 ≤ p ∧ p < s 1) (h : sp_ven s p = s 1 - 1) : sp_vpo s p = 0 := by
  unfold sp_vpo
  rw [sp_sum_ext (g := fun _ => 0) _ (fun o a b => by
    unfold sp_vp
    by_cases e : o = p
    · subst e; rw [if_neg (by omega)]
    · have := sp_ven_w h5 hp (o := o) (by omega) e h; rw [if_neg (by omega)]), sp_sum_z]
theorem sp_best0_w {s : Int → Int} {p : Int} (h1 : 0 < s 1) (h5 : 0 ≤ s 5) (hp : 0 ≤ p ∧ p < s 1) (h : sp_ven s p = s 1 - 1) : sp_best0 s = p := by
  obtain ⟨q, q1, q2⟩ := sp_all_h (s := s) (by omega) 0 (by omega) (by omega)
  have h2 := sp_io_at (s := s) (i := 0) (s 1).toNat 0 ⟨q, by omega, by omega, q2⟩
  unfold sp_best0
  exact sp_vpo_inj (by omega) hp (by rw [h2.2.2, sp_vpo_w h5 hp h])
theorem sp_best0_b {s : Int → Int} (h1 : 0 < s 1) : 0 ≤ sp_best0 s ∧ sp_best0 s < s 1 := by
  obtain ⟨q, q1, q2⟩ := sp_all_h (s := s) (by omega) 0 (by omega) (by omega)
  have h2 := sp_io_at (s := s) (i := 0) (s 1).toNat 0 ⟨q, by omega, by omega, q2⟩
  unfold sp_best0; omega
theorem sp_wn_e {s : Int → Int} (h1 : 0 < s 1) (h5 : 0 ≤ s 5) : ∀ n k : Nat, ((k + n : Nat) : Int) = s 1 → (∀ j : Nat, j < k → sp_ven s (j : Int) ≠ s 1 - 1) → sp_wn s n k = if sp_ven s (sp_best0 s) = s 1 - 1 then sp_best0 s else -5
  | 0, k, hk, h => by
    have hb := sp_best0_b h1
    rw [sp_wn, if_neg (fun e => h (sp_best0 s).toNat (by omega) (by rw [Int.toNat_of_nonneg hb.1]; exact e))]
  | n + 1, k, hk, h => by
    rw [sp_wn]
    by_cases hh : sp_ven s (k : Int) = s 1 - 1
    · rw [if_pos hh, sp_best0_w h1 h5 (by omega) hh, if_pos hh]
    · rw [if_neg hh]
      exact sp_wn_e h1 h5 n (k + 1) (by omega) (fun j hj => by rcases Nat.lt_succ_iff_lt_or_eq.mp hj with e | e; (· exact h j e); (· subst e; exact hh))
/-- a ring -/
abbrev sp_rg (s : Int → Int) (a b c : Int) : Prop := sp_vb s a b = true ∧ sp_vb s b c = true ∧ sp_vb s c a = true
theorem sp_rg_lt {s : Int → Int} {a b c : Nat} (h : sp_rg s a b c) (hn : ∀ a' b' c' : Nat, a' < a → (b' : Int) < s 1 → (c' : Int) < s 1 → ¬ sp_rg s a' b' c') (ha : (a : Int) < s 1) (hb : (b : Int) < s 1) (hc : (c : Int) < s 1) : a < b ∧ a < c := by
  obtain ⟨h1, h2, h3⟩ := h
  constructor
  · rcases Nat.lt_trichotomy a b with e | e | e
    · exact e
    · subst e; rw [sp_vb_aa] at h1; cases h1
    · exact absurd ⟨h2, h3, h1⟩ (hn b c a e hc ha)
  · rcases Nat.lt_trichotomy a c with e | e | e
    · exact e
    · subst e; rw [sp_vb_aa] at h3; cases h3
    · exact absurd ⟨h3, h1, h2⟩ (hn c a b e ha hb)
theorem sp_r3_sk {s : Int → Int} {a b K : Int} : ∀ (j n c : Nat), j ≤ n → (∀ c' : Nat, c ≤ c' → c' < c + j → ¬ sp_rg s a b (c' : Int)) → sp_r3 s a b K n c = sp_r3 s a b K (n - j) (c + j)
  | 0, n, c, _, _ => rfl
  | j + 1, n, c, hj, h => by
    obtain ⟨m, rfl⟩ : ∃ m, n = m + 1 := ⟨n - 1, by omega⟩
    rw [sp_r3, if_neg (h c (by omega) (by omega)), sp_r3_sk j m (c + 1) (by omega) (fun c' h1 h2 => h c' (by omega) (by omega)), show m + 1 - (j + 1) = m - j by omega, show c + 1 + j = c + (j + 1) by omega]
theorem sp_r2_sk {s : Int → Int} {a : Nat} {K : Int} : ∀ (j n b : Nat), j ≤ n → (∀ b' c' : Nat, b ≤ b' → b' < b + j → a < c' → (c' : Int) < s 1 → ¬ sp_rg s a (b' : Int) (c' : Int)) → sp_r2 s a K n b = sp_r2 s a K (n - j) (b + j)
  | 0, n, b, _, _ => rfl
  | j + 1, n, b, hj, h => by
    obtain ⟨m, rfl⟩ : ∃ m, n = m + 1 := ⟨n - 1, by omega⟩
    rw [sp_r2, sp_r3_sk ((s 1).toNat - (a + 1)) _ _ (Nat.le_refl _) (fun c' h1 h2 => h b c' (by omega) (by omega) (by omega) (by omega)), Nat.sub_self, sp_r3, sp_r2_sk j m (b + 1) (by omega) (fun b' c' h1 h2 => h b' c' (by omega) (by omega)), show m + 1 - (j + 1) = m - j by omega, show b + 1 + j = b + (j + 1) by omega]
theorem sp_r1_sk {s : Int → Int} : ∀ (j n a : Nat), j ≤ n → (∀ a' b' c' : Nat, a ≤ a' → a' < a + j → (b' : Int) < s 1 → (c' : Int) < s 1 → ¬ sp_rg s (a' : Int) (b' : Int) (c' : Int)) → sp_r1 s n a = sp_r1 s (n - j) (a + j)
  | 0, n, a, _, _ => rfl
  | j + 1, n, a, hj, h => by
    obtain ⟨m, rfl⟩ : ∃ m, n = m + 1 := ⟨n - 1, by omega⟩
    rw [sp_r1, sp_r2_sk ((s 1).toNat - (a + 1)) _ _ (Nat.le_refl _) (fun b' c' h1 h2 h3 h4 => h a b' c' (by omega) (by omega) (by omega) h4), Nat.sub_self, sp_r2, sp_r1_sk j m (a + 1) (by omega) (fun a' b' c' h1 h2 => h a' b' c' (by omega) (by omega)), show m + 1 - (j + 1) = m - j by omega, show a + 1 + j = a + (j + 1) by omega]
theorem sp_ring_hit {s : Int → Int} {a b c : Nat} (ha : (a : Int) < s 1) (hb : (b : Int) < s 1) (hc : (c : Int) < s 1) (h : sp_rg s a b c) (h1 : ∀ a' b' c' : Nat, a' < a → (b' : Int) < s 1 → (c' : Int) < s 1 → ¬ sp_rg s a' b' c') (h2 : ∀ b' c' : Nat, b' < b → (c' : Int) < s 1 → ¬ sp_rg s a b' c') (h3 : ∀ c' : Nat, c' < c → ¬ sp_rg s a b c') : sp_ring s = 100 * (a : Int) + 10 * (b : Int) + (c : Int) := by
  obtain ⟨hab, hac⟩ := sp_rg_lt h h1 ha hb hc
  unfold sp_ring
  rw [sp_r1_sk a _ _ (by omega) (fun a' b' c' q1 q2 => h1 a' b' c' (by omega)), Nat.zero_add]
  obtain ⟨m, hm⟩ : ∃ m, (s 1).toNat - a = m + 1 := ⟨(s 1).toNat - a - 1, by omega⟩
  rw [hm, sp_r1, sp_r2_sk (b - (a + 1)) _ _ (by omega) (fun b' c' q1 q2 q3 q4 => h2 b' c' (by omega) q4), show a + 1 + (b - (a + 1)) = b by omega]
  obtain ⟨m2, hm2⟩ : ∃ m2, (s 1).toNat - (a + 1) - (b - (a + 1)) = m2 + 1 := ⟨(s 1).toNat - (a + 1) - (b - (a + 1)) - 1, by omega⟩
  rw [hm2, sp_r2, sp_r3_sk (c - (a + 1)) _ _ (by omega) (fun c' q1 q2 => h3 c' (by omega)), show a + 1 + (c - (a + 1)) = c by omega]
  obtain ⟨m3, hm3⟩ : ∃ m3, (s 1).toNat - (a + 1) - (c - (a + 1)) = m3 + 1 := ⟨(s 1).toNat - (a + 1) - (c - (a + 1)) - 1, by omega⟩
  rw [hm3, sp_r3, if_pos h]
theorem sp_ring_no {s : Int → Int} (h1 : ∀ a' b' c' : Nat, (a' : Int) < s 1 → (b' : Int) < s 1 → (c' : Int) < s 1 → ¬ sp_rg s a' b' c') : sp_ring s = -5 := by
  unfold sp_ring
  rw [sp_r1_sk (s 1).toNat _ _ (Nat.le_refl _) (fun a' b' c' q1 q2 => h1 a' b' c' (by omega)), Nat.sub_self, sp_r1]
