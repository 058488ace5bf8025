/-! THE CLASS: vote -/
theorem sp_lf_e (x : Int) : ∀ j : Nat, sp_lf x j = x / 10 ^ j
  | 0 => by rw [sp_lf, Int.pow_zero, Int.ediv_one]
  | j + 1 => by rw [sp_lf, sp_lf_e x j, Int.ediv_ediv_of_nonneg (Int.le_of_lt (Int.pow_pos (by decide))), ← Int.pow_succ]
theorem sp_lf_0 {x : Int} {n : Nat} (h : 0 ≤ x) : sp_lf x n = 0 ↔ x < 10 ^ n := by
  rw [sp_lf_e]
  have hp : (0 : Int) < 10 ^ n := Int.pow_pos (by decide)
  constructor
  · intro h2
    have := Int.lt_mul_ediv_self_add (x := x) hp
    rw [h2] at this; simpa using this
  · exact fun h2 => Int.ediv_eq_zero_of_lt h h2
theorem sp_seen_s (x : Int) : ∀ (k v : Nat), (sp_seen x k).testBit v = true → ∃ j : Nat, j < k ∧ (sp_dg x j).toNat = v
  | 0, v, h => by simp [sp_seen] at h
  | k + 1, v, h => by
    rw [sp_seen, Nat.testBit_or, Bool.or_eq_true] at h
    rcases h with h | h
    · obtain ⟨j, h1, h2⟩ := sp_seen_s x k v h; exact ⟨j, by omega, h2⟩
    · rw [Nat.testBit_two_pow] at h
      exact ⟨k, by omega, of_decide_eq_true h⟩
theorem sp_sum_g1 {f : Int → Int} : ∀ n : Nat, (∀ k : Int, 0 ≤ k → k < n → 1 ≤ f k) → (n : Int) ≤ sp_sum f n
  | 0, _ => by simp [sp_sum]
  | n + 1, h => by have := sp_sum_g1 n (fun k a b => h k a (by omega)); have := h n (by omega) (by omega); rw [sp_sum]; omega
theorem sp_sum_g2 {f : Int → Int} {i : Int} : ∀ n : Nat, (∀ k : Int, 0 ≤ k → k < n → 1 ≤ f k) → 0 ≤ i → i < n → 2 ≤ f i → (n : Int) + 1 ≤ sp_sum f n
  | 0, _, a, b, _ => by omega
  | n + 1, h, a, b, c => by
    rw [sp_sum]
    by_cases hi : i = n
    · have := sp_sum_g1 n (fun k a b => h k a (by omega)); subst hi; omega
    · have := sp_sum_g2 n (fun k a b => h k a (by omega)) a (by omega) c; have := h n (by omega) (by omega); omega
theorem sp_sum_p1 {f : Int → Int} {i : Int} : ∀ n : Nat, (∀ k : Int, 0 ≤ k → k < n → 0 ≤ f k) → 0 ≤ i → i < n → 1 ≤ f i → 1 ≤ sp_sum f n
  | 0, _, a, b, _ => by omega
  | n + 1, h, a, b, c => by
    have h0 : ∀ m : Nat, m ≤ n → 0 ≤ sp_sum f m := fun m => by
      induction m with
      | zero => intro _; exact Int.le_refl _
      | succ m ih => intro hm; have := ih (by omega); have := h m (by omega) (by omega); rw [sp_sum]; omega
    rw [sp_sum]
    by_cases hi : i = n
    · have := h0 n (Nat.le_refl _); subst hi; omega
    · have := sp_sum_p1 n (fun k a b => h k a (by omega)) a (by omega) c; have := h n (by omega) (by omega); omega
theorem sp_sum_p2 {f : Int → Int} {i j : Int} (hij : i < j) : ∀ n : Nat, (∀ k : Int, 0 ≤ k → k < n → 0 ≤ f k) → 0 ≤ i → j < n → 1 ≤ f i → 1 ≤ f j → 2 ≤ sp_sum f n
  | 0, _, a, b, _, _ => by omega
  | n + 1, h, a, b, c, d => by
    rw [sp_sum]
    by_cases hj : j = n
    · have := sp_sum_p1 n (fun k a b => h k a (by omega)) a (by omega) c; subst hj; omega
    · have := sp_sum_p2 hij n (fun k a b => h k a (by omega)) a (by omega) c d; have := h n (by omega) (by omega); omega
theorem sp_vt_sur {x : Int} {n v : Nat} (h : sp_seen x n = 2 ^ n - 1) (hv : v < n) : ∃ j : Nat, j < n ∧ sp_dg x j = (v : Int) := by
  have h1 : (sp_seen x n).testBit v = true := by rw [h, Nat.testBit_two_pow_sub_one, decide_eq_true hv]
  obtain ⟨j, h2, h3⟩ := sp_seen_s x n v h1
  have := sp_dg_b x j
  exact ⟨j, h2, by omega⟩
theorem sp_vt_inj {x : Int} {n : Nat} (h : sp_seen x n = 2 ^ n - 1) {i j : Nat} (hi : i < n) (hj : j < n) (he : sp_dg x i = sp_dg x j) : i = j := by
  refine Decidable.byContradiction fun hne => ?_
  have hsw := sp_sum_swap (fun v q => if v = sp_dg x q.toNat then (1 : Int) else 0) n n
  have hr : sp_sum (fun k => sp_sum (fun q => if q = sp_dg x k.toNat then (1 : Int) else 0) n) n = n := by
    have e : sp_sum (fun k => sp_sum (fun q => if q = sp_dg x k.toNat then (1 : Int) else 0) n) n = sp_sum (fun _ => 1) n := sp_sum_ext _ (fun k a b => by
      have h2 := sp_seen_d h (j := k.toNat) (by omega)
      have h4 := sp_dg_b x k.toNat
      have h3 := sp_sum_at (fun _ => 0) (sp_dg x k.toNat) 1 n
      rw [if_pos (by omega)] at h3
      show sp_sum (fun q => if q = sp_dg x k.toNat then (1 : Int) else 0) n = 1
      rw [h3, sp_sum_ext (g := fun _ => 0) _ (fun q _ _ => by split <;> rfl), sp_sum_z]; rfl)
    rw [e]
    have h4 : ∀ n : Nat, sp_sum (fun _ => 1) n = n := fun n => by
      induction n with
      | zero => rfl
      | succ n ih => rw [sp_sum, ih]; omega
    exact h4 n
  rw [hr] at hsw
  have hd := sp_seen_d h hi
  have hd2 := sp_dg_b x i
  have nn : ∀ v k : Int, 0 ≤ (if v = sp_dg x k.toNat then (1 : Int) else 0) := fun v k => by split <;> omega
  have hg := sp_sum_g2 (f := fun v => sp_sum (fun q => if v = sp_dg x q.toNat then (1 : Int) else 0) n) (i := sp_dg x i) n (fun v a b => by
    obtain ⟨k, k1, k2⟩ := sp_vt_sur h (v := v.toNat) (by omega)
    exact sp_sum_p1 (i := (k : Int)) n (fun q _ _ => nn v q) (by omega) (by omega) (by show 1 ≤ (if v = sp_dg x (k : Int).toNat then (1 : Int) else 0); rw [if_pos (by rw [Int.toNat_natCast, k2]; omega)]; omega)) (by omega) (by omega) (by
    have f1 : 1 ≤ (if sp_dg x i = sp_dg x (i : Int).toNat then (1 : Int) else 0) := by rw [Int.toNat_natCast, if_pos rfl]; omega
    have f2 : 1 ≤ (if sp_dg x i = sp_dg x (j : Int).toNat then (1 : Int) else 0) := by rw [Int.toNat_natCast, if_pos he]; omega
    rcases Nat.lt_or_gt_of_ne hne with e | e
    · exact sp_sum_p2 (i := (i : Int)) (j := (j : Int)) (by omega) n (fun q _ _ => nn _ q) (by omega) (by omega) f1 f2
    · exact sp_sum_p2 (i := (j : Int)) (j := (i : Int)) (by omega) n (fun q _ _ => nn _ q) (by omega) (by omega) f2 f1)
  omega
/-- the place of a patch in the new row -/
def sp_pos (s : Int → Int) (x a : Int) : Int := sp_vtK s x (s 1).toNat (999 + 6 * s 5 + a)
def sp_bal (s : Int → Int) (x i : Int) : Int := sp_dg x (s 1 - 1 - i).toNat
theorem sp_vtK_at {s : Int → Int} {x : Int} {n : Nat} (h : sp_seen x n = 2 ^ n - 1) {j : Nat} : ∀ m : Nat, m ≤ n → j < m → sp_vtK s x m (999 + 6 * s 5 + sp_dg x j) = s 1 - 1 - (j : Int)
  | 0, _, hj => absurd hj (Nat.not_lt_zero _)
  | m + 1, hm, hj => by
    rw [sp_vtK]
    by_cases e : j = m
    · subst e; rw [rj_up_eq]
    · rw [rj_up_ne _ _ (fun q => e (sp_vt_inj h (by omega) (by omega) (by omega))), sp_vtK_at h m (by omega) (by omega)]
theorem sp_vtK_ag {s : Int → Int} {x : Int} {n : Nat} (h : sp_seen x n = 2 ^ n - 1) (hn : n ≤ 6) {i : Int} (hi : i < 999 + 6 * s 5 ∨ 999 + 6 * s 5 + 6 ≤ i) : ∀ m : Nat, m ≤ n → sp_vtK s x m i = s i
  | 0, _ => rfl
  | m + 1, hm => by
    have h1 := sp_seen_d h (j := m) (by omega)
    have h2 := sp_dg_b x m
    rw [sp_vtK, rj_up_ne _ _ (by omega)]; exact sp_vtK_ag h hn hi m (by omega)
theorem sp_bal_b {s : Int → Int} {x i : Int} (h : sp_vtB s x) (hi : 0 ≤ i ∧ i < s 1) : 0 ≤ sp_bal s x i ∧ sp_bal s x i < s 1 := by
  have h1 := sp_seen_d h.2.2 (j := (s 1 - 1 - i).toNat) (by omega)
  have h2 := sp_dg_b x (s 1 - 1 - i).toNat
  unfold sp_bal; omega
theorem sp_pos_bal {s : Int → Int} {x i : Int} (h : sp_vtB s x) (hi : 0 ≤ i ∧ i < s 1) : sp_pos s x (sp_bal s x i) = i := by
  unfold sp_pos sp_bal
  rw [sp_vtK_at h.2.2 _ (Nat.le_refl _) (by omega)]; omega
theorem sp_bal_sur {s : Int → Int} {x a : Int} (h : sp_vtB s x) (ha : 0 ≤ a ∧ a < s 1) : 0 ≤ sp_pos s x a ∧ sp_pos s x a < s 1 ∧ sp_bal s x (sp_pos s x a) = a := by
  obtain ⟨j, h1, h2⟩ := sp_vt_sur h.2.2 (v := a.toNat) (by omega)
  have e : a = sp_bal s x (s 1 - 1 - (j : Int)) := by unfold sp_bal; rw [show (s 1 - 1 - (s 1 - 1 - (j : Int))).toNat = j by omega, h2]; omega
  have hp := sp_pos_bal h (i := s 1 - 1 - (j : Int)) (by omega)
  rw [← e] at hp
  rw [hp]
  exact ⟨by omega, by omega, e.symm⟩
/-- a pair that is counted, d rows and b of the next through -/
abbrev sp_ctd (s : Int → Int) (x d b a e : Int) : Prop := sp_pos s x a < sp_pos s x e ∧ (sp_pos s x a < d ∨ sp_pos s x a = d ∧ sp_pos s x e < b)
theorem e_vote {X9 : rj_X} {cb vv vk : Nat} {c c0 : rm_R} {σ : rj_H} {s : Int → Int} {ad : Nat → Int → Nat} {x : Int} (hR : rc_R X9 cb vv vk c σ s ad) (hI : sp_I s) (hok : sp_vtOk s x) (hB : sp_vtB s x) (h5r : s 5 < 5) (e : ∀ k : Nat, 2 ≤ k → k < 26 → c0 k = c k) (e1 : c0 1 = rj_up (rj_up (c 1) 14 (s 1)) 13 (s 5 + 1)) (ea : ∀ a b : Int, 0 ≤ a → a < s 1 → 0 ≤ b → b < s 1 → c0 (26 + a.toNat) b = c (26 + a.toNat) b + (if sp_pos s x a < sp_pos s x b then 1 else 0)) : rc_R X9 cb vv vk c0 σ (rj_up (rj_up (sp_vtK s x (s 1).toNat) 8 (s 1)) 5 (s 5 + 1)) ad := by
  obtain ⟨⟨h0, h1, h2, h3, h4, h5, h6, h7⟩, hM, hP, hW, hL, hV⟩ := id hI
  obtain ⟨v1, v2, v3, v4⟩ := id hV
  have hRa := hR.ahd
  obtain ⟨r1, r2, ⟨g1, g2, g3, g4, g5, g6, g7⟩, r4⟩ := hR
  have E : ∀ j : Int, j ≠ 5 → j ≠ 8 → (j < 999) → rj_up (rj_up (sp_vtK s x (s 1).toNat) 8 (s 1)) 5 (s 5 + 1) j = s j := fun j a b q => by rw [rj_up_ne _ _ a, rj_up_ne _ _ b]; exact sp_vtK_lo h5.1 q _
  refine ⟨r1, r2, ⟨?_, rg_mir g2 h0.2 (E 0 (by omega) (by omega) (by omega)) (fun j a b => E j (by omega) (by omega) (by omega)) (e 2 (by omega) (by omega)), rg_pat g3 (E 1 (by omega) (by omega) (by omega)) (fun j a b => E j (by omega) (by omega) (by omega)) (fun k a b => e k (by omega) (by omega)), rg_wal g4 h2.2 (E 2 (by omega) (by omega) (by omega)) (fun j a b => E j (by omega) (by omega) (by omega)) (e 10 (by omega) (by omega)), rg_tap g5 h6.2 (E 6 (by omega) (by omega) (by omega)) (fun j a b => E j (by omega) (by omega) (by omega)) (e 11 (by omega) (by omega)), rg_pln g6 (fun j a b => E j (by omega) (by omega) (by omega)) (fun k a b => e k (by omega) (by omega)), ?_⟩, rg_vy r4 h7 v1 (E 7 (by omega) (by omega) (by omega)) (fun j a b => E j (by omega) (by omega) (by omega))⟩
  · rw [e1, E 0 (by omega) (by omega) (by omega), E 1 (by omega) (by omega) (by omega), E 2 (by omega) (by omega) (by omega), E 6 (by omega) (by omega) (by omega), E 3 (by omega) (by omega) (by omega), E 4 (by omega) (by omega) (by omega), show rj_up (rj_up (sp_vtK s x (s 1).toNat) 8 (s 1)) 5 (s 5 + 1) 5 = s 5 + 1 from rj_up_eq _ _ _, show rj_up (rj_up (sp_vtK s x (s 1).toNat) 8 (s 1)) 5 (s 5 + 1) 8 = s 1 from (rj_up_ne _ _ (by decide)).trans (rj_up_eq _ _ _)]
    obtain ⟨b1, b2, b3, b4, b5, b6, b7, b8, b9⟩ := g1
    exact ⟨by rw [rj_up_ne _ _ (by decide), rj_up_ne _ _ (by decide)]; exact b1, by rw [rj_up_ne _ _ (by decide), rj_up_ne _ _ (by decide)]; exact b2, by rw [rj_up_ne _ _ (by decide), rj_up_ne _ _ (by decide)]; exact b3, by rw [rj_up_ne _ _ (by decide), rj_up_ne _ _ (by decide)]; exact b4, by rw [rj_up_ne _ _ (by decide), rj_up_ne _ _ (by decide)]; exact b5, by rw [rj_up_ne _ _ (by decide), rj_up_ne _ _ (by decide)]; exact b6, by rw [rj_up_ne _ _ (by decide), rj_up_ne _ _ (by decide)]; exact b7, rj_up_eq _ _ _, by rw [rj_up_ne _ _ (by decide), rj_up_eq]⟩
  · intro a b a0 a1 b0 b1 hh
    rw [show rj_up (rj_up (sp_vtK s x (s 1).toNat) 8 (s 1)) 5 (s 5 + 1) 5 = s 5 + 1 from rj_up_eq _ _ _, show rj_up (rj_up (sp_vtK s x (s 1).toNat) 8 (s 1)) 5 (s 5 + 1) 8 = s 1 from (rj_up_ne _ _ (by decide)).trans (rj_up_eq _ _ _)] at hh
    rw [show 1 + (25 + a.toNat) = 26 + a.toNat by omega, ea a b a0 (by omega) b0 (by omega), hRa a b a0 a1 b0 b1 (by omega)]
    unfold sp_vn
    rw [show rj_up (rj_up (sp_vtK s x (s 1).toNat) 8 (s 1)) 5 (s 5 + 1) 5 = s 5 + 1 from rj_up_eq _ _ _, show (s 5 + 1).toNat = (s 5).toNat + 1 by omega, sp_sum]
    have hs : ∀ k : Int, 0 ≤ k → k < 5 → ∀ a : Int, 0 ≤ a → a < 6 → rj_up (rj_up (sp_vtK s x (s 1).toNat) 8 (s 1)) 5 (s 5 + 1) (999 + 6 * k + a) = sp_vtK s x (s 1).toNat (999 + 6 * k + a) := fun k _ _ a _ _ => by rw [rj_up_ne _ _ (by omega), rj_up_ne _ _ (by omega)]
    congr 1
    · refine sp_sum_ext _ (fun k k0 k1 => ?_)
      unfold sp_vc
      rw [hs k k0 (by omega) a a0 a1, hs k k0 (by omega) b b0 b1, sp_vtK_ag hB.2.2 (by omega) (by omega) _ (Nat.le_refl _), sp_vtK_ag hB.2.2 (by omega) (by omega) _ (Nat.le_refl _)]
    · unfold sp_vc
      rw [hs _ (by omega) (by omega) a a0 a1, hs _ (by omega) (by omega) b b0 b1]
      unfold sp_pos
      rw [show (((s 5).toNat : Nat) : Int) = s 5 by omega]
theorem sp_vt_not {s : Int → Int} {x : Int} {j : Nat} (hj : (j : Int) < s 1) (h : s 1 ≤ sp_dg x j) : ¬ sp_vtB s x := fun q => by have := sp_seen_d q.2.2 (j := j) (by omega); omega
theorem sp_ctd_s {s : Int → Int} {x d b a e : Int} (hB : sp_vtB s x) (hd : 0 ≤ d ∧ d < s 1) (hb : d < b ∧ b < s 1) (ha : 0 ≤ a ∧ a < s 1) (he : 0 ≤ e ∧ e < s 1) : (if sp_ctd s x d (b + 1) a e then (1 : Int) else 0) = (if sp_ctd s x d b a e then 1 else 0) + (if a = sp_bal s x d ∧ e = sp_bal s x b then 1 else 0) := by
  have h1 := sp_bal_sur hB ha
  have h2 := sp_bal_sur hB he
  have p1 := sp_pos_bal hB hd
  have p2 := sp_pos_bal hB (i := b) (by omega)
  by_cases h : a = sp_bal s x d ∧ e = sp_bal s x b
  · obtain ⟨rfl, rfl⟩ := h
    have e1 : (if sp_ctd s x d (b + 1) (sp_bal s x d) (sp_bal s x b) then (1 : Int) else 0) = 1 := if_pos (by unfold sp_ctd; rw [p1, p2]; omega)
    have e2 : (if sp_ctd s x d b (sp_bal s x d) (sp_bal s x b) then (1 : Int) else 0) = 0 := if_neg (by unfold sp_ctd; rw [p1, p2]; omega)
    have e3 : (if sp_bal s x d = sp_bal s x d ∧ sp_bal s x b = sp_bal s x b then (1 : Int) else 0) = 1 := if_pos ⟨rfl, rfl⟩
    rw [e1, e2, e3]; rfl
  · rw [if_neg h]
    have hne : ¬ (sp_pos s x a = d ∧ sp_pos s x e = b) := fun q => h ⟨by rw [← q.1]; exact h1.2.2.symm, by rw [← q.2]; exact h2.2.2.symm⟩
    unfold sp_ctd
    by_cases h9 : sp_pos s x a < sp_pos s x e ∧ (sp_pos s x a < d ∨ sp_pos s x a = d ∧ sp_pos s x e < b)
    · rw [if_pos h9, if_pos (by omega)]; rfl
    · rw [if_neg h9, if_neg (by omega)]; rfl
theorem sp_ctd_n {s : Int → Int} {x d b a e : Int} (hB : sp_vtB s x) (hb : s 1 ≤ b) (ha : 0 ≤ a ∧ a < s 1) (he : 0 ≤ e ∧ e < s 1) : (if sp_ctd s x (d + 1) (d + 1 + 1) a e then (1 : Int) else 0) = (if sp_ctd s x d b a e then 1 else 0) := by
  have h1 := sp_bal_sur hB ha
  have h2 := sp_bal_sur hB he
  unfold sp_ctd
  by_cases h9 : sp_pos s x a < sp_pos s x e ∧ (sp_pos s x a < d ∨ sp_pos s x a = d ∧ sp_pos s x e < b)
  · rw [if_pos h9, if_pos (by omega)]
  · rw [if_neg h9, if_neg (by omega)]
theorem sp_ctd_0 {s : Int → Int} {x a e : Int} (hB : sp_vtB s x) (ha : 0 ≤ a ∧ a < s 1) : (if sp_ctd s x 0 1 a e then (1 : Int) else 0) = 0 := by
  have h1 := sp_bal_sur hB ha
  unfold sp_ctd
  rw [if_neg (by omega)]
/-- the counts of ahead on the way -/
def rc_av (s : Int → Int) (x : Int) (c c1 : rm_R) (d b : Int) : Prop := ∀ a e : Int, 0 ≤ a → a < s 1 → 0 ≤ e → e < s 1 → c1 (26 + a.toNat) e = c (26 + a.toNat) e + (if sp_ctd s x d b a e then 1 else 0)
theorem rc_av.up {s : Int → Int} {x : Int} {c c1 : rm_R} {d b w : Int} (h : rc_av s x c c1 d b) (hB : sp_vtB s x) (hd : 0 ≤ d ∧ d < s 1) (hb : d < b ∧ b < s 1) (hw : w = c1 (26 + (sp_bal s x d).toNat) (sp_bal s x b) + 1) : rc_av s x c (rm_u c1 (26 + (sp_bal s x d).toNat) (rj_up (c1 (26 + (sp_bal s x d).toNat)) (sp_bal s x b) w)) d (b + 1) := by
  intro a e a0 a1 e0 e1
  have hbd := sp_bal_b hB hd
  have hbb := sp_bal_b hB (i := b) (by omega)
  rw [sp_ctd_s hB hd hb ⟨a0, a1⟩ ⟨e0, e1⟩]
  by_cases ha : a = sp_bal s x d
  · rw [ha, rm_u_eq]
    by_cases he : e = sp_bal s x b
    · rw [he, rj_up_eq, hw, h _ _ hbd.1 hbd.2 hbb.1 hbb.2, if_pos (⟨rfl, rfl⟩ : sp_bal s x d = sp_bal s x d ∧ sp_bal s x b = sp_bal s x b)]; omega
    · rw [rj_up_ne _ _ he, h _ e hbd.1 hbd.2 e0 e1, if_neg (fun q : sp_bal s x d = sp_bal s x d ∧ e = sp_bal s x b => he q.2)]; omega
  · rw [rm_u_ne _ _ (by omega), h a e a0 a1 e0 e1, if_neg (fun q : a = sp_bal s x d ∧ e = sp_bal s x b => ha q.1)]; omega
set_option maxRecDepth 20000 in
/-- x_readBallot -/
theorem x_readBallot {X9 : rj_X} {σ : rj_H} {d cb vv vk : Nat} {c : rm_R} {x : Int} (hx : -2147483648 ≤ x ∧ x < 2147483648) {s : Int → Int} {ad : Nat → Int → Nat} (hR : rc_R X9 cb vv vk c σ s ad) (hI : sp_I s) (h1p : 1 ≤ s 1) : rj_Cl X9 d yX11_readBallot cX11_readBallot 6 (some .boolean) [.ref cb, rj_i x] (rc_p X9 cb vv vk c σ) (fun w9 τ => w9 = some (rj_i (rj_b (sp_vtB s x))) ∧ ∃ c0, rc_t 65 c c0 ∧ (sp_vtB s x → ∀ i : Nat, i < (s 1).toNat → c0 91 (s 1 - 1 - (i : Int)) = sp_dg x i) ∧ τ = rc_p X9 cb vv vk c0 σ) := by
  obtain ⟨⟨h0, h1, h2, h3, h4, h5, h6, h7⟩, hM, hP, hW, hL, hV⟩ := id hI
  obtain ⟨v1, v2, v3, v4⟩ := id hV
  refine go_call (by decide +kernel) (Nat.le_of_ble_eq_true rfl) ?_
  refine go_eq (pc' := 0) (lv' := [(0, .ref cb), (1, rj_i x)]) (st' := []) rfl rfl rfl rfl ?_
  refine go_iload_n dX11_readBallot_0 rfl 1 rfl ?_
  refine go_if_geI (tgt := 6) (by omega) dX11_readBallot_1 (by decide) (fun c_1 => ?_) (fun c_1 => ?_)
  · refine go_iload_n dX11_readBallot_6 rfl 1 rfl ?_
    refine go_istore_nS (lv' := [(0, .ref cb), (1, rj_i x), (2, rj_i x)]) rfl (by decide) rfl dX11_readBallot_7 ?_
    refine go_iconst (v := Int32.ofInt 0) dX11_readBallot_8 rfl ?_
    refine go_istore_nS (lv' := [(0, .ref cb), (1, rj_i x), (2, rj_i x), (3, rj_i 0)]) rfl (by decide) rfl dX11_readBallot_9 ?_
    refine go_aload_n dX11_readBallot_10 rfl 0 rfl ?_
    refine rc_gx hR.V (k := 0) (by decide) fX11_12 rfl dX11_readBallot_11 ?_
    refine rc_gs hR.V (k := 3) (v := rj_i (s 1)) (by decide) fX11_76 (rj_vi hR.n1) dX11_readBallot_14 ?_
    refine go_iconst (v := Int32.ofInt 1) dX11_readBallot_17 rfl ?_
    refine go_subI dX11_readBallot_18 ?_
    refine go_istoreS (lv' := [(0, .ref cb), (1, rj_i x), (2, rj_i x), (3, rj_i 0), (4, rj_i ((s 1) - 1))]) (by decide) rfl dX11_readBallot_19 ?_
    have loopx : ∀ (nx : Nat) (j : Nat) (cl : rm_R), j + nx = (s 1).toNat → rc_t 65 c cl → (∀ i : Nat, i < j → cl 91 (s 1 - 1 - (i : Int)) = sp_dg x i) → rj_Go X9 yX11_readBallot cX11_readBallot 6 (some .boolean) d (fun w9 τ => w9 = some (rj_i (rj_b (sp_vtB s x))) ∧ ∃ c0, rc_t 65 c c0 ∧ (sp_vtB s x → ∀ i : Nat, i < (s 1).toNat → c0 91 (s 1 - 1 - (i : Int)) = sp_dg x i) ∧ τ = rc_p X9 cb vv vk c0 σ) 21 [(0, .ref cb), (1, rj_i x), (2, rj_i (sp_lf x j)), (3, rj_i (sp_seen x j : Int)), (4, rj_i (s 1 - 1 - (j : Int)))] [] (rc_p X9 cb vv vk cl σ) := by
      intro nx
      induction nx with
      | zero =>
        intro j cl hk hl hbl
        have lb := sp_lf_b (x := x) (by omega) j
        have sb := sp_seen_b x j
        have hj1 : (s 1).toNat = j := by omega
        have l0 : sp_lf x j = 0 ↔ x < 10 ^ (s 1).toNat := by rw [hj1]; exact sp_lf_0 (x := x) (n := j) (by omega)
        have hs9 : sp_seen x (s 1).toNat = sp_seen x j := by rw [hj1]
        have hp2 := sp_p2 (s 1).toNat (by omega)
        have hpn := rj_n2 (s 1).toNat
        refine go_iload dX11_readBallot_21 4 rfl ?_
        refine go_if_ltI (tgt := 73) (by omega) dX11_readBallot_23 (by decide) (fun c_23 => ?_) (fun c_23 => ?_)
        · refine go_iload_n dX11_readBallot_73 rfl 2 rfl ?_
          refine go_if_neI (tgt := 96) (by omega) dX11_readBallot_74 (by decide) (fun c_74 => ?_) (fun c_74 => ?_)
          · refine go_iconst (v := Int32.ofInt 0) dX11_readBallot_96 rfl ?_
            refine go_retI rfl (rj_n01 (by decide)) ?_ dX11_readBallot_97
            exact ⟨rj_vi (rj_bf (fun q => by have q2 := q.2.1; have q3 := q.2.2; have := l0.mpr q2; omega)).symm, cl, hl, (fun q i i0 => hbl i (by omega)), rfl⟩
          · refine go_iload_n dX11_readBallot_77 rfl 3 rfl ?_
            refine go_iconst (v := Int32.ofInt 1) dX11_readBallot_78 rfl ?_
            refine go_aload_n dX11_readBallot_79 rfl 0 rfl ?_
            refine rc_gx (hR.t hl).V (k := 0) (by decide) fX11_12 rfl dX11_readBallot_80 ?_
            refine rc_gs (hR.t hl).V (k := 3) (v := rj_i (s 1)) (by decide) fX11_76 (rj_vi (hR.t hl).n1) dX11_readBallot_83 ?_
            refine go_shlI (k := s 1) (by omega) dX11_readBallot_86 ?_
            refine go_iconst (v := Int32.ofInt 1) dX11_readBallot_87 rfl ?_
            refine go_subI dX11_readBallot_88 ?_
            refine go_icmp_neI (tgt := 96) (by omega) (by omega) dX11_readBallot_89 (by decide) (fun c_89 => ?_) (fun c_89 => ?_)
            · refine go_iconst (v := Int32.ofInt 0) dX11_readBallot_96 rfl ?_
              refine go_retI rfl (rj_n01 (by decide)) ?_ dX11_readBallot_97
              exact ⟨rj_vi (rj_bf (fun q => by have q2 := q.2.1; have q3 := q.2.2; have := l0.mpr q2; omega)).symm, cl, hl, (fun q i i0 => hbl i (by omega)), rfl⟩
            · refine go_iconst (v := Int32.ofInt 1) dX11_readBallot_92 rfl ?_
              refine go_goto (tgt := 97) dX11_readBallot_93 (by decide) ?_
              refine go_retI rfl (rj_n01 (by decide)) ?_ dX11_readBallot_97
              exact ⟨rj_vi (rj_bt ⟨by omega, l0.mp (by omega), by omega⟩).symm, cl, hl, (fun q i i0 => hbl i (by omega)), rfl⟩
        · exact absurd c_23 (by omega)
      | succ nx ihx =>
        intro j cl hk hl hbl
        have lb := sp_lf_b (x := x) (by omega) j
        have db := sp_dg_b x j
        have sb := sp_seen_b x j
        refine go_iload dX11_readBallot_21 4 rfl ?_
        refine go_if_ltI (tgt := 73) (by omega) dX11_readBallot_23 (by decide) (fun c_23 => ?_) (fun c_23 => ?_)
        · exact absurd c_23 (by omega)
        · refine go_iload_n dX11_readBallot_26 rfl 2 rfl ?_
          refine go_bipush (v := Int32.ofInt 10) dX11_readBallot_27 (by decide) ?_
          refine go_remI (by omega) (by omega) dX11_readBallot_29 ?_
          rw [show sp_lf x j % 10 = sp_dg x j from rfl]
          refine go_istoreS (lv' := [(0, .ref cb), (1, rj_i x), (2, rj_i (sp_lf x j)), (3, rj_i (sp_seen x j : Int)), (4, rj_i (s 1 - 1 - (j : Int))), (5, rj_i (sp_dg x j))]) (by decide) rfl dX11_readBallot_30 ?_
          refine go_iload_n dX11_readBallot_32 rfl 2 rfl ?_
          refine go_bipush (v := Int32.ofInt 10) dX11_readBallot_33 (by decide) ?_
          refine go_divI (by omega) (by omega) dX11_readBallot_35 ?_
          refine go_istore_nS (lv' := [(0, .ref cb), (1, rj_i x), (2, rj_i ((sp_lf x j) / 10)), (3, rj_i (sp_seen x j : Int)), (4, rj_i (s 1 - 1 - (j : Int))), (5, rj_i (sp_dg x j))]) rfl (by decide) rfl dX11_readBallot_36 ?_
          refine go_iload dX11_readBallot_37 5 rfl ?_
          refine go_aload_n dX11_readBallot_39 rfl 0 rfl ?_
          refine rc_gx (hR.t hl).V (k := 0) (by decide) fX11_12 rfl dX11_readBallot_40 ?_
          refine rc_gs (hR.t hl).V (k := 3) (v := rj_i (s 1)) (by decide) fX11_76 (rj_vi (hR.t hl).n1) dX11_readBallot_43 ?_
          refine go_icmp_ltI (tgt := 51) (by omega) (by omega) dX11_readBallot_46 (by decide) (fun c_46 => ?_) (fun c_46 => ?_)
          · refine go_iload_n dX11_readBallot_51 rfl 3 rfl ?_
            refine go_iconst (v := Int32.ofInt 1) dX11_readBallot_52 rfl ?_
            refine go_iload dX11_readBallot_53 5 rfl ?_
            refine go_shlI (k := sp_dg x j) (by omega) dX11_readBallot_55 ?_
            refine go_orN (a := sp_seen x j) (k := (sp_dg x j).toNat) sb (by omega) dX11_readBallot_56 ?_
            refine go_istore_nS (lv' := [(0, .ref cb), (1, rj_i x), (2, rj_i ((sp_lf x j) / 10)), (3, rj_i ((sp_seen x j ||| 2 ^ (sp_dg x j).toNat : Nat) : Int)), (4, rj_i (s 1 - 1 - (j : Int))), (5, rj_i (sp_dg x j))]) rfl (by decide) rfl dX11_readBallot_57 ?_
            refine go_aload_n dX11_readBallot_58 rfl 0 rfl ?_
            refine rc_gx (hR.t hl).V (k := 9) (by decide) fX11_50 rfl dX11_readBallot_59 ?_
            refine go_iload dX11_readBallot_62 4 rfl ?_
            refine go_iload dX11_readBallot_64 5 rfl ?_
            refine rc_st (hR.t hl).V (n := 91) (L := 6) rfl (fun _ => rfl) (by omega) (by omega) (by decide) dX11_readBallot_66 ?_
            refine go_iincI (a := s 1 - 1 - (j : Int)) (n := -1) (k0 := 4) (lv' := [(0, .ref cb), (1, rj_i x), (2, rj_i ((sp_lf x j) / 10)), (3, rj_i ((sp_seen x j ||| 2 ^ (sp_dg x j).toNat : Nat) : Int)), (4, rj_i (s 1 - 1 - (j : Int) + (-1))), (5, rj_i (sp_dg x j))]) rfl (by decide) rfl dX11_readBallot_67 ?_
            refine go_goto (tgt := 21) dX11_readBallot_70 (by decide) ?_
            refine go_sub (lv' := [(0, .ref cb), (1, rj_i x), (2, rj_i ((sp_lf x j) / 10)), (3, rj_i ((sp_seen x j ||| 2 ^ (sp_dg x j).toNat : Nat) : Int)), (4, rj_i (s 1 - 1 - (j : Int) + (-1)))]) (by intro q hq; simp only [List.mem_cons, List.not_mem_nil, or_false] at hq ⊢; rcases hq with rfl | rfl | rfl | rfl | rfl <;> simp) ?_
            exact go_eq rfl (lv' := [(0, .ref cb), (1, rj_i x), (2, rj_i (sp_lf x (j + 1))), (3, rj_i (sp_seen x (j + 1) : Int)), (4, rj_i (s 1 - 1 - ((j + 1 : Nat) : Int)))]) (rj_lk (rj_lk (rj_lj (rfl) (rj_lj (rfl) (rj_lj (by omega) rfl))))) rfl rfl (ihx (j + 1) (rm_u cl 91 (rj_up (cl 91) (s 1 - 1 - (j : Int)) (sp_dg x j))) (by omega) (hl.tr (rc_t.u (by omega))) (fun i i0 => by rw [rm_u_eq]; by_cases hi : i = j; (· subst hi; rw [rj_up_eq]); (· rw [rj_up_ne _ _ (by omega)]; exact hbl i (by omega))))
          · refine go_iconst (v := Int32.ofInt 0) dX11_readBallot_49 rfl ?_
            refine go_retI rfl (rj_n01 (by decide)) ?_ dX11_readBallot_50
            exact ⟨rj_vi (rj_bf (sp_vt_not (j := j) (by omega) (by omega))).symm, cl, hl, fun q => absurd q (sp_vt_not (j := j) (by omega) (by omega)), rfl⟩
    exact go_eq rfl (lv' := [(0, .ref cb), (1, rj_i x), (2, rj_i (sp_lf x 0)), (3, rj_i (sp_seen x 0 : Int)), (4, rj_i (s 1 - 1 - ((0 : Nat) : Int)))]) (rj_lk (rj_lk (rj_lj (rfl) (rj_lj (rfl) (rj_lj (by omega) rfl))))) rfl rfl (loopx (s 1).toNat 0 c (by omega) rc_t.rf (fun i i0 => by omega))
  · refine go_iconst (v := Int32.ofInt 0) dX11_readBallot_4 rfl ?_
    refine go_retI rfl (rj_n01 (by decide)) ?_ dX11_readBallot_5
    exact ⟨rj_vi (rj_bf (fun q => by have := q.1; omega)).symm, c, rc_t.rf, fun q => by have := q.1; omega, rfl⟩
set_option maxRecDepth 20000 in
set_option maxHeartbeats 2000000 in
/-- x_vote -/
theorem x_vote {X9 : rj_X} {σ : rj_H} {d cb vv vk : Nat} {c : rm_R} {x : Int} (hd : 2 ≤ d) (hx : -2147483648 ≤ x ∧ x < 2147483648) {s : Int → Int} {ad : Nat → Int → Nat} (hR : rc_R X9 cb vv vk c σ s ad) (hI : sp_I s) (h8 : 0 ≤ s 8 ∧ s 8 ≤ 6) : rj_Cl X9 d yX11_vote cX11_vote 4 (some .int) [.ref cb, rj_i x] (rc_p X9 cb vv vk c σ) (fun w9 τ => w9 = some (rj_i (sp_voteF s x)) ∧ rc_E X9 cb vv vk c σ ad (sp_voteS s x) τ) := by
  obtain ⟨⟨h0, h1, h2, h3, h4, h5, h6, h7⟩, hM, hP, hW, hL, hV⟩ := id hI
  obtain ⟨v1, v2, v3, v4⟩ := id hV
  refine go_call (by decide +kernel) (Nat.le_of_ble_eq_true rfl) ?_
  refine go_eq (pc' := 0) (lv' := [(0, .ref cb), (1, rj_i x)]) (st' := []) rfl rfl rfl rfl ?_
  refine go_aload_n dX11_vote_0 rfl 0 rfl ?_
  refine rc_gx hR.V (k := 0) (by decide) fX11_12 rfl dX11_vote_1 ?_
  refine rc_gs hR.V (k := 3) (v := rj_i (s 1)) (by decide) fX11_76 (rj_vi hR.n1) dX11_vote_4 ?_
  refine go_if_eqI (tgt := 20) (by omega) dX11_vote_7 (by decide) (fun c_7 => ?_) (fun c_7 => ?_)
  · refine go_bipush (v := Int32.ofInt (-3)) dX11_vote_20 (by decide) ?_
    refine go_retI rfl rfl ?_ dX11_vote_22
    exact ⟨rj_vi (by unfold sp_voteF; rw [if_pos (by omega)]), c, (by unfold sp_voteS; rw [if_neg (by omega)]; exact hR), rc_kp.rf, rfl⟩
  · refine go_aload_n dX11_vote_10 rfl 0 rfl ?_
    refine rc_gx hR.V (k := 0) (by decide) fX11_12 rfl dX11_vote_11 ?_
    refine go_callV (d1 := d - 1) wVX11_233 kX5 (rc_a1 hR.V) rfl (by omega) (x_newPatch hR hI h8) rfl (Nat.le_of_ble_eq_true rfl) dX11_vote_14 (fun w σ1 hP9 => ?_)
    obtain ⟨rfl, rfl⟩ := hP9
    refine go_if_eqB (tgt := 23) dX11_vote_17 (by decide) (fun c_17 => ?_) (fun c_17 => ?_)
    · refine go_aload_n dX11_vote_23 rfl 0 rfl ?_
      refine go_iload_n dX11_vote_24 rfl 1 rfl ?_
      refine go_callV (d1 := d - 1) wVX11_237 kX11 (rc_a0 hR.V) rfl (by omega) (x_readBallot (x := x) (by omega) hR hI (by omega)) rfl (Nat.le_of_ble_eq_true rfl) dX11_vote_25 (fun w σ1 hP9 => ?_)
      obtain ⟨rfl, c1, hr1, hbl1, rfl⟩ := hP9
      refine go_if_neB (tgt := 34) dX11_vote_28 (by decide) (fun c_28 => ?_) (fun c_28 => ?_)
      · refine go_aload_n dX11_vote_34 rfl 0 rfl ?_
        refine rc_gx (hR.t hr1).V (k := 0) (by decide) fX11_12 rfl dX11_vote_35 ?_
        refine rc_gs (hR.t hr1).V (k := 13) (v := rj_i (s 5)) (by decide) fX11_240 (rj_vi (hR.t hr1).n5) dX11_vote_38 ?_
        refine go_iconst (v := Int32.ofInt 5) dX11_vote_41 rfl ?_
        refine go_icmp_ltI (tgt := 48) (by omega) (by omega) dX11_vote_42 (by decide) (fun c_42 => ?_) (fun c_42 => ?_)
        · refine go_iconst (v := Int32.ofInt 0) dX11_vote_48 rfl ?_
          refine go_istore_nS (lv' := [(0, .ref cb), (1, rj_i x), (2, rj_i 0)]) rfl (by decide) rfl dX11_vote_49 ?_
          have hB := c_28
          have hbal : ∀ i : Int, 0 ≤ i → i < s 1 → c1 91 i = sp_bal s x i := fun i i0 i1 => by have h := hbl1 hB (s 1 - 1 - i).toNat (by omega); unfold sp_bal; rw [← h]; congr 1; omega
          have hR1 := hR.t hr1
          have hc11 : c1 1 = c 1 := hr1 1 (by decide)
          have loopA : ∀ (nA : Nat) (dv : Nat) (ca : rm_R), dv + nA = (s 1).toNat → (∀ k : Nat, (k < 26 ∨ 32 ≤ k) → ca k = c1 k) → rc_kp c ca → rc_av s x c1 ca (dv : Int) ((dv : Int) + 1) → rj_Go X9 yX11_vote cX11_vote 4 (some .int) d (fun w9 τ => w9 = some (rj_i (sp_voteF s x)) ∧ rc_E X9 cb vv vk c σ ad (sp_voteS s x) τ) 50 [(0, .ref cb), (1, rj_i x), (2, rj_i (dv : Int))] [] (rc_p X9 cb vv vk ca σ) := by
            intro nA
            induction nA with
            | zero =>
              intro dv ca hda hoa hka hva
              have hfin : ∀ a b : Int, 0 ≤ a → a < s 1 → 0 ≤ b → b < s 1 → ca (26 + a.toNat) b = c1 (26 + a.toNat) b + (if sp_pos s x a < sp_pos s x b then 1 else 0) := fun a b a0 a1 b0 b1 => by have hs1 := sp_bal_sur hB ⟨a0, a1⟩; have hs2 := sp_bal_sur hB ⟨b0, b1⟩; rw [hva a b a0 a1 b0 b1]; congr 1; unfold sp_ctd; by_cases hh : sp_pos s x a < sp_pos s x b; (· rw [if_pos hh, if_pos (by omega)]); (· rw [if_neg hh, if_neg (fun q => hh q.1)])
              refine go_iload_n dX11_vote_50 rfl 2 rfl ?_
              refine go_aload_n dX11_vote_51 rfl 0 rfl ?_
              refine rc_gx hR.V (k := 0) (by decide) fX11_12 rfl dX11_vote_52 ?_
              refine rc_gs hR.V (k := 3) (by decide) fX11_76 rfl dX11_vote_55 ?_
              rw [show ca 1 = (c 1) from ((hoa 1 (by omega)).trans hc11)]
              rw [show c 1 3 = s 1 from hR.n1]
              refine go_icmp_geI (tgt := 113) (by omega) (by omega) dX11_vote_58 (by decide) (fun c_58 => ?_) (fun c_58 => ?_)
              · refine go_aload_n dX11_vote_113 rfl 0 rfl ?_
                refine rc_gx hR.V (k := 0) (by decide) fX11_12 rfl dX11_vote_114 ?_
                refine go_aload_n dX11_vote_117 rfl 0 rfl ?_
                refine rc_gx hR.V (k := 0) (by decide) fX11_12 rfl dX11_vote_118 ?_
                refine rc_gs hR.V (k := 3) (by decide) fX11_76 rfl dX11_vote_121 ?_
                rw [show ca 1 = (c 1) from ((hoa 1 (by omega)).trans hc11)]
                rw [show c 1 3 = s 1 from hR.n1]
                refine rc_ps14 hR.V fX11_246 dX11_vote_124 ?_
                refine go_aload_n dX11_vote_127 rfl 0 rfl ?_
                refine rc_gx hR.V (k := 0) (by decide) fX11_12 rfl dX11_vote_128 ?_
                refine go_dup dX11_vote_131 rfl ?_
                refine rc_gs hR.V (k := 13) (by decide) fX11_240 rfl dX11_vote_132 ?_
                rw [show (rm_u ca 1 (rj_up (ca 1) 14 (s 1))) 1 = (rj_up (c 1) 14 (s 1)) from (congrArg (fun zz => rj_up zz 14 (s 1)) (show ca 1 = (c 1) from ((hoa 1 (by omega)).trans hc11)))]
                rw [show (rj_up (c 1) 14 (s 1)) 13 = s 5 from by rw [rj_up_ne _ _ (by decide)]; exact hR.n5]
                refine go_iconst (v := Int32.ofInt 1) dX11_vote_135 rfl ?_
                refine go_addI dX11_vote_136 ?_
                refine rc_ps13 hR.V fX11_240 dX11_vote_137 ?_
                refine go_aload_n dX11_vote_140 rfl 0 rfl ?_
                refine rc_gx hR.V (k := 0) (by decide) fX11_12 rfl dX11_vote_141 ?_
                refine rc_gs hR.V (k := 13) (by decide) fX11_240 rfl dX11_vote_144 ?_
                rw [show (rm_u (rm_u ca 1 (rj_up (ca 1) 14 (s 1))) 1 (rj_up ((rm_u ca 1 (rj_up (ca 1) 14 (s 1))) 1) 13 ((s 5) + 1))) 1 = (rj_up (rj_up (c 1) 14 (s 1)) 13 ((s 5) + 1)) from (congrArg (fun zz => rj_up zz 13 ((s 5) + 1)) (show (rm_u ca 1 (rj_up (ca 1) 14 (s 1))) 1 = (rj_up (c 1) 14 (s 1)) from (congrArg (fun zz => rj_up zz 14 (s 1)) (show ca 1 = (c 1) from ((hoa 1 (by omega)).trans hc11)))))]
                rw [show (rj_up (rj_up (c 1) 14 (s 1)) 13 ((s 5) + 1)) 13 = s 5 + 1 from rj_up_eq _ _ _]
                refine go_retI rfl rfl ?_ dX11_vote_147
                exact ⟨rj_vi (by unfold sp_voteF; rw [if_neg (by omega), if_neg (fun q => q hB), if_neg (by omega)]), _, (by unfold sp_voteS; rw [if_pos ⟨by omega, hB, by omega⟩]; exact e_vote hR1 hI (by omega) hB (by omega) (fun k k0 k1 => by rw [rm_u_ne _ _ (by omega), rm_u_ne _ _ (by omega)]; exact hoa k (by omega)) ((show (rm_u (rm_u ca 1 (rj_up (ca 1) 14 (s 1))) 1 (rj_up ((rm_u ca 1 (rj_up (ca 1) 14 (s 1))) 1) 13 ((s 5) + 1))) 1 = (rj_up (rj_up (c 1) 14 (s 1)) 13 ((s 5) + 1)) from (congrArg (fun zz => rj_up zz 13 ((s 5) + 1)) (show (rm_u ca 1 (rj_up (ca 1) 14 (s 1))) 1 = (rj_up (c 1) 14 (s 1)) from (congrArg (fun zz => rj_up zz 14 (s 1)) (show ca 1 = (c 1) from ((hoa 1 (by omega)).trans hc11)))))).trans (by rw [hc11])) (fun a b a0 a1 b0 b1 => by rw [rm_u_ne _ _ (by omega), rm_u_ne _ _ (by omega)]; exact hfin a b a0 a1 b0 b1)), ((hka.tr (rc_kp.u (by omega))).tr (rc_kp.u (by omega))), rfl⟩
              · exact absurd c_58 (by omega)
            | succ nA ihA =>
              intro dv ca hda hoa hka hva
              refine go_iload_n dX11_vote_50 rfl 2 rfl ?_
              refine go_aload_n dX11_vote_51 rfl 0 rfl ?_
              refine rc_gx hR.V (k := 0) (by decide) fX11_12 rfl dX11_vote_52 ?_
              refine rc_gs hR.V (k := 3) (by decide) fX11_76 rfl dX11_vote_55 ?_
              rw [show ca 1 = (c 1) from ((hoa 1 (by omega)).trans hc11)]
              rw [show c 1 3 = s 1 from hR.n1]
              refine go_icmp_geI (tgt := 113) (by omega) (by omega) dX11_vote_58 (by decide) (fun c_58 => ?_) (fun c_58 => ?_)
              · exact absurd c_58 (by omega)
              · refine go_iload_n dX11_vote_61 rfl 2 rfl ?_
                refine go_iconst (v := Int32.ofInt 1) dX11_vote_62 rfl ?_
                refine go_addI dX11_vote_63 ?_
                refine go_istore_nS (lv' := [(0, .ref cb), (1, rj_i x), (2, rj_i (dv : Int)), (3, rj_i ((dv : Int) + 1))]) rfl (by decide) rfl dX11_vote_64 ?_
                have loopB : ∀ (nB : Nat) (b : Nat) (cbb : rm_R), b + nB = (s 1).toNat → dv < b → (∀ k : Nat, (k < 26 ∨ 32 ≤ k) → cbb k = c1 k) → rc_kp c cbb → rc_av s x c1 cbb (dv : Int) (b : Int) → rj_Go X9 yX11_vote cX11_vote 4 (some .int) d (fun w9 τ => w9 = some (rj_i (sp_voteF s x)) ∧ rc_E X9 cb vv vk c σ ad (sp_voteS s x) τ) 65 [(0, .ref cb), (1, rj_i x), (2, rj_i (dv : Int)), (3, rj_i (b : Int))] [] (rc_p X9 cb vv vk cbb σ) := by
                  intro nB
                  induction nB with
                  | zero =>
                    intro b cbb hkb2 hdb hob hkb hvb
                    refine go_iload_n dX11_vote_65 rfl 3 rfl ?_
                    refine go_aload_n dX11_vote_66 rfl 0 rfl ?_
                    refine rc_gx hR.V (k := 0) (by decide) fX11_12 rfl dX11_vote_67 ?_
                    refine rc_gs hR.V (k := 3) (by decide) fX11_76 rfl dX11_vote_70 ?_
                    rw [show cbb 1 = (c 1) from ((hob 1 (by omega)).trans hc11)]
                    rw [show c 1 3 = s 1 from hR.n1]
                    refine go_icmp_geI (tgt := 107) (by omega) (by omega) dX11_vote_73 (by decide) (fun c_73 => ?_) (fun c_73 => ?_)
                    · refine go_iincI (a := (dv : Int)) (n := 1) (k0 := 2) (lv' := [(0, .ref cb), (1, rj_i x), (2, rj_i ((dv : Int) + 1)), (3, rj_i (b : Int))]) rfl (by decide) rfl dX11_vote_107 ?_
                      refine go_goto (tgt := 50) dX11_vote_110 (by decide) ?_
                      refine go_sub (lv' := [(0, .ref cb), (1, rj_i x), (2, rj_i ((dv : Int) + 1))]) (by intro q hq; simp only [List.mem_cons, List.not_mem_nil, or_false] at hq ⊢; rcases hq with rfl | rfl | rfl <;> simp) ?_
                      exact go_eq rfl (lv' := [(0, .ref cb), (1, rj_i x), (2, rj_i ((dv + 1 : Nat) : Int))]) (rj_lk (rj_lk (rj_lj (by omega) rfl))) rfl rfl (ihA (dv + 1) cbb (by omega) hob hkb (fun a e a0 a1 e0 e1 => by rw [show ((dv + 1 : Nat) : Int) = (dv : Int) + 1 by omega, sp_ctd_n hB (b := (b : Int)) (by omega) ⟨a0, a1⟩ ⟨e0, e1⟩]; exact hvb a e a0 a1 e0 e1))
                    · exact absurd c_73 (by omega)
                  | succ nB ihB =>
                    intro b cbb hkb2 hdb hob hkb hvb
                    have bd := sp_bal_b hB (i := (dv : Int)) (by omega)
                    have bb := sp_bal_b hB (i := (b : Int)) (by omega)
                    refine go_iload_n dX11_vote_65 rfl 3 rfl ?_
                    refine go_aload_n dX11_vote_66 rfl 0 rfl ?_
                    refine rc_gx hR.V (k := 0) (by decide) fX11_12 rfl dX11_vote_67 ?_
                    refine rc_gs hR.V (k := 3) (by decide) fX11_76 rfl dX11_vote_70 ?_
                    rw [show cbb 1 = (c 1) from ((hob 1 (by omega)).trans hc11)]
                    rw [show c 1 3 = s 1 from hR.n1]
                    refine go_icmp_geI (tgt := 107) (by omega) (by omega) dX11_vote_73 (by decide) (fun c_73 => ?_) (fun c_73 => ?_)
                    · exact absurd c_73 (by omega)
                    · refine go_aload_n dX11_vote_76 rfl 0 rfl ?_
                      refine rc_gx hR.V (k := 0) (by decide) fX11_12 rfl dX11_vote_77 ?_
                      refine rc_gs hR.V (k := 12) (v := .ref (cb + 25)) (by decide) fX11_243 rfl dX11_vote_80 ?_
                      refine go_aload_n dX11_vote_83 rfl 0 rfl ?_
                      refine rc_gx hR.V (k := 9) (by decide) fX11_50 rfl dX11_vote_84 ?_
                      refine go_iload_n dX11_vote_87 rfl 2 rfl ?_
                      refine rc_ld hR.V (n := 91) (L := 6) rfl rfl (by omega) (by omega) (by decide) dX11_vote_88 ?_
                      rw [show cbb 91 = (c1 91) from (hob 91 (by omega))]
                      rw [show (c1 91) (dv : Int) = sp_bal s x (dv : Int) from hbal _ (by omega) (by omega)]
                      refine rc_r26 hR.V (z := sp_bal s x (dv : Int)) (by omega) (by omega) dX11_vote_89 ?_
                      refine go_aload_n dX11_vote_90 rfl 0 rfl ?_
                      refine rc_gx hR.V (k := 9) (by decide) fX11_50 rfl dX11_vote_91 ?_
                      refine go_iload_n dX11_vote_94 rfl 3 rfl ?_
                      refine rc_ld hR.V (n := 91) (L := 6) rfl rfl (by omega) (by omega) (by decide) dX11_vote_95 ?_
                      rw [show cbb 91 = (c1 91) from (hob 91 (by omega))]
                      rw [show (c1 91) (b : Int) = sp_bal s x (b : Int) from hbal _ (by omega) (by omega)]
                      refine go_dup2_11 dX11_vote_96 rfl rfl ?_
                      refine rc_l26 hR.V (i := (sp_bal s x (dv : Int))) (by omega) (by omega) (by omega) (by omega) dX11_vote_97 ?_
                      refine go_iconst (v := Int32.ofInt 1) dX11_vote_98 rfl ?_
                      refine go_addI dX11_vote_99 ?_
                      refine rc_s26 hR.V (i := (sp_bal s x (dv : Int))) (by omega) (by omega) (by omega) (by omega) dX11_vote_100 ?_
                      refine go_iincI (a := (b : Int)) (n := 1) (k0 := 3) (lv' := [(0, .ref cb), (1, rj_i x), (2, rj_i (dv : Int)), (3, rj_i ((b : Int) + 1))]) rfl (by decide) rfl dX11_vote_101 ?_
                      refine go_goto (tgt := 65) dX11_vote_104 (by decide) ?_
                      exact go_eq rfl (lv' := [(0, .ref cb), (1, rj_i x), (2, rj_i (dv : Int)), (3, rj_i ((b + 1 : Nat) : Int))]) (rj_lk (rj_lk (rj_lk (rj_lj (by omega) rfl)))) rfl rfl (ihB (b + 1) (rm_u cbb (26 + (sp_bal s x (dv : Int)).toNat) (rj_up (cbb (26 + (sp_bal s x (dv : Int)).toNat)) (sp_bal s x (b : Int)) ((cbb (26 + (sp_bal s x (dv : Int)).toNat) (sp_bal s x (b : Int))) + 1))) (by omega) (by omega) (fun k k0 => by rw [rm_u_ne _ _ (by omega)]; exact hob k k0) (hkb.tr (rc_kp.u (by omega))) (hvb.up hB (by omega) (by omega) rfl))
                exact go_eq rfl (lv' := [(0, .ref cb), (1, rj_i x), (2, rj_i (dv : Int)), (3, rj_i ((dv + 1 : Nat) : Int))]) (rj_lk (rj_lk (rj_lk (rj_lj (by omega) rfl)))) rfl rfl (loopB ((s 1).toNat - (dv + 1)) (dv + 1) ca (by omega) (by omega) hoa hka (by rw [show ((dv + 1 : Nat) : Int) = (dv : Int) + 1 by omega]; exact hva))
          exact go_eq rfl (lv' := [(0, .ref cb), (1, rj_i x), (2, rj_i ((0 : Nat) : Int))]) (rj_lk (rj_lk (rj_lj (rfl) rfl))) rfl rfl (loopA (s 1).toNat 0 c1 (by omega) (fun k k0 => rfl) (rc_kp.t hr1) (fun a e a0 a1 e0 e1 => by rw [show ((0 : Nat) : Int) + 1 = 1 from rfl, show ((0 : Nat) : Int) = 0 from rfl, sp_ctd_0 hB ⟨a0, a1⟩]; omega))
        · refine go_bipush (v := Int32.ofInt (-4)) dX11_vote_45 (by decide) ?_
          refine go_retI rfl rfl ?_ dX11_vote_47
          exact ⟨rj_vi (by unfold sp_voteF; rw [if_neg (by omega), if_neg (fun q => q c_28), if_pos (by omega)]), c1, (by unfold sp_voteS; rw [if_neg (by omega)]; exact (hR.t hr1)), (rc_kp.t hr1), rfl⟩
      · refine go_bipush (v := Int32.ofInt (-2)) dX11_vote_31 (by decide) ?_
        refine go_retI rfl rfl ?_ dX11_vote_33
        exact ⟨rj_vi (by unfold sp_voteF; rw [if_neg (by omega), if_pos c_28]), c1, (by unfold sp_voteS; rw [if_neg (fun q => c_28 q.2.1)]; exact (hR.t hr1)), (rc_kp.t hr1), rfl⟩
    · refine go_bipush (v := Int32.ofInt (-3)) dX11_vote_20 (by decide) ?_
      refine go_retI rfl rfl ?_ dX11_vote_22
      exact ⟨rj_vi (by unfold sp_voteF; rw [if_pos (by omega)]), c, (by unfold sp_voteS; rw [if_neg (by omega)]; exact hR), rc_kp.rf, rfl⟩
