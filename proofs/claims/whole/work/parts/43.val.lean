/-! THE CLASS: what a valley says -/
def sp_cm (f : Int → Int) (off : Int) : Nat → Nat
  | 0 => 0
  | k + 1 => sp_cm f off k + (if f (off + (k : Int)) ≤ -11 then 1 else 0)
def sp_cj (f : Int → Int) (off : Int) : Nat → Nat
  | 0 => 0
  | k + 1 => sp_cj f off k + (if f (off + (k : Int)) ≤ -11 then 0 else 1)
theorem sp_cjm (f : Int → Int) (off : Int) : ∀ k : Nat, sp_cj f off k + sp_cm f off k = k
  | 0 => rfl
  | k + 1 => by have := sp_cjm f off k; rw [sp_cj, sp_cm]; split <;> omega
theorem sp_cm_mono (f : Int → Int) (off : Int) (k : Nat) : ∀ n : Nat, sp_cm f off k ≤ sp_cm f off (k + n)
  | 0 => Nat.le_refl _
  | n + 1 => Nat.le_trans (sp_cm_mono f off k n) (by show _ ≤ sp_cm f off (k + n) + _; omega)
theorem sp_cm_le (f : Int → Int) (off : Int) {k n : Nat} (h : k ≤ n) : sp_cm f off k ≤ sp_cm f off n := by
  have := sp_cm_mono f off k (n - k); rw [show k + (n - k) = n by omega] at this; exact this
/-- marker number i stands somewhere -/
theorem sp_cm_at (f : Int → Int) (off : Int) (i : Nat) : ∀ n : Nat, i < sp_cm f off n → ∃ k : Nat, k < n ∧ sp_cm f off k = i ∧ f (off + (k : Int)) ≤ -11
  | 0, h => absurd h (Nat.not_lt_zero _)
  | n + 1, h => by
    by_cases h2 : i < sp_cm f off n
    · obtain ⟨k, a, b, c⟩ := sp_cm_at f off i n h2; exact ⟨k, by omega, b, c⟩
    · rw [sp_cm] at h
      by_cases h3 : f (off + (n : Int)) ≤ -11
      · rw [if_pos h3] at h; exact ⟨n, by omega, by omega, h3⟩
      · rw [if_neg h3] at h; omega
/-- a step as the class writes it -/
def sp_enc (c : Int) : Int := if 0 ≤ c then 300 * (c % 8) + 100 * (c / 8 % 4) + c / 32 else c
/-- the class's rows hold what the reference's steps say -/
def rc_vr (f : Int → Int) (off : Int) (n : Nat) (gs gw ge : Int → Int) (vj vm : Int) : Prop :=
  vj = sp_cj f off n ∧ vm = sp_cm f off n ∧ sp_cj f off n ≤ 120 ∧ sp_cm f off n ≤ 10 ∧ (∀ i : Nat, i < n → (-11 < f (off + (i : Int)) → gs (sp_cj f off i) = sp_enc (f (off + (i : Int)))) ∧ (f (off + (i : Int)) ≤ -11 → gw (sp_cm f off i) = -11 - f (off + (i : Int)) ∧ ge (sp_cm f off i) = sp_cj f off i)) ∧
  (n = 0 ∨ f (off + (n : Int) - 1) ≤ -11) ∧ (∀ i : Nat, i < n → 0 ≤ f (off + (i : Int)) → f (off + (i : Int)) % 8 < 5 ∧ f (off + (i : Int)) / 8 % 4 < 3 ∧ f (off + (i : Int)) / 32 ≤ 99) ∧ ∀ i : Nat, i < n → sp_ok (sp_ht f off i) (f (off + (i : Int)))
/-- the valley object at va, with its scratch at v1, v2 -/
def rc_vd (X9 : rj_X) (cb vv vk : Nat) (σ : rj_H) (v1 v2 va a1 a2 a3 : Nat) (gs gw ge : Int → Int) (vj vm cl tn : Int) (rst : List Value) : Prop :=
  rc_o3 cb vv vk σ va ∧ σ.2.2 va = some (.inr (9, .ref a1 :: rj_i vj :: .ref a2 :: .ref a3 :: rj_i vm :: .ref v1 :: .ref v2 :: rj_i cl :: rj_i tn :: rst)) ∧ rc_o3 cb vv vk σ a1 ∧ σ.2.2 a1 = some (rj_ar X9 0 120 gs) ∧ rc_o3 cb vv vk σ a2 ∧ σ.2.2 a2 = some (rj_ar X9 0 10 gw) ∧ rc_o3 cb vv vk σ a3 ∧ σ.2.2 a3 = some (rj_ar X9 0 10 ge)
theorem rc_va {X9 : rj_X} {cb vv vk : Nat} {c : rm_R} {σ : rj_H} {v1 v2 va a1 a2 a3 : Nat} {gs gw ge : Int → Int} {vj vm cl tn : Int} {rst : List Value} (hv : rc_vd X9 cb vv vk σ v1 v2 va a1 a2 a3 gs gw ge vj vm cl tn rst) : (rc_p X9 cb vv vk c σ).2.2 va = some (.inr (9, .ref a1 :: rj_i vj :: .ref a2 :: .ref a3 :: rj_i vm :: .ref v1 :: .ref v2 :: rj_i cl :: rj_i tn :: rst)) := (rc_of hv.1.1 hv.1.2.1 hv.1.2.2.1).trans hv.2.1
/-- the reference's machine at quarter q behind x steps -/
def sp_Z (s : Int → Int) (D sort m p : Int) (off : Int) (q : Int) (x : Nat) : Int × (Int → Bool) × Bool := sp_zs (sp_b s D m p q) sort s off x
theorem sp_Kup {A : Int → Int} {T : Int → Int → Bool} {t t2 i w : Int} {b : Int → Bool} (hT : ∀ j : Int, 0 ≤ j → j < t → A j = sp_bits (fun q => T q j) 8) (hw : w = sp_bits b 8) (h : ∀ j : Int, 0 ≤ j → j < t2 → j ≠ i → j < t) : ∀ j : Int, 0 ≤ j → j < t2 → rj_up A i w j = sp_bits (fun q => rj_up (T q) i (b q) j) 8 := by
  intro j h1 h2
  by_cases hj : j = i
  · subst hj; rw [rj_up_eq, hw]; congr 1; funext q; rw [rj_up_eq]
  · rw [rj_up_ne _ _ hj, hT j h1 (h j h1 h2 hj)]; congr 1; funext q; rw [rj_up_ne _ _ hj]
theorem sp_Z0 {s : Int → Int} {D sort m p off q : Int} {x : Nat} {c : Int} (e : s (off + (x : Int)) = c) (h : 0 ≤ c) : (sp_Z s D sort m p off q (x + 1)).2.1 = rj_up (sp_Z s D sort m p off q x).2.1 (sp_ht s off x) (sp_tst (sp_b s D m p q (c % 8)) (c / 32) (c / 8 % 4)) := by
  unfold sp_Z; rw [sp_zs, sp_step, e, if_pos h, sp_zs_ht]
theorem sp_Z1 {s : Int → Int} {D sort m p off q : Int} {x : Nat} (e : s (off + (x : Int)) = -1) : (sp_Z s D sort m p off q (x + 1)).2.1 = rj_up (sp_Z s D sort m p off q x).2.1 (sp_ht s off x - 1) (!(sp_Z s D sort m p off q x).2.1 (sp_ht s off x - 1)) := by
  unfold sp_Z; rw [sp_zs, sp_step, e, if_neg (by omega), if_pos rfl, sp_zs_ht]
theorem sp_Z2 {s : Int → Int} {D sort m p off q : Int} {x : Nat} {c : Int} (e : s (off + (x : Int)) = c) (h : c < -1) (h2 : -11 < c) : (sp_Z s D sort m p off q (x + 1)).2.1 = rj_up (sp_Z s D sort m p off q x).2.1 (sp_ht s off x + (-1) - 1) (if c = -2 then (sp_Z s D sort m p off q x).2.1 (sp_ht s off x + (-1) - 1) && (sp_Z s D sort m p off q x).2.1 (sp_ht s off x + (-1)) else (sp_Z s D sort m p off q x).2.1 (sp_ht s off x + (-1) - 1) || (sp_Z s D sort m p off q x).2.1 (sp_ht s off x + (-1))) := by
  unfold sp_Z; rw [sp_zs, sp_step, e, if_neg (by omega), if_neg (by omega), if_pos h2, sp_zs_ht]
theorem sp_Za {s : Int → Int} {D sort m p off q : Int} {x : Nat} (h : -11 < s (off + (x : Int))) : (sp_Z s D sort m p off q (x + 1)).2.2 = (sp_Z s D sort m p off q x).2.2 := by
  unfold sp_Z; rw [sp_zs, sp_step]
  split
  · rfl
  · split
    · rfl
    · first | rfl | rw [if_pos h]
theorem sp_Zm {s : Int → Int} {D sort m p off q : Int} {x : Nat} (h : s (off + (x : Int)) ≤ -11) : (sp_Z s D sort m p off q (x + 1)).2.2 = ((sp_Z s D sort m p off q x).2.2 || (decide (s (off + (x : Int)) = sort) && (sp_Z s D sort m p off q x).2.1 0)) := by
  unfold sp_Z; rw [sp_zs, sp_step, if_neg (by omega), if_neg (by omega), if_neg (by omega)]
theorem sp_ht0 {f : Int → Int} {off : Int} {x : Nat} (h : 0 ≤ f (off + (x : Int))) : sp_ht f off (x + 1) = sp_ht f off x + 1 := by rw [sp_ht, if_pos h]
theorem sp_ht1 {f : Int → Int} {off : Int} {x : Nat} (h : f (off + (x : Int)) = -1) : sp_ht f off (x + 1) = sp_ht f off x := by rw [sp_ht, if_neg (by omega), if_pos h]
theorem sp_ht2 {f : Int → Int} {off : Int} {x : Nat} (h : f (off + (x : Int)) < -1) (h2 : -11 < f (off + (x : Int))) : sp_ht f off (x + 1) = sp_ht f off x + (-1) := by rw [sp_ht, if_neg (by omega), if_neg (by omega), if_pos h2]
theorem sp_htm {f : Int → Int} {off : Int} {x : Nat} (h : f (off + (x : Int)) ≤ -11) : sp_ht f off (x + 1) = 0 := by rw [sp_ht, if_neg (by omega), if_neg (by omega), if_neg (by omega)]
theorem sp_cj_mono (f : Int → Int) (off : Int) (k : Nat) : ∀ n : Nat, sp_cj f off k ≤ sp_cj f off (k + n)
  | 0 => Nat.le_refl _
  | n + 1 => Nat.le_trans (sp_cj_mono f off k n) (by show _ ≤ sp_cj f off (k + n) + _; omega)
theorem sp_cj_le (f : Int → Int) (off : Int) {k n : Nat} (h : k ≤ n) : sp_cj f off k ≤ sp_cj f off n := by
  have := sp_cj_mono f off k (n - k); rw [show k + (n - k) = n by omega] at this; exact this
theorem sp_cj_run (f : Int → Int) (off : Int) (x : Nat) : ∀ n : Nat, (∀ i : Nat, x ≤ i → i < x + n → -11 < f (off + (i : Int))) → sp_cj f off (x + n) = sp_cj f off x + n ∧ sp_cm f off (x + n) = sp_cm f off x
  | 0, _ => ⟨rfl, rfl⟩
  | n + 1, h => by
    have := sp_cj_run f off x n (fun i a b => h i a (by omega))
    have h2 := h (x + n) (by omega) (by omega)
    have e1 : sp_cj f off (x + (n + 1)) = sp_cj f off (x + n) + (if f (off + ((x + n : Nat) : Int)) ≤ -11 then 0 else 1) := rfl
    have e2 : sp_cm f off (x + (n + 1)) = sp_cm f off (x + n) + (if f (off + ((x + n : Nat) : Int)) ≤ -11 then 1 else 0) := rfl
    rw [e1, e2, if_neg (by omega), if_neg (by omega)]; omega
theorem sp_last {f : Int → Int} {off : Int} {n x : Nat} (hl : n = 0 ∨ f (off + (n : Int) - 1) ≤ -11) (hx : x ≤ n) (h : sp_cm f off x = sp_cm f off n) : x = n := by
  rcases hl with h0 | h0
  · omega
  · refine Decidable.byContradiction fun q => ?_
    have e1 := sp_cm_le f off (k := x) (n := n - 1) (by omega)
    have e2 : sp_cm f off (n - 1 + 1) = sp_cm f off (n - 1) + 1 := by rw [sp_cm, if_pos (by rw [show off + ((n - 1 : Nat) : Int) = off + (n : Int) - 1 by omega]; exact h0)]
    rw [show n - 1 + 1 = n by omega] at e2
    omega
theorem sp_nomark {f : Int → Int} {off : Int} {x y : Nat} (h : sp_cm f off x = sp_cm f off y) (i : Nat) (a : x ≤ i) (b : i < y) : -11 < f (off + (i : Int)) := by
  refine Decidable.byContradiction fun q => ?_
  have e1 : sp_cm f off (i + 1) = sp_cm f off i + 1 := by rw [sp_cm, if_pos (by omega)]
  have e2 := sp_cm_le f off (k := x) (n := i) a
  have e3 := sp_cm_le f off (k := i + 1) (n := y) (by omega)
  omega
theorem sp_cjr {f : Int → Int} {off : Int} {x y : Nat} (h : x ≤ y) (hn : ∀ i : Nat, x ≤ i → i < y → -11 < f (off + (i : Int))) : sp_cj f off y = sp_cj f off x + (y - x) ∧ sp_cm f off y = sp_cm f off x := by
  have := sp_cj_run f off x (y - x) (fun i a b => hn i a (by omega))
  rw [show x + (y - x) = y by omega] at this; exact this
theorem sp_Zas {s : Int → Int} {D sort m p off q : Int} {x : Nat} : ∀ n : Nat, (∀ i : Nat, x ≤ i → i < x + n → -11 < s (off + (i : Int))) → (sp_Z s D sort m p off q (x + n)).2.2 = (sp_Z s D sort m p off q x).2.2
  | 0, _ => rfl
  | n + 1, h => by
    rw [← sp_Zas n (fun i a b => h i a (by omega))]
    exact sp_Za (x := x + n) (h (x + n) (by omega) (by omega))
theorem sp_Zar {s : Int → Int} {D sort m p off q : Int} {x y : Nat} (h : x ≤ y) (hn : ∀ i : Nat, x ≤ i → i < y → -11 < s (off + (i : Int))) : (sp_Z s D sort m p off q y).2.2 = (sp_Z s D sort m p off q x).2.2 := by
  have := sp_Zas (D := D) (sort := sort) (m := m) (p := p) (q := q) (y - x) (fun i a b => hn i a (by omega))
  rw [show x + (y - x) = y by omega] at this; exact this
/-- what values hold, but QUARTER's -/
def rc_bv (s : Int → Int) (D m p : Int) (g : Int → Int) : Prop := (∀ q j : Int, 0 ≤ j → j < 5 → j ≠ 2 → g j = sp_b s D m p q j) ∧ ∀ j : Int, 0 ≤ j → j < 5 → ∀ q : Int, 0 ≤ q → q < 8 → -2147483648 ≤ sp_b s D m p q j ∧ sp_b s D m p q j < 2147483648
set_option maxRecDepth 20000 in
/-- v_test -/
theorem v_test {X9 : rj_X} {σ : rj_H} {d cb vv vk : Nat} {c : rm_R} {s : Int → Int} {D m p x t h v : Int} {va a1 a2 a3 : Nat} {gs gw ge : Int → Int} {vj vm cl tn : Int} {rst : List Value} (hV : rc_V cb vv vk) (hv : rc_vd X9 cb vv vk σ vv vk va a1 a2 a3 gs gw ge vj vm cl tn rst) (ht : 0 ≤ t ∧ t < 5) (hh : 0 ≤ h ∧ h < 3) (hv9 : 0 ≤ v ∧ v ≤ 99) (hx : x = 300 * t + 100 * h + v) (h92 : rc_bv s D m p (c 92)) : rj_Cl X9 d yX9_quartersOfTest cX9_quartersOfTest 9 (some .int) [.ref va, rj_i x] (rc_p X9 cb vv vk c σ) (fun w9 τ => w9 = some (rj_i (sp_bits (fun q => sp_tst (sp_b s D m p q t) v h) 8)) ∧ τ = rc_p X9 cb vv vk c σ) := by
  refine go_call (by decide +kernel) (Nat.le_of_ble_eq_true rfl) ?_
  refine go_eq (pc' := 0) (lv' := [(0, .ref va), (1, rj_i x)]) (st' := []) rfl rfl rfl rfl ?_
  refine go_iload_n dX9_quartersOfTest_0 rfl 1 rfl ?_
  refine go_sipush (v := Int32.ofInt 300) dX9_quartersOfTest_1 (by decide) ?_
  refine go_divI (by omega) (by omega) dX9_quartersOfTest_4 ?_
  refine go_istore_nS (lv' := [(0, .ref va), (1, rj_i x), (2, rj_i (x / 300))]) rfl (by decide) rfl dX9_quartersOfTest_5 ?_
  refine go_iload_n dX9_quartersOfTest_6 rfl 1 rfl ?_
  refine go_bipush (v := Int32.ofInt 100) dX9_quartersOfTest_7 (by decide) ?_
  refine go_divI (by omega) (by omega) dX9_quartersOfTest_9 ?_
  refine go_iconst (v := Int32.ofInt 3) dX9_quartersOfTest_10 rfl ?_
  refine go_remI (by omega) (by omega) dX9_quartersOfTest_11 ?_
  refine go_istore_nS (lv' := [(0, .ref va), (1, rj_i x), (2, rj_i (x / 300)), (3, rj_i ((x / 100) % 3))]) rfl (by decide) rfl dX9_quartersOfTest_12 ?_
  refine go_iload_n dX9_quartersOfTest_13 rfl 1 rfl ?_
  refine go_bipush (v := Int32.ofInt 100) dX9_quartersOfTest_14 (by decide) ?_
  refine go_remI (by omega) (by omega) dX9_quartersOfTest_16 ?_
  refine go_istoreS (lv' := [(0, .ref va), (1, rj_i x), (2, rj_i (x / 300)), (3, rj_i ((x / 100) % 3)), (4, rj_i (x % 100))]) (by decide) rfl dX9_quartersOfTest_17 ?_
  refine go_iconst (v := Int32.ofInt 0) dX9_quartersOfTest_19 rfl ?_
  refine go_istoreS (lv' := [(0, .ref va), (1, rj_i x), (2, rj_i (x / 300)), (3, rj_i ((x / 100) % 3)), (4, rj_i (x % 100)), (5, rj_i 0)]) (by decide) rfl dX9_quartersOfTest_20 ?_
  refine go_iconst (v := Int32.ofInt 0) dX9_quartersOfTest_22 rfl ?_
  refine go_istoreS (lv' := [(0, .ref va), (1, rj_i x), (2, rj_i (x / 300)), (3, rj_i ((x / 100) % 3)), (4, rj_i (x % 100)), (5, rj_i 0), (6, rj_i 0)]) (by decide) rfl dX9_quartersOfTest_23 ?_
  rw [show x / 300 = t by omega, show x / 100 % 3 = h by omega, show x % 100 = v by omega]
  have loop : ∀ n k : Nat, k + n = (8 : Int).toNat → rj_Go X9 yX9_quartersOfTest cX9_quartersOfTest 9 (some .int) d (fun w9 τ => w9 = some (rj_i (sp_bits (fun q => sp_tst (sp_b s D m p q t) v h) 8)) ∧ τ = rc_p X9 cb vv vk c σ) 25 [(0, .ref va), (1, rj_i x), (2, rj_i t), (3, rj_i h), (4, rj_i v), (5, rj_i (sp_bits (fun q => sp_tst (sp_b s D m p q t) v h) k)), (6, rj_i (k : Int))] [] (rc_p X9 cb vv vk c σ) := by
    intro n
    induction n with
    | zero =>
      intro k hk 
      refine go_iload dX9_quartersOfTest_25 6 rfl ?_
      refine go_bipush (v := Int32.ofInt 8) dX9_quartersOfTest_27 (by decide) ?_
      refine go_icmp_geI (tgt := 96) (by omega) (by omega) dX9_quartersOfTest_29 (by decide) (fun c_29 => ?_) (fun c_29 => ?_)
      · refine go_iload dX9_quartersOfTest_96 5 rfl ?_
        refine go_retI rfl rfl ?_ dX9_quartersOfTest_98
        exact ⟨rj_vi (by rw [show 8 = k by omega]), rfl⟩
      · exact absurd c_29 (by omega)
    | succ n ih =>
      intro k hk 
      have bb := h92.2 t (by omega) (by omega) (k : Int) (by omega) (by omega)
      have hb2 : t = 2 → sp_b s D m p (k : Int) t = (k : Int) := fun q => by unfold sp_b; rw [if_neg (by omega), if_neg (by omega), if_pos q]
      refine go_iload dX9_quartersOfTest_25 6 rfl ?_
      refine go_bipush (v := Int32.ofInt 8) dX9_quartersOfTest_27 (by decide) ?_
      refine go_icmp_geI (tgt := 96) (by omega) (by omega) dX9_quartersOfTest_29 (by decide) (fun c_29 => ?_) (fun c_29 => ?_)
      · exact absurd c_29 (by omega)
      · refine go_iload_n dX9_quartersOfTest_32 rfl 2 rfl ?_
        refine go_iconst (v := Int32.ofInt 2) dX9_quartersOfTest_33 rfl ?_
        refine go_icmp_neI (tgt := 42) (by omega) (by omega) dX9_quartersOfTest_34 (by decide) (fun c_34 => ?_) (fun c_34 => ?_)
        · refine go_aload_n dX9_quartersOfTest_42 rfl 0 rfl ?_
          refine rc_go (k := 5) kX9 hv.1.1 hv.1.2.1 hv.1.2.2.1 hv.2.1 (by decide) fX9_36 rfl dX9_quartersOfTest_43 ?_
          refine go_iload_n dX9_quartersOfTest_46 rfl 2 rfl ?_
          refine rc_ldv (by omega) (by omega) dX9_quartersOfTest_47 ?_
          rw [show c 92 t = sp_b s D m p (k : Int) t from (h92.1 (k : Int) t (by omega) (by omega) c_34)]
          refine go_istoreS (lv' := [(0, .ref va), (1, rj_i x), (2, rj_i t), (3, rj_i h), (4, rj_i v), (5, rj_i (sp_bits (fun q => sp_tst (sp_b s D m p q t) v h) k)), (6, rj_i (k : Int)), (7, rj_i (sp_b s D m p (k : Int) t))]) (by decide) rfl dX9_quartersOfTest_48 ?_
          refine go_iload dX9_quartersOfTest_50 7 rfl ?_
          refine go_iload dX9_quartersOfTest_52 4 rfl ?_
          refine go_icmp_geI (tgt := 61) (by omega) (by omega) dX9_quartersOfTest_54 (by decide) (fun c_54 => ?_) (fun c_54 => ?_)
          · refine go_iload dX9_quartersOfTest_61 7 rfl ?_
            refine go_iload dX9_quartersOfTest_63 4 rfl ?_
            refine go_icmp_neI (tgt := 72) (by omega) (by omega) dX9_quartersOfTest_65 (by decide) (fun c_65 => ?_) (fun c_65 => ?_)
            · refine go_iconst (v := Int32.ofInt 2) dX9_quartersOfTest_72 rfl ?_
              refine go_istoreS (lv' := [(0, .ref va), (1, rj_i x), (2, rj_i t), (3, rj_i h), (4, rj_i v), (5, rj_i (sp_bits (fun q => sp_tst (sp_b s D m p q t) v h) k)), (6, rj_i (k : Int)), (7, rj_i (sp_b s D m p (k : Int) t)), (8, rj_i 2)]) (by decide) rfl dX9_quartersOfTest_73 ?_
              refine go_iload dX9_quartersOfTest_75 8 rfl ?_
              refine go_iload_n dX9_quartersOfTest_77 rfl 3 rfl ?_
              refine go_icmp_neI (tgt := 90) (by omega) (by omega) dX9_quartersOfTest_78 (by decide) (fun c_78 => ?_) (fun c_78 => ?_)
              · refine go_iincI (a := (k : Int)) (n := 1) (k0 := 6) (lv' := [(0, .ref va), (1, rj_i x), (2, rj_i t), (3, rj_i h), (4, rj_i v), (5, rj_i (sp_bits (fun q => sp_tst (sp_b s D m p q t) v h) k)), (6, rj_i ((k : Int) + 1)), (7, rj_i (sp_b s D m p (k : Int) t)), (8, rj_i 2)]) rfl (by decide) rfl dX9_quartersOfTest_90 ?_
                refine go_goto (tgt := 25) dX9_quartersOfTest_93 (by decide) ?_
                refine go_sub (lv' := [(0, .ref va), (1, rj_i x), (2, rj_i t), (3, rj_i h), (4, rj_i v), (5, rj_i (sp_bits (fun q => sp_tst (sp_b s D m p q t) v h) k)), (6, rj_i ((k : Int) + 1))]) (by intro q hq; simp only [List.mem_cons, List.not_mem_nil, or_false] at hq ⊢; rcases hq with rfl | rfl | rfl | rfl | rfl | rfl | rfl <;> simp) ?_
                exact go_eq rfl (lv' := [(0, .ref va), (1, rj_i x), (2, rj_i t), (3, rj_i h), (4, rj_i v), (5, rj_i (sp_bits (fun q => sp_tst (sp_b s D m p q t) v h) (k + 1))), (6, rj_i ((k + 1 : Nat) : Int))]) (rj_lk (rj_lk (rj_lk (rj_lk (rj_lk (rj_lj (by rw [sp_bits]; rw [if_neg (by unfold sp_tst; (repeat' split) <;> simp only [decide_eq_true_eq] <;> omega), Int.add_zero]) (rj_lj (by omega) rfl))))))) rfl rfl (ih (k + 1) (by omega))
              · refine go_iload dX9_quartersOfTest_81 5 rfl ?_
                refine go_iconst (v := Int32.ofInt 1) dX9_quartersOfTest_83 rfl ?_
                refine go_iload dX9_quartersOfTest_84 6 rfl ?_
                refine go_shl1 (k := k) (by omega) dX9_quartersOfTest_86 ?_
                refine go_orI ⟨k, by omega, (sp_bits_b (fun q => sp_tst (sp_b s D m p q t) v h) k).1, (sp_bits_b (fun q => sp_tst (sp_b s D m p q t) v h) k).2, by simp⟩ dX9_quartersOfTest_87 ?_
                refine go_istoreS (lv' := [(0, .ref va), (1, rj_i x), (2, rj_i t), (3, rj_i h), (4, rj_i v), (5, rj_i ((sp_bits (fun q => sp_tst (sp_b s D m p q t) v h) k) + (2 ^ k))), (6, rj_i (k : Int)), (7, rj_i (sp_b s D m p (k : Int) t)), (8, rj_i 2)]) (by decide) rfl dX9_quartersOfTest_88 ?_
                refine go_iincI (a := (k : Int)) (n := 1) (k0 := 6) (lv' := [(0, .ref va), (1, rj_i x), (2, rj_i t), (3, rj_i h), (4, rj_i v), (5, rj_i ((sp_bits (fun q => sp_tst (sp_b s D m p q t) v h) k) + (2 ^ k))), (6, rj_i ((k : Int) + 1)), (7, rj_i (sp_b s D m p (k : Int) t)), (8, rj_i 2)]) rfl (by decide) rfl dX9_quartersOfTest_90 ?_
                refine go_goto (tgt := 25) dX9_quartersOfTest_93 (by decide) ?_
                refine go_sub (lv' := [(0, .ref va), (1, rj_i x), (2, rj_i t), (3, rj_i h), (4, rj_i v), (5, rj_i ((sp_bits (fun q => sp_tst (sp_b s D m p q t) v h) k) + (2 ^ k))), (6, rj_i ((k : Int) + 1))]) (by intro q hq; simp only [List.mem_cons, List.not_mem_nil, or_false] at hq ⊢; rcases hq with rfl | rfl | rfl | rfl | rfl | rfl | rfl <;> simp) ?_
                exact go_eq rfl (lv' := [(0, .ref va), (1, rj_i x), (2, rj_i t), (3, rj_i h), (4, rj_i v), (5, rj_i (sp_bits (fun q => sp_tst (sp_b s D m p q t) v h) (k + 1))), (6, rj_i ((k + 1 : Nat) : Int))]) (rj_lk (rj_lk (rj_lk (rj_lk (rj_lk (rj_lj (by rw [sp_bits]; rw [if_pos (by unfold sp_tst; (repeat' split) <;> simp only [decide_eq_true_eq] <;> omega)]) (rj_lj (by omega) rfl))))))) rfl rfl (ih (k + 1) (by omega))
            · refine go_iconst (v := Int32.ofInt 1) dX9_quartersOfTest_68 rfl ?_
              refine go_goto (tgt := 73) dX9_quartersOfTest_69 (by decide) ?_
              refine go_istoreS (lv' := [(0, .ref va), (1, rj_i x), (2, rj_i t), (3, rj_i h), (4, rj_i v), (5, rj_i (sp_bits (fun q => sp_tst (sp_b s D m p q t) v h) k)), (6, rj_i (k : Int)), (7, rj_i (sp_b s D m p (k : Int) t)), (8, rj_i 1)]) (by decide) rfl dX9_quartersOfTest_73 ?_
              refine go_iload dX9_quartersOfTest_75 8 rfl ?_
              refine go_iload_n dX9_quartersOfTest_77 rfl 3 rfl ?_
              refine go_icmp_neI (tgt := 90) (by omega) (by omega) dX9_quartersOfTest_78 (by decide) (fun c_78 => ?_) (fun c_78 => ?_)
              · refine go_iincI (a := (k : Int)) (n := 1) (k0 := 6) (lv' := [(0, .ref va), (1, rj_i x), (2, rj_i t), (3, rj_i h), (4, rj_i v), (5, rj_i (sp_bits (fun q => sp_tst (sp_b s D m p q t) v h) k)), (6, rj_i ((k : Int) + 1)), (7, rj_i (sp_b s D m p (k : Int) t)), (8, rj_i 1)]) rfl (by decide) rfl dX9_quartersOfTest_90 ?_
                refine go_goto (tgt := 25) dX9_quartersOfTest_93 (by decide) ?_
                refine go_sub (lv' := [(0, .ref va), (1, rj_i x), (2, rj_i t), (3, rj_i h), (4, rj_i v), (5, rj_i (sp_bits (fun q => sp_tst (sp_b s D m p q t) v h) k)), (6, rj_i ((k : Int) + 1))]) (by intro q hq; simp only [List.mem_cons, List.not_mem_nil, or_false] at hq ⊢; rcases hq with rfl | rfl | rfl | rfl | rfl | rfl | rfl <;> simp) ?_
                exact go_eq rfl (lv' := [(0, .ref va), (1, rj_i x), (2, rj_i t), (3, rj_i h), (4, rj_i v), (5, rj_i (sp_bits (fun q => sp_tst (sp_b s D m p q t) v h) (k + 1))), (6, rj_i ((k + 1 : Nat) : Int))]) (rj_lk (rj_lk (rj_lk (rj_lk (rj_lk (rj_lj (by rw [sp_bits]; rw [if_neg (by unfold sp_tst; (repeat' split) <;> simp only [decide_eq_true_eq] <;> omega), Int.add_zero]) (rj_lj (by omega) rfl))))))) rfl rfl (ih (k + 1) (by omega))
              · refine go_iload dX9_quartersOfTest_81 5 rfl ?_
                refine go_iconst (v := Int32.ofInt 1) dX9_quartersOfTest_83 rfl ?_
                refine go_iload dX9_quartersOfTest_84 6 rfl ?_
                refine go_shl1 (k := k) (by omega) dX9_quartersOfTest_86 ?_
                refine go_orI ⟨k, by omega, (sp_bits_b (fun q => sp_tst (sp_b s D m p q t) v h) k).1, (sp_bits_b (fun q => sp_tst (sp_b s D m p q t) v h) k).2, by simp⟩ dX9_quartersOfTest_87 ?_
                refine go_istoreS (lv' := [(0, .ref va), (1, rj_i x), (2, rj_i t), (3, rj_i h), (4, rj_i v), (5, rj_i ((sp_bits (fun q => sp_tst (sp_b s D m p q t) v h) k) + (2 ^ k))), (6, rj_i (k : Int)), (7, rj_i (sp_b s D m p (k : Int) t)), (8, rj_i 1)]) (by decide) rfl dX9_quartersOfTest_88 ?_
                refine go_iincI (a := (k : Int)) (n := 1) (k0 := 6) (lv' := [(0, .ref va), (1, rj_i x), (2, rj_i t), (3, rj_i h), (4, rj_i v), (5, rj_i ((sp_bits (fun q => sp_tst (sp_b s D m p q t) v h) k) + (2 ^ k))), (6, rj_i ((k : Int) + 1)), (7, rj_i (sp_b s D m p (k : Int) t)), (8, rj_i 1)]) rfl (by decide) rfl dX9_quartersOfTest_90 ?_
                refine go_goto (tgt := 25) dX9_quartersOfTest_93 (by decide) ?_
                refine go_sub (lv' := [(0, .ref va), (1, rj_i x), (2, rj_i t), (3, rj_i h), (4, rj_i v), (5, rj_i ((sp_bits (fun q => sp_tst (sp_b s D m p q t) v h) k) + (2 ^ k))), (6, rj_i ((k : Int) + 1))]) (by intro q hq; simp only [List.mem_cons, List.not_mem_nil, or_false] at hq ⊢; rcases hq with rfl | rfl | rfl | rfl | rfl | rfl | rfl <;> simp) ?_
                exact go_eq rfl (lv' := [(0, .ref va), (1, rj_i x), (2, rj_i t), (3, rj_i h), (4, rj_i v), (5, rj_i (sp_bits (fun q => sp_tst (sp_b s D m p q t) v h) (k + 1))), (6, rj_i ((k + 1 : Nat) : Int))]) (rj_lk (rj_lk (rj_lk (rj_lk (rj_lk (rj_lj (by rw [sp_bits]; rw [if_pos (by unfold sp_tst; (repeat' split) <;> simp only [decide_eq_true_eq] <;> omega)]) (rj_lj (by omega) rfl))))))) rfl rfl (ih (k + 1) (by omega))
          · refine go_iconst (v := Int32.ofInt 0) dX9_quartersOfTest_57 rfl ?_
            refine go_goto (tgt := 73) dX9_quartersOfTest_58 (by decide) ?_
            refine go_istoreS (lv' := [(0, .ref va), (1, rj_i x), (2, rj_i t), (3, rj_i h), (4, rj_i v), (5, rj_i (sp_bits (fun q => sp_tst (sp_b s D m p q t) v h) k)), (6, rj_i (k : Int)), (7, rj_i (sp_b s D m p (k : Int) t)), (8, rj_i 0)]) (by decide) rfl dX9_quartersOfTest_73 ?_
            refine go_iload dX9_quartersOfTest_75 8 rfl ?_
            refine go_iload_n dX9_quartersOfTest_77 rfl 3 rfl ?_
            refine go_icmp_neI (tgt := 90) (by omega) (by omega) dX9_quartersOfTest_78 (by decide) (fun c_78 => ?_) (fun c_78 => ?_)
            · refine go_iincI (a := (k : Int)) (n := 1) (k0 := 6) (lv' := [(0, .ref va), (1, rj_i x), (2, rj_i t), (3, rj_i h), (4, rj_i v), (5, rj_i (sp_bits (fun q => sp_tst (sp_b s D m p q t) v h) k)), (6, rj_i ((k : Int) + 1)), (7, rj_i (sp_b s D m p (k : Int) t)), (8, rj_i 0)]) rfl (by decide) rfl dX9_quartersOfTest_90 ?_
              refine go_goto (tgt := 25) dX9_quartersOfTest_93 (by decide) ?_
              refine go_sub (lv' := [(0, .ref va), (1, rj_i x), (2, rj_i t), (3, rj_i h), (4, rj_i v), (5, rj_i (sp_bits (fun q => sp_tst (sp_b s D m p q t) v h) k)), (6, rj_i ((k : Int) + 1))]) (by intro q hq; simp only [List.mem_cons, List.not_mem_nil, or_false] at hq ⊢; rcases hq with rfl | rfl | rfl | rfl | rfl | rfl | rfl <;> simp) ?_
              exact go_eq rfl (lv' := [(0, .ref va), (1, rj_i x), (2, rj_i t), (3, rj_i h), (4, rj_i v), (5, rj_i (sp_bits (fun q => sp_tst (sp_b s D m p q t) v h) (k + 1))), (6, rj_i ((k + 1 : Nat) : Int))]) (rj_lk (rj_lk (rj_lk (rj_lk (rj_lk (rj_lj (by rw [sp_bits]; rw [if_neg (by unfold sp_tst; (repeat' split) <;> simp only [decide_eq_true_eq] <;> omega), Int.add_zero]) (rj_lj (by omega) rfl))))))) rfl rfl (ih (k + 1) (by omega))
            · refine go_iload dX9_quartersOfTest_81 5 rfl ?_
              refine go_iconst (v := Int32.ofInt 1) dX9_quartersOfTest_83 rfl ?_
              refine go_iload dX9_quartersOfTest_84 6 rfl ?_
              refine go_shl1 (k := k) (by omega) dX9_quartersOfTest_86 ?_
              refine go_orI ⟨k, by omega, (sp_bits_b (fun q => sp_tst (sp_b s D m p q t) v h) k).1, (sp_bits_b (fun q => sp_tst (sp_b s D m p q t) v h) k).2, by simp⟩ dX9_quartersOfTest_87 ?_
              refine go_istoreS (lv' := [(0, .ref va), (1, rj_i x), (2, rj_i t), (3, rj_i h), (4, rj_i v), (5, rj_i ((sp_bits (fun q => sp_tst (sp_b s D m p q t) v h) k) + (2 ^ k))), (6, rj_i (k : Int)), (7, rj_i (sp_b s D m p (k : Int) t)), (8, rj_i 0)]) (by decide) rfl dX9_quartersOfTest_88 ?_
              refine go_iincI (a := (k : Int)) (n := 1) (k0 := 6) (lv' := [(0, .ref va), (1, rj_i x), (2, rj_i t), (3, rj_i h), (4, rj_i v), (5, rj_i ((sp_bits (fun q => sp_tst (sp_b s D m p q t) v h) k) + (2 ^ k))), (6, rj_i ((k : Int) + 1)), (7, rj_i (sp_b s D m p (k : Int) t)), (8, rj_i 0)]) rfl (by decide) rfl dX9_quartersOfTest_90 ?_
              refine go_goto (tgt := 25) dX9_quartersOfTest_93 (by decide) ?_
              refine go_sub (lv' := [(0, .ref va), (1, rj_i x), (2, rj_i t), (3, rj_i h), (4, rj_i v), (5, rj_i ((sp_bits (fun q => sp_tst (sp_b s D m p q t) v h) k) + (2 ^ k))), (6, rj_i ((k : Int) + 1))]) (by intro q hq; simp only [List.mem_cons, List.not_mem_nil, or_false] at hq ⊢; rcases hq with rfl | rfl | rfl | rfl | rfl | rfl | rfl <;> simp) ?_
              exact go_eq rfl (lv' := [(0, .ref va), (1, rj_i x), (2, rj_i t), (3, rj_i h), (4, rj_i v), (5, rj_i (sp_bits (fun q => sp_tst (sp_b s D m p q t) v h) (k + 1))), (6, rj_i ((k + 1 : Nat) : Int))]) (rj_lk (rj_lk (rj_lk (rj_lk (rj_lk (rj_lj (by rw [sp_bits]; rw [if_pos (by unfold sp_tst; (repeat' split) <;> simp only [decide_eq_true_eq] <;> omega)]) (rj_lj (by omega) rfl))))))) rfl rfl (ih (k + 1) (by omega))
        · refine go_iload dX9_quartersOfTest_37 6 rfl ?_
          refine go_goto (tgt := 48) dX9_quartersOfTest_39 (by decide) ?_
          refine go_istoreS (lv' := [(0, .ref va), (1, rj_i x), (2, rj_i t), (3, rj_i h), (4, rj_i v), (5, rj_i (sp_bits (fun q => sp_tst (sp_b s D m p q t) v h) k)), (6, rj_i (k : Int)), (7, rj_i (k : Int))]) (by decide) rfl dX9_quartersOfTest_48 ?_
          refine go_iload dX9_quartersOfTest_50 7 rfl ?_
          refine go_iload dX9_quartersOfTest_52 4 rfl ?_
          refine go_icmp_geI (tgt := 61) (by omega) (by omega) dX9_quartersOfTest_54 (by decide) (fun c_54 => ?_) (fun c_54 => ?_)
          · refine go_iload dX9_quartersOfTest_61 7 rfl ?_
            refine go_iload dX9_quartersOfTest_63 4 rfl ?_
            refine go_icmp_neI (tgt := 72) (by omega) (by omega) dX9_quartersOfTest_65 (by decide) (fun c_65 => ?_) (fun c_65 => ?_)
            · refine go_iconst (v := Int32.ofInt 2) dX9_quartersOfTest_72 rfl ?_
              refine go_istoreS (lv' := [(0, .ref va), (1, rj_i x), (2, rj_i t), (3, rj_i h), (4, rj_i v), (5, rj_i (sp_bits (fun q => sp_tst (sp_b s D m p q t) v h) k)), (6, rj_i (k : Int)), (7, rj_i (k : Int)), (8, rj_i 2)]) (by decide) rfl dX9_quartersOfTest_73 ?_
              refine go_iload dX9_quartersOfTest_75 8 rfl ?_
              refine go_iload_n dX9_quartersOfTest_77 rfl 3 rfl ?_
              refine go_icmp_neI (tgt := 90) (by omega) (by omega) dX9_quartersOfTest_78 (by decide) (fun c_78 => ?_) (fun c_78 => ?_)
              · refine go_iincI (a := (k : Int)) (n := 1) (k0 := 6) (lv' := [(0, .ref va), (1, rj_i x), (2, rj_i t), (3, rj_i h), (4, rj_i v), (5, rj_i (sp_bits (fun q => sp_tst (sp_b s D m p q t) v h) k)), (6, rj_i ((k : Int) + 1)), (7, rj_i (k : Int)), (8, rj_i 2)]) rfl (by decide) rfl dX9_quartersOfTest_90 ?_
                refine go_goto (tgt := 25) dX9_quartersOfTest_93 (by decide) ?_
                refine go_sub (lv' := [(0, .ref va), (1, rj_i x), (2, rj_i t), (3, rj_i h), (4, rj_i v), (5, rj_i (sp_bits (fun q => sp_tst (sp_b s D m p q t) v h) k)), (6, rj_i ((k : Int) + 1))]) (by intro q hq; simp only [List.mem_cons, List.not_mem_nil, or_false] at hq ⊢; rcases hq with rfl | rfl | rfl | rfl | rfl | rfl | rfl <;> simp) ?_
                exact go_eq rfl (lv' := [(0, .ref va), (1, rj_i x), (2, rj_i t), (3, rj_i h), (4, rj_i v), (5, rj_i (sp_bits (fun q => sp_tst (sp_b s D m p q t) v h) (k + 1))), (6, rj_i ((k + 1 : Nat) : Int))]) (rj_lk (rj_lk (rj_lk (rj_lk (rj_lk (rj_lj (by rw [sp_bits]; rw [if_neg (by unfold sp_tst; (repeat' split) <;> simp only [decide_eq_true_eq] <;> omega), Int.add_zero]) (rj_lj (by omega) rfl))))))) rfl rfl (ih (k + 1) (by omega))
              · refine go_iload dX9_quartersOfTest_81 5 rfl ?_
                refine go_iconst (v := Int32.ofInt 1) dX9_quartersOfTest_83 rfl ?_
                refine go_iload dX9_quartersOfTest_84 6 rfl ?_
                refine go_shl1 (k := k) (by omega) dX9_quartersOfTest_86 ?_
                refine go_orI ⟨k, by omega, (sp_bits_b (fun q => sp_tst (sp_b s D m p q t) v h) k).1, (sp_bits_b (fun q => sp_tst (sp_b s D m p q t) v h) k).2, by simp⟩ dX9_quartersOfTest_87 ?_
                refine go_istoreS (lv' := [(0, .ref va), (1, rj_i x), (2, rj_i t), (3, rj_i h), (4, rj_i v), (5, rj_i ((sp_bits (fun q => sp_tst (sp_b s D m p q t) v h) k) + (2 ^ k))), (6, rj_i (k : Int)), (7, rj_i (k : Int)), (8, rj_i 2)]) (by decide) rfl dX9_quartersOfTest_88 ?_
                refine go_iincI (a := (k : Int)) (n := 1) (k0 := 6) (lv' := [(0, .ref va), (1, rj_i x), (2, rj_i t), (3, rj_i h), (4, rj_i v), (5, rj_i ((sp_bits (fun q => sp_tst (sp_b s D m p q t) v h) k) + (2 ^ k))), (6, rj_i ((k : Int) + 1)), (7, rj_i (k : Int)), (8, rj_i 2)]) rfl (by decide) rfl dX9_quartersOfTest_90 ?_
                refine go_goto (tgt := 25) dX9_quartersOfTest_93 (by decide) ?_
                refine go_sub (lv' := [(0, .ref va), (1, rj_i x), (2, rj_i t), (3, rj_i h), (4, rj_i v), (5, rj_i ((sp_bits (fun q => sp_tst (sp_b s D m p q t) v h) k) + (2 ^ k))), (6, rj_i ((k : Int) + 1))]) (by intro q hq; simp only [List.mem_cons, List.not_mem_nil, or_false] at hq ⊢; rcases hq with rfl | rfl | rfl | rfl | rfl | rfl | rfl <;> simp) ?_
                exact go_eq rfl (lv' := [(0, .ref va), (1, rj_i x), (2, rj_i t), (3, rj_i h), (4, rj_i v), (5, rj_i (sp_bits (fun q => sp_tst (sp_b s D m p q t) v h) (k + 1))), (6, rj_i ((k + 1 : Nat) : Int))]) (rj_lk (rj_lk (rj_lk (rj_lk (rj_lk (rj_lj (by rw [sp_bits]; rw [if_pos (by unfold sp_tst; (repeat' split) <;> simp only [decide_eq_true_eq] <;> omega)]) (rj_lj (by omega) rfl))))))) rfl rfl (ih (k + 1) (by omega))
            · refine go_iconst (v := Int32.ofInt 1) dX9_quartersOfTest_68 rfl ?_
              refine go_goto (tgt := 73) dX9_quartersOfTest_69 (by decide) ?_
              refine go_istoreS (lv' := [(0, .ref va), (1, rj_i x), (2, rj_i t), (3, rj_i h), (4, rj_i v), (5, rj_i (sp_bits (fun q => sp_tst (sp_b s D m p q t) v h) k)), (6, rj_i (k : Int)), (7, rj_i (k : Int)), (8, rj_i 1)]) (by decide) rfl dX9_quartersOfTest_73 ?_
              refine go_iload dX9_quartersOfTest_75 8 rfl ?_
              refine go_iload_n dX9_quartersOfTest_77 rfl 3 rfl ?_
              refine go_icmp_neI (tgt := 90) (by omega) (by omega) dX9_quartersOfTest_78 (by decide) (fun c_78 => ?_) (fun c_78 => ?_)
              · refine go_iincI (a := (k : Int)) (n := 1) (k0 := 6) (lv' := [(0, .ref va), (1, rj_i x), (2, rj_i t), (3, rj_i h), (4, rj_i v), (5, rj_i (sp_bits (fun q => sp_tst (sp_b s D m p q t) v h) k)), (6, rj_i ((k : Int) + 1)), (7, rj_i (k : Int)), (8, rj_i 1)]) rfl (by decide) rfl dX9_quartersOfTest_90 ?_
                refine go_goto (tgt := 25) dX9_quartersOfTest_93 (by decide) ?_
                refine go_sub (lv' := [(0, .ref va), (1, rj_i x), (2, rj_i t), (3, rj_i h), (4, rj_i v), (5, rj_i (sp_bits (fun q => sp_tst (sp_b s D m p q t) v h) k)), (6, rj_i ((k : Int) + 1))]) (by intro q hq; simp only [List.mem_cons, List.not_mem_nil, or_false] at hq ⊢; rcases hq with rfl | rfl | rfl | rfl | rfl | rfl | rfl <;> simp) ?_
                exact go_eq rfl (lv' := [(0, .ref va), (1, rj_i x), (2, rj_i t), (3, rj_i h), (4, rj_i v), (5, rj_i (sp_bits (fun q => sp_tst (sp_b s D m p q t) v h) (k + 1))), (6, rj_i ((k + 1 : Nat) : Int))]) (rj_lk (rj_lk (rj_lk (rj_lk (rj_lk (rj_lj (by rw [sp_bits]; rw [if_neg (by unfold sp_tst; (repeat' split) <;> simp only [decide_eq_true_eq] <;> omega), Int.add_zero]) (rj_lj (by omega) rfl))))))) rfl rfl (ih (k + 1) (by omega))
              · refine go_iload dX9_quartersOfTest_81 5 rfl ?_
                refine go_iconst (v := Int32.ofInt 1) dX9_quartersOfTest_83 rfl ?_
                refine go_iload dX9_quartersOfTest_84 6 rfl ?_
                refine go_shl1 (k := k) (by omega) dX9_quartersOfTest_86 ?_
                refine go_orI ⟨k, by omega, (sp_bits_b (fun q => sp_tst (sp_b s D m p q t) v h) k).1, (sp_bits_b (fun q => sp_tst (sp_b s D m p q t) v h) k).2, by simp⟩ dX9_quartersOfTest_87 ?_
                refine go_istoreS (lv' := [(0, .ref va), (1, rj_i x), (2, rj_i t), (3, rj_i h), (4, rj_i v), (5, rj_i ((sp_bits (fun q => sp_tst (sp_b s D m p q t) v h) k) + (2 ^ k))), (6, rj_i (k : Int)), (7, rj_i (k : Int)), (8, rj_i 1)]) (by decide) rfl dX9_quartersOfTest_88 ?_
                refine go_iincI (a := (k : Int)) (n := 1) (k0 := 6) (lv' := [(0, .ref va), (1, rj_i x), (2, rj_i t), (3, rj_i h), (4, rj_i v), (5, rj_i ((sp_bits (fun q => sp_tst (sp_b s D m p q t) v h) k) + (2 ^ k))), (6, rj_i ((k : Int) + 1)), (7, rj_i (k : Int)), (8, rj_i 1)]) rfl (by decide) rfl dX9_quartersOfTest_90 ?_
                refine go_goto (tgt := 25) dX9_quartersOfTest_93 (by decide) ?_
                refine go_sub (lv' := [(0, .ref va), (1, rj_i x), (2, rj_i t), (3, rj_i h), (4, rj_i v), (5, rj_i ((sp_bits (fun q => sp_tst (sp_b s D m p q t) v h) k) + (2 ^ k))), (6, rj_i ((k : Int) + 1))]) (by intro q hq; simp only [List.mem_cons, List.not_mem_nil, or_false] at hq ⊢; rcases hq with rfl | rfl | rfl | rfl | rfl | rfl | rfl <;> simp) ?_
                exact go_eq rfl (lv' := [(0, .ref va), (1, rj_i x), (2, rj_i t), (3, rj_i h), (4, rj_i v), (5, rj_i (sp_bits (fun q => sp_tst (sp_b s D m p q t) v h) (k + 1))), (6, rj_i ((k + 1 : Nat) : Int))]) (rj_lk (rj_lk (rj_lk (rj_lk (rj_lk (rj_lj (by rw [sp_bits]; rw [if_pos (by unfold sp_tst; (repeat' split) <;> simp only [decide_eq_true_eq] <;> omega)]) (rj_lj (by omega) rfl))))))) rfl rfl (ih (k + 1) (by omega))
          · refine go_iconst (v := Int32.ofInt 0) dX9_quartersOfTest_57 rfl ?_
            refine go_goto (tgt := 73) dX9_quartersOfTest_58 (by decide) ?_
            refine go_istoreS (lv' := [(0, .ref va), (1, rj_i x), (2, rj_i t), (3, rj_i h), (4, rj_i v), (5, rj_i (sp_bits (fun q => sp_tst (sp_b s D m p q t) v h) k)), (6, rj_i (k : Int)), (7, rj_i (k : Int)), (8, rj_i 0)]) (by decide) rfl dX9_quartersOfTest_73 ?_
            refine go_iload dX9_quartersOfTest_75 8 rfl ?_
            refine go_iload_n dX9_quartersOfTest_77 rfl 3 rfl ?_
            refine go_icmp_neI (tgt := 90) (by omega) (by omega) dX9_quartersOfTest_78 (by decide) (fun c_78 => ?_) (fun c_78 => ?_)
            · refine go_iincI (a := (k : Int)) (n := 1) (k0 := 6) (lv' := [(0, .ref va), (1, rj_i x), (2, rj_i t), (3, rj_i h), (4, rj_i v), (5, rj_i (sp_bits (fun q => sp_tst (sp_b s D m p q t) v h) k)), (6, rj_i ((k : Int) + 1)), (7, rj_i (k : Int)), (8, rj_i 0)]) rfl (by decide) rfl dX9_quartersOfTest_90 ?_
              refine go_goto (tgt := 25) dX9_quartersOfTest_93 (by decide) ?_
              refine go_sub (lv' := [(0, .ref va), (1, rj_i x), (2, rj_i t), (3, rj_i h), (4, rj_i v), (5, rj_i (sp_bits (fun q => sp_tst (sp_b s D m p q t) v h) k)), (6, rj_i ((k : Int) + 1))]) (by intro q hq; simp only [List.mem_cons, List.not_mem_nil, or_false] at hq ⊢; rcases hq with rfl | rfl | rfl | rfl | rfl | rfl | rfl <;> simp) ?_
              exact go_eq rfl (lv' := [(0, .ref va), (1, rj_i x), (2, rj_i t), (3, rj_i h), (4, rj_i v), (5, rj_i (sp_bits (fun q => sp_tst (sp_b s D m p q t) v h) (k + 1))), (6, rj_i ((k + 1 : Nat) : Int))]) (rj_lk (rj_lk (rj_lk (rj_lk (rj_lk (rj_lj (by rw [sp_bits]; rw [if_neg (by unfold sp_tst; (repeat' split) <;> simp only [decide_eq_true_eq] <;> omega), Int.add_zero]) (rj_lj (by omega) rfl))))))) rfl rfl (ih (k + 1) (by omega))
            · refine go_iload dX9_quartersOfTest_81 5 rfl ?_
              refine go_iconst (v := Int32.ofInt 1) dX9_quartersOfTest_83 rfl ?_
              refine go_iload dX9_quartersOfTest_84 6 rfl ?_
              refine go_shl1 (k := k) (by omega) dX9_quartersOfTest_86 ?_
              refine go_orI ⟨k, by omega, (sp_bits_b (fun q => sp_tst (sp_b s D m p q t) v h) k).1, (sp_bits_b (fun q => sp_tst (sp_b s D m p q t) v h) k).2, by simp⟩ dX9_quartersOfTest_87 ?_
              refine go_istoreS (lv' := [(0, .ref va), (1, rj_i x), (2, rj_i t), (3, rj_i h), (4, rj_i v), (5, rj_i ((sp_bits (fun q => sp_tst (sp_b s D m p q t) v h) k) + (2 ^ k))), (6, rj_i (k : Int)), (7, rj_i (k : Int)), (8, rj_i 0)]) (by decide) rfl dX9_quartersOfTest_88 ?_
              refine go_iincI (a := (k : Int)) (n := 1) (k0 := 6) (lv' := [(0, .ref va), (1, rj_i x), (2, rj_i t), (3, rj_i h), (4, rj_i v), (5, rj_i ((sp_bits (fun q => sp_tst (sp_b s D m p q t) v h) k) + (2 ^ k))), (6, rj_i ((k : Int) + 1)), (7, rj_i (k : Int)), (8, rj_i 0)]) rfl (by decide) rfl dX9_quartersOfTest_90 ?_
              refine go_goto (tgt := 25) dX9_quartersOfTest_93 (by decide) ?_
              refine go_sub (lv' := [(0, .ref va), (1, rj_i x), (2, rj_i t), (3, rj_i h), (4, rj_i v), (5, rj_i ((sp_bits (fun q => sp_tst (sp_b s D m p q t) v h) k) + (2 ^ k))), (6, rj_i ((k : Int) + 1))]) (by intro q hq; simp only [List.mem_cons, List.not_mem_nil, or_false] at hq ⊢; rcases hq with rfl | rfl | rfl | rfl | rfl | rfl | rfl <;> simp) ?_
              exact go_eq rfl (lv' := [(0, .ref va), (1, rj_i x), (2, rj_i t), (3, rj_i h), (4, rj_i v), (5, rj_i (sp_bits (fun q => sp_tst (sp_b s D m p q t) v h) (k + 1))), (6, rj_i ((k + 1 : Nat) : Int))]) (rj_lk (rj_lk (rj_lk (rj_lk (rj_lk (rj_lj (by rw [sp_bits]; rw [if_pos (by unfold sp_tst; (repeat' split) <;> simp only [decide_eq_true_eq] <;> omega)]) (rj_lj (by omega) rfl))))))) rfl rfl (ih (k + 1) (by omega))
  exact go_eq rfl (lv' := [(0, .ref va), (1, rj_i x), (2, rj_i t), (3, rj_i h), (4, rj_i v), (5, rj_i (sp_bits (fun q => sp_tst (sp_b s D m p q t) v h) 0)), (6, rj_i ((0 : Nat) : Int))]) (rj_lk (rj_lk (rj_lk (rj_lk (rj_lk (rj_lj (rfl) (rj_lj (rfl) rfl))))))) rfl rfl (loop 8 0 rfl)
set_option maxRecDepth 20000 in
/-- v_parts -/
theorem v_parts {X9 : rj_X} {σ : rj_H} {d cb vv vk : Nat} {c : rm_R} {x k : Int} (hx : -2147483648 ≤ x ∧ x < 2147483648) (hk : (0 ≤ x → k = 0) ∧ (x = -1 → k = 1) ∧ (x < -1 → k = 2)) : rj_Cl X9 d yX9_partsOf cX9_partsOf 1 (some .int) [rj_i x] (rc_p X9 cb vv vk c σ) (fun w9 τ => w9 = some (rj_i k) ∧ τ = rc_p X9 cb vv vk c σ) := by
  refine go_call (by decide +kernel) (Nat.le_of_ble_eq_true rfl) ?_
  refine go_eq (pc' := 0) (lv' := [(0, rj_i x)]) (st' := []) rfl rfl rfl rfl ?_
  refine go_iload_n dX9_partsOf_0 rfl 0 rfl ?_
  refine go_if_ltI (tgt := 8) (by omega) dX9_partsOf_1 (by decide) (fun c_1 => ?_) (fun c_1 => ?_)
  · refine go_iload_n dX9_partsOf_8 rfl 0 rfl ?_
    refine go_iconst (v := Int32.ofInt (-1)) dX9_partsOf_9 rfl ?_
    refine go_icmp_neI (tgt := 17) (by omega) (by omega) dX9_partsOf_10 (by decide) (fun c_10 => ?_) (fun c_10 => ?_)
    · refine go_iconst (v := Int32.ofInt 2) dX9_partsOf_17 rfl ?_
      refine go_retI rfl rfl ?_ dX9_partsOf_18
      exact ⟨rj_vi (by omega), rfl⟩
    · refine go_iconst (v := Int32.ofInt 1) dX9_partsOf_13 rfl ?_
      refine go_goto (tgt := 18) dX9_partsOf_14 (by decide) ?_
      refine go_retI rfl rfl ?_ dX9_partsOf_18
      exact ⟨rj_vi (by omega), rfl⟩
  · refine go_iconst (v := Int32.ofInt 0) dX9_partsOf_4 rfl ?_
    refine go_goto (tgt := 18) dX9_partsOf_5 (by decide) ?_
    refine go_retI rfl rfl ?_ dX9_partsOf_18
    exact ⟨rj_vi (by omega), rfl⟩
set_option maxRecDepth 20000 in
/-- v_run -/
theorem v_run {X9 : rj_X} {σ : rj_H} {d cb vv vk : Nat} {c : rm_R} {s : Int → Int} {D sort m p off : Int} {n x0 y : Nat} (hd : 1 ≤ d) {va a1 a2 a3 : Nat} {gs gw ge : Int → Int} {vj vm cl tn : Int} {rst : List Value} (hV : rc_V cb vv vk) (hv : rc_vd X9 cb vv vk σ vv vk va a1 a2 a3 gs gw ge vj vm cl tn rst) (hr : rc_vr s off n gs gw ge vj vm) (hx : x0 ≤ y) (hy : y < n) (hno : ∀ i : Nat, x0 ≤ i → i < y → -11 < s (off + (i : Int))) (hym : s (off + (y : Int)) ≤ -11) (ht0 : sp_ht s off x0 = 0) (h92 : rc_bv s D m p (c 92)) : rj_Cl X9 d yX9_run cX9_run 8 (some .int) [.ref va, rj_i (sp_cj s off x0 : Int), rj_i (sp_cj s off y : Int)] (rc_p X9 cb vv vk c σ) (fun w9 τ => w9 = some (rj_i (sp_bits (fun q => (sp_Z s D sort m p off q y).2.1 0) 8)) ∧ ∃ c0, rc_t 93 c c0 ∧ τ = rc_p X9 cb vv vk c0 σ) := by
  have hcy := (sp_cjr (f := s) (off := off) (x := x0) (y := y) hx hno).1
  have hcn := sp_cj_le s off (k := y) (n := n) (by omega)
  have hb1 := hr.2.2.1
  refine go_call (by decide +kernel) (Nat.le_of_ble_eq_true rfl) ?_
  refine go_eq (pc' := 0) (lv' := [(0, .ref va), (1, rj_i (sp_cj s off x0 : Int)), (2, rj_i (sp_cj s off y : Int))]) (st' := []) rfl rfl rfl rfl ?_
  refine go_iconst (v := Int32.ofInt 0) dX9_run_0 rfl ?_
  refine go_istore_nS (lv' := [(0, .ref va), (1, rj_i (sp_cj s off x0 : Int)), (2, rj_i (sp_cj s off y : Int)), (3, rj_i 0)]) rfl (by decide) rfl dX9_run_1 ?_
  refine go_iload_n dX9_run_2 rfl 1 rfl ?_
  refine go_istoreS (lv' := [(0, .ref va), (1, rj_i (sp_cj s off x0 : Int)), (2, rj_i (sp_cj s off y : Int)), (3, rj_i 0), (4, rj_i (sp_cj s off x0 : Int))]) (by decide) rfl dX9_run_3 ?_
  have loop : ∀ (n2 x : Nat) (cl : rm_R), x + n2 = y → x0 ≤ x → rc_t 93 c cl → (∀ j : Int, 0 ≤ j → j < sp_ht s off x → cl 93 j = sp_bits (fun q => (sp_Z s D sort m p off q x).2.1 j) 8) → rj_Go X9 yX9_run cX9_run 8 (some .int) d (fun w9 τ => w9 = some (rj_i (sp_bits (fun q => (sp_Z s D sort m p off q y).2.1 0) 8)) ∧ ∃ c0, rc_t 93 c c0 ∧ τ = rc_p X9 cb vv vk c0 σ) 5 [(0, .ref va), (1, rj_i (sp_cj s off x0 : Int)), (2, rj_i (sp_cj s off y : Int)), (3, rj_i (sp_ht s off x)), (4, rj_i (sp_cj s off x : Int))] [] (rc_p X9 cb vv vk cl σ) := by
    intro n2
    induction n2 with
    | zero =>
      intro x cl hk hx0 hl hA
      obtain rfl : x = y := by omega
      have hok := hr.2.2.2.2.2.2.2 x hy
      have ho := hok.2.2.2.2.2 hym
      refine go_iload dX9_run_5 4 rfl ?_
      refine go_iload_n dX9_run_7 rfl 2 rfl ?_
      refine go_icmp_geI (tgt := 147) (by omega) (by omega) dX9_run_8 (by decide) (fun c_8 => ?_) (fun c_8 => ?_)
      · refine go_aload_n dX9_run_147 rfl 0 rfl ?_
        refine rc_go (k := 6) kX9 hv.1.1 hv.1.2.1 hv.1.2.2.1 hv.2.1 (by decide) fX9_39 rfl dX9_run_148 ?_
        refine go_iconst (v := Int32.ofInt 0) dX9_run_151 rfl ?_
        refine rc_ldk hV (by omega) (by omega) dX9_run_152 ?_
        refine go_retI rfl rfl ?_ dX9_run_153
        exact ⟨rj_vi (hA 0 (by omega) (by omega)), cl, hl, rfl⟩
      · exact absurd c_8 (by omega)
    | succ n2 ih =>
      intro x cl hk hx0 hl hA
      have hok := hr.2.2.2.2.2.2.2 x (by omega)
      have hng := hno x hx0 (by omega)
      have hcy := (sp_cjr (f := s) (off := off) (x := x) (y := y) (by omega) (fun i a b => hno i (by omega) b)).1
      have hcn := sp_cj_le s off (k := y) (n := n) (by omega)
      have hgs := (hr.2.2.2.2.1 x (by omega)).1 hng
      have hde := hr.2.2.2.2.2.2.1 x (by omega)
      have hc1 : sp_cj s off (x + 1) = sp_cj s off x + 1 := by show sp_cj s off x + _ = _; rw [if_neg (by omega)]
      obtain ⟨hok1, hok2, hok3, hok4, hok5, hok6⟩ := id hok
      rcases (show 0 ≤ s (off + (x : Int)) ∨ s (off + (x : Int)) = -1 ∨ s (off + (x : Int)) < -1 by omega) with hc | hc | hc
      · have hv17 : gs (sp_cj s off x : Int) = 300 * (s (off + (x : Int)) % 8) + 100 * (s (off + (x : Int)) / 8 % 4) + s (off + (x : Int)) / 32 := by rw [hgs]; unfold sp_enc; rw [if_pos hc]
        have hde2 := hde hc
        refine go_iload dX9_run_5 4 rfl ?_
        refine go_iload_n dX9_run_7 rfl 2 rfl ?_
        refine go_icmp_geI (tgt := 147) (by omega) (by omega) dX9_run_8 (by decide) (fun c_8 => ?_) (fun c_8 => ?_)
        · exact absurd c_8 (by omega)
        · refine go_aload_n dX9_run_11 rfl 0 rfl ?_
          refine rc_go (k := 0) kX9 hv.1.1 hv.1.2.1 hv.1.2.2.1 hv.2.1 (by decide) fX9_9 rfl dX9_run_12 ?_
          refine go_iload dX9_run_15 4 rfl ?_
          refine rc_ld2 hv.2.2.1.1 hv.2.2.1.2.1 hv.2.2.1.2.2.1 hv.2.2.2.1 (by omega) (by omega) (by decide) dX9_run_17 ?_
          rw [show gs (sp_cj s off x : Int) = 300 * (s (off + (x : Int)) % 8) + 100 * (s (off + (x : Int)) / 8 % 4) + s (off + (x : Int)) / 32 from hv17]
          refine go_istoreS (lv' := [(0, .ref va), (1, rj_i (sp_cj s off x0 : Int)), (2, rj_i (sp_cj s off y : Int)), (3, rj_i (sp_ht s off x)), (4, rj_i (sp_cj s off x : Int)), (5, rj_i (300 * (s (off + (x : Int)) % 8) + 100 * (s (off + (x : Int)) / 8 % 4) + s (off + (x : Int)) / 32))]) (by decide) rfl dX9_run_18 ?_
          refine go_iload_n dX9_run_20 rfl 3 rfl ?_
          refine go_iload dX9_run_21 5 rfl ?_
          refine go_callS (d1 := d - 1) wSX9_65 rfl (by omega) (v_parts (σ := σ) (cb := cb) (vv := vv) (vk := vk) (c := cl) (x := 300 * (s (off + (x : Int)) % 8) + 100 * (s (off + (x : Int)) / 8 % 4) + s (off + (x : Int)) / 32) (k := 0) (by omega) (by omega)) rfl (Nat.le_of_ble_eq_true rfl) dX9_run_23 (fun w σ1 hP9 => ?_)
          obtain ⟨rfl, rfl⟩ := hP9
          refine go_subI dX9_run_26 ?_
          rw [show (sp_ht s off x) - 0 = sp_ht s off x by omega]
          refine go_istoreS (lv' := [(0, .ref va), (1, rj_i (sp_cj s off x0 : Int)), (2, rj_i (sp_cj s off y : Int)), (3, rj_i (sp_ht s off x)), (4, rj_i (sp_cj s off x : Int)), (5, rj_i (300 * (s (off + (x : Int)) % 8) + 100 * (s (off + (x : Int)) / 8 % 4) + s (off + (x : Int)) / 32)), (6, rj_i (sp_ht s off x))]) (by decide) rfl dX9_run_27 ?_
          refine go_iload dX9_run_29 6 rfl ?_
          refine go_if_ltI (tgt := 44) (by omega) dX9_run_31 (by decide) (fun c_31 => ?_) (fun c_31 => ?_)
          · exact absurd c_31 (by omega)
          · refine go_iload dX9_run_34 6 rfl ?_
            refine go_aload_n dX9_run_36 rfl 0 rfl ?_
            refine rc_go (k := 6) kX9 hv.1.1 hv.1.2.1 hv.1.2.2.1 hv.2.1 (by decide) fX9_39 rfl dX9_run_37 ?_
            refine go_alen (n := 13) (rc_vk hV) rfl rfl (by decide) dX9_run_40 ?_
            refine go_icmp_ltI (tgt := 46) (by omega) (by omega) dX9_run_41 (by decide) (fun c_41 => ?_) (fun c_41 => ?_)
            · refine go_iload dX9_run_46 5 rfl ?_
              refine go_if_ltI (tgt := 67) (by omega) dX9_run_48 (by decide) (fun c_48 => ?_) (fun c_48 => ?_)
              · exact absurd c_48 (by omega)
              · refine go_aload_n dX9_run_51 rfl 0 rfl ?_
                refine rc_go (k := 6) kX9 hv.1.1 hv.1.2.1 hv.1.2.2.1 hv.2.1 (by decide) fX9_39 rfl dX9_run_52 ?_
                refine go_iload dX9_run_55 6 rfl ?_
                refine go_aload_n dX9_run_57 rfl 0 rfl ?_
                refine go_iload dX9_run_58 5 rfl ?_
                refine go_callV (d1 := d - 1) wVX9_69 kX9 (rc_va hv) rfl (by omega) (v_test hV hv (s := s) (D := D) (m := m) (p := p) (x := 300 * (s (off + (x : Int)) % 8) + 100 * (s (off + (x : Int)) / 8 % 4) + s (off + (x : Int)) / 32) (t := s (off + (x : Int)) % 8) (h := s (off + (x : Int)) / 8 % 4) (v := s (off + (x : Int)) / 32) (by omega) (by omega) (by omega) (by omega) (by rw [hl 92 (by decide)]; exact h92)) rfl (Nat.le_of_ble_eq_true rfl) dX9_run_60 (fun w σ1 hP9 => ?_)
                obtain ⟨rfl, rfl⟩ := hP9
                refine rc_stk hV (by omega) (by omega) dX9_run_63 ?_
                refine go_goto (tgt := 136) dX9_run_64 (by decide) ?_
                refine go_iload dX9_run_136 6 rfl ?_
                refine go_iconst (v := Int32.ofInt 1) dX9_run_138 rfl ?_
                refine go_addI dX9_run_139 ?_
                refine go_istore_nS (lv' := [(0, .ref va), (1, rj_i (sp_cj s off x0 : Int)), (2, rj_i (sp_cj s off y : Int)), (3, rj_i ((sp_ht s off x) + 1)), (4, rj_i (sp_cj s off x : Int)), (5, rj_i (300 * (s (off + (x : Int)) % 8) + 100 * (s (off + (x : Int)) / 8 % 4) + s (off + (x : Int)) / 32)), (6, rj_i (sp_ht s off x))]) rfl (by decide) rfl dX9_run_140 ?_
                refine go_iincI (a := (sp_cj s off x : Int)) (n := 1) (k0 := 4) (lv' := [(0, .ref va), (1, rj_i (sp_cj s off x0 : Int)), (2, rj_i (sp_cj s off y : Int)), (3, rj_i ((sp_ht s off x) + 1)), (4, rj_i ((sp_cj s off x : Int) + 1)), (5, rj_i (300 * (s (off + (x : Int)) % 8) + 100 * (s (off + (x : Int)) / 8 % 4) + s (off + (x : Int)) / 32)), (6, rj_i (sp_ht s off x))]) rfl (by decide) rfl dX9_run_141 ?_
                refine go_goto (tgt := 5) dX9_run_144 (by decide) ?_
                have hz := fun q : Int => sp_Z0 (s := s) (D := D) (sort := sort) (m := m) (p := p) (off := off) (q := q) (x := x) rfl hc
                have hA2 : ∀ j : Int, 0 ≤ j → j < sp_ht s off (x + 1) → (rm_u cl 93 (rj_up (cl 93) (sp_ht s off x) (sp_bits (fun q => sp_tst (sp_b s D m p q (s (off + (x : Int)) % 8)) (s (off + (x : Int)) / 32) (s (off + (x : Int)) / 8 % 4)) 8))) 93 j = sp_bits (fun q => (sp_Z s D sort m p off q (x + 1)).2.1 j) 8 := by
                  intro j j0 j1; rw [sp_ht0 hc] at j1; simp only [hz]; rw [rm_u_eq]
                  exact sp_Kup (A := cl 93) (T := fun q => (sp_Z s D sort m p off q x).2.1) (t := sp_ht s off x) (t2 := sp_ht s off x + 1) (i := sp_ht s off x) (w := (sp_bits (fun q => sp_tst (sp_b s D m p q (s (off + (x : Int)) % 8)) (s (off + (x : Int)) / 32) (s (off + (x : Int)) / 8 % 4)) 8)) hA rfl (fun j a b c => by omega) j j0 j1
                refine go_sub (lv' := [(0, .ref va), (1, rj_i (sp_cj s off x0 : Int)), (2, rj_i (sp_cj s off y : Int)), (3, rj_i ((sp_ht s off x) + 1)), (4, rj_i ((sp_cj s off x : Int) + 1))]) (by intro q hq; simp only [List.mem_cons, List.not_mem_nil, or_false] at hq ⊢; rcases hq with rfl | rfl | rfl | rfl | rfl <;> simp) ?_
                exact go_eq rfl (lv' := [(0, .ref va), (1, rj_i (sp_cj s off x0 : Int)), (2, rj_i (sp_cj s off y : Int)), (3, rj_i (sp_ht s off (x + 1))), (4, rj_i (sp_cj s off (x + 1) : Int))]) (rj_lk (rj_lk (rj_lk (rj_lj (by have q9 := sp_ht0 hc; omega) (rj_lj (by omega) rfl))))) rfl rfl (ih (x + 1) (rm_u cl 93 (rj_up (cl 93) (sp_ht s off x) (sp_bits (fun q => sp_tst (sp_b s D m p q (s (off + (x : Int)) % 8)) (s (off + (x : Int)) / 32) (s (off + (x : Int)) / 8 % 4)) 8))) (by omega) (by omega) (hl.tr (rc_t.u (by omega))) (hA2))
            · exact absurd c_41 (by omega)
      · have hv17 : gs (sp_cj s off x : Int) = -1 := by rw [hgs]; unfold sp_enc; rw [if_neg (by omega), hc]
        refine go_iload dX9_run_5 4 rfl ?_
        refine go_iload_n dX9_run_7 rfl 2 rfl ?_
        refine go_icmp_geI (tgt := 147) (by omega) (by omega) dX9_run_8 (by decide) (fun c_8 => ?_) (fun c_8 => ?_)
        · exact absurd c_8 (by omega)
        · refine go_aload_n dX9_run_11 rfl 0 rfl ?_
          refine rc_go (k := 0) kX9 hv.1.1 hv.1.2.1 hv.1.2.2.1 hv.2.1 (by decide) fX9_9 rfl dX9_run_12 ?_
          refine go_iload dX9_run_15 4 rfl ?_
          refine rc_ld2 hv.2.2.1.1 hv.2.2.1.2.1 hv.2.2.1.2.2.1 hv.2.2.2.1 (by omega) (by omega) (by decide) dX9_run_17 ?_
          rw [show gs (sp_cj s off x : Int) = (-1) from hv17]
          refine go_istoreS (lv' := [(0, .ref va), (1, rj_i (sp_cj s off x0 : Int)), (2, rj_i (sp_cj s off y : Int)), (3, rj_i (sp_ht s off x)), (4, rj_i (sp_cj s off x : Int)), (5, rj_i (-1))]) (by decide) rfl dX9_run_18 ?_
          refine go_iload_n dX9_run_20 rfl 3 rfl ?_
          refine go_iload dX9_run_21 5 rfl ?_
          refine go_callS (d1 := d - 1) wSX9_65 rfl (by omega) (v_parts (σ := σ) (cb := cb) (vv := vv) (vk := vk) (c := cl) (x := (-1)) (k := 1) (by omega) (by omega)) rfl (Nat.le_of_ble_eq_true rfl) dX9_run_23 (fun w σ1 hP9 => ?_)
          obtain ⟨rfl, rfl⟩ := hP9
          refine go_subI dX9_run_26 ?_
          refine go_istoreS (lv' := [(0, .ref va), (1, rj_i (sp_cj s off x0 : Int)), (2, rj_i (sp_cj s off y : Int)), (3, rj_i (sp_ht s off x)), (4, rj_i (sp_cj s off x : Int)), (5, rj_i (-1)), (6, rj_i ((sp_ht s off x) - 1))]) (by decide) rfl dX9_run_27 ?_
          refine go_iload dX9_run_29 6 rfl ?_
          refine go_if_ltI (tgt := 44) (by omega) dX9_run_31 (by decide) (fun c_31 => ?_) (fun c_31 => ?_)
          · exact absurd c_31 (by omega)
          · refine go_iload dX9_run_34 6 rfl ?_
            refine go_aload_n dX9_run_36 rfl 0 rfl ?_
            refine rc_go (k := 6) kX9 hv.1.1 hv.1.2.1 hv.1.2.2.1 hv.2.1 (by decide) fX9_39 rfl dX9_run_37 ?_
            refine go_alen (n := 13) (rc_vk hV) rfl rfl (by decide) dX9_run_40 ?_
            refine go_icmp_ltI (tgt := 46) (by omega) (by omega) dX9_run_41 (by decide) (fun c_41 => ?_) (fun c_41 => ?_)
            · refine go_iload dX9_run_46 5 rfl ?_
              refine go_if_ltI (tgt := 67) (by omega) dX9_run_48 (by decide) (fun c_48 => ?_) (fun c_48 => ?_)
              · refine go_iload dX9_run_67 5 rfl ?_
                refine go_iconst (v := Int32.ofInt (-1)) dX9_run_69 rfl ?_
                refine go_icmp_neI (tgt := 89) (by omega) (by omega) dX9_run_70 (by decide) (fun c_70 => ?_) (fun c_70 => ?_)
                · exact absurd c_70 (by omega)
                · refine go_aload_n dX9_run_73 rfl 0 rfl ?_
                  refine rc_go (k := 6) kX9 hv.1.1 hv.1.2.1 hv.1.2.2.1 hv.2.1 (by decide) fX9_39 rfl dX9_run_74 ?_
                  refine go_iload dX9_run_77 6 rfl ?_
                  refine go_dup2_11 dX9_run_79 rfl rfl ?_
                  refine rc_ldk hV (by omega) (by omega) dX9_run_80 ?_
                  rw [show cl 93 ((sp_ht s off x) - 1) = sp_bits (fun q => (sp_Z s D sort m p off q x).2.1 (sp_ht s off x - 1)) 8 from (hA _ (by omega) (by omega))]
                  refine go_sipush (v := Int32.ofInt 255) dX9_run_81 (by decide) ?_
                  refine go_notM (fun q => (sp_Z s D sort m p off q x).2.1 (sp_ht s off x - 1)) dX9_run_84 ?_
                  refine rc_stk hV (by omega) (by omega) dX9_run_85 ?_
                  refine go_goto (tgt := 136) dX9_run_86 (by decide) ?_
                  refine go_iload dX9_run_136 6 rfl ?_
                  refine go_iconst (v := Int32.ofInt 1) dX9_run_138 rfl ?_
                  refine go_addI dX9_run_139 ?_
                  refine go_istore_nS (lv' := [(0, .ref va), (1, rj_i (sp_cj s off x0 : Int)), (2, rj_i (sp_cj s off y : Int)), (3, rj_i (((sp_ht s off x) - 1) + 1)), (4, rj_i (sp_cj s off x : Int)), (5, rj_i (-1)), (6, rj_i ((sp_ht s off x) - 1))]) rfl (by decide) rfl dX9_run_140 ?_
                  refine go_iincI (a := (sp_cj s off x : Int)) (n := 1) (k0 := 4) (lv' := [(0, .ref va), (1, rj_i (sp_cj s off x0 : Int)), (2, rj_i (sp_cj s off y : Int)), (3, rj_i (((sp_ht s off x) - 1) + 1)), (4, rj_i ((sp_cj s off x : Int) + 1)), (5, rj_i (-1)), (6, rj_i ((sp_ht s off x) - 1))]) rfl (by decide) rfl dX9_run_141 ?_
                  refine go_goto (tgt := 5) dX9_run_144 (by decide) ?_
                  have hz := fun q : Int => sp_Z1 (s := s) (D := D) (sort := sort) (m := m) (p := p) (off := off) (q := q) (x := x) hc
                  have hA2 : ∀ j : Int, 0 ≤ j → j < sp_ht s off (x + 1) → (rm_u cl 93 (rj_up (cl 93) ((sp_ht s off x) - 1) (sp_bits (fun q8 => !(fun q => (sp_Z s D sort m p off q x).2.1 (sp_ht s off x - 1)) q8) 8))) 93 j = sp_bits (fun q => (sp_Z s D sort m p off q (x + 1)).2.1 j) 8 := by
                    intro j j0 j1; rw [sp_ht1 hc] at j1; simp only [hz]; rw [rm_u_eq]
                    exact sp_Kup (A := cl 93) (T := fun q => (sp_Z s D sort m p off q x).2.1) (t := sp_ht s off x) (t2 := sp_ht s off x) (i := sp_ht s off x - 1) (w := (sp_bits (fun q8 => !(fun q => (sp_Z s D sort m p off q x).2.1 (sp_ht s off x - 1)) q8) 8)) hA rfl (fun j a b c => by omega) j j0 j1
                  refine go_sub (lv' := [(0, .ref va), (1, rj_i (sp_cj s off x0 : Int)), (2, rj_i (sp_cj s off y : Int)), (3, rj_i (((sp_ht s off x) - 1) + 1)), (4, rj_i ((sp_cj s off x : Int) + 1))]) (by intro q hq; simp only [List.mem_cons, List.not_mem_nil, or_false] at hq ⊢; rcases hq with rfl | rfl | rfl | rfl | rfl <;> simp) ?_
                  exact go_eq rfl (lv' := [(0, .ref va), (1, rj_i (sp_cj s off x0 : Int)), (2, rj_i (sp_cj s off y : Int)), (3, rj_i (sp_ht s off (x + 1))), (4, rj_i (sp_cj s off (x + 1) : Int))]) (rj_lk (rj_lk (rj_lk (rj_lj (by have q9 := sp_ht1 hc; omega) (rj_lj (by omega) rfl))))) rfl rfl (ih (x + 1) (rm_u cl 93 (rj_up (cl 93) ((sp_ht s off x) - 1) (sp_bits (fun q8 => !(fun q => (sp_Z s D sort m p off q x).2.1 (sp_ht s off x - 1)) q8) 8))) (by omega) (by omega) (hl.tr (rc_t.u (by omega))) (hA2))
              · exact absurd c_48 (by omega)
            · exact absurd c_41 (by omega)
      · have hv17 : gs (sp_cj s off x : Int) = s (off + (x : Int)) := by rw [hgs]; unfold sp_enc; rw [if_neg (by omega)]
        refine go_iload dX9_run_5 4 rfl ?_
        refine go_iload_n dX9_run_7 rfl 2 rfl ?_
        refine go_icmp_geI (tgt := 147) (by omega) (by omega) dX9_run_8 (by decide) (fun c_8 => ?_) (fun c_8 => ?_)
        · exact absurd c_8 (by omega)
        · refine go_aload_n dX9_run_11 rfl 0 rfl ?_
          refine rc_go (k := 0) kX9 hv.1.1 hv.1.2.1 hv.1.2.2.1 hv.2.1 (by decide) fX9_9 rfl dX9_run_12 ?_
          refine go_iload dX9_run_15 4 rfl ?_
          refine rc_ld2 hv.2.2.1.1 hv.2.2.1.2.1 hv.2.2.1.2.2.1 hv.2.2.2.1 (by omega) (by omega) (by decide) dX9_run_17 ?_
          rw [show gs (sp_cj s off x : Int) = s (off + (x : Int)) from hv17]
          refine go_istoreS (lv' := [(0, .ref va), (1, rj_i (sp_cj s off x0 : Int)), (2, rj_i (sp_cj s off y : Int)), (3, rj_i (sp_ht s off x)), (4, rj_i (sp_cj s off x : Int)), (5, rj_i (s (off + (x : Int))))]) (by decide) rfl dX9_run_18 ?_
          refine go_iload_n dX9_run_20 rfl 3 rfl ?_
          refine go_iload dX9_run_21 5 rfl ?_
          refine go_callS (d1 := d - 1) wSX9_65 rfl (by omega) (v_parts (σ := σ) (cb := cb) (vv := vv) (vk := vk) (c := cl) (x := s (off + (x : Int))) (k := 2) (by omega) (by omega)) rfl (Nat.le_of_ble_eq_true rfl) dX9_run_23 (fun w σ1 hP9 => ?_)
          obtain ⟨rfl, rfl⟩ := hP9
          refine go_subI dX9_run_26 ?_
          rw [show (sp_ht s off x) - 2 = sp_ht s off x + (-1) - 1 by omega]
          refine go_istoreS (lv' := [(0, .ref va), (1, rj_i (sp_cj s off x0 : Int)), (2, rj_i (sp_cj s off y : Int)), (3, rj_i (sp_ht s off x)), (4, rj_i (sp_cj s off x : Int)), (5, rj_i (s (off + (x : Int)))), (6, rj_i (sp_ht s off x + (-1) - 1))]) (by decide) rfl dX9_run_27 ?_
          refine go_iload dX9_run_29 6 rfl ?_
          refine go_if_ltI (tgt := 44) (by omega) dX9_run_31 (by decide) (fun c_31 => ?_) (fun c_31 => ?_)
          · exact absurd c_31 (by omega)
          · refine go_iload dX9_run_34 6 rfl ?_
            refine go_aload_n dX9_run_36 rfl 0 rfl ?_
            refine rc_go (k := 6) kX9 hv.1.1 hv.1.2.1 hv.1.2.2.1 hv.2.1 (by decide) fX9_39 rfl dX9_run_37 ?_
            refine go_alen (n := 13) (rc_vk hV) rfl rfl (by decide) dX9_run_40 ?_
            refine go_icmp_ltI (tgt := 46) (by omega) (by omega) dX9_run_41 (by decide) (fun c_41 => ?_) (fun c_41 => ?_)
            · refine go_iload dX9_run_46 5 rfl ?_
              refine go_if_ltI (tgt := 67) (by omega) dX9_run_48 (by decide) (fun c_48 => ?_) (fun c_48 => ?_)
              · refine go_iload dX9_run_67 5 rfl ?_
                refine go_iconst (v := Int32.ofInt (-1)) dX9_run_69 rfl ?_
                refine go_icmp_neI (tgt := 89) (by omega) (by omega) dX9_run_70 (by decide) (fun c_70 => ?_) (fun c_70 => ?_)
                · refine go_aload_n dX9_run_89 rfl 0 rfl ?_
                  refine rc_go (k := 6) kX9 hv.1.1 hv.1.2.1 hv.1.2.2.1 hv.2.1 (by decide) fX9_39 rfl dX9_run_90 ?_
                  refine go_iload_n dX9_run_93 rfl 3 rfl ?_
                  refine go_iconst (v := Int32.ofInt 1) dX9_run_94 rfl ?_
                  refine go_subI dX9_run_95 ?_
                  refine rc_ldk hV (by omega) (by omega) dX9_run_96 ?_
                  rw [show cl 93 ((sp_ht s off x) - 1) = sp_bits (fun q => (sp_Z s D sort m p off q x).2.1 (sp_ht s off x + (-1))) 8 from (by rw [show sp_ht s off x - 1 = sp_ht s off x + (-1) by omega]; exact hA _ (by omega) (by omega))]
                  refine go_istoreS (lv' := [(0, .ref va), (1, rj_i (sp_cj s off x0 : Int)), (2, rj_i (sp_cj s off y : Int)), (3, rj_i (sp_ht s off x)), (4, rj_i (sp_cj s off x : Int)), (5, rj_i (s (off + (x : Int)))), (6, rj_i (sp_ht s off x + (-1) - 1)), (7, rj_i (sp_bits (fun q => (sp_Z s D sort m p off q x).2.1 (sp_ht s off x + (-1))) 8))]) (by decide) rfl dX9_run_97 ?_
                  refine go_aload_n dX9_run_99 rfl 0 rfl ?_
                  refine rc_go (k := 6) kX9 hv.1.1 hv.1.2.1 hv.1.2.2.1 hv.2.1 (by decide) fX9_39 rfl dX9_run_100 ?_
                  refine go_iload dX9_run_103 6 rfl ?_
                  refine go_iload dX9_run_105 5 rfl ?_
                  refine go_bipush (v := Int32.ofInt (-2)) dX9_run_107 (by decide) ?_
                  refine go_icmp_neI (tgt := 125) (by omega) (by omega) dX9_run_109 (by decide) (fun c_109 => ?_) (fun c_109 => ?_)
                  · refine go_aload_n dX9_run_125 rfl 0 rfl ?_
                    refine rc_go (k := 6) kX9 hv.1.1 hv.1.2.1 hv.1.2.2.1 hv.2.1 (by decide) fX9_39 rfl dX9_run_126 ?_
                    refine go_iload dX9_run_129 6 rfl ?_
                    refine rc_ldk hV (by omega) (by omega) dX9_run_131 ?_
                    rw [show cl 93 (sp_ht s off x + (-1) - 1) = sp_bits (fun q => (sp_Z s D sort m p off q x).2.1 (sp_ht s off x + (-1) - 1)) 8 from (hA _ (by omega) (by omega))]
                    refine go_iload dX9_run_132 7 rfl ?_
                    refine go_orM (fun q => (sp_Z s D sort m p off q x).2.1 (sp_ht s off x + (-1) - 1)) (fun q => (sp_Z s D sort m p off q x).2.1 (sp_ht s off x + (-1))) 8 dX9_run_134 ?_
                    refine rc_stk hV (by omega) (by omega) dX9_run_135 ?_
                    refine go_iload dX9_run_136 6 rfl ?_
                    refine go_iconst (v := Int32.ofInt 1) dX9_run_138 rfl ?_
                    refine go_addI dX9_run_139 ?_
                    refine go_istore_nS (lv' := [(0, .ref va), (1, rj_i (sp_cj s off x0 : Int)), (2, rj_i (sp_cj s off y : Int)), (3, rj_i ((sp_ht s off x + (-1) - 1) + 1)), (4, rj_i (sp_cj s off x : Int)), (5, rj_i (s (off + (x : Int)))), (6, rj_i (sp_ht s off x + (-1) - 1)), (7, rj_i (sp_bits (fun q => (sp_Z s D sort m p off q x).2.1 (sp_ht s off x + (-1))) 8))]) rfl (by decide) rfl dX9_run_140 ?_
                    refine go_iincI (a := (sp_cj s off x : Int)) (n := 1) (k0 := 4) (lv' := [(0, .ref va), (1, rj_i (sp_cj s off x0 : Int)), (2, rj_i (sp_cj s off y : Int)), (3, rj_i ((sp_ht s off x + (-1) - 1) + 1)), (4, rj_i ((sp_cj s off x : Int) + 1)), (5, rj_i (s (off + (x : Int)))), (6, rj_i (sp_ht s off x + (-1) - 1)), (7, rj_i (sp_bits (fun q => (sp_Z s D sort m p off q x).2.1 (sp_ht s off x + (-1))) 8))]) rfl (by decide) rfl dX9_run_141 ?_
                    refine go_goto (tgt := 5) dX9_run_144 (by decide) ?_
                    have hz := fun q : Int => sp_Z2 (s := s) (D := D) (sort := sort) (m := m) (p := p) (off := off) (q := q) (x := x) rfl hc hng
                    have hA2 : ∀ j : Int, 0 ≤ j → j < sp_ht s off (x + 1) → (rm_u cl 93 (rj_up (cl 93) (sp_ht s off x + (-1) - 1) (sp_bits (fun q8 => (fun q => (sp_Z s D sort m p off q x).2.1 (sp_ht s off x + (-1) - 1)) q8 || (fun q => (sp_Z s D sort m p off q x).2.1 (sp_ht s off x + (-1))) q8) 8))) 93 j = sp_bits (fun q => (sp_Z s D sort m p off q (x + 1)).2.1 j) 8 := by
                      intro j j0 j1; rw [sp_ht2 hc hng] at j1; simp only [hz]; rw [rm_u_eq]
                      exact sp_Kup (A := cl 93) (T := fun q => (sp_Z s D sort m p off q x).2.1) (t := sp_ht s off x) (t2 := sp_ht s off x + (-1)) (i := sp_ht s off x + (-1) - 1) (w := (sp_bits (fun q8 => (fun q => (sp_Z s D sort m p off q x).2.1 (sp_ht s off x + (-1) - 1)) q8 || (fun q => (sp_Z s D sort m p off q x).2.1 (sp_ht s off x + (-1))) q8) 8)) hA (sp_bits_ext (fun q _ _ => by show _ = (if _ then _ else _); rw [if_neg c_109])) (fun j a b c => by omega) j j0 j1
                    refine go_sub (lv' := [(0, .ref va), (1, rj_i (sp_cj s off x0 : Int)), (2, rj_i (sp_cj s off y : Int)), (3, rj_i ((sp_ht s off x + (-1) - 1) + 1)), (4, rj_i ((sp_cj s off x : Int) + 1))]) (by intro q hq; simp only [List.mem_cons, List.not_mem_nil, or_false] at hq ⊢; rcases hq with rfl | rfl | rfl | rfl | rfl <;> simp) ?_
                    exact go_eq rfl (lv' := [(0, .ref va), (1, rj_i (sp_cj s off x0 : Int)), (2, rj_i (sp_cj s off y : Int)), (3, rj_i (sp_ht s off (x + 1))), (4, rj_i (sp_cj s off (x + 1) : Int))]) (rj_lk (rj_lk (rj_lk (rj_lj (by have q9 := sp_ht2 hc hng; omega) (rj_lj (by omega) rfl))))) rfl rfl (ih (x + 1) (rm_u cl 93 (rj_up (cl 93) (sp_ht s off x + (-1) - 1) (sp_bits (fun q8 => (fun q => (sp_Z s D sort m p off q x).2.1 (sp_ht s off x + (-1) - 1)) q8 || (fun q => (sp_Z s D sort m p off q x).2.1 (sp_ht s off x + (-1))) q8) 8))) (by omega) (by omega) (hl.tr (rc_t.u (by omega))) (hA2))
                  · refine go_aload_n dX9_run_112 rfl 0 rfl ?_
                    refine rc_go (k := 6) kX9 hv.1.1 hv.1.2.1 hv.1.2.2.1 hv.2.1 (by decide) fX9_39 rfl dX9_run_113 ?_
                    refine go_iload dX9_run_116 6 rfl ?_
                    refine rc_ldk hV (by omega) (by omega) dX9_run_118 ?_
                    rw [show cl 93 (sp_ht s off x + (-1) - 1) = sp_bits (fun q => (sp_Z s D sort m p off q x).2.1 (sp_ht s off x + (-1) - 1)) 8 from (hA _ (by omega) (by omega))]
                    refine go_iload dX9_run_119 7 rfl ?_
                    refine go_andM (fun q => (sp_Z s D sort m p off q x).2.1 (sp_ht s off x + (-1) - 1)) (fun q => (sp_Z s D sort m p off q x).2.1 (sp_ht s off x + (-1))) 8 dX9_run_121 ?_
                    refine go_goto (tgt := 135) dX9_run_122 (by decide) ?_
                    refine rc_stk hV (by omega) (by omega) dX9_run_135 ?_
                    refine go_iload dX9_run_136 6 rfl ?_
                    refine go_iconst (v := Int32.ofInt 1) dX9_run_138 rfl ?_
                    refine go_addI dX9_run_139 ?_
                    refine go_istore_nS (lv' := [(0, .ref va), (1, rj_i (sp_cj s off x0 : Int)), (2, rj_i (sp_cj s off y : Int)), (3, rj_i ((sp_ht s off x + (-1) - 1) + 1)), (4, rj_i (sp_cj s off x : Int)), (5, rj_i (s (off + (x : Int)))), (6, rj_i (sp_ht s off x + (-1) - 1)), (7, rj_i (sp_bits (fun q => (sp_Z s D sort m p off q x).2.1 (sp_ht s off x + (-1))) 8))]) rfl (by decide) rfl dX9_run_140 ?_
                    refine go_iincI (a := (sp_cj s off x : Int)) (n := 1) (k0 := 4) (lv' := [(0, .ref va), (1, rj_i (sp_cj s off x0 : Int)), (2, rj_i (sp_cj s off y : Int)), (3, rj_i ((sp_ht s off x + (-1) - 1) + 1)), (4, rj_i ((sp_cj s off x : Int) + 1)), (5, rj_i (s (off + (x : Int)))), (6, rj_i (sp_ht s off x + (-1) - 1)), (7, rj_i (sp_bits (fun q => (sp_Z s D sort m p off q x).2.1 (sp_ht s off x + (-1))) 8))]) rfl (by decide) rfl dX9_run_141 ?_
                    refine go_goto (tgt := 5) dX9_run_144 (by decide) ?_
                    have hz := fun q : Int => sp_Z2 (s := s) (D := D) (sort := sort) (m := m) (p := p) (off := off) (q := q) (x := x) rfl hc hng
                    have hA2 : ∀ j : Int, 0 ≤ j → j < sp_ht s off (x + 1) → (rm_u cl 93 (rj_up (cl 93) (sp_ht s off x + (-1) - 1) (sp_bits (fun q8 => (fun q => (sp_Z s D sort m p off q x).2.1 (sp_ht s off x + (-1) - 1)) q8 && (fun q => (sp_Z s D sort m p off q x).2.1 (sp_ht s off x + (-1))) q8) 8))) 93 j = sp_bits (fun q => (sp_Z s D sort m p off q (x + 1)).2.1 j) 8 := by
                      intro j j0 j1; rw [sp_ht2 hc hng] at j1; simp only [hz]; rw [rm_u_eq]
                      exact sp_Kup (A := cl 93) (T := fun q => (sp_Z s D sort m p off q x).2.1) (t := sp_ht s off x) (t2 := sp_ht s off x + (-1)) (i := sp_ht s off x + (-1) - 1) (w := (sp_bits (fun q8 => (fun q => (sp_Z s D sort m p off q x).2.1 (sp_ht s off x + (-1) - 1)) q8 && (fun q => (sp_Z s D sort m p off q x).2.1 (sp_ht s off x + (-1))) q8) 8)) hA (sp_bits_ext (fun q _ _ => by show _ = (if _ then _ else _); rw [if_pos c_109])) (fun j a b c => by omega) j j0 j1
                    refine go_sub (lv' := [(0, .ref va), (1, rj_i (sp_cj s off x0 : Int)), (2, rj_i (sp_cj s off y : Int)), (3, rj_i ((sp_ht s off x + (-1) - 1) + 1)), (4, rj_i ((sp_cj s off x : Int) + 1))]) (by intro q hq; simp only [List.mem_cons, List.not_mem_nil, or_false] at hq ⊢; rcases hq with rfl | rfl | rfl | rfl | rfl <;> simp) ?_
                    exact go_eq rfl (lv' := [(0, .ref va), (1, rj_i (sp_cj s off x0 : Int)), (2, rj_i (sp_cj s off y : Int)), (3, rj_i (sp_ht s off (x + 1))), (4, rj_i (sp_cj s off (x + 1) : Int))]) (rj_lk (rj_lk (rj_lk (rj_lj (by have q9 := sp_ht2 hc hng; omega) (rj_lj (by omega) rfl))))) rfl rfl (ih (x + 1) (rm_u cl 93 (rj_up (cl 93) (sp_ht s off x + (-1) - 1) (sp_bits (fun q8 => (fun q => (sp_Z s D sort m p off q x).2.1 (sp_ht s off x + (-1) - 1)) q8 && (fun q => (sp_Z s D sort m p off q x).2.1 (sp_ht s off x + (-1))) q8) 8))) (by omega) (by omega) (hl.tr (rc_t.u (by omega))) (hA2))
                · exact absurd c_70 (by omega)
              · exact absurd c_48 (by omega)
            · exact absurd c_41 (by omega)
  exact go_eq rfl (lv' := [(0, .ref va), (1, rj_i (sp_cj s off x0 : Int)), (2, rj_i (sp_cj s off y : Int)), (3, rj_i (sp_ht s off x0)), (4, rj_i (sp_cj s off x0 : Int))]) (rj_lk (rj_lk (rj_lk (rj_lj (ht0.symm) (rj_lj (rfl) rfl))))) rfl rfl (loop (y - x0) x0 c (by omega) (Nat.le_refl _) rc_t.rf (fun j a b => by omega))
set_option maxRecDepth 20000 in
/-- v_quarters -/
theorem v_quarters {X9 : rj_X} {σ : rj_H} {d cb vv vk : Nat} {c : rm_R} {s : Int → Int} {D m p wd hh : Int} {n : Nat} (hd : 2 ≤ d) {va a1 a2 a3 : Nat} {gs gw ge : Int → Int} {vj vm cl tn : Int} {rst : List Value} (hV : rc_V cb vv vk) (hv : rc_vd X9 cb vv vk σ vv vk va a1 a2 a3 gs gw ge vj vm cl tn rst) (hr : rc_vr s (299 + 140 * s 7) n gs gw ge vj vm) (hn : n = (sp_tells s 294 0).toNat) (hwd : 0 ≤ wd ∧ wd ≤ 2) (hm9 : 0 ≤ m ∧ m ≤ 99) (hp9 : 0 ≤ p ∧ p ≤ 99) (hD9 : 0 ≤ D ∧ D ≤ 200) (hh9 : 0 ≤ hh ∧ hh ≤ 99) (hhh : hh = if m = 99 then 0 else s (148 + m)) : rj_Cl X9 d yX9_quartersOf cX9_quartersOf 9 (some .int) [.ref va, rj_i wd, rj_i m, rj_i p, rj_i D, rj_i hh] (rc_p X9 cb vv vk c σ) (fun w9 τ => w9 = some (rj_i (sp_bits (fun q => sp_so s D (-11 - wd) m p q) 8)) ∧ ∃ c0, rc_t 92 c c0 ∧ τ = rc_p X9 cb vv vk c0 σ) := by
  have hb1 := hr.1
  have hb2 := hr.2.1
  have hb3 := hr.2.2.1
  have hb4 := hr.2.2.2.1
  refine go_call (by decide +kernel) (Nat.le_of_ble_eq_true rfl) ?_
  refine go_eq (pc' := 0) (lv' := [(0, .ref va), (1, rj_i wd), (2, rj_i m), (3, rj_i p), (4, rj_i D), (5, rj_i hh)]) (st' := []) rfl rfl rfl rfl ?_
  refine go_aload_n dX9_quartersOf_0 rfl 0 rfl ?_
  refine rc_go (k := 5) kX9 hv.1.1 hv.1.2.1 hv.1.2.2.1 hv.2.1 (by decide) fX9_36 rfl dX9_quartersOf_1 ?_
  refine go_iconst (v := Int32.ofInt 0) dX9_quartersOf_4 rfl ?_
  refine go_iload_n dX9_quartersOf_5 rfl 2 rfl ?_
  refine rc_stv hV (by omega) (by omega) dX9_quartersOf_6 ?_
  obtain ⟨c1, e1⟩ : ∃ x_, x_ = (rm_u c 92 (rj_up (c 92) 0 m)) := ⟨_, rfl⟩
  rw [← e1]
  have q1_92 : c1 92 = (rj_up (c 92) 0 m) := by rw [e1]; exact (show (rm_u c 92 (rj_up (c 92) 0 m)) 92 = (rj_up (c 92) 0 m) from (congrArg (fun zz => rj_up zz 0 m) (show c 92 = (c 92) from rfl)))
  have hr1 : rc_t 92 c c1 := by rw [e1]; exact (rc_t.rf.tr (rc_t.u (by omega)))
  refine go_aload_n dX9_quartersOf_7 rfl 0 rfl ?_
  refine rc_go (k := 5) kX9 hv.1.1 hv.1.2.1 hv.1.2.2.1 hv.2.1 (by decide) fX9_36 rfl dX9_quartersOf_8 ?_
  refine go_iconst (v := Int32.ofInt 1) dX9_quartersOf_11 rfl ?_
  refine go_iload_n dX9_quartersOf_12 rfl 3 rfl ?_
  refine rc_stv hV (by omega) (by omega) dX9_quartersOf_13 ?_
  obtain ⟨c2, e2⟩ : ∃ x_, x_ = (rm_u c1 92 (rj_up (c1 92) 1 p)) := ⟨_, rfl⟩
  rw [← e2]
  have q2_92 : c2 92 = (rj_up (rj_up (c 92) 0 m) 1 p) := by rw [e2]; exact (show (rm_u c1 92 (rj_up (c1 92) 1 p)) 92 = (rj_up (rj_up (c 92) 0 m) 1 p) from (congrArg (fun zz => rj_up zz 1 p) (show c1 92 = (rj_up (c 92) 0 m) from q1_92)))
  have hr2 : rc_t 92 c c2 := by rw [e2]; exact (hr1.tr (rc_t.u (by omega)))
  refine go_aload_n dX9_quartersOf_14 rfl 0 rfl ?_
  refine rc_go (k := 5) kX9 hv.1.1 hv.1.2.1 hv.1.2.2.1 hv.2.1 (by decide) fX9_36 rfl dX9_quartersOf_15 ?_
  refine go_iconst (v := Int32.ofInt 3) dX9_quartersOf_18 rfl ?_
  refine go_iload dX9_quartersOf_19 4 rfl ?_
  refine rc_stv hV (by omega) (by omega) dX9_quartersOf_21 ?_
  obtain ⟨c3, e3⟩ : ∃ x_, x_ = (rm_u c2 92 (rj_up (c2 92) 3 D)) := ⟨_, rfl⟩
  rw [← e3]
  have q3_92 : c3 92 = (rj_up (rj_up (rj_up (c 92) 0 m) 1 p) 3 D) := by rw [e3]; exact (show (rm_u c2 92 (rj_up (c2 92) 3 D)) 92 = (rj_up (rj_up (rj_up (c 92) 0 m) 1 p) 3 D) from (congrArg (fun zz => rj_up zz 3 D) (show c2 92 = (rj_up (rj_up (c 92) 0 m) 1 p) from q2_92)))
  have hr3 : rc_t 92 c c3 := by rw [e3]; exact (hr2.tr (rc_t.u (by omega)))
  refine go_aload_n dX9_quartersOf_22 rfl 0 rfl ?_
  refine rc_go (k := 5) kX9 hv.1.1 hv.1.2.1 hv.1.2.2.1 hv.2.1 (by decide) fX9_36 rfl dX9_quartersOf_23 ?_
  refine go_iconst (v := Int32.ofInt 4) dX9_quartersOf_26 rfl ?_
  refine go_iload dX9_quartersOf_27 5 rfl ?_
  refine rc_stv hV (by omega) (by omega) dX9_quartersOf_29 ?_
  obtain ⟨c4, e4⟩ : ∃ x_, x_ = (rm_u c3 92 (rj_up (c3 92) 4 hh)) := ⟨_, rfl⟩
  rw [← e4]
  have q4_92 : c4 92 = (rj_up (rj_up (rj_up (rj_up (c 92) 0 m) 1 p) 3 D) 4 hh) := by rw [e4]; exact (show (rm_u c3 92 (rj_up (c3 92) 4 hh)) 92 = (rj_up (rj_up (rj_up (rj_up (c 92) 0 m) 1 p) 3 D) 4 hh) from (congrArg (fun zz => rj_up zz 4 hh) (show c3 92 = (rj_up (rj_up (rj_up (c 92) 0 m) 1 p) 3 D) from q3_92)))
  have hr4 : rc_t 92 c c4 := by rw [e4]; exact (hr3.tr (rc_t.u (by omega)))
  refine go_iconst (v := Int32.ofInt 0) dX9_quartersOf_30 rfl ?_
  refine go_istoreS (lv' := [(0, .ref va), (1, rj_i wd), (2, rj_i m), (3, rj_i p), (4, rj_i D), (5, rj_i hh), (6, rj_i 0)]) (by decide) rfl dX9_quartersOf_31 ?_
  refine go_iconst (v := Int32.ofInt 0) dX9_quartersOf_33 rfl ?_
  refine go_istoreS (lv' := [(0, .ref va), (1, rj_i wd), (2, rj_i m), (3, rj_i p), (4, rj_i D), (5, rj_i hh), (6, rj_i 0), (7, rj_i 0)]) (by decide) rfl dX9_quartersOf_34 ?_
  refine go_iconst (v := Int32.ofInt 0) dX9_quartersOf_36 rfl ?_
  refine go_istoreS (lv' := [(0, .ref va), (1, rj_i wd), (2, rj_i m), (3, rj_i p), (4, rj_i D), (5, rj_i hh), (6, rj_i 0), (7, rj_i 0), (8, rj_i 0)]) (by decide) rfl dX9_quartersOf_37 ?_
  have hbv : rc_bv s D m p (rj_up (rj_up (rj_up (rj_up (c 92) 0 m) 1 p) 3 D) 4 hh) := ⟨fun q j j0 j1 j2 => by rcases (show j = 0 ∨ j = 1 ∨ j = 3 ∨ j = 4 by omega) with rfl | rfl | rfl | rfl <;> simp [rj_up, sp_b, hhh], fun j j0 j1 q q0 q1 => by unfold sp_b; rw [← hhh]; (repeat' split) <;> omega⟩
  have loop : ∀ (n2 k x : Nat) (cl : rm_R), k + n2 = sp_cm s (299 + 140 * s 7) n → x ≤ n → sp_cm s (299 + 140 * s 7) x = k → sp_ht s (299 + 140 * s 7) x = 0 → rc_t 92 c cl → cl 92 = (rj_up (rj_up (rj_up (rj_up (c 92) 0 m) 1 p) 3 D) 4 hh) → rj_Go X9 yX9_quartersOf cX9_quartersOf 9 (some .int) d (fun w9 τ => w9 = some (rj_i (sp_bits (fun q => sp_so s D (-11 - wd) m p q) 8)) ∧ ∃ c0, rc_t 92 c c0 ∧ τ = rc_p X9 cb vv vk c0 σ) 39 [(0, .ref va), (1, rj_i wd), (2, rj_i m), (3, rj_i p), (4, rj_i D), (5, rj_i hh), (6, rj_i (sp_bits (fun q => (sp_Z s D (-11 - wd) m p (299 + 140 * s 7) q x).2.2) 8)), (7, rj_i (sp_cj s (299 + 140 * s 7) x : Int)), (8, rj_i (k : Int))] [] (rc_p X9 cb vv vk cl σ) := by
    intro n2
    induction n2 with
    | zero =>
      intro k x cl hk hxn hkx hh0 hl h9
      obtain rfl : x = n := sp_last hr.2.2.2.2.2.1 hxn (by omega)
      refine go_iload dX9_quartersOf_39 8 rfl ?_
      refine go_aload_n dX9_quartersOf_41 rfl 0 rfl ?_
      refine rc_go (k := 4) kX9 hv.1.1 hv.1.2.1 hv.1.2.2.1 hv.2.1 (by decide) fX9_25 rfl dX9_quartersOf_42 ?_
      refine go_icmp_geI (tgt := 92) (by omega) (by omega) dX9_quartersOf_45 (by decide) (fun c_45 => ?_) (fun c_45 => ?_)
      · refine go_iload dX9_quartersOf_92 6 rfl ?_
        refine go_retI rfl rfl ?_ dX9_quartersOf_94
        exact ⟨rj_vi (by rw [hn]; rfl), cl, hl, rfl⟩
      · exact absurd c_45 (by omega)
    | succ n2 ih =>
      intro k x cl hk hxn hkx hh0 hl h9
      obtain ⟨y, hy, hyc, hym⟩ := sp_cm_at s (299 + 140 * s 7) k n (by omega)
      have hcm1 : sp_cm s (299 + 140 * s 7) (y + 1) = sp_cm s (299 + 140 * s 7) y + 1 := by rw [sp_cm, if_pos hym]
      have hxy : x ≤ y := Decidable.byContradiction fun q => by have := sp_cm_le s (299 + 140 * s 7) (k := y + 1) (n := x) (by omega); omega
      have hno : ∀ i : Nat, x ≤ i → i < y → -11 < s ((299 + 140 * s 7) + (i : Int)) := sp_nomark (by omega)
      have hcj1 : sp_cj s (299 + 140 * s 7) (y + 1) = sp_cj s (299 + 140 * s 7) y := by rw [sp_cj, if_pos hym]; rfl
      have hok := hr.2.2.2.2.2.2.2 y hy
      have hok2 := hok.2.2.2.2.2 hym
      have hwk := (hr.2.2.2.2.1 y hy).2 hym
      rw [hyc] at hwk
      refine go_iload dX9_quartersOf_39 8 rfl ?_
      refine go_aload_n dX9_quartersOf_41 rfl 0 rfl ?_
      refine rc_go (k := 4) kX9 hv.1.1 hv.1.2.1 hv.1.2.2.1 hv.2.1 (by decide) fX9_25 rfl dX9_quartersOf_42 ?_
      refine go_icmp_geI (tgt := 92) (by omega) (by omega) dX9_quartersOf_45 (by decide) (fun c_45 => ?_) (fun c_45 => ?_)
      · exact absurd c_45 (by omega)
      · refine go_aload_n dX9_quartersOf_48 rfl 0 rfl ?_
        refine rc_go (k := 2) kX9 hv.1.1 hv.1.2.1 hv.1.2.2.1 hv.2.1 (by decide) fX9_19 rfl dX9_quartersOf_49 ?_
        refine go_iload dX9_quartersOf_52 8 rfl ?_
        refine rc_ld2 hv.2.2.2.2.1.1 hv.2.2.2.2.1.2.1 hv.2.2.2.2.1.2.2.1 hv.2.2.2.2.2.1 (by omega) (by omega) (by decide) dX9_quartersOf_54 ?_
        rw [show gw (k : Int) = -11 - s ((299 + 140 * s 7) + (y : Int)) from hwk.1]
        refine go_iload_n dX9_quartersOf_55 rfl 1 rfl ?_
        refine go_icmp_neI (tgt := 77) (by omega) (by omega) dX9_quartersOf_56 (by decide) (fun c_56 => ?_) (fun c_56 => ?_)
        · refine go_aload_n dX9_quartersOf_77 rfl 0 rfl ?_
          refine rc_go (k := 3) kX9 hv.1.1 hv.1.2.1 hv.1.2.2.1 hv.2.1 (by decide) fX9_22 rfl dX9_quartersOf_78 ?_
          refine go_iload dX9_quartersOf_81 8 rfl ?_
          refine rc_ld2 hv.2.2.2.2.2.2.1.1 hv.2.2.2.2.2.2.1.2.1 hv.2.2.2.2.2.2.1.2.2.1 hv.2.2.2.2.2.2.2 (by omega) (by omega) (by decide) dX9_quartersOf_83 ?_
          rw [show ge (k : Int) = (sp_cj s (299 + 140 * s 7) y : Int) from hwk.2]
          refine go_istoreS (lv' := [(0, .ref va), (1, rj_i wd), (2, rj_i m), (3, rj_i p), (4, rj_i D), (5, rj_i hh), (6, rj_i (sp_bits (fun q => (sp_Z s D (-11 - wd) m p (299 + 140 * s 7) q x).2.2) 8)), (7, rj_i (sp_cj s (299 + 140 * s 7) y : Int)), (8, rj_i (k : Int))]) (by decide) rfl dX9_quartersOf_84 ?_
          refine go_iincI (a := (k : Int)) (n := 1) (k0 := 8) (lv' := [(0, .ref va), (1, rj_i wd), (2, rj_i m), (3, rj_i p), (4, rj_i D), (5, rj_i hh), (6, rj_i (sp_bits (fun q => (sp_Z s D (-11 - wd) m p (299 + 140 * s 7) q x).2.2) 8)), (7, rj_i (sp_cj s (299 + 140 * s 7) y : Int)), (8, rj_i ((k : Int) + 1))]) rfl (by decide) rfl dX9_quartersOf_86 ?_
          refine go_goto (tgt := 39) dX9_quartersOf_89 (by decide) ?_
          exact go_eq rfl (lv' := [(0, .ref va), (1, rj_i wd), (2, rj_i m), (3, rj_i p), (4, rj_i D), (5, rj_i hh), (6, rj_i (sp_bits (fun q => (sp_Z s D (-11 - wd) m p (299 + 140 * s 7) q (y + 1)).2.2) 8)), (7, rj_i (sp_cj s (299 + 140 * s 7) (y + 1) : Int)), (8, rj_i ((k + 1 : Nat) : Int))]) (rj_lk (rj_lk (rj_lk (rj_lk (rj_lk (rj_lk (rj_lj ((by rw [sp_bits_ext (P := (fun q => (sp_Z s D (-11 - wd) m p (299 + 140 * s 7) q x).2.2)) (Q := (fun q => (sp_Z s D (-11 - wd) m p (299 + 140 * s 7) q (y + 1)).2.2)) (fun q _ _ => by show _ = (sp_Z s D (-11 - wd) m p (299 + 140 * s 7) q (y + 1)).2.2; rw [sp_Zm hym, sp_Zar hxy hno, decide_eq_false (show ¬ s ((299 + 140 * s 7) + (y : Int)) = -11 - wd by omega), Bool.false_and, Bool.or_false])])) (rj_lj (by rw [hcj1]) (rj_lj (by omega) rfl))))))))) rfl rfl (ih (k + 1) (y + 1) cl (by omega) (by omega) (by omega) (sp_htm hym) hl (show cl 92 = (rj_up (rj_up (rj_up (rj_up (c 92) 0 m) 1 p) 3 D) 4 hh) from h9))
        · refine go_iload dX9_quartersOf_59 6 rfl ?_
          refine go_aload_n dX9_quartersOf_61 rfl 0 rfl ?_
          refine go_iload dX9_quartersOf_62 7 rfl ?_
          refine go_aload_n dX9_quartersOf_64 rfl 0 rfl ?_
          refine rc_go (k := 3) kX9 hv.1.1 hv.1.2.1 hv.1.2.2.1 hv.2.1 (by decide) fX9_22 rfl dX9_quartersOf_65 ?_
          refine go_iload dX9_quartersOf_68 8 rfl ?_
          refine rc_ld2 hv.2.2.2.2.2.2.1.1 hv.2.2.2.2.2.2.1.2.1 hv.2.2.2.2.2.2.1.2.2.1 hv.2.2.2.2.2.2.2 (by omega) (by omega) (by decide) dX9_quartersOf_70 ?_
          rw [show ge (k : Int) = (sp_cj s (299 + 140 * s 7) y : Int) from hwk.2]
          refine go_callV (d1 := d - 1) wVX9_61 kX9 (rc_va hv) rfl (by omega) (v_run (s := s) (D := D) (sort := -11 - wd) (m := m) (p := p) (off := (299 + 140 * s 7)) (x0 := x) (y := y) (by omega) hV hv hr hxy hy hno hym hh0 (by rw [(show cl 92 = (rj_up (rj_up (rj_up (rj_up (c 92) 0 m) 1 p) 3 D) 4 hh) from h9)]; exact hbv)) rfl (Nat.le_of_ble_eq_true rfl) dX9_quartersOf_71 (fun w σ1 hP9 => ?_)
          obtain ⟨rfl, c21, hc21, rfl⟩ := hP9
          have q21_92 : c21 92 = (rj_up (rj_up (rj_up (rj_up (c 92) 0 m) 1 p) 3 D) 4 hh) := (hc21 92 (by decide)).trans (show cl 92 = (rj_up (rj_up (rj_up (rj_up (c 92) 0 m) 1 p) 3 D) 4 hh) from h9)
          have hr21 : rc_t 92 c c21 := hl.tr (hc21.le (by decide))
          refine go_orM (fun q => (sp_Z s D (-11 - wd) m p (299 + 140 * s 7) q x).2.2) (fun q => (sp_Z s D (-11 - wd) m p (299 + 140 * s 7) q y).2.1 0) 8 dX9_quartersOf_74 ?_
          refine go_istoreS (lv' := [(0, .ref va), (1, rj_i wd), (2, rj_i m), (3, rj_i p), (4, rj_i D), (5, rj_i hh), (6, rj_i (sp_bits (fun q8 => (fun q => (sp_Z s D (-11 - wd) m p (299 + 140 * s 7) q x).2.2) q8 || (fun q => (sp_Z s D (-11 - wd) m p (299 + 140 * s 7) q y).2.1 0) q8) 8)), (7, rj_i (sp_cj s (299 + 140 * s 7) x : Int)), (8, rj_i (k : Int))]) (by decide) rfl dX9_quartersOf_75 ?_
          refine go_aload_n dX9_quartersOf_77 rfl 0 rfl ?_
          refine rc_go (k := 3) kX9 hv.1.1 hv.1.2.1 hv.1.2.2.1 hv.2.1 (by decide) fX9_22 rfl dX9_quartersOf_78 ?_
          refine go_iload dX9_quartersOf_81 8 rfl ?_
          refine rc_ld2 hv.2.2.2.2.2.2.1.1 hv.2.2.2.2.2.2.1.2.1 hv.2.2.2.2.2.2.1.2.2.1 hv.2.2.2.2.2.2.2 (by omega) (by omega) (by decide) dX9_quartersOf_83 ?_
          rw [show ge (k : Int) = (sp_cj s (299 + 140 * s 7) y : Int) from hwk.2]
          refine go_istoreS (lv' := [(0, .ref va), (1, rj_i wd), (2, rj_i m), (3, rj_i p), (4, rj_i D), (5, rj_i hh), (6, rj_i (sp_bits (fun q8 => (fun q => (sp_Z s D (-11 - wd) m p (299 + 140 * s 7) q x).2.2) q8 || (fun q => (sp_Z s D (-11 - wd) m p (299 + 140 * s 7) q y).2.1 0) q8) 8)), (7, rj_i (sp_cj s (299 + 140 * s 7) y : Int)), (8, rj_i (k : Int))]) (by decide) rfl dX9_quartersOf_84 ?_
          refine go_iincI (a := (k : Int)) (n := 1) (k0 := 8) (lv' := [(0, .ref va), (1, rj_i wd), (2, rj_i m), (3, rj_i p), (4, rj_i D), (5, rj_i hh), (6, rj_i (sp_bits (fun q8 => (fun q => (sp_Z s D (-11 - wd) m p (299 + 140 * s 7) q x).2.2) q8 || (fun q => (sp_Z s D (-11 - wd) m p (299 + 140 * s 7) q y).2.1 0) q8) 8)), (7, rj_i (sp_cj s (299 + 140 * s 7) y : Int)), (8, rj_i ((k : Int) + 1))]) rfl (by decide) rfl dX9_quartersOf_86 ?_
          refine go_goto (tgt := 39) dX9_quartersOf_89 (by decide) ?_
          exact go_eq rfl (lv' := [(0, .ref va), (1, rj_i wd), (2, rj_i m), (3, rj_i p), (4, rj_i D), (5, rj_i hh), (6, rj_i (sp_bits (fun q => (sp_Z s D (-11 - wd) m p (299 + 140 * s 7) q (y + 1)).2.2) 8)), (7, rj_i (sp_cj s (299 + 140 * s 7) (y + 1) : Int)), (8, rj_i ((k + 1 : Nat) : Int))]) (rj_lk (rj_lk (rj_lk (rj_lk (rj_lk (rj_lk (rj_lj ((by rw [sp_bits_ext (P := (fun q8 => (fun q => (sp_Z s D (-11 - wd) m p (299 + 140 * s 7) q x).2.2) q8 || (fun q => (sp_Z s D (-11 - wd) m p (299 + 140 * s 7) q y).2.1 0) q8)) (Q := (fun q => (sp_Z s D (-11 - wd) m p (299 + 140 * s 7) q (y + 1)).2.2)) (fun q _ _ => by show _ = (sp_Z s D (-11 - wd) m p (299 + 140 * s 7) q (y + 1)).2.2; rw [sp_Zm hym, sp_Zar hxy hno, decide_eq_true (show s ((299 + 140 * s 7) + (y : Int)) = -11 - wd by omega), Bool.true_and])])) (rj_lj (by rw [hcj1]) (rj_lj (by omega) rfl))))))))) rfl rfl (ih (k + 1) (y + 1) c21 (by omega) (by omega) (by omega) (sp_htm hym) hr21 (show c21 92 = (rj_up (rj_up (rj_up (rj_up (c 92) 0 m) 1 p) 3 D) 4 hh) from q21_92))
  exact go_eq rfl (lv' := [(0, .ref va), (1, rj_i wd), (2, rj_i m), (3, rj_i p), (4, rj_i D), (5, rj_i hh), (6, rj_i (sp_bits (fun q => (sp_Z s D (-11 - wd) m p (299 + 140 * s 7) q 0).2.2) 8)), (7, rj_i (sp_cj s (299 + 140 * s 7) 0 : Int)), (8, rj_i ((0 : Nat) : Int))]) (rj_lk (rj_lk (rj_lk (rj_lk (rj_lk (rj_lk (rj_lj (((sp_bits_0 _ 8).mpr (fun q _ _ => rfl)).symm) (rj_lj (rfl) (rj_lj (rfl) rfl))))))))) rfl rfl (loop (sp_cm s (299 + 140 * s 7) n) 0 0 c4 (by omega) (by omega) rfl rfl hr4 (show c4 92 = (rj_up (rj_up (rj_up (rj_up (c 92) 0 m) 1 p) 3 D) 4 hh) from q4_92))
