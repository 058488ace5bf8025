/-! THE CLASS: what a valley says -/
def sp_cm (f : Int → Int) (off : Int) : Nat → Nat
  | 0 => 0
  | k + 1 => sp_cm f off k + (if f (off + (k : Int)) ≤ -11 then 1 else 0)
def sp_cj (f : Int → Int) (off : Int) : Nat → Nat
  | 0 => 0
  | k + 1 => sp_cj f off k + (if f (off + (k : Int)) ≤ -11 then 0 else 1)
theorem sp_cjm (f : Int → Int) (off : Int) : ∀ k : Nat, sp_cj f off k + sp_cm f off k = k
  | 0 => rfl
  | k + 1 => by have := sp_cjm f off k; rw [sp_cj, sp_cm]; split <;> omega
theorem sp_cm_mono (f : Int → Int) (off : Int) (k : Nat) : ∀ n : Nat, sp_cm f off k ≤ sp_cm f off (k + n)
  | 0 => Nat.le_refl _
  | n + 1 => Nat.le_trans (sp_cm_mono f off k n) (by show _ ≤ sp_cm f off (k + n) + _; omega)
theorem sp_cm_le (f : Int → Int) (off : Int) {k n : Nat} (h : k ≤ n) : sp_cm f off k ≤ sp_cm f off n := by
  have := sp_cm_mono f off k (n - k); rw [show k + (n - k) = n by omega] at this; exact this
/-- marker number i stands somewhere -/
theorem sp_cm_at (f : Int → Int) (off : Int) (i : Nat) : ∀ n : Nat, i < sp_cm f off n → ∃ k : Nat, k < n ∧ sp_cm f off k = i ∧ f (off + (k : Int)) ≤ -11
  | 0, h => absurd h (Nat.not_lt_zero _)
  | n + 1, h => by
    by_cases h2 : i < sp_cm f off n
    · obtain ⟨k, a, b, c⟩ := sp_cm_at f off i n h2; exact ⟨k, by omega, b, c⟩
    · rw [sp_cm] at h
      by_cases h3 : f (off + (n : Int)) ≤ -11
      · rw [if_pos h3] at h; exact ⟨n, by omega, by omega, h3⟩
      · rw [if_neg h3] at h; omega
/-- a step as the class writes it -/
def sp_enc (c : Int) : Int := if 0 ≤ c then 300 * (c % 8) + 100 * (c / 8 % 4) + c / 32 else c
/-- the class's rows hold what the reference's steps say -/
def rc_vr (f : Int → Int) (off : Int) (n : Nat) (gs gw ge : Int → Int) (vj vm : Int) : Prop :=
  vj = sp_cj f off n ∧ vm = sp_cm f off n ∧ sp_cj f off n ≤ 120 ∧ sp_cm f off n ≤ 10 ∧ (∀ i : Nat, i < n → (-11 < f (off + (i : Int)) → gs (sp_cj f off i) = sp_enc (f (off + (i : Int)))) ∧ (f (off + (i : Int)) ≤ -11 → gw (sp_cm f off i) = -11 - f (off + (i : Int)) ∧ ge (sp_cm f off i) = sp_cj f off i)) ∧
  (n = 0 ∨ f (off + (n : Int) - 1) ≤ -11) ∧ (∀ i : Nat, i < n → 0 ≤ f (off + (i : Int)) → f (off + (i : Int)) % 8 < 5 ∧ f (off + (i : Int)) / 8 % 4 < 3 ∧ f (off + (i : Int)) / 32 ≤ 99) ∧ ∀ i : Nat, i < n → sp_ok (sp_ht f off i) (f (off + (i : Int)))
abbrev rc_o3 (cb vv vk a : Nat) : Prop := rc_out cb a ∧ a ≠ vv ∧ a ≠ vk
/-- the valley object at va -/
def rc_vd (X9 : rj_X) (cb vv vk : Nat) (σ : rj_H) (va a1 a2 a3 : Nat) (gs gw ge : Int → Int) (vj vm cl tn : Int) (rst : List Value) : Prop :=
  rc_o3 cb vv vk va ∧ σ.2.2 va = some (.inr (9, .ref a1 :: rj_i vj :: .ref a2 :: .ref a3 :: rj_i vm :: .ref vv :: .ref vk :: rj_i cl :: rj_i tn :: rst)) ∧ rc_o3 cb vv vk a1 ∧ σ.2.2 a1 = some (rj_ar X9 0 120 gs) ∧ rc_o3 cb vv vk a2 ∧ σ.2.2 a2 = some (rj_ar X9 0 10 gw) ∧ rc_o3 cb vv vk a3 ∧ σ.2.2 a3 = some (rj_ar X9 0 10 ge)
/-- the reference's machine at quarter q behind x steps -/
def sp_Z (s : Int → Int) (D sort m p : Int) (off : Int) (q : Int) (x : Nat) : Int × (Int → Bool) × Bool := sp_zs (sp_b s D m p q) sort s off x
theorem sp_Kup {A : Int → Int} {T : Int → Int → Bool} {t t2 i w : Int} {b : Int → Bool} (hT : ∀ j : Int, 0 ≤ j → j < t → A j = sp_bits (fun q => T q j) 8) (hw : w = sp_bits b 8) (h : ∀ j : Int, 0 ≤ j → j < t2 → j ≠ i → j < t) : ∀ j : Int, 0 ≤ j → j < t2 → rj_up A i w j = sp_bits (fun q => rj_up (T q) i (b q) j) 8 := by
  intro j h1 h2
  by_cases hj : j = i
  · subst hj; rw [rj_up_eq, hw]; congr 1; funext q; rw [rj_up_eq]
  · rw [rj_up_ne _ _ hj, hT j h1 (h j h1 h2 hj)]; congr 1; funext q; rw [rj_up_ne _ _ hj]
theorem sp_Z0 {s : Int → Int} {D sort m p off q : Int} {x : Nat} {c : Int} (e : s (off + (x : Int)) = c) (h : 0 ≤ c) : (sp_Z s D sort m p off q (x + 1)).2.1 = rj_up (sp_Z s D sort m p off q x).2.1 (sp_ht s off x) (sp_tst (sp_b s D m p q (c % 8)) (c / 32) (c / 8 % 4)) := by
  unfold sp_Z; rw [sp_zs, sp_step, e, if_pos h, sp_zs_ht]
theorem sp_Z1 {s : Int → Int} {D sort m p off q : Int} {x : Nat} (e : s (off + (x : Int)) = -1) : (sp_Z s D sort m p off q (x + 1)).2.1 = rj_up (sp_Z s D sort m p off q x).2.1 (sp_ht s off x - 1) (!(sp_Z s D sort m p off q x).2.1 (sp_ht s off x - 1)) := by
  unfold sp_Z; rw [sp_zs, sp_step, e, if_neg (by omega), if_pos rfl, sp_zs_ht]
theorem sp_Z2 {s : Int → Int} {D sort m p off q : Int} {x : Nat} {c : Int} (e : s (off + (x : Int)) = c) (h : c < -1) (h2 : -11 < c) : (sp_Z s D sort m p off q (x + 1)).2.1 = rj_up (sp_Z s D sort m p off q x).2.1 (sp_ht s off x + (-1) - 1) (if c = -2 then (sp_Z s D sort m p off q x).2.1 (sp_ht s off x + (-1) - 1) && (sp_Z s D sort m p off q x).2.1 (sp_ht s off x + (-1)) else (sp_Z s D sort m p off q x).2.1 (sp_ht s off x + (-1) - 1) || (sp_Z s D sort m p off q x).2.1 (sp_ht s off x + (-1))) := by
  unfold sp_Z; rw [sp_zs, sp_step, e, if_neg (by omega), if_neg (by omega), if_pos h2, sp_zs_ht]
theorem sp_Za {s : Int → Int} {D sort m p off q : Int} {x : Nat} (h : -11 < s (off + (x : Int))) : (sp_Z s D sort m p off q (x + 1)).2.2 = (sp_Z s D sort m p off q x).2.2 := by
  unfold sp_Z; rw [sp_zs, sp_step]
  split
  · rfl
  · split
    · rfl
    · first | rfl | rw [if_pos h]
theorem sp_Zm {s : Int → Int} {D sort m p off q : Int} {x : Nat} (h : s (off + (x : Int)) ≤ -11) : (sp_Z s D sort m p off q (x + 1)).2.2 = ((sp_Z s D sort m p off q x).2.2 || (decide (s (off + (x : Int)) = sort) && (sp_Z s D sort m p off q x).2.1 0)) := by
  unfold sp_Z; rw [sp_zs, sp_step, if_neg (by omega), if_neg (by omega), if_neg (by omega)]
theorem sp_ht0 {f : Int → Int} {off : Int} {x : Nat} (h : 0 ≤ f (off + (x : Int))) : sp_ht f off (x + 1) = sp_ht f off x + 1 := by rw [sp_ht, if_pos h]
theorem sp_ht1 {f : Int → Int} {off : Int} {x : Nat} (h : f (off + (x : Int)) = -1) : sp_ht f off (x + 1) = sp_ht f off x := by rw [sp_ht, if_neg (by omega), if_pos h]
theorem sp_ht2 {f : Int → Int} {off : Int} {x : Nat} (h : f (off + (x : Int)) < -1) (h2 : -11 < f (off + (x : Int))) : sp_ht f off (x + 1) = sp_ht f off x + (-1) := by rw [sp_ht, if_neg (by omega), if_neg (by omega), if_pos h2]
theorem sp_htm {f : Int → Int} {off : Int} {x : Nat} (h : f (off + (x : Int)) ≤ -11) : sp_ht f off (x + 1) = 0 := by rw [sp_ht, if_neg (by omega), if_neg (by omega), if_neg (by omega)]
set_option maxRecDepth 20000 in
/-- v_test -/
theorem v_test {X9 : rj_X} {σ : rj_H} {d cb vv vk : Nat} {c : rm_R} {s : Int → Int} {D m p x t h v : Int} {va a1 a2 a3 : Nat} {gs gw ge : Int → Int} {vj vm cl tn : Int} {rst : List Value} (hV : rc_V cb vv vk) (hv : rc_vd X9 cb vv vk σ va a1 a2 a3 gs gw ge vj vm cl tn rst) (ht : 0 ≤ t ∧ t < 5) (hh : 0 ≤ h ∧ h < 3) (hv9 : 0 ≤ v ∧ v ≤ 99) (hx : x = 300 * t + 100 * h + v) (h92 : ∀ q j : Int, 0 ≤ j → j < 5 → j ≠ 2 → c 92 j = sp_b s D m p q j) (hB : ∀ j : Int, 0 ≤ j → j < 5 → ∀ q : Int, 0 ≤ q → q < 8 → -2147483648 ≤ sp_b s D m p q j ∧ sp_b s D m p q j < 2147483648) : rj_Cl X9 d yX9_quartersOfTest cX9_quartersOfTest 9 (some .int) [.ref va, rj_i x] (rc_p X9 cb vv vk c σ) (fun w9 τ => w9 = some (rj_i (sp_bits (fun q => sp_tst (sp_b s D m p q t) v h) 8)) ∧ τ = rc_p X9 cb vv vk c σ) := by
  refine go_call (by decide +kernel) (Nat.le_of_ble_eq_true rfl) ?_
  refine go_eq (pc' := 0) (lv' := [(0, .ref va), (1, rj_i x)]) (st' := []) rfl rfl rfl rfl ?_
  refine go_iload_n dX9_quartersOfTest_0 rfl 1 rfl ?_
  refine go_sipush (v := Int32.ofInt 300) dX9_quartersOfTest_1 (by decide) ?_
  refine go_divI (by omega) (by omega) dX9_quartersOfTest_4 ?_
  refine go_istore_nS (lv' := [(0, .ref va), (1, rj_i x), (2, rj_i (x / 300))]) rfl (by decide) rfl dX9_quartersOfTest_5 ?_
  refine go_iload_n dX9_quartersOfTest_6 rfl 1 rfl ?_
  refine go_bipush (v := Int32.ofInt 100) dX9_quartersOfTest_7 (by decide) ?_
  refine go_divI (by omega) (by omega) dX9_quartersOfTest_9 ?_
  refine go_iconst (v := Int32.ofInt 3) dX9_quartersOfTest_10 rfl ?_
  refine go_remI (by omega) (by omega) dX9_quartersOfTest_11 ?_
  refine go_istore_nS (lv' := [(0, .ref va), (1, rj_i x), (2, rj_i (x / 300)), (3, rj_i ((x / 100) % 3))]) rfl (by decide) rfl dX9_quartersOfTest_12 ?_
  refine go_iload_n dX9_quartersOfTest_13 rfl 1 rfl ?_
  refine go_bipush (v := Int32.ofInt 100) dX9_quartersOfTest_14 (by decide) ?_
  refine go_remI (by omega) (by omega) dX9_quartersOfTest_16 ?_
  refine go_istoreS (lv' := [(0, .ref va), (1, rj_i x), (2, rj_i (x / 300)), (3, rj_i ((x / 100) % 3)), (4, rj_i (x % 100))]) (by decide) rfl dX9_quartersOfTest_17 ?_
  refine go_iconst (v := Int32.ofInt 0) dX9_quartersOfTest_19 rfl ?_
  refine go_istoreS (lv' := [(0, .ref va), (1, rj_i x), (2, rj_i (x / 300)), (3, rj_i ((x / 100) % 3)), (4, rj_i (x % 100)), (5, rj_i 0)]) (by decide) rfl dX9_quartersOfTest_20 ?_
  refine go_iconst (v := Int32.ofInt 0) dX9_quartersOfTest_22 rfl ?_
  refine go_istoreS (lv' := [(0, .ref va), (1, rj_i x), (2, rj_i (x / 300)), (3, rj_i ((x / 100) % 3)), (4, rj_i (x % 100)), (5, rj_i 0), (6, rj_i 0)]) (by decide) rfl dX9_quartersOfTest_23 ?_
  rw [show x / 300 = t by omega, show x / 100 % 3 = h by omega, show x % 100 = v by omega]
  have loop : ∀ n k : Nat, k + n = (8 : Int).toNat → rj_Go X9 yX9_quartersOfTest cX9_quartersOfTest 9 (some .int) d (fun w9 τ => w9 = some (rj_i (sp_bits (fun q => sp_tst (sp_b s D m p q t) v h) 8)) ∧ τ = rc_p X9 cb vv vk c σ) 25 [(0, .ref va), (1, rj_i x), (2, rj_i t), (3, rj_i h), (4, rj_i v), (5, rj_i (sp_bits (fun q => sp_tst (sp_b s D m p q t) v h) k)), (6, rj_i (k : Int))] [] (rc_p X9 cb vv vk c σ) := by
    intro n
    induction n with
    | zero =>
      intro k hk 
      refine go_iload dX9_quartersOfTest_25 6 rfl ?_
      refine go_bipush (v := Int32.ofInt 8) dX9_quartersOfTest_27 (by decide) ?_
      refine go_icmp_geI (tgt := 96) (by omega) (by omega) dX9_quartersOfTest_29 (by decide) (fun c_29 => ?_) (fun c_29 => ?_)
      · refine go_iload dX9_quartersOfTest_96 5 rfl ?_
        refine go_retI rfl rfl ?_ dX9_quartersOfTest_98
        exact ⟨rj_vi (by rw [show 8 = k by omega]), rfl⟩
      · exact absurd c_29 (by omega)
    | succ n ih =>
      intro k hk 
      have bb := hB t (by omega) (by omega) (k : Int) (by omega) (by omega)
      have hb2 : t = 2 → sp_b s D m p (k : Int) t = (k : Int) := fun q => by unfold sp_b; rw [if_neg (by omega), if_neg (by omega), if_pos q]
      refine go_iload dX9_quartersOfTest_25 6 rfl ?_
      refine go_bipush (v := Int32.ofInt 8) dX9_quartersOfTest_27 (by decide) ?_
      refine go_icmp_geI (tgt := 96) (by omega) (by omega) dX9_quartersOfTest_29 (by decide) (fun c_29 => ?_) (fun c_29 => ?_)
      · exact absurd c_29 (by omega)
      · refine go_iload_n dX9_quartersOfTest_32 rfl 2 rfl ?_
        refine go_iconst (v := Int32.ofInt 2) dX9_quartersOfTest_33 rfl ?_
        refine go_icmp_neI (tgt := 42) (by omega) (by omega) dX9_quartersOfTest_34 (by decide) (fun c_34 => ?_) (fun c_34 => ?_)
        · refine go_aload_n dX9_quartersOfTest_42 rfl 0 rfl ?_
          refine rc_go (k := 5) kX9 hv.1.1 hv.1.2.1 hv.1.2.2 hv.2.1 (by decide) fX9_28 rfl dX9_quartersOfTest_43 ?_
          refine go_iload_n dX9_quartersOfTest_46 rfl 2 rfl ?_
          refine rc_ldv (by omega) (by omega) dX9_quartersOfTest_47 ?_
          rw [show c 92 t = sp_b s D m p (k : Int) t from (h92 (k : Int) t (by omega) (by omega) c_34)]
          refine go_istoreS (lv' := [(0, .ref va), (1, rj_i x), (2, rj_i t), (3, rj_i h), (4, rj_i v), (5, rj_i (sp_bits (fun q => sp_tst (sp_b s D m p q t) v h) k)), (6, rj_i (k : Int)), (7, rj_i (sp_b s D m p (k : Int) t))]) (by decide) rfl dX9_quartersOfTest_48 ?_
          refine go_iload dX9_quartersOfTest_50 7 rfl ?_
          refine go_iload dX9_quartersOfTest_52 4 rfl ?_
          refine go_icmp_geI (tgt := 61) (by omega) (by omega) dX9_quartersOfTest_54 (by decide) (fun c_54 => ?_) (fun c_54 => ?_)
          · refine go_iload dX9_quartersOfTest_61 7 rfl ?_
            refine go_iload dX9_quartersOfTest_63 4 rfl ?_
            refine go_icmp_neI (tgt := 72) (by omega) (by omega) dX9_quartersOfTest_65 (by decide) (fun c_65 => ?_) (fun c_65 => ?_)
            · refine go_iconst (v := Int32.ofInt 2) dX9_quartersOfTest_72 rfl ?_
              refine go_istoreS (lv' := [(0, .ref va), (1, rj_i x), (2, rj_i t), (3, rj_i h), (4, rj_i v), (5, rj_i (sp_bits (fun q => sp_tst (sp_b s D m p q t) v h) k)), (6, rj_i (k : Int)), (7, rj_i (sp_b s D m p (k : Int) t)), (8, rj_i 2)]) (by decide) rfl dX9_quartersOfTest_73 ?_
              refine go_iload dX9_quartersOfTest_75 8 rfl ?_
              refine go_iload_n dX9_quartersOfTest_77 rfl 3 rfl ?_
              refine go_icmp_neI (tgt := 90) (by omega) (by omega) dX9_quartersOfTest_78 (by decide) (fun c_78 => ?_) (fun c_78 => ?_)
              · refine go_iincI (a := (k : Int)) (n := 1) (k0 := 6) (lv' := [(0, .ref va), (1, rj_i x), (2, rj_i t), (3, rj_i h), (4, rj_i v), (5, rj_i (sp_bits (fun q => sp_tst (sp_b s D m p q t) v h) k)), (6, rj_i ((k : Int) + 1)), (7, rj_i (sp_b s D m p (k : Int) t)), (8, rj_i 2)]) rfl (by decide) rfl dX9_quartersOfTest_90 ?_
                refine go_goto (tgt := 25) dX9_quartersOfTest_93 (by decide) ?_
                refine go_sub (lv' := [(0, .ref va), (1, rj_i x), (2, rj_i t), (3, rj_i h), (4, rj_i v), (5, rj_i (sp_bits (fun q => sp_tst (sp_b s D m p q t) v h) k)), (6, rj_i ((k : Int) + 1))]) (by intro q hq; simp only [List.mem_cons, List.not_mem_nil, or_false] at hq ⊢; rcases hq with rfl | rfl | rfl | rfl | rfl | rfl | rfl <;> simp) ?_
                exact go_eq rfl (lv' := [(0, .ref va), (1, rj_i x), (2, rj_i t), (3, rj_i h), (4, rj_i v), (5, rj_i (sp_bits (fun q => sp_tst (sp_b s D m p q t) v h) (k + 1))), (6, rj_i ((k + 1 : Nat) : Int))]) (rj_lk (rj_lk (rj_lk (rj_lk (rj_lk (rj_lj (by rw [sp_bits]; rw [if_neg (by unfold sp_tst; (repeat' split) <;> simp only [decide_eq_true_eq] <;> omega), Int.add_zero]) (rj_lj (by omega) rfl))))))) rfl rfl (ih (k + 1) (by omega))
              · refine go_iload dX9_quartersOfTest_81 5 rfl ?_
                refine go_iconst (v := Int32.ofInt 1) dX9_quartersOfTest_83 rfl ?_
                refine go_iload dX9_quartersOfTest_84 6 rfl ?_
                refine go_shl1 (k := k) (by omega) dX9_quartersOfTest_86 ?_
                refine go_orI ⟨k, by omega, (sp_bits_b (fun q => sp_tst (sp_b s D m p q t) v h) k).1, (sp_bits_b (fun q => sp_tst (sp_b s D m p q t) v h) k).2, by simp⟩ dX9_quartersOfTest_87 ?_
                refine go_istoreS (lv' := [(0, .ref va), (1, rj_i x), (2, rj_i t), (3, rj_i h), (4, rj_i v), (5, rj_i ((sp_bits (fun q => sp_tst (sp_b s D m p q t) v h) k) + (2 ^ k))), (6, rj_i (k : Int)), (7, rj_i (sp_b s D m p (k : Int) t)), (8, rj_i 2)]) (by decide) rfl dX9_quartersOfTest_88 ?_
                refine go_iincI (a := (k : Int)) (n := 1) (k0 := 6) (lv' := [(0, .ref va), (1, rj_i x), (2, rj_i t), (3, rj_i h), (4, rj_i v), (5, rj_i ((sp_bits (fun q => sp_tst (sp_b s D m p q t) v h) k) + (2 ^ k))), (6, rj_i ((k : Int) + 1)), (7, rj_i (sp_b s D m p (k : Int) t)), (8, rj_i 2)]) rfl (by decide) rfl dX9_quartersOfTest_90 ?_
                refine go_goto (tgt := 25) dX9_quartersOfTest_93 (by decide) ?_
                refine go_sub (lv' := [(0, .ref va), (1, rj_i x), (2, rj_i t), (3, rj_i h), (4, rj_i v), (5, rj_i ((sp_bits (fun q => sp_tst (sp_b s D m p q t) v h) k) + (2 ^ k))), (6, rj_i ((k : Int) + 1))]) (by intro q hq; simp only [List.mem_cons, List.not_mem_nil, or_false] at hq ⊢; rcases hq with rfl | rfl | rfl | rfl | rfl | rfl | rfl <;> simp) ?_
                exact go_eq rfl (lv' := [(0, .ref va), (1, rj_i x), (2, rj_i t), (3, rj_i h), (4, rj_i v), (5, rj_i (sp_bits (fun q => sp_tst (sp_b s D m p q t) v h) (k + 1))), (6, rj_i ((k + 1 : Nat) : Int))]) (rj_lk (rj_lk (rj_lk (rj_lk (rj_lk (rj_lj (by rw [sp_bits]; rw [if_pos (by unfold sp_tst; (repeat' split) <;> simp only [decide_eq_true_eq] <;> omega)]) (rj_lj (by omega) rfl))))))) rfl rfl (ih (k + 1) (by omega))
            · refine go_iconst (v := Int32.ofInt 1) dX9_quartersOfTest_68 rfl ?_
              refine go_goto (tgt := 73) dX9_quartersOfTest_69 (by decide) ?_
              refine go_istoreS (lv' := [(0, .ref va), (1, rj_i x), (2, rj_i t), (3, rj_i h), (4, rj_i v), (5, rj_i (sp_bits (fun q => sp_tst (sp_b s D m p q t) v h) k)), (6, rj_i (k : Int)), (7, rj_i (sp_b s D m p (k : Int) t)), (8, rj_i 1)]) (by decide) rfl dX9_quartersOfTest_73 ?_
              refine go_iload dX9_quartersOfTest_75 8 rfl ?_
              refine go_iload_n dX9_quartersOfTest_77 rfl 3 rfl ?_
              refine go_icmp_neI (tgt := 90) (by omega) (by omega) dX9_quartersOfTest_78 (by decide) (fun c_78 => ?_) (fun c_78 => ?_)
              · refine go_iincI (a := (k : Int)) (n := 1) (k0 := 6) (lv' := [(0, .ref va), (1, rj_i x), (2, rj_i t), (3, rj_i h), (4, rj_i v), (5, rj_i (sp_bits (fun q => sp_tst (sp_b s D m p q t) v h) k)), (6, rj_i ((k : Int) + 1)), (7, rj_i (sp_b s D m p (k : Int) t)), (8, rj_i 1)]) rfl (by decide) rfl dX9_quartersOfTest_90 ?_
                refine go_goto (tgt := 25) dX9_quartersOfTest_93 (by decide) ?_
                refine go_sub (lv' := [(0, .ref va), (1, rj_i x), (2, rj_i t), (3, rj_i h), (4, rj_i v), (5, rj_i (sp_bits (fun q => sp_tst (sp_b s D m p q t) v h) k)), (6, rj_i ((k : Int) + 1))]) (by intro q hq; simp only [List.mem_cons, List.not_mem_nil, or_false] at hq ⊢; rcases hq with rfl | rfl | rfl | rfl | rfl | rfl | rfl <;> simp) ?_
                exact go_eq rfl (lv' := [(0, .ref va), (1, rj_i x), (2, rj_i t), (3, rj_i h), (4, rj_i v), (5, rj_i (sp_bits (fun q => sp_tst (sp_b s D m p q t) v h) (k + 1))), (6, rj_i ((k + 1 : Nat) : Int))]) (rj_lk (rj_lk (rj_lk (rj_lk (rj_lk (rj_lj (by rw [sp_bits]; rw [if_neg (by unfold sp_tst; (repeat' split) <;> simp only [decide_eq_true_eq] <;> omega), Int.add_zero]) (rj_lj (by omega) rfl))))))) rfl rfl (ih (k + 1) (by omega))
              · refine go_iload dX9_quartersOfTest_81 5 rfl ?_
                refine go_iconst (v := Int32.ofInt 1) dX9_quartersOfTest_83 rfl ?_
                refine go_iload dX9_quartersOfTest_84 6 rfl ?_
                refine go_shl1 (k := k) (by omega) dX9_quartersOfTest_86 ?_
                refine go_orI ⟨k, by omega, (sp_bits_b (fun q => sp_tst (sp_b s D m p q t) v h) k).1, (sp_bits_b (fun q => sp_tst (sp_b s D m p q t) v h) k).2, by simp⟩ dX9_quartersOfTest_87 ?_
                refine go_istoreS (lv' := [(0, .ref va), (1, rj_i x), (2, rj_i t), (3, rj_i h), (4, rj_i v), (5, rj_i ((sp_bits (fun q => sp_tst (sp_b s D m p q t) v h) k) + (2 ^ k))), (6, rj_i (k : Int)), (7, rj_i (sp_b s D m p (k : Int) t)), (8, rj_i 1)]) (by decide) rfl dX9_quartersOfTest_88 ?_
                refine go_iincI (a := (k : Int)) (n := 1) (k0 := 6) (lv' := [(0, .ref va), (1, rj_i x), (2, rj_i t), (3, rj_i h), (4, rj_i v), (5, rj_i ((sp_bits (fun q => sp_tst (sp_b s D m p q t) v h) k) + (2 ^ k))), (6, rj_i ((k : Int) + 1)), (7, rj_i (sp_b s D m p (k : Int) t)), (8, rj_i 1)]) rfl (by decide) rfl dX9_quartersOfTest_90 ?_
                refine go_goto (tgt := 25) dX9_quartersOfTest_93 (by decide) ?_
                refine go_sub (lv' := [(0, .ref va), (1, rj_i x), (2, rj_i t), (3, rj_i h), (4, rj_i v), (5, rj_i ((sp_bits (fun q => sp_tst (sp_b s D m p q t) v h) k) + (2 ^ k))), (6, rj_i ((k : Int) + 1))]) (by intro q hq; simp only [List.mem_cons, List.not_mem_nil, or_false] at hq ⊢; rcases hq with rfl | rfl | rfl | rfl | rfl | rfl | rfl <;> simp) ?_
                exact go_eq rfl (lv' := [(0, .ref va), (1, rj_i x), (2, rj_i t), (3, rj_i h), (4, rj_i v), (5, rj_i (sp_bits (fun q => sp_tst (sp_b s D m p q t) v h) (k + 1))), (6, rj_i ((k + 1 : Nat) : Int))]) (rj_lk (rj_lk (rj_lk (rj_lk (rj_lk (rj_lj (by rw [sp_bits]; rw [if_pos (by unfold sp_tst; (repeat' split) <;> simp only [decide_eq_true_eq] <;> omega)]) (rj_lj (by omega) rfl))))))) rfl rfl (ih (k + 1) (by omega))
          · refine go_iconst (v := Int32.ofInt 0) dX9_quartersOfTest_57 rfl ?_
            refine go_goto (tgt := 73) dX9_quartersOfTest_58 (by decide) ?_
            refine go_istoreS (lv' := [(0, .ref va), (1, rj_i x), (2, rj_i t), (3, rj_i h), (4, rj_i v), (5, rj_i (sp_bits (fun q => sp_tst (sp_b s D m p q t) v h) k)), (6, rj_i (k : Int)), (7, rj_i (sp_b s D m p (k : Int) t)), (8, rj_i 0)]) (by decide) rfl dX9_quartersOfTest_73 ?_
            refine go_iload dX9_quartersOfTest_75 8 rfl ?_
            refine go_iload_n dX9_quartersOfTest_77 rfl 3 rfl ?_
            refine go_icmp_neI (tgt := 90) (by omega) (by omega) dX9_quartersOfTest_78 (by decide) (fun c_78 => ?_) (fun c_78 => ?_)
            · refine go_iincI (a := (k : Int)) (n := 1) (k0 := 6) (lv' := [(0, .ref va), (1, rj_i x), (2, rj_i t), (3, rj_i h), (4, rj_i v), (5, rj_i (sp_bits (fun q => sp_tst (sp_b s D m p q t) v h) k)), (6, rj_i ((k : Int) + 1)), (7, rj_i (sp_b s D m p (k : Int) t)), (8, rj_i 0)]) rfl (by decide) rfl dX9_quartersOfTest_90 ?_
              refine go_goto (tgt := 25) dX9_quartersOfTest_93 (by decide) ?_
              refine go_sub (lv' := [(0, .ref va), (1, rj_i x), (2, rj_i t), (3, rj_i h), (4, rj_i v), (5, rj_i (sp_bits (fun q => sp_tst (sp_b s D m p q t) v h) k)), (6, rj_i ((k : Int) + 1))]) (by intro q hq; simp only [List.mem_cons, List.not_mem_nil, or_false] at hq ⊢; rcases hq with rfl | rfl | rfl | rfl | rfl | rfl | rfl <;> simp) ?_
              exact go_eq rfl (lv' := [(0, .ref va), (1, rj_i x), (2, rj_i t), (3, rj_i h), (4, rj_i v), (5, rj_i (sp_bits (fun q => sp_tst (sp_b s D m p q t) v h) (k + 1))), (6, rj_i ((k + 1 : Nat) : Int))]) (rj_lk (rj_lk (rj_lk (rj_lk (rj_lk (rj_lj (by rw [sp_bits]; rw [if_neg (by unfold sp_tst; (repeat' split) <;> simp only [decide_eq_true_eq] <;> omega), Int.add_zero]) (rj_lj (by omega) rfl))))))) rfl rfl (ih (k + 1) (by omega))
            · refine go_iload dX9_quartersOfTest_81 5 rfl ?_
              refine go_iconst (v := Int32.ofInt 1) dX9_quartersOfTest_83 rfl ?_
              refine go_iload dX9_quartersOfTest_84 6 rfl ?_
              refine go_shl1 (k := k) (by omega) dX9_quartersOfTest_86 ?_
              refine go_orI ⟨k, by omega, (sp_bits_b (fun q => sp_tst (sp_b s D m p q t) v h) k).1, (sp_bits_b (fun q => sp_tst (sp_b s D m p q t) v h) k).2, by simp⟩ dX9_quartersOfTest_87 ?_
              refine go_istoreS (lv' := [(0, .ref va), (1, rj_i x), (2, rj_i t), (3, rj_i h), (4, rj_i v), (5, rj_i ((sp_bits (fun q => sp_tst (sp_b s D m p q t) v h) k) + (2 ^ k))), (6, rj_i (k : Int)), (7, rj_i (sp_b s D m p (k : Int) t)), (8, rj_i 0)]) (by decide) rfl dX9_quartersOfTest_88 ?_
              refine go_iincI (a := (k : Int)) (n := 1) (k0 := 6) (lv' := [(0, .ref va), (1, rj_i x), (2, rj_i t), (3, rj_i h), (4, rj_i v), (5, rj_i ((sp_bits (fun q => sp_tst (sp_b s D m p q t) v h) k) + (2 ^ k))), (6, rj_i ((k : Int) + 1)), (7, rj_i (sp_b s D m p (k : Int) t)), (8, rj_i 0)]) rfl (by decide) rfl dX9_quartersOfTest_90 ?_
              refine go_goto (tgt := 25) dX9_quartersOfTest_93 (by decide) ?_
              refine go_sub (lv' := [(0, .ref va), (1, rj_i x), (2, rj_i t), (3, rj_i h), (4, rj_i v), (5, rj_i ((sp_bits (fun q => sp_tst (sp_b s D m p q t) v h) k) + (2 ^ k))), (6, rj_i ((k : Int) + 1))]) (by intro q hq; simp only [List.mem_cons, List.not_mem_nil, or_false] at hq ⊢; rcases hq with rfl | rfl | rfl | rfl | rfl | rfl | rfl <;> simp) ?_
              exact go_eq rfl (lv' := [(0, .ref va), (1, rj_i x), (2, rj_i t), (3, rj_i h), (4, rj_i v), (5, rj_i (sp_bits (fun q => sp_tst (sp_b s D m p q t) v h) (k + 1))), (6, rj_i ((k + 1 : Nat) : Int))]) (rj_lk (rj_lk (rj_lk (rj_lk (rj_lk (rj_lj (by rw [sp_bits]; rw [if_pos (by unfold sp_tst; (repeat' split) <;> simp only [decide_eq_true_eq] <;> omega)]) (rj_lj (by omega) rfl))))))) rfl rfl (ih (k + 1) (by omega))
        · refine go_iload dX9_quartersOfTest_37 6 rfl ?_
          refine go_goto (tgt := 48) dX9_quartersOfTest_39 (by decide) ?_
          refine go_istoreS (lv' := [(0, .ref va), (1, rj_i x), (2, rj_i t), (3, rj_i h), (4, rj_i v), (5, rj_i (sp_bits (fun q => sp_tst (sp_b s D m p q t) v h) k)), (6, rj_i (k : Int)), (7, rj_i (k : Int))]) (by decide) rfl dX9_quartersOfTest_48 ?_
          refine go_iload dX9_quartersOfTest_50 7 rfl ?_
          refine go_iload dX9_quartersOfTest_52 4 rfl ?_
          refine go_icmp_geI (tgt := 61) (by omega) (by omega) dX9_quartersOfTest_54 (by decide) (fun c_54 => ?_) (fun c_54 => ?_)
          · refine go_iload dX9_quartersOfTest_61 7 rfl ?_
            refine go_iload dX9_quartersOfTest_63 4 rfl ?_
            refine go_icmp_neI (tgt := 72) (by omega) (by omega) dX9_quartersOfTest_65 (by decide) (fun c_65 => ?_) (fun c_65 => ?_)
            · refine go_iconst (v := Int32.ofInt 2) dX9_quartersOfTest_72 rfl ?_
              refine go_istoreS (lv' := [(0, .ref va), (1, rj_i x), (2, rj_i t), (3, rj_i h), (4, rj_i v), (5, rj_i (sp_bits (fun q => sp_tst (sp_b s D m p q t) v h) k)), (6, rj_i (k : Int)), (7, rj_i (k : Int)), (8, rj_i 2)]) (by decide) rfl dX9_quartersOfTest_73 ?_
              refine go_iload dX9_quartersOfTest_75 8 rfl ?_
              refine go_iload_n dX9_quartersOfTest_77 rfl 3 rfl ?_
              refine go_icmp_neI (tgt := 90) (by omega) (by omega) dX9_quartersOfTest_78 (by decide) (fun c_78 => ?_) (fun c_78 => ?_)
              · refine go_iincI (a := (k : Int)) (n := 1) (k0 := 6) (lv' := [(0, .ref va), (1, rj_i x), (2, rj_i t), (3, rj_i h), (4, rj_i v), (5, rj_i (sp_bits (fun q => sp_tst (sp_b s D m p q t) v h) k)), (6, rj_i ((k : Int) + 1)), (7, rj_i (k : Int)), (8, rj_i 2)]) rfl (by decide) rfl dX9_quartersOfTest_90 ?_
                refine go_goto (tgt := 25) dX9_quartersOfTest_93 (by decide) ?_
                refine go_sub (lv' := [(0, .ref va), (1, rj_i x), (2, rj_i t), (3, rj_i h), (4, rj_i v), (5, rj_i (sp_bits (fun q => sp_tst (sp_b s D m p q t) v h) k)), (6, rj_i ((k : Int) + 1))]) (by intro q hq; simp only [List.mem_cons, List.not_mem_nil, or_false] at hq ⊢; rcases hq with rfl | rfl | rfl | rfl | rfl | rfl | rfl <;> simp) ?_
                exact go_eq rfl (lv' := [(0, .ref va), (1, rj_i x), (2, rj_i t), (3, rj_i h), (4, rj_i v), (5, rj_i (sp_bits (fun q => sp_tst (sp_b s D m p q t) v h) (k + 1))), (6, rj_i ((k + 1 : Nat) : Int))]) (rj_lk (rj_lk (rj_lk (rj_lk (rj_lk (rj_lj (by rw [sp_bits]; rw [if_neg (by unfold sp_tst; (repeat' split) <;> simp only [decide_eq_true_eq] <;> omega), Int.add_zero]) (rj_lj (by omega) rfl))))))) rfl rfl (ih (k + 1) (by omega))
              · refine go_iload dX9_quartersOfTest_81 5 rfl ?_
                refine go_iconst (v := Int32.ofInt 1) dX9_quartersOfTest_83 rfl ?_
                refine go_iload dX9_quartersOfTest_84 6 rfl ?_
                refine go_shl1 (k := k) (by omega) dX9_quartersOfTest_86 ?_
                refine go_orI ⟨k, by omega, (sp_bits_b (fun q => sp_tst (sp_b s D m p q t) v h) k).1, (sp_bits_b (fun q => sp_tst (sp_b s D m p q t) v h) k).2, by simp⟩ dX9_quartersOfTest_87 ?_
                refine go_istoreS (lv' := [(0, .ref va), (1, rj_i x), (2, rj_i t), (3, rj_i h), (4, rj_i v), (5, rj_i ((sp_bits (fun q => sp_tst (sp_b s D m p q t) v h) k) + (2 ^ k))), (6, rj_i (k : Int)), (7, rj_i (k : Int)), (8, rj_i 2)]) (by decide) rfl dX9_quartersOfTest_88 ?_
                refine go_iincI (a := (k : Int)) (n := 1) (k0 := 6) (lv' := [(0, .ref va), (1, rj_i x), (2, rj_i t), (3, rj_i h), (4, rj_i v), (5, rj_i ((sp_bits (fun q => sp_tst (sp_b s D m p q t) v h) k) + (2 ^ k))), (6, rj_i ((k : Int) + 1)), (7, rj_i (k : Int)), (8, rj_i 2)]) rfl (by decide) rfl dX9_quartersOfTest_90 ?_
                refine go_goto (tgt := 25) dX9_quartersOfTest_93 (by decide) ?_
                refine go_sub (lv' := [(0, .ref va), (1, rj_i x), (2, rj_i t), (3, rj_i h), (4, rj_i v), (5, rj_i ((sp_bits (fun q => sp_tst (sp_b s D m p q t) v h) k) + (2 ^ k))), (6, rj_i ((k : Int) + 1))]) (by intro q hq; simp only [List.mem_cons, List.not_mem_nil, or_false] at hq ⊢; rcases hq with rfl | rfl | rfl | rfl | rfl | rfl | rfl <;> simp) ?_
                exact go_eq rfl (lv' := [(0, .ref va), (1, rj_i x), (2, rj_i t), (3, rj_i h), (4, rj_i v), (5, rj_i (sp_bits (fun q => sp_tst (sp_b s D m p q t) v h) (k + 1))), (6, rj_i ((k + 1 : Nat) : Int))]) (rj_lk (rj_lk (rj_lk (rj_lk (rj_lk (rj_lj (by rw [sp_bits]; rw [if_pos (by unfold sp_tst; (repeat' split) <;> simp only [decide_eq_true_eq] <;> omega)]) (rj_lj (by omega) rfl))))))) rfl rfl (ih (k + 1) (by omega))
            · refine go_iconst (v := Int32.ofInt 1) dX9_quartersOfTest_68 rfl ?_
              refine go_goto (tgt := 73) dX9_quartersOfTest_69 (by decide) ?_
              refine go_istoreS (lv' := [(0, .ref va), (1, rj_i x), (2, rj_i t), (3, rj_i h), (4, rj_i v), (5, rj_i (sp_bits (fun q => sp_tst (sp_b s D m p q t) v h) k)), (6, rj_i (k : Int)), (7, rj_i (k : Int)), (8, rj_i 1)]) (by decide) rfl dX9_quartersOfTest_73 ?_
              refine go_iload dX9_quartersOfTest_75 8 rfl ?_
              refine go_iload_n dX9_quartersOfTest_77 rfl 3 rfl ?_
              refine go_icmp_neI (tgt := 90) (by omega) (by omega) dX9_quartersOfTest_78 (by decide) (fun c_78 => ?_) (fun c_78 => ?_)
              · refine go_iincI (a := (k : Int)) (n := 1) (k0 := 6) (lv' := [(0, .ref va), (1, rj_i x), (2, rj_i t), (3, rj_i h), (4, rj_i v), (5, rj_i (sp_bits (fun q => sp_tst (sp_b s D m p q t) v h) k)), (6, rj_i ((k : Int) + 1)), (7, rj_i (k : Int)), (8, rj_i 1)]) rfl (by decide) rfl dX9_quartersOfTest_90 ?_
                refine go_goto (tgt := 25) dX9_quartersOfTest_93 (by decide) ?_
                refine go_sub (lv' := [(0, .ref va), (1, rj_i x), (2, rj_i t), (3, rj_i h), (4, rj_i v), (5, rj_i (sp_bits (fun q => sp_tst (sp_b s D m p q t) v h) k)), (6, rj_i ((k : Int) + 1))]) (by intro q hq; simp only [List.mem_cons, List.not_mem_nil, or_false] at hq ⊢; rcases hq with rfl | rfl | rfl | rfl | rfl | rfl | rfl <;> simp) ?_
                exact go_eq rfl (lv' := [(0, .ref va), (1, rj_i x), (2, rj_i t), (3, rj_i h), (4, rj_i v), (5, rj_i (sp_bits (fun q => sp_tst (sp_b s D m p q t) v h) (k + 1))), (6, rj_i ((k + 1 : Nat) : Int))]) (rj_lk (rj_lk (rj_lk (rj_lk (rj_lk (rj_lj (by rw [sp_bits]; rw [if_neg (by unfold sp_tst; (repeat' split) <;> simp only [decide_eq_true_eq] <;> omega), Int.add_zero]) (rj_lj (by omega) rfl))))))) rfl rfl (ih (k + 1) (by omega))
              · refine go_iload dX9_quartersOfTest_81 5 rfl ?_
                refine go_iconst (v := Int32.ofInt 1) dX9_quartersOfTest_83 rfl ?_
                refine go_iload dX9_quartersOfTest_84 6 rfl ?_
                refine go_shl1 (k := k) (by omega) dX9_quartersOfTest_86 ?_
                refine go_orI ⟨k, by omega, (sp_bits_b (fun q => sp_tst (sp_b s D m p q t) v h) k).1, (sp_bits_b (fun q => sp_tst (sp_b s D m p q t) v h) k).2, by simp⟩ dX9_quartersOfTest_87 ?_
                refine go_istoreS (lv' := [(0, .ref va), (1, rj_i x), (2, rj_i t), (3, rj_i h), (4, rj_i v), (5, rj_i ((sp_bits (fun q => sp_tst (sp_b s D m p q t) v h) k) + (2 ^ k))), (6, rj_i (k : Int)), (7, rj_i (k : Int)), (8, rj_i 1)]) (by decide) rfl dX9_quartersOfTest_88 ?_
                refine go_iincI (a := (k : Int)) (n := 1) (k0 := 6) (lv' := [(0, .ref va), (1, rj_i x), (2, rj_i t), (3, rj_i h), (4, rj_i v), (5, rj_i ((sp_bits (fun q => sp_tst (sp_b s D m p q t) v h) k) + (2 ^ k))), (6, rj_i ((k : Int) + 1)), (7, rj_i (k : Int)), (8, rj_i 1)]) rfl (by decide) rfl dX9_quartersOfTest_90 ?_
                refine go_goto (tgt := 25) dX9_quartersOfTest_93 (by decide) ?_
                refine go_sub (lv' := [(0, .ref va), (1, rj_i x), (2, rj_i t), (3, rj_i h), (4, rj_i v), (5, rj_i ((sp_bits (fun q => sp_tst (sp_b s D m p q t) v h) k) + (2 ^ k))), (6, rj_i ((k : Int) + 1))]) (by intro q hq; simp only [List.mem_cons, List.not_mem_nil, or_false] at hq ⊢; rcases hq with rfl | rfl | rfl | rfl | rfl | rfl | rfl <;> simp) ?_
                exact go_eq rfl (lv' := [(0, .ref va), (1, rj_i x), (2, rj_i t), (3, rj_i h), (4, rj_i v), (5, rj_i (sp_bits (fun q => sp_tst (sp_b s D m p q t) v h) (k + 1))), (6, rj_i ((k + 1 : Nat) : Int))]) (rj_lk (rj_lk (rj_lk (rj_lk (rj_lk (rj_lj (by rw [sp_bits]; rw [if_pos (by unfold sp_tst; (repeat' split) <;> simp only [decide_eq_true_eq] <;> omega)]) (rj_lj (by omega) rfl))))))) rfl rfl (ih (k + 1) (by omega))
          · refine go_iconst (v := Int32.ofInt 0) dX9_quartersOfTest_57 rfl ?_
            refine go_goto (tgt := 73) dX9_quartersOfTest_58 (by decide) ?_
            refine go_istoreS (lv' := [(0, .ref va), (1, rj_i x), (2, rj_i t), (3, rj_i h), (4, rj_i v), (5, rj_i (sp_bits (fun q => sp_tst (sp_b s D m p q t) v h) k)), (6, rj_i (k : Int)), (7, rj_i (k : Int)), (8, rj_i 0)]) (by decide) rfl dX9_quartersOfTest_73 ?_
            refine go_iload dX9_quartersOfTest_75 8 rfl ?_
            refine go_iload_n dX9_quartersOfTest_77 rfl 3 rfl ?_
            refine go_icmp_neI (tgt := 90) (by omega) (by omega) dX9_quartersOfTest_78 (by decide) (fun c_78 => ?_) (fun c_78 => ?_)
            · refine go_iincI (a := (k : Int)) (n := 1) (k0 := 6) (lv' := [(0, .ref va), (1, rj_i x), (2, rj_i t), (3, rj_i h), (4, rj_i v), (5, rj_i (sp_bits (fun q => sp_tst (sp_b s D m p q t) v h) k)), (6, rj_i ((k : Int) + 1)), (7, rj_i (k : Int)), (8, rj_i 0)]) rfl (by decide) rfl dX9_quartersOfTest_90 ?_
              refine go_goto (tgt := 25) dX9_quartersOfTest_93 (by decide) ?_
              refine go_sub (lv' := [(0, .ref va), (1, rj_i x), (2, rj_i t), (3, rj_i h), (4, rj_i v), (5, rj_i (sp_bits (fun q => sp_tst (sp_b s D m p q t) v h) k)), (6, rj_i ((k : Int) + 1))]) (by intro q hq; simp only [List.mem_cons, List.not_mem_nil, or_false] at hq ⊢; rcases hq with rfl | rfl | rfl | rfl | rfl | rfl | rfl <;> simp) ?_
              exact go_eq rfl (lv' := [(0, .ref va), (1, rj_i x), (2, rj_i t), (3, rj_i h), (4, rj_i v), (5, rj_i (sp_bits (fun q => sp_tst (sp_b s D m p q t) v h) (k + 1))), (6, rj_i ((k + 1 : Nat) : Int))]) (rj_lk (rj_lk (rj_lk (rj_lk (rj_lk (rj_lj (by rw [sp_bits]; rw [if_neg (by unfold sp_tst; (repeat' split) <;> simp only [decide_eq_true_eq] <;> omega), Int.add_zero]) (rj_lj (by omega) rfl))))))) rfl rfl (ih (k + 1) (by omega))
            · refine go_iload dX9_quartersOfTest_81 5 rfl ?_
              refine go_iconst (v := Int32.ofInt 1) dX9_quartersOfTest_83 rfl ?_
              refine go_iload dX9_quartersOfTest_84 6 rfl ?_
              refine go_shl1 (k := k) (by omega) dX9_quartersOfTest_86 ?_
              refine go_orI ⟨k, by omega, (sp_bits_b (fun q => sp_tst (sp_b s D m p q t) v h) k).1, (sp_bits_b (fun q => sp_tst (sp_b s D m p q t) v h) k).2, by simp⟩ dX9_quartersOfTest_87 ?_
              refine go_istoreS (lv' := [(0, .ref va), (1, rj_i x), (2, rj_i t), (3, rj_i h), (4, rj_i v), (5, rj_i ((sp_bits (fun q => sp_tst (sp_b s D m p q t) v h) k) + (2 ^ k))), (6, rj_i (k : Int)), (7, rj_i (k : Int)), (8, rj_i 0)]) (by decide) rfl dX9_quartersOfTest_88 ?_
              refine go_iincI (a := (k : Int)) (n := 1) (k0 := 6) (lv' := [(0, .ref va), (1, rj_i x), (2, rj_i t), (3, rj_i h), (4, rj_i v), (5, rj_i ((sp_bits (fun q => sp_tst (sp_b s D m p q t) v h) k) + (2 ^ k))), (6, rj_i ((k : Int) + 1)), (7, rj_i (k : Int)), (8, rj_i 0)]) rfl (by decide) rfl dX9_quartersOfTest_90 ?_
              refine go_goto (tgt := 25) dX9_quartersOfTest_93 (by decide) ?_
              refine go_sub (lv' := [(0, .ref va), (1, rj_i x), (2, rj_i t), (3, rj_i h), (4, rj_i v), (5, rj_i ((sp_bits (fun q => sp_tst (sp_b s D m p q t) v h) k) + (2 ^ k))), (6, rj_i ((k : Int) + 1))]) (by intro q hq; simp only [List.mem_cons, List.not_mem_nil, or_false] at hq ⊢; rcases hq with rfl | rfl | rfl | rfl | rfl | rfl | rfl <;> simp) ?_
              exact go_eq rfl (lv' := [(0, .ref va), (1, rj_i x), (2, rj_i t), (3, rj_i h), (4, rj_i v), (5, rj_i (sp_bits (fun q => sp_tst (sp_b s D m p q t) v h) (k + 1))), (6, rj_i ((k + 1 : Nat) : Int))]) (rj_lk (rj_lk (rj_lk (rj_lk (rj_lk (rj_lj (by rw [sp_bits]; rw [if_pos (by unfold sp_tst; (repeat' split) <;> simp only [decide_eq_true_eq] <;> omega)]) (rj_lj (by omega) rfl))))))) rfl rfl (ih (k + 1) (by omega))
  exact go_eq rfl (lv' := [(0, .ref va), (1, rj_i x), (2, rj_i t), (3, rj_i h), (4, rj_i v), (5, rj_i (sp_bits (fun q => sp_tst (sp_b s D m p q t) v h) 0)), (6, rj_i ((0 : Nat) : Int))]) (rj_lk (rj_lk (rj_lk (rj_lk (rj_lk (rj_lj (rfl) (rj_lj (rfl) rfl))))))) rfl rfl (loop 8 0 rfl)
