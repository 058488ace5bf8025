/-! THE CLASS: coarse -/
def sp_k2 (s : Int → Int) (m : Int) (st : Nat) : Nat → Nat → Bool
  | 0, _ => false
  | f + 1, p => decide ((p : Int) < s 1) && (decide (sp_bits (fun q => sp_can s (s 4) m (p : Int) q) 8 ≠ 0) || sp_k2 s m st f (p + st))
theorem sp_bits_ne {P : Int → Bool} : sp_bits P 8 ≠ 0 ↔ ∃ q : Nat, q < 8 ∧ P (q : Int) = true := by
  constructor
  · intro h
    refine Decidable.byContradiction fun h2 => h ((sp_bits_0 P 8).mpr fun q a b => ?_)
    refine Bool.eq_false_iff.mpr fun h3 => h2 ⟨q.toNat, by omega, ?_⟩
    rw [Int.toNat_of_nonneg a]; exact h3
  · rintro ⟨q, h1, h2⟩ h3
    have := (sp_bits_0 P 8).mp h3 q (by omega) (by omega)
    rw [h2] at this; cases this
theorem sp_k2_c2 (s : Int → Int) (m : Int) (st : Nat) : ∀ f p : Nat, sp_k2 s m st f p = true ↔ ∃ q : Nat, q < 8 ∧ sp_c2 s m st (q : Int) f p = true
  | 0, p => by simp [sp_k2, sp_c2]
  | f + 1, p => by
    rw [sp_k2]
    simp only [sp_c2, Bool.and_eq_true, Bool.or_eq_true, decide_eq_true_eq]
    rw [sp_bits_ne, sp_k2_c2 s m st f (p + st)]
    constructor
    · rintro ⟨h1, ⟨q, h2, h3⟩ | ⟨q, h2, h3⟩⟩
      · exact ⟨q, h2, h1, Or.inl h3⟩
      · exact ⟨q, h2, h1, Or.inr h3⟩
    · rintro ⟨q, h2, h1, h3 | h3⟩
      · exact ⟨h1, Or.inl ⟨q, h2, h3⟩⟩
      · exact ⟨h1, Or.inr ⟨q, h2, h3⟩⟩
theorem sp_c1_c2 (s : Int → Int) (m : Int) (st : Nat) : ∀ f q0 : Nat, sp_c1 s m st f q0 = true ↔ ∃ q : Nat, q0 ≤ q ∧ q < q0 + f ∧ sp_c2 s m st (q : Int) 7 0 = true
  | 0, q0 => by simp [sp_c1]; omega
  | f + 1, q0 => by
    rw [sp_c1, Bool.or_eq_true, sp_c1_c2 s m st f (q0 + 1)]
    constructor
    · rintro (h | ⟨q, h1, h2, h3⟩)
      · exact ⟨q0, Nat.le_refl _, by omega, h⟩
      · exact ⟨q, by omega, by omega, h3⟩
    · rintro ⟨q, h1, h2, h3⟩
      by_cases h : q = q0
      · subst h; exact Or.inl h3
      · exact Or.inr ⟨q, by omega, by omega, h3⟩
theorem sp_k2_cs (s : Int → Int) (m : Int) (st : Nat) : sp_k2 s m st 7 0 = sp_cs s m st := by
  have h : sp_k2 s m st 7 0 = true ↔ sp_cs s m st = true := by
    unfold sp_cs
    rw [sp_k2_c2, sp_c1_c2]
    constructor
    · rintro ⟨q, h1, h2⟩; exact ⟨q, Nat.zero_le _, by omega, h2⟩
    · rintro ⟨q, h0, h1, h2⟩; exact ⟨q, by omega, h2⟩
  cases h1 : sp_k2 s m st 7 0 <;> cases h2 : sp_cs s m st <;> simp [h1, h2] at h <;> rfl
set_option maxRecDepth 20000 in
set_option maxHeartbeats 2000000 in
/-- x_coarse -/
theorem x_coarse {X9 : rj_X} {σ : rj_H} {d cb vv vk : Nat} {c : rm_R} {n : Int} (hd : 6 ≤ d) (hn : -2147483648 ≤ n ∧ n < 2147483648) {s : Int → Int} {ad : Nat → Int → Nat} (hR : rc_R X9 cb vv vk c σ s ad) (hI : sp_I s) : rj_Cl X9 d yX11_coarse cX11_coarse 6 (some .int) [.ref cb, rj_i n] (rc_p X9 cb vv vk c σ) (fun w9 τ => w9 = some (rj_i (sp_coaF s n)) ∧ ∃ c0, rc_t 92 c c0 ∧ τ = rc_p X9 cb vv vk c0 σ) := by
  obtain ⟨⟨h0, h1, h2, h3, h4, h5, h6, h7⟩, hM, hP, hW, hL, hV⟩ := id hI
  obtain ⟨v1, v2, v3, v4⟩ := id hV
  refine go_call (by decide +kernel) (Nat.le_of_ble_eq_true rfl) ?_
  refine go_eq (pc' := 0) (lv' := [(0, .ref cb), (1, rj_i n)]) (st' := []) rfl rfl rfl rfl ?_
  refine go_iload_n dX11_coarse_0 rfl 1 rfl ?_
  refine go_iconst (v := Int32.ofInt 1) dX11_coarse_1 rfl ?_
  refine go_icmp_ltI (tgt := 11) (by omega) (by omega) dX11_coarse_2 (by decide) (fun c_2 => ?_) (fun c_2 => ?_)
  · refine go_bipush (v := Int32.ofInt (-2)) dX11_coarse_11 (by decide) ?_
    refine go_retI rfl rfl ?_ dX11_coarse_13
    exact ⟨rj_vi (by unfold sp_coaF; rw [if_neg (by omega)]), c, rc_t.rf, rfl⟩
  · refine go_iload_n dX11_coarse_5 rfl 1 rfl ?_
    refine go_bipush (v := Int32.ofInt 9) dX11_coarse_6 (by decide) ?_
    refine go_icmp_leI (tgt := 14) (by omega) (by omega) dX11_coarse_8 (by decide) (fun c_8 => ?_) (fun c_8 => ?_)
    · refine go_iconst (v := Int32.ofInt 0) dX11_coarse_14 rfl ?_
      refine go_istore_nS (lv' := [(0, .ref cb), (1, rj_i n), (2, rj_i 0)]) rfl (by decide) rfl dX11_coarse_15 ?_
      refine go_iconst (v := Int32.ofInt 0) dX11_coarse_16 rfl ?_
      refine go_istore_nS (lv' := [(0, .ref cb), (1, rj_i n), (2, rj_i 0), (3, rj_i 0)]) rfl (by decide) rfl dX11_coarse_17 ?_
      obtain ⟨st, hst⟩ : ∃ st : Nat, n = (st : Int) := ⟨n.toNat, by omega⟩
      subst hst
      have loop : ∀ (n2 k : Nat) (cl : rm_R), k + n2 = (s 0).toNat → rc_t 92 c cl → rj_Go X9 yX11_coarse cX11_coarse 6 (some .int) d (fun w9 τ => w9 = some (rj_i (sp_coaF s (st : Int))) ∧ ∃ c0, rc_t 92 c c0 ∧ τ = rc_p X9 cb vv vk c0 σ) 18 [(0, .ref cb), (1, rj_i (st : Int)), (2, rj_i (sp_bits (sp_coaB s st) k)), (3, rj_i (k : Int))] [] (rc_p X9 cb vv vk cl σ) := by
        intro n2
        induction n2 with
        | zero =>
          intro k cl hk hl
          refine go_iload_n dX11_coarse_18 rfl 3 rfl ?_
          refine go_aload_n dX11_coarse_19 rfl 0 rfl ?_
          refine rc_gx (hR.t (hl.le (by decide))).V (k := 0) (by decide) fX11_12 rfl dX11_coarse_20 ?_
          refine rc_gs (hR.t (hl.le (by decide))).V (k := 1) (v := rj_i (s 0)) (by decide) fX11_60 (rj_vi (hR.t (hl.le (by decide))).n0) dX11_coarse_23 ?_
          refine go_icmp_geI (tgt := 113) (by omega) (by omega) dX11_coarse_26 (by decide) (fun c_26 => ?_) (fun c_26 => ?_)
          · refine go_iload_n dX11_coarse_113 rfl 2 rfl ?_
            refine go_retI rfl rfl ?_ dX11_coarse_114
            exact ⟨rj_vi (by unfold sp_coaF; rw [if_pos (by omega), show (s 0).toNat = k by omega]; rfl), cl, hl, rfl⟩
          · exact absurd c_26 (by omega)
        | succ n2 ih =>
          intro k cl hk hl
          refine go_iload_n dX11_coarse_18 rfl 3 rfl ?_
          refine go_aload_n dX11_coarse_19 rfl 0 rfl ?_
          refine rc_gx (hR.t (hl.le (by decide))).V (k := 0) (by decide) fX11_12 rfl dX11_coarse_20 ?_
          refine rc_gs (hR.t (hl.le (by decide))).V (k := 1) (v := rj_i (s 0)) (by decide) fX11_60 (rj_vi (hR.t (hl.le (by decide))).n0) dX11_coarse_23 ?_
          refine go_icmp_geI (tgt := 113) (by omega) (by omega) dX11_coarse_26 (by decide) (fun c_26 => ?_) (fun c_26 => ?_)
          · exact absurd c_26 (by omega)
          · refine go_iconst (v := Int32.ofInt 0) dX11_coarse_29 rfl ?_
            refine go_istoreS (lv' := [(0, .ref cb), (1, rj_i (st : Int)), (2, rj_i (sp_bits (sp_coaB s st) k)), (3, rj_i (k : Int)), (4, rj_i 0)]) (by decide) rfl dX11_coarse_30 ?_
            refine go_iconst (v := Int32.ofInt 0) dX11_coarse_32 rfl ?_
            refine go_istoreS (lv' := [(0, .ref cb), (1, rj_i (st : Int)), (2, rj_i (sp_bits (sp_coaB s st) k)), (3, rj_i (k : Int)), (4, rj_i 0), (5, rj_i 0)]) (by decide) rfl dX11_coarse_33 ?_
            have loopi : ∀ (f p : Nat) (r : Bool) (cli : rm_R), s 1 ≤ (p : Int) + (f : Int) → (p : Int) ≤ 20 → rc_t 92 c cli → (r || sp_k2 s k st f p) = sp_k2 s k st 7 0 → rj_Go X9 yX11_coarse cX11_coarse 6 (some .int) d (fun w9 τ => w9 = some (rj_i (sp_coaF s (st : Int))) ∧ ∃ c0, rc_t 92 c c0 ∧ τ = rc_p X9 cb vv vk c0 σ) 35 [(0, .ref cb), (1, rj_i (st : Int)), (2, rj_i (sp_bits (sp_coaB s st) k)), (3, rj_i (k : Int)), (4, rj_i (rj_b (r = true))), (5, rj_i (p : Int))] [] (rc_p X9 cb vv vk cli σ) := by
              intro f
              induction f with
              | zero =>
                intro p r cli hf hp hli hT
                refine go_iload dX11_coarse_35 5 rfl ?_
                refine go_aload_n dX11_coarse_37 rfl 0 rfl ?_
                refine rc_gx (hR.t (hli.le (by decide))).V (k := 0) (by decide) fX11_12 rfl dX11_coarse_38 ?_
                refine rc_gs (hR.t (hli.le (by decide))).V (k := 3) (v := rj_i (s 1)) (by decide) fX11_76 (rj_vi (hR.t (hli.le (by decide))).n1) dX11_coarse_41 ?_
                refine go_icmp_geI (tgt := 96) (by omega) (by omega) dX11_coarse_44 (by decide) (fun c_44 => ?_) (fun c_44 => ?_)
                · have hr : r = sp_k2 s k st 7 0 := by rw [← hT, sp_k2, Bool.or_false]
                  rw [sp_k2_cs] at hr
                  refine go_iload dX11_coarse_96 4 rfl ?_
                  refine go_if_neB (tgt := 107) dX11_coarse_98 (by decide) (fun c_98 => ?_) (fun c_98 => ?_)
                  · refine go_iincI (a := (k : Int)) (n := 1) (k0 := 3) (lv' := [(0, .ref cb), (1, rj_i (st : Int)), (2, rj_i (sp_bits (sp_coaB s st) k)), (3, rj_i ((k : Int) + 1)), (4, rj_i (rj_b (r = true))), (5, rj_i (p : Int))]) rfl (by decide) rfl dX11_coarse_107 ?_
                    refine go_goto (tgt := 18) dX11_coarse_110 (by decide) ?_
                    refine go_sub (lv' := [(0, .ref cb), (1, rj_i (st : Int)), (2, rj_i (sp_bits (sp_coaB s st) k)), (3, rj_i ((k : Int) + 1))]) (by intro q hq; simp only [List.mem_cons, List.not_mem_nil, or_false] at hq ⊢; rcases hq with rfl | rfl | rfl | rfl <;> simp) ?_
                    exact go_eq rfl (lv' := [(0, .ref cb), (1, rj_i (st : Int)), (2, rj_i (sp_bits (sp_coaB s st) (k + 1))), (3, rj_i ((k + 1 : Nat) : Int))]) (rj_lk (rj_lk (rj_lj (by rw [sp_bits, if_neg (by unfold sp_coaB; rw [← hr, c_98]; decide)]; omega) (rj_lj (by omega) rfl)))) rfl rfl (ih (k + 1) cli (by omega) hli)
                  · refine go_iload_n dX11_coarse_101 rfl 2 rfl ?_
                    refine go_iconst (v := Int32.ofInt 1) dX11_coarse_102 rfl ?_
                    refine go_iload_n dX11_coarse_103 rfl 3 rfl ?_
                    refine go_shl1 (k := k) (by omega) dX11_coarse_104 ?_
                    refine go_orI ⟨k, by omega, (sp_bits_b (sp_coaB s st) k).1, (sp_bits_b (sp_coaB s st) k).2, by simp⟩ dX11_coarse_105 ?_
                    refine go_istore_nS (lv' := [(0, .ref cb), (1, rj_i (st : Int)), (2, rj_i ((sp_bits (sp_coaB s st) k) + (2 ^ k))), (3, rj_i (k : Int)), (4, rj_i (rj_b (r = true))), (5, rj_i (p : Int))]) rfl (by decide) rfl dX11_coarse_106 ?_
                    refine go_iincI (a := (k : Int)) (n := 1) (k0 := 3) (lv' := [(0, .ref cb), (1, rj_i (st : Int)), (2, rj_i ((sp_bits (sp_coaB s st) k) + (2 ^ k))), (3, rj_i ((k : Int) + 1)), (4, rj_i (rj_b (r = true))), (5, rj_i (p : Int))]) rfl (by decide) rfl dX11_coarse_107 ?_
                    refine go_goto (tgt := 18) dX11_coarse_110 (by decide) ?_
                    refine go_sub (lv' := [(0, .ref cb), (1, rj_i (st : Int)), (2, rj_i ((sp_bits (sp_coaB s st) k) + (2 ^ k))), (3, rj_i ((k : Int) + 1))]) (by intro q hq; simp only [List.mem_cons, List.not_mem_nil, or_false] at hq ⊢; rcases hq with rfl | rfl | rfl | rfl <;> simp) ?_
                    exact go_eq rfl (lv' := [(0, .ref cb), (1, rj_i (st : Int)), (2, rj_i (sp_bits (sp_coaB s st) (k + 1))), (3, rj_i ((k + 1 : Nat) : Int))]) (rj_lk (rj_lk (rj_lj (by rw [sp_bits, if_pos (by unfold sp_coaB; rw [← hr, Bool.eq_false_iff.mpr c_98]; rfl)]) (rj_lj (by omega) rfl)))) rfl rfl (ih (k + 1) cli (by omega) hli)
                · exact absurd c_44 (by omega)
              | succ f ihf =>
                intro p r cli hf hp hli hT
                refine go_iload dX11_coarse_35 5 rfl ?_
                refine go_aload_n dX11_coarse_37 rfl 0 rfl ?_
                refine rc_gx (hR.t (hli.le (by decide))).V (k := 0) (by decide) fX11_12 rfl dX11_coarse_38 ?_
                refine rc_gs (hR.t (hli.le (by decide))).V (k := 3) (v := rj_i (s 1)) (by decide) fX11_76 (rj_vi (hR.t (hli.le (by decide))).n1) dX11_coarse_41 ?_
                refine go_icmp_geI (tgt := 96) (by omega) (by omega) dX11_coarse_44 (by decide) (fun c_44 => ?_) (fun c_44 => ?_)
                · have hr : r = sp_k2 s k st 7 0 := by rw [← hT, sp_k2, decide_eq_false (by omega), Bool.false_and, Bool.or_false]
                  rw [sp_k2_cs] at hr
                  refine go_iload dX11_coarse_96 4 rfl ?_
                  refine go_if_neB (tgt := 107) dX11_coarse_98 (by decide) (fun c_98 => ?_) (fun c_98 => ?_)
                  · refine go_iincI (a := (k : Int)) (n := 1) (k0 := 3) (lv' := [(0, .ref cb), (1, rj_i (st : Int)), (2, rj_i (sp_bits (sp_coaB s st) k)), (3, rj_i ((k : Int) + 1)), (4, rj_i (rj_b (r = true))), (5, rj_i (p : Int))]) rfl (by decide) rfl dX11_coarse_107 ?_
                    refine go_goto (tgt := 18) dX11_coarse_110 (by decide) ?_
                    refine go_sub (lv' := [(0, .ref cb), (1, rj_i (st : Int)), (2, rj_i (sp_bits (sp_coaB s st) k)), (3, rj_i ((k : Int) + 1))]) (by intro q hq; simp only [List.mem_cons, List.not_mem_nil, or_false] at hq ⊢; rcases hq with rfl | rfl | rfl | rfl <;> simp) ?_
                    exact go_eq rfl (lv' := [(0, .ref cb), (1, rj_i (st : Int)), (2, rj_i (sp_bits (sp_coaB s st) (k + 1))), (3, rj_i ((k + 1 : Nat) : Int))]) (rj_lk (rj_lk (rj_lj (by rw [sp_bits, if_neg (by unfold sp_coaB; rw [← hr, c_98]; decide)]; omega) (rj_lj (by omega) rfl)))) rfl rfl (ih (k + 1) cli (by omega) hli)
                  · refine go_iload_n dX11_coarse_101 rfl 2 rfl ?_
                    refine go_iconst (v := Int32.ofInt 1) dX11_coarse_102 rfl ?_
                    refine go_iload_n dX11_coarse_103 rfl 3 rfl ?_
                    refine go_shl1 (k := k) (by omega) dX11_coarse_104 ?_
                    refine go_orI ⟨k, by omega, (sp_bits_b (sp_coaB s st) k).1, (sp_bits_b (sp_coaB s st) k).2, by simp⟩ dX11_coarse_105 ?_
                    refine go_istore_nS (lv' := [(0, .ref cb), (1, rj_i (st : Int)), (2, rj_i ((sp_bits (sp_coaB s st) k) + (2 ^ k))), (3, rj_i (k : Int)), (4, rj_i (rj_b (r = true))), (5, rj_i (p : Int))]) rfl (by decide) rfl dX11_coarse_106 ?_
                    refine go_iincI (a := (k : Int)) (n := 1) (k0 := 3) (lv' := [(0, .ref cb), (1, rj_i (st : Int)), (2, rj_i ((sp_bits (sp_coaB s st) k) + (2 ^ k))), (3, rj_i ((k : Int) + 1)), (4, rj_i (rj_b (r = true))), (5, rj_i (p : Int))]) rfl (by decide) rfl dX11_coarse_107 ?_
                    refine go_goto (tgt := 18) dX11_coarse_110 (by decide) ?_
                    refine go_sub (lv' := [(0, .ref cb), (1, rj_i (st : Int)), (2, rj_i ((sp_bits (sp_coaB s st) k) + (2 ^ k))), (3, rj_i ((k : Int) + 1))]) (by intro q hq; simp only [List.mem_cons, List.not_mem_nil, or_false] at hq ⊢; rcases hq with rfl | rfl | rfl | rfl <;> simp) ?_
                    exact go_eq rfl (lv' := [(0, .ref cb), (1, rj_i (st : Int)), (2, rj_i (sp_bits (sp_coaB s st) (k + 1))), (3, rj_i ((k + 1 : Nat) : Int))]) (rj_lk (rj_lk (rj_lj (by rw [sp_bits, if_pos (by unfold sp_coaB; rw [← hr, Bool.eq_false_iff.mpr c_98]; rfl)]) (rj_lj (by omega) rfl)))) rfl rfl (ih (k + 1) cli (by omega) hli)
                · refine go_iload dX11_coarse_47 4 rfl ?_
                  refine go_if_neB (tgt := 80) dX11_coarse_49 (by decide) (fun c_49 => ?_) (fun c_49 => ?_)
                  · refine go_iconst (v := Int32.ofInt 1) dX11_coarse_80 rfl ?_
                    refine go_goto (tgt := 85) dX11_coarse_81 (by decide) ?_
                    refine go_istoreS (lv' := [(0, .ref cb), (1, rj_i (st : Int)), (2, rj_i (sp_bits (sp_coaB s st) k)), (3, rj_i (k : Int)), (4, rj_i 1), (5, rj_i (p : Int))]) (by decide) rfl dX11_coarse_85 ?_
                    refine go_iload dX11_coarse_87 5 rfl ?_
                    refine go_iload_n dX11_coarse_89 rfl 1 rfl ?_
                    refine go_addI dX11_coarse_90 ?_
                    refine go_istoreS (lv' := [(0, .ref cb), (1, rj_i (st : Int)), (2, rj_i (sp_bits (sp_coaB s st) k)), (3, rj_i (k : Int)), (4, rj_i 1), (5, rj_i ((p : Int) + (st : Int)))]) (by decide) rfl dX11_coarse_91 ?_
                    refine go_goto (tgt := 35) dX11_coarse_93 (by decide) ?_
                    exact go_eq rfl (lv' := [(0, .ref cb), (1, rj_i (st : Int)), (2, rj_i (sp_bits (sp_coaB s st) k)), (3, rj_i (k : Int)), (4, rj_i (rj_b (true = true))), (5, rj_i ((p + st : Nat) : Int))]) (rj_lk (rj_lk (rj_lk (rj_lk (rj_lj (rfl) (rj_lj (by omega) rfl)))))) rfl rfl (ihf (p + st) true cli (by omega) (by omega) hli (by rw [← hT, c_49, Bool.true_or, Bool.true_or]))
                  · refine go_aload_n dX11_coarse_52 rfl 0 rfl ?_
                    refine rc_gx (hR.t (hli.le (by decide))).V (k := 0) (by decide) fX11_12 rfl dX11_coarse_53 ?_
                    refine go_aload_n dX11_coarse_56 rfl 0 rfl ?_
                    refine rc_gx (hR.t (hli.le (by decide))).V (k := 0) (by decide) fX11_12 rfl dX11_coarse_57 ?_
                    refine rc_gs (hR.t (hli.le (by decide))).V (k := 0) (v := .ref (cb + 2)) (by decide) fX11_64 rfl dX11_coarse_60 ?_
                    refine go_iload_n dX11_coarse_63 rfl 3 rfl ?_
                    refine rc_em (hR.t (hli.le (by decide))) (m := (k : Int)) (by omega) (by omega) h0 dX11_coarse_64 ?_
                    refine go_iload dX11_coarse_65 5 rfl ?_
                    refine go_aload_n dX11_coarse_67 rfl 0 rfl ?_
                    refine rc_gx (hR.t (hli.le (by decide))).V (k := 0) (by decide) fX11_12 rfl dX11_coarse_68 ?_
                    refine rc_gs (hR.t (hli.le (by decide))).V (k := 11) (v := rj_i (s 4)) (by decide) fX11_136 (rj_vi (hR.t (hli.le (by decide))).n4) dX11_coarse_71 ?_
                    refine go_callV (d1 := d - 1) wVX11_139 kX5 (rc_a1 (hR.t (hli.le (by decide))).V) rfl (by omega) (x_can (m := (k : Int)) (p := (p : Int)) (D := s 4) (by omega) (hR.t (hli.le (by decide))) hI (by omega) (by omega) (by omega)) rfl (Nat.le_of_ble_eq_true rfl) dX11_coarse_74 (fun w σ1 hP9 => ?_)
                    obtain ⟨rfl, c81, hc81, rfl⟩ := hP9
                    have hr81 : rc_t 92 c c81 := hli.tr hc81
                    refine go_if_eqI (tgt := 84) (by have := sp_bits_b (fun q7 => sp_can s (s 4) (k : Int) (p : Int) q7) 8; omega) dX11_coarse_77 (by decide) (fun c_77 => ?_) (fun c_77 => ?_)
                    · refine go_iconst (v := Int32.ofInt 0) dX11_coarse_84 rfl ?_
                      refine go_istoreS (lv' := [(0, .ref cb), (1, rj_i (st : Int)), (2, rj_i (sp_bits (sp_coaB s st) k)), (3, rj_i (k : Int)), (4, rj_i 0), (5, rj_i (p : Int))]) (by decide) rfl dX11_coarse_85 ?_
                      refine go_iload dX11_coarse_87 5 rfl ?_
                      refine go_iload_n dX11_coarse_89 rfl 1 rfl ?_
                      refine go_addI dX11_coarse_90 ?_
                      refine go_istoreS (lv' := [(0, .ref cb), (1, rj_i (st : Int)), (2, rj_i (sp_bits (sp_coaB s st) k)), (3, rj_i (k : Int)), (4, rj_i 0), (5, rj_i ((p : Int) + (st : Int)))]) (by decide) rfl dX11_coarse_91 ?_
                      refine go_goto (tgt := 35) dX11_coarse_93 (by decide) ?_
                      exact go_eq rfl (lv' := [(0, .ref cb), (1, rj_i (st : Int)), (2, rj_i (sp_bits (sp_coaB s st) k)), (3, rj_i (k : Int)), (4, rj_i (rj_b (false = true))), (5, rj_i ((p + st : Nat) : Int))]) (rj_lk (rj_lk (rj_lk (rj_lk (rj_lj (rfl) (rj_lj (by omega) rfl)))))) rfl rfl (ihf (p + st) false c81 (by omega) (by omega) hr81 (by rw [← hT, Bool.eq_false_iff.mpr c_49, sp_k2, decide_eq_true (show (p : Int) < s 1 by omega), decide_eq_false (by simpa using c_77)]; simp only [Bool.true_or, Bool.false_or, Bool.true_and]))
                    · refine go_iconst (v := Int32.ofInt 1) dX11_coarse_80 rfl ?_
                      refine go_goto (tgt := 85) dX11_coarse_81 (by decide) ?_
                      refine go_istoreS (lv' := [(0, .ref cb), (1, rj_i (st : Int)), (2, rj_i (sp_bits (sp_coaB s st) k)), (3, rj_i (k : Int)), (4, rj_i 1), (5, rj_i (p : Int))]) (by decide) rfl dX11_coarse_85 ?_
                      refine go_iload dX11_coarse_87 5 rfl ?_
                      refine go_iload_n dX11_coarse_89 rfl 1 rfl ?_
                      refine go_addI dX11_coarse_90 ?_
                      refine go_istoreS (lv' := [(0, .ref cb), (1, rj_i (st : Int)), (2, rj_i (sp_bits (sp_coaB s st) k)), (3, rj_i (k : Int)), (4, rj_i 1), (5, rj_i ((p : Int) + (st : Int)))]) (by decide) rfl dX11_coarse_91 ?_
                      refine go_goto (tgt := 35) dX11_coarse_93 (by decide) ?_
                      exact go_eq rfl (lv' := [(0, .ref cb), (1, rj_i (st : Int)), (2, rj_i (sp_bits (sp_coaB s st) k)), (3, rj_i (k : Int)), (4, rj_i (rj_b (true = true))), (5, rj_i ((p + st : Nat) : Int))]) (rj_lk (rj_lk (rj_lk (rj_lk (rj_lj (rfl) (rj_lj (by omega) rfl)))))) rfl rfl (ihf (p + st) true c81 (by omega) (by omega) hr81 (by rw [← hT, Bool.eq_false_iff.mpr c_49, sp_k2, decide_eq_true (show (p : Int) < s 1 by omega), decide_eq_true (by simpa using c_77)]; simp only [Bool.true_or, Bool.false_or, Bool.true_and]))
            exact go_eq rfl (lv' := [(0, .ref cb), (1, rj_i (st : Int)), (2, rj_i (sp_bits (sp_coaB s st) k)), (3, rj_i (k : Int)), (4, rj_i (rj_b (false = true))), (5, rj_i ((0 : Nat) : Int))]) (rj_lk (rj_lk (rj_lk (rj_lk (rj_lj (rfl) (rj_lj (rfl) rfl)))))) rfl rfl (loopi 7 0 false cl (by omega) (by omega) hl (Bool.false_or _))
      exact go_eq rfl (lv' := [(0, .ref cb), (1, rj_i (st : Int)), (2, rj_i (sp_bits (sp_coaB s st) 0)), (3, rj_i ((0 : Nat) : Int))]) (rj_lk (rj_lk (rj_lj (rfl) (rj_lj (rfl) rfl)))) rfl rfl (loop (s 0).toNat 0 c (by omega) rc_t.rf)
    · refine go_bipush (v := Int32.ofInt (-2)) dX11_coarse_11 (by decide) ?_
      refine go_retI rfl rfl ?_ dX11_coarse_13
      exact ⟨rj_vi (by unfold sp_coaF; rw [if_neg (by omega)]), c, rc_t.rf, rfl⟩
