/-! THE CLASS: best -/
/-- what sumBy answers, j rows below a quarter's being filled -/
def sp_sy (s : Int → Int) (m : Int) (j : Nat) (b p : Int) : Int := if sp_nx s m (7 - (j : Int)) b p = true then sp_wt s m p + sp_fo s m j p else -1
def rc_bc (s : Int → Int) (m : Int) (c : rm_R) : Prop := ∀ p : Int, 0 ≤ p → p < s 1 → c 65 p = sp_bits (fun q7 => sp_can s (s 4) m p q7) 8
def rc_bs (s : Int → Int) (m : Int) (c : rm_R) (J : Nat) : Prop := ∀ j : Nat, j ≤ J → ∀ b : Int, -1 ≤ b → b < s 1 → c (67 + (8 - j)) (b + 1) = sp_fo s m j b
def rc_bp (s : Int → Int) (m : Int) (c : rm_R) (j k : Nat) : Prop := ∀ i : Int, 0 ≤ i → i < (k : Int) → c (67 + (7 - j)) i = sp_fo s m (j + 1) (i - 1)
theorem rc_bs.get {s : Int → Int} {m : Int} {c : rm_R} {J j n : Nat} {z b : Int} (h : rc_bs s m c J) (hj : j ≤ J) (hn : n = 67 + (8 - j)) (hz : z = b + 1) (b0 : -1 ≤ b) (b1 : b < s 1) : c n z = sp_fo s m j b := by subst hn; subst hz; exact h j hj b b0 b1
theorem rc_bs.up {s : Int → Int} {m : Int} {c : rm_R} {j k : Nat} (h : rc_bs s m c j) (hp : rc_bp s m c j k) (hk : s 1 + 1 ≤ (k : Int)) (hj : j < 8) : rc_bs s m c (j + 1) := by
  intro i hi b b0 b1
  by_cases h2 : i ≤ j
  · exact h i h2 b b0 b1
  · have e : i = j + 1 := by omega
    subst e
    have := hp (b + 1) (by omega) (by omega)
    rw [show b + 1 - 1 = b by omega] at this
    rw [show 8 - (j + 1) = 7 - j by omega]
    exact this
theorem rc_bs.keep {s : Int → Int} {m : Int} {c c' : rm_R} {j : Nat} (h : rc_bs s m c j) (hk : ∀ i : Nat, i ≤ j → c' (67 + (8 - i)) = c (67 + (8 - i))) : rc_bs s m c' j := fun i hi b b0 b1 => by rw [hk i hi]; exact h i hi b b0 b1
theorem rc_bp.up {s : Int → Int} {m : Int} {c : rm_R} {j k : Nat} {n : Nat} {w z : Int} (h : rc_bp s m c j k) (hn : n = 67 + (7 - j)) (hz : z = (k : Int)) (hw : w = sp_fo s m (j + 1) ((k : Int) - 1)) : rc_bp s m (rm_u c n (rj_up (c n) z w)) j (k + 1) := by
  subst hn; subst hz; subst hw
  intro i i0 i1
  rw [rm_u_eq]
  by_cases hi : i = (k : Int)
  · subst hi; rw [rj_up_eq]
  · rw [rj_up_ne _ _ hi]; exact h i i0 (by omega)
theorem rc_bs.st {s : Int → Int} {m : Int} {c : rm_R} {j n : Nat} {g : Int → Int} (h : rc_bs s m c j) (hn : n = 67 + (7 - j)) (hj : j < 8) : rc_bs s m (rm_u c n g) j := h.keep fun i hi => rm_u_ne _ _ (by omega)
theorem rc_bc.st {s : Int → Int} {m : Int} {c : rm_R} {n : Nat} {g : Int → Int} (h : rc_bc s m c) (hn : 66 ≤ n) : rc_bc s m (rm_u c n g) := fun p a b => by rw [rm_u_ne _ _ (by omega)]; exact h p a b
theorem sp_bmx {s : Int → Int} {m b : Int} {j k : Nat} (h0 : 0 ≤ sp_bm s m (7 - (j : Int)) (sp_fo s m j) b k) : (if sp_bm s m (7 - (j : Int)) (sp_fo s m j) b k < sp_sy s m j b ((k : Int) - 1) then sp_sy s m j b ((k : Int) - 1) else sp_bm s m (7 - (j : Int)) (sp_fo s m j) b k) = sp_bm s m (7 - (j : Int)) (sp_fo s m j) b (k + 1) := by
  rw [sp_bm]
  unfold sp_sy
  by_cases h : sp_nx s m (7 - (j : Int)) b ((k : Int) - 1) = true
  · rw [if_pos h, if_pos h]
  · rw [if_neg h, if_neg h, if_neg (by omega), if_neg (by omega)]
theorem x_fill {X9 : rj_X} {σ : rj_H} {d cb vv vk n L : Nat} {c : rm_R} {v : Int} (hV : rc_V cb vv vk) (hn : rc_fx n = true) (hk : ∀ g, rc_k X9 cb n g = rj_ar X9 0 L g) (hL : L < 100000) (hv : -2147483648 ≤ v ∧ v < 2147483648) : rj_Cl X9 d yJ7_fill_53178 cJ7_fill_53178 4 none [.ref (cb + n), rj_i v] (rc_p X9 cb vv vk c σ) (fun w9 τ => w9 = none ∧ τ = rc_p X9 cb vv vk (rm_u c n (rj_fl (L : Int) v (c n))) σ) := by
  refine (j_fill (a := cb + n) (n := L) (g := c n) (v := v) ((rc_at hV n hn).trans (congrArg some (hk _))) hL hv).mono (fun w τ h => ⟨h.1, ?_⟩)
  rw [h.2]
  exact rc_set hV n hn (hk _)
set_option maxRecDepth 20000 in
/-- x_sumBy -/
theorem x_sumBy {X9 : rj_X} {σ : rj_H} {d cb vv vk : Nat} {c : rm_R} {m : Int} {j : Nat} {b p : Int} (hd : 2 ≤ d) {s : Int → Int} {ad : Nat → Int → Nat} (hR : rc_R X9 cb vv vk c σ s ad) (hI : sp_I s) (hm : 0 ≤ m ∧ m < s 0) (hj : j < 8) (hb : -1 ≤ b ∧ b < s 1) (hp : -1 ≤ p ∧ p < s 1) (hbc : rc_bc s m c) (hbs : rc_bs s m c j) : rj_Cl X9 d yX11_sumBy cX11_sumBy 5 (some .int) [.ref cb, .ref (ad 0 m), rj_i (7 - (j : Int)), rj_i b, rj_i p] (rc_p X9 cb vv vk c σ) (fun w9 τ => w9 = some (rj_i (sp_sy s m j b p)) ∧ τ = rc_p X9 cb vv vk c σ) := by
  obtain ⟨⟨h0, h1, h2, h3, h4, h5, h6, h7⟩, hM, hP, hW, hL, hV⟩ := id hI
  obtain ⟨v1, v2, v3, v4⟩ := id hV
  refine go_call (by decide +kernel) (Nat.le_of_ble_eq_true rfl) ?_
  refine go_eq (pc' := 0) (lv' := [(0, .ref cb), (1, .ref (ad 0 m)), (2, rj_i (7 - (j : Int))), (3, rj_i b), (4, rj_i p)]) (st' := []) rfl rfl rfl rfl ?_
  refine go_iload dX11_sumBy_0 4 rfl ?_
  refine go_if_geI (tgt := 16) (by omega) dX11_sumBy_2 (by decide) (fun c_2 => ?_) (fun c_2 => ?_)
  · refine go_aload_n dX11_sumBy_16 rfl 0 rfl ?_
    refine rc_gx hR.V (k := 4) (by decide) fX11_32 rfl dX11_sumBy_17 ?_
    refine go_iload dX11_sumBy_20 4 rfl ?_
    refine rc_ld hR.V (n := 65) (L := 6) rfl rfl (by omega) (by omega) (by decide) dX11_sumBy_22 ?_
    rw [show c 65 p = sp_bits (fun q7 => sp_can s (s 4) m p q7) 8 from hbc p (by omega) (by omega)]
    refine go_iload_n dX11_sumBy_23 rfl 2 rfl ?_
    refine go_callS (d1 := d - 1) wSX11_225 rfl (by omega) (x_isInM (P := (fun q7 => sp_can s (s 4) m p q7)) (q := (7 - (j : Int))) (by omega)) rfl (Nat.le_of_ble_eq_true rfl) dX11_sumBy_24 (fun w σ1 hP9 => ?_)
    obtain ⟨rfl, rfl⟩ := hP9
    refine go_if_eqB (tgt := 40) dX11_sumBy_27 (by decide) (fun c_27 => ?_) (fun c_27 => ?_)
    · refine go_iconst (v := Int32.ofInt (-1)) dX11_sumBy_40 rfl ?_
      refine go_retI rfl rfl ?_ dX11_sumBy_41
      exact ⟨rj_vi (by unfold sp_sy; rw [if_neg (by unfold sp_nx; rw [decide_eq_false (by omega)]; rw [Bool.eq_false_iff.mpr c_27]; simp)]), rfl⟩
    · refine go_aload_n dX11_sumBy_30 rfl 0 rfl ?_
      refine go_iload_n dX11_sumBy_31 rfl 3 rfl ?_
      refine go_iload dX11_sumBy_32 4 rfl ?_
      refine go_callV (d1 := d - 1) wVX11_320 kX11 (rc_a0 hR.V) rfl (by omega) (x_far (p := b) (q := p) (by omega) (by omega) (by omega) hR hI) rfl (Nat.le_of_ble_eq_true rfl) dX11_sumBy_34 (fun w σ1 hP9 => ?_)
      obtain ⟨rfl, rfl⟩ := hP9
      refine go_if_eqB (tgt := 42) dX11_sumBy_37 (by decide) (fun c_37 => ?_) (fun c_37 => ?_)
      · refine go_aload_n dX11_sumBy_42 rfl 0 rfl ?_
        refine rc_gx hR.V (k := 0) (by decide) fX11_12 rfl dX11_sumBy_43 ?_
        refine rc_gs hR.V (k := 2) (v := .ref (cb + 3)) (by decide) fX11_79 rfl dX11_sumBy_46 ?_
        refine go_iload dX11_sumBy_49 4 rfl ?_
        refine rc_r4 hR.V (z := p) (by omega) (by omega) dX11_sumBy_51 ?_
        refine go_iconst (v := Int32.ofInt 2) dX11_sumBy_52 rfl ?_
        refine rc_ip2 hR (p := p) (by omega) (by omega) h1 dX11_sumBy_53 ?_
        refine go_aload_n dX11_sumBy_54 rfl 1 rfl ?_
        refine rv_lightS (m := m) (hR.mir m (by omega) (by omega)).2 (hM m (by omega) (by omega)).1 (by omega) (Nat.le_of_ble_eq_true rfl) dX11_sumBy_55 ?_
        refine go_mulI dX11_sumBy_58 ?_
        refine go_aload_n dX11_sumBy_59 rfl 0 rfl ?_
        refine rc_gx hR.V (k := 5) (by decide) fX11_38 rfl dX11_sumBy_60 ?_
        refine go_iload_n dX11_sumBy_63 rfl 2 rfl ?_
        refine go_iconst (v := Int32.ofInt 1) dX11_sumBy_64 rfl ?_
        refine go_addI dX11_sumBy_65 ?_
        refine rc_r67 hR.V (z := (7 - (j : Int)) + 1) (by omega) (by omega) dX11_sumBy_66 ?_
        refine go_iload dX11_sumBy_67 4 rfl ?_
        refine go_iconst (v := Int32.ofInt 1) dX11_sumBy_69 rfl ?_
        refine go_addI dX11_sumBy_70 ?_
        refine rc_l67 hR.V (i := ((7 - (j : Int)) + 1)) (by omega) (by omega) (by omega) (by omega) dX11_sumBy_71 ?_
        rw [show c (67 + ((7 - (j : Int)) + 1).toNat) (p + 1) = sp_fo s m j p from hbs.get (Nat.le_refl j) (by omega) (by omega) (by omega) (by omega)]
        refine go_addI dX11_sumBy_72 ?_
        refine go_retI rfl rfl ?_ dX11_sumBy_73
        exact ⟨rj_vi (by unfold sp_sy sp_wt; rw [if_pos (by unfold sp_nx; rw [c_27, Bool.eq_false_iff.mpr c_37]; simp), if_neg (by omega)]), rfl⟩
      · refine go_iconst (v := Int32.ofInt (-1)) dX11_sumBy_40 rfl ?_
        refine go_retI rfl rfl ?_ dX11_sumBy_41
        exact ⟨rj_vi (by unfold sp_sy; rw [if_neg (by unfold sp_nx; rw [decide_eq_false (by omega)]; rw [c_37]; simp)]), rfl⟩
  · have hp0 : p = -1 := by omega
    refine go_aload_n dX11_sumBy_5 rfl 0 rfl ?_
    refine rc_gx hR.V (k := 5) (by decide) fX11_38 rfl dX11_sumBy_6 ?_
    refine go_iload_n dX11_sumBy_9 rfl 2 rfl ?_
    refine go_iconst (v := Int32.ofInt 1) dX11_sumBy_10 rfl ?_
    refine go_addI dX11_sumBy_11 ?_
    refine rc_r67 hR.V (z := (7 - (j : Int)) + 1) (by omega) (by omega) dX11_sumBy_12 ?_
    refine go_iconst (v := Int32.ofInt 0) dX11_sumBy_13 rfl ?_
    refine rc_l67 hR.V (i := ((7 - (j : Int)) + 1)) (by omega) (by omega) (by omega) (by omega) dX11_sumBy_14 ?_
    rw [show c (67 + ((7 - (j : Int)) + 1).toNat) 0 = sp_fo s m j (-1) from hbs.get (Nat.le_refl j) (by omega) (by omega) (by omega) (by omega)]
    refine go_retI rfl rfl ?_ dX11_sumBy_15
    exact ⟨rj_vi (by subst hp0; unfold sp_sy sp_wt; rw [if_pos (by unfold sp_nx; rfl), if_pos rfl]; exact (Int.zero_add _).symm), rfl⟩
set_option maxRecDepth 20000 in
/-- x_firstBest -/
theorem x_firstBest {X9 : rj_X} {σ : rj_H} {d cb vv vk : Nat} {c : rm_R} {m : Int} {j : Nat} {b : Int} (hd : 3 ≤ d) {s : Int → Int} {ad : Nat → Int → Nat} (hR : rc_R X9 cb vv vk c σ s ad) (hI : sp_I s) (hm : 0 ≤ m ∧ m < s 0) (hj : j < 8) (hb : -1 ≤ b ∧ b < s 1) (hbc : rc_bc s m c) (hbs1 : rc_bs s m c (j + 1)) : rj_Cl X9 d yX11_firstBest cX11_firstBest 5 (some .int) [.ref cb, .ref (ad 0 m), rj_i (7 - (j : Int)), rj_i b] (rc_p X9 cb vv vk c σ) (fun w9 τ => w9 = some (rj_i (sp_pk s m j b)) ∧ τ = rc_p X9 cb vv vk c σ) := by
  obtain ⟨⟨h0, h1, h2, h3, h4, h5, h6, h7⟩, hM, hP, hW, hL, hV⟩ := id hI
  obtain ⟨v1, v2, v3, v4⟩ := id hV
  have hw9 : ∀ p : Int, -1 ≤ p → p < s 1 → 0 ≤ sp_wt s m p ∧ sp_wt s m p ≤ 360 := fun p a b => sp_wt_b (by obtain ⟨m1, m2, m3, m4, m5, m6, m7⟩ := hM m (by omega) (by omega); unfold sp_light; split <;> omega) (fun q => by obtain ⟨p1, p2, p3, p4⟩ := hP p q b; omega) a
  have hf9 : ∀ (j : Nat) (b : Int), 0 ≤ sp_fo s m j b ∧ sp_fo s m j b ≤ 360 * (j : Int) := sp_fo_b hw9 h1.1
  have pk9 := sp_pk_at hw9 h1.1 j b
  refine go_call (by decide +kernel) (Nat.le_of_ble_eq_true rfl) ?_
  refine go_eq (pc' := 0) (lv' := [(0, .ref cb), (1, .ref (ad 0 m)), (2, rj_i (7 - (j : Int))), (3, rj_i b)]) (st' := []) rfl rfl rfl rfl ?_
  refine go_iconst (v := Int32.ofInt (-1)) dX11_firstBest_0 rfl ?_
  refine go_istoreS (lv' := [(0, .ref cb), (1, .ref (ad 0 m)), (2, rj_i (7 - (j : Int))), (3, rj_i b), (4, rj_i (-1))]) (by decide) rfl dX11_firstBest_1 ?_
  have loop : ∀ n k : Nat, k + n = (s 1 + 1).toNat → sp_pk s m j b = sp_fs (sp_isB s m j b) n ((k : Int) - 1) → rj_Go X9 yX11_firstBest cX11_firstBest 5 (some .int) d (fun w9 τ => w9 = some (rj_i (sp_pk s m j b)) ∧ τ = rc_p X9 cb vv vk c σ) 3 [(0, .ref cb), (1, .ref (ad 0 m)), (2, rj_i (7 - (j : Int))), (3, rj_i b), (4, rj_i ((k : Int) - 1))] [] (rc_p X9 cb vv vk c σ) := by
    intro n
    induction n with
    | zero =>
      intro k hk hF
      exfalso; have e : sp_fs (sp_isB s m j b) 0 ((k : Int) - 1) = (k : Int) - 1 := rfl; rw [e] at hF; omega
    | succ n ih =>
      intro k hk hF
      have sb9 : -1 ≤ sp_sy s m j b ((k : Int) - 1) ∧ sp_sy s m j b ((k : Int) - 1) ≤ 3240 := by unfold sp_sy; split; (· have := hw9 ((k : Int) - 1) (by omega) (by omega); have := hf9 j ((k : Int) - 1); omega); (· omega)
      have hf1 := hf9 (j + 1) b
      have iff9 : sp_isB s m j b ((k : Int) - 1) = true ↔ sp_sy s m j b ((k : Int) - 1) = sp_fo s m (j + 1) b := by unfold sp_isB sp_sy; by_cases h : sp_nx s m (7 - (j : Int)) b ((k : Int) - 1) = true; (· rw [if_pos h, h, Bool.true_and, decide_eq_true_eq]); (· rw [if_neg h, Bool.eq_false_iff.mpr h]; have := hf9 (j + 1) b; constructor; (· intro q; cases q); (· intro q; omega))
      refine go_iload dX11_firstBest_3 4 rfl ?_
      refine go_aload_n dX11_firstBest_5 rfl 0 rfl ?_
      refine rc_gx hR.V (k := 0) (by decide) fX11_12 rfl dX11_firstBest_6 ?_
      refine rc_gs hR.V (k := 3) (v := rj_i (s 1)) (by decide) fX11_76 (rj_vi hR.n1) dX11_firstBest_9 ?_
      refine go_icmp_geI (tgt := 46) (by omega) (by omega) dX11_firstBest_12 (by decide) (fun c_12 => ?_) (fun c_12 => ?_)
      · exact absurd c_12 (by omega)
      · refine go_aload_n dX11_firstBest_15 rfl 0 rfl ?_
        refine go_aload_n dX11_firstBest_16 rfl 1 rfl ?_
        refine go_iload_n dX11_firstBest_17 rfl 2 rfl ?_
        refine go_iload_n dX11_firstBest_18 rfl 3 rfl ?_
        refine go_iload dX11_firstBest_19 4 rfl ?_
        refine go_callV (d1 := d - 1) wVX11_329 kX11 (rc_a0 hR.V) rfl (by omega) (x_sumBy (m := m) (j := j) (b := b) (p := (k : Int) - 1) (by omega) hR hI (by omega) (by omega) (by omega) (by omega) hbc (fun i hi => hbs1 i (by omega))) rfl (Nat.le_of_ble_eq_true rfl) dX11_firstBest_21 (fun w σ1 hP9 => ?_)
        obtain ⟨rfl, rfl⟩ := hP9
        refine go_aload_n dX11_firstBest_24 rfl 0 rfl ?_
        refine rc_gx hR.V (k := 5) (by decide) fX11_38 rfl dX11_firstBest_25 ?_
        refine go_iload_n dX11_firstBest_28 rfl 2 rfl ?_
        refine rc_r67 hR.V (z := (7 - (j : Int))) (by omega) (by omega) dX11_firstBest_29 ?_
        refine go_iload_n dX11_firstBest_30 rfl 3 rfl ?_
        refine go_iconst (v := Int32.ofInt 1) dX11_firstBest_31 rfl ?_
        refine go_addI dX11_firstBest_32 ?_
        refine rc_l67 hR.V (i := (7 - (j : Int))) (by omega) (by omega) (by omega) (by omega) dX11_firstBest_33 ?_
        rw [show c (67 + (7 - (j : Int)).toNat) (b + 1) = sp_fo s m (j + 1) b from hbs1.get (Nat.le_refl (j + 1)) (by omega) (by omega) (by omega) (by omega)]
        refine go_icmp_neI (tgt := 40) (by omega) (by omega) dX11_firstBest_34 (by decide) (fun c_34 => ?_) (fun c_34 => ?_)
        · refine go_iincI (a := (k : Int) - 1) (n := 1) (k0 := 4) (lv' := [(0, .ref cb), (1, .ref (ad 0 m)), (2, rj_i (7 - (j : Int))), (3, rj_i b), (4, rj_i ((k : Int) - 1 + 1))]) rfl (by decide) rfl dX11_firstBest_40 ?_
          refine go_goto (tgt := 3) dX11_firstBest_43 (by decide) ?_
          exact go_eq rfl (lv' := [(0, .ref cb), (1, .ref (ad 0 m)), (2, rj_i (7 - (j : Int))), (3, rj_i b), (4, rj_i (((k + 1 : Nat) : Int) - 1))]) (rj_lk (rj_lk (rj_lk (rj_lk (rj_lj (by omega) rfl))))) rfl rfl (ih (k + 1) (by omega) (by rw [hF, sp_fs, if_neg (fun q => c_34 (iff9.mp q)), show ((k + 1 : Nat) : Int) - 1 = (k : Int) - 1 + 1 by omega]))
        · refine go_iload dX11_firstBest_37 4 rfl ?_
          refine go_retI rfl rfl ?_ dX11_firstBest_39
          exact ⟨rj_vi (by rw [hF, sp_fs, if_pos (iff9.mpr c_34)]), rfl⟩
  exact go_eq rfl (lv' := [(0, .ref cb), (1, .ref (ad 0 m)), (2, rj_i (7 - (j : Int))), (3, rj_i b), (4, rj_i (((0 : Nat) : Int) - 1))]) (rj_lk (rj_lk (rj_lk (rj_lk (rj_lj (rfl) rfl))))) rfl rfl (loop (s 1 + 1).toNat 0 (by omega) rfl)
set_option maxRecDepth 20000 in
/-- x_bestAt -/
theorem x_bestAt {X9 : rj_X} {σ : rj_H} {d cb vv vk : Nat} {c : rm_R} {m i : Int} (hd : 4 ≤ d) {s : Int → Int} {ad : Nat → Int → Nat} (hR : rc_R X9 cb vv vk c σ s ad) (hI : sp_I s) (hm : 0 ≤ m ∧ m < s 0) (hi : 0 ≤ i ∧ i < 8) (hbc : rc_bc s m c) (hbs8 : rc_bs s m c 8) : rj_Cl X9 d yX11_bestAt cX11_bestAt 5 (some .int) [.ref cb, .ref (ad 0 m), rj_i i] (rc_p X9 cb vv vk c σ) (fun w9 τ => w9 = some (rj_i (sp_bf s m (i.toNat + 1))) ∧ τ = rc_p X9 cb vv vk c σ) := by
  obtain ⟨⟨h0, h1, h2, h3, h4, h5, h6, h7⟩, hM, hP, hW, hL, hV⟩ := id hI
  obtain ⟨v1, v2, v3, v4⟩ := id hV
  have hw9 : ∀ p : Int, -1 ≤ p → p < s 1 → 0 ≤ sp_wt s m p ∧ sp_wt s m p ≤ 360 := fun p a b => sp_wt_b (by obtain ⟨m1, m2, m3, m4, m5, m6, m7⟩ := hM m (by omega) (by omega); unfold sp_light; split <;> omega) (fun q => by obtain ⟨p1, p2, p3, p4⟩ := hP p q b; omega) a
  refine go_call (by decide +kernel) (Nat.le_of_ble_eq_true rfl) ?_
  refine go_eq (pc' := 0) (lv' := [(0, .ref cb), (1, .ref (ad 0 m)), (2, rj_i i)]) (st' := []) rfl rfl rfl rfl ?_
  refine go_iconst (v := Int32.ofInt (-1)) dX11_bestAt_0 rfl ?_
  refine go_istore_nS (lv' := [(0, .ref cb), (1, .ref (ad 0 m)), (2, rj_i i), (3, rj_i (-1))]) rfl (by decide) rfl dX11_bestAt_1 ?_
  refine go_iconst (v := Int32.ofInt 0) dX11_bestAt_2 rfl ?_
  refine go_istoreS (lv' := [(0, .ref cb), (1, .ref (ad 0 m)), (2, rj_i i), (3, rj_i (-1)), (4, rj_i 0)]) (by decide) rfl dX11_bestAt_3 ?_
  have loop : ∀ n k : Nat, k + n = (i + 1).toNat → rj_Go X9 yX11_bestAt cX11_bestAt 5 (some .int) d (fun w9 τ => w9 = some (rj_i (sp_bf s m (i.toNat + 1))) ∧ τ = rc_p X9 cb vv vk c σ) 5 [(0, .ref cb), (1, .ref (ad 0 m)), (2, rj_i i), (3, rj_i (sp_bf s m k)), (4, rj_i (k : Int))] [] (rc_p X9 cb vv vk c σ) := by
    intro n
    induction n with
    | zero =>
      intro k hk 
      refine go_iload dX11_bestAt_5 4 rfl ?_
      refine go_iload_n dX11_bestAt_7 rfl 2 rfl ?_
      refine go_icmp_gtI (tgt := 26) (by omega) (by omega) dX11_bestAt_8 (by decide) (fun c_8 => ?_) (fun c_8 => ?_)
      · refine go_iload_n dX11_bestAt_26 rfl 3 rfl ?_
        refine go_retI rfl rfl ?_ dX11_bestAt_27
        exact ⟨rj_vi (by rw [show i.toNat + 1 = k by omega]), rfl⟩
      · exact absurd c_8 (by omega)
    | succ n ih =>
      intro k hk 
      have bf9 := sp_bf_b hw9 h1.1 k
      refine go_iload dX11_bestAt_5 4 rfl ?_
      refine go_iload_n dX11_bestAt_7 rfl 2 rfl ?_
      refine go_icmp_gtI (tgt := 26) (by omega) (by omega) dX11_bestAt_8 (by decide) (fun c_8 => ?_) (fun c_8 => ?_)
      · exact absurd c_8 (by omega)
      · refine go_aload_n dX11_bestAt_11 rfl 0 rfl ?_
        refine go_aload_n dX11_bestAt_12 rfl 1 rfl ?_
        refine go_iload dX11_bestAt_13 4 rfl ?_
        refine go_iload_n dX11_bestAt_15 rfl 3 rfl ?_
        refine go_callV (d1 := d - 1) wVX11_338 kX11 (rc_a0 hR.V) rfl (by omega) ((show (7 - ((7 - k : Nat) : Int)) = (k : Int) by omega) ▸ x_firstBest (m := m) (j := 7 - k) (b := sp_bf s m k) (by omega) hR hI (by omega) (by omega) (by omega) hbc (fun i hi => hbs8 i (by omega))) rfl (Nat.le_of_ble_eq_true rfl) dX11_bestAt_16 (fun w σ1 hP9 => ?_)
        obtain ⟨rfl, rfl⟩ := hP9
        refine go_istore_nS (lv' := [(0, .ref cb), (1, .ref (ad 0 m)), (2, rj_i i), (3, rj_i (sp_pk s m (7 - k) (sp_bf s m k))), (4, rj_i (k : Int))]) rfl (by decide) rfl dX11_bestAt_19 ?_
        refine go_iincI (a := (k : Int)) (n := 1) (k0 := 4) (lv' := [(0, .ref cb), (1, .ref (ad 0 m)), (2, rj_i i), (3, rj_i (sp_pk s m (7 - k) (sp_bf s m k))), (4, rj_i ((k : Int) + 1))]) rfl (by decide) rfl dX11_bestAt_20 ?_
        refine go_goto (tgt := 5) dX11_bestAt_23 (by decide) ?_
        exact go_eq rfl (lv' := [(0, .ref cb), (1, .ref (ad 0 m)), (2, rj_i i), (3, rj_i (sp_bf s m (k + 1))), (4, rj_i ((k + 1 : Nat) : Int))]) (rj_lk (rj_lk (rj_lk (rj_lj (rfl) (rj_lj (by omega) rfl))))) rfl rfl (ih (k + 1) (by omega))
  exact go_eq rfl (lv' := [(0, .ref cb), (1, .ref (ad 0 m)), (2, rj_i i), (3, rj_i (sp_bf s m 0)), (4, rj_i ((0 : Nat) : Int))]) (rj_lk (rj_lk (rj_lk (rj_lj (rfl) (rj_lj (rfl) rfl))))) rfl rfl (loop (i + 1).toNat 0 (by omega))
set_option maxRecDepth 20000 in
set_option maxHeartbeats 2000000 in
/-- x_sumFB -/
theorem x_sumFB {X9 : rj_X} {σ : rj_H} {d cb vv vk : Nat} {c : rm_R} {m : Int} (hd : 5 ≤ d) {s : Int → Int} {ad : Nat → Int → Nat} (hR : rc_R X9 cb vv vk c σ s ad) (hI : sp_I s) (hm : 0 ≤ m ∧ m < s 0) : rj_Cl X9 d yX11_sumFromBehind cX11_sumFromBehind 6 none [.ref cb, .ref (ad 0 m)] (rc_p X9 cb vv vk c σ) (fun w9 τ => w9 = none ∧ ∃ c0, rc_t 65 c c0 ∧ rc_bc s m c0 ∧ rc_bs s m c0 8 ∧ τ = rc_p X9 cb vv vk c0 σ) := by
  obtain ⟨⟨h0, h1, h2, h3, h4, h5, h6, h7⟩, hM, hP, hW, hL, hV⟩ := id hI
  obtain ⟨v1, v2, v3, v4⟩ := id hV
  have hw9 : ∀ p : Int, -1 ≤ p → p < s 1 → 0 ≤ sp_wt s m p ∧ sp_wt s m p ≤ 360 := fun p a b => sp_wt_b (by obtain ⟨m1, m2, m3, m4, m5, m6, m7⟩ := hM m (by omega) (by omega); unfold sp_light; split <;> omega) (fun q => by obtain ⟨p1, p2, p3, p4⟩ := hP p q b; omega) a
  have hf9 : ∀ (j : Nat) (b : Int), 0 ≤ sp_fo s m j b ∧ sp_fo s m j b ≤ 360 * (j : Int) := sp_fo_b hw9 h1.1
  refine go_call (by decide +kernel) (Nat.le_of_ble_eq_true rfl) ?_
  refine go_eq (pc' := 0) (lv' := [(0, .ref cb), (1, .ref (ad 0 m))]) (st' := []) rfl rfl rfl rfl ?_
  refine go_iconst (v := Int32.ofInt 0) dX11_sumFromBehind_0 rfl ?_
  refine go_istore_nS (lv' := [(0, .ref cb), (1, .ref (ad 0 m)), (2, rj_i 0)]) rfl (by decide) rfl dX11_sumFromBehind_1 ?_
  have loop : ∀ (n2 k : Nat) (cl : rm_R), k + n2 = (s 1).toNat → rc_t 65 c cl → (∀ p : Int, 0 ≤ p → p < (k : Int) → cl 65 p = sp_bits (fun q7 => sp_can s (s 4) m p q7) 8) → rj_Go X9 yX11_sumFromBehind cX11_sumFromBehind 6 none d (fun w9 τ => w9 = none ∧ ∃ c0, rc_t 65 c c0 ∧ rc_bc s m c0 ∧ rc_bs s m c0 8 ∧ τ = rc_p X9 cb vv vk c0 σ) 2 [(0, .ref cb), (1, .ref (ad 0 m)), (2, rj_i (k : Int))] [] (rc_p X9 cb vv vk cl σ) := by
    intro n2
    induction n2 with
    | zero =>
      intro k cl hk hl hA
      refine go_iload_n dX11_sumFromBehind_2 rfl 2 rfl ?_
      refine go_aload_n dX11_sumFromBehind_3 rfl 0 rfl ?_
      refine rc_gx (hR.t hl).V (k := 0) (by decide) fX11_12 rfl dX11_sumFromBehind_4 ?_
      refine rc_gs (hR.t hl).V (k := 3) (v := rj_i (s 1)) (by decide) fX11_76 (rj_vi (hR.t hl).n1) dX11_sumFromBehind_7 ?_
      refine go_icmp_geI (tgt := 41) (by omega) (by omega) dX11_sumFromBehind_10 (by decide) (fun c_10 => ?_) (fun c_10 => ?_)
      · refine go_aload_n dX11_sumFromBehind_41 rfl 0 rfl ?_
        refine rc_gx (hR.t hl).V (k := 5) (by decide) fX11_38 rfl dX11_sumFromBehind_42 ?_
        refine go_bipush (v := Int32.ofInt 8) dX11_sumFromBehind_45 (by decide) ?_
        refine rc_r67 (hR.t hl).V (z := 8) (by omega) (by omega) dX11_sumFromBehind_47 ?_
        refine go_iconst (v := Int32.ofInt 0) dX11_sumFromBehind_48 rfl ?_
        refine go_callS (d1 := d - 1) wSX11_249 rfl (by omega) (x_fill (n := 75) (L := 7) (hR.t hl).V rfl (fun _ => rfl) (by decide) (by omega)) rfl (Nat.le_of_ble_eq_true rfl) dX11_sumFromBehind_49 (fun w σ1 hP9 => ?_)
        obtain ⟨rfl, rfl⟩ := hP9
        refine go_bipush (v := Int32.ofInt 7) dX11_sumFromBehind_52 (by decide) ?_
        refine go_istore_nS (lv' := [(0, .ref cb), (1, .ref (ad 0 m)), (2, rj_i 7)]) rfl (by decide) rfl dX11_sumFromBehind_54 ?_
        have loopb : ∀ (nb : Nat) (j : Nat) (clb : rm_R), j + nb = 8 → rc_t 65 c clb → rc_bc s m clb → rc_bs s m clb j → rj_Go X9 yX11_sumFromBehind cX11_sumFromBehind 6 none d (fun w9 τ => w9 = none ∧ ∃ c0, rc_t 65 c c0 ∧ rc_bc s m c0 ∧ rc_bs s m c0 8 ∧ τ = rc_p X9 cb vv vk c0 σ) 55 [(0, .ref cb), (1, .ref (ad 0 m)), (2, rj_i (7 - (j : Int)))] [] (rc_p X9 cb vv vk clb σ) := by
          intro nb
          induction nb with
          | zero =>
            intro j clb hkb hlb hbcb hbsb
            refine go_iload_n dX11_sumFromBehind_55 rfl 2 rfl ?_
            refine go_if_ltI (tgt := 136) (by omega) dX11_sumFromBehind_56 (by decide) (fun c_56 => ?_) (fun c_56 => ?_)
            · refine go_retV rfl ?_ dX11_sumFromBehind_136
              exact ⟨rfl, clb, hlb, hbcb, (show j = 8 by omega) ▸ hbsb, rfl⟩
            · exact absurd c_56 (by omega)
          | succ nb ihb =>
            intro j clb hkb hlb hbcb hbsb
            refine go_iload_n dX11_sumFromBehind_55 rfl 2 rfl ?_
            refine go_if_ltI (tgt := 136) (by omega) dX11_sumFromBehind_56 (by decide) (fun c_56 => ?_) (fun c_56 => ?_)
            · exact absurd c_56 (by omega)
            · refine go_iconst (v := Int32.ofInt (-1)) dX11_sumFromBehind_59 rfl ?_
              refine go_istore_nS (lv' := [(0, .ref cb), (1, .ref (ad 0 m)), (2, rj_i (7 - (j : Int))), (3, rj_i (-1))]) rfl (by decide) rfl dX11_sumFromBehind_60 ?_
              have loopc : ∀ (nc : Nat) (kc : Nat) (clc : rm_R), kc + nc = (s 1 + 1).toNat → rc_t 65 c clc → rc_bc s m clc → rc_bs s m clc j → rc_bp s m clc j kc → rj_Go X9 yX11_sumFromBehind cX11_sumFromBehind 6 none d (fun w9 τ => w9 = none ∧ ∃ c0, rc_t 65 c c0 ∧ rc_bc s m c0 ∧ rc_bs s m c0 8 ∧ τ = rc_p X9 cb vv vk c0 σ) 61 [(0, .ref cb), (1, .ref (ad 0 m)), (2, rj_i (7 - (j : Int))), (3, rj_i ((kc : Int) - 1))] [] (rc_p X9 cb vv vk clc σ) := by
                intro nc
                induction nc with
                | zero =>
                  intro kc clc hkc hlc hbcc hbsc hbpc
                  refine go_iload_n dX11_sumFromBehind_61 rfl 3 rfl ?_
                  refine go_aload_n dX11_sumFromBehind_62 rfl 0 rfl ?_
                  refine rc_gx (hR.t hlc).V (k := 0) (by decide) fX11_12 rfl dX11_sumFromBehind_63 ?_
                  refine rc_gs (hR.t hlc).V (k := 3) (v := rj_i (s 1)) (by decide) fX11_76 (rj_vi (hR.t hlc).n1) dX11_sumFromBehind_66 ?_
                  refine go_icmp_geI (tgt := 130) (by omega) (by omega) dX11_sumFromBehind_69 (by decide) (fun c_69 => ?_) (fun c_69 => ?_)
                  · refine go_iincI (a := 7 - (j : Int)) (n := -1) (k0 := 2) (lv' := [(0, .ref cb), (1, .ref (ad 0 m)), (2, rj_i (7 - (j : Int) + (-1))), (3, rj_i ((kc : Int) - 1))]) rfl (by decide) rfl dX11_sumFromBehind_130 ?_
                    refine go_goto (tgt := 55) dX11_sumFromBehind_133 (by decide) ?_
                    refine go_sub (lv' := [(0, .ref cb), (1, .ref (ad 0 m)), (2, rj_i (7 - (j : Int) + (-1)))]) (by intro q hq; simp only [List.mem_cons, List.not_mem_nil, or_false] at hq ⊢; rcases hq with rfl | rfl | rfl <;> simp) ?_
                    exact go_eq rfl (lv' := [(0, .ref cb), (1, .ref (ad 0 m)), (2, rj_i (7 - ((j + 1 : Nat) : Int)))]) (rj_lk (rj_lk (rj_lj (by omega) rfl))) rfl rfl (ihb (j + 1) clc (by omega) hlc hbcc (hbsc.up hbpc (by omega) (by omega)))
                  · exact absurd c_69 (by omega)
                | succ nc ihc =>
                  intro kc clc hkc hlc hbcc hbsc hbpc
                  refine go_iload_n dX11_sumFromBehind_61 rfl 3 rfl ?_
                  refine go_aload_n dX11_sumFromBehind_62 rfl 0 rfl ?_
                  refine rc_gx (hR.t hlc).V (k := 0) (by decide) fX11_12 rfl dX11_sumFromBehind_63 ?_
                  refine rc_gs (hR.t hlc).V (k := 3) (v := rj_i (s 1)) (by decide) fX11_76 (rj_vi (hR.t hlc).n1) dX11_sumFromBehind_66 ?_
                  refine go_icmp_geI (tgt := 130) (by omega) (by omega) dX11_sumFromBehind_69 (by decide) (fun c_69 => ?_) (fun c_69 => ?_)
                  · exact absurd c_69 (by omega)
                  · refine go_iconst (v := Int32.ofInt 0) dX11_sumFromBehind_72 rfl ?_
                    refine go_istoreS (lv' := [(0, .ref cb), (1, .ref (ad 0 m)), (2, rj_i (7 - (j : Int))), (3, rj_i ((kc : Int) - 1)), (4, rj_i 0)]) (by decide) rfl dX11_sumFromBehind_73 ?_
                    refine go_iconst (v := Int32.ofInt (-1)) dX11_sumFromBehind_75 rfl ?_
                    refine go_istoreS (lv' := [(0, .ref cb), (1, .ref (ad 0 m)), (2, rj_i (7 - (j : Int))), (3, rj_i ((kc : Int) - 1)), (4, rj_i 0), (5, rj_i (-1))]) (by decide) rfl dX11_sumFromBehind_76 ?_
                    have bmb : ∀ kd : Nat, (kd : Int) ≤ s 1 + 1 → 0 ≤ sp_bm s m (7 - (j : Int)) (sp_fo s m j) ((kc : Int) - 1) kd ∧ sp_bm s m (7 - (j : Int)) (sp_fo s m j) ((kc : Int) - 1) kd ≤ 3240 := fun kd hkd => by rcases sp_bm_b (q := 7 - (j : Int)) (b := (kc : Int) - 1) (G := sp_fo s m j) (B := 2880) hw9 (fun p a b => by have := hf9 j p; omega) kd hkd with h | h; (· omega); (· subst h; simp [sp_bm])
                    have loopd : ∀ (nd : Nat) (kd : Nat), kd + nd = (s 1 + 1).toNat → rj_Go X9 yX11_sumFromBehind cX11_sumFromBehind 6 none d (fun w9 τ => w9 = none ∧ ∃ c0, rc_t 65 c c0 ∧ rc_bc s m c0 ∧ rc_bs s m c0 8 ∧ τ = rc_p X9 cb vv vk c0 σ) 78 [(0, .ref cb), (1, .ref (ad 0 m)), (2, rj_i (7 - (j : Int))), (3, rj_i ((kc : Int) - 1)), (4, rj_i (sp_bm s m (7 - (j : Int)) (sp_fo s m j) ((kc : Int) - 1) kd)), (5, rj_i ((kd : Int) - 1))] [] (rc_p X9 cb vv vk clc σ) := by
                      intro nd
                      induction nd with
                      | zero =>
                        intro kd hkd
                        have bm1 := bmb kd (by omega)
                        refine go_iload dX11_sumFromBehind_78 5 rfl ?_
                        refine go_aload_n dX11_sumFromBehind_80 rfl 0 rfl ?_
                        refine rc_gx (hR.t hlc).V (k := 0) (by decide) fX11_12 rfl dX11_sumFromBehind_81 ?_
                        refine rc_gs (hR.t hlc).V (k := 3) (v := rj_i (s 1)) (by decide) fX11_76 (rj_vi (hR.t hlc).n1) dX11_sumFromBehind_84 ?_
                        refine go_icmp_geI (tgt := 112) (by omega) (by omega) dX11_sumFromBehind_87 (by decide) (fun c_87 => ?_) (fun c_87 => ?_)
                        · refine go_aload_n dX11_sumFromBehind_112 rfl 0 rfl ?_
                          refine rc_gx (hR.t hlc).V (k := 5) (by decide) fX11_38 rfl dX11_sumFromBehind_113 ?_
                          refine go_iload_n dX11_sumFromBehind_116 rfl 2 rfl ?_
                          refine rc_r67 (hR.t hlc).V (z := 7 - (j : Int)) (by omega) (by omega) dX11_sumFromBehind_117 ?_
                          refine go_iload_n dX11_sumFromBehind_118 rfl 3 rfl ?_
                          refine go_iconst (v := Int32.ofInt 1) dX11_sumFromBehind_119 rfl ?_
                          refine go_addI dX11_sumFromBehind_120 ?_
                          refine go_iload dX11_sumFromBehind_121 4 rfl ?_
                          refine rc_s67 (hR.t hlc).V (i := (7 - (j : Int))) (by omega) (by omega) (by omega) (by omega) dX11_sumFromBehind_123 ?_
                          refine go_iincI (a := (kc : Int) - 1) (n := 1) (k0 := 3) (lv' := [(0, .ref cb), (1, .ref (ad 0 m)), (2, rj_i (7 - (j : Int))), (3, rj_i ((kc : Int) - 1 + 1)), (4, rj_i (sp_bm s m (7 - (j : Int)) (sp_fo s m j) ((kc : Int) - 1) kd)), (5, rj_i ((kd : Int) - 1))]) rfl (by decide) rfl dX11_sumFromBehind_124 ?_
                          refine go_goto (tgt := 61) dX11_sumFromBehind_127 (by decide) ?_
                          have hkd2 : kd = (s 1 + 1).toNat := by omega
                          refine go_sub (lv' := [(0, .ref cb), (1, .ref (ad 0 m)), (2, rj_i (7 - (j : Int))), (3, rj_i ((kc : Int) - 1 + 1))]) (by intro q hq; simp only [List.mem_cons, List.not_mem_nil, or_false] at hq ⊢; rcases hq with rfl | rfl | rfl | rfl <;> simp) ?_
                          exact go_eq rfl (lv' := [(0, .ref cb), (1, .ref (ad 0 m)), (2, rj_i (7 - (j : Int))), (3, rj_i (((kc + 1 : Nat) : Int) - 1))]) (rj_lk (rj_lk (rj_lk (rj_lj (by omega) rfl)))) rfl rfl (ihc (kc + 1) (rm_u clc (67 + (7 - (j : Int)).toNat) (rj_up (clc (67 + (7 - (j : Int)).toNat)) (((kc : Int) - 1) + 1) (sp_bm s m (7 - (j : Int)) (sp_fo s m j) ((kc : Int) - 1) kd))) (by omega) (hlc.tr (rc_t.u (by omega))) (hbcc.st (by omega)) (hbsc.st (by omega) (by omega)) (hbpc.up (by omega) (by omega) (by rw [hkd2]; rfl)))
                        · exact absurd c_87 (by omega)
                      | succ nd ihd =>
                        intro kd hkd
                        have bm1 := bmb kd (by omega)
                        have sb9 : -1 ≤ sp_sy s m j ((kc : Int) - 1) ((kd : Int) - 1) ∧ sp_sy s m j ((kc : Int) - 1) ((kd : Int) - 1) ≤ 3240 := by unfold sp_sy; split; (· have := hw9 ((kd : Int) - 1) (by omega) (by omega); have := hf9 j ((kd : Int) - 1); omega); (· omega)
                        refine go_iload dX11_sumFromBehind_78 5 rfl ?_
                        refine go_aload_n dX11_sumFromBehind_80 rfl 0 rfl ?_
                        refine rc_gx (hR.t hlc).V (k := 0) (by decide) fX11_12 rfl dX11_sumFromBehind_81 ?_
                        refine rc_gs (hR.t hlc).V (k := 3) (v := rj_i (s 1)) (by decide) fX11_76 (rj_vi (hR.t hlc).n1) dX11_sumFromBehind_84 ?_
                        refine go_icmp_geI (tgt := 112) (by omega) (by omega) dX11_sumFromBehind_87 (by decide) (fun c_87 => ?_) (fun c_87 => ?_)
                        · exact absurd c_87 (by omega)
                        · refine go_iload dX11_sumFromBehind_90 4 rfl ?_
                          refine go_aload_n dX11_sumFromBehind_92 rfl 0 rfl ?_
                          refine go_aload_n dX11_sumFromBehind_93 rfl 1 rfl ?_
                          refine go_iload_n dX11_sumFromBehind_94 rfl 2 rfl ?_
                          refine go_iload_n dX11_sumFromBehind_95 rfl 3 rfl ?_
                          refine go_iload dX11_sumFromBehind_96 5 rfl ?_
                          refine go_callV (d1 := d - 1) wVX11_329 kX11 (rc_a0 (hR.t hlc).V) rfl (by omega) (x_sumBy (m := m) (j := j) (b := (kc : Int) - 1) (p := (kd : Int) - 1) (by omega) (hR.t hlc) hI (by omega) (by omega) (by omega) (by omega) hbcc hbsc) rfl (Nat.le_of_ble_eq_true rfl) dX11_sumFromBehind_98 (fun w σ1 hP9 => ?_)
                          obtain ⟨rfl, rfl⟩ := hP9
                          refine go_mmax (a := sp_bm s m (7 - (j : Int)) (sp_fo s m j) ((kc : Int) - 1) kd) (b := sp_sy s m j ((kc : Int) - 1) ((kd : Int) - 1)) (by omega) (by omega) wSX11_333 (by omega) (Nat.le_of_ble_eq_true rfl) dX11_sumFromBehind_101 ?_
                          refine go_istoreS (lv' := [(0, .ref cb), (1, .ref (ad 0 m)), (2, rj_i (7 - (j : Int))), (3, rj_i ((kc : Int) - 1)), (4, rj_i (if sp_bm s m (7 - (j : Int)) (sp_fo s m j) ((kc : Int) - 1) kd < sp_sy s m j ((kc : Int) - 1) ((kd : Int) - 1) then sp_sy s m j ((kc : Int) - 1) ((kd : Int) - 1) else sp_bm s m (7 - (j : Int)) (sp_fo s m j) ((kc : Int) - 1) kd)), (5, rj_i ((kd : Int) - 1))]) (by decide) rfl dX11_sumFromBehind_104 ?_
                          refine go_iincI (a := (kd : Int) - 1) (n := 1) (k0 := 5) (lv' := [(0, .ref cb), (1, .ref (ad 0 m)), (2, rj_i (7 - (j : Int))), (3, rj_i ((kc : Int) - 1)), (4, rj_i (if sp_bm s m (7 - (j : Int)) (sp_fo s m j) ((kc : Int) - 1) kd < sp_sy s m j ((kc : Int) - 1) ((kd : Int) - 1) then sp_sy s m j ((kc : Int) - 1) ((kd : Int) - 1) else sp_bm s m (7 - (j : Int)) (sp_fo s m j) ((kc : Int) - 1) kd)), (5, rj_i ((kd : Int) - 1 + 1))]) rfl (by decide) rfl dX11_sumFromBehind_106 ?_
                          refine go_goto (tgt := 78) dX11_sumFromBehind_109 (by decide) ?_
                          exact go_eq rfl (lv' := [(0, .ref cb), (1, .ref (ad 0 m)), (2, rj_i (7 - (j : Int))), (3, rj_i ((kc : Int) - 1)), (4, rj_i (sp_bm s m (7 - (j : Int)) (sp_fo s m j) ((kc : Int) - 1) (kd + 1))), (5, rj_i (((kd + 1 : Nat) : Int) - 1))]) (rj_lk (rj_lk (rj_lk (rj_lk (rj_lj (sp_bmx bm1.1) (rj_lj (by omega) rfl)))))) rfl rfl (ihd (kd + 1) (by omega))
                    exact go_eq rfl (lv' := [(0, .ref cb), (1, .ref (ad 0 m)), (2, rj_i (7 - (j : Int))), (3, rj_i ((kc : Int) - 1)), (4, rj_i (sp_bm s m (7 - (j : Int)) (sp_fo s m j) ((kc : Int) - 1) 0)), (5, rj_i (((0 : Nat) : Int) - 1))]) (rj_lk (rj_lk (rj_lk (rj_lk (rj_lj (rfl) (rj_lj (rfl) rfl)))))) rfl rfl (loopd (s 1 + 1).toNat 0 (by omega))
              exact go_eq rfl (lv' := [(0, .ref cb), (1, .ref (ad 0 m)), (2, rj_i (7 - (j : Int))), (3, rj_i (((0 : Nat) : Int) - 1))]) (rj_lk (rj_lk (rj_lk (rj_lj (rfl) rfl)))) rfl rfl (loopc (s 1 + 1).toNat 0 clb (by omega) hlb hbcb hbsb (fun i a b => by omega))
        exact go_eq rfl (lv' := [(0, .ref cb), (1, .ref (ad 0 m)), (2, rj_i (7 - ((0 : Nat) : Int)))]) (rj_lk (rj_lk (rj_lj (rfl) rfl))) rfl rfl (loopb 8 0 (rm_u cl 75 (rj_fl ((7 : Nat) : Int) 0 (cl 75))) (by omega) (hl.tr (rc_t.u (by omega))) (fun p a b => by rw [rm_u_ne _ _ (by decide)]; exact hA p a (by omega)) (fun i hi b b0 b1 => by rw [show i = 0 by omega, show 67 + (8 - 0) = 75 from rfl, rm_u_eq]; unfold rj_fl; rw [if_pos (by omega)]; rfl))
      · exact absurd c_10 (by omega)
    | succ n2 ih =>
      intro k cl hk hl hA
      refine go_iload_n dX11_sumFromBehind_2 rfl 2 rfl ?_
      refine go_aload_n dX11_sumFromBehind_3 rfl 0 rfl ?_
      refine rc_gx (hR.t hl).V (k := 0) (by decide) fX11_12 rfl dX11_sumFromBehind_4 ?_
      refine rc_gs (hR.t hl).V (k := 3) (v := rj_i (s 1)) (by decide) fX11_76 (rj_vi (hR.t hl).n1) dX11_sumFromBehind_7 ?_
      refine go_icmp_geI (tgt := 41) (by omega) (by omega) dX11_sumFromBehind_10 (by decide) (fun c_10 => ?_) (fun c_10 => ?_)
      · exact absurd c_10 (by omega)
      · refine go_aload_n dX11_sumFromBehind_13 rfl 0 rfl ?_
        refine rc_gx (hR.t hl).V (k := 4) (by decide) fX11_32 rfl dX11_sumFromBehind_14 ?_
        refine go_iload_n dX11_sumFromBehind_17 rfl 2 rfl ?_
        refine go_aload_n dX11_sumFromBehind_18 rfl 0 rfl ?_
        refine rc_gx (hR.t hl).V (k := 0) (by decide) fX11_12 rfl dX11_sumFromBehind_19 ?_
        refine go_aload_n dX11_sumFromBehind_22 rfl 1 rfl ?_
        refine go_iload_n dX11_sumFromBehind_23 rfl 2 rfl ?_
        refine go_aload_n dX11_sumFromBehind_24 rfl 0 rfl ?_
        refine rc_gx (hR.t hl).V (k := 0) (by decide) fX11_12 rfl dX11_sumFromBehind_25 ?_
        refine rc_gs (hR.t hl).V (k := 11) (v := rj_i (s 4)) (by decide) fX11_136 (rj_vi (hR.t hl).n4) dX11_sumFromBehind_28 ?_
        refine go_callV (d1 := d - 1) wVX11_139 kX5 (rc_a1 (hR.t hl).V) rfl (by omega) (x_can (m := m) (p := (k : Int)) (D := s 4) (by omega) (hR.t hl) hI (by omega) (by omega) (by omega)) rfl (Nat.le_of_ble_eq_true rfl) dX11_sumFromBehind_31 (fun w σ1 hP9 => ?_)
        obtain ⟨rfl, c21, hc21, rfl⟩ := hP9
        have hr21 : rc_t 65 c c21 := hl.tr (hc21.le (by decide))
        refine rc_st (hR.t hr21).V (n := 65) (L := 6) rfl (fun _ => rfl) (by omega) (by omega) (by decide) dX11_sumFromBehind_34 ?_
        refine go_iincI (a := (k : Int)) (n := 1) (k0 := 2) (lv' := [(0, .ref cb), (1, .ref (ad 0 m)), (2, rj_i ((k : Int) + 1))]) rfl (by decide) rfl dX11_sumFromBehind_35 ?_
        refine go_goto (tgt := 2) dX11_sumFromBehind_38 (by decide) ?_
        exact go_eq rfl (lv' := [(0, .ref cb), (1, .ref (ad 0 m)), (2, rj_i ((k + 1 : Nat) : Int))]) (rj_lk (rj_lk (rj_lj (by omega) rfl))) rfl rfl (ih (k + 1) (rm_u c21 65 (rj_up (c21 65) (k : Int) (sp_bits (fun q7 => sp_can s (s 4) m (k : Int) q7) 8))) (by omega) (hr21.tr (rc_t.u (by omega))) (by intro p j0 j1; rw [rm_u_eq]; by_cases hj : p = (k : Int); (· subst hj; rw [rj_up_eq]); (· rw [rj_up_ne _ _ hj, hc21 65 (by decide)]; exact hA p j0 (by omega))))
  exact go_eq rfl (lv' := [(0, .ref cb), (1, .ref (ad 0 m)), (2, rj_i ((0 : Nat) : Int))]) (rj_lk (rj_lk (rj_lj (rfl) rfl))) rfl rfl (loop (s 1).toNat 0 c (by omega) rc_t.rf (fun j a b => by omega))
set_option maxRecDepth 20000 in
/-- x_best -/
theorem x_best {X9 : rj_X} {σ : rj_H} {d cb vv vk : Nat} {c : rm_R} {m i : Int} (hd : 6 ≤ d) (hm : -2147483648 ≤ m ∧ m < 2147483648) (hi : -2147483648 ≤ i ∧ i < 2147483648) {s : Int → Int} {ad : Nat → Int → Nat} (hR : rc_R X9 cb vv vk c σ s ad) (hI : sp_I s) : rj_Cl X9 d yX11_best cX11_best 4 (some .int) [.ref cb, rj_i m, rj_i i] (rc_p X9 cb vv vk c σ) (fun w9 τ => w9 = some (rj_i (sp_bestF s m i)) ∧ ∃ c0, rc_t 65 c c0 ∧ τ = rc_p X9 cb vv vk c0 σ) := by
  obtain ⟨⟨h0, h1, h2, h3, h4, h5, h6, h7⟩, hM, hP, hW, hL, hV⟩ := id hI
  obtain ⟨v1, v2, v3, v4⟩ := id hV
  refine go_call (by decide +kernel) (Nat.le_of_ble_eq_true rfl) ?_
  refine go_eq (pc' := 0) (lv' := [(0, .ref cb), (1, rj_i m), (2, rj_i i)]) (st' := []) rfl rfl rfl rfl ?_
  refine go_aload_n dX11_best_0 rfl 0 rfl ?_
  refine rc_gx hR.V (k := 0) (by decide) fX11_12 rfl dX11_best_1 ?_
  refine go_iload_n dX11_best_4 rfl 1 rfl ?_
  by_cases hm : 0 ≤ m ∧ m < s 0
  · refine go_callV (d1 := d - 1) wVX11_94 kX5 (rc_a1 hR.V) rfl (by omega) (x_mirrorAt_y (m := m) (by omega) hR hI hm) rfl (Nat.le_of_ble_eq_true rfl) dX11_best_5 (fun w σ1 hP9 => ?_)
    obtain ⟨rfl, rfl⟩ := hP9
    refine go_astore_nS (lv' := [(0, .ref cb), (1, rj_i m), (2, rj_i i), (3, .ref (ad 0 m))]) rfl (by decide) rfl dX11_best_8 ?_
    refine go_aload_n dX11_best_9 rfl 3 rfl ?_
    refine go_ifnull dX11_best_10 ?_
    refine go_iload_n dX11_best_13 rfl 2 rfl ?_
    refine go_iconst (v := Int32.ofInt (-1)) dX11_best_14 rfl ?_
    refine go_icmp_ltI (tgt := 24) (by omega) (by omega) dX11_best_15 (by decide) (fun c_15 => ?_) (fun c_15 => ?_)
    · refine go_iconst (v := Int32.ofInt (-1)) dX11_best_24 rfl ?_
      refine go_retI rfl rfl ?_ dX11_best_25
      exact ⟨rj_vi (by unfold sp_bestF; rw [if_neg (by omega)]), c, rc_t.rf, rfl⟩
    · refine go_iload_n dX11_best_18 rfl 2 rfl ?_
      refine go_bipush (v := Int32.ofInt 8) dX11_best_19 (by decide) ?_
      refine go_icmp_ltI (tgt := 26) (by omega) (by omega) dX11_best_21 (by decide) (fun c_21 => ?_) (fun c_21 => ?_)
      · refine go_aload_n dX11_best_26 rfl 0 rfl ?_
        refine go_aload_n dX11_best_27 rfl 3 rfl ?_
        refine go_callV (d1 := d - 1) wVX11_172 kX11 (rc_a0 hR.V) rfl (by omega) (x_sumFB (m := m) (by omega) hR hI (by omega)) rfl (Nat.le_of_ble_eq_true rfl) dX11_best_28 (fun w σ1 hP9 => ?_)
        obtain ⟨rfl, c1, hr1, hbc1, hbs1, rfl⟩ := hP9
        refine go_iload_n dX11_best_31 rfl 2 rfl ?_
        refine go_iconst (v := Int32.ofInt (-1)) dX11_best_32 rfl ?_
        refine go_icmp_neI (tgt := 47) (by omega) (by omega) dX11_best_33 (by decide) (fun c_33 => ?_) (fun c_33 => ?_)
        · have hw9 : ∀ p : Int, -1 ≤ p → p < s 1 → 0 ≤ sp_wt s m p ∧ sp_wt s m p ≤ 360 := fun p a b => sp_wt_b (by obtain ⟨m1, m2, m3, m4, m5, m6, m7⟩ := hM m (by omega) (by omega); unfold sp_light; split <;> omega) (fun q => by obtain ⟨p1, p2, p3, p4⟩ := hP p q b; omega) a
          have bf9 := sp_bf_b hw9 h1.1 (i.toNat + 1)
          refine go_aload_n dX11_best_47 rfl 0 rfl ?_
          refine go_aload_n dX11_best_48 rfl 3 rfl ?_
          refine go_iload_n dX11_best_49 rfl 2 rfl ?_
          refine go_callV (d1 := d - 1) wVX11_176 kX11 (rc_a0 (hR.t hr1).V) rfl (by omega) (x_bestAt (m := m) (i := i) (by omega) (hR.t hr1) hI (by omega) (by omega) hbc1 hbs1) rfl (Nat.le_of_ble_eq_true rfl) dX11_best_50 (fun w σ1 hP9 => ?_)
          obtain ⟨rfl, rfl⟩ := hP9
          refine go_callS (d1 := d - 1) wSX11_149 rfl (by omega) (x_orN (v := sp_bf s m (i.toNat + 1)) (by omega)) rfl (Nat.le_of_ble_eq_true rfl) dX11_best_53 (fun w σ1 hP9 => ?_)
          obtain ⟨rfl, rfl⟩ := hP9
          refine go_retI rfl rfl ?_ dX11_best_56
          exact ⟨rj_vi (by unfold sp_bestF; rw [if_pos (by omega : (0 ≤ m ∧ m < s 0) ∧ -1 ≤ i ∧ i ≤ 7), if_neg (by omega : ¬ i = -1)]; (repeat' split) <;> omega), c1, hr1, rfl⟩
        · refine go_aload_n dX11_best_36 rfl 0 rfl ?_
          refine rc_gx (hR.t hr1).V (k := 5) (by decide) fX11_38 rfl dX11_best_37 ?_
          refine go_iconst (v := Int32.ofInt 0) dX11_best_40 rfl ?_
          refine rc_r67 (hR.t hr1).V (z := 0) (by omega) (by omega) dX11_best_41 ?_
          refine go_iconst (v := Int32.ofInt 0) dX11_best_42 rfl ?_
          refine rc_l67 (hR.t hr1).V (i := (0 : Int)) (by omega) (by omega) (by omega) (by omega) dX11_best_43 ?_
          rw [show c1 (67 + (0 : Int).toNat) 0 = sp_fo s m 8 (-1) from hbs1.get (Nat.le_refl 8) rfl rfl (by omega) (by omega)]
          refine go_goto (tgt := 56) dX11_best_44 (by decide) ?_
          refine go_retI rfl rfl ?_ dX11_best_56
          exact ⟨rj_vi (by unfold sp_bestF; rw [if_pos (by omega), if_pos (by omega)]), c1, hr1, rfl⟩
      · refine go_iconst (v := Int32.ofInt (-1)) dX11_best_24 rfl ?_
        refine go_retI rfl rfl ?_ dX11_best_25
        exact ⟨rj_vi (by unfold sp_bestF; rw [if_neg (by omega)]), c, rc_t.rf, rfl⟩
  · refine go_callV (d1 := d - 1) wVX11_94 kX5 (rc_a1 hR.V) rfl (by omega) (x_mirrorAt_n0 (m := m) (by omega) (by omega) hR hI hm) rfl (Nat.le_of_ble_eq_true rfl) dX11_best_5 (fun w σ1 hP9 => ?_)
    obtain ⟨rfl, rfl⟩ := hP9
    refine go_astore_nSN (lv' := [(0, .ref cb), (1, rj_i m), (2, rj_i i), (3, .null)]) rfl (by decide) rfl dX11_best_8 ?_
    refine go_aload_nN dX11_best_9 rfl 3 rfl ?_
    refine go_ifnullN (tgt := 24) dX11_best_10 (by decide) ?_
    refine go_iconst (v := Int32.ofInt (-1)) dX11_best_24 rfl ?_
    refine go_retI rfl rfl ?_ dX11_best_25
    exact ⟨rj_vi (by unfold sp_bestF; rw [if_neg (by omega)]), c, rc_t.rf, rfl⟩
