/-! THE REFERENCE, 23: vote -/
theorem rj_dor2 : ∀ k : Nat, k < 10 → ∀ x : Nat, x < 1024 → nI x ||| nI (2 ^ k) = nI (x ||| 2 ^ k) := by decide +kernel
section BI3
variable {X9 : rj_X} {y9 : MethodName} {cc : ByteArray} {nL : Nat} {rt9 : Option FieldType} {d9 : Nat} {P9 : Option Value → rj_H → Prop} {pc : Nat} {lv : List (Nat × Value)} {rest : List Value} {σ : rj_H}
theorem go_orN {a k : Nat} (ha : a < 1024) (hk : k < 10) (hdg : decode cc pc = .ok (.ior, 1)) (kk : rj_Go X9 y9 cc nL rt9 d9 P9 (pc + 1) lv (rj_i ((a ||| 2 ^ k : Nat) : Int) :: rest) σ) : rj_Go X9 y9 cc nL rt9 d9 P9 pc lv (rj_i (2 ^ k) :: rj_i (a : Int) :: rest) σ := by
  refine go_ior hdg ?_
  have h := rj_dor2 k hk a ha
  rw [rj_nI, rj_nI, rj_nI, rj_n2] at h
  have e : Int32.ofInt (a : Int) ||| Int32.ofInt (2 ^ k) = Int32.ofInt ((a ||| 2 ^ k : Nat) : Int) := h
  rw [e]
  exact kk
theorem go_shlI {k : Int} (hk : 0 ≤ k ∧ k < 31) (hdg : decode cc pc = .ok (.ishl, 1)) (kk : rj_Go X9 y9 cc nL rt9 d9 P9 (pc + 1) lv (rj_i (2 ^ k.toNat) :: rest) σ) : rj_Go X9 y9 cc nL rt9 d9 P9 pc lv (rj_i k :: rj_i 1 :: rest) σ := by
  obtain ⟨n, rfl⟩ := Int.eq_ofNat_of_zero_le hk.1
  exact go_shl1 (by omega) hdg kk
end BI3
/-- what is left of x behind j digits -/
def sp_lf (x : Int) : Nat → Int
  | 0 => x
  | j + 1 => sp_lf x j / 10
def sp_dg (x : Int) (j : Nat) : Int := sp_lf x j % 10
theorem sp_lf_b {x : Int} (h : 0 ≤ x) : ∀ j : Nat, 0 ≤ sp_lf x j ∧ sp_lf x j ≤ x
  | 0 => by rw [sp_lf]; omega
  | j + 1 => by have := sp_lf_b h j; rw [sp_lf]; omega
theorem sp_dg_b (x : Int) (j : Nat) : 0 ≤ sp_dg x j ∧ sp_dg x j < 10 := by unfold sp_dg; omega
/-- the digits that were seen, as bits -/
def sp_seen (x : Int) : Nat → Nat
  | 0 => 0
  | k + 1 => sp_seen x k ||| 2 ^ (sp_dg x k).toNat
theorem sp_seen_b (x : Int) : ∀ k : Nat, sp_seen x k < 1024
  | 0 => by simp [sp_seen]
  | k + 1 => by
    have := sp_dg_b x k
    rw [sp_seen]
    exact Nat.or_lt_two_pow (n := 10) (sp_seen_b x k) (Nat.pow_lt_pow_right (by decide) (by omega))
theorem sp_seen_t (x : Int) : ∀ (k j : Nat), j < k → (sp_seen x k).testBit (sp_dg x j).toNat = true
  | 0, j, h => absurd h (Nat.not_lt_zero j)
  | k + 1, j, h => by
    rw [sp_seen, Nat.testBit_or]
    by_cases e : j = k
    · subst e; rw [Nat.testBit_two_pow_self, Bool.or_true]
    · rw [sp_seen_t x k j (by omega), Bool.true_or]
theorem sp_seen_d {x : Int} {n j : Nat} (h : sp_seen x n = 2 ^ n - 1) (hj : j < n) : sp_dg x j < (n : Int) := by
  have h1 := sp_seen_t x n j hj
  rw [h, Nat.testBit_two_pow_sub_one] at h1
  have h2 := of_decide_eq_true h1
  have := sp_dg_b x j
  omega
/-- a row of votes with j of its places -/
def sp_vtK (s : Int → Int) (x : Int) : Nat → Int → Int
  | 0 => s
  | j + 1 => rj_up (sp_vtK s x j) (999 + 6 * s 5 + sp_dg x j) (s 1 - 1 - (j : Int))
theorem sp_vtK_lo {s : Int → Int} {x i : Int} (h5 : 0 ≤ s 5) (hi : i < 999) : ∀ j : Nat, sp_vtK s x j i = s i
  | 0 => rfl
  | j + 1 => by have := sp_dg_b x j; rw [sp_vtK, rj_up_ne _ _ (by omega)]; exact sp_vtK_lo h5 hi j
abbrev sp_vtOk (s : Int → Int) (x : Int) : Prop := ¬ s 1 = 0 ∧ ¬ (0 < s 5 ∧ s 8 ≠ s 1)
abbrev sp_vtB (s : Int → Int) (x : Int) : Prop := 0 ≤ x ∧ x < 10 ^ (s 1).toNat ∧ sp_seen x (s 1).toNat = 2 ^ (s 1).toNat - 1
def sp_voteF (s : Int → Int) (x : Int) : Int := if ¬ sp_vtOk s x then -3 else if ¬ sp_vtB s x then -2 else if s 5 = 5 then -4 else s 5 + 1
def sp_voteS (s : Int → Int) (x : Int) : Int → Int := if sp_vtOk s x ∧ sp_vtB s x ∧ s 5 ≠ 5 then rj_up (rj_up (sp_vtK s x (s 1).toNat) 8 (s 1)) 5 (s 5 + 1) else s
set_option maxRecDepth 20000 in
/-- m_vote -/
theorem m_vote {X9 : rj_X} {σ : rj_H} {d : Nat} {mb : Nat} {r : rm_R} {x : Int} (hd : 3 ≤ d) (hx : -2147483648 ≤ x ∧ x < 2147483648) {s : Int → Int} (hs : r 1 = s) (hI : sp_I s) (h8 : 0 ≤ s 8 ∧ s 8 ≤ 6) : rj_Cl X9 d yX12_vote cX12_vote 6 (some .int) [.ref mb, rj_i x] (rm_p X9 mb r σ) (fun w9 τ => w9 = some (rj_i (sp_voteF s x)) ∧ ∃ r0, rm_V r r0 (sp_voteS s x) ∧ τ = rm_p X9 mb r0 σ) := by
  obtain ⟨⟨h0, h1, h2, h3, h4, h5, h6, h7⟩, hM, hP, hW, hL, hV⟩ := id hI
  obtain ⟨v1, v2, v3, v4⟩ := id hV
  refine go_call (by decide +kernel) (Nat.le_of_ble_eq_true rfl) ?_
  refine go_eq (pc' := 0) (lv' := [(0, .ref mb), (1, rj_i x)]) (st' := []) rfl rfl rfl rfl ?_
  refine go_aload_n dX12_vote_0 rfl 0 rfl ?_
  refine grm_g1 rfl dX12_vote_1 ?_
  refine go_iconst (v := Int32.ofInt 1) dX12_vote_4 rfl ?_
  refine grm_l1 (by omega) (by omega) dX12_vote_5 ?_
  rw [show r 1 = s from hs]
  refine go_istore_nS (lv' := [(0, .ref mb), (1, rj_i x), (2, rj_i (s 1))]) rfl (by decide) rfl dX12_vote_6 ?_
  refine go_iload_n dX12_vote_7 rfl 2 rfl ?_
  refine go_if_eqI (tgt := 31) (by omega) dX12_vote_8 (by decide) (fun c_8 => ?_) (fun c_8 => ?_)
  · refine go_bipush (v := Int32.ofInt (-3)) dX12_vote_31 (by decide) ?_
    refine go_retI rfl rfl ?_ dX12_vote_33
    exact ⟨rj_vi (by unfold sp_voteF; rw [if_pos (by unfold sp_vtOk; omega)]), r, ⟨((show r 1 = s from hs)).trans (by unfold sp_voteS; rw [if_neg (fun h => absurd h.1 (by unfold sp_vtOk; omega))]), (show r 2 = (r 2) from rfl), (show r 3 0 = (r 3 0) from rfl), (show r 17 = (r 17) from rfl), (show r 18 0 = (r 18 0) from rfl)⟩, rfl⟩
  · refine go_aload_n dX12_vote_11 rfl 0 rfl ?_
    refine grm_g1 rfl dX12_vote_12 ?_
    refine go_iconst (v := Int32.ofInt 5) dX12_vote_15 rfl ?_
    refine grm_l1 (by omega) (by omega) dX12_vote_16 ?_
    rw [show r 1 = s from hs]
    refine go_if_leI (tgt := 34) (by omega) dX12_vote_17 (by decide) (fun c_17 => ?_) (fun c_17 => ?_)
    · have hok : ¬ ¬ sp_vtOk s x := by unfold sp_vtOk; omega
      have pb1 := sp_pow_b2 (c := 10) (by omega) (e := (s 1).toNat) (by omega)
      refine go_iload_n dX12_vote_34 rfl 1 rfl ?_
      refine go_if_ltI (tgt := 50) (by omega) dX12_vote_35 (by decide) (fun c_35 => ?_) (fun c_35 => ?_)
      · refine go_bipush (v := Int32.ofInt (-2)) dX12_vote_50 (by decide) ?_
        refine go_retI rfl rfl ?_ dX12_vote_52
        exact ⟨rj_vi (by unfold sp_voteF; rw [if_neg hok, if_pos (by unfold sp_vtB; omega)]), r, ⟨((show r 1 = s from hs)).trans (by unfold sp_voteS; rw [if_neg (fun h => absurd h.2.1 (by unfold sp_vtB; omega))]), (show r 2 = (r 2) from rfl), (show r 3 0 = (r 3 0) from rfl), (show r 17 = (r 17) from rfl), (show r 18 0 = (r 18 0) from rfl)⟩, rfl⟩
      · refine go_iload_n dX12_vote_38 rfl 1 rfl ?_
        refine go_ldc2 (z := Int64.ofInt 10) (by exact qX12_221) dX12_vote_39 ?_
        refine go_iload_n dX12_vote_42 rfl 2 rfl ?_
        refine go_callS (d1 := d - 1) wSX12_217 rfl (by omega) (m_power (b := 10) (e9 := s 1) (by omega)) rfl (Nat.le_of_ble_eq_true rfl) dX12_vote_43 (fun w σ1 hP => ?_)
        obtain ⟨rfl, rfl⟩ := hP
        refine go_l2iI dX12_vote_46 ?_
        refine go_icmp_ltI (tgt := 53) (by omega) (by omega) dX12_vote_47 (by decide) (fun c_47 => ?_) (fun c_47 => ?_)
        · refine go_iconst (v := Int32.ofInt 0) dX12_vote_53 rfl ?_
          refine go_istore_nS (lv' := [(0, .ref mb), (1, rj_i x), (2, rj_i (s 1)), (3, rj_i 0)]) rfl (by decide) rfl dX12_vote_54 ?_
          refine go_iload_n dX12_vote_55 rfl 1 rfl ?_
          refine go_istoreS (lv' := [(0, .ref mb), (1, rj_i x), (2, rj_i (s 1)), (3, rj_i 0), (4, rj_i x)]) (by decide) rfl dX12_vote_56 ?_
          refine go_iconst (v := Int32.ofInt 0) dX12_vote_58 rfl ?_
          refine go_istoreS (lv' := [(0, .ref mb), (1, rj_i x), (2, rj_i (s 1)), (3, rj_i 0), (4, rj_i x), (5, rj_i 0)]) (by decide) rfl dX12_vote_59 ?_
          obtain ⟨n1, hn1⟩ : ∃ n1, n1 = (s 1).toNat := ⟨_, rfl⟩
          have hp2 : 1 ≤ (2 : Nat) ^ n1 ∧ (2 : Nat) ^ n1 ≤ 64 := ⟨Nat.pow_pos (by decide), Nat.pow_le_pow_right (by decide) (show n1 ≤ 6 by omega)⟩
          have hp3 : (2 : Int) ^ n1 = ((2 ^ n1 : Nat) : Int) := (rj_n2 n1).symm
          have loop : ∀ n k : Nat, k + n = (s 1).toNat → rj_Go X9 yX12_vote cX12_vote 6 (some .int) d (fun w9 τ => w9 = some (rj_i (sp_voteF s x)) ∧ ∃ r0, rm_V r r0 (sp_voteS s x) ∧ τ = rm_p X9 mb r0 σ) 61 [(0, .ref mb), (1, rj_i x), (2, rj_i (s 1)), (3, rj_i ((sp_seen x k : Nat) : Int)), (4, rj_i (sp_lf x k)), (5, rj_i (k : Int))] [] (rm_p X9 mb r σ) := by
            intro n
            induction n with
            | zero =>
              intro k hk 
              refine go_iload dX12_vote_61 5 rfl ?_
              refine go_iload_n dX12_vote_63 rfl 2 rfl ?_
              refine go_icmp_geI (tgt := 90) (by omega) (by omega) dX12_vote_64 (by decide) (fun c_64 => ?_) (fun c_64 => ?_)
              · have ek : k = n1 := by omega
                subst ek
                have sbn := sp_seen_b x k
                have lfb := sp_lf_b (show 0 ≤ x by omega) k
                refine go_iload_n dX12_vote_90 rfl 3 rfl ?_
                refine go_iconst (v := Int32.ofInt 1) dX12_vote_91 rfl ?_
                refine go_iload_n dX12_vote_92 rfl 2 rfl ?_
                refine go_shlI (k := s 1) (by omega) dX12_vote_93 ?_
                rw [← hn1, hp3]
                refine go_iconst (v := Int32.ofInt 1) dX12_vote_94 rfl ?_
                refine go_subI dX12_vote_95 ?_
                refine go_icmp_eqI (tgt := 102) (by omega) (by omega) dX12_vote_96 (by decide) (fun c_96 => ?_) (fun c_96 => ?_)
                · have hsn : sp_seen x k = 2 ^ k - 1 := by omega
                  have hvb : sp_vtB s x := ⟨by omega, by omega, by rw [← hn1]; exact hsn⟩
                  refine go_aload_n dX12_vote_102 rfl 0 rfl ?_
                  refine grm_g1 rfl dX12_vote_103 ?_
                  refine go_iconst (v := Int32.ofInt 5) dX12_vote_106 rfl ?_
                  refine grm_l1 (by omega) (by omega) dX12_vote_107 ?_
                  rw [show r 1 = s from hs]
                  refine go_iconst (v := Int32.ofInt 5) dX12_vote_108 rfl ?_
                  refine go_icmp_neI (tgt := 115) (by omega) (by omega) dX12_vote_109 (by decide) (fun c_109 => ?_) (fun c_109 => ?_)
                  · refine go_iload_n dX12_vote_115 rfl 1 rfl ?_
                    refine go_istoreS (lv' := [(0, .ref mb), (1, rj_i x), (2, rj_i (s 1)), (3, rj_i ((sp_seen x k : Nat) : Int)), (4, rj_i x), (5, rj_i (k : Int))]) (by decide) rfl dX12_vote_116 ?_
                    refine go_iload_n dX12_vote_118 rfl 2 rfl ?_
                    refine go_iconst (v := Int32.ofInt 1) dX12_vote_119 rfl ?_
                    refine go_subI dX12_vote_120 ?_
                    refine go_istoreS (lv' := [(0, .ref mb), (1, rj_i x), (2, rj_i (s 1)), (3, rj_i ((sp_seen x k : Nat) : Int)), (4, rj_i x), (5, rj_i ((s 1) - 1))]) (by decide) rfl dX12_vote_121 ?_
                    have loopb : ∀ (nb k2 : Nat) (rlb : rm_R), k2 + nb = (s 1).toNat → rlb 1 = sp_vtK s x k2 → rlb 2 = (r 2) → rlb 3 0 = (r 3 0) → rlb 17 = (r 17) → rlb 18 0 = (r 18 0) → rj_Go X9 yX12_vote cX12_vote 6 (some .int) d (fun w9 τ => w9 = some (rj_i (sp_voteF s x)) ∧ ∃ r0, rm_V r r0 (sp_voteS s x) ∧ τ = rm_p X9 mb r0 σ) 123 [(0, .ref mb), (1, rj_i x), (2, rj_i (s 1)), (3, rj_i ((sp_seen x k : Nat) : Int)), (4, rj_i (sp_lf x k2)), (5, rj_i (s 1 - 1 - (k2 : Int)))] [] (rm_p X9 mb rlb σ) := by
                      intro nb
                      induction nb with
                      | zero =>
                        intro k2 rlb hkb elb1 elb2 elb3 elb17 elb18
                        refine go_iload dX12_vote_123 5 rfl ?_
                        refine go_if_ltI (tgt := 167) (by omega) dX12_vote_125 (by decide) (fun c_125 => ?_) (fun c_125 => ?_)
                        · refine go_aload_n dX12_vote_167 rfl 0 rfl ?_
                          refine grm_g1 rfl dX12_vote_168 ?_
                          refine go_bipush (v := Int32.ofInt 8) dX12_vote_171 (by decide) ?_
                          refine go_iload_n dX12_vote_173 rfl 2 rfl ?_
                          refine grm_s1 (by omega) (by omega) dX12_vote_174 ?_
                          refine go_aload_n dX12_vote_175 rfl 0 rfl ?_
                          refine grm_g1 rfl dX12_vote_176 ?_
                          refine go_iconst (v := Int32.ofInt 5) dX12_vote_179 rfl ?_
                          refine go_dup2_11 dX12_vote_180 rfl rfl ?_
                          refine grm_l1 (by omega) (by omega) dX12_vote_181 ?_
                          rw [show (rm_u rlb 1 (rj_up (rlb 1) 8 (s 1))) 1 = (rj_up (sp_vtK s x k2) 8 (s 1)) from (congrArg (fun zz => rj_up zz 8 (s 1)) (show rlb 1 = sp_vtK s x k2 from elb1))]
                          rw [show (rj_up (sp_vtK s x k2) 8 (s 1)) 5 = s 5 from by rw [rj_up_ne _ _ (by omega)]; exact sp_vtK_lo (by omega) (by omega) _]
                          refine go_iconst (v := Int32.ofInt 1) dX12_vote_182 rfl ?_
                          refine go_addI dX12_vote_183 ?_
                          refine grm_s1 (by omega) (by omega) dX12_vote_184 ?_
                          refine go_aload_n dX12_vote_185 rfl 0 rfl ?_
                          refine grm_g1 rfl dX12_vote_186 ?_
                          refine go_iconst (v := Int32.ofInt 5) dX12_vote_189 rfl ?_
                          refine grm_l1 (by omega) (by omega) dX12_vote_190 ?_
                          rw [show (rm_u (rm_u rlb 1 (rj_up (rlb 1) 8 (s 1))) 1 (rj_up ((rm_u rlb 1 (rj_up (rlb 1) 8 (s 1))) 1) 5 ((s 5) + 1))) 1 = (rj_up (rj_up (sp_vtK s x k2) 8 (s 1)) 5 ((s 5) + 1)) from (congrArg (fun zz => rj_up zz 5 ((s 5) + 1)) (show (rm_u rlb 1 (rj_up (rlb 1) 8 (s 1))) 1 = (rj_up (sp_vtK s x k2) 8 (s 1)) from (congrArg (fun zz => rj_up zz 8 (s 1)) (show rlb 1 = sp_vtK s x k2 from elb1))))]
                          rw [show (rj_up (rj_up (sp_vtK s x k2) 8 (s 1)) 5 ((s 5) + 1)) 5 = s 5 + 1 from rj_up_eq _ _ _]
                          refine go_retI rfl rfl ?_ dX12_vote_191
                          exact ⟨rj_vi (by unfold sp_voteF; rw [if_neg hok, if_neg (fun h => h hvb), if_neg (by omega)]), (rm_u (rm_u rlb 1 (rj_up (rlb 1) 8 (s 1))) 1 (rj_up ((rm_u rlb 1 (rj_up (rlb 1) 8 (s 1))) 1) 5 ((s 5) + 1))), ⟨((show (rm_u (rm_u rlb 1 (rj_up (rlb 1) 8 (s 1))) 1 (rj_up ((rm_u rlb 1 (rj_up (rlb 1) 8 (s 1))) 1) 5 ((s 5) + 1))) 1 = (rj_up (rj_up (sp_vtK s x k2) 8 (s 1)) 5 ((s 5) + 1)) from (congrArg (fun zz => rj_up zz 5 ((s 5) + 1)) (show (rm_u rlb 1 (rj_up (rlb 1) 8 (s 1))) 1 = (rj_up (sp_vtK s x k2) 8 (s 1)) from (congrArg (fun zz => rj_up zz 8 (s 1)) (show rlb 1 = sp_vtK s x k2 from elb1)))))).trans (by unfold sp_voteS; rw [if_pos ⟨Decidable.byContradiction hok, hvb, by omega⟩, ← hn1, show k = k2 by omega]), (show (rm_u (rm_u rlb 1 (rj_up (rlb 1) 8 (s 1))) 1 (rj_up ((rm_u rlb 1 (rj_up (rlb 1) 8 (s 1))) 1) 5 ((s 5) + 1))) 2 = (r 2) from elb2), (show (rm_u (rm_u rlb 1 (rj_up (rlb 1) 8 (s 1))) 1 (rj_up ((rm_u rlb 1 (rj_up (rlb 1) 8 (s 1))) 1) 5 ((s 5) + 1))) 3 0 = (r 3 0) from elb3), (show (rm_u (rm_u rlb 1 (rj_up (rlb 1) 8 (s 1))) 1 (rj_up ((rm_u rlb 1 (rj_up (rlb 1) 8 (s 1))) 1) 5 ((s 5) + 1))) 17 = (r 17) from elb17), (show (rm_u (rm_u rlb 1 (rj_up (rlb 1) 8 (s 1))) 1 (rj_up ((rm_u rlb 1 (rj_up (rlb 1) 8 (s 1))) 1) 5 ((s 5) + 1))) 18 0 = (r 18 0) from elb18)⟩, rfl⟩
                        · exact absurd c_125 (by omega)
                      | succ nb ihb =>
                        intro k2 rlb hkb elb1 elb2 elb3 elb17 elb18
                        have dgn := sp_seen_d hsn (show k2 < k by omega)
                        have dgb := sp_dg_b x k2
                        have lfb2 := sp_lf_b (show 0 ≤ x by omega) k2
                        refine go_iload dX12_vote_123 5 rfl ?_
                        refine go_if_ltI (tgt := 167) (by omega) dX12_vote_125 (by decide) (fun c_125 => ?_) (fun c_125 => ?_)
                        · exact absurd c_125 (by omega)
                        · refine go_aload_n dX12_vote_128 rfl 0 rfl ?_
                          refine grm_g1 rfl dX12_vote_129 ?_
                          refine go_sipush (v := Int32.ofInt 999) dX12_vote_132 (by decide) ?_
                          refine go_bipush (v := Int32.ofInt 6) dX12_vote_135 (by decide) ?_
                          refine go_aload_n dX12_vote_137 rfl 0 rfl ?_
                          refine grm_g1 rfl dX12_vote_138 ?_
                          refine go_iconst (v := Int32.ofInt 5) dX12_vote_141 rfl ?_
                          refine grm_l1 (by omega) (by omega) dX12_vote_142 ?_
                          rw [show rlb 1 = sp_vtK s x k2 from elb1]
                          rw [show (sp_vtK s x k2) 5 = s 5 from sp_vtK_lo (by omega) (by omega) _]
                          refine go_mulI dX12_vote_143 ?_
                          refine go_addI dX12_vote_144 ?_
                          refine go_iload dX12_vote_145 4 rfl ?_
                          refine go_bipush (v := Int32.ofInt 10) dX12_vote_147 (by decide) ?_
                          refine go_remI (by omega) (by omega) dX12_vote_149 ?_
                          rw [show sp_lf x k2 % 10 = sp_dg x k2 from rfl]
                          refine go_addI dX12_vote_150 ?_
                          refine go_iload dX12_vote_151 5 rfl ?_
                          refine grm_s1 (by omega) (by omega) dX12_vote_153 ?_
                          refine go_iload dX12_vote_154 4 rfl ?_
                          refine go_bipush (v := Int32.ofInt 10) dX12_vote_156 (by decide) ?_
                          refine go_divI (by omega) (by omega) dX12_vote_158 ?_
                          refine go_istoreS (lv' := [(0, .ref mb), (1, rj_i x), (2, rj_i (s 1)), (3, rj_i ((sp_seen x k : Nat) : Int)), (4, rj_i ((sp_lf x k2) / 10)), (5, rj_i (s 1 - 1 - (k2 : Int)))]) (by decide) rfl dX12_vote_159 ?_
                          refine go_iincI (a := s 1 - 1 - (k2 : Int)) (n := -1) (k0 := 5) (lv' := [(0, .ref mb), (1, rj_i x), (2, rj_i (s 1)), (3, rj_i ((sp_seen x k : Nat) : Int)), (4, rj_i ((sp_lf x k2) / 10)), (5, rj_i (s 1 - 1 - (k2 : Int) + (-1)))]) rfl (by decide) rfl dX12_vote_161 ?_
                          refine go_goto (tgt := 123) dX12_vote_164 (by decide) ?_
                          exact go_eq rfl (lv' := [(0, .ref mb), (1, rj_i x), (2, rj_i (s 1)), (3, rj_i ((sp_seen x k : Nat) : Int)), (4, rj_i (sp_lf x (k2 + 1))), (5, rj_i (s 1 - 1 - ((k2 + 1 : Nat) : Int)))]) (rj_lk (rj_lk (rj_lk (rj_lk (rj_lj (rfl) (rj_lj (by omega) rfl)))))) rfl rfl (ihb (k2 + 1) (rm_u rlb 1 (rj_up (rlb 1) ((999 + (6 * (s 5))) + (sp_dg x k2)) (s 1 - 1 - (k2 : Int)))) (by omega) ((show (rm_u rlb 1 (rj_up (rlb 1) ((999 + (6 * (s 5))) + (sp_dg x k2)) (s 1 - 1 - (k2 : Int)))) 1 = (rj_up (sp_vtK s x k2) ((999 + (6 * (s 5))) + (sp_dg x k2)) (s 1 - 1 - (k2 : Int))) from (congrArg (fun zz => rj_up zz ((999 + (6 * (s 5))) + (sp_dg x k2)) (s 1 - 1 - (k2 : Int))) (show rlb 1 = sp_vtK s x k2 from elb1)))) ((show (rm_u rlb 1 (rj_up (rlb 1) ((999 + (6 * (s 5))) + (sp_dg x k2)) (s 1 - 1 - (k2 : Int)))) 2 = (r 2) from elb2)) ((show (rm_u rlb 1 (rj_up (rlb 1) ((999 + (6 * (s 5))) + (sp_dg x k2)) (s 1 - 1 - (k2 : Int)))) 3 0 = (r 3 0) from elb3)) ((show (rm_u rlb 1 (rj_up (rlb 1) ((999 + (6 * (s 5))) + (sp_dg x k2)) (s 1 - 1 - (k2 : Int)))) 17 = (r 17) from elb17)) ((show (rm_u rlb 1 (rj_up (rlb 1) ((999 + (6 * (s 5))) + (sp_dg x k2)) (s 1 - 1 - (k2 : Int)))) 18 0 = (r 18 0) from elb18)))
                    exact go_eq rfl (lv' := [(0, .ref mb), (1, rj_i x), (2, rj_i (s 1)), (3, rj_i ((sp_seen x k : Nat) : Int)), (4, rj_i (sp_lf x 0)), (5, rj_i (s 1 - 1 - ((0 : Nat) : Int)))]) (rj_lk (rj_lk (rj_lk (rj_lk (rj_lj (by first | rfl | omega) (rj_lj (by first | rfl | omega) rfl)))))) rfl rfl (loopb (s 1).toNat 0 r (by omega) ((show r 1 = s from hs)) ((show r 2 = (r 2) from rfl)) ((show r 3 0 = (r 3 0) from rfl)) ((show r 17 = (r 17) from rfl)) ((show r 18 0 = (r 18 0) from rfl)))
                  · refine go_bipush (v := Int32.ofInt (-4)) dX12_vote_112 (by decide) ?_
                    refine go_retI rfl rfl ?_ dX12_vote_114
                    exact ⟨rj_vi (by unfold sp_voteF; rw [if_neg hok, if_neg (by omega), if_pos (by omega)]), r, ⟨((show r 1 = s from hs)).trans (by unfold sp_voteS; rw [if_neg (fun h => h.2.2 (by omega))]), (show r 2 = (r 2) from rfl), (show r 3 0 = (r 3 0) from rfl), (show r 17 = (r 17) from rfl), (show r 18 0 = (r 18 0) from rfl)⟩, rfl⟩
                · refine go_bipush (v := Int32.ofInt (-2)) dX12_vote_99 (by decide) ?_
                  refine go_retI rfl rfl ?_ dX12_vote_101
                  exact ⟨rj_vi (by unfold sp_voteF; rw [if_neg hok, if_pos (by unfold sp_vtB; rw [← hn1]; omega)]), r, ⟨((show r 1 = s from hs)).trans (by unfold sp_voteS; rw [if_neg (fun h => absurd h.2.1 (by unfold sp_vtB; rw [← hn1]; omega))]), (show r 2 = (r 2) from rfl), (show r 3 0 = (r 3 0) from rfl), (show r 17 = (r 17) from rfl), (show r 18 0 = (r 18 0) from rfl)⟩, rfl⟩
              · exact absurd c_64 (by omega)
            | succ n ih =>
              intro k hk 
              have lfb := sp_lf_b (show 0 ≤ x by omega) k
              refine go_iload dX12_vote_61 5 rfl ?_
              refine go_iload_n dX12_vote_63 rfl 2 rfl ?_
              refine go_icmp_geI (tgt := 90) (by omega) (by omega) dX12_vote_64 (by decide) (fun c_64 => ?_) (fun c_64 => ?_)
              · exact absurd c_64 (by omega)
              · refine go_iload_n dX12_vote_67 rfl 3 rfl ?_
                refine go_iconst (v := Int32.ofInt 1) dX12_vote_68 rfl ?_
                refine go_iload dX12_vote_69 4 rfl ?_
                refine go_bipush (v := Int32.ofInt 10) dX12_vote_71 (by decide) ?_
                refine go_remI (by omega) (by omega) dX12_vote_73 ?_
                obtain ⟨g9, hg9⟩ := Int.eq_ofNat_of_zero_le (show 0 ≤ sp_lf x k % 10 by omega)
                rw [hg9]
                refine go_shl1 (k := g9) (by omega) dX12_vote_74 ?_
                have sbn := sp_seen_b x k
                refine go_orN (a := sp_seen x k) (k := g9) (by omega) (by omega) dX12_vote_75 ?_
                rw [show (sp_seen x k ||| 2 ^ g9 : Nat) = sp_seen x (k + 1) from by rw [sp_seen, sp_dg, hg9]; rfl]
                refine go_istore_nS (lv' := [(0, .ref mb), (1, rj_i x), (2, rj_i (s 1)), (3, rj_i ((sp_seen x (k + 1) : Nat) : Int)), (4, rj_i (sp_lf x k)), (5, rj_i (k : Int))]) rfl (by decide) rfl dX12_vote_76 ?_
                refine go_iload dX12_vote_77 4 rfl ?_
                refine go_bipush (v := Int32.ofInt 10) dX12_vote_79 (by decide) ?_
                refine go_divI (by omega) (by omega) dX12_vote_81 ?_
                refine go_istoreS (lv' := [(0, .ref mb), (1, rj_i x), (2, rj_i (s 1)), (3, rj_i ((sp_seen x (k + 1) : Nat) : Int)), (4, rj_i ((sp_lf x k) / 10)), (5, rj_i (k : Int))]) (by decide) rfl dX12_vote_82 ?_
                refine go_iincI (a := (k : Int)) (n := 1) (k0 := 5) (lv' := [(0, .ref mb), (1, rj_i x), (2, rj_i (s 1)), (3, rj_i ((sp_seen x (k + 1) : Nat) : Int)), (4, rj_i ((sp_lf x k) / 10)), (5, rj_i ((k : Int) + 1))]) rfl (by decide) rfl dX12_vote_84 ?_
                refine go_goto (tgt := 61) dX12_vote_87 (by decide) ?_
                exact go_eq rfl (lv' := [(0, .ref mb), (1, rj_i x), (2, rj_i (s 1)), (3, rj_i ((sp_seen x (k + 1) : Nat) : Int)), (4, rj_i (sp_lf x (k + 1))), (5, rj_i ((k + 1 : Nat) : Int))]) (rj_lk (rj_lk (rj_lk (rj_lj (rfl) (rj_lj (rfl) (rj_lj (by omega) rfl)))))) rfl rfl (ih (k + 1) (by omega))
          exact go_eq rfl (lv' := [(0, .ref mb), (1, rj_i x), (2, rj_i (s 1)), (3, rj_i ((sp_seen x 0 : Nat) : Int)), (4, rj_i (sp_lf x 0)), (5, rj_i ((0 : Nat) : Int))]) (rj_lk (rj_lk (rj_lk (rj_lj (rfl) (rj_lj (rfl) (rj_lj (rfl) rfl)))))) rfl rfl (loop (s 1).toNat 0 (by omega))
        · refine go_bipush (v := Int32.ofInt (-2)) dX12_vote_50 (by decide) ?_
          refine go_retI rfl rfl ?_ dX12_vote_52
          exact ⟨rj_vi (by unfold sp_voteF; rw [if_neg hok, if_pos (by unfold sp_vtB; omega)]), r, ⟨((show r 1 = s from hs)).trans (by unfold sp_voteS; rw [if_neg (fun h => absurd h.2.1 (by unfold sp_vtB; omega))]), (show r 2 = (r 2) from rfl), (show r 3 0 = (r 3 0) from rfl), (show r 17 = (r 17) from rfl), (show r 18 0 = (r 18 0) from rfl)⟩, rfl⟩
    · refine go_aload_n dX12_vote_20 rfl 0 rfl ?_
      refine grm_g1 rfl dX12_vote_21 ?_
      refine go_bipush (v := Int32.ofInt 8) dX12_vote_24 (by decide) ?_
      refine grm_l1 (by omega) (by omega) dX12_vote_26 ?_
      rw [show r 1 = s from hs]
      refine go_iload_n dX12_vote_27 rfl 2 rfl ?_
      refine go_icmp_eqI (tgt := 34) (by omega) (by omega) dX12_vote_28 (by decide) (fun c_28 => ?_) (fun c_28 => ?_)
      · have hok : ¬ ¬ sp_vtOk s x := by unfold sp_vtOk; omega
        have pb1 := sp_pow_b2 (c := 10) (by omega) (e := (s 1).toNat) (by omega)
        refine go_iload_n dX12_vote_34 rfl 1 rfl ?_
        refine go_if_ltI (tgt := 50) (by omega) dX12_vote_35 (by decide) (fun c_35 => ?_) (fun c_35 => ?_)
        · refine go_bipush (v := Int32.ofInt (-2)) dX12_vote_50 (by decide) ?_
          refine go_retI rfl rfl ?_ dX12_vote_52
          exact ⟨rj_vi (by unfold sp_voteF; rw [if_neg hok, if_pos (by unfold sp_vtB; omega)]), r, ⟨((show r 1 = s from hs)).trans (by unfold sp_voteS; rw [if_neg (fun h => absurd h.2.1 (by unfold sp_vtB; omega))]), (show r 2 = (r 2) from rfl), (show r 3 0 = (r 3 0) from rfl), (show r 17 = (r 17) from rfl), (show r 18 0 = (r 18 0) from rfl)⟩, rfl⟩
        · refine go_iload_n dX12_vote_38 rfl 1 rfl ?_
          refine go_ldc2 (z := Int64.ofInt 10) (by exact qX12_221) dX12_vote_39 ?_
          refine go_iload_n dX12_vote_42 rfl 2 rfl ?_
          refine go_callS (d1 := d - 1) wSX12_217 rfl (by omega) (m_power (b := 10) (e9 := s 1) (by omega)) rfl (Nat.le_of_ble_eq_true rfl) dX12_vote_43 (fun w σ1 hP => ?_)
          obtain ⟨rfl, rfl⟩ := hP
          refine go_l2iI dX12_vote_46 ?_
          refine go_icmp_ltI (tgt := 53) (by omega) (by omega) dX12_vote_47 (by decide) (fun c_47 => ?_) (fun c_47 => ?_)
          · refine go_iconst (v := Int32.ofInt 0) dX12_vote_53 rfl ?_
            refine go_istore_nS (lv' := [(0, .ref mb), (1, rj_i x), (2, rj_i (s 1)), (3, rj_i 0)]) rfl (by decide) rfl dX12_vote_54 ?_
            refine go_iload_n dX12_vote_55 rfl 1 rfl ?_
            refine go_istoreS (lv' := [(0, .ref mb), (1, rj_i x), (2, rj_i (s 1)), (3, rj_i 0), (4, rj_i x)]) (by decide) rfl dX12_vote_56 ?_
            refine go_iconst (v := Int32.ofInt 0) dX12_vote_58 rfl ?_
            refine go_istoreS (lv' := [(0, .ref mb), (1, rj_i x), (2, rj_i (s 1)), (3, rj_i 0), (4, rj_i x), (5, rj_i 0)]) (by decide) rfl dX12_vote_59 ?_
            obtain ⟨n1, hn1⟩ : ∃ n1, n1 = (s 1).toNat := ⟨_, rfl⟩
            have hp2 : 1 ≤ (2 : Nat) ^ n1 ∧ (2 : Nat) ^ n1 ≤ 64 := ⟨Nat.pow_pos (by decide), Nat.pow_le_pow_right (by decide) (show n1 ≤ 6 by omega)⟩
            have hp3 : (2 : Int) ^ n1 = ((2 ^ n1 : Nat) : Int) := (rj_n2 n1).symm
            have loop : ∀ n k : Nat, k + n = (s 1).toNat → rj_Go X9 yX12_vote cX12_vote 6 (some .int) d (fun w9 τ => w9 = some (rj_i (sp_voteF s x)) ∧ ∃ r0, rm_V r r0 (sp_voteS s x) ∧ τ = rm_p X9 mb r0 σ) 61 [(0, .ref mb), (1, rj_i x), (2, rj_i (s 1)), (3, rj_i ((sp_seen x k : Nat) : Int)), (4, rj_i (sp_lf x k)), (5, rj_i (k : Int))] [] (rm_p X9 mb r σ) := by
              intro n
              induction n with
              | zero =>
                intro k hk 
                refine go_iload dX12_vote_61 5 rfl ?_
                refine go_iload_n dX12_vote_63 rfl 2 rfl ?_
                refine go_icmp_geI (tgt := 90) (by omega) (by omega) dX12_vote_64 (by decide) (fun c_64 => ?_) (fun c_64 => ?_)
                · have ek : k = n1 := by omega
                  subst ek
                  have sbn := sp_seen_b x k
                  have lfb := sp_lf_b (show 0 ≤ x by omega) k
                  refine go_iload_n dX12_vote_90 rfl 3 rfl ?_
                  refine go_iconst (v := Int32.ofInt 1) dX12_vote_91 rfl ?_
                  refine go_iload_n dX12_vote_92 rfl 2 rfl ?_
                  refine go_shlI (k := s 1) (by omega) dX12_vote_93 ?_
                  rw [← hn1, hp3]
                  refine go_iconst (v := Int32.ofInt 1) dX12_vote_94 rfl ?_
                  refine go_subI dX12_vote_95 ?_
                  refine go_icmp_eqI (tgt := 102) (by omega) (by omega) dX12_vote_96 (by decide) (fun c_96 => ?_) (fun c_96 => ?_)
                  · have hsn : sp_seen x k = 2 ^ k - 1 := by omega
                    have hvb : sp_vtB s x := ⟨by omega, by omega, by rw [← hn1]; exact hsn⟩
                    refine go_aload_n dX12_vote_102 rfl 0 rfl ?_
                    refine grm_g1 rfl dX12_vote_103 ?_
                    refine go_iconst (v := Int32.ofInt 5) dX12_vote_106 rfl ?_
                    refine grm_l1 (by omega) (by omega) dX12_vote_107 ?_
                    rw [show r 1 = s from hs]
                    refine go_iconst (v := Int32.ofInt 5) dX12_vote_108 rfl ?_
                    refine go_icmp_neI (tgt := 115) (by omega) (by omega) dX12_vote_109 (by decide) (fun c_109 => ?_) (fun c_109 => ?_)
                    · refine go_iload_n dX12_vote_115 rfl 1 rfl ?_
                      refine go_istoreS (lv' := [(0, .ref mb), (1, rj_i x), (2, rj_i (s 1)), (3, rj_i ((sp_seen x k : Nat) : Int)), (4, rj_i x), (5, rj_i (k : Int))]) (by decide) rfl dX12_vote_116 ?_
                      refine go_iload_n dX12_vote_118 rfl 2 rfl ?_
                      refine go_iconst (v := Int32.ofInt 1) dX12_vote_119 rfl ?_
                      refine go_subI dX12_vote_120 ?_
                      refine go_istoreS (lv' := [(0, .ref mb), (1, rj_i x), (2, rj_i (s 1)), (3, rj_i ((sp_seen x k : Nat) : Int)), (4, rj_i x), (5, rj_i ((s 1) - 1))]) (by decide) rfl dX12_vote_121 ?_
                      have loopb : ∀ (nb k2 : Nat) (rlb : rm_R), k2 + nb = (s 1).toNat → rlb 1 = sp_vtK s x k2 → rlb 2 = (r 2) → rlb 3 0 = (r 3 0) → rlb 17 = (r 17) → rlb 18 0 = (r 18 0) → rj_Go X9 yX12_vote cX12_vote 6 (some .int) d (fun w9 τ => w9 = some (rj_i (sp_voteF s x)) ∧ ∃ r0, rm_V r r0 (sp_voteS s x) ∧ τ = rm_p X9 mb r0 σ) 123 [(0, .ref mb), (1, rj_i x), (2, rj_i (s 1)), (3, rj_i ((sp_seen x k : Nat) : Int)), (4, rj_i (sp_lf x k2)), (5, rj_i (s 1 - 1 - (k2 : Int)))] [] (rm_p X9 mb rlb σ) := by
                        intro nb
                        induction nb with
                        | zero =>
                          intro k2 rlb hkb elb1 elb2 elb3 elb17 elb18
                          refine go_iload dX12_vote_123 5 rfl ?_
                          refine go_if_ltI (tgt := 167) (by omega) dX12_vote_125 (by decide) (fun c_125 => ?_) (fun c_125 => ?_)
                          · refine go_aload_n dX12_vote_167 rfl 0 rfl ?_
                            refine grm_g1 rfl dX12_vote_168 ?_
                            refine go_bipush (v := Int32.ofInt 8) dX12_vote_171 (by decide) ?_
                            refine go_iload_n dX12_vote_173 rfl 2 rfl ?_
                            refine grm_s1 (by omega) (by omega) dX12_vote_174 ?_
                            refine go_aload_n dX12_vote_175 rfl 0 rfl ?_
                            refine grm_g1 rfl dX12_vote_176 ?_
                            refine go_iconst (v := Int32.ofInt 5) dX12_vote_179 rfl ?_
                            refine go_dup2_11 dX12_vote_180 rfl rfl ?_
                            refine grm_l1 (by omega) (by omega) dX12_vote_181 ?_
                            rw [show (rm_u rlb 1 (rj_up (rlb 1) 8 (s 1))) 1 = (rj_up (sp_vtK s x k2) 8 (s 1)) from (congrArg (fun zz => rj_up zz 8 (s 1)) (show rlb 1 = sp_vtK s x k2 from elb1))]
                            rw [show (rj_up (sp_vtK s x k2) 8 (s 1)) 5 = s 5 from by rw [rj_up_ne _ _ (by omega)]; exact sp_vtK_lo (by omega) (by omega) _]
                            refine go_iconst (v := Int32.ofInt 1) dX12_vote_182 rfl ?_
                            refine go_addI dX12_vote_183 ?_
                            refine grm_s1 (by omega) (by omega) dX12_vote_184 ?_
                            refine go_aload_n dX12_vote_185 rfl 0 rfl ?_
                            refine grm_g1 rfl dX12_vote_186 ?_
                            refine go_iconst (v := Int32.ofInt 5) dX12_vote_189 rfl ?_
                            refine grm_l1 (by omega) (by omega) dX12_vote_190 ?_
                            rw [show (rm_u (rm_u rlb 1 (rj_up (rlb 1) 8 (s 1))) 1 (rj_up ((rm_u rlb 1 (rj_up (rlb 1) 8 (s 1))) 1) 5 ((s 5) + 1))) 1 = (rj_up (rj_up (sp_vtK s x k2) 8 (s 1)) 5 ((s 5) + 1)) from (congrArg (fun zz => rj_up zz 5 ((s 5) + 1)) (show (rm_u rlb 1 (rj_up (rlb 1) 8 (s 1))) 1 = (rj_up (sp_vtK s x k2) 8 (s 1)) from (congrArg (fun zz => rj_up zz 8 (s 1)) (show rlb 1 = sp_vtK s x k2 from elb1))))]
                            rw [show (rj_up (rj_up (sp_vtK s x k2) 8 (s 1)) 5 ((s 5) + 1)) 5 = s 5 + 1 from rj_up_eq _ _ _]
                            refine go_retI rfl rfl ?_ dX12_vote_191
                            exact ⟨rj_vi (by unfold sp_voteF; rw [if_neg hok, if_neg (fun h => h hvb), if_neg (by omega)]), (rm_u (rm_u rlb 1 (rj_up (rlb 1) 8 (s 1))) 1 (rj_up ((rm_u rlb 1 (rj_up (rlb 1) 8 (s 1))) 1) 5 ((s 5) + 1))), ⟨((show (rm_u (rm_u rlb 1 (rj_up (rlb 1) 8 (s 1))) 1 (rj_up ((rm_u rlb 1 (rj_up (rlb 1) 8 (s 1))) 1) 5 ((s 5) + 1))) 1 = (rj_up (rj_up (sp_vtK s x k2) 8 (s 1)) 5 ((s 5) + 1)) from (congrArg (fun zz => rj_up zz 5 ((s 5) + 1)) (show (rm_u rlb 1 (rj_up (rlb 1) 8 (s 1))) 1 = (rj_up (sp_vtK s x k2) 8 (s 1)) from (congrArg (fun zz => rj_up zz 8 (s 1)) (show rlb 1 = sp_vtK s x k2 from elb1)))))).trans (by unfold sp_voteS; rw [if_pos ⟨Decidable.byContradiction hok, hvb, by omega⟩, ← hn1, show k = k2 by omega]), (show (rm_u (rm_u rlb 1 (rj_up (rlb 1) 8 (s 1))) 1 (rj_up ((rm_u rlb 1 (rj_up (rlb 1) 8 (s 1))) 1) 5 ((s 5) + 1))) 2 = (r 2) from elb2), (show (rm_u (rm_u rlb 1 (rj_up (rlb 1) 8 (s 1))) 1 (rj_up ((rm_u rlb 1 (rj_up (rlb 1) 8 (s 1))) 1) 5 ((s 5) + 1))) 3 0 = (r 3 0) from elb3), (show (rm_u (rm_u rlb 1 (rj_up (rlb 1) 8 (s 1))) 1 (rj_up ((rm_u rlb 1 (rj_up (rlb 1) 8 (s 1))) 1) 5 ((s 5) + 1))) 17 = (r 17) from elb17), (show (rm_u (rm_u rlb 1 (rj_up (rlb 1) 8 (s 1))) 1 (rj_up ((rm_u rlb 1 (rj_up (rlb 1) 8 (s 1))) 1) 5 ((s 5) + 1))) 18 0 = (r 18 0) from elb18)⟩, rfl⟩
                          · exact absurd c_125 (by omega)
                        | succ nb ihb =>
                          intro k2 rlb hkb elb1 elb2 elb3 elb17 elb18
                          have dgn := sp_seen_d hsn (show k2 < k by omega)
                          have dgb := sp_dg_b x k2
                          have lfb2 := sp_lf_b (show 0 ≤ x by omega) k2
                          refine go_iload dX12_vote_123 5 rfl ?_
                          refine go_if_ltI (tgt := 167) (by omega) dX12_vote_125 (by decide) (fun c_125 => ?_) (fun c_125 => ?_)
                          · exact absurd c_125 (by omega)
                          · refine go_aload_n dX12_vote_128 rfl 0 rfl ?_
                            refine grm_g1 rfl dX12_vote_129 ?_
                            refine go_sipush (v := Int32.ofInt 999) dX12_vote_132 (by decide) ?_
                            refine go_bipush (v := Int32.ofInt 6) dX12_vote_135 (by decide) ?_
                            refine go_aload_n dX12_vote_137 rfl 0 rfl ?_
                            refine grm_g1 rfl dX12_vote_138 ?_
                            refine go_iconst (v := Int32.ofInt 5) dX12_vote_141 rfl ?_
                            refine grm_l1 (by omega) (by omega) dX12_vote_142 ?_
                            rw [show rlb 1 = sp_vtK s x k2 from elb1]
                            rw [show (sp_vtK s x k2) 5 = s 5 from sp_vtK_lo (by omega) (by omega) _]
                            refine go_mulI dX12_vote_143 ?_
                            refine go_addI dX12_vote_144 ?_
                            refine go_iload dX12_vote_145 4 rfl ?_
                            refine go_bipush (v := Int32.ofInt 10) dX12_vote_147 (by decide) ?_
                            refine go_remI (by omega) (by omega) dX12_vote_149 ?_
                            rw [show sp_lf x k2 % 10 = sp_dg x k2 from rfl]
                            refine go_addI dX12_vote_150 ?_
                            refine go_iload dX12_vote_151 5 rfl ?_
                            refine grm_s1 (by omega) (by omega) dX12_vote_153 ?_
                            refine go_iload dX12_vote_154 4 rfl ?_
                            refine go_bipush (v := Int32.ofInt 10) dX12_vote_156 (by decide) ?_
                            refine go_divI (by omega) (by omega) dX12_vote_158 ?_
                            refine go_istoreS (lv' := [(0, .ref mb), (1, rj_i x), (2, rj_i (s 1)), (3, rj_i ((sp_seen x k : Nat) : Int)), (4, rj_i ((sp_lf x k2) / 10)), (5, rj_i (s 1 - 1 - (k2 : Int)))]) (by decide) rfl dX12_vote_159 ?_
                            refine go_iincI (a := s 1 - 1 - (k2 : Int)) (n := -1) (k0 := 5) (lv' := [(0, .ref mb), (1, rj_i x), (2, rj_i (s 1)), (3, rj_i ((sp_seen x k : Nat) : Int)), (4, rj_i ((sp_lf x k2) / 10)), (5, rj_i (s 1 - 1 - (k2 : Int) + (-1)))]) rfl (by decide) rfl dX12_vote_161 ?_
                            refine go_goto (tgt := 123) dX12_vote_164 (by decide) ?_
                            exact go_eq rfl (lv' := [(0, .ref mb), (1, rj_i x), (2, rj_i (s 1)), (3, rj_i ((sp_seen x k : Nat) : Int)), (4, rj_i (sp_lf x (k2 + 1))), (5, rj_i (s 1 - 1 - ((k2 + 1 : Nat) : Int)))]) (rj_lk (rj_lk (rj_lk (rj_lk (rj_lj (rfl) (rj_lj (by omega) rfl)))))) rfl rfl (ihb (k2 + 1) (rm_u rlb 1 (rj_up (rlb 1) ((999 + (6 * (s 5))) + (sp_dg x k2)) (s 1 - 1 - (k2 : Int)))) (by omega) ((show (rm_u rlb 1 (rj_up (rlb 1) ((999 + (6 * (s 5))) + (sp_dg x k2)) (s 1 - 1 - (k2 : Int)))) 1 = (rj_up (sp_vtK s x k2) ((999 + (6 * (s 5))) + (sp_dg x k2)) (s 1 - 1 - (k2 : Int))) from (congrArg (fun zz => rj_up zz ((999 + (6 * (s 5))) + (sp_dg x k2)) (s 1 - 1 - (k2 : Int))) (show rlb 1 = sp_vtK s x k2 from elb1)))) ((show (rm_u rlb 1 (rj_up (rlb 1) ((999 + (6 * (s 5))) + (sp_dg x k2)) (s 1 - 1 - (k2 : Int)))) 2 = (r 2) from elb2)) ((show (rm_u rlb 1 (rj_up (rlb 1) ((999 + (6 * (s 5))) + (sp_dg x k2)) (s 1 - 1 - (k2 : Int)))) 3 0 = (r 3 0) from elb3)) ((show (rm_u rlb 1 (rj_up (rlb 1) ((999 + (6 * (s 5))) + (sp_dg x k2)) (s 1 - 1 - (k2 : Int)))) 17 = (r 17) from elb17)) ((show (rm_u rlb 1 (rj_up (rlb 1) ((999 + (6 * (s 5))) + (sp_dg x k2)) (s 1 - 1 - (k2 : Int)))) 18 0 = (r 18 0) from elb18)))
                      exact go_eq rfl (lv' := [(0, .ref mb), (1, rj_i x), (2, rj_i (s 1)), (3, rj_i ((sp_seen x k : Nat) : Int)), (4, rj_i (sp_lf x 0)), (5, rj_i (s 1 - 1 - ((0 : Nat) : Int)))]) (rj_lk (rj_lk (rj_lk (rj_lk (rj_lj (by first | rfl | omega) (rj_lj (by first | rfl | omega) rfl)))))) rfl rfl (loopb (s 1).toNat 0 r (by omega) ((show r 1 = s from hs)) ((show r 2 = (r 2) from rfl)) ((show r 3 0 = (r 3 0) from rfl)) ((show r 17 = (r 17) from rfl)) ((show r 18 0 = (r 18 0) from rfl)))
                    · refine go_bipush (v := Int32.ofInt (-4)) dX12_vote_112 (by decide) ?_
                      refine go_retI rfl rfl ?_ dX12_vote_114
                      exact ⟨rj_vi (by unfold sp_voteF; rw [if_neg hok, if_neg (by omega), if_pos (by omega)]), r, ⟨((show r 1 = s from hs)).trans (by unfold sp_voteS; rw [if_neg (fun h => h.2.2 (by omega))]), (show r 2 = (r 2) from rfl), (show r 3 0 = (r 3 0) from rfl), (show r 17 = (r 17) from rfl), (show r 18 0 = (r 18 0) from rfl)⟩, rfl⟩
                  · refine go_bipush (v := Int32.ofInt (-2)) dX12_vote_99 (by decide) ?_
                    refine go_retI rfl rfl ?_ dX12_vote_101
                    exact ⟨rj_vi (by unfold sp_voteF; rw [if_neg hok, if_pos (by unfold sp_vtB; rw [← hn1]; omega)]), r, ⟨((show r 1 = s from hs)).trans (by unfold sp_voteS; rw [if_neg (fun h => absurd h.2.1 (by unfold sp_vtB; rw [← hn1]; omega))]), (show r 2 = (r 2) from rfl), (show r 3 0 = (r 3 0) from rfl), (show r 17 = (r 17) from rfl), (show r 18 0 = (r 18 0) from rfl)⟩, rfl⟩
                · exact absurd c_64 (by omega)
              | succ n ih =>
                intro k hk 
                have lfb := sp_lf_b (show 0 ≤ x by omega) k
                refine go_iload dX12_vote_61 5 rfl ?_
                refine go_iload_n dX12_vote_63 rfl 2 rfl ?_
                refine go_icmp_geI (tgt := 90) (by omega) (by omega) dX12_vote_64 (by decide) (fun c_64 => ?_) (fun c_64 => ?_)
                · exact absurd c_64 (by omega)
                · refine go_iload_n dX12_vote_67 rfl 3 rfl ?_
                  refine go_iconst (v := Int32.ofInt 1) dX12_vote_68 rfl ?_
                  refine go_iload dX12_vote_69 4 rfl ?_
                  refine go_bipush (v := Int32.ofInt 10) dX12_vote_71 (by decide) ?_
                  refine go_remI (by omega) (by omega) dX12_vote_73 ?_
                  obtain ⟨g9, hg9⟩ := Int.eq_ofNat_of_zero_le (show 0 ≤ sp_lf x k % 10 by omega)
                  rw [hg9]
                  refine go_shl1 (k := g9) (by omega) dX12_vote_74 ?_
                  have sbn := sp_seen_b x k
                  refine go_orN (a := sp_seen x k) (k := g9) (by omega) (by omega) dX12_vote_75 ?_
                  rw [show (sp_seen x k ||| 2 ^ g9 : Nat) = sp_seen x (k + 1) from by rw [sp_seen, sp_dg, hg9]; rfl]
                  refine go_istore_nS (lv' := [(0, .ref mb), (1, rj_i x), (2, rj_i (s 1)), (3, rj_i ((sp_seen x (k + 1) : Nat) : Int)), (4, rj_i (sp_lf x k)), (5, rj_i (k : Int))]) rfl (by decide) rfl dX12_vote_76 ?_
                  refine go_iload dX12_vote_77 4 rfl ?_
                  refine go_bipush (v := Int32.ofInt 10) dX12_vote_79 (by decide) ?_
                  refine go_divI (by omega) (by omega) dX12_vote_81 ?_
                  refine go_istoreS (lv' := [(0, .ref mb), (1, rj_i x), (2, rj_i (s 1)), (3, rj_i ((sp_seen x (k + 1) : Nat) : Int)), (4, rj_i ((sp_lf x k) / 10)), (5, rj_i (k : Int))]) (by decide) rfl dX12_vote_82 ?_
                  refine go_iincI (a := (k : Int)) (n := 1) (k0 := 5) (lv' := [(0, .ref mb), (1, rj_i x), (2, rj_i (s 1)), (3, rj_i ((sp_seen x (k + 1) : Nat) : Int)), (4, rj_i ((sp_lf x k) / 10)), (5, rj_i ((k : Int) + 1))]) rfl (by decide) rfl dX12_vote_84 ?_
                  refine go_goto (tgt := 61) dX12_vote_87 (by decide) ?_
                  exact go_eq rfl (lv' := [(0, .ref mb), (1, rj_i x), (2, rj_i (s 1)), (3, rj_i ((sp_seen x (k + 1) : Nat) : Int)), (4, rj_i (sp_lf x (k + 1))), (5, rj_i ((k + 1 : Nat) : Int))]) (rj_lk (rj_lk (rj_lk (rj_lj (rfl) (rj_lj (rfl) (rj_lj (by omega) rfl)))))) rfl rfl (ih (k + 1) (by omega))
            exact go_eq rfl (lv' := [(0, .ref mb), (1, rj_i x), (2, rj_i (s 1)), (3, rj_i ((sp_seen x 0 : Nat) : Int)), (4, rj_i (sp_lf x 0)), (5, rj_i ((0 : Nat) : Int))]) (rj_lk (rj_lk (rj_lk (rj_lj (rfl) (rj_lj (rfl) (rj_lj (rfl) rfl)))))) rfl rfl (loop (s 1).toNat 0 (by omega))
          · refine go_bipush (v := Int32.ofInt (-2)) dX12_vote_50 (by decide) ?_
            refine go_retI rfl rfl ?_ dX12_vote_52
            exact ⟨rj_vi (by unfold sp_voteF; rw [if_neg hok, if_pos (by unfold sp_vtB; omega)]), r, ⟨((show r 1 = s from hs)).trans (by unfold sp_voteS; rw [if_neg (fun h => absurd h.2.1 (by unfold sp_vtB; omega))]), (show r 2 = (r 2) from rfl), (show r 3 0 = (r 3 0) from rfl), (show r 17 = (r 17) from rfl), (show r 18 0 = (r 18 0) from rfl)⟩, rfl⟩
      · refine go_bipush (v := Int32.ofInt (-3)) dX12_vote_31 (by decide) ?_
        refine go_retI rfl rfl ?_ dX12_vote_33
        exact ⟨rj_vi (by unfold sp_voteF; rw [if_pos (by unfold sp_vtOk; omega)]), r, ⟨((show r 1 = s from hs)).trans (by unfold sp_voteS; rw [if_neg (fun h => absurd h.1 (by unfold sp_vtOk; omega))]), (show r 2 = (r 2) from rfl), (show r 3 0 = (r 3 0) from rfl), (show r 17 = (r 17) from rfl), (show r 18 0 = (r 18 0) from rfl)⟩, rfl⟩
