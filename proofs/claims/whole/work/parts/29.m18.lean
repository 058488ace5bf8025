/-! THE REFERENCE, 18: coarse, kept -/
def sp_coaB (s : Int → Int) (st : Nat) : Int → Bool := fun m => !sp_cs s m st
def sp_coaF (s : Int → Int) (n : Int) : Int := if 1 ≤ n ∧ n ≤ 9 then sp_bits (sp_coaB s n.toNat) (s 0).toNat else -2
set_option maxRecDepth 20000 in
/-- m_coarse -/
theorem m_coarse {X9 : rj_X} {σ : rj_H} {d : Nat} {mb : Nat} {r : rm_R} {n : Int} (hd : 6 ≤ d) (hn : -2147483648 ≤ n ∧ n < 2147483648) {s : Int → Int} (hs : r 1 = s) (hI : sp_I s) : rj_Cl X9 d yX12_coarse cX12_coarse 4 (some .int) [.ref mb, rj_i n] (rm_p X9 mb r σ) (fun w9 τ => w9 = some (rj_i (sp_coaF s n)) ∧ ∃ r0, rm_V r r0 s ∧ τ = rm_p X9 mb r0 σ) := by
  obtain ⟨⟨h0, h1, h2, h3, h4, h5, h6, h7⟩, hM, hP, hW, hL, hV⟩ := id hI
  obtain ⟨v1, v2, v3, v4⟩ := id hV
  refine go_call (by decide +kernel) (Nat.le_of_ble_eq_true rfl) ?_
  refine go_eq (pc' := 0) (lv' := [(0, .ref mb), (1, rj_i n)]) (st' := []) rfl rfl rfl rfl ?_
  refine go_iload_n dX12_coarse_0 rfl 1 rfl ?_
  refine go_iconst (v := Int32.ofInt 1) dX12_coarse_1 rfl ?_
  refine go_bipush (v := Int32.ofInt 9) dX12_coarse_2 (by decide) ?_
  refine go_callS (d1 := d - 1) wSX12_47 rfl (by omega) (m_in (v := n) (lo := 1) (hi := 9) (by omega) (by omega) (by omega)) rfl (Nat.le_of_ble_eq_true rfl) dX12_coarse_4 (fun w σ1 hP => ?_)
  obtain ⟨rfl, rfl⟩ := hP
  refine go_if_neB (tgt := 13) dX12_coarse_7 (by decide) (fun c_7 => ?_) (fun c_7 => ?_)
  · obtain ⟨st, rfl⟩ := Int.eq_ofNat_of_zero_le (show 0 ≤ n by omega)
    refine go_aload_n dX12_coarse_13 rfl 0 rfl ?_
    refine go_aload_n dX12_coarse_14 rfl 0 rfl ?_
    refine grm_g1 rfl dX12_coarse_15 ?_
    refine go_iconst (v := Int32.ofInt 4) dX12_coarse_18 rfl ?_
    refine grm_l1 (by omega) (by omega) dX12_coarse_19 ?_
    rw [show r 1 = s from hs]
    refine grm_w11 rfl dX12_coarse_20 ?_
    obtain ⟨r1, e1⟩ : ∃ x_, x_ = (rm_u r 11 (fun _ => s 4)) := ⟨_, rfl⟩
    rw [← e1]
    have q1_1 : r1 1 = s := by rw [e1]; exact (show (rm_u r 11 (fun _ => s 4)) 1 = s from hs)
    have q1_2 : r1 2 = (r 2) := by rw [e1]; exact (show (rm_u r 11 (fun _ => s 4)) 2 = (r 2) from rfl)
    have q1_3 : r1 3 0 = (r 3 0) := by rw [e1]; exact (show (rm_u r 11 (fun _ => s 4)) 3 0 = (r 3 0) from rfl)
    have q1_17 : r1 17 = (r 17) := by rw [e1]; exact (show (rm_u r 11 (fun _ => s 4)) 17 = (r 17) from rfl)
    have q1_18 : r1 18 0 = (r 18 0) := by rw [e1]; exact (show (rm_u r 11 (fun _ => s 4)) 18 0 = (r 18 0) from rfl)
    have q1_11 : r1 11 0 = s 4 := by rw [e1]; exact (show (rm_u r 11 (fun _ => s 4)) 11 0 = s 4 from rfl)
    refine go_iconst (v := Int32.ofInt 0) dX12_coarse_23 rfl ?_
    refine go_istore_nS (lv' := [(0, .ref mb), (1, rj_i (st : Int)), (2, rj_i 0)]) rfl (by decide) rfl dX12_coarse_24 ?_
    refine go_iconst (v := Int32.ofInt 0) dX12_coarse_25 rfl ?_
    refine go_istore_nS (lv' := [(0, .ref mb), (1, rj_i (st : Int)), (2, rj_i 0), (3, rj_i 0)]) rfl (by decide) rfl dX12_coarse_26 ?_
    have loop : ∀ (n k : Nat) (rl : rm_R), k + n = (s 0).toNat → rm_t r1 rl → rj_Go X9 yX12_coarse cX12_coarse 4 (some .int) d (fun w9 τ => w9 = some (rj_i (sp_coaF s (st : Int))) ∧ ∃ r0, rm_V r r0 s ∧ τ = rm_p X9 mb r0 σ) 27 [(0, .ref mb), (1, rj_i (st : Int)), (2, rj_i (sp_bits (sp_coaB s st) k)), (3, rj_i (k : Int))] [] (rm_p X9 mb rl σ) := by
      intro n
      induction n with
      | zero =>
        intro k rl hk hr 
        have el1 : rl 1 = s := (hr 1 (by decide) (by decide)).trans (show r1 1 = s from q1_1)
        have el2 : rl 2 = (r 2) := (hr 2 (by decide) (by decide)).trans (show r1 2 = (r 2) from q1_2)
        have el3 : rl 3 0 = (r 3 0) := (congrFun (hr 3 (by decide) (by decide)) 0).trans (show r1 3 0 = (r 3 0) from q1_3)
        have el17 : rl 17 = (r 17) := (hr 17 (by decide) (by decide)).trans (show r1 17 = (r 17) from q1_17)
        have el18 : rl 18 0 = (r 18 0) := (congrFun (hr 18 (by decide) (by decide)) 0).trans (show r1 18 0 = (r 18 0) from q1_18)
        have el11 : rl 11 0 = s 4 := (congrFun (hr 11 (by decide) (by decide)) 0).trans (show r1 11 0 = s 4 from q1_11)
        refine go_iload_n dX12_coarse_27 rfl 3 rfl ?_
        refine go_aload_n dX12_coarse_28 rfl 0 rfl ?_
        refine grm_g1 rfl dX12_coarse_29 ?_
        refine go_iconst (v := Int32.ofInt 0) dX12_coarse_32 rfl ?_
        refine grm_l1 (by omega) (by omega) dX12_coarse_33 ?_
        rw [show rl 1 = s from el1]
        refine go_icmp_geI (tgt := 62) (by omega) (by omega) dX12_coarse_34 (by decide) (fun c_34 => ?_) (fun c_34 => ?_)
        · refine go_iload_n dX12_coarse_62 rfl 2 rfl ?_
          refine go_retI rfl rfl ?_ dX12_coarse_63
          exact ⟨rj_vi (by unfold sp_coaF; rw [if_pos (by omega), show ((st : Int)).toNat = st by omega, show (s 0).toNat = k by omega]), rl, ⟨(show rl 1 = s from el1), (show rl 2 = (r 2) from el2), (show rl 3 0 = (r 3 0) from el3), (show rl 17 = (r 17) from el17), (show rl 18 0 = (r 18 0) from el18)⟩, rfl⟩
        · exact absurd c_34 (by omega)
      | succ n ih =>
        intro k rl hk hr 
        have el1 : rl 1 = s := (hr 1 (by decide) (by decide)).trans (show r1 1 = s from q1_1)
        have el2 : rl 2 = (r 2) := (hr 2 (by decide) (by decide)).trans (show r1 2 = (r 2) from q1_2)
        have el3 : rl 3 0 = (r 3 0) := (congrFun (hr 3 (by decide) (by decide)) 0).trans (show r1 3 0 = (r 3 0) from q1_3)
        have el17 : rl 17 = (r 17) := (hr 17 (by decide) (by decide)).trans (show r1 17 = (r 17) from q1_17)
        have el18 : rl 18 0 = (r 18 0) := (congrFun (hr 18 (by decide) (by decide)) 0).trans (show r1 18 0 = (r 18 0) from q1_18)
        have el11 : rl 11 0 = s 4 := (congrFun (hr 11 (by decide) (by decide)) 0).trans (show r1 11 0 = s 4 from q1_11)
        refine go_iload_n dX12_coarse_27 rfl 3 rfl ?_
        refine go_aload_n dX12_coarse_28 rfl 0 rfl ?_
        refine grm_g1 rfl dX12_coarse_29 ?_
        refine go_iconst (v := Int32.ofInt 0) dX12_coarse_32 rfl ?_
        refine grm_l1 (by omega) (by omega) dX12_coarse_33 ?_
        rw [show rl 1 = s from el1]
        refine go_icmp_geI (tgt := 62) (by omega) (by omega) dX12_coarse_34 (by decide) (fun c_34 => ?_) (fun c_34 => ?_)
        · exact absurd c_34 (by omega)
        · refine go_iload_n dX12_coarse_37 rfl 2 rfl ?_
          refine go_aload_n dX12_coarse_38 rfl 0 rfl ?_
          refine go_iload_n dX12_coarse_39 rfl 3 rfl ?_
          refine go_iload_n dX12_coarse_40 rfl 1 rfl ?_
          refine go_callV (d1 := d - 1) wVX12_208 kX12 rm_ob rfl (by omega) (m_canThrowOnSome (by omega) (m := (k : Int)) (st := st) (hs := (show rl 1 = s from el1)) (hD := (show rl 11 0 = s 4 from el11)) hI (by omega) (by omega)) rfl (Nat.le_of_ble_eq_true rfl) dX12_coarse_41 (fun w σ1 hP => ?_)
          obtain ⟨rfl, r51, hr51, rfl⟩ := hP
          have q51_1 : r51 1 = s := (hr51 1 (by decide) (by decide)).trans (show rl 1 = s from el1)
          have q51_2 : r51 2 = (r 2) := (hr51 2 (by decide) (by decide)).trans (show rl 2 = (r 2) from el2)
          have q51_3 : r51 3 0 = (r 3 0) := (congrFun (hr51 3 (by decide) (by decide)) 0).trans (show rl 3 0 = (r 3 0) from el3)
          have q51_17 : r51 17 = (r 17) := (hr51 17 (by decide) (by decide)).trans (show rl 17 = (r 17) from el17)
          have q51_18 : r51 18 0 = (r 18 0) := (congrFun (hr51 18 (by decide) (by decide)) 0).trans (show rl 18 0 = (r 18 0) from el18)
          have q51_11 : r51 11 0 = s 4 := (congrFun (hr51 11 (by decide) (by decide)) 0).trans (show rl 11 0 = s 4 from el11)
          refine go_if_eqB (tgt := 51) dX12_coarse_44 (by decide) (fun c_44 => ?_) (fun c_44 => ?_)
          · refine go_iconst (v := Int32.ofInt 1) dX12_coarse_51 rfl ?_
            refine go_iload_n dX12_coarse_52 rfl 3 rfl ?_
            refine go_shl1 (k := k) (by omega) dX12_coarse_53 ?_
            refine go_orI ⟨k, by omega, (sp_bits_b (sp_coaB s st) k).1, (sp_bits_b (sp_coaB s st) k).2, by simp⟩ dX12_coarse_54 ?_
            refine go_istore_nS (lv' := [(0, .ref mb), (1, rj_i (st : Int)), (2, rj_i ((sp_bits (sp_coaB s st) k) + (2 ^ k))), (3, rj_i (k : Int))]) rfl (by decide) rfl dX12_coarse_55 ?_
            refine go_iincI (a := (k : Int)) (n := 1) (k0 := 3) (lv' := [(0, .ref mb), (1, rj_i (st : Int)), (2, rj_i ((sp_bits (sp_coaB s st) k) + (2 ^ k))), (3, rj_i ((k : Int) + 1))]) rfl (by decide) rfl dX12_coarse_56 ?_
            refine go_goto (tgt := 27) dX12_coarse_59 (by decide) ?_
            exact go_eq rfl (lv' := [(0, .ref mb), (1, rj_i (st : Int)), (2, rj_i (sp_bits (sp_coaB s st) (k + 1))), (3, rj_i ((k + 1 : Nat) : Int))]) (rj_lk (rj_lk (rj_lj (by rw [sp_bits]; simp [sp_coaB, c_44]) (rj_lj (by omega) rfl)))) rfl rfl (ih (k + 1) r51 (by omega) (hr.tr hr51))
          · refine go_iconst (v := Int32.ofInt 0) dX12_coarse_47 rfl ?_
            refine go_goto (tgt := 54) dX12_coarse_48 (by decide) ?_
            refine go_orI ⟨k, by omega, (sp_bits_b (sp_coaB s st) k).1, (sp_bits_b (sp_coaB s st) k).2, by simp⟩ dX12_coarse_54 ?_
            refine go_istore_nS (lv' := [(0, .ref mb), (1, rj_i (st : Int)), (2, rj_i ((sp_bits (sp_coaB s st) k) + 0)), (3, rj_i (k : Int))]) rfl (by decide) rfl dX12_coarse_55 ?_
            refine go_iincI (a := (k : Int)) (n := 1) (k0 := 3) (lv' := [(0, .ref mb), (1, rj_i (st : Int)), (2, rj_i ((sp_bits (sp_coaB s st) k) + 0)), (3, rj_i ((k : Int) + 1))]) rfl (by decide) rfl dX12_coarse_56 ?_
            refine go_goto (tgt := 27) dX12_coarse_59 (by decide) ?_
            exact go_eq rfl (lv' := [(0, .ref mb), (1, rj_i (st : Int)), (2, rj_i (sp_bits (sp_coaB s st) (k + 1))), (3, rj_i ((k + 1 : Nat) : Int))]) (rj_lk (rj_lk (rj_lj (by rw [sp_bits]; simp [sp_coaB, c_44]) (rj_lj (by omega) rfl)))) rfl rfl (ih (k + 1) r51 (by omega) (hr.tr hr51))
    exact go_eq rfl (lv' := [(0, .ref mb), (1, rj_i (st : Int)), (2, rj_i (sp_bits (sp_coaB s st) 0)), (3, rj_i ((0 : Nat) : Int))]) (rj_lk (rj_lk (rj_lj (rfl) (rj_lj (by omega) rfl)))) rfl rfl (loop (s 0).toNat 0 r1 (by omega) rm_t.rf)
  · refine go_bipush (v := Int32.ofInt (-2)) dX12_coarse_10 (by decide) ?_
    refine go_retI rfl rfl ?_ dX12_coarse_12
    exact ⟨rj_vi (by unfold sp_coaF; rw [if_neg (by omega)]), r, ⟨(show r 1 = s from hs), (show r 2 = (r 2) from rfl), (show r 3 0 = (r 3 0) from rfl), (show r 17 = (r 17) from rfl), (show r 18 0 = (r 18 0) from rfl)⟩, rfl⟩
def sp_q1 (s : Int → Int) (p q : Int) : Int := if 0 < sp_lat s (s 4) p q then 1 else 0
def sp_qn (s : Int → Int) (p : Int) : Int := sp_sum (sp_q1 s p) 8
theorem sp_qn_b (s : Int → Int) (p : Int) : 0 ≤ sp_qn s p ∧ sp_qn s p ≤ 8 := by
  have h := sp_sum_b (f := sp_q1 s p) (B := 1) (N := 8) (fun k a b => by unfold sp_q1; split <;> omega) 8 (Nat.le_refl _)
  unfold sp_qn; omega
/-- the odds that i quarters of n are clear -/
def sp_odd (c n i : Int) : Int := sp_ch n i.toNat * (10 - c) ^ i.toNat * c ^ (n - i).toNat
def sp_upN (c n : Int) (k : Nat) : Nat → Int
  | 0 => 0
  | m + 1 => sp_upN c n k m + sp_odd c n ((k + m : Nat) : Int)
def sp_upA (c n : Int) (k : Nat) : Int := sp_upN c n k (n + 1 - (k : Int)).toNat
theorem sp_pow_b : ∀ c : Nat, c ≤ 10 → ∀ e : Nat, e ≤ 8 → (c : Int) ^ e ≤ 100000000 := by decide +kernel
theorem sp_pow_b2 {c : Int} (h : 0 ≤ c ∧ c ≤ 10) {e : Nat} (he : e ≤ 8) : 0 ≤ c ^ e ∧ c ^ e ≤ 100000000 := by
  obtain ⟨n, rfl⟩ := Int.eq_ofNat_of_zero_le h.1
  exact ⟨Int.pow_nonneg (by omega), sp_pow_b n (by omega) e he⟩
theorem rj_mb {a b A B : Int} (ha : 0 ≤ a ∧ a ≤ A) (hb : 0 ≤ b ∧ b ≤ B) : 0 ≤ a * b ∧ a * b ≤ A * B := ⟨Int.mul_nonneg ha.1 hb.1, Int.mul_le_mul ha.2 hb.2 hb.1 (by omega)⟩
theorem sp_odd_b {c n i : Int} (hc : 0 ≤ c ∧ c ≤ 10) (hn : 0 ≤ n ∧ n ≤ 8) (hi : 0 ≤ i ∧ i ≤ n) : 0 ≤ sp_odd c n i ∧ sp_odd c n i ≤ 700000000000000000 := by
  have h1 := sp_ch_b (n := n) (i := i.toNat) hn (by omega)
  have h2 := sp_pow_b2 (c := 10 - c) (by omega) (e := i.toNat) (by omega)
  have h3 := sp_pow_b2 (c := c) hc (e := (n - i).toNat) (by omega)
  have h4 := rj_mb h1 h2
  have h5 := rj_mb h4 h3
  unfold sp_odd
  omega
theorem sp_upN_b {c n : Int} (hc : 0 ≤ c ∧ c ≤ 10) (hn : 0 ≤ n ∧ n ≤ 8) (k : Nat) : ∀ m : Nat, ((k + m : Nat) : Int) ≤ n + 1 → 0 ≤ sp_upN c n k m ∧ sp_upN c n k m ≤ 700000000000000000 * (m : Int)
  | 0, _ => by simp [sp_upN]
  | m + 1, h => by
    have h1 := sp_upN_b hc hn k m (by omega)
    have h2 := sp_odd_b (i := ((k + m : Nat) : Int)) hc hn (by omega)
    rw [sp_upN]
    omega
def sp_keptF (s : Int → Int) (p k part : Int) : Int :=
  if (0 ≤ p ∧ p < s 1) ∧ (0 ≤ k ∧ k ≤ 8) ∧ 0 ≤ part ∧ part ≤ 1 then
    (if part = 0 then sp_upA (sp_tells s 284 0) (sp_qn s p) k.toNat else 10 ^ (sp_qn s p).toNat) / ((Nat.gcd (sp_upA (sp_tells s 284 0) (sp_qn s p) k.toNat).toNat ((10 : Int) ^ (sp_qn s p).toNat).toNat : Nat) : Int)
  else -9223372036854775808
set_option maxRecDepth 20000 in
/-- m_kept -/
theorem m_kept {X9 : rj_X} {σ : rj_H} {d : Nat} {mb : Nat} {r : rm_R} {p k9 part : Int} (hd : 6 ≤ d) (hp : -2147483648 ≤ p ∧ p < 2147483648) (hk9 : -2147483648 ≤ k9 ∧ k9 < 2147483648) (hpart : -2147483648 ≤ part ∧ part < 2147483648) {s : Int → Int} (hs : r 1 = s) (hI : sp_I s) : rj_Cl X9 d yX12_kept cX12_kept 10 (some .long) [.ref mb, rj_i p, rj_i k9, rj_i part] (rm_p X9 mb r σ) (fun w9 τ => w9 = some (rj_l (sp_keptF s p k9 part)) ∧ ∃ r0, rm_V r r0 s ∧ τ = rm_p X9 mb r0 σ) := by
  obtain ⟨⟨h0, h1, h2, h3, h4, h5, h6, h7⟩, hM, hP, hW, hL, hV⟩ := id hI
  obtain ⟨v1, v2, v3, v4⟩ := id hV
  refine go_call (by decide +kernel) (Nat.le_of_ble_eq_true rfl) ?_
  refine go_eq (pc' := 0) (lv' := [(0, .ref mb), (1, rj_i p), (2, rj_i k9), (3, rj_i part)]) (st' := []) rfl rfl rfl rfl ?_
  refine go_aload_n dX12_kept_0 rfl 0 rfl ?_
  refine go_iload_n dX12_kept_1 rfl 1 rfl ?_
  refine go_callV (d1 := d - 1) wVX12_59 kX12 rm_ob rfl (by omega) (m_isPatch (p := p) (by omega) (by omega) (hs := (show r 1 = s from hs)) (by omega)) rfl (Nat.le_of_ble_eq_true rfl) dX12_kept_2 (fun w σ1 hP => ?_)
  obtain ⟨rfl, rfl⟩ := hP
  refine go_if_eqB (tgt := 27) dX12_kept_5 (by decide) (fun c_5 => ?_) (fun c_5 => ?_)
  · refine go_ldc2 (z := Int64.ofInt (-9223372036854775808)) (by exact qX12_211) dX12_kept_27 ?_
    refine go_retLI rfl ?_ dX12_kept_30
    exact ⟨rj_vl (by unfold sp_keptF; rw [if_neg (by omega)]), r, ⟨(show r 1 = s from hs), (show r 2 = (r 2) from rfl), (show r 3 0 = (r 3 0) from rfl), (show r 17 = (r 17) from rfl), (show r 18 0 = (r 18 0) from rfl)⟩, rfl⟩
  · refine go_iload_n dX12_kept_8 rfl 2 rfl ?_
    refine go_iconst (v := Int32.ofInt 0) dX12_kept_9 rfl ?_
    refine go_bipush (v := Int32.ofInt 8) dX12_kept_10 (by decide) ?_
    refine go_callS (d1 := d - 1) wSX12_47 rfl (by omega) (m_in (v := k9) (lo := 0) (hi := 8) (by omega) (by omega) (by omega)) rfl (Nat.le_of_ble_eq_true rfl) dX12_kept_12 (fun w σ1 hP => ?_)
    obtain ⟨rfl, rfl⟩ := hP
    refine go_if_eqB (tgt := 27) dX12_kept_15 (by decide) (fun c_15 => ?_) (fun c_15 => ?_)
    · refine go_ldc2 (z := Int64.ofInt (-9223372036854775808)) (by exact qX12_211) dX12_kept_27 ?_
      refine go_retLI rfl ?_ dX12_kept_30
      exact ⟨rj_vl (by unfold sp_keptF; rw [if_neg (by omega)]), r, ⟨(show r 1 = s from hs), (show r 2 = (r 2) from rfl), (show r 3 0 = (r 3 0) from rfl), (show r 17 = (r 17) from rfl), (show r 18 0 = (r 18 0) from rfl)⟩, rfl⟩
    · refine go_iload_n dX12_kept_18 rfl 3 rfl ?_
      refine go_iconst (v := Int32.ofInt 0) dX12_kept_19 rfl ?_
      refine go_iconst (v := Int32.ofInt 1) dX12_kept_20 rfl ?_
      refine go_callS (d1 := d - 1) wSX12_47 rfl (by omega) (m_in (v := part) (lo := 0) (hi := 1) (by omega) (by omega) (by omega)) rfl (Nat.le_of_ble_eq_true rfl) dX12_kept_21 (fun w σ1 hP => ?_)
      obtain ⟨rfl, rfl⟩ := hP
      refine go_if_neB (tgt := 31) dX12_kept_24 (by decide) (fun c_24 => ?_) (fun c_24 => ?_)
      · refine go_aload_n dX12_kept_31 rfl 0 rfl ?_
        refine go_aload_n dX12_kept_32 rfl 0 rfl ?_
        refine grm_g1 rfl dX12_kept_33 ?_
        refine go_iconst (v := Int32.ofInt 4) dX12_kept_36 rfl ?_
        refine grm_l1 (by omega) (by omega) dX12_kept_37 ?_
        rw [show r 1 = s from hs]
        refine grm_w11 rfl dX12_kept_38 ?_
        obtain ⟨r1, e1⟩ : ∃ x_, x_ = (rm_u r 11 (fun _ => s 4)) := ⟨_, rfl⟩
        rw [← e1]
        have q1_1 : r1 1 = s := by rw [e1]; exact (show (rm_u r 11 (fun _ => s 4)) 1 = s from hs)
        have q1_2 : r1 2 = (r 2) := by rw [e1]; exact (show (rm_u r 11 (fun _ => s 4)) 2 = (r 2) from rfl)
        have q1_3 : r1 3 0 = (r 3 0) := by rw [e1]; exact (show (rm_u r 11 (fun _ => s 4)) 3 0 = (r 3 0) from rfl)
        have q1_17 : r1 17 = (r 17) := by rw [e1]; exact (show (rm_u r 11 (fun _ => s 4)) 17 = (r 17) from rfl)
        have q1_18 : r1 18 0 = (r 18 0) := by rw [e1]; exact (show (rm_u r 11 (fun _ => s 4)) 18 0 = (r 18 0) from rfl)
        have q1_11 : r1 11 0 = s 4 := by rw [e1]; exact (show (rm_u r 11 (fun _ => s 4)) 11 0 = s 4 from rfl)
        refine go_iconst (v := Int32.ofInt 0) dX12_kept_41 rfl ?_
        refine go_istoreS (lv' := [(0, .ref mb), (1, rj_i p), (2, rj_i k9), (3, rj_i part), (4, rj_i 0)]) (by decide) rfl dX12_kept_42 ?_
        refine go_iconst (v := Int32.ofInt 0) dX12_kept_44 rfl ?_
        refine go_istoreS (lv' := [(0, .ref mb), (1, rj_i p), (2, rj_i k9), (3, rj_i part), (4, rj_i 0), (5, rj_i 0)]) (by decide) rfl dX12_kept_45 ?_
        have loop : ∀ (n k : Nat) (rl : rm_R), k + n = (8 : Int).toNat → rm_t r1 rl → rj_Go X9 yX12_kept cX12_kept 10 (some .long) d (fun w9 τ => w9 = some (rj_l (sp_keptF s p k9 part)) ∧ ∃ r0, rm_V r r0 s ∧ τ = rm_p X9 mb r0 σ) 47 [(0, .ref mb), (1, rj_i p), (2, rj_i k9), (3, rj_i part), (4, rj_i (sp_sum (sp_q1 s p) k)), (5, rj_i (k : Int))] [] (rm_p X9 mb rl σ) := by
          intro n
          induction n with
          | zero =>
            intro k rl hk hr 
            have el1 : rl 1 = s := (hr 1 (by decide) (by decide)).trans (show r1 1 = s from q1_1)
            have el2 : rl 2 = (r 2) := (hr 2 (by decide) (by decide)).trans (show r1 2 = (r 2) from q1_2)
            have el3 : rl 3 0 = (r 3 0) := (congrFun (hr 3 (by decide) (by decide)) 0).trans (show r1 3 0 = (r 3 0) from q1_3)
            have el17 : rl 17 = (r 17) := (hr 17 (by decide) (by decide)).trans (show r1 17 = (r 17) from q1_17)
            have el18 : rl 18 0 = (r 18 0) := (congrFun (hr 18 (by decide) (by decide)) 0).trans (show r1 18 0 = (r 18 0) from q1_18)
            have el11 : rl 11 0 = s 4 := (congrFun (hr 11 (by decide) (by decide)) 0).trans (show r1 11 0 = s 4 from q1_11)
            refine go_iload dX12_kept_47 5 rfl ?_
            refine go_bipush (v := Int32.ofInt 8) dX12_kept_49 (by decide) ?_
            refine go_icmp_geI (tgt := 80) (by omega) (by omega) dX12_kept_51 (by decide) (fun c_51 => ?_) (fun c_51 => ?_)
            · have hn8 := sp_qn_b s p
              have hnn : sp_sum (sp_q1 s p) k = sp_qn s p := by unfold sp_qn; rw [show 8 = k by omega]
              rw [hnn]
              obtain ⟨n, hn⟩ : ∃ n, n = sp_qn s p := ⟨_, rfl⟩
              rw [← hn] at hn8 ⊢
              refine go_aload_n dX12_kept_80 rfl 0 rfl ?_
              refine go_sipush (v := Int32.ofInt 284) dX12_kept_81 (by decide) ?_
              refine go_iconst (v := Int32.ofInt 0) dX12_kept_84 rfl ?_
              refine go_callV (d1 := d - 1) wVX12_148 kX12 rm_ob rfl (by omega) (m_tellsOf (w := 284) (n := 0) (by omega) (by omega) (hs := (show rl 1 = s from el1)) h7) rfl (Nat.le_of_ble_eq_true rfl) dX12_kept_85 (fun w σ1 hP => ?_)
              obtain ⟨rfl, rfl⟩ := hP
              refine go_istoreS (lv' := [(0, .ref mb), (1, rj_i p), (2, rj_i k9), (3, rj_i part), (4, rj_i n), (5, rj_i (sp_tells s 284 0))]) (by decide) rfl dX12_kept_88 ?_
              obtain ⟨c, hc⟩ : ∃ c, c = sp_tells s 284 0 := ⟨_, rfl⟩
              rw [← hc] at v2 ⊢
              obtain ⟨kk, rfl⟩ := Int.eq_ofNat_of_zero_le (show 0 ≤ k9 by omega)
              refine go_lconst0 dX12_kept_90 ?_
              refine go_lstoreS (lv' := [(0, .ref mb), (1, rj_i p), (2, rj_i (kk : Int)), (3, rj_i part), (4, rj_i n), (5, rj_i c), (6, rj_l 0)]) (by decide) rfl dX12_kept_91 ?_
              refine go_iload_n dX12_kept_93 rfl 2 rfl ?_
              refine go_istoreS (lv' := [(0, .ref mb), (1, rj_i p), (2, rj_i (kk : Int)), (3, rj_i part), (4, rj_i n), (5, rj_i c), (6, rj_l 0), (8, rj_i (kk : Int))]) (by decide) rfl dX12_kept_94 ?_
              have loop2 : ∀ f m : Nat, m + f = (n + 1 - (kk : Int)).toNat → rj_Go X9 yX12_kept cX12_kept 10 (some .long) d (fun w9 τ => w9 = some (rj_l (sp_keptF s p (kk : Int) part)) ∧ ∃ r0, rm_V r r0 s ∧ τ = rm_p X9 mb r0 σ) 96 [(0, .ref mb), (1, rj_i p), (2, rj_i (kk : Int)), (3, rj_i part), (4, rj_i n), (5, rj_i c), (6, rj_l (sp_upN c n kk m)), (8, rj_i ((kk + m : Nat) : Int))] [] (rm_p X9 mb rl σ) := by
                intro f
                induction f with
                | zero =>
                  intro m hm
                  have ub : 0 ≤ sp_upN c n kk m ∧ sp_upN c n kk m ≤ 7000000000000000000 := by
                    by_cases hmm : ((kk + m : Nat) : Int) ≤ n + 1
                    · have := sp_upN_b v2 hn8 kk m hmm; omega
                    · have : m = 0 := by omega
                      subst this; simp [sp_upN]
                  have pb := sp_pow_b2 (c := 10) (by omega) (e := n.toNat) (by omega)
                  have pp : 0 < (10 : Int) ^ n.toNat := Int.pow_pos (by omega)
                  have gp : 0 < Nat.gcd (sp_upN c n kk m).toNat ((10 : Int) ^ n.toNat).toNat := Nat.gcd_pos_of_pos_right _ (by omega)
                  have gl : Nat.gcd (sp_upN c n kk m).toNat ((10 : Int) ^ n.toNat).toNat ≤ ((10 : Int) ^ n.toNat).toNat := Nat.gcd_le_right _ (by omega)
                  refine go_iload dX12_kept_96 7 rfl ?_
                  refine go_iload dX12_kept_98 4 rfl ?_
                  refine go_icmp_gtI (tgt := 145) (by omega) (by omega) dX12_kept_100 (by decide) (fun c_100 => ?_) (fun c_100 => ?_)
                  · refine go_ldc2 (z := Int64.ofInt 10) (by exact qX12_221) dX12_kept_145 ?_
                    refine go_iload dX12_kept_148 4 rfl ?_
                    refine go_callS (d1 := d - 1) wSX12_217 rfl (by omega) (m_power (b := 10) (e9 := n) (by omega)) rfl (Nat.le_of_ble_eq_true rfl) dX12_kept_150 (fun w σ1 hP => ?_)
                    obtain ⟨rfl, rfl⟩ := hP
                    refine go_lstoreS (lv' := [(0, .ref mb), (1, rj_i p), (2, rj_i (kk : Int)), (3, rj_i part), (4, rj_i n), (5, rj_i c), (6, rj_l (sp_upN c n kk m)), (8, rj_l (10 ^ (n).toNat))]) (by decide) rfl dX12_kept_153 ?_
                    refine go_iload_n dX12_kept_155 rfl 3 rfl ?_
                    refine go_if_neI (tgt := 164) (by omega) dX12_kept_156 (by decide) (fun c_156 => ?_) (fun c_156 => ?_)
                    · refine go_lload dX12_kept_164 7 rfl ?_
                      refine go_lload dX12_kept_166 6 rfl ?_
                      refine go_lload dX12_kept_168 7 rfl ?_
                      refine go_callS (d1 := d - 1) wSX12_223 rfl (by omega) (m_divisor (a := sp_upN c n kk m) (b := 10 ^ (n).toNat) (by omega) (by omega)) rfl (Nat.le_of_ble_eq_true rfl) dX12_kept_170 (fun w σ1 hP => ?_)
                      obtain ⟨rfl, rfl⟩ := hP
                      refine go_ldivI (by omega) (by omega) dX12_kept_173 ?_
                      refine go_retLI rfl ?_ dX12_kept_174
                      exact ⟨rj_vl (by unfold sp_keptF; rw [if_pos (by omega), if_neg (by omega), ← hn, ← hc]; unfold sp_upA; rw [show ((kk : Nat) : Int).toNat = kk by omega, show (n + 1 - (kk : Int)).toNat = m by omega]), rl, ⟨(show rl 1 = s from el1), (show rl 2 = (r 2) from el2), (show rl 3 0 = (r 3 0) from el3), (show rl 17 = (r 17) from el17), (show rl 18 0 = (r 18 0) from el18)⟩, rfl⟩
                    · refine go_lload dX12_kept_159 6 rfl ?_
                      refine go_goto (tgt := 166) dX12_kept_161 (by decide) ?_
                      refine go_lload dX12_kept_166 6 rfl ?_
                      refine go_lload dX12_kept_168 7 rfl ?_
                      refine go_callS (d1 := d - 1) wSX12_223 rfl (by omega) (m_divisor (a := sp_upN c n kk m) (b := 10 ^ (n).toNat) (by omega) (by omega)) rfl (Nat.le_of_ble_eq_true rfl) dX12_kept_170 (fun w σ1 hP => ?_)
                      obtain ⟨rfl, rfl⟩ := hP
                      refine go_ldivI (by omega) (by omega) dX12_kept_173 ?_
                      refine go_retLI rfl ?_ dX12_kept_174
                      exact ⟨rj_vl (by unfold sp_keptF; rw [if_pos (by omega), if_pos (by omega), ← hn, ← hc]; unfold sp_upA; rw [show ((kk : Nat) : Int).toNat = kk by omega, show (n + 1 - (kk : Int)).toNat = m by omega]), rl, ⟨(show rl 1 = s from el1), (show rl 2 = (r 2) from el2), (show rl 3 0 = (r 3 0) from el3), (show rl 17 = (r 17) from el17), (show rl 18 0 = (r 18 0) from el18)⟩, rfl⟩
                  · exact absurd c_100 (by omega)
                | succ f ih2 =>
                  intro m hm
                  refine go_iload dX12_kept_96 7 rfl ?_
                  refine go_iload dX12_kept_98 4 rfl ?_
                  refine go_icmp_gtI (tgt := 145) (by omega) (by omega) dX12_kept_100 (by decide) (fun c_100 => ?_) (fun c_100 => ?_)
                  · exact absurd c_100 (by omega)
                  · refine go_lload dX12_kept_103 6 rfl ?_
                    refine go_iload dX12_kept_105 4 rfl ?_
                    refine go_iload dX12_kept_107 7 rfl ?_
                    refine go_callS (d1 := d - 1) wSX12_213 rfl (by omega) (m_choose (m9 := n) (k9 := ((kk + m : Nat) : Int)) (by omega) (by omega)) rfl (Nat.le_of_ble_eq_true rfl) dX12_kept_109 (fun w σ1 hP => ?_)
                    obtain ⟨rfl, rfl⟩ := hP
                    refine go_bipush (v := Int32.ofInt 10) dX12_kept_112 (by decide) ?_
                    refine go_iload dX12_kept_114 5 rfl ?_
                    refine go_subI dX12_kept_116 ?_
                    refine go_i2lI (by omega) dX12_kept_117 ?_
                    refine go_iload dX12_kept_118 7 rfl ?_
                    refine go_callS (d1 := d - 1) wSX12_217 rfl (by omega) (m_power (b := 10 - c) (e9 := ((kk + m : Nat) : Int)) (by omega)) rfl (Nat.le_of_ble_eq_true rfl) dX12_kept_120 (fun w σ1 hP => ?_)
                    obtain ⟨rfl, rfl⟩ := hP
                    refine go_lmulI dX12_kept_123 ?_
                    refine go_iload dX12_kept_124 5 rfl ?_
                    refine go_i2lI (by omega) dX12_kept_126 ?_
                    refine go_iload dX12_kept_127 4 rfl ?_
                    refine go_iload dX12_kept_129 7 rfl ?_
                    refine go_subI dX12_kept_131 ?_
                    refine go_callS (d1 := d - 1) wSX12_217 rfl (by omega) (m_power (b := c) (e9 := n - ((kk + m : Nat) : Int)) (by omega)) rfl (Nat.le_of_ble_eq_true rfl) dX12_kept_132 (fun w σ1 hP => ?_)
                    obtain ⟨rfl, rfl⟩ := hP
                    refine go_lmulI dX12_kept_135 ?_
                    refine go_laddI dX12_kept_136 ?_
                    refine go_lstoreS (lv' := [(0, .ref mb), (1, rj_i p), (2, rj_i (kk : Int)), (3, rj_i part), (4, rj_i n), (5, rj_i c), (6, rj_l ((sp_upN c n kk m) + (((sp_ch n (((kk + m : Nat) : Int)).toNat) * ((10 - c) ^ (((kk + m : Nat) : Int)).toNat)) * (c ^ (n - ((kk + m : Nat) : Int)).toNat)))), (8, rj_i ((kk + m : Nat) : Int))]) (by decide) rfl dX12_kept_137 ?_
                    refine go_iincI (a := ((kk + m : Nat) : Int)) (n := 1) (k0 := 7) (lv' := [(0, .ref mb), (1, rj_i p), (2, rj_i (kk : Int)), (3, rj_i part), (4, rj_i n), (5, rj_i c), (6, rj_l ((sp_upN c n kk m) + (((sp_ch n (((kk + m : Nat) : Int)).toNat) * ((10 - c) ^ (((kk + m : Nat) : Int)).toNat)) * (c ^ (n - ((kk + m : Nat) : Int)).toNat)))), (8, rj_i (((kk + m : Nat) : Int) + 1))]) rfl (by decide) rfl dX12_kept_139 ?_
                    refine go_goto (tgt := 96) dX12_kept_142 (by decide) ?_
                    exact go_eq rfl (lv' := [(0, .ref mb), (1, rj_i p), (2, rj_i (kk : Int)), (3, rj_i part), (4, rj_i n), (5, rj_i c), (6, rj_l (sp_upN c n kk (m + 1))), (8, rj_i ((kk + (m + 1) : Nat) : Int))]) (rj_lk (rj_lk (rj_lk (rj_lk (rj_lk (rj_lk (rj_lL (rfl) (rj_lj (by omega) rfl)))))))) rfl rfl (ih2 (m + 1) (by omega))
              exact go_eq rfl (lv' := [(0, .ref mb), (1, rj_i p), (2, rj_i (kk : Int)), (3, rj_i part), (4, rj_i n), (5, rj_i c), (6, rj_l (sp_upN c n kk 0)), (8, rj_i ((kk + 0 : Nat) : Int))]) (rj_lk (rj_lk (rj_lk (rj_lk (rj_lk (rj_lk (rj_lL (rfl) (rj_lj (by omega) rfl)))))))) rfl rfl (loop2 (n + 1 - (kk : Int)).toNat 0 (by omega))
            · exact absurd c_51 (by omega)
          | succ n ih =>
            intro k rl hk hr 
            have el1 : rl 1 = s := (hr 1 (by decide) (by decide)).trans (show r1 1 = s from q1_1)
            have el2 : rl 2 = (r 2) := (hr 2 (by decide) (by decide)).trans (show r1 2 = (r 2) from q1_2)
            have el3 : rl 3 0 = (r 3 0) := (congrFun (hr 3 (by decide) (by decide)) 0).trans (show r1 3 0 = (r 3 0) from q1_3)
            have el17 : rl 17 = (r 17) := (hr 17 (by decide) (by decide)).trans (show r1 17 = (r 17) from q1_17)
            have el18 : rl 18 0 = (r 18 0) := (congrFun (hr 18 (by decide) (by decide)) 0).trans (show r1 18 0 = (r 18 0) from q1_18)
            have el11 : rl 11 0 = s 4 := (congrFun (hr 11 (by decide) (by decide)) 0).trans (show r1 11 0 = s 4 from q1_11)
            have lb := sp_lat_b (D := s 4) (p := p) (q := (k : Int)) h0 hM
            refine go_iload dX12_kept_47 5 rfl ?_
            refine go_bipush (v := Int32.ofInt 8) dX12_kept_49 (by decide) ?_
            refine go_icmp_geI (tgt := 80) (by omega) (by omega) dX12_kept_51 (by decide) (fun c_51 => ?_) (fun c_51 => ?_)
            · exact absurd c_51 (by omega)
            · refine go_iload dX12_kept_54 4 rfl ?_
              refine go_aload_n dX12_kept_56 rfl 0 rfl ?_
              refine go_iload_n dX12_kept_57 rfl 1 rfl ?_
              refine go_iload dX12_kept_58 5 rfl ?_
              refine go_callV (d1 := d - 1) wVX12_190 kX12 rm_ob rfl (by omega) (m_lightAt (by omega) (p := p) (q := (k : Int)) (hs := (show rl 1 = s from el1)) (hD := (show rl 11 0 = s 4 from el11)) (by omega) hI (by omega) (by omega)) rfl (Nat.le_of_ble_eq_true rfl) dX12_kept_60 (fun w σ1 hP => ?_)
              obtain ⟨rfl, r51, hr51, rfl⟩ := hP
              have q51_1 : r51 1 = s := (hr51 1 (by decide) (by decide)).trans (show rl 1 = s from el1)
              have q51_2 : r51 2 = (r 2) := (hr51 2 (by decide) (by decide)).trans (show rl 2 = (r 2) from el2)
              have q51_3 : r51 3 0 = (r 3 0) := (congrFun (hr51 3 (by decide) (by decide)) 0).trans (show rl 3 0 = (r 3 0) from el3)
              have q51_17 : r51 17 = (r 17) := (hr51 17 (by decide) (by decide)).trans (show rl 17 = (r 17) from el17)
              have q51_18 : r51 18 0 = (r 18 0) := (congrFun (hr51 18 (by decide) (by decide)) 0).trans (show rl 18 0 = (r 18 0) from el18)
              have q51_11 : r51 11 0 = s 4 := (congrFun (hr51 11 (by decide) (by decide)) 0).trans (show rl 11 0 = s 4 from el11)
              refine go_if_leI (tgt := 70) (by omega) dX12_kept_63 (by decide) (fun c_63 => ?_) (fun c_63 => ?_)
              · refine go_iconst (v := Int32.ofInt 0) dX12_kept_70 rfl ?_
                refine go_addI dX12_kept_71 ?_
                refine go_istoreS (lv' := [(0, .ref mb), (1, rj_i p), (2, rj_i k9), (3, rj_i part), (4, rj_i ((sp_sum (sp_q1 s p) k) + 0)), (5, rj_i (k : Int))]) (by decide) rfl dX12_kept_72 ?_
                refine go_iincI (a := (k : Int)) (n := 1) (k0 := 5) (lv' := [(0, .ref mb), (1, rj_i p), (2, rj_i k9), (3, rj_i part), (4, rj_i ((sp_sum (sp_q1 s p) k) + 0)), (5, rj_i ((k : Int) + 1))]) rfl (by decide) rfl dX12_kept_74 ?_
                refine go_goto (tgt := 47) dX12_kept_77 (by decide) ?_
                exact go_eq rfl (lv' := [(0, .ref mb), (1, rj_i p), (2, rj_i k9), (3, rj_i part), (4, rj_i (sp_sum (sp_q1 s p) (k + 1))), (5, rj_i ((k + 1 : Nat) : Int))]) (rj_lk (rj_lk (rj_lk (rj_lk (rj_lj (by rw [sp_sum, sp_q1, if_neg (by omega)]) (rj_lj (by omega) rfl)))))) rfl rfl (ih (k + 1) r51 (by omega) (hr.tr hr51))
              · refine go_iconst (v := Int32.ofInt 1) dX12_kept_66 rfl ?_
                refine go_goto (tgt := 71) dX12_kept_67 (by decide) ?_
                refine go_addI dX12_kept_71 ?_
                refine go_istoreS (lv' := [(0, .ref mb), (1, rj_i p), (2, rj_i k9), (3, rj_i part), (4, rj_i ((sp_sum (sp_q1 s p) k) + 1)), (5, rj_i (k : Int))]) (by decide) rfl dX12_kept_72 ?_
                refine go_iincI (a := (k : Int)) (n := 1) (k0 := 5) (lv' := [(0, .ref mb), (1, rj_i p), (2, rj_i k9), (3, rj_i part), (4, rj_i ((sp_sum (sp_q1 s p) k) + 1)), (5, rj_i ((k : Int) + 1))]) rfl (by decide) rfl dX12_kept_74 ?_
                refine go_goto (tgt := 47) dX12_kept_77 (by decide) ?_
                exact go_eq rfl (lv' := [(0, .ref mb), (1, rj_i p), (2, rj_i k9), (3, rj_i part), (4, rj_i (sp_sum (sp_q1 s p) (k + 1))), (5, rj_i ((k + 1 : Nat) : Int))]) (rj_lk (rj_lk (rj_lk (rj_lk (rj_lj (by rw [sp_sum, sp_q1, if_pos (by omega)]) (rj_lj (by omega) rfl)))))) rfl rfl (ih (k + 1) r51 (by omega) (hr.tr hr51))
        exact go_eq rfl (lv' := [(0, .ref mb), (1, rj_i p), (2, rj_i k9), (3, rj_i part), (4, rj_i (sp_sum (sp_q1 s p) 0)), (5, rj_i ((0 : Nat) : Int))]) (rj_lk (rj_lk (rj_lk (rj_lk (rj_lj (rfl) (rj_lj (by omega) rfl)))))) rfl rfl (loop (8 : Int).toNat 0 r1 (by omega) rm_t.rf)
      · refine go_ldc2 (z := Int64.ofInt (-9223372036854775808)) (by exact qX12_211) dX12_kept_27 ?_
        refine go_retLI rfl ?_ dX12_kept_30
        exact ⟨rj_vl (by unfold sp_keptF; rw [if_neg (by omega)]), r, ⟨(show r 1 = s from hs), (show r 2 = (r 2) from rfl), (show r 3 0 = (r 3 0) from rfl), (show r 17 = (r 17) from rfl), (show r 18 0 = (r 18 0) from rfl)⟩, rfl⟩
