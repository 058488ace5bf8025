/-! THE REFERENCE, 6: can, has, judged, gone, free, plan, passed -/
/-- all but scratch stays; s becomes s' -/
def rm_V (r r' : rm_R) (s' : Int → Int) : Prop := r' 1 = s' ∧ r' 2 = r 2 ∧ r' 3 0 = r 3 0 ∧ r' 17 = r 17 ∧ r' 18 0 = r 18 0
/-- bits -/
def sp_bits (P : Int → Bool) : Nat → Int
  | 0 => 0
  | n + 1 => sp_bits P n + (if P (n : Int) then 2 ^ n else 0)
theorem sp_bits_b (P : Int → Bool) : ∀ n : Nat, 0 ≤ sp_bits P n ∧ sp_bits P n < 2 ^ n
  | 0 => by simp [sp_bits]
  | n + 1 => by
    have h := sp_bits_b P n
    rw [sp_bits, Int.pow_succ]
    split <;> omega
theorem rj_dshl : ∀ k : Nat, k < 31 → (nI 1) <<< (nI k &&& 31) = nI (2 ^ k) := by decide +kernel
theorem rj_dor : ∀ k : Nat, k < 8 → ∀ x : Nat, x < 256 → x < 2 ^ k → nI x ||| nI (2 ^ k) = nI (x + 2 ^ k) := by decide +kernel
section BI
variable {X9 : rj_X} {y9 : MethodName} {cc : ByteArray} {nL : Nat} {rt9 : Option FieldType} {d9 : Nat} {P9 : Option Value → rj_H → Prop} {pc : Nat} {lv : List (Nat × Value)} {rest : List Value} {σ : rj_H} {a b : Int}
theorem rj_n2 (k : Nat) : ((2 ^ k : Nat) : Int) = (2 : Int) ^ k := by rw [Int.natCast_pow]; rfl
theorem go_shl1 {k : Nat} (hk : k < 31) (hdg : decode cc pc = .ok (.ishl, 1)) (kk : rj_Go X9 y9 cc nL rt9 d9 P9 (pc + 1) lv (rj_i (2 ^ k) :: rest) σ) : rj_Go X9 y9 cc nL rt9 d9 P9 pc lv (rj_i (k : Int) :: rj_i 1 :: rest) σ := by
  refine go_ishl hdg ?_
  have h := rj_dshl k hk
  rw [rj_nI, rj_nI, rj_nI, rj_n2] at h
  have e : Int32.ofInt 1 <<< (Int32.ofInt (k : Int) &&& 31) = Int32.ofInt (2 ^ k) := h
  rw [e]
  exact kk
/-- a bit more, above those that are there -/
theorem go_orI (h : ∃ k : Nat, k < 8 ∧ 0 ≤ a ∧ a < 2 ^ k ∧ (b = 0 ∨ b = 2 ^ k)) (hdg : decode cc pc = .ok (.ior, 1)) (kk : rj_Go X9 y9 cc nL rt9 d9 P9 (pc + 1) lv (rj_i (a + b) :: rest) σ) : rj_Go X9 y9 cc nL rt9 d9 P9 pc lv (rj_i b :: rj_i a :: rest) σ := by
  refine go_ior hdg ?_
  have e : Int32.ofInt a ||| Int32.ofInt b = Int32.ofInt (a + b) := by
    obtain ⟨k, hk, h0, h1, h2⟩ := h
    rcases h2 with rfl | rfl
    · rw [Int.add_zero]; exact Int32.or_zero
    · obtain ⟨x, rfl⟩ := Int.eq_ofNat_of_zero_le h0
      have hx : x < 2 ^ k := by have := rj_n2 k; omega
      have h256 : (2 : Nat) ^ k ≤ 2 ^ 8 := Nat.pow_le_pow_right (by decide) (by omega)
      have h := rj_dor k hk x (by omega) hx
      rw [rj_nI, rj_nI, rj_nI, rj_n2, Int.natCast_add, rj_n2] at h
      exact h
  rw [e]
  exact kk
end BI
/-- what can() answers -/
def sp_canB (s : Int → Int) (m p w : Int) : Int → Bool := fun q => if w = 0 then sp_so s (s 4) (-11) m 99 q else sp_can s (s 4) m p q
def sp_canF (s : Int → Int) (m p w : Int) : Int := if (0 ≤ m ∧ m < s 0) ∧ (0 ≤ p ∧ p < s 1) ∧ 0 ≤ w ∧ w ≤ 1 then sp_bits (sp_canB s m p w) 8 else -1
set_option maxRecDepth 20000 in
/-- m_can -/
theorem m_can {X9 : rj_X} {σ : rj_H} {d : Nat} {mb : Nat} {r : rm_R} {m p w : Int} (hd : 5 ≤ d) (hm : -2147483648 ≤ m ∧ m < 2147483648) (hp : -2147483648 ≤ p ∧ p < 2147483648) (hw : -2147483648 ≤ w ∧ w < 2147483648) {s : Int → Int} (hs : r 1 = s) (hI : sp_I s) : rj_Cl X9 d yX12_can cX12_can 7 (some .int) [.ref mb, rj_i m, rj_i p, rj_i w] (rm_p X9 mb r σ) (fun w9 τ => w9 = some (rj_i (sp_canF s m p w)) ∧ ∃ r0, rm_V r r0 s ∧ τ = rm_p X9 mb r0 σ) := by
  obtain ⟨⟨h0, h1, h2, h3, h4, h5, h6, h7⟩, hM, hP, hW, hL, hV⟩ := id hI
  obtain ⟨v1, v2, v3, v4⟩ := id hV
  refine go_call (by decide +kernel) (Nat.le_of_ble_eq_true rfl) ?_
  refine go_eq (pc' := 0) (lv' := [(0, .ref mb), (1, rj_i m), (2, rj_i p), (3, rj_i w)]) (st' := []) rfl rfl rfl rfl ?_
  refine go_aload_n dX12_can_0 rfl 0 rfl ?_
  refine go_iload_n dX12_can_1 rfl 1 rfl ?_
  refine go_callV (d1 := d - 1) wVX12_56 kX12 rm_ob rfl (by omega) (m_isMirror (m := m) (by omega) (by omega) (hs := (show r 1 = s from hs)) (by omega)) rfl (Nat.le_of_ble_eq_true rfl) dX12_can_2 (fun w σ1 hP => ?_)
  obtain ⟨rfl, rfl⟩ := hP
  refine go_if_eqB (tgt := 25) dX12_can_5 (by decide) (fun c_5 => ?_) (fun c_5 => ?_)
  · refine go_iconst (v := Int32.ofInt (-1)) dX12_can_25 rfl ?_
    refine go_retI rfl rfl ?_ dX12_can_26
    exact ⟨rj_vi (by unfold sp_canF; rw [if_neg (by omega)]), r, ⟨(show r 1 = s from hs), (show r 2 = (r 2) from rfl), (show r 3 0 = (r 3 0) from rfl), (show r 17 = (r 17) from rfl), (show r 18 0 = (r 18 0) from rfl)⟩, rfl⟩
  · refine go_aload_n dX12_can_8 rfl 0 rfl ?_
    refine go_iload_n dX12_can_9 rfl 2 rfl ?_
    refine go_callV (d1 := d - 1) wVX12_59 kX12 rm_ob rfl (by omega) (m_isPatch (p := p) (by omega) (by omega) (hs := (show r 1 = s from hs)) (by omega)) rfl (Nat.le_of_ble_eq_true rfl) dX12_can_10 (fun w σ1 hP => ?_)
    obtain ⟨rfl, rfl⟩ := hP
    refine go_if_eqB (tgt := 25) dX12_can_13 (by decide) (fun c_13 => ?_) (fun c_13 => ?_)
    · refine go_iconst (v := Int32.ofInt (-1)) dX12_can_25 rfl ?_
      refine go_retI rfl rfl ?_ dX12_can_26
      exact ⟨rj_vi (by unfold sp_canF; rw [if_neg (by omega)]), r, ⟨(show r 1 = s from hs), (show r 2 = (r 2) from rfl), (show r 3 0 = (r 3 0) from rfl), (show r 17 = (r 17) from rfl), (show r 18 0 = (r 18 0) from rfl)⟩, rfl⟩
    · refine go_iload_n dX12_can_16 rfl 3 rfl ?_
      refine go_iconst (v := Int32.ofInt 0) dX12_can_17 rfl ?_
      refine go_iconst (v := Int32.ofInt 1) dX12_can_18 rfl ?_
      refine go_callS (d1 := d - 1) wSX12_47 rfl (by omega) (m_in (v := w) (lo := 0) (hi := 1) (by omega) (by omega) (by omega)) rfl (Nat.le_of_ble_eq_true rfl) dX12_can_19 (fun w σ1 hP => ?_)
      obtain ⟨rfl, rfl⟩ := hP
      refine go_if_neB (tgt := 27) dX12_can_22 (by decide) (fun c_22 => ?_) (fun c_22 => ?_)
      · refine go_aload_n dX12_can_27 rfl 0 rfl ?_
        refine go_aload_n dX12_can_28 rfl 0 rfl ?_
        refine grm_g1 rfl dX12_can_29 ?_
        refine go_iconst (v := Int32.ofInt 4) dX12_can_32 rfl ?_
        refine grm_l1 (by omega) (by omega) dX12_can_33 ?_
        rw [show r 1 = s from hs]
        refine grm_w11 rfl dX12_can_34 ?_
        obtain ⟨r1, e1⟩ : ∃ x_, x_ = (rm_u r 11 (fun _ => s 4)) := ⟨_, rfl⟩
        rw [← e1]
        have q1_1 : r1 1 = s := by rw [e1]; exact (show (rm_u r 11 (fun _ => s 4)) 1 = s from hs)
        have q1_2 : r1 2 = (r 2) := by rw [e1]; exact (show (rm_u r 11 (fun _ => s 4)) 2 = (r 2) from rfl)
        have q1_3 : r1 3 0 = (r 3 0) := by rw [e1]; exact (show (rm_u r 11 (fun _ => s 4)) 3 0 = (r 3 0) from rfl)
        have q1_17 : r1 17 = (r 17) := by rw [e1]; exact (show (rm_u r 11 (fun _ => s 4)) 17 = (r 17) from rfl)
        have q1_18 : r1 18 0 = (r 18 0) := by rw [e1]; exact (show (rm_u r 11 (fun _ => s 4)) 18 0 = (r 18 0) from rfl)
        have q1_11 : r1 11 0 = s 4 := by rw [e1]; exact (show (rm_u r 11 (fun _ => s 4)) 11 0 = s 4 from rfl)
        refine go_iconst (v := Int32.ofInt 0) dX12_can_37 rfl ?_
        refine go_istoreS (lv' := [(0, .ref mb), (1, rj_i m), (2, rj_i p), (3, rj_i w), (4, rj_i 0)]) (by decide) rfl dX12_can_38 ?_
        refine go_iconst (v := Int32.ofInt 0) dX12_can_40 rfl ?_
        refine go_istoreS (lv' := [(0, .ref mb), (1, rj_i m), (2, rj_i p), (3, rj_i w), (4, rj_i 0), (5, rj_i 0)]) (by decide) rfl dX12_can_41 ?_
        have loop : ∀ (n k : Nat) (rl : rm_R), k + n = (8 : Int).toNat → rm_t r1 rl → rj_Go X9 yX12_can cX12_can 7 (some .int) d (fun w9 τ => w9 = some (rj_i (sp_canF s m p w)) ∧ ∃ r0, rm_V r r0 s ∧ τ = rm_p X9 mb r0 σ) 43 [(0, .ref mb), (1, rj_i m), (2, rj_i p), (3, rj_i w), (4, rj_i (sp_bits (sp_canB s m p w) k)), (5, rj_i (k : Int))] [] (rm_p X9 mb rl σ) := by
          intro n
          induction n with
          | zero =>
            intro k rl hk hr 
            have el1 : rl 1 = s := (hr 1 (by decide) (by decide)).trans (show r1 1 = s from q1_1)
            have el2 : rl 2 = (r 2) := (hr 2 (by decide) (by decide)).trans (show r1 2 = (r 2) from q1_2)
            have el3 : rl 3 0 = (r 3 0) := (congrFun (hr 3 (by decide) (by decide)) 0).trans (show r1 3 0 = (r 3 0) from q1_3)
            have el17 : rl 17 = (r 17) := (hr 17 (by decide) (by decide)).trans (show r1 17 = (r 17) from q1_17)
            have el18 : rl 18 0 = (r 18 0) := (congrFun (hr 18 (by decide) (by decide)) 0).trans (show r1 18 0 = (r 18 0) from q1_18)
            have el11 : rl 11 0 = s 4 := (congrFun (hr 11 (by decide) (by decide)) 0).trans (show r1 11 0 = s 4 from q1_11)
            refine go_iload dX12_can_43 5 rfl ?_
            refine go_bipush (v := Int32.ofInt 8) dX12_can_45 (by decide) ?_
            refine go_icmp_geI (tgt := 98) (by omega) (by omega) dX12_can_47 (by decide) (fun c_47 => ?_) (fun c_47 => ?_)
            · refine go_iload dX12_can_98 4 rfl ?_
              refine go_retI rfl rfl ?_ dX12_can_100
              exact ⟨rj_vi (by unfold sp_canF; rw [if_pos (by omega), show 8 = k by omega]), rl, ⟨(show rl 1 = s from el1), (show rl 2 = (r 2) from el2), (show rl 3 0 = (r 3 0) from el3), (show rl 17 = (r 17) from el17), (show rl 18 0 = (r 18 0) from el18)⟩, rfl⟩
            · exact absurd c_47 (by omega)
          | succ n ih =>
            intro k rl hk hr 
            have el1 : rl 1 = s := (hr 1 (by decide) (by decide)).trans (show r1 1 = s from q1_1)
            have el2 : rl 2 = (r 2) := (hr 2 (by decide) (by decide)).trans (show r1 2 = (r 2) from q1_2)
            have el3 : rl 3 0 = (r 3 0) := (congrFun (hr 3 (by decide) (by decide)) 0).trans (show r1 3 0 = (r 3 0) from q1_3)
            have el17 : rl 17 = (r 17) := (hr 17 (by decide) (by decide)).trans (show r1 17 = (r 17) from q1_17)
            have el18 : rl 18 0 = (r 18 0) := (congrFun (hr 18 (by decide) (by decide)) 0).trans (show r1 18 0 = (r 18 0) from q1_18)
            have el11 : rl 11 0 = s 4 := (congrFun (hr 11 (by decide) (by decide)) 0).trans (show r1 11 0 = s 4 from q1_11)
            refine go_iload dX12_can_43 5 rfl ?_
            refine go_bipush (v := Int32.ofInt 8) dX12_can_45 (by decide) ?_
            refine go_icmp_geI (tgt := 98) (by omega) (by omega) dX12_can_47 (by decide) (fun c_47 => ?_) (fun c_47 => ?_)
            · exact absurd c_47 (by omega)
            · refine go_iload_n dX12_can_50 rfl 3 rfl ?_
              refine go_if_neI (tgt := 64) (by omega) dX12_can_51 (by decide) (fun c_51 => ?_) (fun c_51 => ?_)
              · refine go_aload_n dX12_can_64 rfl 0 rfl ?_
                refine go_iload_n dX12_can_65 rfl 1 rfl ?_
                refine go_iload_n dX12_can_66 rfl 2 rfl ?_
                refine go_iload dX12_can_67 5 rfl ?_
                refine go_callV (d1 := d - 1) wVX12_178 kX12 rm_ob rfl (by omega) (m_canThrow (by omega) (m := m) (p := p) (q := (k : Int)) (hs := (show rl 1 = s from el1)) (hD := (show rl 11 0 = s 4 from el11)) (by omega) hI (by omega) (by omega) (by omega)) rfl (Nat.le_of_ble_eq_true rfl) dX12_can_69 (fun w σ1 hP => ?_)
                obtain ⟨rfl, r51, hr51, rfl⟩ := hP
                have q51_1 : r51 1 = s := (hr51 1 (by decide) (by decide)).trans (show rl 1 = s from el1)
                have q51_2 : r51 2 = (r 2) := (hr51 2 (by decide) (by decide)).trans (show rl 2 = (r 2) from el2)
                have q51_3 : r51 3 0 = (r 3 0) := (congrFun (hr51 3 (by decide) (by decide)) 0).trans (show rl 3 0 = (r 3 0) from el3)
                have q51_17 : r51 17 = (r 17) := (hr51 17 (by decide) (by decide)).trans (show rl 17 = (r 17) from el17)
                have q51_18 : r51 18 0 = (r 18 0) := (congrFun (hr51 18 (by decide) (by decide)) 0).trans (show rl 18 0 = (r 18 0) from el18)
                have q51_11 : r51 11 0 = s 4 := (congrFun (hr51 11 (by decide) (by decide)) 0).trans (show rl 11 0 = s 4 from el11)
                refine go_istoreS (lv' := [(0, .ref mb), (1, rj_i m), (2, rj_i p), (3, rj_i w), (4, rj_i (sp_bits (sp_canB s m p w) k)), (5, rj_i (k : Int)), (6, rj_i (rj_b (sp_can s (s 4) m p (k : Int) = true)))]) (by decide) rfl dX12_can_72 ?_
                refine go_iload dX12_can_74 4 rfl ?_
                refine go_iload dX12_can_76 6 rfl ?_
                refine go_if_eqB (tgt := 88) dX12_can_78 (by decide) (fun c_78 => ?_) (fun c_78 => ?_)
                · refine go_iconst (v := Int32.ofInt 0) dX12_can_88 rfl ?_
                  refine go_orI ⟨k, by omega, (sp_bits_b (sp_canB s m p w) k).1, (sp_bits_b (sp_canB s m p w) k).2, by simp⟩ dX12_can_89 ?_
                  refine go_istoreS (lv' := [(0, .ref mb), (1, rj_i m), (2, rj_i p), (3, rj_i w), (4, rj_i ((sp_bits (sp_canB s m p w) k) + 0)), (5, rj_i (k : Int)), (6, rj_i (rj_b (sp_can s (s 4) m p (k : Int) = true)))]) (by decide) rfl dX12_can_90 ?_
                  refine go_iincI (a := (k : Int)) (n := 1) (k0 := 5) (lv' := [(0, .ref mb), (1, rj_i m), (2, rj_i p), (3, rj_i w), (4, rj_i ((sp_bits (sp_canB s m p w) k) + 0)), (5, rj_i ((k : Int) + 1)), (6, rj_i (rj_b (sp_can s (s 4) m p (k : Int) = true)))]) rfl (by decide) rfl dX12_can_92 ?_
                  refine go_goto (tgt := 43) dX12_can_95 (by decide) ?_
                  refine go_sub (lv' := [(0, .ref mb), (1, rj_i m), (2, rj_i p), (3, rj_i w), (4, rj_i ((sp_bits (sp_canB s m p w) k) + 0)), (5, rj_i ((k : Int) + 1))]) (by intro q hq; simp only [List.mem_cons, List.not_mem_nil, or_false] at hq ⊢; rcases hq with rfl | rfl | rfl | rfl | rfl | rfl <;> simp) ?_
                  exact go_eq rfl (lv' := [(0, .ref mb), (1, rj_i m), (2, rj_i p), (3, rj_i w), (4, rj_i (sp_bits (sp_canB s m p w) (k + 1))), (5, rj_i ((k + 1 : Nat) : Int))]) (rj_lk (rj_lk (rj_lk (rj_lk (rj_lj (by rw [sp_bits]; simp [sp_canB, c_78, c_51, c_47]) (rj_lj (by omega) rfl)))))) rfl rfl (ih (k + 1) r51 (by omega) (hr.tr hr51))
                · refine go_iconst (v := Int32.ofInt 1) dX12_can_81 rfl ?_
                  refine go_iload dX12_can_82 5 rfl ?_
                  refine go_shl1 (k := k) (by omega) dX12_can_84 ?_
                  refine go_goto (tgt := 89) dX12_can_85 (by decide) ?_
                  refine go_orI ⟨k, by omega, (sp_bits_b (sp_canB s m p w) k).1, (sp_bits_b (sp_canB s m p w) k).2, by simp⟩ dX12_can_89 ?_
                  refine go_istoreS (lv' := [(0, .ref mb), (1, rj_i m), (2, rj_i p), (3, rj_i w), (4, rj_i ((sp_bits (sp_canB s m p w) k) + (2 ^ k))), (5, rj_i (k : Int)), (6, rj_i (rj_b (sp_can s (s 4) m p (k : Int) = true)))]) (by decide) rfl dX12_can_90 ?_
                  refine go_iincI (a := (k : Int)) (n := 1) (k0 := 5) (lv' := [(0, .ref mb), (1, rj_i m), (2, rj_i p), (3, rj_i w), (4, rj_i ((sp_bits (sp_canB s m p w) k) + (2 ^ k))), (5, rj_i ((k : Int) + 1)), (6, rj_i (rj_b (sp_can s (s 4) m p (k : Int) = true)))]) rfl (by decide) rfl dX12_can_92 ?_
                  refine go_goto (tgt := 43) dX12_can_95 (by decide) ?_
                  refine go_sub (lv' := [(0, .ref mb), (1, rj_i m), (2, rj_i p), (3, rj_i w), (4, rj_i ((sp_bits (sp_canB s m p w) k) + (2 ^ k))), (5, rj_i ((k : Int) + 1))]) (by intro q hq; simp only [List.mem_cons, List.not_mem_nil, or_false] at hq ⊢; rcases hq with rfl | rfl | rfl | rfl | rfl | rfl <;> simp) ?_
                  exact go_eq rfl (lv' := [(0, .ref mb), (1, rj_i m), (2, rj_i p), (3, rj_i w), (4, rj_i (sp_bits (sp_canB s m p w) (k + 1))), (5, rj_i ((k + 1 : Nat) : Int))]) (rj_lk (rj_lk (rj_lk (rj_lk (rj_lj (by rw [sp_bits]; simp [sp_canB, c_78, c_51, c_47]) (rj_lj (by omega) rfl)))))) rfl rfl (ih (k + 1) r51 (by omega) (hr.tr hr51))
              · refine go_aload_n dX12_can_54 rfl 0 rfl ?_
                refine go_iload_n dX12_can_55 rfl 1 rfl ?_
                refine go_iload dX12_can_56 5 rfl ?_
                refine go_callV (d1 := d - 1) wVX12_172 kX12 rm_ob rfl (by omega) (m_isLit (by omega) (m := m) (q := (k : Int)) (hs := (show rl 1 = s from el1)) (hD := (show rl 11 0 = s 4 from el11)) (by omega) hI (by omega) (by omega)) rfl (Nat.le_of_ble_eq_true rfl) dX12_can_58 (fun w σ1 hP => ?_)
                obtain ⟨rfl, r51, hr51, rfl⟩ := hP
                have q51_1 : r51 1 = s := (hr51 1 (by decide) (by decide)).trans (show rl 1 = s from el1)
                have q51_2 : r51 2 = (r 2) := (hr51 2 (by decide) (by decide)).trans (show rl 2 = (r 2) from el2)
                have q51_3 : r51 3 0 = (r 3 0) := (congrFun (hr51 3 (by decide) (by decide)) 0).trans (show rl 3 0 = (r 3 0) from el3)
                have q51_17 : r51 17 = (r 17) := (hr51 17 (by decide) (by decide)).trans (show rl 17 = (r 17) from el17)
                have q51_18 : r51 18 0 = (r 18 0) := (congrFun (hr51 18 (by decide) (by decide)) 0).trans (show rl 18 0 = (r 18 0) from el18)
                have q51_11 : r51 11 0 = s 4 := (congrFun (hr51 11 (by decide) (by decide)) 0).trans (show rl 11 0 = s 4 from el11)
                refine go_goto (tgt := 72) dX12_can_61 (by decide) ?_
                refine go_istoreS (lv' := [(0, .ref mb), (1, rj_i m), (2, rj_i p), (3, rj_i w), (4, rj_i (sp_bits (sp_canB s m p w) k)), (5, rj_i (k : Int)), (6, rj_i (rj_b (sp_so s (s 4) (-11) m 99 (k : Int) = true)))]) (by decide) rfl dX12_can_72 ?_
                refine go_iload dX12_can_74 4 rfl ?_
                refine go_iload dX12_can_76 6 rfl ?_
                refine go_if_eqB (tgt := 88) dX12_can_78 (by decide) (fun c_78 => ?_) (fun c_78 => ?_)
                · refine go_iconst (v := Int32.ofInt 0) dX12_can_88 rfl ?_
                  refine go_orI ⟨k, by omega, (sp_bits_b (sp_canB s m p w) k).1, (sp_bits_b (sp_canB s m p w) k).2, by simp⟩ dX12_can_89 ?_
                  refine go_istoreS (lv' := [(0, .ref mb), (1, rj_i m), (2, rj_i p), (3, rj_i w), (4, rj_i ((sp_bits (sp_canB s m p w) k) + 0)), (5, rj_i (k : Int)), (6, rj_i (rj_b (sp_so s (s 4) (-11) m 99 (k : Int) = true)))]) (by decide) rfl dX12_can_90 ?_
                  refine go_iincI (a := (k : Int)) (n := 1) (k0 := 5) (lv' := [(0, .ref mb), (1, rj_i m), (2, rj_i p), (3, rj_i w), (4, rj_i ((sp_bits (sp_canB s m p w) k) + 0)), (5, rj_i ((k : Int) + 1)), (6, rj_i (rj_b (sp_so s (s 4) (-11) m 99 (k : Int) = true)))]) rfl (by decide) rfl dX12_can_92 ?_
                  refine go_goto (tgt := 43) dX12_can_95 (by decide) ?_
                  refine go_sub (lv' := [(0, .ref mb), (1, rj_i m), (2, rj_i p), (3, rj_i w), (4, rj_i ((sp_bits (sp_canB s m p w) k) + 0)), (5, rj_i ((k : Int) + 1))]) (by intro q hq; simp only [List.mem_cons, List.not_mem_nil, or_false] at hq ⊢; rcases hq with rfl | rfl | rfl | rfl | rfl | rfl <;> simp) ?_
                  exact go_eq rfl (lv' := [(0, .ref mb), (1, rj_i m), (2, rj_i p), (3, rj_i w), (4, rj_i (sp_bits (sp_canB s m p w) (k + 1))), (5, rj_i ((k + 1 : Nat) : Int))]) (rj_lk (rj_lk (rj_lk (rj_lk (rj_lj (by rw [sp_bits]; simp [sp_canB, c_78, c_51, c_47]) (rj_lj (by omega) rfl)))))) rfl rfl (ih (k + 1) r51 (by omega) (hr.tr hr51))
                · refine go_iconst (v := Int32.ofInt 1) dX12_can_81 rfl ?_
                  refine go_iload dX12_can_82 5 rfl ?_
                  refine go_shl1 (k := k) (by omega) dX12_can_84 ?_
                  refine go_goto (tgt := 89) dX12_can_85 (by decide) ?_
                  refine go_orI ⟨k, by omega, (sp_bits_b (sp_canB s m p w) k).1, (sp_bits_b (sp_canB s m p w) k).2, by simp⟩ dX12_can_89 ?_
                  refine go_istoreS (lv' := [(0, .ref mb), (1, rj_i m), (2, rj_i p), (3, rj_i w), (4, rj_i ((sp_bits (sp_canB s m p w) k) + (2 ^ k))), (5, rj_i (k : Int)), (6, rj_i (rj_b (sp_so s (s 4) (-11) m 99 (k : Int) = true)))]) (by decide) rfl dX12_can_90 ?_
                  refine go_iincI (a := (k : Int)) (n := 1) (k0 := 5) (lv' := [(0, .ref mb), (1, rj_i m), (2, rj_i p), (3, rj_i w), (4, rj_i ((sp_bits (sp_canB s m p w) k) + (2 ^ k))), (5, rj_i ((k : Int) + 1)), (6, rj_i (rj_b (sp_so s (s 4) (-11) m 99 (k : Int) = true)))]) rfl (by decide) rfl dX12_can_92 ?_
                  refine go_goto (tgt := 43) dX12_can_95 (by decide) ?_
                  refine go_sub (lv' := [(0, .ref mb), (1, rj_i m), (2, rj_i p), (3, rj_i w), (4, rj_i ((sp_bits (sp_canB s m p w) k) + (2 ^ k))), (5, rj_i ((k : Int) + 1))]) (by intro q hq; simp only [List.mem_cons, List.not_mem_nil, or_false] at hq ⊢; rcases hq with rfl | rfl | rfl | rfl | rfl | rfl <;> simp) ?_
                  exact go_eq rfl (lv' := [(0, .ref mb), (1, rj_i m), (2, rj_i p), (3, rj_i w), (4, rj_i (sp_bits (sp_canB s m p w) (k + 1))), (5, rj_i ((k + 1 : Nat) : Int))]) (rj_lk (rj_lk (rj_lk (rj_lk (rj_lj (by rw [sp_bits]; simp [sp_canB, c_78, c_51, c_47]) (rj_lj (by omega) rfl)))))) rfl rfl (ih (k + 1) r51 (by omega) (hr.tr hr51))
        exact go_eq rfl (lv' := [(0, .ref mb), (1, rj_i m), (2, rj_i p), (3, rj_i w), (4, rj_i (sp_bits (sp_canB s m p w) 0)), (5, rj_i ((0 : Nat) : Int))]) (rj_lk (rj_lk (rj_lk (rj_lk (rj_lj (rfl) (rj_lj (by omega) rfl)))))) rfl rfl (loop (8 : Int).toNat 0 r1 (by omega) rm_t.rf)
      · refine go_iconst (v := Int32.ofInt (-1)) dX12_can_25 rfl ?_
        refine go_retI rfl rfl ?_ dX12_can_26
        exact ⟨rj_vi (by unfold sp_canF; rw [if_neg (by omega)]), r, ⟨(show r 1 = s from hs), (show r 2 = (r 2) from rfl), (show r 3 0 = (r 3 0) from rfl), (show r 17 = (r 17) from rfl), (show r 18 0 = (r 18 0) from rfl)⟩, rfl⟩
