/-! THE REFERENCE, 20: take -/
theorem rj_dshr : ∀ k : Nat, k < 8 → ∀ x : Nat, x < 256 → (nI x) >>> (nI k &&& 31) = nI (x / 2 ^ k) := by decide +kernel
theorem rj_dand1 : ∀ x : Nat, x < 256 → nI x &&& nI 1 = nI (x % 2) := by decide +kernel
section BI2
variable {X9 : rj_X} {y9 : MethodName} {cc : ByteArray} {nL : Nat} {rt9 : Option FieldType} {d9 : Nat} {P9 : Option Value → rj_H → Prop} {pc : Nat} {lv : List (Nat × Value)} {rest : List Value} {σ : rj_H} {a b : Int}
theorem go_shrI (ha : 0 ≤ a ∧ a < 256) (hb : 0 ≤ b ∧ b < 8) (hdg : decode cc pc = .ok (.ishr, 1)) (kk : rj_Go X9 y9 cc nL rt9 d9 P9 (pc + 1) lv (rj_i (a / 2 ^ b.toNat) :: rest) σ) : rj_Go X9 y9 cc nL rt9 d9 P9 pc lv (rj_i b :: rj_i a :: rest) σ := by
  refine go_ishr hdg ?_
  obtain ⟨x, rfl⟩ := Int.eq_ofNat_of_zero_le ha.1
  obtain ⟨y, rfl⟩ := Int.eq_ofNat_of_zero_le hb.1
  have h := rj_dshr y (by omega) x (by omega)
  rw [rj_nI, rj_nI, rj_nI, Int.natCast_ediv, rj_n2] at h
  have e : Int32.ofInt (x : Int) >>> (Int32.ofInt (y : Int) &&& 31) = Int32.ofInt ((x : Int) / 2 ^ y) := h
  rw [e]
  exact kk
theorem go_and1 (ha : 0 ≤ a ∧ a < 256) (hdg : decode cc pc = .ok (.iand, 1)) (kk : rj_Go X9 y9 cc nL rt9 d9 P9 (pc + 1) lv (rj_i (a % 2) :: rest) σ) : rj_Go X9 y9 cc nL rt9 d9 P9 pc lv (rj_i 1 :: rj_i a :: rest) σ := by
  refine go_iand hdg ?_
  obtain ⟨x, rfl⟩ := Int.eq_ofNat_of_zero_le ha.1
  have h := rj_dand1 x (by omega)
  rw [rj_nI, rj_nI, rj_nI, Int.natCast_emod] at h
  have e : Int32.ofInt (x : Int) &&& Int32.ofInt 1 = Int32.ofInt ((x : Int) % 2) := h
  rw [e]
  exact kk
end BI2
/-- bit m of x -/
def sp_btx (x m : Int) : Int := x / 2 ^ m.toNat % 2
theorem sp_btx_b (x m : Int) : 0 ≤ sp_btx x m ∧ sp_btx x m ≤ 1 := by unfold sp_btx; omega
theorem sp_shr_b {x : Int} (hx : 0 ≤ x ∧ x < 256) (n : Nat) : 0 ≤ x / 2 ^ n ∧ x / 2 ^ n < 256 := by
  have h1 : (0 : Int) ≤ 2 ^ n := Int.pow_nonneg (by omega)
  have h2 := Int.ediv_le_self (2 ^ n) hx.1
  have h3 := Int.ediv_nonneg hx.1 h1
  omega
/-- at how many quarters mirror m is lit -/
def sp_lq (s : Int → Int) (m : Int) : Int := sp_sum (fun q => rj_b (sp_so s (s 4) (-11) m 99 q = true)) 8
theorem sp_lq_b (s : Int → Int) (m : Int) : 0 ≤ sp_lq s m ∧ sp_lq s m ≤ 8 := by
  have h := sp_sum_b (f := fun q => rj_b (sp_so s (s 4) (-11) m 99 q = true)) (B := 1) (N := 8) (fun k a b => by show 0 ≤ rj_b _ ∧ rj_b _ ≤ 1; rcases rj_b01 (sp_so s (s 4) (-11) m 99 k = true) with h | h <;> rw [h] <;> omega) 8 (Nat.le_refl _)
  unfold sp_lq; omega
/-- what the mirrors of a set have together -/
def sp_ts (f : Int → Int) (x : Int) (n : Nat) : Int := sp_sum (fun m => if sp_btx x m = 1 then f m else 0) n
theorem sp_ts_b {f : Int → Int} {B : Int} {N : Nat} (hB : 0 ≤ B) (h : ∀ k : Int, 0 ≤ k → k < N → 0 ≤ f k ∧ f k ≤ B) (x : Int) {n : Nat} (hn : n ≤ N) : 0 ≤ sp_ts f x n ∧ sp_ts f x n ≤ B * n :=
  sp_sum_b (N := N) (fun k a b => by show 0 ≤ (if sp_btx x k = 1 then f k else 0) ∧ (if sp_btx x k = 1 then f k else 0) ≤ B; split; exact h k a b; omega) n hn
theorem sp_ts_s (f : Int → Int) (x : Int) (n : Nat) : sp_ts f x (n + 1) = sp_ts f x n + (if sp_btx x (n : Int) = 1 then f (n : Int) else 0) := rfl
def sp_co (s : Int → Int) (m : Int) : Int := s (160 + m)
def sp_tkS (s : Int → Int) (coin : Int) (x : Int × Int × Int) (k : Int) : Int × Int × Int :=
  if sp_ts (sp_co s) k (s 0).toNat ≤ coin ∧ (x.2.1 < sp_ts (sp_lq s) k (s 0).toNat ∨ sp_ts (sp_lq s) k (s 0).toNat = x.2.1 ∧ sp_ts (sp_co s) k (s 0).toNat < x.2.2) then (k, sp_ts (sp_lq s) k (s 0).toNat, sp_ts (sp_co s) k (s 0).toNat) else x
/-- the best set of those below k -/
def sp_tk (s : Int → Int) (coin : Int) : Nat → Int × Int × Int
  | 0 => (0, 0, 0)
  | k + 1 => sp_tkS s coin (sp_tk s coin k) (k : Int)
theorem sp_btx0 (m : Int) : sp_btx 0 m = 0 := by unfold sp_btx; simp
theorem sp_ts0 (f : Int → Int) : ∀ n : Nat, sp_ts f 0 n = 0
  | 0 => rfl
  | n + 1 => by
    have h := sp_ts0 f n
    unfold sp_ts at h ⊢
    rw [sp_sum, h, sp_btx0]; rfl
theorem sp_tk1 (s : Int → Int) (coin : Int) : sp_tk s coin 1 = (0, 0, 0) := by
  rw [sp_tk, sp_tk, sp_tkS, show ((0 : Nat) : Int) = 0 from rfl, sp_ts0, sp_ts0]
  split <;> rfl
theorem sp_tk_b {s : Int → Int} {coin : Int} (h0 : 0 ≤ s 0 ∧ s 0 ≤ 6) (hc : ∀ m : Int, 0 ≤ m → m < s 0 → 0 ≤ s (160 + m) ∧ s (160 + m) ≤ 99) : ∀ k : Nat, (0 ≤ (sp_tk s coin k).1 ∧ (sp_tk s coin k).1 ≤ (k : Int)) ∧ (0 ≤ (sp_tk s coin k).2.1 ∧ (sp_tk s coin k).2.1 ≤ 48) ∧ 0 ≤ (sp_tk s coin k).2.2 ∧ (sp_tk s coin k).2.2 ≤ 594
  | 0 => by simp [sp_tk]
  | k + 1 => by
    have ih := sp_tk_b (coin := coin) h0 hc k
    have h1 := sp_ts_b (f := sp_lq s) (B := 8) (by omega) (N := (s 0).toNat) (fun k a b => sp_lq_b s k) (k : Int) (Nat.le_refl _)
    have h2 := sp_ts_b (f := sp_co s) (B := 99) (by omega) (N := (s 0).toNat) (fun k a b => hc k a (by omega)) (k : Int) (Nat.le_refl _)
    rw [sp_tk, sp_tkS]
    split
    · exact ⟨by dsimp only; omega, by dsimp only; omega, by dsimp only; omega⟩
    · omega
def sp_takeF (s : Int → Int) (coin w : Int) : Int :=
  if 0 ≤ w ∧ w ≤ 2 then (if 0 ≤ coin ∧ coin ≤ 300 then (if w = 0 then (sp_tk s coin (2 ^ (s 0).toNat)).1 else if w = 1 then (sp_tk s coin (2 ^ (s 0).toNat)).2.1 else (sp_tk s coin (2 ^ (s 0).toNat)).2.2) else -2) else -1
set_option maxRecDepth 20000 in
/-- m_take -/
theorem m_take {X9 : rj_X} {σ : rj_H} {d : Nat} {mb : Nat} {r : rm_R} {coin w : Int} (hd : 6 ≤ d) (hcoin : -2147483648 ≤ coin ∧ coin < 2147483648) (hw : -2147483648 ≤ w ∧ w < 2147483648) {s : Int → Int} (hs : r 1 = s) (hI : sp_I s) : rj_Cl X9 d yX12_take cX12_take 10 (some .int) [.ref mb, rj_i coin, rj_i w] (rm_p X9 mb r σ) (fun w9 τ => w9 = some (rj_i (sp_takeF s coin w)) ∧ ∃ r0, rm_V r r0 s ∧ τ = rm_p X9 mb r0 σ) := by
  obtain ⟨⟨h0, h1, h2, h3, h4, h5, h6, h7⟩, hM, hP, hW, hL, hV⟩ := id hI
  obtain ⟨v1, v2, v3, v4⟩ := id hV
  refine go_call (by decide +kernel) (Nat.le_of_ble_eq_true rfl) ?_
  refine go_eq (pc' := 0) (lv' := [(0, .ref mb), (1, rj_i coin), (2, rj_i w)]) (st' := []) rfl rfl rfl rfl ?_
  refine go_iload_n dX12_take_0 rfl 2 rfl ?_
  refine go_iconst (v := Int32.ofInt 0) dX12_take_1 rfl ?_
  refine go_iconst (v := Int32.ofInt 2) dX12_take_2 rfl ?_
  refine go_callS (d1 := d - 1) wSX12_47 rfl (by omega) (m_in (v := w) (lo := 0) (hi := 2) (by omega) (by omega) (by omega)) rfl (Nat.le_of_ble_eq_true rfl) dX12_take_3 (fun w σ1 hP => ?_)
  obtain ⟨rfl, rfl⟩ := hP
  refine go_if_neB (tgt := 11) dX12_take_6 (by decide) (fun c_6 => ?_) (fun c_6 => ?_)
  · refine go_iload_n dX12_take_11 rfl 1 rfl ?_
    refine go_iconst (v := Int32.ofInt 0) dX12_take_12 rfl ?_
    refine go_sipush (v := Int32.ofInt 300) dX12_take_13 (by decide) ?_
    refine go_callS (d1 := d - 1) wSX12_47 rfl (by omega) (m_in (v := coin) (lo := 0) (hi := 300) (by omega) (by omega) (by omega)) rfl (Nat.le_of_ble_eq_true rfl) dX12_take_16 (fun w σ1 hP => ?_)
    obtain ⟨rfl, rfl⟩ := hP
    refine go_if_neB (tgt := 25) dX12_take_19 (by decide) (fun c_19 => ?_) (fun c_19 => ?_)
    · refine go_aload_n dX12_take_25 rfl 0 rfl ?_
      refine go_aload_n dX12_take_26 rfl 0 rfl ?_
      refine grm_g1 rfl dX12_take_27 ?_
      refine go_iconst (v := Int32.ofInt 4) dX12_take_30 rfl ?_
      refine grm_l1 (by omega) (by omega) dX12_take_31 ?_
      rw [show r 1 = s from hs]
      refine grm_w11 rfl dX12_take_32 ?_
      obtain ⟨r1, e1⟩ : ∃ x_, x_ = (rm_u r 11 (fun _ => s 4)) := ⟨_, rfl⟩
      rw [← e1]
      have q1_1 : r1 1 = s := by rw [e1]; exact (show (rm_u r 11 (fun _ => s 4)) 1 = s from hs)
      have q1_2 : r1 2 = (r 2) := by rw [e1]; exact (show (rm_u r 11 (fun _ => s 4)) 2 = (r 2) from rfl)
      have q1_3 : r1 3 0 = (r 3 0) := by rw [e1]; exact (show (rm_u r 11 (fun _ => s 4)) 3 0 = (r 3 0) from rfl)
      have q1_17 : r1 17 = (r 17) := by rw [e1]; exact (show (rm_u r 11 (fun _ => s 4)) 17 = (r 17) from rfl)
      have q1_18 : r1 18 0 = (r 18 0) := by rw [e1]; exact (show (rm_u r 11 (fun _ => s 4)) 18 0 = (r 18 0) from rfl)
      have q1_11 : r1 11 0 = s 4 := by rw [e1]; exact (show (rm_u r 11 (fun _ => s 4)) 11 0 = s 4 from rfl)
      refine go_iconst (v := Int32.ofInt 0) dX12_take_35 rfl ?_
      refine go_istore_nS (lv' := [(0, .ref mb), (1, rj_i coin), (2, rj_i w), (3, rj_i 0)]) rfl (by decide) rfl dX12_take_36 ?_
      obtain ⟨t16, ht16⟩ : ∃ t, t = r1 16 := ⟨_, rfl⟩
      have loopa : ∀ (na ka : Nat) (rla : rm_R), ka + na = (s 0).toNat → rla 1 = s → rla 2 = (r 2) → rla 3 0 = (r 3 0) → rla 11 0 = s 4 → rla 17 = (r 17) → rla 18 0 = (r 18 0) → rla 16 = sp_cp (sp_lq s) t16 ka → rj_Go X9 yX12_take cX12_take 10 (some .int) d (fun w9 τ => w9 = some (rj_i (sp_takeF s coin w)) ∧ ∃ r0, rm_V r r0 s ∧ τ = rm_p X9 mb r0 σ) 37 [(0, .ref mb), (1, rj_i coin), (2, rj_i w), (3, rj_i (ka : Int))] [] (rm_p X9 mb rla σ) := by
        intro na
        induction na with
        | zero =>
          intro ka rla hka ela1 ela2 ela3 ela11 ela17 ela18 ela16
          refine go_iload_n dX12_take_37 rfl 3 rfl ?_
          refine go_aload_n dX12_take_38 rfl 0 rfl ?_
          refine grm_g1 rfl dX12_take_39 ?_
          refine go_iconst (v := Int32.ofInt 0) dX12_take_42 rfl ?_
          refine grm_l1 (by omega) (by omega) dX12_take_43 ?_
          rw [show rla 1 = s from ela1]
          refine go_icmp_geI (tgt := 100) (by omega) (by omega) dX12_take_44 (by decide) (fun c_44 => ?_) (fun c_44 => ?_)
          · obtain ⟨n0, hn0⟩ := Int.eq_ofNat_of_zero_le (show 0 ≤ s 0 by omega)
            have hn1 : n0 ≤ 6 := by omega
            obtain ⟨N2, hN2⟩ : ∃ N2 : Nat, N2 = 2 ^ n0 := ⟨_, rfl⟩
            have hN3 : (2 : Int) ^ n0 = (N2 : Int) := by rw [hN2, rj_n2]
            have hN4 : 1 ≤ N2 ∧ N2 ≤ 64 := ⟨by rw [hN2]; exact Nat.pow_pos (by decide), by rw [hN2]; exact Nat.pow_le_pow_right (by decide) (show n0 ≤ 6 from hn1)⟩
            have hcm : ∀ m : Int, 0 ≤ m → m < s 0 → 0 ≤ s (160 + m) ∧ s (160 + m) ≤ 99 := fun m a b => (hM m a b).2.2.2.2.2.1
            refine go_iconst (v := Int32.ofInt 0) dX12_take_100 rfl ?_
            refine go_istore_nS (lv' := [(0, .ref mb), (1, rj_i coin), (2, rj_i w), (3, rj_i 0)]) rfl (by decide) rfl dX12_take_101 ?_
            refine go_iconst (v := Int32.ofInt 0) dX12_take_102 rfl ?_
            refine go_istoreS (lv' := [(0, .ref mb), (1, rj_i coin), (2, rj_i w), (3, rj_i 0), (4, rj_i 0)]) (by decide) rfl dX12_take_103 ?_
            refine go_iconst (v := Int32.ofInt 0) dX12_take_105 rfl ?_
            refine go_istoreS (lv' := [(0, .ref mb), (1, rj_i coin), (2, rj_i w), (3, rj_i 0), (4, rj_i 0), (5, rj_i 0)]) (by decide) rfl dX12_take_106 ?_
            refine go_iconst (v := Int32.ofInt 1) dX12_take_108 rfl ?_
            refine go_istoreS (lv' := [(0, .ref mb), (1, rj_i coin), (2, rj_i w), (3, rj_i 0), (4, rj_i 0), (5, rj_i 0), (6, rj_i 1)]) (by decide) rfl dX12_take_109 ?_
            have loopc : ∀ nc kc : Nat, kc + nc = (N2 : Int).toNat → rj_Go X9 yX12_take cX12_take 10 (some .int) d (fun w9 τ => w9 = some (rj_i (sp_takeF s coin w)) ∧ ∃ r0, rm_V r r0 s ∧ τ = rm_p X9 mb r0 σ) 111 [(0, .ref mb), (1, rj_i coin), (2, rj_i w), (3, rj_i ((sp_tk s coin kc).1)), (4, rj_i ((sp_tk s coin kc).2.1)), (5, rj_i ((sp_tk s coin kc).2.2)), (6, rj_i (kc : Int))] [] (rm_p X9 mb rla σ) := by
              intro nc
              induction nc with
              | zero =>
                intro kc hkc 
                refine go_iload dX12_take_111 6 rfl ?_
                refine go_iconst (v := Int32.ofInt 1) dX12_take_113 rfl ?_
                refine go_aload_n dX12_take_114 rfl 0 rfl ?_
                refine grm_g1 rfl dX12_take_115 ?_
                refine go_iconst (v := Int32.ofInt 0) dX12_take_118 rfl ?_
                refine grm_l1 (by omega) (by omega) dX12_take_119 ?_
                rw [show rla 1 = s from ela1]
                rw [show s 0 = (n0 : Int) from hn0]
                refine go_shl1 (k := n0) (by omega) dX12_take_120 ?_
                rw [show (2 : Int) ^ n0 = (N2 : Int) from hN3]
                refine go_icmp_geI (tgt := 252) (by omega) (by omega) dX12_take_121 (by decide) (fun c_121 => ?_) (fun c_121 => ?_)
                · refine go_iload_n dX12_take_252 rfl 2 rfl ?_
                  refine go_if_neI (tgt := 260) (by omega) dX12_take_253 (by decide) (fun c_253 => ?_) (fun c_253 => ?_)
                  · refine go_iload_n dX12_take_260 rfl 2 rfl ?_
                    refine go_iconst (v := Int32.ofInt 1) dX12_take_261 rfl ?_
                    refine go_icmp_neI (tgt := 270) (by omega) (by omega) dX12_take_262 (by decide) (fun c_262 => ?_) (fun c_262 => ?_)
                    · refine go_iload dX12_take_270 5 rfl ?_
                      refine go_retI rfl rfl ?_ dX12_take_272
                      exact ⟨rj_vi (by unfold sp_takeF; rw [if_pos (by omega), if_pos (by omega), if_neg (by omega), if_neg (by omega), show (s 0).toNat = n0 by omega, ← hN2, show N2 = kc by omega]), rla, ⟨(show rla 1 = s from ela1), (show rla 2 = (r 2) from ela2), (show rla 3 0 = (r 3 0) from ela3), (show rla 17 = (r 17) from ela17), (show rla 18 0 = (r 18 0) from ela18)⟩, rfl⟩
                    · refine go_iload dX12_take_265 4 rfl ?_
                      refine go_goto (tgt := 272) dX12_take_267 (by decide) ?_
                      refine go_retI rfl rfl ?_ dX12_take_272
                      exact ⟨rj_vi (by unfold sp_takeF; rw [if_pos (by omega), if_pos (by omega), if_neg (by omega), if_pos (by omega), show (s 0).toNat = n0 by omega, ← hN2, show N2 = kc by omega]), rla, ⟨(show rla 1 = s from ela1), (show rla 2 = (r 2) from ela2), (show rla 3 0 = (r 3 0) from ela3), (show rla 17 = (r 17) from ela17), (show rla 18 0 = (r 18 0) from ela18)⟩, rfl⟩
                  · refine go_iload_n dX12_take_256 rfl 3 rfl ?_
                    refine go_goto (tgt := 272) dX12_take_257 (by decide) ?_
                    refine go_retI rfl rfl ?_ dX12_take_272
                    exact ⟨rj_vi (by unfold sp_takeF; rw [if_pos (by omega), if_pos (by omega), if_pos (by omega), show (s 0).toNat = n0 by omega, ← hN2, show N2 = kc by omega]), rla, ⟨(show rla 1 = s from ela1), (show rla 2 = (r 2) from ela2), (show rla 3 0 = (r 3 0) from ela3), (show rla 17 = (r 17) from ela17), (show rla 18 0 = (r 18 0) from ela18)⟩, rfl⟩
                · exact absurd c_121 (by omega)
              | succ nc ihc =>
                intro kc hkc 
                have tb := sp_tk_b (coin := coin) h0 hcm kc
                refine go_iload dX12_take_111 6 rfl ?_
                refine go_iconst (v := Int32.ofInt 1) dX12_take_113 rfl ?_
                refine go_aload_n dX12_take_114 rfl 0 rfl ?_
                refine grm_g1 rfl dX12_take_115 ?_
                refine go_iconst (v := Int32.ofInt 0) dX12_take_118 rfl ?_
                refine grm_l1 (by omega) (by omega) dX12_take_119 ?_
                rw [show rla 1 = s from ela1]
                rw [show s 0 = (n0 : Int) from hn0]
                refine go_shl1 (k := n0) (by omega) dX12_take_120 ?_
                rw [show (2 : Int) ^ n0 = (N2 : Int) from hN3]
                refine go_icmp_geI (tgt := 252) (by omega) (by omega) dX12_take_121 (by decide) (fun c_121 => ?_) (fun c_121 => ?_)
                · exact absurd c_121 (by omega)
                · refine go_iconst (v := Int32.ofInt 0) dX12_take_124 rfl ?_
                  refine go_istoreS (lv' := [(0, .ref mb), (1, rj_i coin), (2, rj_i w), (3, rj_i ((sp_tk s coin kc).1)), (4, rj_i ((sp_tk s coin kc).2.1)), (5, rj_i ((sp_tk s coin kc).2.2)), (6, rj_i (kc : Int)), (7, rj_i 0)]) (by decide) rfl dX12_take_125 ?_
                  refine go_iconst (v := Int32.ofInt 0) dX12_take_127 rfl ?_
                  refine go_istoreS (lv' := [(0, .ref mb), (1, rj_i coin), (2, rj_i w), (3, rj_i ((sp_tk s coin kc).1)), (4, rj_i ((sp_tk s coin kc).2.1)), (5, rj_i ((sp_tk s coin kc).2.2)), (6, rj_i (kc : Int)), (7, rj_i 0), (8, rj_i 0)]) (by decide) rfl dX12_take_128 ?_
                  refine go_iconst (v := Int32.ofInt 0) dX12_take_130 rfl ?_
                  refine go_istoreS (lv' := [(0, .ref mb), (1, rj_i coin), (2, rj_i w), (3, rj_i ((sp_tk s coin kc).1)), (4, rj_i ((sp_tk s coin kc).2.1)), (5, rj_i ((sp_tk s coin kc).2.2)), (6, rj_i (kc : Int)), (7, rj_i 0), (8, rj_i 0), (9, rj_i 0)]) (by decide) rfl dX12_take_131 ?_
                  have loopd : ∀ nd kd : Nat, kd + nd = (s 0).toNat → rj_Go X9 yX12_take cX12_take 10 (some .int) d (fun w9 τ => w9 = some (rj_i (sp_takeF s coin w)) ∧ ∃ r0, rm_V r r0 s ∧ τ = rm_p X9 mb r0 σ) 133 [(0, .ref mb), (1, rj_i coin), (2, rj_i w), (3, rj_i ((sp_tk s coin kc).1)), (4, rj_i ((sp_tk s coin kc).2.1)), (5, rj_i ((sp_tk s coin kc).2.2)), (6, rj_i (kc : Int)), (7, rj_i (sp_ts (sp_lq s) (kc : Int) kd)), (8, rj_i (sp_ts (sp_co s) (kc : Int) kd)), (9, rj_i (kd : Int))] [] (rm_p X9 mb rla σ) := by
                    intro nd
                    induction nd with
                    | zero =>
                      intro kd hkd 
                      refine go_iload dX12_take_133 9 rfl ?_
                      refine go_aload_n dX12_take_135 rfl 0 rfl ?_
                      refine grm_g1 rfl dX12_take_136 ?_
                      refine go_iconst (v := Int32.ofInt 0) dX12_take_139 rfl ?_
                      refine grm_l1 (by omega) (by omega) dX12_take_140 ?_
                      rw [show rla 1 = s from ela1]
                      refine go_icmp_geI (tgt := 208) (by omega) (by omega) dX12_take_141 (by decide) (fun c_141 => ?_) (fun c_141 => ?_)
                      · have kdn : kd = (s 0).toNat := by omega
                        rw [kdn]
                        have b1 := sp_ts_b (f := sp_lq s) (B := 8) (by omega) (N := (s 0).toNat) (fun k a b => sp_lq_b s k) (kc : Int) (Nat.le_refl _)
                        have b2 := sp_ts_b (f := sp_co s) (B := 99) (by omega) (N := (s 0).toNat) (fun k a b => hcm k a (by omega)) (kc : Int) (Nat.le_refl _)
                        refine go_iload dX12_take_208 8 rfl ?_
                        refine go_iload_n dX12_take_210 rfl 1 rfl ?_
                        refine go_icmp_gtI (tgt := 246) (by omega) (by omega) dX12_take_211 (by decide) (fun c_211 => ?_) (fun c_211 => ?_)
                        · refine go_iincI (a := (kc : Int)) (n := 1) (k0 := 6) (lv' := [(0, .ref mb), (1, rj_i coin), (2, rj_i w), (3, rj_i ((sp_tk s coin kc).1)), (4, rj_i ((sp_tk s coin kc).2.1)), (5, rj_i ((sp_tk s coin kc).2.2)), (6, rj_i ((kc : Int) + 1)), (7, rj_i (sp_ts (sp_lq s) (kc : Int) (s 0).toNat)), (8, rj_i (sp_ts (sp_co s) (kc : Int) (s 0).toNat)), (9, rj_i (((s 0).toNat : Nat) : Int))]) rfl (by decide) rfl dX12_take_246 ?_
                          refine go_goto (tgt := 111) dX12_take_249 (by decide) ?_
                          refine go_sub (lv' := [(0, .ref mb), (1, rj_i coin), (2, rj_i w), (3, rj_i ((sp_tk s coin kc).1)), (4, rj_i ((sp_tk s coin kc).2.1)), (5, rj_i ((sp_tk s coin kc).2.2)), (6, rj_i ((kc : Int) + 1))]) (by intro q hq; simp only [List.mem_cons, List.not_mem_nil, or_false] at hq ⊢; rcases hq with rfl | rfl | rfl | rfl | rfl | rfl | rfl <;> simp) ?_
                          exact go_eq rfl (lv' := [(0, .ref mb), (1, rj_i coin), (2, rj_i w), (3, rj_i ((sp_tk s coin (kc + 1)).1)), (4, rj_i ((sp_tk s coin (kc + 1)).2.1)), (5, rj_i ((sp_tk s coin (kc + 1)).2.2)), (6, rj_i ((kc + 1 : Nat) : Int))]) (rj_lk (rj_lk (rj_lk (rj_lj (by rw [sp_tk, sp_tkS, if_neg (by omega)]) (rj_lj (by rw [sp_tk, sp_tkS, if_neg (by omega)]) (rj_lj (by rw [sp_tk, sp_tkS, if_neg (by omega)]) (rj_lj (by omega) rfl))))))) rfl rfl (ihc (kc + 1) (by omega))
                        · refine go_iload dX12_take_214 7 rfl ?_
                          refine go_iload dX12_take_216 4 rfl ?_
                          refine go_icmp_gtI (tgt := 235) (by omega) (by omega) dX12_take_218 (by decide) (fun c_218 => ?_) (fun c_218 => ?_)
                          · refine go_iload dX12_take_235 6 rfl ?_
                            refine go_istore_nS (lv' := [(0, .ref mb), (1, rj_i coin), (2, rj_i w), (3, rj_i (kc : Int)), (4, rj_i ((sp_tk s coin kc).2.1)), (5, rj_i ((sp_tk s coin kc).2.2)), (6, rj_i (kc : Int)), (7, rj_i (sp_ts (sp_lq s) (kc : Int) (s 0).toNat)), (8, rj_i (sp_ts (sp_co s) (kc : Int) (s 0).toNat)), (9, rj_i (((s 0).toNat : Nat) : Int))]) rfl (by decide) rfl dX12_take_237 ?_
                            refine go_iload dX12_take_238 7 rfl ?_
                            refine go_istoreS (lv' := [(0, .ref mb), (1, rj_i coin), (2, rj_i w), (3, rj_i (kc : Int)), (4, rj_i (sp_ts (sp_lq s) (kc : Int) (s 0).toNat)), (5, rj_i ((sp_tk s coin kc).2.2)), (6, rj_i (kc : Int)), (7, rj_i (sp_ts (sp_lq s) (kc : Int) (s 0).toNat)), (8, rj_i (sp_ts (sp_co s) (kc : Int) (s 0).toNat)), (9, rj_i (((s 0).toNat : Nat) : Int))]) (by decide) rfl dX12_take_240 ?_
                            refine go_iload dX12_take_242 8 rfl ?_
                            refine go_istoreS (lv' := [(0, .ref mb), (1, rj_i coin), (2, rj_i w), (3, rj_i (kc : Int)), (4, rj_i (sp_ts (sp_lq s) (kc : Int) (s 0).toNat)), (5, rj_i (sp_ts (sp_co s) (kc : Int) (s 0).toNat)), (6, rj_i (kc : Int)), (7, rj_i (sp_ts (sp_lq s) (kc : Int) (s 0).toNat)), (8, rj_i (sp_ts (sp_co s) (kc : Int) (s 0).toNat)), (9, rj_i (((s 0).toNat : Nat) : Int))]) (by decide) rfl dX12_take_244 ?_
                            refine go_iincI (a := (kc : Int)) (n := 1) (k0 := 6) (lv' := [(0, .ref mb), (1, rj_i coin), (2, rj_i w), (3, rj_i (kc : Int)), (4, rj_i (sp_ts (sp_lq s) (kc : Int) (s 0).toNat)), (5, rj_i (sp_ts (sp_co s) (kc : Int) (s 0).toNat)), (6, rj_i ((kc : Int) + 1)), (7, rj_i (sp_ts (sp_lq s) (kc : Int) (s 0).toNat)), (8, rj_i (sp_ts (sp_co s) (kc : Int) (s 0).toNat)), (9, rj_i (((s 0).toNat : Nat) : Int))]) rfl (by decide) rfl dX12_take_246 ?_
                            refine go_goto (tgt := 111) dX12_take_249 (by decide) ?_
                            refine go_sub (lv' := [(0, .ref mb), (1, rj_i coin), (2, rj_i w), (3, rj_i (kc : Int)), (4, rj_i (sp_ts (sp_lq s) (kc : Int) (s 0).toNat)), (5, rj_i (sp_ts (sp_co s) (kc : Int) (s 0).toNat)), (6, rj_i ((kc : Int) + 1))]) (by intro q hq; simp only [List.mem_cons, List.not_mem_nil, or_false] at hq ⊢; rcases hq with rfl | rfl | rfl | rfl | rfl | rfl | rfl <;> simp) ?_
                            exact go_eq rfl (lv' := [(0, .ref mb), (1, rj_i coin), (2, rj_i w), (3, rj_i ((sp_tk s coin (kc + 1)).1)), (4, rj_i ((sp_tk s coin (kc + 1)).2.1)), (5, rj_i ((sp_tk s coin (kc + 1)).2.2)), (6, rj_i ((kc + 1 : Nat) : Int))]) (rj_lk (rj_lk (rj_lk (rj_lj (by rw [sp_tk, sp_tkS, if_pos (by omega)]) (rj_lj (by rw [sp_tk, sp_tkS, if_pos (by omega)]) (rj_lj (by rw [sp_tk, sp_tkS, if_pos (by omega)]) (rj_lj (by omega) rfl))))))) rfl rfl (ihc (kc + 1) (by omega))
                          · refine go_iload dX12_take_221 7 rfl ?_
                            refine go_iload dX12_take_223 4 rfl ?_
                            refine go_icmp_neI (tgt := 246) (by omega) (by omega) dX12_take_225 (by decide) (fun c_225 => ?_) (fun c_225 => ?_)
                            · refine go_iincI (a := (kc : Int)) (n := 1) (k0 := 6) (lv' := [(0, .ref mb), (1, rj_i coin), (2, rj_i w), (3, rj_i ((sp_tk s coin kc).1)), (4, rj_i ((sp_tk s coin kc).2.1)), (5, rj_i ((sp_tk s coin kc).2.2)), (6, rj_i ((kc : Int) + 1)), (7, rj_i (sp_ts (sp_lq s) (kc : Int) (s 0).toNat)), (8, rj_i (sp_ts (sp_co s) (kc : Int) (s 0).toNat)), (9, rj_i (((s 0).toNat : Nat) : Int))]) rfl (by decide) rfl dX12_take_246 ?_
                              refine go_goto (tgt := 111) dX12_take_249 (by decide) ?_
                              refine go_sub (lv' := [(0, .ref mb), (1, rj_i coin), (2, rj_i w), (3, rj_i ((sp_tk s coin kc).1)), (4, rj_i ((sp_tk s coin kc).2.1)), (5, rj_i ((sp_tk s coin kc).2.2)), (6, rj_i ((kc : Int) + 1))]) (by intro q hq; simp only [List.mem_cons, List.not_mem_nil, or_false] at hq ⊢; rcases hq with rfl | rfl | rfl | rfl | rfl | rfl | rfl <;> simp) ?_
                              exact go_eq rfl (lv' := [(0, .ref mb), (1, rj_i coin), (2, rj_i w), (3, rj_i ((sp_tk s coin (kc + 1)).1)), (4, rj_i ((sp_tk s coin (kc + 1)).2.1)), (5, rj_i ((sp_tk s coin (kc + 1)).2.2)), (6, rj_i ((kc + 1 : Nat) : Int))]) (rj_lk (rj_lk (rj_lk (rj_lj (by rw [sp_tk, sp_tkS, if_neg (by omega)]) (rj_lj (by rw [sp_tk, sp_tkS, if_neg (by omega)]) (rj_lj (by rw [sp_tk, sp_tkS, if_neg (by omega)]) (rj_lj (by omega) rfl))))))) rfl rfl (ihc (kc + 1) (by omega))
                            · refine go_iload dX12_take_228 8 rfl ?_
                              refine go_iload dX12_take_230 5 rfl ?_
                              refine go_icmp_geI (tgt := 246) (by omega) (by omega) dX12_take_232 (by decide) (fun c_232 => ?_) (fun c_232 => ?_)
                              · refine go_iincI (a := (kc : Int)) (n := 1) (k0 := 6) (lv' := [(0, .ref mb), (1, rj_i coin), (2, rj_i w), (3, rj_i ((sp_tk s coin kc).1)), (4, rj_i ((sp_tk s coin kc).2.1)), (5, rj_i ((sp_tk s coin kc).2.2)), (6, rj_i ((kc : Int) + 1)), (7, rj_i (sp_ts (sp_lq s) (kc : Int) (s 0).toNat)), (8, rj_i (sp_ts (sp_co s) (kc : Int) (s 0).toNat)), (9, rj_i (((s 0).toNat : Nat) : Int))]) rfl (by decide) rfl dX12_take_246 ?_
                                refine go_goto (tgt := 111) dX12_take_249 (by decide) ?_
                                refine go_sub (lv' := [(0, .ref mb), (1, rj_i coin), (2, rj_i w), (3, rj_i ((sp_tk s coin kc).1)), (4, rj_i ((sp_tk s coin kc).2.1)), (5, rj_i ((sp_tk s coin kc).2.2)), (6, rj_i ((kc : Int) + 1))]) (by intro q hq; simp only [List.mem_cons, List.not_mem_nil, or_false] at hq ⊢; rcases hq with rfl | rfl | rfl | rfl | rfl | rfl | rfl <;> simp) ?_
                                exact go_eq rfl (lv' := [(0, .ref mb), (1, rj_i coin), (2, rj_i w), (3, rj_i ((sp_tk s coin (kc + 1)).1)), (4, rj_i ((sp_tk s coin (kc + 1)).2.1)), (5, rj_i ((sp_tk s coin (kc + 1)).2.2)), (6, rj_i ((kc + 1 : Nat) : Int))]) (rj_lk (rj_lk (rj_lk (rj_lj (by rw [sp_tk, sp_tkS, if_neg (by omega)]) (rj_lj (by rw [sp_tk, sp_tkS, if_neg (by omega)]) (rj_lj (by rw [sp_tk, sp_tkS, if_neg (by omega)]) (rj_lj (by omega) rfl))))))) rfl rfl (ihc (kc + 1) (by omega))
                              · refine go_iload dX12_take_235 6 rfl ?_
                                refine go_istore_nS (lv' := [(0, .ref mb), (1, rj_i coin), (2, rj_i w), (3, rj_i (kc : Int)), (4, rj_i ((sp_tk s coin kc).2.1)), (5, rj_i ((sp_tk s coin kc).2.2)), (6, rj_i (kc : Int)), (7, rj_i (sp_ts (sp_lq s) (kc : Int) (s 0).toNat)), (8, rj_i (sp_ts (sp_co s) (kc : Int) (s 0).toNat)), (9, rj_i (((s 0).toNat : Nat) : Int))]) rfl (by decide) rfl dX12_take_237 ?_
                                refine go_iload dX12_take_238 7 rfl ?_
                                refine go_istoreS (lv' := [(0, .ref mb), (1, rj_i coin), (2, rj_i w), (3, rj_i (kc : Int)), (4, rj_i (sp_ts (sp_lq s) (kc : Int) (s 0).toNat)), (5, rj_i ((sp_tk s coin kc).2.2)), (6, rj_i (kc : Int)), (7, rj_i (sp_ts (sp_lq s) (kc : Int) (s 0).toNat)), (8, rj_i (sp_ts (sp_co s) (kc : Int) (s 0).toNat)), (9, rj_i (((s 0).toNat : Nat) : Int))]) (by decide) rfl dX12_take_240 ?_
                                refine go_iload dX12_take_242 8 rfl ?_
                                refine go_istoreS (lv' := [(0, .ref mb), (1, rj_i coin), (2, rj_i w), (3, rj_i (kc : Int)), (4, rj_i (sp_ts (sp_lq s) (kc : Int) (s 0).toNat)), (5, rj_i (sp_ts (sp_co s) (kc : Int) (s 0).toNat)), (6, rj_i (kc : Int)), (7, rj_i (sp_ts (sp_lq s) (kc : Int) (s 0).toNat)), (8, rj_i (sp_ts (sp_co s) (kc : Int) (s 0).toNat)), (9, rj_i (((s 0).toNat : Nat) : Int))]) (by decide) rfl dX12_take_244 ?_
                                refine go_iincI (a := (kc : Int)) (n := 1) (k0 := 6) (lv' := [(0, .ref mb), (1, rj_i coin), (2, rj_i w), (3, rj_i (kc : Int)), (4, rj_i (sp_ts (sp_lq s) (kc : Int) (s 0).toNat)), (5, rj_i (sp_ts (sp_co s) (kc : Int) (s 0).toNat)), (6, rj_i ((kc : Int) + 1)), (7, rj_i (sp_ts (sp_lq s) (kc : Int) (s 0).toNat)), (8, rj_i (sp_ts (sp_co s) (kc : Int) (s 0).toNat)), (9, rj_i (((s 0).toNat : Nat) : Int))]) rfl (by decide) rfl dX12_take_246 ?_
                                refine go_goto (tgt := 111) dX12_take_249 (by decide) ?_
                                refine go_sub (lv' := [(0, .ref mb), (1, rj_i coin), (2, rj_i w), (3, rj_i (kc : Int)), (4, rj_i (sp_ts (sp_lq s) (kc : Int) (s 0).toNat)), (5, rj_i (sp_ts (sp_co s) (kc : Int) (s 0).toNat)), (6, rj_i ((kc : Int) + 1))]) (by intro q hq; simp only [List.mem_cons, List.not_mem_nil, or_false] at hq ⊢; rcases hq with rfl | rfl | rfl | rfl | rfl | rfl | rfl <;> simp) ?_
                                exact go_eq rfl (lv' := [(0, .ref mb), (1, rj_i coin), (2, rj_i w), (3, rj_i ((sp_tk s coin (kc + 1)).1)), (4, rj_i ((sp_tk s coin (kc + 1)).2.1)), (5, rj_i ((sp_tk s coin (kc + 1)).2.2)), (6, rj_i ((kc + 1 : Nat) : Int))]) (rj_lk (rj_lk (rj_lk (rj_lj (by rw [sp_tk, sp_tkS, if_pos (by omega)]) (rj_lj (by rw [sp_tk, sp_tkS, if_pos (by omega)]) (rj_lj (by rw [sp_tk, sp_tkS, if_pos (by omega)]) (rj_lj (by omega) rfl))))))) rfl rfl (ihc (kc + 1) (by omega))
                      · exact absurd c_141 (by omega)
                    | succ nd ihd =>
                      intro kd hkd 
                      have cb1 := sp_shr_b (x := (kc : Int)) (by omega) (kd : Int).toNat
                      have bx1 := sp_btx_b (kc : Int) (kd : Int)
                      have co1 := hcm (kd : Int) (by omega) (by omega)
                      refine go_iload dX12_take_133 9 rfl ?_
                      refine go_aload_n dX12_take_135 rfl 0 rfl ?_
                      refine grm_g1 rfl dX12_take_136 ?_
                      refine go_iconst (v := Int32.ofInt 0) dX12_take_139 rfl ?_
                      refine grm_l1 (by omega) (by omega) dX12_take_140 ?_
                      rw [show rla 1 = s from ela1]
                      refine go_icmp_geI (tgt := 208) (by omega) (by omega) dX12_take_141 (by decide) (fun c_141 => ?_) (fun c_141 => ?_)
                      · exact absurd c_141 (by omega)
                      · refine go_iload dX12_take_144 7 rfl ?_
                        refine go_iload dX12_take_146 6 rfl ?_
                        refine go_iload dX12_take_148 9 rfl ?_
                        refine go_shrI (a := (kc : Int)) (b := (kd : Int)) (by omega) (by omega) dX12_take_150 ?_
                        refine go_iconst (v := Int32.ofInt 1) dX12_take_151 rfl ?_
                        refine go_and1 (by omega) dX12_take_152 ?_
                        rw [show ((kc : Int) / 2 ^ (kd : Int).toNat) % 2 = sp_btx (kc : Int) (kd : Int) from rfl]
                        refine go_iconst (v := Int32.ofInt 1) dX12_take_153 rfl ?_
                        refine go_icmp_neI (tgt := 167) (by omega) (by omega) dX12_take_154 (by decide) (fun c_154 => ?_) (fun c_154 => ?_)
                        · refine go_iconst (v := Int32.ofInt 0) dX12_take_167 rfl ?_
                          refine go_addI dX12_take_168 ?_
                          refine go_istoreS (lv' := [(0, .ref mb), (1, rj_i coin), (2, rj_i w), (3, rj_i ((sp_tk s coin kc).1)), (4, rj_i ((sp_tk s coin kc).2.1)), (5, rj_i ((sp_tk s coin kc).2.2)), (6, rj_i (kc : Int)), (7, rj_i ((sp_ts (sp_lq s) (kc : Int) kd) + 0)), (8, rj_i (sp_ts (sp_co s) (kc : Int) kd)), (9, rj_i (kd : Int))]) (by decide) rfl dX12_take_169 ?_
                          refine go_iload dX12_take_171 8 rfl ?_
                          refine go_iload dX12_take_173 6 rfl ?_
                          refine go_iload dX12_take_175 9 rfl ?_
                          refine go_shrI (a := (kc : Int)) (b := (kd : Int)) (by omega) (by omega) dX12_take_177 ?_
                          refine go_iconst (v := Int32.ofInt 1) dX12_take_178 rfl ?_
                          refine go_and1 (by omega) dX12_take_179 ?_
                          rw [show ((kc : Int) / 2 ^ (kd : Int).toNat) % 2 = sp_btx (kc : Int) (kd : Int) from rfl]
                          refine go_iconst (v := Int32.ofInt 1) dX12_take_180 rfl ?_
                          refine go_icmp_neI (tgt := 198) (by omega) (by omega) dX12_take_181 (by decide) (fun c_181 => ?_) (fun c_181 => ?_)
                          · refine go_iconst (v := Int32.ofInt 0) dX12_take_198 rfl ?_
                            refine go_addI dX12_take_199 ?_
                            refine go_istoreS (lv' := [(0, .ref mb), (1, rj_i coin), (2, rj_i w), (3, rj_i ((sp_tk s coin kc).1)), (4, rj_i ((sp_tk s coin kc).2.1)), (5, rj_i ((sp_tk s coin kc).2.2)), (6, rj_i (kc : Int)), (7, rj_i ((sp_ts (sp_lq s) (kc : Int) kd) + 0)), (8, rj_i ((sp_ts (sp_co s) (kc : Int) kd) + 0)), (9, rj_i (kd : Int))]) (by decide) rfl dX12_take_200 ?_
                            refine go_iincI (a := (kd : Int)) (n := 1) (k0 := 9) (lv' := [(0, .ref mb), (1, rj_i coin), (2, rj_i w), (3, rj_i ((sp_tk s coin kc).1)), (4, rj_i ((sp_tk s coin kc).2.1)), (5, rj_i ((sp_tk s coin kc).2.2)), (6, rj_i (kc : Int)), (7, rj_i ((sp_ts (sp_lq s) (kc : Int) kd) + 0)), (8, rj_i ((sp_ts (sp_co s) (kc : Int) kd) + 0)), (9, rj_i ((kd : Int) + 1))]) rfl (by decide) rfl dX12_take_202 ?_
                            refine go_goto (tgt := 133) dX12_take_205 (by decide) ?_
                            exact go_eq rfl (lv' := [(0, .ref mb), (1, rj_i coin), (2, rj_i w), (3, rj_i ((sp_tk s coin kc).1)), (4, rj_i ((sp_tk s coin kc).2.1)), (5, rj_i ((sp_tk s coin kc).2.2)), (6, rj_i (kc : Int)), (7, rj_i (sp_ts (sp_lq s) (kc : Int) (kd + 1))), (8, rj_i (sp_ts (sp_co s) (kc : Int) (kd + 1))), (9, rj_i ((kd + 1 : Nat) : Int))]) (rj_lk (rj_lk (rj_lk (rj_lk (rj_lk (rj_lk (rj_lk (rj_lj (by first | exact absurd c_154 c_181 | exact absurd c_181 c_154 | (rw [sp_ts_s]; simp [sp_co, c_181, c_154])) (rj_lj (by first | exact absurd c_154 c_181 | exact absurd c_181 c_154 | (rw [sp_ts_s]; simp [sp_co, c_181, c_154])) (rj_lj (by omega) rfl)))))))))) rfl rfl (ihd (kd + 1) (by omega))
                          · refine go_aload_n dX12_take_184 rfl 0 rfl ?_
                            refine grm_g1 rfl dX12_take_185 ?_
                            refine go_sipush (v := Int32.ofInt 160) dX12_take_188 (by decide) ?_
                            refine go_iload dX12_take_191 9 rfl ?_
                            refine go_addI dX12_take_193 ?_
                            refine grm_l1 (by omega) (by omega) dX12_take_194 ?_
                            rw [show rla 1 = s from ela1]
                            refine go_goto (tgt := 199) dX12_take_195 (by decide) ?_
                            refine go_addI dX12_take_199 ?_
                            refine go_istoreS (lv' := [(0, .ref mb), (1, rj_i coin), (2, rj_i w), (3, rj_i ((sp_tk s coin kc).1)), (4, rj_i ((sp_tk s coin kc).2.1)), (5, rj_i ((sp_tk s coin kc).2.2)), (6, rj_i (kc : Int)), (7, rj_i ((sp_ts (sp_lq s) (kc : Int) kd) + 0)), (8, rj_i ((sp_ts (sp_co s) (kc : Int) kd) + (s (160 + (kd : Int))))), (9, rj_i (kd : Int))]) (by decide) rfl dX12_take_200 ?_
                            refine go_iincI (a := (kd : Int)) (n := 1) (k0 := 9) (lv' := [(0, .ref mb), (1, rj_i coin), (2, rj_i w), (3, rj_i ((sp_tk s coin kc).1)), (4, rj_i ((sp_tk s coin kc).2.1)), (5, rj_i ((sp_tk s coin kc).2.2)), (6, rj_i (kc : Int)), (7, rj_i ((sp_ts (sp_lq s) (kc : Int) kd) + 0)), (8, rj_i ((sp_ts (sp_co s) (kc : Int) kd) + (s (160 + (kd : Int))))), (9, rj_i ((kd : Int) + 1))]) rfl (by decide) rfl dX12_take_202 ?_
                            refine go_goto (tgt := 133) dX12_take_205 (by decide) ?_
                            exact go_eq rfl (lv' := [(0, .ref mb), (1, rj_i coin), (2, rj_i w), (3, rj_i ((sp_tk s coin kc).1)), (4, rj_i ((sp_tk s coin kc).2.1)), (5, rj_i ((sp_tk s coin kc).2.2)), (6, rj_i (kc : Int)), (7, rj_i (sp_ts (sp_lq s) (kc : Int) (kd + 1))), (8, rj_i (sp_ts (sp_co s) (kc : Int) (kd + 1))), (9, rj_i ((kd + 1 : Nat) : Int))]) (rj_lk (rj_lk (rj_lk (rj_lk (rj_lk (rj_lk (rj_lk (rj_lj (by first | exact absurd c_154 c_181 | exact absurd c_181 c_154 | (rw [sp_ts_s]; simp [sp_co, c_181, c_154])) (rj_lj (by first | exact absurd c_154 c_181 | exact absurd c_181 c_154 | (rw [sp_ts_s]; simp [sp_co, c_181, c_154])) (rj_lj (by omega) rfl)))))))))) rfl rfl (ihd (kd + 1) (by omega))
                        · refine go_aload_n dX12_take_157 rfl 0 rfl ?_
                          refine grm_g16 rfl dX12_take_158 ?_
                          refine go_iload dX12_take_161 9 rfl ?_
                          refine grm_l16 (by omega) (by omega) dX12_take_163 ?_
                          rw [show rla 16 = sp_cp (sp_lq s) t16 ka from ela16]
                          rw [show (sp_cp (sp_lq s) t16 ka) (kd : Int) = sp_lq s (kd : Int) from by unfold sp_cp; rw [if_pos (by omega)]]
                          refine go_goto (tgt := 168) dX12_take_164 (by decide) ?_
                          refine go_addI dX12_take_168 ?_
                          refine go_istoreS (lv' := [(0, .ref mb), (1, rj_i coin), (2, rj_i w), (3, rj_i ((sp_tk s coin kc).1)), (4, rj_i ((sp_tk s coin kc).2.1)), (5, rj_i ((sp_tk s coin kc).2.2)), (6, rj_i (kc : Int)), (7, rj_i ((sp_ts (sp_lq s) (kc : Int) kd) + (sp_lq s (kd : Int)))), (8, rj_i (sp_ts (sp_co s) (kc : Int) kd)), (9, rj_i (kd : Int))]) (by decide) rfl dX12_take_169 ?_
                          refine go_iload dX12_take_171 8 rfl ?_
                          refine go_iload dX12_take_173 6 rfl ?_
                          refine go_iload dX12_take_175 9 rfl ?_
                          refine go_shrI (a := (kc : Int)) (b := (kd : Int)) (by omega) (by omega) dX12_take_177 ?_
                          refine go_iconst (v := Int32.ofInt 1) dX12_take_178 rfl ?_
                          refine go_and1 (by omega) dX12_take_179 ?_
                          rw [show ((kc : Int) / 2 ^ (kd : Int).toNat) % 2 = sp_btx (kc : Int) (kd : Int) from rfl]
                          refine go_iconst (v := Int32.ofInt 1) dX12_take_180 rfl ?_
                          refine go_icmp_neI (tgt := 198) (by omega) (by omega) dX12_take_181 (by decide) (fun c_181 => ?_) (fun c_181 => ?_)
                          · refine go_iconst (v := Int32.ofInt 0) dX12_take_198 rfl ?_
                            refine go_addI dX12_take_199 ?_
                            refine go_istoreS (lv' := [(0, .ref mb), (1, rj_i coin), (2, rj_i w), (3, rj_i ((sp_tk s coin kc).1)), (4, rj_i ((sp_tk s coin kc).2.1)), (5, rj_i ((sp_tk s coin kc).2.2)), (6, rj_i (kc : Int)), (7, rj_i ((sp_ts (sp_lq s) (kc : Int) kd) + (sp_lq s (kd : Int)))), (8, rj_i ((sp_ts (sp_co s) (kc : Int) kd) + 0)), (9, rj_i (kd : Int))]) (by decide) rfl dX12_take_200 ?_
                            refine go_iincI (a := (kd : Int)) (n := 1) (k0 := 9) (lv' := [(0, .ref mb), (1, rj_i coin), (2, rj_i w), (3, rj_i ((sp_tk s coin kc).1)), (4, rj_i ((sp_tk s coin kc).2.1)), (5, rj_i ((sp_tk s coin kc).2.2)), (6, rj_i (kc : Int)), (7, rj_i ((sp_ts (sp_lq s) (kc : Int) kd) + (sp_lq s (kd : Int)))), (8, rj_i ((sp_ts (sp_co s) (kc : Int) kd) + 0)), (9, rj_i ((kd : Int) + 1))]) rfl (by decide) rfl dX12_take_202 ?_
                            refine go_goto (tgt := 133) dX12_take_205 (by decide) ?_
                            exact go_eq rfl (lv' := [(0, .ref mb), (1, rj_i coin), (2, rj_i w), (3, rj_i ((sp_tk s coin kc).1)), (4, rj_i ((sp_tk s coin kc).2.1)), (5, rj_i ((sp_tk s coin kc).2.2)), (6, rj_i (kc : Int)), (7, rj_i (sp_ts (sp_lq s) (kc : Int) (kd + 1))), (8, rj_i (sp_ts (sp_co s) (kc : Int) (kd + 1))), (9, rj_i ((kd + 1 : Nat) : Int))]) (rj_lk (rj_lk (rj_lk (rj_lk (rj_lk (rj_lk (rj_lk (rj_lj (by first | exact absurd c_154 c_181 | exact absurd c_181 c_154 | (rw [sp_ts_s]; simp [sp_co, c_181, c_154])) (rj_lj (by first | exact absurd c_154 c_181 | exact absurd c_181 c_154 | (rw [sp_ts_s]; simp [sp_co, c_181, c_154])) (rj_lj (by omega) rfl)))))))))) rfl rfl (ihd (kd + 1) (by omega))
                          · refine go_aload_n dX12_take_184 rfl 0 rfl ?_
                            refine grm_g1 rfl dX12_take_185 ?_
                            refine go_sipush (v := Int32.ofInt 160) dX12_take_188 (by decide) ?_
                            refine go_iload dX12_take_191 9 rfl ?_
                            refine go_addI dX12_take_193 ?_
                            refine grm_l1 (by omega) (by omega) dX12_take_194 ?_
                            rw [show rla 1 = s from ela1]
                            refine go_goto (tgt := 199) dX12_take_195 (by decide) ?_
                            refine go_addI dX12_take_199 ?_
                            refine go_istoreS (lv' := [(0, .ref mb), (1, rj_i coin), (2, rj_i w), (3, rj_i ((sp_tk s coin kc).1)), (4, rj_i ((sp_tk s coin kc).2.1)), (5, rj_i ((sp_tk s coin kc).2.2)), (6, rj_i (kc : Int)), (7, rj_i ((sp_ts (sp_lq s) (kc : Int) kd) + (sp_lq s (kd : Int)))), (8, rj_i ((sp_ts (sp_co s) (kc : Int) kd) + (s (160 + (kd : Int))))), (9, rj_i (kd : Int))]) (by decide) rfl dX12_take_200 ?_
                            refine go_iincI (a := (kd : Int)) (n := 1) (k0 := 9) (lv' := [(0, .ref mb), (1, rj_i coin), (2, rj_i w), (3, rj_i ((sp_tk s coin kc).1)), (4, rj_i ((sp_tk s coin kc).2.1)), (5, rj_i ((sp_tk s coin kc).2.2)), (6, rj_i (kc : Int)), (7, rj_i ((sp_ts (sp_lq s) (kc : Int) kd) + (sp_lq s (kd : Int)))), (8, rj_i ((sp_ts (sp_co s) (kc : Int) kd) + (s (160 + (kd : Int))))), (9, rj_i ((kd : Int) + 1))]) rfl (by decide) rfl dX12_take_202 ?_
                            refine go_goto (tgt := 133) dX12_take_205 (by decide) ?_
                            exact go_eq rfl (lv' := [(0, .ref mb), (1, rj_i coin), (2, rj_i w), (3, rj_i ((sp_tk s coin kc).1)), (4, rj_i ((sp_tk s coin kc).2.1)), (5, rj_i ((sp_tk s coin kc).2.2)), (6, rj_i (kc : Int)), (7, rj_i (sp_ts (sp_lq s) (kc : Int) (kd + 1))), (8, rj_i (sp_ts (sp_co s) (kc : Int) (kd + 1))), (9, rj_i ((kd + 1 : Nat) : Int))]) (rj_lk (rj_lk (rj_lk (rj_lk (rj_lk (rj_lk (rj_lk (rj_lj (by first | exact absurd c_154 c_181 | exact absurd c_181 c_154 | (rw [sp_ts_s]; simp [sp_co, c_181, c_154])) (rj_lj (by first | exact absurd c_154 c_181 | exact absurd c_181 c_154 | (rw [sp_ts_s]; simp [sp_co, c_181, c_154])) (rj_lj (by omega) rfl)))))))))) rfl rfl (ihd (kd + 1) (by omega))
                  exact go_eq rfl (lv' := [(0, .ref mb), (1, rj_i coin), (2, rj_i w), (3, rj_i ((sp_tk s coin kc).1)), (4, rj_i ((sp_tk s coin kc).2.1)), (5, rj_i ((sp_tk s coin kc).2.2)), (6, rj_i (kc : Int)), (7, rj_i (sp_ts (sp_lq s) (kc : Int) 0)), (8, rj_i (sp_ts (sp_co s) (kc : Int) 0)), (9, rj_i ((0 : Nat) : Int))]) (rj_lk (rj_lk (rj_lk (rj_lk (rj_lk (rj_lk (rj_lk (rj_lj (rfl) (rj_lj (rfl) (rj_lj (rfl) rfl)))))))))) rfl rfl (loopd (s 0).toNat 0 (by omega))
            exact go_eq rfl (lv' := [(0, .ref mb), (1, rj_i coin), (2, rj_i w), (3, rj_i ((sp_tk s coin 1).1)), (4, rj_i ((sp_tk s coin 1).2.1)), (5, rj_i ((sp_tk s coin 1).2.2)), (6, rj_i ((1 : Nat) : Int))]) (rj_lk (rj_lk (rj_lk (rj_lj (by rw [sp_tk1]) (rj_lj (by rw [sp_tk1]) (rj_lj (by rw [sp_tk1]) (rj_lj (rfl) rfl))))))) rfl rfl (loopc (N2 - 1) 1 (by omega))
          · exact absurd c_44 (by omega)
        | succ na iha =>
          intro ka rla hka ela1 ela2 ela3 ela11 ela17 ela18 ela16
          refine go_iload_n dX12_take_37 rfl 3 rfl ?_
          refine go_aload_n dX12_take_38 rfl 0 rfl ?_
          refine grm_g1 rfl dX12_take_39 ?_
          refine go_iconst (v := Int32.ofInt 0) dX12_take_42 rfl ?_
          refine grm_l1 (by omega) (by omega) dX12_take_43 ?_
          rw [show rla 1 = s from ela1]
          refine go_icmp_geI (tgt := 100) (by omega) (by omega) dX12_take_44 (by decide) (fun c_44 => ?_) (fun c_44 => ?_)
          · exact absurd c_44 (by omega)
          · refine go_aload_n dX12_take_47 rfl 0 rfl ?_
            refine grm_g16 rfl dX12_take_48 ?_
            refine go_iload_n dX12_take_51 rfl 3 rfl ?_
            refine go_iconst (v := Int32.ofInt 0) dX12_take_52 rfl ?_
            refine grm_s16 (by omega) (by omega) dX12_take_53 ?_
            refine go_iconst (v := Int32.ofInt 0) dX12_take_54 rfl ?_
            refine go_istoreS (lv' := [(0, .ref mb), (1, rj_i coin), (2, rj_i w), (3, rj_i (ka : Int)), (4, rj_i 0)]) (by decide) rfl dX12_take_55 ?_
            have loopb : ∀ (nb kb : Nat) (rlb : rm_R), kb + nb = (8 : Int).toNat → rlb 1 = s → rlb 2 = (r 2) → rlb 3 0 = (r 3 0) → rlb 11 0 = s 4 → rlb 17 = (r 17) → rlb 18 0 = (r 18 0) → rlb 16 = rj_up (sp_cp (sp_lq s) t16 ka) (ka : Int) (sp_sum (fun q => rj_b (sp_so s (s 4) (-11) (ka : Int) 99 q = true)) kb) → rj_Go X9 yX12_take cX12_take 10 (some .int) d (fun w9 τ => w9 = some (rj_i (sp_takeF s coin w)) ∧ ∃ r0, rm_V r r0 s ∧ τ = rm_p X9 mb r0 σ) 57 [(0, .ref mb), (1, rj_i coin), (2, rj_i w), (3, rj_i (ka : Int)), (4, rj_i (kb : Int))] [] (rm_p X9 mb rlb σ) := by
              intro nb
              induction nb with
              | zero =>
                intro kb rlb hkb elb1 elb2 elb3 elb11 elb17 elb18 elb16
                refine go_iload dX12_take_57 4 rfl ?_
                refine go_bipush (v := Int32.ofInt 8) dX12_take_59 (by decide) ?_
                refine go_icmp_geI (tgt := 94) (by omega) (by omega) dX12_take_61 (by decide) (fun c_61 => ?_) (fun c_61 => ?_)
                · refine go_iincI (a := (ka : Int)) (n := 1) (k0 := 3) (lv' := [(0, .ref mb), (1, rj_i coin), (2, rj_i w), (3, rj_i ((ka : Int) + 1)), (4, rj_i (kb : Int))]) rfl (by decide) rfl dX12_take_94 ?_
                  refine go_goto (tgt := 37) dX12_take_97 (by decide) ?_
                  refine go_sub (lv' := [(0, .ref mb), (1, rj_i coin), (2, rj_i w), (3, rj_i ((ka : Int) + 1))]) (by intro q hq; simp only [List.mem_cons, List.not_mem_nil, or_false] at hq ⊢; rcases hq with rfl | rfl | rfl | rfl <;> simp) ?_
                  exact go_eq rfl (lv' := [(0, .ref mb), (1, rj_i coin), (2, rj_i w), (3, rj_i ((ka + 1 : Nat) : Int))]) (rj_lk (rj_lk (rj_lk (rj_lj (by omega) rfl)))) rfl rfl (iha (ka + 1) rlb (by omega) ((show rlb 1 = s from elb1)) ((show rlb 2 = (r 2) from elb2)) ((show rlb 3 0 = (r 3 0) from elb3)) ((show rlb 11 0 = s 4 from elb11)) ((show rlb 17 = (r 17) from elb17)) ((show rlb 18 0 = (r 18 0) from elb18)) (((show rlb 16 = rj_up (sp_cp (sp_lq s) t16 ka) (ka : Int) (sp_sum (fun q => rj_b (sp_so s (s 4) (-11) (ka : Int) 99 q = true)) kb) from elb16)).trans (by rw [← sp_cp_s, sp_lq, show kb = 8 by omega])))
                · exact absurd c_61 (by omega)
              | succ nb ihb =>
                intro kb rlb hkb elb1 elb2 elb3 elb11 elb17 elb18 elb16
                refine go_iload dX12_take_57 4 rfl ?_
                refine go_bipush (v := Int32.ofInt 8) dX12_take_59 (by decide) ?_
                refine go_icmp_geI (tgt := 94) (by omega) (by omega) dX12_take_61 (by decide) (fun c_61 => ?_) (fun c_61 => ?_)
                · exact absurd c_61 (by omega)
                · refine go_aload_n dX12_take_64 rfl 0 rfl ?_
                  refine grm_g16 rfl dX12_take_65 ?_
                  refine go_iload_n dX12_take_68 rfl 3 rfl ?_
                  refine go_dup2_11 dX12_take_69 rfl rfl ?_
                  refine grm_l16 (by omega) (by omega) dX12_take_70 ?_
                  rw [show rlb 16 = rj_up (sp_cp (sp_lq s) t16 ka) (ka : Int) (sp_sum (fun q => rj_b (sp_so s (s 4) (-11) (ka : Int) 99 q = true)) kb) from elb16]
                  rw [show (rj_up (sp_cp (sp_lq s) t16 ka) (ka : Int) (sp_sum (fun q => rj_b (sp_so s (s 4) (-11) (ka : Int) 99 q = true)) kb)) (ka : Int) = sp_sum (fun q => rj_b (sp_so s (s 4) (-11) (ka : Int) 99 q = true)) kb from rj_up_eq _ _ _]
                  refine go_aload_n dX12_take_71 rfl 0 rfl ?_
                  refine go_iload_n dX12_take_72 rfl 3 rfl ?_
                  refine go_iload dX12_take_73 4 rfl ?_
                  refine go_callV (d1 := d - 1) wVX12_172 kX12 rm_ob rfl (by omega) (m_isLit (by omega) (m := (ka : Int)) (q := (kb : Int)) (hs := (show rlb 1 = s from elb1)) (hD := (show rlb 11 0 = s 4 from elb11)) (by omega) hI (by omega) (by omega)) rfl (Nat.le_of_ble_eq_true rfl) dX12_take_75 (fun w σ1 hP => ?_)
                  obtain ⟨rfl, r61, hr61, rfl⟩ := hP
                  have q61_1 : r61 1 = s := (hr61 1 (by decide) (by decide)).trans (show rlb 1 = s from elb1)
                  have q61_2 : r61 2 = (r 2) := (hr61 2 (by decide) (by decide)).trans (show rlb 2 = (r 2) from elb2)
                  have q61_3 : r61 3 0 = (r 3 0) := (congrFun (hr61 3 (by decide) (by decide)) 0).trans (show rlb 3 0 = (r 3 0) from elb3)
                  have q61_11 : r61 11 0 = s 4 := (congrFun (hr61 11 (by decide) (by decide)) 0).trans (show rlb 11 0 = s 4 from elb11)
                  have q61_17 : r61 17 = (r 17) := (hr61 17 (by decide) (by decide)).trans (show rlb 17 = (r 17) from elb17)
                  have q61_18 : r61 18 0 = (r 18 0) := (congrFun (hr61 18 (by decide) (by decide)) 0).trans (show rlb 18 0 = (r 18 0) from elb18)
                  have q61_16 : r61 16 = rj_up (sp_cp (sp_lq s) t16 ka) (ka : Int) (sp_sum (fun q => rj_b (sp_so s (s 4) (-11) (ka : Int) 99 q = true)) kb) := (hr61 16 (by decide) (by decide)).trans (show rlb 16 = rj_up (sp_cp (sp_lq s) t16 ka) (ka : Int) (sp_sum (fun q => rj_b (sp_so s (s 4) (-11) (ka : Int) 99 q = true)) kb) from elb16)
                  refine go_if_eqB (tgt := 85) dX12_take_78 (by decide) (fun c_78 => ?_) (fun c_78 => ?_)
                  · refine go_iconst (v := Int32.ofInt 0) dX12_take_85 rfl ?_
                    refine go_addI dX12_take_86 ?_
                    refine grm_s16 (by omega) (by omega) dX12_take_87 ?_
                    refine go_iincI (a := (kb : Int)) (n := 1) (k0 := 4) (lv' := [(0, .ref mb), (1, rj_i coin), (2, rj_i w), (3, rj_i (ka : Int)), (4, rj_i ((kb : Int) + 1))]) rfl (by decide) rfl dX12_take_88 ?_
                    refine go_goto (tgt := 57) dX12_take_91 (by decide) ?_
                    exact go_eq rfl (lv' := [(0, .ref mb), (1, rj_i coin), (2, rj_i w), (3, rj_i (ka : Int)), (4, rj_i ((kb + 1 : Nat) : Int))]) (rj_lk (rj_lk (rj_lk (rj_lk (rj_lj (by omega) rfl))))) rfl rfl (ihb (kb + 1) (rm_u r61 16 (rj_up (r61 16) (ka : Int) ((sp_sum (fun q => rj_b (sp_so s (s 4) (-11) (ka : Int) 99 q = true)) kb) + 0))) (by omega) ((show (rm_u r61 16 (rj_up (r61 16) (ka : Int) ((sp_sum (fun q => rj_b (sp_so s (s 4) (-11) (ka : Int) 99 q = true)) kb) + 0))) 1 = s from q61_1)) ((show (rm_u r61 16 (rj_up (r61 16) (ka : Int) ((sp_sum (fun q => rj_b (sp_so s (s 4) (-11) (ka : Int) 99 q = true)) kb) + 0))) 2 = (r 2) from q61_2)) ((show (rm_u r61 16 (rj_up (r61 16) (ka : Int) ((sp_sum (fun q => rj_b (sp_so s (s 4) (-11) (ka : Int) 99 q = true)) kb) + 0))) 3 0 = (r 3 0) from q61_3)) ((show (rm_u r61 16 (rj_up (r61 16) (ka : Int) ((sp_sum (fun q => rj_b (sp_so s (s 4) (-11) (ka : Int) 99 q = true)) kb) + 0))) 11 0 = s 4 from q61_11)) ((show (rm_u r61 16 (rj_up (r61 16) (ka : Int) ((sp_sum (fun q => rj_b (sp_so s (s 4) (-11) (ka : Int) 99 q = true)) kb) + 0))) 17 = (r 17) from q61_17)) ((show (rm_u r61 16 (rj_up (r61 16) (ka : Int) ((sp_sum (fun q => rj_b (sp_so s (s 4) (-11) (ka : Int) 99 q = true)) kb) + 0))) 18 0 = (r 18 0) from q61_18)) (((show (rm_u r61 16 (rj_up (r61 16) (ka : Int) ((sp_sum (fun q => rj_b (sp_so s (s 4) (-11) (ka : Int) 99 q = true)) kb) + 0))) 16 = (rj_up (rj_up (sp_cp (sp_lq s) t16 ka) (ka : Int) (sp_sum (fun q => rj_b (sp_so s (s 4) (-11) (ka : Int) 99 q = true)) kb)) (ka : Int) ((sp_sum (fun q => rj_b (sp_so s (s 4) (-11) (ka : Int) 99 q = true)) kb) + 0)) from (congrArg (fun zz => rj_up zz (ka : Int) ((sp_sum (fun q => rj_b (sp_so s (s 4) (-11) (ka : Int) 99 q = true)) kb) + 0)) (show r61 16 = rj_up (sp_cp (sp_lq s) t16 ka) (ka : Int) (sp_sum (fun q => rj_b (sp_so s (s 4) (-11) (ka : Int) 99 q = true)) kb) from q61_16)))).trans (by rw [rj_up_up, sp_sum]; simp [c_78, rj_b])))
                  · refine go_iconst (v := Int32.ofInt 1) dX12_take_81 rfl ?_
                    refine go_goto (tgt := 86) dX12_take_82 (by decide) ?_
                    refine go_addI dX12_take_86 ?_
                    refine grm_s16 (by omega) (by omega) dX12_take_87 ?_
                    refine go_iincI (a := (kb : Int)) (n := 1) (k0 := 4) (lv' := [(0, .ref mb), (1, rj_i coin), (2, rj_i w), (3, rj_i (ka : Int)), (4, rj_i ((kb : Int) + 1))]) rfl (by decide) rfl dX12_take_88 ?_
                    refine go_goto (tgt := 57) dX12_take_91 (by decide) ?_
                    exact go_eq rfl (lv' := [(0, .ref mb), (1, rj_i coin), (2, rj_i w), (3, rj_i (ka : Int)), (4, rj_i ((kb + 1 : Nat) : Int))]) (rj_lk (rj_lk (rj_lk (rj_lk (rj_lj (by omega) rfl))))) rfl rfl (ihb (kb + 1) (rm_u r61 16 (rj_up (r61 16) (ka : Int) ((sp_sum (fun q => rj_b (sp_so s (s 4) (-11) (ka : Int) 99 q = true)) kb) + 1))) (by omega) ((show (rm_u r61 16 (rj_up (r61 16) (ka : Int) ((sp_sum (fun q => rj_b (sp_so s (s 4) (-11) (ka : Int) 99 q = true)) kb) + 1))) 1 = s from q61_1)) ((show (rm_u r61 16 (rj_up (r61 16) (ka : Int) ((sp_sum (fun q => rj_b (sp_so s (s 4) (-11) (ka : Int) 99 q = true)) kb) + 1))) 2 = (r 2) from q61_2)) ((show (rm_u r61 16 (rj_up (r61 16) (ka : Int) ((sp_sum (fun q => rj_b (sp_so s (s 4) (-11) (ka : Int) 99 q = true)) kb) + 1))) 3 0 = (r 3 0) from q61_3)) ((show (rm_u r61 16 (rj_up (r61 16) (ka : Int) ((sp_sum (fun q => rj_b (sp_so s (s 4) (-11) (ka : Int) 99 q = true)) kb) + 1))) 11 0 = s 4 from q61_11)) ((show (rm_u r61 16 (rj_up (r61 16) (ka : Int) ((sp_sum (fun q => rj_b (sp_so s (s 4) (-11) (ka : Int) 99 q = true)) kb) + 1))) 17 = (r 17) from q61_17)) ((show (rm_u r61 16 (rj_up (r61 16) (ka : Int) ((sp_sum (fun q => rj_b (sp_so s (s 4) (-11) (ka : Int) 99 q = true)) kb) + 1))) 18 0 = (r 18 0) from q61_18)) (((show (rm_u r61 16 (rj_up (r61 16) (ka : Int) ((sp_sum (fun q => rj_b (sp_so s (s 4) (-11) (ka : Int) 99 q = true)) kb) + 1))) 16 = (rj_up (rj_up (sp_cp (sp_lq s) t16 ka) (ka : Int) (sp_sum (fun q => rj_b (sp_so s (s 4) (-11) (ka : Int) 99 q = true)) kb)) (ka : Int) ((sp_sum (fun q => rj_b (sp_so s (s 4) (-11) (ka : Int) 99 q = true)) kb) + 1)) from (congrArg (fun zz => rj_up zz (ka : Int) ((sp_sum (fun q => rj_b (sp_so s (s 4) (-11) (ka : Int) 99 q = true)) kb) + 1)) (show r61 16 = rj_up (sp_cp (sp_lq s) t16 ka) (ka : Int) (sp_sum (fun q => rj_b (sp_so s (s 4) (-11) (ka : Int) 99 q = true)) kb) from q61_16)))).trans (by rw [rj_up_up, sp_sum]; simp [c_78, rj_b])))
            exact go_eq rfl (lv' := [(0, .ref mb), (1, rj_i coin), (2, rj_i w), (3, rj_i (ka : Int)), (4, rj_i ((0 : Nat) : Int))]) (rj_lk (rj_lk (rj_lk (rj_lk (rj_lj (rfl) rfl))))) rfl rfl (loopb (8 : Int).toNat 0 (rm_u rla 16 (rj_up (rla 16) (ka : Int) 0)) (by omega) ((show (rm_u rla 16 (rj_up (rla 16) (ka : Int) 0)) 1 = s from ela1)) ((show (rm_u rla 16 (rj_up (rla 16) (ka : Int) 0)) 2 = (r 2) from ela2)) ((show (rm_u rla 16 (rj_up (rla 16) (ka : Int) 0)) 3 0 = (r 3 0) from ela3)) ((show (rm_u rla 16 (rj_up (rla 16) (ka : Int) 0)) 11 0 = s 4 from ela11)) ((show (rm_u rla 16 (rj_up (rla 16) (ka : Int) 0)) 17 = (r 17) from ela17)) ((show (rm_u rla 16 (rj_up (rla 16) (ka : Int) 0)) 18 0 = (r 18 0) from ela18)) (((show (rm_u rla 16 (rj_up (rla 16) (ka : Int) 0)) 16 = (rj_up (sp_cp (sp_lq s) t16 ka) (ka : Int) 0) from (congrArg (fun zz => rj_up zz (ka : Int) 0) (show rla 16 = sp_cp (sp_lq s) t16 ka from ela16)))).trans (by rw [sp_sum])))
      exact go_eq rfl (lv' := [(0, .ref mb), (1, rj_i coin), (2, rj_i w), (3, rj_i ((0 : Nat) : Int))]) (rj_lk (rj_lk (rj_lk (rj_lj (rfl) rfl)))) rfl rfl (loopa (s 0).toNat 0 r1 (by omega) ((show r1 1 = s from q1_1)) ((show r1 2 = (r 2) from q1_2)) ((show r1 3 0 = (r 3 0) from q1_3)) ((show r1 11 0 = s 4 from q1_11)) ((show r1 17 = (r 17) from q1_17)) ((show r1 18 0 = (r 18 0) from q1_18)) (((show r1 16 = t16 from ht16.symm)).trans (sp_cp_0 _ _).symm))
    · refine go_bipush (v := Int32.ofInt (-2)) dX12_take_22 (by decide) ?_
      refine go_retI rfl rfl ?_ dX12_take_24
      exact ⟨rj_vi (by unfold sp_takeF; rw [if_pos (by omega), if_neg (by omega)]), r, ⟨(show r 1 = s from hs), (show r 2 = (r 2) from rfl), (show r 3 0 = (r 3 0) from rfl), (show r 17 = (r 17) from rfl), (show r 18 0 = (r 18 0) from rfl)⟩, rfl⟩
  · refine go_iconst (v := Int32.ofInt (-1)) dX12_take_9 rfl ?_
    refine go_retI rfl rfl ?_ dX12_take_10
    exact ⟨rj_vi (by unfold sp_takeF; rw [if_neg (by omega)]), r, ⟨(show r 1 = s from hs), (show r 2 = (r 2) from rfl), (show r 3 0 = (r 3 0) from rfl), (show r 17 = (r 17) from rfl), (show r 18 0 = (r 18 0) from rfl)⟩, rfl⟩
