/-! THE REFERENCE, 22: fair -/
/-- the first k quarters of mirror m are planned for p -/
def sp_fl (s : Int → Int) (m p : Int) (k : Nat) : Int → Int := fun j => if 236 + 8 * m ≤ j ∧ j < 236 + 8 * m + (k : Int) then p else s j
theorem sp_fl_0 (s : Int → Int) (m p : Int) : sp_fl s m p 0 = s := by funext j; unfold sp_fl; rw [if_neg (by omega)]
theorem sp_fl_s (s : Int → Int) (m p : Int) (k : Nat) : rj_up (sp_fl s m p k) (236 + 8 * m + (k : Int)) p = sp_fl s m p (k + 1) := by
  funext j
  by_cases h : j = 236 + 8 * m + (k : Int)
  · rw [h, rj_up_eq]; unfold sp_fl; rw [if_pos (by omega)]
  · rw [rj_up_ne _ _ h]; unfold sp_fl
    by_cases h2 : 236 + 8 * m ≤ j ∧ j < 236 + 8 * m + (k : Int)
    · rw [if_pos h2, if_pos (by omega)]
    · rw [if_neg h2, if_neg (by omega)]
/-- U is s but for mirror m's plan -/
def sp_off (s U : Int → Int) (m : Int) : Prop := ∀ j : Int, ¬ (236 + 8 * m ≤ j ∧ j < 236 + 8 * m + 8) → U j = s j
theorem sp_fl_off {s U : Int → Int} {m p : Int} (h : sp_off s U m) : sp_fl U m p 8 = sp_fl s m p 8 := by
  funext j; unfold sp_fl; split; rfl; rename_i q; exact h j q
theorem sp_off_fl (s : Int → Int) (m p : Int) : sp_off s (sp_fl s m p 8) m := fun j h => by unfold sp_fl; exact if_neg h
/-- the first k quarters of mirror m are again as in s -/
def sp_rs (U s : Int → Int) (m : Int) (k : Nat) : Int → Int := fun j => if 236 + 8 * m ≤ j ∧ j < 236 + 8 * m + (k : Int) then s j else U j
theorem sp_rs_0 (U s : Int → Int) (m : Int) : sp_rs U s m 0 = U := by funext j; unfold sp_rs; rw [if_neg (by omega)]
theorem sp_rs_s (U s : Int → Int) (m : Int) (k : Nat) : rj_up (sp_rs U s m k) (236 + 8 * m + (k : Int)) (s (236 + 8 * m + (k : Int))) = sp_rs U s m (k + 1) := by
  funext j
  by_cases h : j = 236 + 8 * m + (k : Int)
  · rw [h, rj_up_eq]; unfold sp_rs; rw [if_pos (by omega)]
  · rw [rj_up_ne _ _ h]; unfold sp_rs
    by_cases h2 : 236 + 8 * m ≤ j ∧ j < 236 + 8 * m + (k : Int)
    · rw [if_pos h2, if_pos (by omega)]
    · rw [if_neg h2, if_neg (by omega)]
theorem sp_rs_all {s U : Int → Int} {m : Int} (h : sp_off s U m) : sp_rs U s m 8 = s := by
  funext j; unfold sp_rs; split; rfl; rename_i q; exact h j q
/-- plans alone differ -/
theorem sp_I_pl {s s' : Int → Int} (ha : ∀ j : Int, (j < 236 ∨ 283 < j) → s' j = s j) (hb : sp_IL s') (h : sp_I s) : sp_I s' := by
  obtain ⟨⟨h0, h1, h2, h3, h4, h5, h6, h7⟩, hM, hP, hW, hL, hV⟩ := h
  refine ⟨?_, fun m a b => ?_, fun p a b => ?_, fun w a b => ?_, hb, ?_⟩
  · unfold sp_IC; rw [ha 0 (by omega), ha 1 (by omega), ha 2 (by omega), ha 3 (by omega), ha 4 (by omega), ha 5 (by omega), ha 6 (by omega), ha 7 (by omega)]; exact ⟨h0, h1, h2, h3, h4, h5, h6, h7⟩
  · rw [ha 0 (by omega)] at b
    rw [ha _ (by omega), ha _ (by omega), ha _ (by omega), ha _ (by omega), ha _ (by omega), ha _ (by omega), ha _ (by omega)]; exact hM m a b
  · rw [ha 1 (by omega)] at b
    rw [ha (172 + p) (by omega), ha (178 + p) (by omega), ha (184 + p) (by omega), ha (190 + p) (by omega)]; exact hP p a b
  · rw [ha 2 (by omega)] at b
    rw [ha _ (by omega), ha _ (by omega), ha _ (by omega), ha _ (by omega), ha _ (by omega)]; exact hW w a b
  · obtain ⟨v1, v2, v3, v4⟩ := hV
    have e7 : s' 7 = s 7 := ha 7 (by omega)
    have e1 : sp_tells s' 294 0 = sp_tells s 294 0 := sp_tells_ag e7 (ha _ (by omega))
    have e2 : sp_tells s' 284 0 = sp_tells s 284 0 := by
      unfold sp_tells; rw [e7]
      by_cases q : s 7 = -1
      · rw [if_pos q, if_pos q]
      · rw [if_neg q, if_neg q, ha _ (by omega)]
    have e3 : sp_tells s' 289 9 = sp_tells s 289 9 := sp_tells_ag e7 (ha _ (by omega))
    refine ⟨by rw [e1]; exact v1, by rw [e2]; exact v2, by rw [e3]; exact v3, fun n hn => ?_⟩
    rw [e1] at hn
    have hz : s 7 = -1 → sp_tells s 294 0 = 0 := fun q => by unfold sp_tells; rw [if_pos q]
    have h3 : 0 ≤ s 7 := by rcases (show 0 ≤ s 7 ∨ s 7 = -1 by omega) with q | q; exact q; have := hz q; omega
    rw [e7, sp_ht_ag n (fun k hk => ha _ (by omega)), ha _ (by omega)]
    exact v4 n hn
theorem sp_I_fl {s : Int → Int} {m p : Int} (h : sp_I s) (hm : 0 ≤ m ∧ m < 6) (hp : -1 ≤ p ∧ p < s 1) : sp_I (sp_fl s m p 8) := by
  refine sp_I_pl (fun j hj => ?_) (fun m2 q a b c d => ?_) h
  · unfold sp_fl; rw [if_neg (by omega)]
  · have e : sp_fl s m p 8 1 = s 1 := by unfold sp_fl; rw [if_neg (by omega)]
    rw [e]; unfold sp_fl
    split
    · exact hp
    · exact h.2.2.2.2.1 m2 q a b c d
/-- the least that a patch has, if mirror m is planned for p alone -/
def sp_fv (s : Int → Int) (m p : Int) : Int := sp_has (sp_fl s m p 8) (s 4) (sp_worst (sp_fl s m p 8) (s 4))
def sp_fB (s : Int → Int) (m : Int) (x : Int × Int) : Nat → Int × Int
  | 0 => x
  | k + 1 => if (sp_fB s m x k).2 < sp_fv s m (k : Int) then (10 * m + (k : Int), sp_fv s m (k : Int)) else sp_fB s m x k
def sp_fA (s : Int → Int) : Nat → Int × Int
  | 0 => (-5, -5)
  | k + 1 => sp_fB s (k : Int) (sp_fA s k) (s 1).toNat
def sp_fairF (s : Int → Int) (w : Int) : Int := if 0 ≤ w ∧ w ≤ 1 then (if w = 0 then (sp_fA s (s 0).toNat).1 else (sp_fA s (s 0).toNat).2) else -1
theorem sp_fv_b {s : Int → Int} {m p : Int} (h : sp_I s) (hm : 0 ≤ m ∧ m < 6) (hp : -1 ≤ p ∧ p < s 1) : 0 ≤ sp_fv s m p ∧ sp_fv s m p ≤ 864 := by
  have hi := sp_I_fl h hm hp
  exact sp_has_b hi.1.1 hi.2.1
theorem sp_fB_b {s : Int → Int} {m : Int} {x : Int × Int} (h : sp_I s) (hm : 0 ≤ m ∧ m < 6) (hx : -5 ≤ x.2 ∧ x.2 ≤ 864) : ∀ k : Nat, (k : Int) ≤ s 1 → -5 ≤ (sp_fB s m x k).2 ∧ (sp_fB s m x k).2 ≤ 864
  | 0, _ => hx
  | k + 1, hk => by
    have ih := sp_fB_b h hm hx k (by omega)
    have hv := sp_fv_b h hm (p := (k : Int)) (by omega)
    rw [sp_fB]
    split
    · show -5 ≤ sp_fv s m (k : Int) ∧ sp_fv s m (k : Int) ≤ 864; omega
    · exact ih
theorem sp_fA_b {s : Int → Int} (h : sp_I s) : ∀ k : Nat, (k : Int) ≤ s 0 → -5 ≤ (sp_fA s k).2 ∧ (sp_fA s k).2 ≤ 864
  | 0, _ => by simp [sp_fA]
  | k + 1, hk => by
    have ih := sp_fA_b h k (by omega)
    have h0 := h.1.1
    have h1 := h.1.2.1
    rw [sp_fA]
    exact sp_fB_b h (by omega) ih _ (by omega)
set_option maxRecDepth 20000 in
/-- m_fair -/
theorem m_fair {X9 : rj_X} {σ : rj_H} {d : Nat} {mb : Nat} {r : rm_R} {w : Int} (hd : 9 ≤ d) (hw : -2147483648 ≤ w ∧ w < 2147483648) {s : Int → Int} (hs : r 1 = s) (hI : sp_I s) : rj_Cl X9 d yX12_fair cX12_fair 7 (some .int) [.ref mb, rj_i w] (rm_p X9 mb r σ) (fun w9 τ => w9 = some (rj_i (sp_fairF s w)) ∧ ∃ r0, rm_V r r0 s ∧ τ = rm_p X9 mb r0 σ) := by
  obtain ⟨⟨h0, h1, h2, h3, h4, h5, h6, h7⟩, hM, hP, hW, hL, hV⟩ := id hI
  obtain ⟨v1, v2, v3, v4⟩ := id hV
  refine go_call (by decide +kernel) (Nat.le_of_ble_eq_true rfl) ?_
  refine go_eq (pc' := 0) (lv' := [(0, .ref mb), (1, rj_i w)]) (st' := []) rfl rfl rfl rfl ?_
  refine go_iload_n dX12_fair_0 rfl 1 rfl ?_
  refine go_iconst (v := Int32.ofInt 0) dX12_fair_1 rfl ?_
  refine go_iconst (v := Int32.ofInt 1) dX12_fair_2 rfl ?_
  refine go_callS (d1 := d - 1) wSX12_47 rfl (by omega) (m_in (v := w) (lo := 0) (hi := 1) (by omega) (by omega) (by omega)) rfl (Nat.le_of_ble_eq_true rfl) dX12_fair_3 (fun w σ1 hP => ?_)
  obtain ⟨rfl, rfl⟩ := hP
  refine go_if_neB (tgt := 11) dX12_fair_6 (by decide) (fun c_6 => ?_) (fun c_6 => ?_)
  · refine go_aload_n dX12_fair_11 rfl 0 rfl ?_
    refine go_aload_n dX12_fair_12 rfl 0 rfl ?_
    refine grm_g1 rfl dX12_fair_13 ?_
    refine go_iconst (v := Int32.ofInt 4) dX12_fair_16 rfl ?_
    refine grm_l1 (by omega) (by omega) dX12_fair_17 ?_
    rw [show r 1 = s from hs]
    refine grm_w11 rfl dX12_fair_18 ?_
    obtain ⟨r1, e1⟩ : ∃ x_, x_ = (rm_u r 11 (fun _ => s 4)) := ⟨_, rfl⟩
    rw [← e1]
    have q1_1 : r1 1 = s := by rw [e1]; exact (show (rm_u r 11 (fun _ => s 4)) 1 = s from hs)
    have q1_2 : r1 2 = (r 2) := by rw [e1]; exact (show (rm_u r 11 (fun _ => s 4)) 2 = (r 2) from rfl)
    have q1_3 : r1 3 0 = (r 3 0) := by rw [e1]; exact (show (rm_u r 11 (fun _ => s 4)) 3 0 = (r 3 0) from rfl)
    have q1_17 : r1 17 = (r 17) := by rw [e1]; exact (show (rm_u r 11 (fun _ => s 4)) 17 = (r 17) from rfl)
    have q1_18 : r1 18 0 = (r 18 0) := by rw [e1]; exact (show (rm_u r 11 (fun _ => s 4)) 18 0 = (r 18 0) from rfl)
    have q1_11 : r1 11 0 = s 4 := by rw [e1]; exact (show (rm_u r 11 (fun _ => s 4)) 11 0 = s 4 from rfl)
    refine go_bipush (v := Int32.ofInt (-5)) dX12_fair_21 (by decide) ?_
    refine go_istore_nS (lv' := [(0, .ref mb), (1, rj_i w), (2, rj_i (-5))]) rfl (by decide) rfl dX12_fair_23 ?_
    refine go_bipush (v := Int32.ofInt (-5)) dX12_fair_24 (by decide) ?_
    refine go_istore_nS (lv' := [(0, .ref mb), (1, rj_i w), (2, rj_i (-5)), (3, rj_i (-5))]) rfl (by decide) rfl dX12_fair_26 ?_
    refine go_iconst (v := Int32.ofInt 0) dX12_fair_27 rfl ?_
    refine go_istoreS (lv' := [(0, .ref mb), (1, rj_i w), (2, rj_i (-5)), (3, rj_i (-5)), (4, rj_i 0)]) (by decide) rfl dX12_fair_28 ?_
    have loopa : ∀ (na ka : Nat) (rla : rm_R), ka + na = (s 0).toNat → rla 1 = s → rla 2 = (r 2) → rla 3 0 = (r 3 0) → rla 11 0 = s 4 → rla 17 = (r 17) → rla 18 0 = (r 18 0) → rj_Go X9 yX12_fair cX12_fair 7 (some .int) d (fun w9 τ => w9 = some (rj_i (sp_fairF s w)) ∧ ∃ r0, rm_V r r0 s ∧ τ = rm_p X9 mb r0 σ) 30 [(0, .ref mb), (1, rj_i w), (2, rj_i ((sp_fA s ka).1)), (3, rj_i ((sp_fA s ka).2)), (4, rj_i (ka : Int))] [] (rm_p X9 mb rla σ) := by
      intro na
      induction na with
      | zero =>
        intro ka rla hka ela1 ela2 ela3 ela11 ela17 ela18
        refine go_iload dX12_fair_30 4 rfl ?_
        refine go_aload_n dX12_fair_32 rfl 0 rfl ?_
        refine grm_g1 rfl dX12_fair_33 ?_
        refine go_iconst (v := Int32.ofInt 0) dX12_fair_36 rfl ?_
        refine grm_l1 (by omega) (by omega) dX12_fair_37 ?_
        rw [show rla 1 = s from ela1]
        refine go_icmp_geI (tgt := 224) (by omega) (by omega) dX12_fair_38 (by decide) (fun c_38 => ?_) (fun c_38 => ?_)
        · refine go_iload_n dX12_fair_224 rfl 1 rfl ?_
          refine go_if_neI (tgt := 232) (by omega) dX12_fair_225 (by decide) (fun c_225 => ?_) (fun c_225 => ?_)
          · refine go_iload_n dX12_fair_232 rfl 3 rfl ?_
            refine go_retI rfl rfl ?_ dX12_fair_233
            exact ⟨rj_vi (by unfold sp_fairF; rw [if_pos (by omega), if_neg (by omega), show (s 0).toNat = ka by omega]), rla, ⟨(show rla 1 = s from ela1), (show rla 2 = (r 2) from ela2), (show rla 3 0 = (r 3 0) from ela3), (show rla 17 = (r 17) from ela17), (show rla 18 0 = (r 18 0) from ela18)⟩, rfl⟩
          · refine go_iload_n dX12_fair_228 rfl 2 rfl ?_
            refine go_goto (tgt := 233) dX12_fair_229 (by decide) ?_
            refine go_retI rfl rfl ?_ dX12_fair_233
            exact ⟨rj_vi (by unfold sp_fairF; rw [if_pos (by omega), if_pos (by omega), show (s 0).toNat = ka by omega]), rla, ⟨(show rla 1 = s from ela1), (show rla 2 = (r 2) from ela2), (show rla 3 0 = (r 3 0) from ela3), (show rla 17 = (r 17) from ela17), (show rla 18 0 = (r 18 0) from ela18)⟩, rfl⟩
        · exact absurd c_38 (by omega)
      | succ na iha =>
        intro ka rla hka ela1 ela2 ela3 ela11 ela17 ela18
        refine go_iload dX12_fair_30 4 rfl ?_
        refine go_aload_n dX12_fair_32 rfl 0 rfl ?_
        refine grm_g1 rfl dX12_fair_33 ?_
        refine go_iconst (v := Int32.ofInt 0) dX12_fair_36 rfl ?_
        refine grm_l1 (by omega) (by omega) dX12_fair_37 ?_
        rw [show rla 1 = s from ela1]
        refine go_icmp_geI (tgt := 224) (by omega) (by omega) dX12_fair_38 (by decide) (fun c_38 => ?_) (fun c_38 => ?_)
        · exact absurd c_38 (by omega)
        · refine go_iconst (v := Int32.ofInt 0) dX12_fair_41 rfl ?_
          refine go_istoreS (lv' := [(0, .ref mb), (1, rj_i w), (2, rj_i ((sp_fA s ka).1)), (3, rj_i ((sp_fA s ka).2)), (4, rj_i (ka : Int)), (5, rj_i 0)]) (by decide) rfl dX12_fair_42 ?_
          obtain ⟨K0, hK0⟩ : ∃ t, t = rla 15 := ⟨_, rfl⟩
          have fab := sp_fA_b hI ka (by omega)
          have loopb : ∀ (nb kb : Nat) (rlb : rm_R), kb + nb = (8 : Int).toNat → rlb 1 = s → rlb 2 = (r 2) → rlb 3 0 = (r 3 0) → rlb 11 0 = s 4 → rlb 17 = (r 17) → rlb 18 0 = (r 18 0) → rlb 15 = sp_cp (fun q => s (236 + 8 * (ka : Int) + q)) K0 kb → rj_Go X9 yX12_fair cX12_fair 7 (some .int) d (fun w9 τ => w9 = some (rj_i (sp_fairF s w)) ∧ ∃ r0, rm_V r r0 s ∧ τ = rm_p X9 mb r0 σ) 44 [(0, .ref mb), (1, rj_i w), (2, rj_i ((sp_fA s ka).1)), (3, rj_i ((sp_fA s ka).2)), (4, rj_i (ka : Int)), (5, rj_i (kb : Int))] [] (rm_p X9 mb rlb σ) := by
            intro nb
            induction nb with
            | zero =>
              intro kb rlb hkb elb1 elb2 elb3 elb11 elb17 elb18 elb15
              refine go_iload dX12_fair_44 5 rfl ?_
              refine go_bipush (v := Int32.ofInt 8) dX12_fair_46 (by decide) ?_
              refine go_icmp_geI (tgt := 81) (by omega) (by omega) dX12_fair_48 (by decide) (fun c_48 => ?_) (fun c_48 => ?_)
              · refine go_iconst (v := Int32.ofInt 0) dX12_fair_81 rfl ?_
                refine go_istoreS (lv' := [(0, .ref mb), (1, rj_i w), (2, rj_i ((sp_fA s ka).1)), (3, rj_i ((sp_fA s ka).2)), (4, rj_i (ka : Int)), (5, rj_i 0)]) (by decide) rfl dX12_fair_82 ?_
                have hK8 : ∀ q : Int, 0 ≤ q → q < 8 → sp_cp (fun q => s (236 + 8 * (ka : Int) + q)) K0 kb q = s (236 + 8 * (ka : Int) + q) := fun q a b => by unfold sp_cp; rw [if_pos (by omega)]
                obtain ⟨K, hK⟩ : ∃ K, K = sp_cp (fun q => s (236 + 8 * (ka : Int) + q)) K0 kb := ⟨_, rfl⟩
                rw [← hK] at hK8
                have loopc : ∀ (nc kc : Nat) (rlc : rm_R) (U : Int → Int), kc + nc = (s 1).toNat → rlc 1 = U → rlc 2 = (r 2) → rlc 3 0 = (r 3 0) → rlc 11 0 = s 4 → rlc 17 = (r 17) → rlc 18 0 = (r 18 0) → rlc 15 = K → sp_off s U (ka : Int) → rj_Go X9 yX12_fair cX12_fair 7 (some .int) d (fun w9 τ => w9 = some (rj_i (sp_fairF s w)) ∧ ∃ r0, rm_V r r0 s ∧ τ = rm_p X9 mb r0 σ) 84 [(0, .ref mb), (1, rj_i w), (2, rj_i ((sp_fB s (ka : Int) (sp_fA s ka) kc).1)), (3, rj_i ((sp_fB s (ka : Int) (sp_fA s ka) kc).2)), (4, rj_i (ka : Int)), (5, rj_i (kc : Int))] [] (rm_p X9 mb rlc σ) := by
                  intro nc
                  induction nc with
                  | zero =>
                    intro kc rlc U hkc elc1 elc2 elc3 elc11 elc17 elc18 elc15 hU
                    refine go_iload dX12_fair_84 5 rfl ?_
                    refine go_aload_n dX12_fair_86 rfl 0 rfl ?_
                    refine grm_g1 rfl dX12_fair_87 ?_
                    refine go_iconst (v := Int32.ofInt 1) dX12_fair_90 rfl ?_
                    refine grm_l1 (by omega) (by omega) dX12_fair_91 ?_
                    rw [show rlc 1 = U from elc1]
                    rw [show U 1 = s 1 from hU 1 (by omega)]
                    refine go_icmp_geI (tgt := 178) (by omega) (by omega) dX12_fair_92 (by decide) (fun c_92 => ?_) (fun c_92 => ?_)
                    · refine go_iconst (v := Int32.ofInt 0) dX12_fair_178 rfl ?_
                      refine go_istoreS (lv' := [(0, .ref mb), (1, rj_i w), (2, rj_i ((sp_fB s (ka : Int) (sp_fA s ka) kc).1)), (3, rj_i ((sp_fB s (ka : Int) (sp_fA s ka) kc).2)), (4, rj_i (ka : Int)), (5, rj_i 0)]) (by decide) rfl dX12_fair_179 ?_
                      have hkc : kc = (s 1).toNat := by omega
                      have loope : ∀ (ne ke : Nat) (rle : rm_R), ke + ne = (8 : Int).toNat → rle 1 = sp_rs U s (ka : Int) ke → rle 2 = (r 2) → rle 3 0 = (r 3 0) → rle 11 0 = s 4 → rle 17 = (r 17) → rle 18 0 = (r 18 0) → rle 15 = K → rj_Go X9 yX12_fair cX12_fair 7 (some .int) d (fun w9 τ => w9 = some (rj_i (sp_fairF s w)) ∧ ∃ r0, rm_V r r0 s ∧ τ = rm_p X9 mb r0 σ) 181 [(0, .ref mb), (1, rj_i w), (2, rj_i ((sp_fB s (ka : Int) (sp_fA s ka) kc).1)), (3, rj_i ((sp_fB s (ka : Int) (sp_fA s ka) kc).2)), (4, rj_i (ka : Int)), (5, rj_i (ke : Int))] [] (rm_p X9 mb rle σ) := by
                        intro ne
                        induction ne with
                        | zero =>
                          intro ke rle hke ele1 ele2 ele3 ele11 ele17 ele18 ele15
                          refine go_iload dX12_fair_181 5 rfl ?_
                          refine go_bipush (v := Int32.ofInt 8) dX12_fair_183 (by decide) ?_
                          refine go_icmp_geI (tgt := 218) (by omega) (by omega) dX12_fair_185 (by decide) (fun c_185 => ?_) (fun c_185 => ?_)
                          · refine go_iincI (a := (ka : Int)) (n := 1) (k0 := 4) (lv' := [(0, .ref mb), (1, rj_i w), (2, rj_i ((sp_fB s (ka : Int) (sp_fA s ka) kc).1)), (3, rj_i ((sp_fB s (ka : Int) (sp_fA s ka) kc).2)), (4, rj_i ((ka : Int) + 1)), (5, rj_i (ke : Int))]) rfl (by decide) rfl dX12_fair_218 ?_
                            refine go_goto (tgt := 30) dX12_fair_221 (by decide) ?_
                            refine go_sub (lv' := [(0, .ref mb), (1, rj_i w), (2, rj_i ((sp_fB s (ka : Int) (sp_fA s ka) kc).1)), (3, rj_i ((sp_fB s (ka : Int) (sp_fA s ka) kc).2)), (4, rj_i ((ka : Int) + 1))]) (by intro q hq; simp only [List.mem_cons, List.not_mem_nil, or_false] at hq ⊢; rcases hq with rfl | rfl | rfl | rfl | rfl <;> simp) ?_
                            exact go_eq rfl (lv' := [(0, .ref mb), (1, rj_i w), (2, rj_i ((sp_fA s (ka + 1)).1)), (3, rj_i ((sp_fA s (ka + 1)).2)), (4, rj_i ((ka + 1 : Nat) : Int))]) (rj_lk (rj_lk (rj_lj (by rw [sp_fA, hkc]) (rj_lj (by rw [sp_fA, hkc]) (rj_lj (by omega) rfl))))) rfl rfl (iha (ka + 1) rle (by omega) (((show rle 1 = sp_rs U s (ka : Int) ke from ele1)).trans (by rw [show ke = 8 by omega]; exact sp_rs_all hU)) ((show rle 2 = (r 2) from ele2)) ((show rle 3 0 = (r 3 0) from ele3)) ((show rle 11 0 = s 4 from ele11)) ((show rle 17 = (r 17) from ele17)) ((show rle 18 0 = (r 18 0) from ele18)))
                          · exact absurd c_185 (by omega)
                        | succ ne ihe =>
                          intro ke rle hke ele1 ele2 ele3 ele11 ele17 ele18 ele15
                          refine go_iload dX12_fair_181 5 rfl ?_
                          refine go_bipush (v := Int32.ofInt 8) dX12_fair_183 (by decide) ?_
                          refine go_icmp_geI (tgt := 218) (by omega) (by omega) dX12_fair_185 (by decide) (fun c_185 => ?_) (fun c_185 => ?_)
                          · exact absurd c_185 (by omega)
                          · refine go_aload_n dX12_fair_188 rfl 0 rfl ?_
                            refine grm_g1 rfl dX12_fair_189 ?_
                            refine go_sipush (v := Int32.ofInt 236) dX12_fair_192 (by decide) ?_
                            refine go_bipush (v := Int32.ofInt 8) dX12_fair_195 (by decide) ?_
                            refine go_iload dX12_fair_197 4 rfl ?_
                            refine go_mulI dX12_fair_199 ?_
                            refine go_addI dX12_fair_200 ?_
                            refine go_iload dX12_fair_201 5 rfl ?_
                            refine go_addI dX12_fair_203 ?_
                            refine go_aload_n dX12_fair_204 rfl 0 rfl ?_
                            refine grm_g15 rfl dX12_fair_205 ?_
                            refine go_iload dX12_fair_208 5 rfl ?_
                            refine grm_l15 (by omega) (by omega) dX12_fair_210 ?_
                            rw [show rle 15 = K from ele15]
                            rw [show K (ke : Int) = s (236 + 8 * (ka : Int) + (ke : Int)) from hK8 _ (by omega) (by omega)]
                            refine grm_s1 (by omega) (by omega) dX12_fair_211 ?_
                            refine go_iincI (a := (ke : Int)) (n := 1) (k0 := 5) (lv' := [(0, .ref mb), (1, rj_i w), (2, rj_i ((sp_fB s (ka : Int) (sp_fA s ka) kc).1)), (3, rj_i ((sp_fB s (ka : Int) (sp_fA s ka) kc).2)), (4, rj_i (ka : Int)), (5, rj_i ((ke : Int) + 1))]) rfl (by decide) rfl dX12_fair_212 ?_
                            refine go_goto (tgt := 181) dX12_fair_215 (by decide) ?_
                            exact go_eq rfl (lv' := [(0, .ref mb), (1, rj_i w), (2, rj_i ((sp_fB s (ka : Int) (sp_fA s ka) kc).1)), (3, rj_i ((sp_fB s (ka : Int) (sp_fA s ka) kc).2)), (4, rj_i (ka : Int)), (5, rj_i ((ke + 1 : Nat) : Int))]) (rj_lk (rj_lk (rj_lk (rj_lk (rj_lk (rj_lj (by omega) rfl)))))) rfl rfl (ihe (ke + 1) (rm_u rle 1 (rj_up (rle 1) ((236 + (8 * (ka : Int))) + (ke : Int)) (s (236 + 8 * (ka : Int) + (ke : Int))))) (by omega) (((show (rm_u rle 1 (rj_up (rle 1) ((236 + (8 * (ka : Int))) + (ke : Int)) (s (236 + 8 * (ka : Int) + (ke : Int))))) 1 = (rj_up (sp_rs U s (ka : Int) ke) ((236 + (8 * (ka : Int))) + (ke : Int)) (s (236 + 8 * (ka : Int) + (ke : Int)))) from (congrArg (fun zz => rj_up zz ((236 + (8 * (ka : Int))) + (ke : Int)) (s (236 + 8 * (ka : Int) + (ke : Int)))) (show rle 1 = sp_rs U s (ka : Int) ke from ele1)))).trans (sp_rs_s _ _ _ _)) ((show (rm_u rle 1 (rj_up (rle 1) ((236 + (8 * (ka : Int))) + (ke : Int)) (s (236 + 8 * (ka : Int) + (ke : Int))))) 2 = (r 2) from ele2)) ((show (rm_u rle 1 (rj_up (rle 1) ((236 + (8 * (ka : Int))) + (ke : Int)) (s (236 + 8 * (ka : Int) + (ke : Int))))) 3 0 = (r 3 0) from ele3)) ((show (rm_u rle 1 (rj_up (rle 1) ((236 + (8 * (ka : Int))) + (ke : Int)) (s (236 + 8 * (ka : Int) + (ke : Int))))) 11 0 = s 4 from ele11)) ((show (rm_u rle 1 (rj_up (rle 1) ((236 + (8 * (ka : Int))) + (ke : Int)) (s (236 + 8 * (ka : Int) + (ke : Int))))) 17 = (r 17) from ele17)) ((show (rm_u rle 1 (rj_up (rle 1) ((236 + (8 * (ka : Int))) + (ke : Int)) (s (236 + 8 * (ka : Int) + (ke : Int))))) 18 0 = (r 18 0) from ele18)) ((show (rm_u rle 1 (rj_up (rle 1) ((236 + (8 * (ka : Int))) + (ke : Int)) (s (236 + 8 * (ka : Int) + (ke : Int))))) 15 = K from ele15)))
                      exact go_eq rfl (lv' := [(0, .ref mb), (1, rj_i w), (2, rj_i ((sp_fB s (ka : Int) (sp_fA s ka) kc).1)), (3, rj_i ((sp_fB s (ka : Int) (sp_fA s ka) kc).2)), (4, rj_i (ka : Int)), (5, rj_i ((0 : Nat) : Int))]) (rj_lk (rj_lk (rj_lk (rj_lk (rj_lk (rj_lj (rfl) rfl)))))) rfl rfl (loope (8 : Int).toNat 0 rlc (by omega) (((show rlc 1 = U from elc1)).trans (sp_rs_0 _ _ _).symm) ((show rlc 2 = (r 2) from elc2)) ((show rlc 3 0 = (r 3 0) from elc3)) ((show rlc 11 0 = s 4 from elc11)) ((show rlc 17 = (r 17) from elc17)) ((show rlc 18 0 = (r 18 0) from elc18)) ((show rlc 15 = K from elc15)))
                    · exact absurd c_92 (by omega)
                  | succ nc ihc =>
                    intro kc rlc U hkc elc1 elc2 elc3 elc11 elc17 elc18 elc15 hU
                    have fbb := sp_fB_b (x := sp_fA s ka) (m := (ka : Int)) hI (by omega) fab kc (by omega)
                    refine go_iload dX12_fair_84 5 rfl ?_
                    refine go_aload_n dX12_fair_86 rfl 0 rfl ?_
                    refine grm_g1 rfl dX12_fair_87 ?_
                    refine go_iconst (v := Int32.ofInt 1) dX12_fair_90 rfl ?_
                    refine grm_l1 (by omega) (by omega) dX12_fair_91 ?_
                    rw [show rlc 1 = U from elc1]
                    rw [show U 1 = s 1 from hU 1 (by omega)]
                    refine go_icmp_geI (tgt := 178) (by omega) (by omega) dX12_fair_92 (by decide) (fun c_92 => ?_) (fun c_92 => ?_)
                    · exact absurd c_92 (by omega)
                    · refine go_iconst (v := Int32.ofInt 0) dX12_fair_95 rfl ?_
                      refine go_istoreS (lv' := [(0, .ref mb), (1, rj_i w), (2, rj_i ((sp_fB s (ka : Int) (sp_fA s ka) kc).1)), (3, rj_i ((sp_fB s (ka : Int) (sp_fA s ka) kc).2)), (4, rj_i (ka : Int)), (5, rj_i (kc : Int)), (6, rj_i 0)]) (by decide) rfl dX12_fair_96 ?_
                      have loopd : ∀ (nd kd : Nat) (rld : rm_R), kd + nd = (8 : Int).toNat → rld 1 = sp_fl U (ka : Int) (kc : Int) kd → rld 2 = (r 2) → rld 3 0 = (r 3 0) → rld 11 0 = s 4 → rld 17 = (r 17) → rld 18 0 = (r 18 0) → rld 15 = K → rj_Go X9 yX12_fair cX12_fair 7 (some .int) d (fun w9 τ => w9 = some (rj_i (sp_fairF s w)) ∧ ∃ r0, rm_V r r0 s ∧ τ = rm_p X9 mb r0 σ) 98 [(0, .ref mb), (1, rj_i w), (2, rj_i ((sp_fB s (ka : Int) (sp_fA s ka) kc).1)), (3, rj_i ((sp_fB s (ka : Int) (sp_fA s ka) kc).2)), (4, rj_i (ka : Int)), (5, rj_i (kc : Int)), (6, rj_i (kd : Int))] [] (rm_p X9 mb rld σ) := by
                        intro nd
                        induction nd with
                        | zero =>
                          intro kd rld hkd eld1 eld2 eld3 eld11 eld17 eld18 eld15
                          refine go_iload dX12_fair_98 6 rfl ?_
                          refine go_bipush (v := Int32.ofInt 8) dX12_fair_100 (by decide) ?_
                          refine go_icmp_geI (tgt := 130) (by omega) (by omega) dX12_fair_102 (by decide) (fun c_102 => ?_) (fun c_102 => ?_)
                          · obtain ⟨S9, eS9⟩ : ∃ S9, S9 = sp_fl s (ka : Int) (kc : Int) 8 := ⟨_, rfl⟩
                            have f130 : rld 1 = S9 := ((show rld 1 = sp_fl U (ka : Int) (kc : Int) kd from eld1)).trans (by rw [eS9, show kd = 8 by omega]; exact sp_fl_off hU)
                            have hS9 : sp_I S9 := by rw [eS9]; exact sp_I_fl hI (by omega) (by omega)
                            have e91 : S9 1 = s 1 := by rw [eS9]; exact sp_off_fl s (ka : Int) (kc : Int) 1 (by omega)
                            have hwr : 0 ≤ sp_worst S9 (s 4) ∧ sp_worst S9 (s 4) < S9 1 := by
                              have h9 := (sp_wz_b (D := s 4) hS9.1.1 hS9.2.1 (S9 1).toNat).1
                              unfold sp_worst
                              omega
                            have hfb9 := sp_fv_b (m := (ka : Int)) (p := (kc : Int)) hI (by omega) (by omega)
                            refine go_aload_n dX12_fair_130 rfl 0 rfl ?_
                            refine go_aload_n dX12_fair_131 rfl 0 rfl ?_
                            refine go_callV (d1 := d - 1) wVX12_199 kX12 rm_ob rfl (by omega) (m_worstOff (by omega) (hs := (show rld 1 = S9 from f130)) (hD := (show rld 11 0 = s 4 from eld11)) (by omega) hS9) rfl (Nat.le_of_ble_eq_true rfl) dX12_fair_132 (fun w σ1 hP => ?_)
                            obtain ⟨rfl, r61, hr61, rfl⟩ := hP
                            have q61_1 : r61 1 = S9 := (hr61 1 (by decide) (by decide)).trans (show rld 1 = S9 from f130)
                            have q61_2 : r61 2 = (r 2) := (hr61 2 (by decide) (by decide)).trans (show rld 2 = (r 2) from eld2)
                            have q61_3 : r61 3 0 = (r 3 0) := (congrFun (hr61 3 (by decide) (by decide)) 0).trans (show rld 3 0 = (r 3 0) from eld3)
                            have q61_11 : r61 11 0 = s 4 := (congrFun (hr61 11 (by decide) (by decide)) 0).trans (show rld 11 0 = s 4 from eld11)
                            have q61_17 : r61 17 = (r 17) := (hr61 17 (by decide) (by decide)).trans (show rld 17 = (r 17) from eld17)
                            have q61_18 : r61 18 0 = (r 18 0) := (congrFun (hr61 18 (by decide) (by decide)) 0).trans (show rld 18 0 = (r 18 0) from eld18)
                            have q61_15 : r61 15 = K := (hr61 15 (by decide) (by decide)).trans (show rld 15 = K from eld15)
                            refine go_callV (d1 := d - 1) wVX12_193 kX12 rm_ob rfl (by omega) (m_hasOf (by omega) (p := sp_worst S9 (s 4)) (hs := (show r61 1 = S9 from q61_1)) (hD := (show r61 11 0 = s 4 from q61_11)) (by omega) hS9 hwr) rfl (Nat.le_of_ble_eq_true rfl) dX12_fair_135 (fun w σ1 hP => ?_)
                            obtain ⟨rfl, r62, hr62, rfl⟩ := hP
                            have q62_1 : r62 1 = S9 := (hr62 1 (by decide) (by decide)).trans (show r61 1 = S9 from q61_1)
                            have q62_2 : r62 2 = (r 2) := (hr62 2 (by decide) (by decide)).trans (show r61 2 = (r 2) from q61_2)
                            have q62_3 : r62 3 0 = (r 3 0) := (congrFun (hr62 3 (by decide) (by decide)) 0).trans (show r61 3 0 = (r 3 0) from q61_3)
                            have q62_11 : r62 11 0 = s 4 := (congrFun (hr62 11 (by decide) (by decide)) 0).trans (show r61 11 0 = s 4 from q61_11)
                            have q62_17 : r62 17 = (r 17) := (hr62 17 (by decide) (by decide)).trans (show r61 17 = (r 17) from q61_17)
                            have q62_18 : r62 18 0 = (r 18 0) := (congrFun (hr62 18 (by decide) (by decide)) 0).trans (show r61 18 0 = (r 18 0) from q61_18)
                            have q62_15 : r62 15 = K := (hr62 15 (by decide) (by decide)).trans (show r61 15 = K from q61_15)
                            rw [show sp_has S9 (s 4) (sp_worst S9 (s 4)) = sp_fv s (ka : Int) (kc : Int) from by rw [eS9]; rfl]
                            refine go_istoreS (lv' := [(0, .ref mb), (1, rj_i w), (2, rj_i ((sp_fB s (ka : Int) (sp_fA s ka) kc).1)), (3, rj_i ((sp_fB s (ka : Int) (sp_fA s ka) kc).2)), (4, rj_i (ka : Int)), (5, rj_i (kc : Int)), (6, rj_i (sp_fv s (ka : Int) (kc : Int)))]) (by decide) rfl dX12_fair_138 ?_
                            refine go_iload dX12_fair_140 6 rfl ?_
                            refine go_iload_n dX12_fair_142 rfl 3 rfl ?_
                            refine go_icmp_leI (tgt := 157) (by omega) (by omega) dX12_fair_143 (by decide) (fun c_143 => ?_) (fun c_143 => ?_)
                            · refine go_iload_n dX12_fair_157 rfl 2 rfl ?_
                              refine go_istore_nS (lv' := [(0, .ref mb), (1, rj_i w), (2, rj_i ((sp_fB s (ka : Int) (sp_fA s ka) kc).1)), (3, rj_i ((sp_fB s (ka : Int) (sp_fA s ka) kc).2)), (4, rj_i (ka : Int)), (5, rj_i (kc : Int)), (6, rj_i (sp_fv s (ka : Int) (kc : Int)))]) rfl (by decide) rfl dX12_fair_158 ?_
                              refine go_iload dX12_fair_159 6 rfl ?_
                              refine go_iload_n dX12_fair_161 rfl 3 rfl ?_
                              refine go_icmp_leI (tgt := 170) (by omega) (by omega) dX12_fair_162 (by decide) (fun c_162 => ?_) (fun c_162 => ?_)
                              · refine go_iload_n dX12_fair_170 rfl 3 rfl ?_
                                refine go_istore_nS (lv' := [(0, .ref mb), (1, rj_i w), (2, rj_i ((sp_fB s (ka : Int) (sp_fA s ka) kc).1)), (3, rj_i ((sp_fB s (ka : Int) (sp_fA s ka) kc).2)), (4, rj_i (ka : Int)), (5, rj_i (kc : Int)), (6, rj_i (sp_fv s (ka : Int) (kc : Int)))]) rfl (by decide) rfl dX12_fair_171 ?_
                                refine go_iincI (a := (kc : Int)) (n := 1) (k0 := 5) (lv' := [(0, .ref mb), (1, rj_i w), (2, rj_i ((sp_fB s (ka : Int) (sp_fA s ka) kc).1)), (3, rj_i ((sp_fB s (ka : Int) (sp_fA s ka) kc).2)), (4, rj_i (ka : Int)), (5, rj_i ((kc : Int) + 1)), (6, rj_i (sp_fv s (ka : Int) (kc : Int)))]) rfl (by decide) rfl dX12_fair_172 ?_
                                refine go_goto (tgt := 84) dX12_fair_175 (by decide) ?_
                                refine go_sub (lv' := [(0, .ref mb), (1, rj_i w), (2, rj_i ((sp_fB s (ka : Int) (sp_fA s ka) kc).1)), (3, rj_i ((sp_fB s (ka : Int) (sp_fA s ka) kc).2)), (4, rj_i (ka : Int)), (5, rj_i ((kc : Int) + 1))]) (by intro q hq; simp only [List.mem_cons, List.not_mem_nil, or_false] at hq ⊢; rcases hq with rfl | rfl | rfl | rfl | rfl | rfl <;> simp) ?_
                                exact go_eq rfl (lv' := [(0, .ref mb), (1, rj_i w), (2, rj_i ((sp_fB s (ka : Int) (sp_fA s ka) (kc + 1)).1)), (3, rj_i ((sp_fB s (ka : Int) (sp_fA s ka) (kc + 1)).2)), (4, rj_i (ka : Int)), (5, rj_i ((kc + 1 : Nat) : Int))]) (rj_lk (rj_lk (rj_lj (by rw [sp_fB, if_neg (by omega)]) (rj_lj (by rw [sp_fB, if_neg (by omega)]) (rj_lk (rj_lj (by omega) rfl)))))) rfl rfl (ihc (kc + 1) r62 S9 (by omega) ((show r62 1 = S9 from q62_1)) ((show r62 2 = (r 2) from q62_2)) ((show r62 3 0 = (r 3 0) from q62_3)) ((show r62 11 0 = s 4 from q62_11)) ((show r62 17 = (r 17) from q62_17)) ((show r62 18 0 = (r 18 0) from q62_18)) ((show r62 15 = K from q62_15)) (by rw [eS9]; exact sp_off_fl _ _ _))
                              · refine go_iload dX12_fair_165 6 rfl ?_
                                refine go_goto (tgt := 171) dX12_fair_167 (by decide) ?_
                                refine go_istore_nS (lv' := [(0, .ref mb), (1, rj_i w), (2, rj_i ((sp_fB s (ka : Int) (sp_fA s ka) kc).1)), (3, rj_i (sp_fv s (ka : Int) (kc : Int))), (4, rj_i (ka : Int)), (5, rj_i (kc : Int)), (6, rj_i (sp_fv s (ka : Int) (kc : Int)))]) rfl (by decide) rfl dX12_fair_171 ?_
                                refine go_iincI (a := (kc : Int)) (n := 1) (k0 := 5) (lv' := [(0, .ref mb), (1, rj_i w), (2, rj_i ((sp_fB s (ka : Int) (sp_fA s ka) kc).1)), (3, rj_i (sp_fv s (ka : Int) (kc : Int))), (4, rj_i (ka : Int)), (5, rj_i ((kc : Int) + 1)), (6, rj_i (sp_fv s (ka : Int) (kc : Int)))]) rfl (by decide) rfl dX12_fair_172 ?_
                                refine go_goto (tgt := 84) dX12_fair_175 (by decide) ?_
                                refine go_sub (lv' := [(0, .ref mb), (1, rj_i w), (2, rj_i ((sp_fB s (ka : Int) (sp_fA s ka) kc).1)), (3, rj_i (sp_fv s (ka : Int) (kc : Int))), (4, rj_i (ka : Int)), (5, rj_i ((kc : Int) + 1))]) (by intro q hq; simp only [List.mem_cons, List.not_mem_nil, or_false] at hq ⊢; rcases hq with rfl | rfl | rfl | rfl | rfl | rfl <;> simp) ?_
                                exact go_eq rfl (lv' := [(0, .ref mb), (1, rj_i w), (2, rj_i ((sp_fB s (ka : Int) (sp_fA s ka) (kc + 1)).1)), (3, rj_i ((sp_fB s (ka : Int) (sp_fA s ka) (kc + 1)).2)), (4, rj_i (ka : Int)), (5, rj_i ((kc + 1 : Nat) : Int))]) (rj_lk (rj_lk (rj_lj (by rw [sp_fB, if_neg (by omega)]) (rj_lj (by rw [sp_fB, if_pos (by omega)]) (rj_lk (rj_lj (by omega) rfl)))))) rfl rfl (ihc (kc + 1) r62 S9 (by omega) ((show r62 1 = S9 from q62_1)) ((show r62 2 = (r 2) from q62_2)) ((show r62 3 0 = (r 3 0) from q62_3)) ((show r62 11 0 = s 4 from q62_11)) ((show r62 17 = (r 17) from q62_17)) ((show r62 18 0 = (r 18 0) from q62_18)) ((show r62 15 = K from q62_15)) (by rw [eS9]; exact sp_off_fl _ _ _))
                            · refine go_bipush (v := Int32.ofInt 10) dX12_fair_146 (by decide) ?_
                              refine go_iload dX12_fair_148 4 rfl ?_
                              refine go_mulI dX12_fair_150 ?_
                              refine go_iload dX12_fair_151 5 rfl ?_
                              refine go_addI dX12_fair_153 ?_
                              refine go_goto (tgt := 158) dX12_fair_154 (by decide) ?_
                              refine go_istore_nS (lv' := [(0, .ref mb), (1, rj_i w), (2, rj_i ((10 * (ka : Int)) + (kc : Int))), (3, rj_i ((sp_fB s (ka : Int) (sp_fA s ka) kc).2)), (4, rj_i (ka : Int)), (5, rj_i (kc : Int)), (6, rj_i (sp_fv s (ka : Int) (kc : Int)))]) rfl (by decide) rfl dX12_fair_158 ?_
                              refine go_iload dX12_fair_159 6 rfl ?_
                              refine go_iload_n dX12_fair_161 rfl 3 rfl ?_
                              refine go_icmp_leI (tgt := 170) (by omega) (by omega) dX12_fair_162 (by decide) (fun c_162 => ?_) (fun c_162 => ?_)
                              · refine go_iload_n dX12_fair_170 rfl 3 rfl ?_
                                refine go_istore_nS (lv' := [(0, .ref mb), (1, rj_i w), (2, rj_i ((10 * (ka : Int)) + (kc : Int))), (3, rj_i ((sp_fB s (ka : Int) (sp_fA s ka) kc).2)), (4, rj_i (ka : Int)), (5, rj_i (kc : Int)), (6, rj_i (sp_fv s (ka : Int) (kc : Int)))]) rfl (by decide) rfl dX12_fair_171 ?_
                                refine go_iincI (a := (kc : Int)) (n := 1) (k0 := 5) (lv' := [(0, .ref mb), (1, rj_i w), (2, rj_i ((10 * (ka : Int)) + (kc : Int))), (3, rj_i ((sp_fB s (ka : Int) (sp_fA s ka) kc).2)), (4, rj_i (ka : Int)), (5, rj_i ((kc : Int) + 1)), (6, rj_i (sp_fv s (ka : Int) (kc : Int)))]) rfl (by decide) rfl dX12_fair_172 ?_
                                refine go_goto (tgt := 84) dX12_fair_175 (by decide) ?_
                                refine go_sub (lv' := [(0, .ref mb), (1, rj_i w), (2, rj_i ((10 * (ka : Int)) + (kc : Int))), (3, rj_i ((sp_fB s (ka : Int) (sp_fA s ka) kc).2)), (4, rj_i (ka : Int)), (5, rj_i ((kc : Int) + 1))]) (by intro q hq; simp only [List.mem_cons, List.not_mem_nil, or_false] at hq ⊢; rcases hq with rfl | rfl | rfl | rfl | rfl | rfl <;> simp) ?_
                                exact go_eq rfl (lv' := [(0, .ref mb), (1, rj_i w), (2, rj_i ((sp_fB s (ka : Int) (sp_fA s ka) (kc + 1)).1)), (3, rj_i ((sp_fB s (ka : Int) (sp_fA s ka) (kc + 1)).2)), (4, rj_i (ka : Int)), (5, rj_i ((kc + 1 : Nat) : Int))]) (rj_lk (rj_lk (rj_lj (by rw [sp_fB, if_pos (by omega)]) (rj_lj (by rw [sp_fB, if_neg (by omega)]) (rj_lk (rj_lj (by omega) rfl)))))) rfl rfl (ihc (kc + 1) r62 S9 (by omega) ((show r62 1 = S9 from q62_1)) ((show r62 2 = (r 2) from q62_2)) ((show r62 3 0 = (r 3 0) from q62_3)) ((show r62 11 0 = s 4 from q62_11)) ((show r62 17 = (r 17) from q62_17)) ((show r62 18 0 = (r 18 0) from q62_18)) ((show r62 15 = K from q62_15)) (by rw [eS9]; exact sp_off_fl _ _ _))
                              · refine go_iload dX12_fair_165 6 rfl ?_
                                refine go_goto (tgt := 171) dX12_fair_167 (by decide) ?_
                                refine go_istore_nS (lv' := [(0, .ref mb), (1, rj_i w), (2, rj_i ((10 * (ka : Int)) + (kc : Int))), (3, rj_i (sp_fv s (ka : Int) (kc : Int))), (4, rj_i (ka : Int)), (5, rj_i (kc : Int)), (6, rj_i (sp_fv s (ka : Int) (kc : Int)))]) rfl (by decide) rfl dX12_fair_171 ?_
                                refine go_iincI (a := (kc : Int)) (n := 1) (k0 := 5) (lv' := [(0, .ref mb), (1, rj_i w), (2, rj_i ((10 * (ka : Int)) + (kc : Int))), (3, rj_i (sp_fv s (ka : Int) (kc : Int))), (4, rj_i (ka : Int)), (5, rj_i ((kc : Int) + 1)), (6, rj_i (sp_fv s (ka : Int) (kc : Int)))]) rfl (by decide) rfl dX12_fair_172 ?_
                                refine go_goto (tgt := 84) dX12_fair_175 (by decide) ?_
                                refine go_sub (lv' := [(0, .ref mb), (1, rj_i w), (2, rj_i ((10 * (ka : Int)) + (kc : Int))), (3, rj_i (sp_fv s (ka : Int) (kc : Int))), (4, rj_i (ka : Int)), (5, rj_i ((kc : Int) + 1))]) (by intro q hq; simp only [List.mem_cons, List.not_mem_nil, or_false] at hq ⊢; rcases hq with rfl | rfl | rfl | rfl | rfl | rfl <;> simp) ?_
                                exact go_eq rfl (lv' := [(0, .ref mb), (1, rj_i w), (2, rj_i ((sp_fB s (ka : Int) (sp_fA s ka) (kc + 1)).1)), (3, rj_i ((sp_fB s (ka : Int) (sp_fA s ka) (kc + 1)).2)), (4, rj_i (ka : Int)), (5, rj_i ((kc + 1 : Nat) : Int))]) (rj_lk (rj_lk (rj_lj (by rw [sp_fB, if_pos (by omega)]) (rj_lj (by rw [sp_fB, if_pos (by omega)]) (rj_lk (rj_lj (by omega) rfl)))))) rfl rfl (ihc (kc + 1) r62 S9 (by omega) ((show r62 1 = S9 from q62_1)) ((show r62 2 = (r 2) from q62_2)) ((show r62 3 0 = (r 3 0) from q62_3)) ((show r62 11 0 = s 4 from q62_11)) ((show r62 17 = (r 17) from q62_17)) ((show r62 18 0 = (r 18 0) from q62_18)) ((show r62 15 = K from q62_15)) (by rw [eS9]; exact sp_off_fl _ _ _))
                          · exact absurd c_102 (by omega)
                        | succ nd ihd =>
                          intro kd rld hkd eld1 eld2 eld3 eld11 eld17 eld18 eld15
                          refine go_iload dX12_fair_98 6 rfl ?_
                          refine go_bipush (v := Int32.ofInt 8) dX12_fair_100 (by decide) ?_
                          refine go_icmp_geI (tgt := 130) (by omega) (by omega) dX12_fair_102 (by decide) (fun c_102 => ?_) (fun c_102 => ?_)
                          · exact absurd c_102 (by omega)
                          · refine go_aload_n dX12_fair_105 rfl 0 rfl ?_
                            refine grm_g1 rfl dX12_fair_106 ?_
                            refine go_sipush (v := Int32.ofInt 236) dX12_fair_109 (by decide) ?_
                            refine go_bipush (v := Int32.ofInt 8) dX12_fair_112 (by decide) ?_
                            refine go_iload dX12_fair_114 4 rfl ?_
                            refine go_mulI dX12_fair_116 ?_
                            refine go_addI dX12_fair_117 ?_
                            refine go_iload dX12_fair_118 6 rfl ?_
                            refine go_addI dX12_fair_120 ?_
                            refine go_iload dX12_fair_121 5 rfl ?_
                            refine grm_s1 (by omega) (by omega) dX12_fair_123 ?_
                            refine go_iincI (a := (kd : Int)) (n := 1) (k0 := 6) (lv' := [(0, .ref mb), (1, rj_i w), (2, rj_i ((sp_fB s (ka : Int) (sp_fA s ka) kc).1)), (3, rj_i ((sp_fB s (ka : Int) (sp_fA s ka) kc).2)), (4, rj_i (ka : Int)), (5, rj_i (kc : Int)), (6, rj_i ((kd : Int) + 1))]) rfl (by decide) rfl dX12_fair_124 ?_
                            refine go_goto (tgt := 98) dX12_fair_127 (by decide) ?_
                            exact go_eq rfl (lv' := [(0, .ref mb), (1, rj_i w), (2, rj_i ((sp_fB s (ka : Int) (sp_fA s ka) kc).1)), (3, rj_i ((sp_fB s (ka : Int) (sp_fA s ka) kc).2)), (4, rj_i (ka : Int)), (5, rj_i (kc : Int)), (6, rj_i ((kd + 1 : Nat) : Int))]) (rj_lk (rj_lk (rj_lk (rj_lk (rj_lk (rj_lk (rj_lj (by omega) rfl))))))) rfl rfl (ihd (kd + 1) (rm_u rld 1 (rj_up (rld 1) ((236 + (8 * (ka : Int))) + (kd : Int)) (kc : Int))) (by omega) (((show (rm_u rld 1 (rj_up (rld 1) ((236 + (8 * (ka : Int))) + (kd : Int)) (kc : Int))) 1 = (rj_up (sp_fl U (ka : Int) (kc : Int) kd) ((236 + (8 * (ka : Int))) + (kd : Int)) (kc : Int)) from (congrArg (fun zz => rj_up zz ((236 + (8 * (ka : Int))) + (kd : Int)) (kc : Int)) (show rld 1 = sp_fl U (ka : Int) (kc : Int) kd from eld1)))).trans (sp_fl_s _ _ _ _)) ((show (rm_u rld 1 (rj_up (rld 1) ((236 + (8 * (ka : Int))) + (kd : Int)) (kc : Int))) 2 = (r 2) from eld2)) ((show (rm_u rld 1 (rj_up (rld 1) ((236 + (8 * (ka : Int))) + (kd : Int)) (kc : Int))) 3 0 = (r 3 0) from eld3)) ((show (rm_u rld 1 (rj_up (rld 1) ((236 + (8 * (ka : Int))) + (kd : Int)) (kc : Int))) 11 0 = s 4 from eld11)) ((show (rm_u rld 1 (rj_up (rld 1) ((236 + (8 * (ka : Int))) + (kd : Int)) (kc : Int))) 17 = (r 17) from eld17)) ((show (rm_u rld 1 (rj_up (rld 1) ((236 + (8 * (ka : Int))) + (kd : Int)) (kc : Int))) 18 0 = (r 18 0) from eld18)) ((show (rm_u rld 1 (rj_up (rld 1) ((236 + (8 * (ka : Int))) + (kd : Int)) (kc : Int))) 15 = K from eld15)))
                      exact go_eq rfl (lv' := [(0, .ref mb), (1, rj_i w), (2, rj_i ((sp_fB s (ka : Int) (sp_fA s ka) kc).1)), (3, rj_i ((sp_fB s (ka : Int) (sp_fA s ka) kc).2)), (4, rj_i (ka : Int)), (5, rj_i (kc : Int)), (6, rj_i ((0 : Nat) : Int))]) (rj_lk (rj_lk (rj_lk (rj_lk (rj_lk (rj_lk (rj_lj (rfl) rfl))))))) rfl rfl (loopd (8 : Int).toNat 0 rlc (by omega) (((show rlc 1 = U from elc1)).trans (sp_fl_0 _ _ _).symm) ((show rlc 2 = (r 2) from elc2)) ((show rlc 3 0 = (r 3 0) from elc3)) ((show rlc 11 0 = s 4 from elc11)) ((show rlc 17 = (r 17) from elc17)) ((show rlc 18 0 = (r 18 0) from elc18)) ((show rlc 15 = K from elc15)))
                exact go_eq rfl (lv' := [(0, .ref mb), (1, rj_i w), (2, rj_i ((sp_fB s (ka : Int) (sp_fA s ka) 0).1)), (3, rj_i ((sp_fB s (ka : Int) (sp_fA s ka) 0).2)), (4, rj_i (ka : Int)), (5, rj_i ((0 : Nat) : Int))]) (rj_lk (rj_lk (rj_lj (rfl) (rj_lj (rfl) (rj_lk (rj_lj (rfl) rfl)))))) rfl rfl (loopc (s 1).toNat 0 rlb s (by omega) ((show rlb 1 = s from elb1)) ((show rlb 2 = (r 2) from elb2)) ((show rlb 3 0 = (r 3 0) from elb3)) ((show rlb 11 0 = s 4 from elb11)) ((show rlb 17 = (r 17) from elb17)) ((show rlb 18 0 = (r 18 0) from elb18)) (((show rlb 15 = sp_cp (fun q => s (236 + 8 * (ka : Int) + q)) K0 kb from elb15)).trans hK.symm) (fun _ _ => rfl))
              · exact absurd c_48 (by omega)
            | succ nb ihb =>
              intro kb rlb hkb elb1 elb2 elb3 elb11 elb17 elb18 elb15
              refine go_iload dX12_fair_44 5 rfl ?_
              refine go_bipush (v := Int32.ofInt 8) dX12_fair_46 (by decide) ?_
              refine go_icmp_geI (tgt := 81) (by omega) (by omega) dX12_fair_48 (by decide) (fun c_48 => ?_) (fun c_48 => ?_)
              · exact absurd c_48 (by omega)
              · refine go_aload_n dX12_fair_51 rfl 0 rfl ?_
                refine grm_g15 rfl dX12_fair_52 ?_
                refine go_iload dX12_fair_55 5 rfl ?_
                refine go_aload_n dX12_fair_57 rfl 0 rfl ?_
                refine grm_g1 rfl dX12_fair_58 ?_
                refine go_sipush (v := Int32.ofInt 236) dX12_fair_61 (by decide) ?_
                refine go_bipush (v := Int32.ofInt 8) dX12_fair_64 (by decide) ?_
                refine go_iload dX12_fair_66 4 rfl ?_
                refine go_mulI dX12_fair_68 ?_
                refine go_addI dX12_fair_69 ?_
                refine go_iload dX12_fair_70 5 rfl ?_
                refine go_addI dX12_fair_72 ?_
                refine grm_l1 (by omega) (by omega) dX12_fair_73 ?_
                rw [show rlb 1 = s from elb1]
                refine grm_s15 (by omega) (by omega) dX12_fair_74 ?_
                refine go_iincI (a := (kb : Int)) (n := 1) (k0 := 5) (lv' := [(0, .ref mb), (1, rj_i w), (2, rj_i ((sp_fA s ka).1)), (3, rj_i ((sp_fA s ka).2)), (4, rj_i (ka : Int)), (5, rj_i ((kb : Int) + 1))]) rfl (by decide) rfl dX12_fair_75 ?_
                refine go_goto (tgt := 44) dX12_fair_78 (by decide) ?_
                exact go_eq rfl (lv' := [(0, .ref mb), (1, rj_i w), (2, rj_i ((sp_fA s ka).1)), (3, rj_i ((sp_fA s ka).2)), (4, rj_i (ka : Int)), (5, rj_i ((kb + 1 : Nat) : Int))]) (rj_lk (rj_lk (rj_lk (rj_lk (rj_lk (rj_lj (by omega) rfl)))))) rfl rfl (ihb (kb + 1) (rm_u rlb 15 (rj_up (rlb 15) (kb : Int) (s ((236 + (8 * (ka : Int))) + (kb : Int))))) (by omega) ((show (rm_u rlb 15 (rj_up (rlb 15) (kb : Int) (s ((236 + (8 * (ka : Int))) + (kb : Int))))) 1 = s from elb1)) ((show (rm_u rlb 15 (rj_up (rlb 15) (kb : Int) (s ((236 + (8 * (ka : Int))) + (kb : Int))))) 2 = (r 2) from elb2)) ((show (rm_u rlb 15 (rj_up (rlb 15) (kb : Int) (s ((236 + (8 * (ka : Int))) + (kb : Int))))) 3 0 = (r 3 0) from elb3)) ((show (rm_u rlb 15 (rj_up (rlb 15) (kb : Int) (s ((236 + (8 * (ka : Int))) + (kb : Int))))) 11 0 = s 4 from elb11)) ((show (rm_u rlb 15 (rj_up (rlb 15) (kb : Int) (s ((236 + (8 * (ka : Int))) + (kb : Int))))) 17 = (r 17) from elb17)) ((show (rm_u rlb 15 (rj_up (rlb 15) (kb : Int) (s ((236 + (8 * (ka : Int))) + (kb : Int))))) 18 0 = (r 18 0) from elb18)) (((show (rm_u rlb 15 (rj_up (rlb 15) (kb : Int) (s ((236 + (8 * (ka : Int))) + (kb : Int))))) 15 = (rj_up (sp_cp (fun q => s (236 + 8 * (ka : Int) + q)) K0 kb) (kb : Int) (s ((236 + (8 * (ka : Int))) + (kb : Int)))) from (congrArg (fun zz => rj_up zz (kb : Int) (s ((236 + (8 * (ka : Int))) + (kb : Int)))) (show rlb 15 = sp_cp (fun q => s (236 + 8 * (ka : Int) + q)) K0 kb from elb15)))).trans (sp_cp_s (fun q => s (236 + 8 * (ka : Int) + q)) K0 kb)))
          exact go_eq rfl (lv' := [(0, .ref mb), (1, rj_i w), (2, rj_i ((sp_fA s ka).1)), (3, rj_i ((sp_fA s ka).2)), (4, rj_i (ka : Int)), (5, rj_i ((0 : Nat) : Int))]) (rj_lk (rj_lk (rj_lk (rj_lk (rj_lk (rj_lj (rfl) rfl)))))) rfl rfl (loopb (8 : Int).toNat 0 rla (by omega) ((show rla 1 = s from ela1)) ((show rla 2 = (r 2) from ela2)) ((show rla 3 0 = (r 3 0) from ela3)) ((show rla 11 0 = s 4 from ela11)) ((show rla 17 = (r 17) from ela17)) ((show rla 18 0 = (r 18 0) from ela18)) (((show rla 15 = K0 from hK0.symm)).trans (sp_cp_0 _ _).symm))
    exact go_eq rfl (lv' := [(0, .ref mb), (1, rj_i w), (2, rj_i ((sp_fA s 0).1)), (3, rj_i ((sp_fA s 0).2)), (4, rj_i ((0 : Nat) : Int))]) (rj_lk (rj_lk (rj_lj (rfl) (rj_lj (rfl) (rj_lj (rfl) rfl))))) rfl rfl (loopa (s 0).toNat 0 r1 (by omega) ((show r1 1 = s from q1_1)) ((show r1 2 = (r 2) from q1_2)) ((show r1 3 0 = (r 3 0) from q1_3)) ((show r1 11 0 = s 4 from q1_11)) ((show r1 17 = (r 17) from q1_17)) ((show r1 18 0 = (r 18 0) from q1_18)))
  · refine go_iconst (v := Int32.ofInt (-1)) dX12_fair_9 rfl ?_
    refine go_retI rfl rfl ?_ dX12_fair_10
    exact ⟨rj_vi (by unfold sp_fairF; rw [if_neg (by omega)]), r, ⟨(show r 1 = s from hs), (show r 2 = (r 2) from rfl), (show r 3 0 = (r 3 0) from rfl), (show r 17 = (r 17) from rfl), (show r 18 0 = (r 18 0) from rfl)⟩, rfl⟩
