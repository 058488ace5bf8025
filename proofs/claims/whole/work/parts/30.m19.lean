/-! THE REFERENCE, 19: feed -/
/-- byte number k of w -/
def sp_fr (w : Int64) (k : Int) : Int32 := ((w >>> ((Int32.ofInt (8 * k)).toInt64 &&& 63)) &&& Int64.ofInt 255).toInt32
def sp_fb (w : Int64) (k : Int) : Int := (sp_fr w k).toInt
theorem sp_fb_b (w : Int64) (k : Int) : 0 ≤ sp_fb w k ∧ sp_fb w k ≤ 255 := by
  unfold sp_fb sp_fr
  generalize w >>> ((Int32.ofInt (8 * k)).toInt64 &&& 63) = y
  have h1 : (y &&& Int64.ofInt 255).toInt32.toInt = ((y.toBitVec &&& 255#64).setWidth 32).toInt := by
    rw [Int32.toInt, Int64.toBitVec_toInt32, Int64.toBitVec_and, BitVec.signExtend_eq_setWidth_of_le _ (by decide)]; rfl
  rw [h1]
  have h2 : ((y.toBitVec &&& 255#64).setWidth 32).toNat = y.toBitVec.toNat % 256 := by
    rw [BitVec.toNat_setWidth, BitVec.toNat_and]
    have h3 : y.toBitVec.toNat &&& (255#64).toNat = y.toBitVec.toNat % 256 := Nat.and_two_pow_sub_one_eq_mod _ 8
    rw [h3]
    omega
  have h4 : ((y.toBitVec &&& 255#64).setWidth 32).toInt = (((y.toBitVec &&& 255#64).setWidth 32).toNat : Int) := BitVec.toInt_eq_toNat_of_lt (by omega)
  rw [h4, h2]
  omega
/-- the tape behind j bytes of c9 -/
def sp_fdS (s : Int → Int) (w : Int64) (c9 : Int) : Nat → Int → Int
  | 0 => s
  | j + 1 => rj_up (rj_up (sp_fdS s w c9 j) (10 + sp_fdS s w c9 j 6) (sp_fb w (c9 - 1 - (j : Int)))) 6 (sp_fdS s w c9 j 6 + 1)
theorem sp_fdS_6 (s : Int → Int) (w : Int64) (c9 : Int) : ∀ j : Nat, sp_fdS s w c9 j 6 = s 6 + (j : Int)
  | 0 => by simp [sp_fdS]
  | j + 1 => by rw [sp_fdS, rj_up_eq, sp_fdS_6 s w c9 j]; omega
def sp_feedF (s : Int → Int) (c9 : Int) : Int := if ¬ (1 ≤ c9 ∧ c9 ≤ 8) then -2 else if 120 < s 6 + c9 then -4 else s 6 + c9
def sp_feedS (s : Int → Int) (w : Int64) (c9 : Int) : Int → Int := if (1 ≤ c9 ∧ c9 ≤ 8) ∧ ¬ 120 < s 6 + c9 then sp_fdS s w c9 c9.toNat else s
set_option maxRecDepth 20000 in
/-- m_feed -/
theorem m_feed {X9 : rj_X} {σ : rj_H} {d : Nat} {mb : Nat} {r : rm_R} {w : Int64} {c9 : Int} (hd : 1 ≤ d) (hc9 : -2147483648 ≤ c9 ∧ c9 < 2147483648) {s : Int → Int} (hs : r 1 = s) (hI : sp_I s) : rj_Cl X9 d yX12_feed cX12_feed 5 (some .int) [.ref mb, .long w, rj_i c9] (rm_p X9 mb r σ) (fun w9 τ => w9 = some (rj_i (sp_feedF s c9)) ∧ ∃ r0, rm_V r r0 (sp_feedS s w c9) ∧ τ = rm_p X9 mb r0 σ) := by
  obtain ⟨⟨h0, h1, h2, h3, h4, h5, h6, h7⟩, hM, hP, hW, hL, hV⟩ := id hI
  obtain ⟨v1, v2, v3, v4⟩ := id hV
  refine go_call (by decide +kernel) (Nat.le_of_ble_eq_true rfl) ?_
  refine go_eq (pc' := 0) (lv' := [(0, .ref mb), (1, .long w), (3, rj_i c9)]) (st' := []) rfl rfl rfl rfl ?_
  refine go_iload_n dX12_feed_0 rfl 2 rfl ?_
  refine go_iconst (v := Int32.ofInt 1) dX12_feed_1 rfl ?_
  refine go_bipush (v := Int32.ofInt 8) dX12_feed_2 (by decide) ?_
  refine go_callS (d1 := d - 1) wSX12_47 rfl (by omega) (m_in (v := c9) (lo := 1) (hi := 8) (by omega) (by omega) (by omega)) rfl (Nat.le_of_ble_eq_true rfl) dX12_feed_4 (fun w σ1 hP => ?_)
  obtain ⟨rfl, rfl⟩ := hP
  refine go_if_neB (tgt := 13) dX12_feed_7 (by decide) (fun c_7 => ?_) (fun c_7 => ?_)
  · refine go_aload_n dX12_feed_13 rfl 0 rfl ?_
    refine grm_g1 rfl dX12_feed_14 ?_
    refine go_bipush (v := Int32.ofInt 6) dX12_feed_17 (by decide) ?_
    refine grm_l1 (by omega) (by omega) dX12_feed_19 ?_
    rw [show r 1 = s from hs]
    refine go_iload_n dX12_feed_20 rfl 2 rfl ?_
    refine go_addI dX12_feed_21 ?_
    refine go_bipush (v := Int32.ofInt 120) dX12_feed_22 (by decide) ?_
    refine go_icmp_leI (tgt := 30) (by omega) (by omega) dX12_feed_24 (by decide) (fun c_24 => ?_) (fun c_24 => ?_)
    · refine go_iload_n dX12_feed_30 rfl 2 rfl ?_
      refine go_iconst (v := Int32.ofInt 1) dX12_feed_31 rfl ?_
      refine go_subI dX12_feed_32 ?_
      refine go_istoreS (lv' := [(0, .ref mb), (1, .long w), (3, rj_i c9), (4, rj_i (c9 - 1))]) (by decide) rfl dX12_feed_33 ?_
      have loop : ∀ (n k : Nat) (rl : rm_R), k + n = c9.toNat → rl 1 = sp_fdS s w c9 k → rl 2 = (r 2) → rl 3 0 = (r 3 0) → rl 17 = (r 17) → rl 18 0 = (r 18 0) → rj_Go X9 yX12_feed cX12_feed 5 (some .int) d (fun w9 τ => w9 = some (rj_i (sp_feedF s c9)) ∧ ∃ r0, rm_V r r0 (sp_feedS s w c9) ∧ τ = rm_p X9 mb r0 σ) 35 [(0, .ref mb), (1, .long w), (3, rj_i c9), (4, rj_i (c9 - 1 - (k : Int)))] [] (rm_p X9 mb rl σ) := by
        intro n
        induction n with
        | zero =>
          intro k rl hk el1 el2 el3 el17 el18
          have e6 := sp_fdS_6 s w c9 k
          refine go_iload dX12_feed_35 3 rfl ?_
          refine go_if_ltI (tgt := 84) (by omega) dX12_feed_37 (by decide) (fun c_37 => ?_) (fun c_37 => ?_)
          · refine go_aload_n dX12_feed_84 rfl 0 rfl ?_
            refine grm_g1 rfl dX12_feed_85 ?_
            refine go_bipush (v := Int32.ofInt 6) dX12_feed_88 (by decide) ?_
            refine grm_l1 (by omega) (by omega) dX12_feed_90 ?_
            rw [show rl 1 = sp_fdS s w c9 k from el1]
            rw [show (sp_fdS s w c9 k) 6 = s 6 + (k : Int) from e6]
            refine go_retI rfl rfl ?_ dX12_feed_91
            exact ⟨rj_vi (by unfold sp_feedF; rw [if_neg (by omega), if_neg (by omega)]; omega), rl, ⟨((show rl 1 = sp_fdS s w c9 k from el1)).trans (by unfold sp_feedS; rw [if_pos (by omega), show c9.toNat = k by omega]), (show rl 2 = (r 2) from el2), (show rl 3 0 = (r 3 0) from el3), (show rl 17 = (r 17) from el17), (show rl 18 0 = (r 18 0) from el18)⟩, rfl⟩
          · exact absurd c_37 (by omega)
        | succ n ih =>
          intro k rl hk el1 el2 el3 el17 el18
          have e6 := sp_fdS_6 s w c9 k
          have fb := sp_fb_b w (c9 - 1 - (k : Int))
          refine go_iload dX12_feed_35 3 rfl ?_
          refine go_if_ltI (tgt := 84) (by omega) dX12_feed_37 (by decide) (fun c_37 => ?_) (fun c_37 => ?_)
          · exact absurd c_37 (by omega)
          · refine go_aload_n dX12_feed_40 rfl 0 rfl ?_
            refine grm_g1 rfl dX12_feed_41 ?_
            refine go_bipush (v := Int32.ofInt 10) dX12_feed_44 (by decide) ?_
            refine go_aload_n dX12_feed_46 rfl 0 rfl ?_
            refine grm_g1 rfl dX12_feed_47 ?_
            refine go_bipush (v := Int32.ofInt 6) dX12_feed_50 (by decide) ?_
            refine grm_l1 (by omega) (by omega) dX12_feed_52 ?_
            rw [show rl 1 = sp_fdS s w c9 k from el1]
            rw [show (sp_fdS s w c9 k) 6 = s 6 + (k : Int) from e6]
            refine go_addI dX12_feed_53 ?_
            refine go_lload_n dX12_feed_54 rfl 1 rfl ?_
            refine go_bipush (v := Int32.ofInt 8) dX12_feed_55 (by decide) ?_
            refine go_iload dX12_feed_57 3 rfl ?_
            refine go_mulI dX12_feed_59 ?_
            refine go_lshr (v := (w >>> ((Int32.ofInt (8 * (c9 - 1 - (k : Int)))).toInt64 &&& 63))) dX12_feed_60 rfl ?_
            refine go_ldc2 (z := Int64.ofInt 255) (by exact qX12_62) dX12_feed_61 ?_
            refine go_land dX12_feed_64 ?_
            refine go_l2i (v := sp_fr w (c9 - 1 - (k : Int))) dX12_feed_65 rfl ?_
            rw [show (.int (sp_fr w (c9 - 1 - (k : Int))) : Value) = rj_i (sp_fb w (c9 - 1 - (k : Int))) from by unfold sp_fb rj_i; rw [Int32.ofInt_toInt]]
            refine grm_s1 (by omega) (by omega) dX12_feed_66 ?_
            obtain ⟨r51, e51⟩ : ∃ x_, x_ = (rm_u rl 1 (rj_up (rl 1) (10 + (s 6 + (k : Int))) (sp_fb w (c9 - 1 - (k : Int))))) := ⟨_, rfl⟩
            rw [← e51]
            have q51_1 : r51 1 = (rj_up (sp_fdS s w c9 k) (10 + (s 6 + (k : Int))) (sp_fb w (c9 - 1 - (k : Int)))) := by rw [e51]; exact (show (rm_u rl 1 (rj_up (rl 1) (10 + (s 6 + (k : Int))) (sp_fb w (c9 - 1 - (k : Int))))) 1 = (rj_up (sp_fdS s w c9 k) (10 + (s 6 + (k : Int))) (sp_fb w (c9 - 1 - (k : Int)))) from (congrArg (fun zz => rj_up zz (10 + (s 6 + (k : Int))) (sp_fb w (c9 - 1 - (k : Int)))) (show rl 1 = sp_fdS s w c9 k from el1)))
            have q51_2 : r51 2 = (r 2) := by rw [e51]; exact (show (rm_u rl 1 (rj_up (rl 1) (10 + (s 6 + (k : Int))) (sp_fb w (c9 - 1 - (k : Int))))) 2 = (r 2) from el2)
            have q51_3 : r51 3 0 = (r 3 0) := by rw [e51]; exact (show (rm_u rl 1 (rj_up (rl 1) (10 + (s 6 + (k : Int))) (sp_fb w (c9 - 1 - (k : Int))))) 3 0 = (r 3 0) from el3)
            have q51_17 : r51 17 = (r 17) := by rw [e51]; exact (show (rm_u rl 1 (rj_up (rl 1) (10 + (s 6 + (k : Int))) (sp_fb w (c9 - 1 - (k : Int))))) 17 = (r 17) from el17)
            have q51_18 : r51 18 0 = (r 18 0) := by rw [e51]; exact (show (rm_u rl 1 (rj_up (rl 1) (10 + (s 6 + (k : Int))) (sp_fb w (c9 - 1 - (k : Int))))) 18 0 = (r 18 0) from el18)
            refine go_aload_n dX12_feed_67 rfl 0 rfl ?_
            refine grm_g1 rfl dX12_feed_68 ?_
            refine go_bipush (v := Int32.ofInt 6) dX12_feed_71 (by decide) ?_
            refine go_dup2_11 dX12_feed_73 rfl rfl ?_
            refine grm_l1 (by omega) (by omega) dX12_feed_74 ?_
            rw [show r51 1 = (rj_up (sp_fdS s w c9 k) (10 + (s 6 + (k : Int))) (sp_fb w (c9 - 1 - (k : Int)))) from q51_1]
            rw [show (rj_up (sp_fdS s w c9 k) (10 + (s 6 + (k : Int))) (sp_fb w (c9 - 1 - (k : Int)))) 6 = s 6 + (k : Int) from by rw [rj_up_ne _ _ (by omega)]; exact e6]
            refine go_iconst (v := Int32.ofInt 1) dX12_feed_75 rfl ?_
            refine go_addI dX12_feed_76 ?_
            refine grm_s1 (by omega) (by omega) dX12_feed_77 ?_
            obtain ⟨r52, e52⟩ : ∃ x_, x_ = (rm_u r51 1 (rj_up (r51 1) 6 ((s 6 + (k : Int)) + 1))) := ⟨_, rfl⟩
            rw [← e52]
            have q52_1 : r52 1 = (rj_up (rj_up (sp_fdS s w c9 k) (10 + (s 6 + (k : Int))) (sp_fb w (c9 - 1 - (k : Int)))) 6 ((s 6 + (k : Int)) + 1)) := by rw [e52]; exact (show (rm_u r51 1 (rj_up (r51 1) 6 ((s 6 + (k : Int)) + 1))) 1 = (rj_up (rj_up (sp_fdS s w c9 k) (10 + (s 6 + (k : Int))) (sp_fb w (c9 - 1 - (k : Int)))) 6 ((s 6 + (k : Int)) + 1)) from (congrArg (fun zz => rj_up zz 6 ((s 6 + (k : Int)) + 1)) (show r51 1 = (rj_up (sp_fdS s w c9 k) (10 + (s 6 + (k : Int))) (sp_fb w (c9 - 1 - (k : Int)))) from q51_1)))
            have q52_2 : r52 2 = (r 2) := by rw [e52]; exact (show (rm_u r51 1 (rj_up (r51 1) 6 ((s 6 + (k : Int)) + 1))) 2 = (r 2) from q51_2)
            have q52_3 : r52 3 0 = (r 3 0) := by rw [e52]; exact (show (rm_u r51 1 (rj_up (r51 1) 6 ((s 6 + (k : Int)) + 1))) 3 0 = (r 3 0) from q51_3)
            have q52_17 : r52 17 = (r 17) := by rw [e52]; exact (show (rm_u r51 1 (rj_up (r51 1) 6 ((s 6 + (k : Int)) + 1))) 17 = (r 17) from q51_17)
            have q52_18 : r52 18 0 = (r 18 0) := by rw [e52]; exact (show (rm_u r51 1 (rj_up (r51 1) 6 ((s 6 + (k : Int)) + 1))) 18 0 = (r 18 0) from q51_18)
            refine go_iincI (a := c9 - 1 - (k : Int)) (n := -1) (k0 := 3) (lv' := [(0, .ref mb), (1, .long w), (3, rj_i c9), (4, rj_i (c9 - 1 - (k : Int) + (-1)))]) rfl (by decide) rfl dX12_feed_78 ?_
            refine go_goto (tgt := 35) dX12_feed_81 (by decide) ?_
            exact go_eq rfl (lv' := [(0, .ref mb), (1, .long w), (3, rj_i c9), (4, rj_i (c9 - 1 - ((k + 1 : Nat) : Int)))]) (rj_lk (rj_lk (rj_lk (rj_lj (by omega) rfl)))) rfl rfl (ih (k + 1) r52 (by omega) (((show r52 1 = (rj_up (rj_up (sp_fdS s w c9 k) (10 + (s 6 + (k : Int))) (sp_fb w (c9 - 1 - (k : Int)))) 6 ((s 6 + (k : Int)) + 1)) from q52_1)).trans (by rw [sp_fdS, e6])) ((show r52 2 = (r 2) from q52_2)) ((show r52 3 0 = (r 3 0) from q52_3)) ((show r52 17 = (r 17) from q52_17)) ((show r52 18 0 = (r 18 0) from q52_18)))
      exact go_eq rfl (lv' := [(0, .ref mb), (1, .long w), (3, rj_i c9), (4, rj_i (c9 - 1 - ((0 : Nat) : Int)))]) (rj_lk (rj_lk (rj_lk (rj_lj (by omega) rfl)))) rfl rfl (loop c9.toNat 0 r (by omega) ((show r 1 = s from hs)) ((show r 2 = (r 2) from rfl)) ((show r 3 0 = (r 3 0) from rfl)) ((show r 17 = (r 17) from rfl)) ((show r 18 0 = (r 18 0) from rfl)))
    · refine go_bipush (v := Int32.ofInt (-4)) dX12_feed_27 (by decide) ?_
      refine go_retI rfl rfl ?_ dX12_feed_29
      exact ⟨rj_vi (by unfold sp_feedF; (repeat' split) <;> omega), r, ⟨((show r 1 = s from hs)).trans (by unfold sp_feedS; rw [if_neg (by omega)]), (show r 2 = (r 2) from rfl), (show r 3 0 = (r 3 0) from rfl), (show r 17 = (r 17) from rfl), (show r 18 0 = (r 18 0) from rfl)⟩, rfl⟩
  · refine go_bipush (v := Int32.ofInt (-2)) dX12_feed_10 (by decide) ?_
    refine go_retI rfl rfl ?_ dX12_feed_12
    exact ⟨rj_vi (by unfold sp_feedF; (repeat' split) <;> omega), r, ⟨((show r 1 = s from hs)).trans (by unfold sp_feedS; rw [if_neg (by omega)]), (show r 2 = (r 2) from rfl), (show r 3 0 = (r 3 0) from rfl), (show r 17 = (r 17) from rfl), (show r 18 0 = (r 18 0) from rfl)⟩, rfl⟩
