/-! THE REFERENCE, 8: what is set; image, undo; count, as, trace, clear -/
def sp_mirU (s : Int → Int) (kd pt mk : Int) : Int → Int := (rj_up (rj_up (rj_up (rj_up (rj_up (rj_up (rj_up (rj_up s (130 + s 0) (kd)) (136 + s 0) (pt / 100)) (142 + s 0) (pt % 100)) (148 + s 0) (mk / 100 % 100)) (154 + s 0) (mk / 10 % 10)) (160 + s 0) (mk / 10000)) (166 + s 0) (mk % 10)) (0) (s 0 + 1))
def sp_mirF (s : Int → Int) (kd pt mk : Int) : Int := if ¬ (0 ≤ kd ∧ kd ≤ 6) then -1 else if ¬ ((0 ≤ pt ∧ pt ≤ 4040 ∧ pt % 100 ≤ 40) ∧ (0 ≤ mk ∧ mk ≤ 999999) ∧ (1 ≤ mk / 100 % 100 ∧ mk / 100 % 100 ≤ 40) ∧ ¬ mk / 10 % 10 = 0) then -2 else if s 0 = 6 then -4 else s 0
def sp_mirS (s : Int → Int) (kd pt mk : Int) : Int → Int := if (0 ≤ kd ∧ kd ≤ 6) ∧ ((0 ≤ pt ∧ pt ≤ 4040 ∧ pt % 100 ≤ 40) ∧ (0 ≤ mk ∧ mk ≤ 999999) ∧ (1 ≤ mk / 100 % 100 ∧ mk / 100 % 100 ≤ 40) ∧ ¬ mk / 10 % 10 = 0) ∧ ¬ s 0 = 6 then sp_mirU s kd pt mk else s
def sp_patU (s : Int → Int) (pt w sn : Int) : Int → Int := (rj_up (rj_up (rj_up (rj_up (rj_up s (172 + s 1) (pt / 100)) (178 + s 1) (pt % 100)) (184 + s 1) (w)) (190 + s 1) (sn)) (1) (s 1 + 1))
def sp_patF (s : Int → Int) (pt w sn : Int) : Int := if ¬ ((0 ≤ pt ∧ pt ≤ 4040 ∧ pt % 100 ≤ 40) ∧ (0 ≤ w ∧ w ≤ 20) ∧ (0 ≤ sn ∧ sn ≤ 20)) then -2 else if s 1 = 6 then -4 else s 1
def sp_patS (s : Int → Int) (pt w sn : Int) : Int → Int := if ((0 ≤ pt ∧ pt ≤ 4040 ∧ pt % 100 ≤ 40) ∧ (0 ≤ w ∧ w ≤ 20) ∧ (0 ≤ sn ∧ sn ≤ 20)) ∧ ¬ s 1 = 6 then sp_patU s pt w sn else s
def sp_walU (s : Int → Int) (pt to h : Int) : Int → Int := (rj_up (rj_up (rj_up (rj_up (rj_up (rj_up s (196 + s 2) (pt / 100)) (204 + s 2) (pt % 100)) (212 + s 2) (to / 100)) (220 + s 2) (to % 100)) (228 + s 2) (h)) (2) (s 2 + 1))
def sp_walF (s : Int → Int) (pt to h : Int) : Int := if ¬ ((0 ≤ pt ∧ pt ≤ 4040 ∧ pt % 100 ≤ 40) ∧ (0 ≤ to ∧ to ≤ 4040 ∧ to % 100 ≤ 40) ∧ (1 ≤ h ∧ h ≤ 40)) then -2 else if s 2 = 8 then -4 else s 2
def sp_walS (s : Int → Int) (pt to h : Int) : Int → Int := if ((0 ≤ pt ∧ pt ≤ 4040 ∧ pt % 100 ≤ 40) ∧ (0 ≤ to ∧ to ≤ 4040 ∧ to % 100 ≤ 40) ∧ (1 ≤ h ∧ h ≤ 40)) ∧ ¬ s 2 = 8 then sp_walU s pt to h else s
set_option maxRecDepth 20000 in
set_option maxHeartbeats 2000000 in
/-- m_mirror -/
theorem m_mirror {X9 : rj_X} {σ : rj_H} {d : Nat} {mb : Nat} {r : rm_R} {kd pt mk : Int} (hd : 2 ≤ d) (hkd : -2147483648 ≤ kd ∧ kd < 2147483648) (hpt : -2147483648 ≤ pt ∧ pt < 2147483648) (hmk : -2147483648 ≤ mk ∧ mk < 2147483648) {s : Int → Int} (hs : r 1 = s) (hI : sp_I s) : rj_Cl X9 d yX12_mirror cX12_mirror 5 (some .int) [.ref mb, rj_i kd, rj_i pt, rj_i mk] (rm_p X9 mb r σ) (fun w9 τ => w9 = some (rj_i (sp_mirF s kd pt mk)) ∧ ∃ r0, rm_V r r0 (sp_mirS s kd pt mk) ∧ τ = rm_p X9 mb r0 σ) := by
  obtain ⟨⟨h0, h1, h2, h3, h4, h5, h6, h7⟩, hM, hP, hW, hL, hV⟩ := id hI
  obtain ⟨v1, v2, v3, v4⟩ := id hV
  refine go_call (by decide +kernel) (Nat.le_of_ble_eq_true rfl) ?_
  refine go_eq (pc' := 0) (lv' := [(0, .ref mb), (1, rj_i kd), (2, rj_i pt), (3, rj_i mk)]) (st' := []) rfl rfl rfl rfl ?_
  refine go_iload_n dX12_mirror_0 rfl 1 rfl ?_
  refine go_iconst (v := Int32.ofInt 0) dX12_mirror_1 rfl ?_
  refine go_bipush (v := Int32.ofInt 6) dX12_mirror_2 (by decide) ?_
  refine go_callS (d1 := d - 1) wSX12_47 rfl (by omega) (m_in (v := kd) (lo := 0) (hi := 6) (by omega) (by omega) (by omega)) rfl (Nat.le_of_ble_eq_true rfl) dX12_mirror_4 (fun w σ1 hP => ?_)
  obtain ⟨rfl, rfl⟩ := hP
  refine go_if_neB (tgt := 12) dX12_mirror_7 (by decide) (fun c_7 => ?_) (fun c_7 => ?_)
  · refine go_iload_n dX12_mirror_12 rfl 2 rfl ?_
    refine go_callS (d1 := d - 1) wSX12_51 rfl (by omega) (m_isAt (a := pt) (by omega) (by omega)) rfl (Nat.le_of_ble_eq_true rfl) dX12_mirror_13 (fun w σ1 hP => ?_)
    obtain ⟨rfl, rfl⟩ := hP
    refine go_if_eqB (tgt := 55) dX12_mirror_16 (by decide) (fun c_16 => ?_) (fun c_16 => ?_)
    · refine go_bipush (v := Int32.ofInt (-2)) dX12_mirror_55 (by decide) ?_
      refine go_retI rfl rfl ?_ dX12_mirror_57
      exact ⟨rj_vi (by unfold sp_mirF; (repeat' split) <;> omega), r, ⟨by unfold sp_mirS; rw [if_neg (by omega)]; exact (show r 1 = s from hs), (show r 2 = (r 2) from rfl), (show r 3 0 = (r 3 0) from rfl), (show r 17 = (r 17) from rfl), (show r 18 0 = (r 18 0) from rfl)⟩, rfl⟩
    · refine go_iload_n dX12_mirror_19 rfl 3 rfl ?_
      refine go_iconst (v := Int32.ofInt 0) dX12_mirror_20 rfl ?_
      refine go_ldcI (z := 999999) qX12_55 dX12_mirror_21 ?_
      refine go_callS (d1 := d - 1) wSX12_47 rfl (by omega) (m_in (v := mk) (lo := 0) (hi := 999999) (by omega) (by omega) (by omega)) rfl (Nat.le_of_ble_eq_true rfl) dX12_mirror_23 (fun w σ1 hP => ?_)
      obtain ⟨rfl, rfl⟩ := hP
      refine go_if_eqB (tgt := 55) dX12_mirror_26 (by decide) (fun c_26 => ?_) (fun c_26 => ?_)
      · refine go_bipush (v := Int32.ofInt (-2)) dX12_mirror_55 (by decide) ?_
        refine go_retI rfl rfl ?_ dX12_mirror_57
        exact ⟨rj_vi (by unfold sp_mirF; (repeat' split) <;> omega), r, ⟨by unfold sp_mirS; rw [if_neg (by omega)]; exact (show r 1 = s from hs), (show r 2 = (r 2) from rfl), (show r 3 0 = (r 3 0) from rfl), (show r 17 = (r 17) from rfl), (show r 18 0 = (r 18 0) from rfl)⟩, rfl⟩
      · refine go_iload_n dX12_mirror_29 rfl 3 rfl ?_
        refine go_bipush (v := Int32.ofInt 100) dX12_mirror_30 (by decide) ?_
        refine go_divI (by omega) (by omega) dX12_mirror_32 ?_
        refine go_bipush (v := Int32.ofInt 100) dX12_mirror_33 (by decide) ?_
        refine go_remI (by omega) (by omega) dX12_mirror_35 ?_
        refine go_iconst (v := Int32.ofInt 1) dX12_mirror_36 rfl ?_
        refine go_bipush (v := Int32.ofInt 40) dX12_mirror_37 (by decide) ?_
        refine go_callS (d1 := d - 1) wSX12_47 rfl (by omega) (m_in (v := (mk / 100) % 100) (lo := 1) (hi := 40) (by omega) (by omega) (by omega)) rfl (Nat.le_of_ble_eq_true rfl) dX12_mirror_39 (fun w σ1 hP => ?_)
        obtain ⟨rfl, rfl⟩ := hP
        refine go_if_eqB (tgt := 55) dX12_mirror_42 (by decide) (fun c_42 => ?_) (fun c_42 => ?_)
        · refine go_bipush (v := Int32.ofInt (-2)) dX12_mirror_55 (by decide) ?_
          refine go_retI rfl rfl ?_ dX12_mirror_57
          exact ⟨rj_vi (by unfold sp_mirF; (repeat' split) <;> omega), r, ⟨by unfold sp_mirS; rw [if_neg (by omega)]; exact (show r 1 = s from hs), (show r 2 = (r 2) from rfl), (show r 3 0 = (r 3 0) from rfl), (show r 17 = (r 17) from rfl), (show r 18 0 = (r 18 0) from rfl)⟩, rfl⟩
        · refine go_iload_n dX12_mirror_45 rfl 3 rfl ?_
          refine go_bipush (v := Int32.ofInt 10) dX12_mirror_46 (by decide) ?_
          refine go_divI (by omega) (by omega) dX12_mirror_48 ?_
          refine go_bipush (v := Int32.ofInt 10) dX12_mirror_49 (by decide) ?_
          refine go_remI (by omega) (by omega) dX12_mirror_51 ?_
          refine go_if_neI (tgt := 58) (by omega) dX12_mirror_52 (by decide) (fun c_52 => ?_) (fun c_52 => ?_)
          · refine go_aload_n dX12_mirror_58 rfl 0 rfl ?_
            refine grm_g1 rfl dX12_mirror_59 ?_
            refine go_iconst (v := Int32.ofInt 0) dX12_mirror_62 rfl ?_
            refine grm_l1 (by omega) (by omega) dX12_mirror_63 ?_
            rw [show r 1 = s from hs]
            refine go_bipush (v := Int32.ofInt 6) dX12_mirror_64 (by decide) ?_
            refine go_icmp_neI (tgt := 72) (by omega) (by omega) dX12_mirror_66 (by decide) (fun c_66 => ?_) (fun c_66 => ?_)
            · refine go_aload_n dX12_mirror_72 rfl 0 rfl ?_
              refine grm_g1 rfl dX12_mirror_73 ?_
              refine go_iconst (v := Int32.ofInt 0) dX12_mirror_76 rfl ?_
              refine grm_l1 (by omega) (by omega) dX12_mirror_77 ?_
              rw [show r 1 = s from hs]
              refine go_istoreS (lv' := [(0, .ref mb), (1, rj_i kd), (2, rj_i pt), (3, rj_i mk), (4, rj_i (s 0))]) (by decide) rfl dX12_mirror_78 ?_
              refine go_aload_n dX12_mirror_80 rfl 0 rfl ?_
              refine grm_g1 rfl dX12_mirror_81 ?_
              refine go_sipush (v := Int32.ofInt 130) dX12_mirror_84 (by decide) ?_
              refine go_iload dX12_mirror_87 4 rfl ?_
              refine go_addI dX12_mirror_89 ?_
              refine go_iload_n dX12_mirror_90 rfl 1 rfl ?_
              refine grm_s1 (by omega) (by omega) dX12_mirror_91 ?_
              obtain ⟨r1, e1⟩ : ∃ x_, x_ = (rm_u r 1 (rj_up (r 1) (130 + (s 0)) kd)) := ⟨_, rfl⟩
              rw [← e1]
              have q1_1 : r1 1 = (rj_up s (130 + (s 0)) kd) := by rw [e1]; exact (show (rm_u r 1 (rj_up (r 1) (130 + (s 0)) kd)) 1 = (rj_up s (130 + (s 0)) kd) from (congrArg (fun zz => rj_up zz (130 + (s 0)) kd) (show r 1 = s from hs)))
              have q1_2 : r1 2 = (r 2) := by rw [e1]; exact (show (rm_u r 1 (rj_up (r 1) (130 + (s 0)) kd)) 2 = (r 2) from rfl)
              have q1_3 : r1 3 0 = (r 3 0) := by rw [e1]; exact (show (rm_u r 1 (rj_up (r 1) (130 + (s 0)) kd)) 3 0 = (r 3 0) from rfl)
              have q1_17 : r1 17 = (r 17) := by rw [e1]; exact (show (rm_u r 1 (rj_up (r 1) (130 + (s 0)) kd)) 17 = (r 17) from rfl)
              have q1_18 : r1 18 0 = (r 18 0) := by rw [e1]; exact (show (rm_u r 1 (rj_up (r 1) (130 + (s 0)) kd)) 18 0 = (r 18 0) from rfl)
              refine go_aload_n dX12_mirror_92 rfl 0 rfl ?_
              refine grm_g1 rfl dX12_mirror_93 ?_
              refine go_sipush (v := Int32.ofInt 136) dX12_mirror_96 (by decide) ?_
              refine go_iload dX12_mirror_99 4 rfl ?_
              refine go_addI dX12_mirror_101 ?_
              refine go_iload_n dX12_mirror_102 rfl 2 rfl ?_
              refine go_bipush (v := Int32.ofInt 100) dX12_mirror_103 (by decide) ?_
              refine go_divI (by omega) (by omega) dX12_mirror_105 ?_
              refine grm_s1 (by omega) (by omega) dX12_mirror_106 ?_
              obtain ⟨r2, e2⟩ : ∃ x_, x_ = (rm_u r1 1 (rj_up (r1 1) (136 + (s 0)) (pt / 100))) := ⟨_, rfl⟩
              rw [← e2]
              have q2_1 : r2 1 = (rj_up (rj_up s (130 + (s 0)) kd) (136 + (s 0)) (pt / 100)) := by rw [e2]; exact (show (rm_u r1 1 (rj_up (r1 1) (136 + (s 0)) (pt / 100))) 1 = (rj_up (rj_up s (130 + (s 0)) kd) (136 + (s 0)) (pt / 100)) from (congrArg (fun zz => rj_up zz (136 + (s 0)) (pt / 100)) (show r1 1 = (rj_up s (130 + (s 0)) kd) from q1_1)))
              have q2_2 : r2 2 = (r 2) := by rw [e2]; exact (show (rm_u r1 1 (rj_up (r1 1) (136 + (s 0)) (pt / 100))) 2 = (r 2) from q1_2)
              have q2_3 : r2 3 0 = (r 3 0) := by rw [e2]; exact (show (rm_u r1 1 (rj_up (r1 1) (136 + (s 0)) (pt / 100))) 3 0 = (r 3 0) from q1_3)
              have q2_17 : r2 17 = (r 17) := by rw [e2]; exact (show (rm_u r1 1 (rj_up (r1 1) (136 + (s 0)) (pt / 100))) 17 = (r 17) from q1_17)
              have q2_18 : r2 18 0 = (r 18 0) := by rw [e2]; exact (show (rm_u r1 1 (rj_up (r1 1) (136 + (s 0)) (pt / 100))) 18 0 = (r 18 0) from q1_18)
              refine go_aload_n dX12_mirror_107 rfl 0 rfl ?_
              refine grm_g1 rfl dX12_mirror_108 ?_
              refine go_sipush (v := Int32.ofInt 142) dX12_mirror_111 (by decide) ?_
              refine go_iload dX12_mirror_114 4 rfl ?_
              refine go_addI dX12_mirror_116 ?_
              refine go_iload_n dX12_mirror_117 rfl 2 rfl ?_
              refine go_bipush (v := Int32.ofInt 100) dX12_mirror_118 (by decide) ?_
              refine go_remI (by omega) (by omega) dX12_mirror_120 ?_
              refine grm_s1 (by omega) (by omega) dX12_mirror_121 ?_
              obtain ⟨r3, e3⟩ : ∃ x_, x_ = (rm_u r2 1 (rj_up (r2 1) (142 + (s 0)) (pt % 100))) := ⟨_, rfl⟩
              rw [← e3]
              have q3_1 : r3 1 = (rj_up (rj_up (rj_up s (130 + (s 0)) kd) (136 + (s 0)) (pt / 100)) (142 + (s 0)) (pt % 100)) := by rw [e3]; exact (show (rm_u r2 1 (rj_up (r2 1) (142 + (s 0)) (pt % 100))) 1 = (rj_up (rj_up (rj_up s (130 + (s 0)) kd) (136 + (s 0)) (pt / 100)) (142 + (s 0)) (pt % 100)) from (congrArg (fun zz => rj_up zz (142 + (s 0)) (pt % 100)) (show r2 1 = (rj_up (rj_up s (130 + (s 0)) kd) (136 + (s 0)) (pt / 100)) from q2_1)))
              have q3_2 : r3 2 = (r 2) := by rw [e3]; exact (show (rm_u r2 1 (rj_up (r2 1) (142 + (s 0)) (pt % 100))) 2 = (r 2) from q2_2)
              have q3_3 : r3 3 0 = (r 3 0) := by rw [e3]; exact (show (rm_u r2 1 (rj_up (r2 1) (142 + (s 0)) (pt % 100))) 3 0 = (r 3 0) from q2_3)
              have q3_17 : r3 17 = (r 17) := by rw [e3]; exact (show (rm_u r2 1 (rj_up (r2 1) (142 + (s 0)) (pt % 100))) 17 = (r 17) from q2_17)
              have q3_18 : r3 18 0 = (r 18 0) := by rw [e3]; exact (show (rm_u r2 1 (rj_up (r2 1) (142 + (s 0)) (pt % 100))) 18 0 = (r 18 0) from q2_18)
              refine go_aload_n dX12_mirror_122 rfl 0 rfl ?_
              refine grm_g1 rfl dX12_mirror_123 ?_
              refine go_sipush (v := Int32.ofInt 148) dX12_mirror_126 (by decide) ?_
              refine go_iload dX12_mirror_129 4 rfl ?_
              refine go_addI dX12_mirror_131 ?_
              refine go_iload_n dX12_mirror_132 rfl 3 rfl ?_
              refine go_bipush (v := Int32.ofInt 100) dX12_mirror_133 (by decide) ?_
              refine go_divI (by omega) (by omega) dX12_mirror_135 ?_
              refine go_bipush (v := Int32.ofInt 100) dX12_mirror_136 (by decide) ?_
              refine go_remI (by omega) (by omega) dX12_mirror_138 ?_
              refine grm_s1 (by omega) (by omega) dX12_mirror_139 ?_
              obtain ⟨r4, e4⟩ : ∃ x_, x_ = (rm_u r3 1 (rj_up (r3 1) (148 + (s 0)) ((mk / 100) % 100))) := ⟨_, rfl⟩
              rw [← e4]
              have q4_1 : r4 1 = (rj_up (rj_up (rj_up (rj_up s (130 + (s 0)) kd) (136 + (s 0)) (pt / 100)) (142 + (s 0)) (pt % 100)) (148 + (s 0)) ((mk / 100) % 100)) := by rw [e4]; exact (show (rm_u r3 1 (rj_up (r3 1) (148 + (s 0)) ((mk / 100) % 100))) 1 = (rj_up (rj_up (rj_up (rj_up s (130 + (s 0)) kd) (136 + (s 0)) (pt / 100)) (142 + (s 0)) (pt % 100)) (148 + (s 0)) ((mk / 100) % 100)) from (congrArg (fun zz => rj_up zz (148 + (s 0)) ((mk / 100) % 100)) (show r3 1 = (rj_up (rj_up (rj_up s (130 + (s 0)) kd) (136 + (s 0)) (pt / 100)) (142 + (s 0)) (pt % 100)) from q3_1)))
              have q4_2 : r4 2 = (r 2) := by rw [e4]; exact (show (rm_u r3 1 (rj_up (r3 1) (148 + (s 0)) ((mk / 100) % 100))) 2 = (r 2) from q3_2)
              have q4_3 : r4 3 0 = (r 3 0) := by rw [e4]; exact (show (rm_u r3 1 (rj_up (r3 1) (148 + (s 0)) ((mk / 100) % 100))) 3 0 = (r 3 0) from q3_3)
              have q4_17 : r4 17 = (r 17) := by rw [e4]; exact (show (rm_u r3 1 (rj_up (r3 1) (148 + (s 0)) ((mk / 100) % 100))) 17 = (r 17) from q3_17)
              have q4_18 : r4 18 0 = (r 18 0) := by rw [e4]; exact (show (rm_u r3 1 (rj_up (r3 1) (148 + (s 0)) ((mk / 100) % 100))) 18 0 = (r 18 0) from q3_18)
              refine go_aload_n dX12_mirror_140 rfl 0 rfl ?_
              refine grm_g1 rfl dX12_mirror_141 ?_
              refine go_sipush (v := Int32.ofInt 154) dX12_mirror_144 (by decide) ?_
              refine go_iload dX12_mirror_147 4 rfl ?_
              refine go_addI dX12_mirror_149 ?_
              refine go_iload_n dX12_mirror_150 rfl 3 rfl ?_
              refine go_bipush (v := Int32.ofInt 10) dX12_mirror_151 (by decide) ?_
              refine go_divI (by omega) (by omega) dX12_mirror_153 ?_
              refine go_bipush (v := Int32.ofInt 10) dX12_mirror_154 (by decide) ?_
              refine go_remI (by omega) (by omega) dX12_mirror_156 ?_
              refine grm_s1 (by omega) (by omega) dX12_mirror_157 ?_
              obtain ⟨r5, e5⟩ : ∃ x_, x_ = (rm_u r4 1 (rj_up (r4 1) (154 + (s 0)) ((mk / 10) % 10))) := ⟨_, rfl⟩
              rw [← e5]
              have q5_1 : r5 1 = (rj_up (rj_up (rj_up (rj_up (rj_up s (130 + (s 0)) kd) (136 + (s 0)) (pt / 100)) (142 + (s 0)) (pt % 100)) (148 + (s 0)) ((mk / 100) % 100)) (154 + (s 0)) ((mk / 10) % 10)) := by rw [e5]; exact (show (rm_u r4 1 (rj_up (r4 1) (154 + (s 0)) ((mk / 10) % 10))) 1 = (rj_up (rj_up (rj_up (rj_up (rj_up s (130 + (s 0)) kd) (136 + (s 0)) (pt / 100)) (142 + (s 0)) (pt % 100)) (148 + (s 0)) ((mk / 100) % 100)) (154 + (s 0)) ((mk / 10) % 10)) from (congrArg (fun zz => rj_up zz (154 + (s 0)) ((mk / 10) % 10)) (show r4 1 = (rj_up (rj_up (rj_up (rj_up s (130 + (s 0)) kd) (136 + (s 0)) (pt / 100)) (142 + (s 0)) (pt % 100)) (148 + (s 0)) ((mk / 100) % 100)) from q4_1)))
              have q5_2 : r5 2 = (r 2) := by rw [e5]; exact (show (rm_u r4 1 (rj_up (r4 1) (154 + (s 0)) ((mk / 10) % 10))) 2 = (r 2) from q4_2)
              have q5_3 : r5 3 0 = (r 3 0) := by rw [e5]; exact (show (rm_u r4 1 (rj_up (r4 1) (154 + (s 0)) ((mk / 10) % 10))) 3 0 = (r 3 0) from q4_3)
              have q5_17 : r5 17 = (r 17) := by rw [e5]; exact (show (rm_u r4 1 (rj_up (r4 1) (154 + (s 0)) ((mk / 10) % 10))) 17 = (r 17) from q4_17)
              have q5_18 : r5 18 0 = (r 18 0) := by rw [e5]; exact (show (rm_u r4 1 (rj_up (r4 1) (154 + (s 0)) ((mk / 10) % 10))) 18 0 = (r 18 0) from q4_18)
              refine go_aload_n dX12_mirror_158 rfl 0 rfl ?_
              refine grm_g1 rfl dX12_mirror_159 ?_
              refine go_sipush (v := Int32.ofInt 160) dX12_mirror_162 (by decide) ?_
              refine go_iload dX12_mirror_165 4 rfl ?_
              refine go_addI dX12_mirror_167 ?_
              refine go_iload_n dX12_mirror_168 rfl 3 rfl ?_
              refine go_sipush (v := Int32.ofInt 10000) dX12_mirror_169 (by decide) ?_
              refine go_divI (by omega) (by omega) dX12_mirror_172 ?_
              refine grm_s1 (by omega) (by omega) dX12_mirror_173 ?_
              obtain ⟨r6, e6⟩ : ∃ x_, x_ = (rm_u r5 1 (rj_up (r5 1) (160 + (s 0)) (mk / 10000))) := ⟨_, rfl⟩
              rw [← e6]
              have q6_1 : r6 1 = (rj_up (rj_up (rj_up (rj_up (rj_up (rj_up s (130 + (s 0)) kd) (136 + (s 0)) (pt / 100)) (142 + (s 0)) (pt % 100)) (148 + (s 0)) ((mk / 100) % 100)) (154 + (s 0)) ((mk / 10) % 10)) (160 + (s 0)) (mk / 10000)) := by rw [e6]; exact (show (rm_u r5 1 (rj_up (r5 1) (160 + (s 0)) (mk / 10000))) 1 = (rj_up (rj_up (rj_up (rj_up (rj_up (rj_up s (130 + (s 0)) kd) (136 + (s 0)) (pt / 100)) (142 + (s 0)) (pt % 100)) (148 + (s 0)) ((mk / 100) % 100)) (154 + (s 0)) ((mk / 10) % 10)) (160 + (s 0)) (mk / 10000)) from (congrArg (fun zz => rj_up zz (160 + (s 0)) (mk / 10000)) (show r5 1 = (rj_up (rj_up (rj_up (rj_up (rj_up s (130 + (s 0)) kd) (136 + (s 0)) (pt / 100)) (142 + (s 0)) (pt % 100)) (148 + (s 0)) ((mk / 100) % 100)) (154 + (s 0)) ((mk / 10) % 10)) from q5_1)))
              have q6_2 : r6 2 = (r 2) := by rw [e6]; exact (show (rm_u r5 1 (rj_up (r5 1) (160 + (s 0)) (mk / 10000))) 2 = (r 2) from q5_2)
              have q6_3 : r6 3 0 = (r 3 0) := by rw [e6]; exact (show (rm_u r5 1 (rj_up (r5 1) (160 + (s 0)) (mk / 10000))) 3 0 = (r 3 0) from q5_3)
              have q6_17 : r6 17 = (r 17) := by rw [e6]; exact (show (rm_u r5 1 (rj_up (r5 1) (160 + (s 0)) (mk / 10000))) 17 = (r 17) from q5_17)
              have q6_18 : r6 18 0 = (r 18 0) := by rw [e6]; exact (show (rm_u r5 1 (rj_up (r5 1) (160 + (s 0)) (mk / 10000))) 18 0 = (r 18 0) from q5_18)
              refine go_aload_n dX12_mirror_174 rfl 0 rfl ?_
              refine grm_g1 rfl dX12_mirror_175 ?_
              refine go_sipush (v := Int32.ofInt 166) dX12_mirror_178 (by decide) ?_
              refine go_iload dX12_mirror_181 4 rfl ?_
              refine go_addI dX12_mirror_183 ?_
              refine go_iload_n dX12_mirror_184 rfl 3 rfl ?_
              refine go_bipush (v := Int32.ofInt 10) dX12_mirror_185 (by decide) ?_
              refine go_remI (by omega) (by omega) dX12_mirror_187 ?_
              refine grm_s1 (by omega) (by omega) dX12_mirror_188 ?_
              obtain ⟨r7, e7⟩ : ∃ x_, x_ = (rm_u r6 1 (rj_up (r6 1) (166 + (s 0)) (mk % 10))) := ⟨_, rfl⟩
              rw [← e7]
              have q7_1 : r7 1 = (rj_up (rj_up (rj_up (rj_up (rj_up (rj_up (rj_up s (130 + (s 0)) kd) (136 + (s 0)) (pt / 100)) (142 + (s 0)) (pt % 100)) (148 + (s 0)) ((mk / 100) % 100)) (154 + (s 0)) ((mk / 10) % 10)) (160 + (s 0)) (mk / 10000)) (166 + (s 0)) (mk % 10)) := by rw [e7]; exact (show (rm_u r6 1 (rj_up (r6 1) (166 + (s 0)) (mk % 10))) 1 = (rj_up (rj_up (rj_up (rj_up (rj_up (rj_up (rj_up s (130 + (s 0)) kd) (136 + (s 0)) (pt / 100)) (142 + (s 0)) (pt % 100)) (148 + (s 0)) ((mk / 100) % 100)) (154 + (s 0)) ((mk / 10) % 10)) (160 + (s 0)) (mk / 10000)) (166 + (s 0)) (mk % 10)) from (congrArg (fun zz => rj_up zz (166 + (s 0)) (mk % 10)) (show r6 1 = (rj_up (rj_up (rj_up (rj_up (rj_up (rj_up s (130 + (s 0)) kd) (136 + (s 0)) (pt / 100)) (142 + (s 0)) (pt % 100)) (148 + (s 0)) ((mk / 100) % 100)) (154 + (s 0)) ((mk / 10) % 10)) (160 + (s 0)) (mk / 10000)) from q6_1)))
              have q7_2 : r7 2 = (r 2) := by rw [e7]; exact (show (rm_u r6 1 (rj_up (r6 1) (166 + (s 0)) (mk % 10))) 2 = (r 2) from q6_2)
              have q7_3 : r7 3 0 = (r 3 0) := by rw [e7]; exact (show (rm_u r6 1 (rj_up (r6 1) (166 + (s 0)) (mk % 10))) 3 0 = (r 3 0) from q6_3)
              have q7_17 : r7 17 = (r 17) := by rw [e7]; exact (show (rm_u r6 1 (rj_up (r6 1) (166 + (s 0)) (mk % 10))) 17 = (r 17) from q6_17)
              have q7_18 : r7 18 0 = (r 18 0) := by rw [e7]; exact (show (rm_u r6 1 (rj_up (r6 1) (166 + (s 0)) (mk % 10))) 18 0 = (r 18 0) from q6_18)
              refine go_aload_n dX12_mirror_189 rfl 0 rfl ?_
              refine grm_g1 rfl dX12_mirror_190 ?_
              refine go_iconst (v := Int32.ofInt 0) dX12_mirror_193 rfl ?_
              refine go_dup2_11 dX12_mirror_194 rfl rfl ?_
              refine grm_l1 (by omega) (by omega) dX12_mirror_195 ?_
              rw [show r7 1 = (rj_up (rj_up (rj_up (rj_up (rj_up (rj_up (rj_up s (130 + (s 0)) kd) (136 + (s 0)) (pt / 100)) (142 + (s 0)) (pt % 100)) (148 + (s 0)) ((mk / 100) % 100)) (154 + (s 0)) ((mk / 10) % 10)) (160 + (s 0)) (mk / 10000)) (166 + (s 0)) (mk % 10)) from q7_1]
              rw [show (rj_up (rj_up (rj_up (rj_up (rj_up (rj_up (rj_up s (130 + (s 0)) kd) (136 + (s 0)) (pt / 100)) (142 + (s 0)) (pt % 100)) (148 + (s 0)) ((mk / 100) % 100)) (154 + (s 0)) ((mk / 10) % 10)) (160 + (s 0)) (mk / 10000)) (166 + (s 0)) (mk % 10)) 0 = s 0 from by rw [rj_up_ne _ _ (by omega), rj_up_ne _ _ (by omega), rj_up_ne _ _ (by omega), rj_up_ne _ _ (by omega), rj_up_ne _ _ (by omega), rj_up_ne _ _ (by omega), rj_up_ne _ _ (by omega)]]
              refine go_iconst (v := Int32.ofInt 1) dX12_mirror_196 rfl ?_
              refine go_addI dX12_mirror_197 ?_
              refine grm_s1 (by omega) (by omega) dX12_mirror_198 ?_
              obtain ⟨r8, e8⟩ : ∃ x_, x_ = (rm_u r7 1 (rj_up (r7 1) 0 ((s 0) + 1))) := ⟨_, rfl⟩
              rw [← e8]
              have q8_1 : r8 1 = (rj_up (rj_up (rj_up (rj_up (rj_up (rj_up (rj_up (rj_up s (130 + (s 0)) kd) (136 + (s 0)) (pt / 100)) (142 + (s 0)) (pt % 100)) (148 + (s 0)) ((mk / 100) % 100)) (154 + (s 0)) ((mk / 10) % 10)) (160 + (s 0)) (mk / 10000)) (166 + (s 0)) (mk % 10)) 0 ((s 0) + 1)) := by rw [e8]; exact (show (rm_u r7 1 (rj_up (r7 1) 0 ((s 0) + 1))) 1 = (rj_up (rj_up (rj_up (rj_up (rj_up (rj_up (rj_up (rj_up s (130 + (s 0)) kd) (136 + (s 0)) (pt / 100)) (142 + (s 0)) (pt % 100)) (148 + (s 0)) ((mk / 100) % 100)) (154 + (s 0)) ((mk / 10) % 10)) (160 + (s 0)) (mk / 10000)) (166 + (s 0)) (mk % 10)) 0 ((s 0) + 1)) from (congrArg (fun zz => rj_up zz 0 ((s 0) + 1)) (show r7 1 = (rj_up (rj_up (rj_up (rj_up (rj_up (rj_up (rj_up s (130 + (s 0)) kd) (136 + (s 0)) (pt / 100)) (142 + (s 0)) (pt % 100)) (148 + (s 0)) ((mk / 100) % 100)) (154 + (s 0)) ((mk / 10) % 10)) (160 + (s 0)) (mk / 10000)) (166 + (s 0)) (mk % 10)) from q7_1)))
              have q8_2 : r8 2 = (r 2) := by rw [e8]; exact (show (rm_u r7 1 (rj_up (r7 1) 0 ((s 0) + 1))) 2 = (r 2) from q7_2)
              have q8_3 : r8 3 0 = (r 3 0) := by rw [e8]; exact (show (rm_u r7 1 (rj_up (r7 1) 0 ((s 0) + 1))) 3 0 = (r 3 0) from q7_3)
              have q8_17 : r8 17 = (r 17) := by rw [e8]; exact (show (rm_u r7 1 (rj_up (r7 1) 0 ((s 0) + 1))) 17 = (r 17) from q7_17)
              have q8_18 : r8 18 0 = (r 18 0) := by rw [e8]; exact (show (rm_u r7 1 (rj_up (r7 1) 0 ((s 0) + 1))) 18 0 = (r 18 0) from q7_18)
              refine go_iload dX12_mirror_199 4 rfl ?_
              refine go_retI rfl rfl ?_ dX12_mirror_201
              exact ⟨rj_vi (by unfold sp_mirF; (repeat' split) <;> omega), r8, ⟨by unfold sp_mirS; rw [if_pos (by omega)]; exact (show r8 1 = (rj_up (rj_up (rj_up (rj_up (rj_up (rj_up (rj_up (rj_up s (130 + (s 0)) kd) (136 + (s 0)) (pt / 100)) (142 + (s 0)) (pt % 100)) (148 + (s 0)) ((mk / 100) % 100)) (154 + (s 0)) ((mk / 10) % 10)) (160 + (s 0)) (mk / 10000)) (166 + (s 0)) (mk % 10)) 0 ((s 0) + 1)) from q8_1), (show r8 2 = (r 2) from q8_2), (show r8 3 0 = (r 3 0) from q8_3), (show r8 17 = (r 17) from q8_17), (show r8 18 0 = (r 18 0) from q8_18)⟩, rfl⟩
            · refine go_bipush (v := Int32.ofInt (-4)) dX12_mirror_69 (by decide) ?_
              refine go_retI rfl rfl ?_ dX12_mirror_71
              exact ⟨rj_vi (by unfold sp_mirF; (repeat' split) <;> omega), r, ⟨by unfold sp_mirS; rw [if_neg (by omega)]; exact (show r 1 = s from hs), (show r 2 = (r 2) from rfl), (show r 3 0 = (r 3 0) from rfl), (show r 17 = (r 17) from rfl), (show r 18 0 = (r 18 0) from rfl)⟩, rfl⟩
          · refine go_bipush (v := Int32.ofInt (-2)) dX12_mirror_55 (by decide) ?_
            refine go_retI rfl rfl ?_ dX12_mirror_57
            exact ⟨rj_vi (by unfold sp_mirF; (repeat' split) <;> omega), r, ⟨by unfold sp_mirS; rw [if_neg (by omega)]; exact (show r 1 = s from hs), (show r 2 = (r 2) from rfl), (show r 3 0 = (r 3 0) from rfl), (show r 17 = (r 17) from rfl), (show r 18 0 = (r 18 0) from rfl)⟩, rfl⟩
  · refine go_iconst (v := Int32.ofInt (-1)) dX12_mirror_10 rfl ?_
    refine go_retI rfl rfl ?_ dX12_mirror_11
    exact ⟨rj_vi (by unfold sp_mirF; (repeat' split) <;> omega), r, ⟨by unfold sp_mirS; rw [if_neg (by omega)]; exact (show r 1 = s from hs), (show r 2 = (r 2) from rfl), (show r 3 0 = (r 3 0) from rfl), (show r 17 = (r 17) from rfl), (show r 18 0 = (r 18 0) from rfl)⟩, rfl⟩
set_option maxRecDepth 20000 in
set_option maxHeartbeats 2000000 in
/-- m_patch -/
theorem m_patch {X9 : rj_X} {σ : rj_H} {d : Nat} {mb : Nat} {r : rm_R} {pt w sn : Int} (hd : 2 ≤ d) (hpt : -2147483648 ≤ pt ∧ pt < 2147483648) (hw : -2147483648 ≤ w ∧ w < 2147483648) (hsn : -2147483648 ≤ sn ∧ sn < 2147483648) {s : Int → Int} (hs : r 1 = s) (hI : sp_I s) : rj_Cl X9 d yX12_patch cX12_patch 5 (some .int) [.ref mb, rj_i pt, rj_i w, rj_i sn] (rm_p X9 mb r σ) (fun w9 τ => w9 = some (rj_i (sp_patF s pt w sn)) ∧ ∃ r0, rm_V r r0 (sp_patS s pt w sn) ∧ τ = rm_p X9 mb r0 σ) := by
  obtain ⟨⟨h0, h1, h2, h3, h4, h5, h6, h7⟩, hM, hP, hW, hL, hV⟩ := id hI
  obtain ⟨v1, v2, v3, v4⟩ := id hV
  refine go_call (by decide +kernel) (Nat.le_of_ble_eq_true rfl) ?_
  refine go_eq (pc' := 0) (lv' := [(0, .ref mb), (1, rj_i pt), (2, rj_i w), (3, rj_i sn)]) (st' := []) rfl rfl rfl rfl ?_
  refine go_iload_n dX12_patch_0 rfl 1 rfl ?_
  refine go_callS (d1 := d - 1) wSX12_51 rfl (by omega) (m_isAt (a := pt) (by omega) (by omega)) rfl (Nat.le_of_ble_eq_true rfl) dX12_patch_1 (fun w σ1 hP => ?_)
  obtain ⟨rfl, rfl⟩ := hP
  refine go_if_eqB (tgt := 27) dX12_patch_4 (by decide) (fun c_4 => ?_) (fun c_4 => ?_)
  · refine go_bipush (v := Int32.ofInt (-2)) dX12_patch_27 (by decide) ?_
    refine go_retI rfl rfl ?_ dX12_patch_29
    exact ⟨rj_vi (by unfold sp_patF; (repeat' split) <;> omega), r, ⟨by unfold sp_patS; rw [if_neg (by omega)]; exact (show r 1 = s from hs), (show r 2 = (r 2) from rfl), (show r 3 0 = (r 3 0) from rfl), (show r 17 = (r 17) from rfl), (show r 18 0 = (r 18 0) from rfl)⟩, rfl⟩
  · refine go_iload_n dX12_patch_7 rfl 2 rfl ?_
    refine go_iconst (v := Int32.ofInt 0) dX12_patch_8 rfl ?_
    refine go_bipush (v := Int32.ofInt 20) dX12_patch_9 (by decide) ?_
    refine go_callS (d1 := d - 1) wSX12_47 rfl (by omega) (m_in (v := w) (lo := 0) (hi := 20) (by omega) (by omega) (by omega)) rfl (Nat.le_of_ble_eq_true rfl) dX12_patch_11 (fun w σ1 hP => ?_)
    obtain ⟨rfl, rfl⟩ := hP
    refine go_if_eqB (tgt := 27) dX12_patch_14 (by decide) (fun c_14 => ?_) (fun c_14 => ?_)
    · refine go_bipush (v := Int32.ofInt (-2)) dX12_patch_27 (by decide) ?_
      refine go_retI rfl rfl ?_ dX12_patch_29
      exact ⟨rj_vi (by unfold sp_patF; (repeat' split) <;> omega), r, ⟨by unfold sp_patS; rw [if_neg (by omega)]; exact (show r 1 = s from hs), (show r 2 = (r 2) from rfl), (show r 3 0 = (r 3 0) from rfl), (show r 17 = (r 17) from rfl), (show r 18 0 = (r 18 0) from rfl)⟩, rfl⟩
    · refine go_iload_n dX12_patch_17 rfl 3 rfl ?_
      refine go_iconst (v := Int32.ofInt 0) dX12_patch_18 rfl ?_
      refine go_bipush (v := Int32.ofInt 20) dX12_patch_19 (by decide) ?_
      refine go_callS (d1 := d - 1) wSX12_47 rfl (by omega) (m_in (v := sn) (lo := 0) (hi := 20) (by omega) (by omega) (by omega)) rfl (Nat.le_of_ble_eq_true rfl) dX12_patch_21 (fun w σ1 hP => ?_)
      obtain ⟨rfl, rfl⟩ := hP
      refine go_if_neB (tgt := 30) dX12_patch_24 (by decide) (fun c_24 => ?_) (fun c_24 => ?_)
      · refine go_aload_n dX12_patch_30 rfl 0 rfl ?_
        refine grm_g1 rfl dX12_patch_31 ?_
        refine go_iconst (v := Int32.ofInt 1) dX12_patch_34 rfl ?_
        refine grm_l1 (by omega) (by omega) dX12_patch_35 ?_
        rw [show r 1 = s from hs]
        refine go_bipush (v := Int32.ofInt 6) dX12_patch_36 (by decide) ?_
        refine go_icmp_neI (tgt := 44) (by omega) (by omega) dX12_patch_38 (by decide) (fun c_38 => ?_) (fun c_38 => ?_)
        · refine go_aload_n dX12_patch_44 rfl 0 rfl ?_
          refine grm_g1 rfl dX12_patch_45 ?_
          refine go_iconst (v := Int32.ofInt 1) dX12_patch_48 rfl ?_
          refine grm_l1 (by omega) (by omega) dX12_patch_49 ?_
          rw [show r 1 = s from hs]
          refine go_istoreS (lv' := [(0, .ref mb), (1, rj_i pt), (2, rj_i w), (3, rj_i sn), (4, rj_i (s 1))]) (by decide) rfl dX12_patch_50 ?_
          refine go_aload_n dX12_patch_52 rfl 0 rfl ?_
          refine grm_g1 rfl dX12_patch_53 ?_
          refine go_sipush (v := Int32.ofInt 172) dX12_patch_56 (by decide) ?_
          refine go_iload dX12_patch_59 4 rfl ?_
          refine go_addI dX12_patch_61 ?_
          refine go_iload_n dX12_patch_62 rfl 1 rfl ?_
          refine go_bipush (v := Int32.ofInt 100) dX12_patch_63 (by decide) ?_
          refine go_divI (by omega) (by omega) dX12_patch_65 ?_
          refine grm_s1 (by omega) (by omega) dX12_patch_66 ?_
          obtain ⟨r1, e1⟩ : ∃ x_, x_ = (rm_u r 1 (rj_up (r 1) (172 + (s 1)) (pt / 100))) := ⟨_, rfl⟩
          rw [← e1]
          have q1_1 : r1 1 = (rj_up s (172 + (s 1)) (pt / 100)) := by rw [e1]; exact (show (rm_u r 1 (rj_up (r 1) (172 + (s 1)) (pt / 100))) 1 = (rj_up s (172 + (s 1)) (pt / 100)) from (congrArg (fun zz => rj_up zz (172 + (s 1)) (pt / 100)) (show r 1 = s from hs)))
          have q1_2 : r1 2 = (r 2) := by rw [e1]; exact (show (rm_u r 1 (rj_up (r 1) (172 + (s 1)) (pt / 100))) 2 = (r 2) from rfl)
          have q1_3 : r1 3 0 = (r 3 0) := by rw [e1]; exact (show (rm_u r 1 (rj_up (r 1) (172 + (s 1)) (pt / 100))) 3 0 = (r 3 0) from rfl)
          have q1_17 : r1 17 = (r 17) := by rw [e1]; exact (show (rm_u r 1 (rj_up (r 1) (172 + (s 1)) (pt / 100))) 17 = (r 17) from rfl)
          have q1_18 : r1 18 0 = (r 18 0) := by rw [e1]; exact (show (rm_u r 1 (rj_up (r 1) (172 + (s 1)) (pt / 100))) 18 0 = (r 18 0) from rfl)
          refine go_aload_n dX12_patch_67 rfl 0 rfl ?_
          refine grm_g1 rfl dX12_patch_68 ?_
          refine go_sipush (v := Int32.ofInt 178) dX12_patch_71 (by decide) ?_
          refine go_iload dX12_patch_74 4 rfl ?_
          refine go_addI dX12_patch_76 ?_
          refine go_iload_n dX12_patch_77 rfl 1 rfl ?_
          refine go_bipush (v := Int32.ofInt 100) dX12_patch_78 (by decide) ?_
          refine go_remI (by omega) (by omega) dX12_patch_80 ?_
          refine grm_s1 (by omega) (by omega) dX12_patch_81 ?_
          obtain ⟨r2, e2⟩ : ∃ x_, x_ = (rm_u r1 1 (rj_up (r1 1) (178 + (s 1)) (pt % 100))) := ⟨_, rfl⟩
          rw [← e2]
          have q2_1 : r2 1 = (rj_up (rj_up s (172 + (s 1)) (pt / 100)) (178 + (s 1)) (pt % 100)) := by rw [e2]; exact (show (rm_u r1 1 (rj_up (r1 1) (178 + (s 1)) (pt % 100))) 1 = (rj_up (rj_up s (172 + (s 1)) (pt / 100)) (178 + (s 1)) (pt % 100)) from (congrArg (fun zz => rj_up zz (178 + (s 1)) (pt % 100)) (show r1 1 = (rj_up s (172 + (s 1)) (pt / 100)) from q1_1)))
          have q2_2 : r2 2 = (r 2) := by rw [e2]; exact (show (rm_u r1 1 (rj_up (r1 1) (178 + (s 1)) (pt % 100))) 2 = (r 2) from q1_2)
          have q2_3 : r2 3 0 = (r 3 0) := by rw [e2]; exact (show (rm_u r1 1 (rj_up (r1 1) (178 + (s 1)) (pt % 100))) 3 0 = (r 3 0) from q1_3)
          have q2_17 : r2 17 = (r 17) := by rw [e2]; exact (show (rm_u r1 1 (rj_up (r1 1) (178 + (s 1)) (pt % 100))) 17 = (r 17) from q1_17)
          have q2_18 : r2 18 0 = (r 18 0) := by rw [e2]; exact (show (rm_u r1 1 (rj_up (r1 1) (178 + (s 1)) (pt % 100))) 18 0 = (r 18 0) from q1_18)
          refine go_aload_n dX12_patch_82 rfl 0 rfl ?_
          refine grm_g1 rfl dX12_patch_83 ?_
          refine go_sipush (v := Int32.ofInt 184) dX12_patch_86 (by decide) ?_
          refine go_iload dX12_patch_89 4 rfl ?_
          refine go_addI dX12_patch_91 ?_
          refine go_iload_n dX12_patch_92 rfl 2 rfl ?_
          refine grm_s1 (by omega) (by omega) dX12_patch_93 ?_
          obtain ⟨r3, e3⟩ : ∃ x_, x_ = (rm_u r2 1 (rj_up (r2 1) (184 + (s 1)) w)) := ⟨_, rfl⟩
          rw [← e3]
          have q3_1 : r3 1 = (rj_up (rj_up (rj_up s (172 + (s 1)) (pt / 100)) (178 + (s 1)) (pt % 100)) (184 + (s 1)) w) := by rw [e3]; exact (show (rm_u r2 1 (rj_up (r2 1) (184 + (s 1)) w)) 1 = (rj_up (rj_up (rj_up s (172 + (s 1)) (pt / 100)) (178 + (s 1)) (pt % 100)) (184 + (s 1)) w) from (congrArg (fun zz => rj_up zz (184 + (s 1)) w) (show r2 1 = (rj_up (rj_up s (172 + (s 1)) (pt / 100)) (178 + (s 1)) (pt % 100)) from q2_1)))
          have q3_2 : r3 2 = (r 2) := by rw [e3]; exact (show (rm_u r2 1 (rj_up (r2 1) (184 + (s 1)) w)) 2 = (r 2) from q2_2)
          have q3_3 : r3 3 0 = (r 3 0) := by rw [e3]; exact (show (rm_u r2 1 (rj_up (r2 1) (184 + (s 1)) w)) 3 0 = (r 3 0) from q2_3)
          have q3_17 : r3 17 = (r 17) := by rw [e3]; exact (show (rm_u r2 1 (rj_up (r2 1) (184 + (s 1)) w)) 17 = (r 17) from q2_17)
          have q3_18 : r3 18 0 = (r 18 0) := by rw [e3]; exact (show (rm_u r2 1 (rj_up (r2 1) (184 + (s 1)) w)) 18 0 = (r 18 0) from q2_18)
          refine go_aload_n dX12_patch_94 rfl 0 rfl ?_
          refine grm_g1 rfl dX12_patch_95 ?_
          refine go_sipush (v := Int32.ofInt 190) dX12_patch_98 (by decide) ?_
          refine go_iload dX12_patch_101 4 rfl ?_
          refine go_addI dX12_patch_103 ?_
          refine go_iload_n dX12_patch_104 rfl 3 rfl ?_
          refine grm_s1 (by omega) (by omega) dX12_patch_105 ?_
          obtain ⟨r4, e4⟩ : ∃ x_, x_ = (rm_u r3 1 (rj_up (r3 1) (190 + (s 1)) sn)) := ⟨_, rfl⟩
          rw [← e4]
          have q4_1 : r4 1 = (rj_up (rj_up (rj_up (rj_up s (172 + (s 1)) (pt / 100)) (178 + (s 1)) (pt % 100)) (184 + (s 1)) w) (190 + (s 1)) sn) := by rw [e4]; exact (show (rm_u r3 1 (rj_up (r3 1) (190 + (s 1)) sn)) 1 = (rj_up (rj_up (rj_up (rj_up s (172 + (s 1)) (pt / 100)) (178 + (s 1)) (pt % 100)) (184 + (s 1)) w) (190 + (s 1)) sn) from (congrArg (fun zz => rj_up zz (190 + (s 1)) sn) (show r3 1 = (rj_up (rj_up (rj_up s (172 + (s 1)) (pt / 100)) (178 + (s 1)) (pt % 100)) (184 + (s 1)) w) from q3_1)))
          have q4_2 : r4 2 = (r 2) := by rw [e4]; exact (show (rm_u r3 1 (rj_up (r3 1) (190 + (s 1)) sn)) 2 = (r 2) from q3_2)
          have q4_3 : r4 3 0 = (r 3 0) := by rw [e4]; exact (show (rm_u r3 1 (rj_up (r3 1) (190 + (s 1)) sn)) 3 0 = (r 3 0) from q3_3)
          have q4_17 : r4 17 = (r 17) := by rw [e4]; exact (show (rm_u r3 1 (rj_up (r3 1) (190 + (s 1)) sn)) 17 = (r 17) from q3_17)
          have q4_18 : r4 18 0 = (r 18 0) := by rw [e4]; exact (show (rm_u r3 1 (rj_up (r3 1) (190 + (s 1)) sn)) 18 0 = (r 18 0) from q3_18)
          refine go_aload_n dX12_patch_106 rfl 0 rfl ?_
          refine grm_g1 rfl dX12_patch_107 ?_
          refine go_iconst (v := Int32.ofInt 1) dX12_patch_110 rfl ?_
          refine go_dup2_11 dX12_patch_111 rfl rfl ?_
          refine grm_l1 (by omega) (by omega) dX12_patch_112 ?_
          rw [show r4 1 = (rj_up (rj_up (rj_up (rj_up s (172 + (s 1)) (pt / 100)) (178 + (s 1)) (pt % 100)) (184 + (s 1)) w) (190 + (s 1)) sn) from q4_1]
          rw [show (rj_up (rj_up (rj_up (rj_up s (172 + (s 1)) (pt / 100)) (178 + (s 1)) (pt % 100)) (184 + (s 1)) w) (190 + (s 1)) sn) 1 = s 1 from by rw [rj_up_ne _ _ (by omega), rj_up_ne _ _ (by omega), rj_up_ne _ _ (by omega), rj_up_ne _ _ (by omega)]]
          refine go_iconst (v := Int32.ofInt 1) dX12_patch_113 rfl ?_
          refine go_addI dX12_patch_114 ?_
          refine grm_s1 (by omega) (by omega) dX12_patch_115 ?_
          obtain ⟨r5, e5⟩ : ∃ x_, x_ = (rm_u r4 1 (rj_up (r4 1) 1 ((s 1) + 1))) := ⟨_, rfl⟩
          rw [← e5]
          have q5_1 : r5 1 = (rj_up (rj_up (rj_up (rj_up (rj_up s (172 + (s 1)) (pt / 100)) (178 + (s 1)) (pt % 100)) (184 + (s 1)) w) (190 + (s 1)) sn) 1 ((s 1) + 1)) := by rw [e5]; exact (show (rm_u r4 1 (rj_up (r4 1) 1 ((s 1) + 1))) 1 = (rj_up (rj_up (rj_up (rj_up (rj_up s (172 + (s 1)) (pt / 100)) (178 + (s 1)) (pt % 100)) (184 + (s 1)) w) (190 + (s 1)) sn) 1 ((s 1) + 1)) from (congrArg (fun zz => rj_up zz 1 ((s 1) + 1)) (show r4 1 = (rj_up (rj_up (rj_up (rj_up s (172 + (s 1)) (pt / 100)) (178 + (s 1)) (pt % 100)) (184 + (s 1)) w) (190 + (s 1)) sn) from q4_1)))
          have q5_2 : r5 2 = (r 2) := by rw [e5]; exact (show (rm_u r4 1 (rj_up (r4 1) 1 ((s 1) + 1))) 2 = (r 2) from q4_2)
          have q5_3 : r5 3 0 = (r 3 0) := by rw [e5]; exact (show (rm_u r4 1 (rj_up (r4 1) 1 ((s 1) + 1))) 3 0 = (r 3 0) from q4_3)
          have q5_17 : r5 17 = (r 17) := by rw [e5]; exact (show (rm_u r4 1 (rj_up (r4 1) 1 ((s 1) + 1))) 17 = (r 17) from q4_17)
          have q5_18 : r5 18 0 = (r 18 0) := by rw [e5]; exact (show (rm_u r4 1 (rj_up (r4 1) 1 ((s 1) + 1))) 18 0 = (r 18 0) from q4_18)
          refine go_iload dX12_patch_116 4 rfl ?_
          refine go_retI rfl rfl ?_ dX12_patch_118
          exact ⟨rj_vi (by unfold sp_patF; (repeat' split) <;> omega), r5, ⟨by unfold sp_patS; rw [if_pos (by omega)]; exact (show r5 1 = (rj_up (rj_up (rj_up (rj_up (rj_up s (172 + (s 1)) (pt / 100)) (178 + (s 1)) (pt % 100)) (184 + (s 1)) w) (190 + (s 1)) sn) 1 ((s 1) + 1)) from q5_1), (show r5 2 = (r 2) from q5_2), (show r5 3 0 = (r 3 0) from q5_3), (show r5 17 = (r 17) from q5_17), (show r5 18 0 = (r 18 0) from q5_18)⟩, rfl⟩
        · refine go_bipush (v := Int32.ofInt (-4)) dX12_patch_41 (by decide) ?_
          refine go_retI rfl rfl ?_ dX12_patch_43
          exact ⟨rj_vi (by unfold sp_patF; (repeat' split) <;> omega), r, ⟨by unfold sp_patS; rw [if_neg (by omega)]; exact (show r 1 = s from hs), (show r 2 = (r 2) from rfl), (show r 3 0 = (r 3 0) from rfl), (show r 17 = (r 17) from rfl), (show r 18 0 = (r 18 0) from rfl)⟩, rfl⟩
      · refine go_bipush (v := Int32.ofInt (-2)) dX12_patch_27 (by decide) ?_
        refine go_retI rfl rfl ?_ dX12_patch_29
        exact ⟨rj_vi (by unfold sp_patF; (repeat' split) <;> omega), r, ⟨by unfold sp_patS; rw [if_neg (by omega)]; exact (show r 1 = s from hs), (show r 2 = (r 2) from rfl), (show r 3 0 = (r 3 0) from rfl), (show r 17 = (r 17) from rfl), (show r 18 0 = (r 18 0) from rfl)⟩, rfl⟩
set_option maxRecDepth 20000 in
set_option maxHeartbeats 2000000 in
/-- m_wall -/
theorem m_wall {X9 : rj_X} {σ : rj_H} {d : Nat} {mb : Nat} {r : rm_R} {pt to h : Int} (hd : 2 ≤ d) (hpt : -2147483648 ≤ pt ∧ pt < 2147483648) (hto : -2147483648 ≤ to ∧ to < 2147483648) (hh : -2147483648 ≤ h ∧ h < 2147483648) {s : Int → Int} (hs : r 1 = s) (hI : sp_I s) : rj_Cl X9 d yX12_wall cX12_wall 5 (some .int) [.ref mb, rj_i pt, rj_i to, rj_i h] (rm_p X9 mb r σ) (fun w9 τ => w9 = some (rj_i (sp_walF s pt to h)) ∧ ∃ r0, rm_V r r0 (sp_walS s pt to h) ∧ τ = rm_p X9 mb r0 σ) := by
  obtain ⟨⟨h0, h1, h2, h3, h4, h5, h6, h7⟩, hM, hP, hW, hL, hV⟩ := id hI
  obtain ⟨v1, v2, v3, v4⟩ := id hV
  refine go_call (by decide +kernel) (Nat.le_of_ble_eq_true rfl) ?_
  refine go_eq (pc' := 0) (lv' := [(0, .ref mb), (1, rj_i pt), (2, rj_i to), (3, rj_i h)]) (st' := []) rfl rfl rfl rfl ?_
  refine go_iload_n dX12_wall_0 rfl 1 rfl ?_
  refine go_callS (d1 := d - 1) wSX12_51 rfl (by omega) (m_isAt (a := pt) (by omega) (by omega)) rfl (Nat.le_of_ble_eq_true rfl) dX12_wall_1 (fun w σ1 hP => ?_)
  obtain ⟨rfl, rfl⟩ := hP
  refine go_if_eqB (tgt := 24) dX12_wall_4 (by decide) (fun c_4 => ?_) (fun c_4 => ?_)
  · refine go_bipush (v := Int32.ofInt (-2)) dX12_wall_24 (by decide) ?_
    refine go_retI rfl rfl ?_ dX12_wall_26
    exact ⟨rj_vi (by unfold sp_walF; (repeat' split) <;> omega), r, ⟨by unfold sp_walS; rw [if_neg (by omega)]; exact (show r 1 = s from hs), (show r 2 = (r 2) from rfl), (show r 3 0 = (r 3 0) from rfl), (show r 17 = (r 17) from rfl), (show r 18 0 = (r 18 0) from rfl)⟩, rfl⟩
  · refine go_iload_n dX12_wall_7 rfl 2 rfl ?_
    refine go_callS (d1 := d - 1) wSX12_51 rfl (by omega) (m_isAt (a := to) (by omega) (by omega)) rfl (Nat.le_of_ble_eq_true rfl) dX12_wall_8 (fun w σ1 hP => ?_)
    obtain ⟨rfl, rfl⟩ := hP
    refine go_if_eqB (tgt := 24) dX12_wall_11 (by decide) (fun c_11 => ?_) (fun c_11 => ?_)
    · refine go_bipush (v := Int32.ofInt (-2)) dX12_wall_24 (by decide) ?_
      refine go_retI rfl rfl ?_ dX12_wall_26
      exact ⟨rj_vi (by unfold sp_walF; (repeat' split) <;> omega), r, ⟨by unfold sp_walS; rw [if_neg (by omega)]; exact (show r 1 = s from hs), (show r 2 = (r 2) from rfl), (show r 3 0 = (r 3 0) from rfl), (show r 17 = (r 17) from rfl), (show r 18 0 = (r 18 0) from rfl)⟩, rfl⟩
    · refine go_iload_n dX12_wall_14 rfl 3 rfl ?_
      refine go_iconst (v := Int32.ofInt 1) dX12_wall_15 rfl ?_
      refine go_bipush (v := Int32.ofInt 40) dX12_wall_16 (by decide) ?_
      refine go_callS (d1 := d - 1) wSX12_47 rfl (by omega) (m_in (v := h) (lo := 1) (hi := 40) (by omega) (by omega) (by omega)) rfl (Nat.le_of_ble_eq_true rfl) dX12_wall_18 (fun w σ1 hP => ?_)
      obtain ⟨rfl, rfl⟩ := hP
      refine go_if_neB (tgt := 27) dX12_wall_21 (by decide) (fun c_21 => ?_) (fun c_21 => ?_)
      · refine go_aload_n dX12_wall_27 rfl 0 rfl ?_
        refine grm_g1 rfl dX12_wall_28 ?_
        refine go_iconst (v := Int32.ofInt 2) dX12_wall_31 rfl ?_
        refine grm_l1 (by omega) (by omega) dX12_wall_32 ?_
        rw [show r 1 = s from hs]
        refine go_bipush (v := Int32.ofInt 8) dX12_wall_33 (by decide) ?_
        refine go_icmp_neI (tgt := 41) (by omega) (by omega) dX12_wall_35 (by decide) (fun c_35 => ?_) (fun c_35 => ?_)
        · refine go_aload_n dX12_wall_41 rfl 0 rfl ?_
          refine grm_g1 rfl dX12_wall_42 ?_
          refine go_iconst (v := Int32.ofInt 2) dX12_wall_45 rfl ?_
          refine grm_l1 (by omega) (by omega) dX12_wall_46 ?_
          rw [show r 1 = s from hs]
          refine go_istoreS (lv' := [(0, .ref mb), (1, rj_i pt), (2, rj_i to), (3, rj_i h), (4, rj_i (s 2))]) (by decide) rfl dX12_wall_47 ?_
          refine go_aload_n dX12_wall_49 rfl 0 rfl ?_
          refine grm_g1 rfl dX12_wall_50 ?_
          refine go_sipush (v := Int32.ofInt 196) dX12_wall_53 (by decide) ?_
          refine go_iload dX12_wall_56 4 rfl ?_
          refine go_addI dX12_wall_58 ?_
          refine go_iload_n dX12_wall_59 rfl 1 rfl ?_
          refine go_bipush (v := Int32.ofInt 100) dX12_wall_60 (by decide) ?_
          refine go_divI (by omega) (by omega) dX12_wall_62 ?_
          refine grm_s1 (by omega) (by omega) dX12_wall_63 ?_
          obtain ⟨r1, e1⟩ : ∃ x_, x_ = (rm_u r 1 (rj_up (r 1) (196 + (s 2)) (pt / 100))) := ⟨_, rfl⟩
          rw [← e1]
          have q1_1 : r1 1 = (rj_up s (196 + (s 2)) (pt / 100)) := by rw [e1]; exact (show (rm_u r 1 (rj_up (r 1) (196 + (s 2)) (pt / 100))) 1 = (rj_up s (196 + (s 2)) (pt / 100)) from (congrArg (fun zz => rj_up zz (196 + (s 2)) (pt / 100)) (show r 1 = s from hs)))
          have q1_2 : r1 2 = (r 2) := by rw [e1]; exact (show (rm_u r 1 (rj_up (r 1) (196 + (s 2)) (pt / 100))) 2 = (r 2) from rfl)
          have q1_3 : r1 3 0 = (r 3 0) := by rw [e1]; exact (show (rm_u r 1 (rj_up (r 1) (196 + (s 2)) (pt / 100))) 3 0 = (r 3 0) from rfl)
          have q1_17 : r1 17 = (r 17) := by rw [e1]; exact (show (rm_u r 1 (rj_up (r 1) (196 + (s 2)) (pt / 100))) 17 = (r 17) from rfl)
          have q1_18 : r1 18 0 = (r 18 0) := by rw [e1]; exact (show (rm_u r 1 (rj_up (r 1) (196 + (s 2)) (pt / 100))) 18 0 = (r 18 0) from rfl)
          refine go_aload_n dX12_wall_64 rfl 0 rfl ?_
          refine grm_g1 rfl dX12_wall_65 ?_
          refine go_sipush (v := Int32.ofInt 204) dX12_wall_68 (by decide) ?_
          refine go_iload dX12_wall_71 4 rfl ?_
          refine go_addI dX12_wall_73 ?_
          refine go_iload_n dX12_wall_74 rfl 1 rfl ?_
          refine go_bipush (v := Int32.ofInt 100) dX12_wall_75 (by decide) ?_
          refine go_remI (by omega) (by omega) dX12_wall_77 ?_
          refine grm_s1 (by omega) (by omega) dX12_wall_78 ?_
          obtain ⟨r2, e2⟩ : ∃ x_, x_ = (rm_u r1 1 (rj_up (r1 1) (204 + (s 2)) (pt % 100))) := ⟨_, rfl⟩
          rw [← e2]
          have q2_1 : r2 1 = (rj_up (rj_up s (196 + (s 2)) (pt / 100)) (204 + (s 2)) (pt % 100)) := by rw [e2]; exact (show (rm_u r1 1 (rj_up (r1 1) (204 + (s 2)) (pt % 100))) 1 = (rj_up (rj_up s (196 + (s 2)) (pt / 100)) (204 + (s 2)) (pt % 100)) from (congrArg (fun zz => rj_up zz (204 + (s 2)) (pt % 100)) (show r1 1 = (rj_up s (196 + (s 2)) (pt / 100)) from q1_1)))
          have q2_2 : r2 2 = (r 2) := by rw [e2]; exact (show (rm_u r1 1 (rj_up (r1 1) (204 + (s 2)) (pt % 100))) 2 = (r 2) from q1_2)
          have q2_3 : r2 3 0 = (r 3 0) := by rw [e2]; exact (show (rm_u r1 1 (rj_up (r1 1) (204 + (s 2)) (pt % 100))) 3 0 = (r 3 0) from q1_3)
          have q2_17 : r2 17 = (r 17) := by rw [e2]; exact (show (rm_u r1 1 (rj_up (r1 1) (204 + (s 2)) (pt % 100))) 17 = (r 17) from q1_17)
          have q2_18 : r2 18 0 = (r 18 0) := by rw [e2]; exact (show (rm_u r1 1 (rj_up (r1 1) (204 + (s 2)) (pt % 100))) 18 0 = (r 18 0) from q1_18)
          refine go_aload_n dX12_wall_79 rfl 0 rfl ?_
          refine grm_g1 rfl dX12_wall_80 ?_
          refine go_sipush (v := Int32.ofInt 212) dX12_wall_83 (by decide) ?_
          refine go_iload dX12_wall_86 4 rfl ?_
          refine go_addI dX12_wall_88 ?_
          refine go_iload_n dX12_wall_89 rfl 2 rfl ?_
          refine go_bipush (v := Int32.ofInt 100) dX12_wall_90 (by decide) ?_
          refine go_divI (by omega) (by omega) dX12_wall_92 ?_
          refine grm_s1 (by omega) (by omega) dX12_wall_93 ?_
          obtain ⟨r3, e3⟩ : ∃ x_, x_ = (rm_u r2 1 (rj_up (r2 1) (212 + (s 2)) (to / 100))) := ⟨_, rfl⟩
          rw [← e3]
          have q3_1 : r3 1 = (rj_up (rj_up (rj_up s (196 + (s 2)) (pt / 100)) (204 + (s 2)) (pt % 100)) (212 + (s 2)) (to / 100)) := by rw [e3]; exact (show (rm_u r2 1 (rj_up (r2 1) (212 + (s 2)) (to / 100))) 1 = (rj_up (rj_up (rj_up s (196 + (s 2)) (pt / 100)) (204 + (s 2)) (pt % 100)) (212 + (s 2)) (to / 100)) from (congrArg (fun zz => rj_up zz (212 + (s 2)) (to / 100)) (show r2 1 = (rj_up (rj_up s (196 + (s 2)) (pt / 100)) (204 + (s 2)) (pt % 100)) from q2_1)))
          have q3_2 : r3 2 = (r 2) := by rw [e3]; exact (show (rm_u r2 1 (rj_up (r2 1) (212 + (s 2)) (to / 100))) 2 = (r 2) from q2_2)
          have q3_3 : r3 3 0 = (r 3 0) := by rw [e3]; exact (show (rm_u r2 1 (rj_up (r2 1) (212 + (s 2)) (to / 100))) 3 0 = (r 3 0) from q2_3)
          have q3_17 : r3 17 = (r 17) := by rw [e3]; exact (show (rm_u r2 1 (rj_up (r2 1) (212 + (s 2)) (to / 100))) 17 = (r 17) from q2_17)
          have q3_18 : r3 18 0 = (r 18 0) := by rw [e3]; exact (show (rm_u r2 1 (rj_up (r2 1) (212 + (s 2)) (to / 100))) 18 0 = (r 18 0) from q2_18)
          refine go_aload_n dX12_wall_94 rfl 0 rfl ?_
          refine grm_g1 rfl dX12_wall_95 ?_
          refine go_sipush (v := Int32.ofInt 220) dX12_wall_98 (by decide) ?_
          refine go_iload dX12_wall_101 4 rfl ?_
          refine go_addI dX12_wall_103 ?_
          refine go_iload_n dX12_wall_104 rfl 2 rfl ?_
          refine go_bipush (v := Int32.ofInt 100) dX12_wall_105 (by decide) ?_
          refine go_remI (by omega) (by omega) dX12_wall_107 ?_
          refine grm_s1 (by omega) (by omega) dX12_wall_108 ?_
          obtain ⟨r4, e4⟩ : ∃ x_, x_ = (rm_u r3 1 (rj_up (r3 1) (220 + (s 2)) (to % 100))) := ⟨_, rfl⟩
          rw [← e4]
          have q4_1 : r4 1 = (rj_up (rj_up (rj_up (rj_up s (196 + (s 2)) (pt / 100)) (204 + (s 2)) (pt % 100)) (212 + (s 2)) (to / 100)) (220 + (s 2)) (to % 100)) := by rw [e4]; exact (show (rm_u r3 1 (rj_up (r3 1) (220 + (s 2)) (to % 100))) 1 = (rj_up (rj_up (rj_up (rj_up s (196 + (s 2)) (pt / 100)) (204 + (s 2)) (pt % 100)) (212 + (s 2)) (to / 100)) (220 + (s 2)) (to % 100)) from (congrArg (fun zz => rj_up zz (220 + (s 2)) (to % 100)) (show r3 1 = (rj_up (rj_up (rj_up s (196 + (s 2)) (pt / 100)) (204 + (s 2)) (pt % 100)) (212 + (s 2)) (to / 100)) from q3_1)))
          have q4_2 : r4 2 = (r 2) := by rw [e4]; exact (show (rm_u r3 1 (rj_up (r3 1) (220 + (s 2)) (to % 100))) 2 = (r 2) from q3_2)
          have q4_3 : r4 3 0 = (r 3 0) := by rw [e4]; exact (show (rm_u r3 1 (rj_up (r3 1) (220 + (s 2)) (to % 100))) 3 0 = (r 3 0) from q3_3)
          have q4_17 : r4 17 = (r 17) := by rw [e4]; exact (show (rm_u r3 1 (rj_up (r3 1) (220 + (s 2)) (to % 100))) 17 = (r 17) from q3_17)
          have q4_18 : r4 18 0 = (r 18 0) := by rw [e4]; exact (show (rm_u r3 1 (rj_up (r3 1) (220 + (s 2)) (to % 100))) 18 0 = (r 18 0) from q3_18)
          refine go_aload_n dX12_wall_109 rfl 0 rfl ?_
          refine grm_g1 rfl dX12_wall_110 ?_
          refine go_sipush (v := Int32.ofInt 228) dX12_wall_113 (by decide) ?_
          refine go_iload dX12_wall_116 4 rfl ?_
          refine go_addI dX12_wall_118 ?_
          refine go_iload_n dX12_wall_119 rfl 3 rfl ?_
          refine grm_s1 (by omega) (by omega) dX12_wall_120 ?_
          obtain ⟨r5, e5⟩ : ∃ x_, x_ = (rm_u r4 1 (rj_up (r4 1) (228 + (s 2)) h)) := ⟨_, rfl⟩
          rw [← e5]
          have q5_1 : r5 1 = (rj_up (rj_up (rj_up (rj_up (rj_up s (196 + (s 2)) (pt / 100)) (204 + (s 2)) (pt % 100)) (212 + (s 2)) (to / 100)) (220 + (s 2)) (to % 100)) (228 + (s 2)) h) := by rw [e5]; exact (show (rm_u r4 1 (rj_up (r4 1) (228 + (s 2)) h)) 1 = (rj_up (rj_up (rj_up (rj_up (rj_up s (196 + (s 2)) (pt / 100)) (204 + (s 2)) (pt % 100)) (212 + (s 2)) (to / 100)) (220 + (s 2)) (to % 100)) (228 + (s 2)) h) from (congrArg (fun zz => rj_up zz (228 + (s 2)) h) (show r4 1 = (rj_up (rj_up (rj_up (rj_up s (196 + (s 2)) (pt / 100)) (204 + (s 2)) (pt % 100)) (212 + (s 2)) (to / 100)) (220 + (s 2)) (to % 100)) from q4_1)))
          have q5_2 : r5 2 = (r 2) := by rw [e5]; exact (show (rm_u r4 1 (rj_up (r4 1) (228 + (s 2)) h)) 2 = (r 2) from q4_2)
          have q5_3 : r5 3 0 = (r 3 0) := by rw [e5]; exact (show (rm_u r4 1 (rj_up (r4 1) (228 + (s 2)) h)) 3 0 = (r 3 0) from q4_3)
          have q5_17 : r5 17 = (r 17) := by rw [e5]; exact (show (rm_u r4 1 (rj_up (r4 1) (228 + (s 2)) h)) 17 = (r 17) from q4_17)
          have q5_18 : r5 18 0 = (r 18 0) := by rw [e5]; exact (show (rm_u r4 1 (rj_up (r4 1) (228 + (s 2)) h)) 18 0 = (r 18 0) from q4_18)
          refine go_aload_n dX12_wall_121 rfl 0 rfl ?_
          refine grm_g1 rfl dX12_wall_122 ?_
          refine go_iconst (v := Int32.ofInt 2) dX12_wall_125 rfl ?_
          refine go_dup2_11 dX12_wall_126 rfl rfl ?_
          refine grm_l1 (by omega) (by omega) dX12_wall_127 ?_
          rw [show r5 1 = (rj_up (rj_up (rj_up (rj_up (rj_up s (196 + (s 2)) (pt / 100)) (204 + (s 2)) (pt % 100)) (212 + (s 2)) (to / 100)) (220 + (s 2)) (to % 100)) (228 + (s 2)) h) from q5_1]
          rw [show (rj_up (rj_up (rj_up (rj_up (rj_up s (196 + (s 2)) (pt / 100)) (204 + (s 2)) (pt % 100)) (212 + (s 2)) (to / 100)) (220 + (s 2)) (to % 100)) (228 + (s 2)) h) 2 = s 2 from by rw [rj_up_ne _ _ (by omega), rj_up_ne _ _ (by omega), rj_up_ne _ _ (by omega), rj_up_ne _ _ (by omega), rj_up_ne _ _ (by omega)]]
          refine go_iconst (v := Int32.ofInt 1) dX12_wall_128 rfl ?_
          refine go_addI dX12_wall_129 ?_
          refine grm_s1 (by omega) (by omega) dX12_wall_130 ?_
          obtain ⟨r6, e6⟩ : ∃ x_, x_ = (rm_u r5 1 (rj_up (r5 1) 2 ((s 2) + 1))) := ⟨_, rfl⟩
          rw [← e6]
          have q6_1 : r6 1 = (rj_up (rj_up (rj_up (rj_up (rj_up (rj_up s (196 + (s 2)) (pt / 100)) (204 + (s 2)) (pt % 100)) (212 + (s 2)) (to / 100)) (220 + (s 2)) (to % 100)) (228 + (s 2)) h) 2 ((s 2) + 1)) := by rw [e6]; exact (show (rm_u r5 1 (rj_up (r5 1) 2 ((s 2) + 1))) 1 = (rj_up (rj_up (rj_up (rj_up (rj_up (rj_up s (196 + (s 2)) (pt / 100)) (204 + (s 2)) (pt % 100)) (212 + (s 2)) (to / 100)) (220 + (s 2)) (to % 100)) (228 + (s 2)) h) 2 ((s 2) + 1)) from (congrArg (fun zz => rj_up zz 2 ((s 2) + 1)) (show r5 1 = (rj_up (rj_up (rj_up (rj_up (rj_up s (196 + (s 2)) (pt / 100)) (204 + (s 2)) (pt % 100)) (212 + (s 2)) (to / 100)) (220 + (s 2)) (to % 100)) (228 + (s 2)) h) from q5_1)))
          have q6_2 : r6 2 = (r 2) := by rw [e6]; exact (show (rm_u r5 1 (rj_up (r5 1) 2 ((s 2) + 1))) 2 = (r 2) from q5_2)
          have q6_3 : r6 3 0 = (r 3 0) := by rw [e6]; exact (show (rm_u r5 1 (rj_up (r5 1) 2 ((s 2) + 1))) 3 0 = (r 3 0) from q5_3)
          have q6_17 : r6 17 = (r 17) := by rw [e6]; exact (show (rm_u r5 1 (rj_up (r5 1) 2 ((s 2) + 1))) 17 = (r 17) from q5_17)
          have q6_18 : r6 18 0 = (r 18 0) := by rw [e6]; exact (show (rm_u r5 1 (rj_up (r5 1) 2 ((s 2) + 1))) 18 0 = (r 18 0) from q5_18)
          refine go_iload dX12_wall_131 4 rfl ?_
          refine go_retI rfl rfl ?_ dX12_wall_133
          exact ⟨rj_vi (by unfold sp_walF; (repeat' split) <;> omega), r6, ⟨by unfold sp_walS; rw [if_pos (by omega)]; exact (show r6 1 = (rj_up (rj_up (rj_up (rj_up (rj_up (rj_up s (196 + (s 2)) (pt / 100)) (204 + (s 2)) (pt % 100)) (212 + (s 2)) (to / 100)) (220 + (s 2)) (to % 100)) (228 + (s 2)) h) 2 ((s 2) + 1)) from q6_1), (show r6 2 = (r 2) from q6_2), (show r6 3 0 = (r 3 0) from q6_3), (show r6 17 = (r 17) from q6_17), (show r6 18 0 = (r 18 0) from q6_18)⟩, rfl⟩
        · refine go_bipush (v := Int32.ofInt (-4)) dX12_wall_38 (by decide) ?_
          refine go_retI rfl rfl ?_ dX12_wall_40
          exact ⟨rj_vi (by unfold sp_walF; (repeat' split) <;> omega), r, ⟨by unfold sp_walS; rw [if_neg (by omega)]; exact (show r 1 = s from hs), (show r 2 = (r 2) from rfl), (show r 3 0 = (r 3 0) from rfl), (show r 17 = (r 17) from rfl), (show r 18 0 = (r 18 0) from rfl)⟩, rfl⟩
      · refine go_bipush (v := Int32.ofInt (-2)) dX12_wall_24 (by decide) ?_
        refine go_retI rfl rfl ?_ dX12_wall_26
        exact ⟨rj_vi (by unfold sp_walF; (repeat' split) <;> omega), r, ⟨by unfold sp_walS; rw [if_neg (by omega)]; exact (show r 1 = s from hs), (show r 2 = (r 2) from rfl), (show r 3 0 = (r 3 0) from rfl), (show r 17 = (r 17) from rfl), (show r 18 0 = (r 18 0) from rfl)⟩, rfl⟩
set_option maxRecDepth 20000 in
/-- m_clear -/
theorem m_clear {X9 : rj_X} {σ : rj_H} {d : Nat} {mb : Nat} {r : rm_R} {s : Int → Int} (hs : r 1 = s) (hI : sp_I s) : rj_Cl X9 d yX12_clear cX12_clear 2 (some .int) [.ref mb] (rm_p X9 mb r σ) (fun w9 τ => w9 = some (rj_i (s 5)) ∧ ∃ r0, rm_V r r0 (rj_up s 5 0) ∧ τ = rm_p X9 mb r0 σ) := by
  obtain ⟨⟨h0, h1, h2, h3, h4, h5, h6, h7⟩, hM, hP, hW, hL, hV⟩ := id hI
  obtain ⟨v1, v2, v3, v4⟩ := id hV
  refine go_call (by decide +kernel) (Nat.le_of_ble_eq_true rfl) ?_
  refine go_eq (pc' := 0) (lv' := [(0, .ref mb)]) (st' := []) rfl rfl rfl rfl ?_
  refine go_aload_n dX12_clear_0 rfl 0 rfl ?_
  refine grm_g1 rfl dX12_clear_1 ?_
  refine go_iconst (v := Int32.ofInt 5) dX12_clear_4 rfl ?_
  refine grm_l1 (by omega) (by omega) dX12_clear_5 ?_
  rw [show r 1 = s from hs]
  refine go_istore_nS (lv' := [(0, .ref mb), (1, rj_i (s 5))]) rfl (by decide) rfl dX12_clear_6 ?_
  refine go_aload_n dX12_clear_7 rfl 0 rfl ?_
  refine grm_g1 rfl dX12_clear_8 ?_
  refine go_iconst (v := Int32.ofInt 5) dX12_clear_11 rfl ?_
  refine go_iconst (v := Int32.ofInt 0) dX12_clear_12 rfl ?_
  refine grm_s1 (by omega) (by omega) dX12_clear_13 ?_
  obtain ⟨r1, e1⟩ : ∃ x_, x_ = (rm_u r 1 (rj_up (r 1) 5 0)) := ⟨_, rfl⟩
  rw [← e1]
  have q1_1 : r1 1 = (rj_up s 5 0) := by rw [e1]; exact (show (rm_u r 1 (rj_up (r 1) 5 0)) 1 = (rj_up s 5 0) from (congrArg (fun zz => rj_up zz 5 0) (show r 1 = s from hs)))
  have q1_2 : r1 2 = (r 2) := by rw [e1]; exact (show (rm_u r 1 (rj_up (r 1) 5 0)) 2 = (r 2) from rfl)
  have q1_3 : r1 3 0 = (r 3 0) := by rw [e1]; exact (show (rm_u r 1 (rj_up (r 1) 5 0)) 3 0 = (r 3 0) from rfl)
  have q1_17 : r1 17 = (r 17) := by rw [e1]; exact (show (rm_u r 1 (rj_up (r 1) 5 0)) 17 = (r 17) from rfl)
  have q1_18 : r1 18 0 = (r 18 0) := by rw [e1]; exact (show (rm_u r 1 (rj_up (r 1) 5 0)) 18 0 = (r 18 0) from rfl)
  refine go_iload_n dX12_clear_14 rfl 1 rfl ?_
  refine go_retI rfl rfl ?_ dX12_clear_15
  exact ⟨rfl, r1, ⟨(show r1 1 = (rj_up s 5 0) from q1_1), (show r1 2 = (r 2) from q1_2), (show r1 3 0 = (r 3 0) from q1_3), (show r1 17 = (r 17) from q1_17), (show r1 18 0 = (r 18 0) from q1_18)⟩, rfl⟩
def sp_countF (s : Int → Int) (ran w : Int) : Int := if w = 7 then ran else if 0 ≤ w ∧ w ≤ 6 then s w else -1
set_option maxRecDepth 20000 in
/-- m_count -/
theorem m_count {X9 : rj_X} {σ : rj_H} {d : Nat} {mb : Nat} {r : rm_R} {w : Int} (hw : -2147483648 ≤ w ∧ w < 2147483648) {s : Int → Int} (hs : r 1 = s) (hI : sp_I s) : rj_Cl X9 d yX12_count cX12_count 2 (some .int) [.ref mb, rj_i w] (rm_p X9 mb r σ) (fun w9 τ => w9 = some (rj_i (sp_countF s (r 18 0) w)) ∧ ∃ r0, rm_V r r0 s ∧ τ = rm_p X9 mb r0 σ) := by
  obtain ⟨⟨h0, h1, h2, h3, h4, h5, h6, h7⟩, hM, hP, hW, hL, hV⟩ := id hI
  obtain ⟨v1, v2, v3, v4⟩ := id hV
  refine go_call (by decide +kernel) (Nat.le_of_ble_eq_true rfl) ?_
  refine go_eq (pc' := 0) (lv' := [(0, .ref mb), (1, rj_i w)]) (st' := []) rfl rfl rfl rfl ?_
  refine go_iload_n dX12_count_0 rfl 1 rfl ?_
  rcases (show w = 0 ∨ w = 1 ∨ w = 2 ∨ w = 3 ∨ w = 4 ∨ w = 5 ∨ w = 6 ∨ w = 7 ∨ (w < 0 ∨ 7 < w) by omega) with rfl | rfl | rfl | rfl | rfl | rfl | rfl | rfl | hw2
  · refine go_tableIn (off := 47) (tgt := 48) dX12_count_1 (by decide) (by decide) (by decide) (by decide) ?_
    refine go_aload_n dX12_count_48 rfl 0 rfl ?_
    refine grm_g1 rfl dX12_count_49 ?_
    refine go_iconst (v := Int32.ofInt 0) dX12_count_52 rfl ?_
    refine grm_l1 (by omega) (by omega) dX12_count_53 ?_
    rw [show r 1 = s from hs]
    refine go_retI rfl rfl ?_ dX12_count_54
    exact ⟨rj_vi (by unfold sp_countF; rw [if_neg (by omega), if_pos (by omega)]), r, ⟨(show r 1 = s from hs), (show r 2 = (r 2) from rfl), (show r 3 0 = (r 3 0) from rfl), (show r 17 = (r 17) from rfl), (show r 18 0 = (r 18 0) from rfl)⟩, rfl⟩
  · refine go_tableIn (off := 54) (tgt := 55) dX12_count_1 (by decide) (by decide) (by decide) (by decide) ?_
    refine go_aload_n dX12_count_55 rfl 0 rfl ?_
    refine grm_g1 rfl dX12_count_56 ?_
    refine go_iconst (v := Int32.ofInt 1) dX12_count_59 rfl ?_
    refine grm_l1 (by omega) (by omega) dX12_count_60 ?_
    rw [show r 1 = s from hs]
    refine go_retI rfl rfl ?_ dX12_count_61
    exact ⟨rj_vi (by unfold sp_countF; rw [if_neg (by omega), if_pos (by omega)]), r, ⟨(show r 1 = s from hs), (show r 2 = (r 2) from rfl), (show r 3 0 = (r 3 0) from rfl), (show r 17 = (r 17) from rfl), (show r 18 0 = (r 18 0) from rfl)⟩, rfl⟩
  · refine go_tableIn (off := 61) (tgt := 62) dX12_count_1 (by decide) (by decide) (by decide) (by decide) ?_
    refine go_aload_n dX12_count_62 rfl 0 rfl ?_
    refine grm_g1 rfl dX12_count_63 ?_
    refine go_iconst (v := Int32.ofInt 2) dX12_count_66 rfl ?_
    refine grm_l1 (by omega) (by omega) dX12_count_67 ?_
    rw [show r 1 = s from hs]
    refine go_retI rfl rfl ?_ dX12_count_68
    exact ⟨rj_vi (by unfold sp_countF; rw [if_neg (by omega), if_pos (by omega)]), r, ⟨(show r 1 = s from hs), (show r 2 = (r 2) from rfl), (show r 3 0 = (r 3 0) from rfl), (show r 17 = (r 17) from rfl), (show r 18 0 = (r 18 0) from rfl)⟩, rfl⟩
  · refine go_tableIn (off := 68) (tgt := 69) dX12_count_1 (by decide) (by decide) (by decide) (by decide) ?_
    refine go_aload_n dX12_count_69 rfl 0 rfl ?_
    refine grm_g1 rfl dX12_count_70 ?_
    refine go_iconst (v := Int32.ofInt 3) dX12_count_73 rfl ?_
    refine grm_l1 (by omega) (by omega) dX12_count_74 ?_
    rw [show r 1 = s from hs]
    refine go_retI rfl rfl ?_ dX12_count_75
    exact ⟨rj_vi (by unfold sp_countF; rw [if_neg (by omega), if_pos (by omega)]), r, ⟨(show r 1 = s from hs), (show r 2 = (r 2) from rfl), (show r 3 0 = (r 3 0) from rfl), (show r 17 = (r 17) from rfl), (show r 18 0 = (r 18 0) from rfl)⟩, rfl⟩
  · refine go_tableIn (off := 75) (tgt := 76) dX12_count_1 (by decide) (by decide) (by decide) (by decide) ?_
    refine go_aload_n dX12_count_76 rfl 0 rfl ?_
    refine grm_g1 rfl dX12_count_77 ?_
    refine go_iconst (v := Int32.ofInt 4) dX12_count_80 rfl ?_
    refine grm_l1 (by omega) (by omega) dX12_count_81 ?_
    rw [show r 1 = s from hs]
    refine go_retI rfl rfl ?_ dX12_count_82
    exact ⟨rj_vi (by unfold sp_countF; rw [if_neg (by omega), if_pos (by omega)]), r, ⟨(show r 1 = s from hs), (show r 2 = (r 2) from rfl), (show r 3 0 = (r 3 0) from rfl), (show r 17 = (r 17) from rfl), (show r 18 0 = (r 18 0) from rfl)⟩, rfl⟩
  · refine go_tableIn (off := 82) (tgt := 83) dX12_count_1 (by decide) (by decide) (by decide) (by decide) ?_
    refine go_aload_n dX12_count_83 rfl 0 rfl ?_
    refine grm_g1 rfl dX12_count_84 ?_
    refine go_iconst (v := Int32.ofInt 5) dX12_count_87 rfl ?_
    refine grm_l1 (by omega) (by omega) dX12_count_88 ?_
    rw [show r 1 = s from hs]
    refine go_retI rfl rfl ?_ dX12_count_89
    exact ⟨rj_vi (by unfold sp_countF; rw [if_neg (by omega), if_pos (by omega)]), r, ⟨(show r 1 = s from hs), (show r 2 = (r 2) from rfl), (show r 3 0 = (r 3 0) from rfl), (show r 17 = (r 17) from rfl), (show r 18 0 = (r 18 0) from rfl)⟩, rfl⟩
  · refine go_tableIn (off := 89) (tgt := 90) dX12_count_1 (by decide) (by decide) (by decide) (by decide) ?_
    refine go_aload_n dX12_count_90 rfl 0 rfl ?_
    refine grm_g1 rfl dX12_count_91 ?_
    refine go_bipush (v := Int32.ofInt 6) dX12_count_94 (by decide) ?_
    refine grm_l1 (by omega) (by omega) dX12_count_96 ?_
    rw [show r 1 = s from hs]
    refine go_retI rfl rfl ?_ dX12_count_97
    exact ⟨rj_vi (by unfold sp_countF; rw [if_neg (by omega), if_pos (by omega)]), r, ⟨(show r 1 = s from hs), (show r 2 = (r 2) from rfl), (show r 3 0 = (r 3 0) from rfl), (show r 17 = (r 17) from rfl), (show r 18 0 = (r 18 0) from rfl)⟩, rfl⟩
  · refine go_tableIn (off := 97) (tgt := 98) dX12_count_1 (by decide) (by decide) (by decide) (by decide) ?_
    refine go_aload_n dX12_count_98 rfl 0 rfl ?_
    refine grm_g18 rfl dX12_count_99 ?_
    rw [show r 18 0 = (r 18 0) from rfl]
    refine go_retI rfl rfl ?_ dX12_count_102
    exact ⟨rj_vi (by unfold sp_countF; rw [if_pos rfl]), r, ⟨(show r 1 = s from hs), (show r 2 = (r 2) from rfl), (show r 3 0 = (r 3 0) from rfl), (show r 17 = (r 17) from rfl), (show r 18 0 = (r 18 0) from rfl)⟩, rfl⟩
  · refine go_tableOut (tgt := 103) dX12_count_1 (by rw [rj_ti (by omega) (by omega)]; exact hw2) (by decide) ?_
    refine go_iconst (v := Int32.ofInt (-1)) dX12_count_103 rfl ?_
    refine go_retI rfl rfl ?_ dX12_count_104
    exact ⟨rj_vi (by unfold sp_countF; rw [if_neg (by omega), if_neg (by omega)]), r, ⟨(show r 1 = s from hs), (show r 2 = (r 2) from rfl), (show r 3 0 = (r 3 0) from rfl), (show r 17 = (r 17) from rfl), (show r 18 0 = (r 18 0) from rfl)⟩, rfl⟩
def sp_traceF (b : Int → Int) (ran i : Int) : Int := if 0 ≤ i ∧ i < ran ∧ i < 20 then b i else -1
set_option maxRecDepth 20000 in
/-- m_trace -/
theorem m_trace {X9 : rj_X} {σ : rj_H} {d : Nat} {mb : Nat} {r : rm_R} {i : Int} (hd : 1 ≤ d) (hi : -2147483648 ≤ i ∧ i < 2147483648) {s : Int → Int} (hs : r 1 = s) (hI : sp_I s) (hran : 0 ≤ r 18 0 ∧ r 18 0 ≤ 1000) : rj_Cl X9 d yX12_trace cX12_trace 2 (some .int) [.ref mb, rj_i i] (rm_p X9 mb r σ) (fun w9 τ => w9 = some (rj_i (sp_traceF (r 17) (r 18 0) i)) ∧ ∃ r0, rm_V r r0 s ∧ τ = rm_p X9 mb r0 σ) := by
  obtain ⟨⟨h0, h1, h2, h3, h4, h5, h6, h7⟩, hM, hP, hW, hL, hV⟩ := id hI
  obtain ⟨v1, v2, v3, v4⟩ := id hV
  refine go_call (by decide +kernel) (Nat.le_of_ble_eq_true rfl) ?_
  refine go_eq (pc' := 0) (lv' := [(0, .ref mb), (1, rj_i i)]) (st' := []) rfl rfl rfl rfl ?_
  refine go_iload_n dX12_trace_0 rfl 1 rfl ?_
  refine go_iconst (v := Int32.ofInt 0) dX12_trace_1 rfl ?_
  refine go_aload_n dX12_trace_2 rfl 0 rfl ?_
  refine grm_g18 rfl dX12_trace_3 ?_
  rw [show r 18 0 = (r 18 0) from rfl]
  refine go_bipush (v := Int32.ofInt 20) dX12_trace_6 (by decide) ?_
  refine go_icmp_geI (tgt := 18) (by omega) (by omega) dX12_trace_8 (by decide) (fun c_8 => ?_) (fun c_8 => ?_)
  · refine go_bipush (v := Int32.ofInt 20) dX12_trace_18 (by decide) ?_
    refine go_iconst (v := Int32.ofInt 1) dX12_trace_20 rfl ?_
    refine go_subI dX12_trace_21 ?_
    refine go_callS (d1 := d - 1) wSX12_47 rfl (by omega) (m_in (v := i) (lo := 0) (hi := 20 - 1) (by omega) (by omega) (by omega)) rfl (Nat.le_of_ble_eq_true rfl) dX12_trace_22 (fun w σ1 hP => ?_)
    obtain ⟨rfl, rfl⟩ := hP
    refine go_if_eqB (tgt := 37) dX12_trace_25 (by decide) (fun c_25 => ?_) (fun c_25 => ?_)
    · refine go_iconst (v := Int32.ofInt (-1)) dX12_trace_37 rfl ?_
      refine go_retI rfl rfl ?_ dX12_trace_38
      exact ⟨rj_vi (by unfold sp_traceF; rw [if_neg (by omega)]), r, ⟨(show r 1 = s from hs), (show r 2 = (r 2) from rfl), (show r 3 0 = (r 3 0) from rfl), (show r 17 = (r 17) from rfl), (show r 18 0 = (r 18 0) from rfl)⟩, rfl⟩
    · refine go_aload_n dX12_trace_28 rfl 0 rfl ?_
      refine grm_g17 rfl dX12_trace_29 ?_
      refine go_iload_n dX12_trace_32 rfl 1 rfl ?_
      refine grm_l17 (by omega) (by omega) dX12_trace_33 ?_
      rw [show r 17 = (r 17) from rfl]
      refine go_goto (tgt := 38) dX12_trace_34 (by decide) ?_
      refine go_retI rfl rfl ?_ dX12_trace_38
      exact ⟨rj_vi (by unfold sp_traceF; rw [if_pos (by omega)]), r, ⟨(show r 1 = s from hs), (show r 2 = (r 2) from rfl), (show r 3 0 = (r 3 0) from rfl), (show r 17 = (r 17) from rfl), (show r 18 0 = (r 18 0) from rfl)⟩, rfl⟩
  · refine go_aload_n dX12_trace_11 rfl 0 rfl ?_
    refine grm_g18 rfl dX12_trace_12 ?_
    rw [show r 18 0 = (r 18 0) from rfl]
    refine go_goto (tgt := 20) dX12_trace_15 (by decide) ?_
    refine go_iconst (v := Int32.ofInt 1) dX12_trace_20 rfl ?_
    refine go_subI dX12_trace_21 ?_
    refine go_callS (d1 := d - 1) wSX12_47 rfl (by omega) (m_in (v := i) (lo := 0) (hi := (r 18 0) - 1) (by omega) (by omega) (by omega)) rfl (Nat.le_of_ble_eq_true rfl) dX12_trace_22 (fun w σ1 hP => ?_)
    obtain ⟨rfl, rfl⟩ := hP
    refine go_if_eqB (tgt := 37) dX12_trace_25 (by decide) (fun c_25 => ?_) (fun c_25 => ?_)
    · refine go_iconst (v := Int32.ofInt (-1)) dX12_trace_37 rfl ?_
      refine go_retI rfl rfl ?_ dX12_trace_38
      exact ⟨rj_vi (by unfold sp_traceF; rw [if_neg (by omega)]), r, ⟨(show r 1 = s from hs), (show r 2 = (r 2) from rfl), (show r 3 0 = (r 3 0) from rfl), (show r 17 = (r 17) from rfl), (show r 18 0 = (r 18 0) from rfl)⟩, rfl⟩
    · refine go_aload_n dX12_trace_28 rfl 0 rfl ?_
      refine grm_g17 rfl dX12_trace_29 ?_
      refine go_iload_n dX12_trace_32 rfl 1 rfl ?_
      refine grm_l17 (by omega) (by omega) dX12_trace_33 ?_
      rw [show r 17 = (r 17) from rfl]
      refine go_goto (tgt := 38) dX12_trace_34 (by decide) ?_
      refine go_retI rfl rfl ?_ dX12_trace_38
      exact ⟨rj_vi (by unfold sp_traceF; rw [if_pos (by omega)]), r, ⟨(show r 1 = s from hs), (show r 2 = (r 2) from rfl), (show r 3 0 = (r 3 0) from rfl), (show r 17 = (r 17) from rfl), (show r 18 0 = (r 18 0) from rfl)⟩, rfl⟩
abbrev sp_und (kd k : Int) : Prop := k = 0 ∨ k = kd ∨ (k = 1 ∧ (kd = 3 ∨ kd = 4)) ∨ (k = 2 ∧ (kd = 5 ∨ kd = 6))
def sp_asF (s : Int → Int) (m k : Int) : Int := if (0 ≤ m ∧ m < s 0) ∧ 0 ≤ k ∧ k ≤ 6 then (if sp_und (s (130 + m)) k then s (166 + m) else -6) else -1
set_option maxRecDepth 20000 in
/-- m_isUnder -/
theorem m_isUnder {X9 : rj_X} {σ : rj_H} {d : Nat} {kd k : Int} (hkd : -2147483648 ≤ kd ∧ kd < 2147483648) (hk : -2147483648 ≤ k ∧ k < 2147483648) : rj_Cl X9 d yX12_isUnder cX12_isUnder 2 (some .boolean) [rj_i kd, rj_i k] σ (fun w9 τ => w9 = some (rj_i (rj_b (sp_und kd k))) ∧ τ = σ) := by
  refine go_call (by decide +kernel) (Nat.le_of_ble_eq_true rfl) ?_
  refine go_eq (pc' := 0) (lv' := [(0, rj_i kd), (1, rj_i k)]) (st' := []) rfl rfl rfl rfl ?_
  refine go_iload_n dX12_isUnder_0 rfl 1 rfl ?_
  refine go_if_eqI (tgt := 40) (by omega) dX12_isUnder_1 (by decide) (fun c_1 => ?_) (fun c_1 => ?_)
  · refine go_iconst (v := Int32.ofInt 1) dX12_isUnder_40 rfl ?_
    refine go_goto (tgt := 45) dX12_isUnder_41 (by decide) ?_
    refine go_retI rfl (rj_n01 (by decide)) ?_ dX12_isUnder_45
    exact ⟨rj_vi (rj_bt (by omega)).symm, rfl⟩
  · refine go_iload_n dX12_isUnder_4 rfl 1 rfl ?_
    refine go_iload_n dX12_isUnder_5 rfl 0 rfl ?_
    refine go_icmp_eqI (tgt := 40) (by omega) (by omega) dX12_isUnder_6 (by decide) (fun c_6 => ?_) (fun c_6 => ?_)
    · refine go_iconst (v := Int32.ofInt 1) dX12_isUnder_40 rfl ?_
      refine go_goto (tgt := 45) dX12_isUnder_41 (by decide) ?_
      refine go_retI rfl (rj_n01 (by decide)) ?_ dX12_isUnder_45
      exact ⟨rj_vi (rj_bt (by omega)).symm, rfl⟩
    · refine go_iload_n dX12_isUnder_9 rfl 1 rfl ?_
      refine go_iconst (v := Int32.ofInt 1) dX12_isUnder_10 rfl ?_
      refine go_icmp_neI (tgt := 24) (by omega) (by omega) dX12_isUnder_11 (by decide) (fun c_11 => ?_) (fun c_11 => ?_)
      · refine go_iload_n dX12_isUnder_24 rfl 1 rfl ?_
        refine go_iconst (v := Int32.ofInt 2) dX12_isUnder_25 rfl ?_
        refine go_icmp_neI (tgt := 44) (by omega) (by omega) dX12_isUnder_26 (by decide) (fun c_26 => ?_) (fun c_26 => ?_)
        · refine go_iconst (v := Int32.ofInt 0) dX12_isUnder_44 rfl ?_
          refine go_retI rfl (rj_n01 (by decide)) ?_ dX12_isUnder_45
          exact ⟨rj_vi (rj_bf (by omega)).symm, rfl⟩
        · refine go_iload_n dX12_isUnder_29 rfl 0 rfl ?_
          refine go_iconst (v := Int32.ofInt 5) dX12_isUnder_30 rfl ?_
          refine go_icmp_eqI (tgt := 40) (by omega) (by omega) dX12_isUnder_31 (by decide) (fun c_31 => ?_) (fun c_31 => ?_)
          · refine go_iconst (v := Int32.ofInt 1) dX12_isUnder_40 rfl ?_
            refine go_goto (tgt := 45) dX12_isUnder_41 (by decide) ?_
            refine go_retI rfl (rj_n01 (by decide)) ?_ dX12_isUnder_45
            exact ⟨rj_vi (rj_bt (by omega)).symm, rfl⟩
          · refine go_iload_n dX12_isUnder_34 rfl 0 rfl ?_
            refine go_bipush (v := Int32.ofInt 6) dX12_isUnder_35 (by decide) ?_
            refine go_icmp_neI (tgt := 44) (by omega) (by omega) dX12_isUnder_37 (by decide) (fun c_37 => ?_) (fun c_37 => ?_)
            · refine go_iconst (v := Int32.ofInt 0) dX12_isUnder_44 rfl ?_
              refine go_retI rfl (rj_n01 (by decide)) ?_ dX12_isUnder_45
              exact ⟨rj_vi (rj_bf (by omega)).symm, rfl⟩
            · refine go_iconst (v := Int32.ofInt 1) dX12_isUnder_40 rfl ?_
              refine go_goto (tgt := 45) dX12_isUnder_41 (by decide) ?_
              refine go_retI rfl (rj_n01 (by decide)) ?_ dX12_isUnder_45
              exact ⟨rj_vi (rj_bt (by omega)).symm, rfl⟩
      · refine go_iload_n dX12_isUnder_14 rfl 0 rfl ?_
        refine go_iconst (v := Int32.ofInt 3) dX12_isUnder_15 rfl ?_
        refine go_icmp_eqI (tgt := 40) (by omega) (by omega) dX12_isUnder_16 (by decide) (fun c_16 => ?_) (fun c_16 => ?_)
        · refine go_iconst (v := Int32.ofInt 1) dX12_isUnder_40 rfl ?_
          refine go_goto (tgt := 45) dX12_isUnder_41 (by decide) ?_
          refine go_retI rfl (rj_n01 (by decide)) ?_ dX12_isUnder_45
          exact ⟨rj_vi (rj_bt (by omega)).symm, rfl⟩
        · refine go_iload_n dX12_isUnder_19 rfl 0 rfl ?_
          refine go_iconst (v := Int32.ofInt 4) dX12_isUnder_20 rfl ?_
          refine go_icmp_eqI (tgt := 40) (by omega) (by omega) dX12_isUnder_21 (by decide) (fun c_21 => ?_) (fun c_21 => ?_)
          · refine go_iconst (v := Int32.ofInt 1) dX12_isUnder_40 rfl ?_
            refine go_goto (tgt := 45) dX12_isUnder_41 (by decide) ?_
            refine go_retI rfl (rj_n01 (by decide)) ?_ dX12_isUnder_45
            exact ⟨rj_vi (rj_bt (by omega)).symm, rfl⟩
          · refine go_iload_n dX12_isUnder_24 rfl 1 rfl ?_
            refine go_iconst (v := Int32.ofInt 2) dX12_isUnder_25 rfl ?_
            refine go_icmp_neI (tgt := 44) (by omega) (by omega) dX12_isUnder_26 (by decide) (fun c_26 => ?_) (fun c_26 => ?_)
            · refine go_iconst (v := Int32.ofInt 0) dX12_isUnder_44 rfl ?_
              refine go_retI rfl (rj_n01 (by decide)) ?_ dX12_isUnder_45
              exact ⟨rj_vi (rj_bf (by omega)).symm, rfl⟩
            · refine go_iload_n dX12_isUnder_29 rfl 0 rfl ?_
              refine go_iconst (v := Int32.ofInt 5) dX12_isUnder_30 rfl ?_
              refine go_icmp_eqI (tgt := 40) (by omega) (by omega) dX12_isUnder_31 (by decide) (fun c_31 => ?_) (fun c_31 => ?_)
              · refine go_iconst (v := Int32.ofInt 1) dX12_isUnder_40 rfl ?_
                refine go_goto (tgt := 45) dX12_isUnder_41 (by decide) ?_
                refine go_retI rfl (rj_n01 (by decide)) ?_ dX12_isUnder_45
                exact ⟨rj_vi (rj_bt (by omega)).symm, rfl⟩
              · refine go_iload_n dX12_isUnder_34 rfl 0 rfl ?_
                refine go_bipush (v := Int32.ofInt 6) dX12_isUnder_35 (by decide) ?_
                refine go_icmp_neI (tgt := 44) (by omega) (by omega) dX12_isUnder_37 (by decide) (fun c_37 => ?_) (fun c_37 => ?_)
                · refine go_iconst (v := Int32.ofInt 0) dX12_isUnder_44 rfl ?_
                  refine go_retI rfl (rj_n01 (by decide)) ?_ dX12_isUnder_45
                  exact ⟨rj_vi (rj_bf (by omega)).symm, rfl⟩
                · refine go_iconst (v := Int32.ofInt 1) dX12_isUnder_40 rfl ?_
                  refine go_goto (tgt := 45) dX12_isUnder_41 (by decide) ?_
                  refine go_retI rfl (rj_n01 (by decide)) ?_ dX12_isUnder_45
                  exact ⟨rj_vi (rj_bt (by omega)).symm, rfl⟩
set_option maxRecDepth 20000 in
/-- m_as -/
theorem m_as {X9 : rj_X} {σ : rj_H} {d : Nat} {mb : Nat} {r : rm_R} {m k : Int} (hd : 2 ≤ d) (hm : -2147483648 ≤ m ∧ m < 2147483648) (hk : -2147483648 ≤ k ∧ k < 2147483648) {s : Int → Int} (hs : r 1 = s) (hI : sp_I s) : rj_Cl X9 d yX12_as cX12_as 3 (some .int) [.ref mb, rj_i m, rj_i k] (rm_p X9 mb r σ) (fun w9 τ => w9 = some (rj_i (sp_asF s m k)) ∧ ∃ r0, rm_V r r0 s ∧ τ = rm_p X9 mb r0 σ) := by
  obtain ⟨⟨h0, h1, h2, h3, h4, h5, h6, h7⟩, hM, hP, hW, hL, hV⟩ := id hI
  obtain ⟨v1, v2, v3, v4⟩ := id hV
  refine go_call (by decide +kernel) (Nat.le_of_ble_eq_true rfl) ?_
  refine go_eq (pc' := 0) (lv' := [(0, .ref mb), (1, rj_i m), (2, rj_i k)]) (st' := []) rfl rfl rfl rfl ?_
  refine go_aload_n dX12_as_0 rfl 0 rfl ?_
  refine go_iload_n dX12_as_1 rfl 1 rfl ?_
  refine go_callV (d1 := d - 1) wVX12_56 kX12 rm_ob rfl (by omega) (m_isMirror (m := m) (by omega) (by omega) (hs := (show r 1 = s from hs)) (by omega)) rfl (Nat.le_of_ble_eq_true rfl) dX12_as_2 (fun w σ1 hP => ?_)
  obtain ⟨rfl, rfl⟩ := hP
  refine go_if_eqB (tgt := 18) dX12_as_5 (by decide) (fun c_5 => ?_) (fun c_5 => ?_)
  · refine go_iconst (v := Int32.ofInt (-1)) dX12_as_18 rfl ?_
    refine go_retI rfl rfl ?_ dX12_as_19
    exact ⟨rj_vi (by unfold sp_asF; rw [if_neg (by omega)]), r, ⟨(show r 1 = s from hs), (show r 2 = (r 2) from rfl), (show r 3 0 = (r 3 0) from rfl), (show r 17 = (r 17) from rfl), (show r 18 0 = (r 18 0) from rfl)⟩, rfl⟩
  · refine go_iload_n dX12_as_8 rfl 2 rfl ?_
    refine go_iconst (v := Int32.ofInt 0) dX12_as_9 rfl ?_
    refine go_bipush (v := Int32.ofInt 6) dX12_as_10 (by decide) ?_
    refine go_callS (d1 := d - 1) wSX12_47 rfl (by omega) (m_in (v := k) (lo := 0) (hi := 6) (by omega) (by omega) (by omega)) rfl (Nat.le_of_ble_eq_true rfl) dX12_as_12 (fun w σ1 hP => ?_)
    obtain ⟨rfl, rfl⟩ := hP
    refine go_if_neB (tgt := 20) dX12_as_15 (by decide) (fun c_15 => ?_) (fun c_15 => ?_)
    · obtain ⟨m1, m2, m3, m4, m5, m6, m7⟩ := hM m (by omega) (by omega)
      refine go_aload_n dX12_as_20 rfl 0 rfl ?_
      refine grm_g1 rfl dX12_as_21 ?_
      refine go_sipush (v := Int32.ofInt 130) dX12_as_24 (by decide) ?_
      refine go_iload_n dX12_as_27 rfl 1 rfl ?_
      refine go_addI dX12_as_28 ?_
      refine grm_l1 (by omega) (by omega) dX12_as_29 ?_
      rw [show r 1 = s from hs]
      refine go_iload_n dX12_as_30 rfl 2 rfl ?_
      refine go_callS (d1 := d - 1) wSX12_257 rfl (by omega) (m_isUnder (kd := s (130 + m)) (k := k) (by omega) (by omega)) rfl (Nat.le_of_ble_eq_true rfl) dX12_as_31 (fun w σ1 hP => ?_)
      obtain ⟨rfl, rfl⟩ := hP
      refine go_if_eqB (tgt := 50) dX12_as_34 (by decide) (fun c_34 => ?_) (fun c_34 => ?_)
      · refine go_bipush (v := Int32.ofInt (-6)) dX12_as_50 (by decide) ?_
        refine go_retI rfl rfl ?_ dX12_as_52
        exact ⟨rj_vi (by unfold sp_asF; rw [if_pos (by omega), if_neg c_34]), r, ⟨(show r 1 = s from hs), (show r 2 = (r 2) from rfl), (show r 3 0 = (r 3 0) from rfl), (show r 17 = (r 17) from rfl), (show r 18 0 = (r 18 0) from rfl)⟩, rfl⟩
      · refine go_aload_n dX12_as_37 rfl 0 rfl ?_
        refine grm_g1 rfl dX12_as_38 ?_
        refine go_sipush (v := Int32.ofInt 166) dX12_as_41 (by decide) ?_
        refine go_iload_n dX12_as_44 rfl 1 rfl ?_
        refine go_addI dX12_as_45 ?_
        refine grm_l1 (by omega) (by omega) dX12_as_46 ?_
        rw [show r 1 = s from hs]
        refine go_goto (tgt := 52) dX12_as_47 (by decide) ?_
        refine go_retI rfl rfl ?_ dX12_as_52
        exact ⟨rj_vi (by unfold sp_asF; rw [if_pos (by omega), if_pos c_34]), r, ⟨(show r 1 = s from hs), (show r 2 = (r 2) from rfl), (show r 3 0 = (r 3 0) from rfl), (show r 17 = (r 17) from rfl), (show r 18 0 = (r 18 0) from rfl)⟩, rfl⟩
    · refine go_iconst (v := Int32.ofInt (-1)) dX12_as_18 rfl ?_
      refine go_retI rfl rfl ?_ dX12_as_19
      exact ⟨rj_vi (by unfold sp_asF; rw [if_neg (by omega)]), r, ⟨(show r 1 = s from hs), (show r 2 = (r 2) from rfl), (show r 3 0 = (r 3 0) from rfl), (show r 17 = (r 17) from rfl), (show r 18 0 = (r 18 0) from rfl)⟩, rfl⟩
