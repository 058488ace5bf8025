/-! THE REFERENCE, 12: holds -/
def sp_best0 (s : Int → Int) : Int := sp_io s 0 (s 1).toNat 0
def sp_holdsF (s : Int → Int) (w : Int) : Int :=
  if ¬ ((0 ≤ w ∧ w ≤ 1) ∨ (10 ≤ w ∧ w ≤ 9 + s 1) ∨ (20 ≤ w ∧ w ≤ 19 + s 1)) then -1
  else if s 5 = 0 ∨ ¬ s 8 = s 1 then -3
  else if w = 0 then (if sp_ven s (sp_best0 s) = s 1 - 1 then sp_best0 s else -5)
  else if w = 1 then sp_ring s
  else if w < 20 then sp_io s (w - 10) (s 1).toNat 0
  else sp_ven s (w - 20)
set_option maxRecDepth 20000 in
/-- m_holds -/
theorem m_holds {X9 : rj_X} {σ : rj_H} {d : Nat} {mb : Nat} {r : rm_R} {w : Int} (hd : 4 ≤ d) (hw : -2147483648 ≤ w ∧ w < 2147483648) {s : Int → Int} (hs : r 1 = s) (hI : sp_I s) (hT : sp_IT s) (hA : sp_all s) (h8 : 0 ≤ s 8 ∧ s 8 ≤ 6) (h58 : 0 < s 5 → 1 ≤ s 8) : rj_Cl X9 d yX12_holds cX12_holds 4 (some .int) [.ref mb, rj_i w] (rm_p X9 mb r σ) (fun w9 τ => w9 = some (rj_i (sp_holdsF s w)) ∧ ∃ r0, rm_V r r0 s ∧ τ = rm_p X9 mb r0 σ) := by
  obtain ⟨⟨h0, h1, h2, h3, h4, h5, h6, h7⟩, hM, hP, hW, hL, hV⟩ := id hI
  obtain ⟨v1, v2, v3, v4⟩ := id hV
  refine go_call (by decide +kernel) (Nat.le_of_ble_eq_true rfl) ?_
  refine go_eq (pc' := 0) (lv' := [(0, .ref mb), (1, rj_i w)]) (st' := []) rfl rfl rfl rfl ?_
  refine go_aload_n dX12_holds_0 rfl 0 rfl ?_
  refine grm_g1 rfl dX12_holds_1 ?_
  refine go_iconst (v := Int32.ofInt 1) dX12_holds_4 rfl ?_
  refine grm_l1 (by omega) (by omega) dX12_holds_5 ?_
  rw [show r 1 = s from hs]
  refine go_istore_nS (lv' := [(0, .ref mb), (1, rj_i w), (2, rj_i (s 1))]) rfl (by decide) rfl dX12_holds_6 ?_
  refine go_iload_n dX12_holds_7 rfl 1 rfl ?_
  refine go_iconst (v := Int32.ofInt 0) dX12_holds_8 rfl ?_
  refine go_iconst (v := Int32.ofInt 1) dX12_holds_9 rfl ?_
  refine go_callS (d1 := d - 1) wSX12_47 rfl (by omega) (m_in (v := w) (lo := 0) (hi := 1) (by omega) (by omega) (by omega)) rfl (Nat.le_of_ble_eq_true rfl) dX12_holds_10 (fun w σ1 hP => ?_)
  obtain ⟨rfl, rfl⟩ := hP
  refine go_if_neB (tgt := 44) dX12_holds_13 (by decide) (fun c_13 => ?_) (fun c_13 => ?_)
  · refine go_aload_n dX12_holds_44 rfl 0 rfl ?_
    refine grm_g1 rfl dX12_holds_45 ?_
    refine go_iconst (v := Int32.ofInt 5) dX12_holds_48 rfl ?_
    refine grm_l1 (by omega) (by omega) dX12_holds_49 ?_
    rw [show r 1 = s from hs]
    refine go_if_eqI (tgt := 64) (by omega) dX12_holds_50 (by decide) (fun c_50 => ?_) (fun c_50 => ?_)
    · refine go_bipush (v := Int32.ofInt (-3)) dX12_holds_64 (by decide) ?_
      refine go_retI rfl rfl ?_ dX12_holds_66
      exact ⟨rj_vi (by unfold sp_holdsF; rw [if_neg (by omega), if_pos (by omega)]), r, ⟨(show r 1 = s from hs), (show r 2 = (r 2) from rfl), (show r 3 0 = (r 3 0) from rfl), (show r 17 = (r 17) from rfl), (show r 18 0 = (r 18 0) from rfl)⟩, rfl⟩
    · refine go_aload_n dX12_holds_53 rfl 0 rfl ?_
      refine grm_g1 rfl dX12_holds_54 ?_
      refine go_bipush (v := Int32.ofInt 8) dX12_holds_57 (by decide) ?_
      refine grm_l1 (by omega) (by omega) dX12_holds_59 ?_
      rw [show r 1 = s from hs]
      refine go_iload_n dX12_holds_60 rfl 2 rfl ?_
      refine go_icmp_eqI (tgt := 67) (by omega) (by omega) dX12_holds_61 (by decide) (fun c_61 => ?_) (fun c_61 => ?_)
      · refine go_iload_n dX12_holds_67 rfl 1 rfl ?_
        refine go_if_neI (tgt := 95) (by omega) dX12_holds_68 (by decide) (fun c_68 => ?_) (fun c_68 => ?_)
        · refine go_iload_n dX12_holds_95 rfl 1 rfl ?_
          refine go_iconst (v := Int32.ofInt 1) dX12_holds_96 rfl ?_
          refine go_icmp_neI (tgt := 107) (by omega) (by omega) dX12_holds_97 (by decide) (fun c_97 => ?_) (fun c_97 => ?_)
          · refine go_iload_n dX12_holds_107 rfl 1 rfl ?_
            refine go_bipush (v := Int32.ofInt 20) dX12_holds_108 (by decide) ?_
            refine go_icmp_geI (tgt := 124) (by omega) (by omega) dX12_holds_110 (by decide) (fun c_110 => ?_) (fun c_110 => ?_)
            · refine go_aload_n dX12_holds_124 rfl 0 rfl ?_
              refine go_iload_n dX12_holds_125 rfl 1 rfl ?_
              refine go_bipush (v := Int32.ofInt 20) dX12_holds_126 (by decide) ?_
              refine go_subI dX12_holds_128 ?_
              refine go_callV (d1 := d - 1) wVX12_233 kX12 rm_ob rfl (by omega) (m_beaten (by omega) (a := w - 20) (by omega) (hs := (show r 1 = s from hs)) h1 h5 hT) rfl (Nat.le_of_ble_eq_true rfl) dX12_holds_129 (fun w σ1 hP => ?_)
              obtain ⟨rfl, rfl⟩ := hP
              refine go_retI rfl rfl ?_ dX12_holds_132
              exact ⟨rj_vi (by unfold sp_holdsF; rw [if_neg (by omega), if_neg (by omega), if_neg (by omega), if_neg (by omega), if_neg (by omega)]), r, ⟨(show r 1 = s from hs), (show r 2 = (r 2) from rfl), (show r 3 0 = (r 3 0) from rfl), (show r 17 = (r 17) from rfl), (show r 18 0 = (r 18 0) from rfl)⟩, rfl⟩
            · refine go_aload_n dX12_holds_113 rfl 0 rfl ?_
              refine go_iload_n dX12_holds_114 rfl 1 rfl ?_
              refine go_bipush (v := Int32.ofInt 10) dX12_holds_115 (by decide) ?_
              refine go_subI dX12_holds_117 ?_
              refine go_callV (d1 := d - 1) wVX12_239 kX12 rm_ob rfl (by omega) (m_inOrder (by omega) (i := w - 10) (by omega) (hs := (show r 1 = s from hs)) h1 h5 hT hA) rfl (Nat.le_of_ble_eq_true rfl) dX12_holds_118 (fun w σ1 hP => ?_)
              obtain ⟨rfl, rfl⟩ := hP
              refine go_goto (tgt := 132) dX12_holds_121 (by decide) ?_
              refine go_retI rfl rfl ?_ dX12_holds_132
              exact ⟨rj_vi (by unfold sp_holdsF; rw [if_neg (by omega), if_neg (by omega), if_neg (by omega), if_neg (by omega), if_pos (by omega)]), r, ⟨(show r 1 = s from hs), (show r 2 = (r 2) from rfl), (show r 3 0 = (r 3 0) from rfl), (show r 17 = (r 17) from rfl), (show r 18 0 = (r 18 0) from rfl)⟩, rfl⟩
          · refine go_aload_n dX12_holds_100 rfl 0 rfl ?_
            refine go_callV (d1 := d - 1) wVX12_242 kX12 rm_ob rfl (by omega) (m_ring (by omega) (hs := (show r 1 = s from hs)) h1 h5 hT) rfl (Nat.le_of_ble_eq_true rfl) dX12_holds_101 (fun w σ1 hP => ?_)
            obtain ⟨rfl, rfl⟩ := hP
            refine go_goto (tgt := 132) dX12_holds_104 (by decide) ?_
            refine go_retI rfl rfl ?_ dX12_holds_132
            exact ⟨rj_vi (by unfold sp_holdsF; rw [if_neg (by omega), if_neg (by omega), if_neg (by omega), if_pos (by omega)]), r, ⟨(show r 1 = s from hs), (show r 2 = (r 2) from rfl), (show r 3 0 = (r 3 0) from rfl), (show r 17 = (r 17) from rfl), (show r 18 0 = (r 18 0) from rfl)⟩, rfl⟩
        · refine go_aload_n dX12_holds_71 rfl 0 rfl ?_
          refine go_iconst (v := Int32.ofInt 0) dX12_holds_72 rfl ?_
          refine go_callV (d1 := d - 1) wVX12_239 kX12 rm_ob rfl (by omega) (m_inOrder (by omega) (i := 0) (by omega) (hs := (show r 1 = s from hs)) h1 h5 hT hA) rfl (Nat.le_of_ble_eq_true rfl) dX12_holds_73 (fun w σ1 hP => ?_)
          obtain ⟨rfl, rfl⟩ := hP
          refine go_istore_nS (lv' := [(0, .ref mb), (1, rj_i w), (2, rj_i (s 1)), (3, rj_i (sp_io s 0 (s 1).toNat 0))]) rfl (by decide) rfl dX12_holds_76 ?_
          have ib : 0 ≤ sp_io s 0 (s 1).toNat 0 ∧ sp_io s 0 (s 1).toNat 0 < s 1 := by
            obtain ⟨p, q1, q2⟩ := hA 0 (by omega) (by omega)
            have := sp_io_b s 0 (s 1).toNat 0 ⟨p, by omega, by omega, q2⟩
            omega
          have vb := sp_ven_b (s := s) (a := sp_io s 0 (s 1).toNat 0) h1
          refine go_aload_n dX12_holds_77 rfl 0 rfl ?_
          refine go_iload_n dX12_holds_78 rfl 3 rfl ?_
          refine go_callV (d1 := d - 1) wVX12_233 kX12 rm_ob rfl (by omega) (m_beaten (by omega) (a := sp_io s 0 (s 1).toNat 0) (by omega) (hs := (show r 1 = s from hs)) h1 h5 hT) rfl (Nat.le_of_ble_eq_true rfl) dX12_holds_79 (fun w σ1 hP => ?_)
          obtain ⟨rfl, rfl⟩ := hP
          refine go_iload_n dX12_holds_82 rfl 2 rfl ?_
          refine go_iconst (v := Int32.ofInt 1) dX12_holds_83 rfl ?_
          refine go_subI dX12_holds_84 ?_
          refine go_icmp_neI (tgt := 92) (by omega) (by omega) dX12_holds_85 (by decide) (fun c_85 => ?_) (fun c_85 => ?_)
          · refine go_bipush (v := Int32.ofInt (-5)) dX12_holds_92 (by decide) ?_
            refine go_retI rfl rfl ?_ dX12_holds_94
            exact ⟨rj_vi (by unfold sp_holdsF; rw [if_neg (by omega), if_neg (by omega), if_pos (by omega), if_neg (by unfold sp_best0; exact c_85)]), r, ⟨(show r 1 = s from hs), (show r 2 = (r 2) from rfl), (show r 3 0 = (r 3 0) from rfl), (show r 17 = (r 17) from rfl), (show r 18 0 = (r 18 0) from rfl)⟩, rfl⟩
          · refine go_iload_n dX12_holds_88 rfl 3 rfl ?_
            refine go_goto (tgt := 94) dX12_holds_89 (by decide) ?_
            refine go_retI rfl rfl ?_ dX12_holds_94
            exact ⟨rj_vi (by unfold sp_holdsF; rw [if_neg (by omega), if_neg (by omega), if_pos (by omega), if_pos (by unfold sp_best0; exact c_85), sp_best0]), r, ⟨(show r 1 = s from hs), (show r 2 = (r 2) from rfl), (show r 3 0 = (r 3 0) from rfl), (show r 17 = (r 17) from rfl), (show r 18 0 = (r 18 0) from rfl)⟩, rfl⟩
      · refine go_bipush (v := Int32.ofInt (-3)) dX12_holds_64 (by decide) ?_
        refine go_retI rfl rfl ?_ dX12_holds_66
        exact ⟨rj_vi (by unfold sp_holdsF; rw [if_neg (by omega), if_pos (by omega)]), r, ⟨(show r 1 = s from hs), (show r 2 = (r 2) from rfl), (show r 3 0 = (r 3 0) from rfl), (show r 17 = (r 17) from rfl), (show r 18 0 = (r 18 0) from rfl)⟩, rfl⟩
  · refine go_iload_n dX12_holds_16 rfl 1 rfl ?_
    refine go_bipush (v := Int32.ofInt 10) dX12_holds_17 (by decide) ?_
    refine go_bipush (v := Int32.ofInt 9) dX12_holds_19 (by decide) ?_
    refine go_iload_n dX12_holds_21 rfl 2 rfl ?_
    refine go_addI dX12_holds_22 ?_
    refine go_callS (d1 := d - 1) wSX12_47 rfl (by omega) (m_in (v := w) (lo := 10) (hi := 9 + (s 1)) (by omega) (by omega) (by omega)) rfl (Nat.le_of_ble_eq_true rfl) dX12_holds_23 (fun w σ1 hP => ?_)
    obtain ⟨rfl, rfl⟩ := hP
    refine go_if_neB (tgt := 44) dX12_holds_26 (by decide) (fun c_26 => ?_) (fun c_26 => ?_)
    · refine go_aload_n dX12_holds_44 rfl 0 rfl ?_
      refine grm_g1 rfl dX12_holds_45 ?_
      refine go_iconst (v := Int32.ofInt 5) dX12_holds_48 rfl ?_
      refine grm_l1 (by omega) (by omega) dX12_holds_49 ?_
      rw [show r 1 = s from hs]
      refine go_if_eqI (tgt := 64) (by omega) dX12_holds_50 (by decide) (fun c_50 => ?_) (fun c_50 => ?_)
      · refine go_bipush (v := Int32.ofInt (-3)) dX12_holds_64 (by decide) ?_
        refine go_retI rfl rfl ?_ dX12_holds_66
        exact ⟨rj_vi (by unfold sp_holdsF; rw [if_neg (by omega), if_pos (by omega)]), r, ⟨(show r 1 = s from hs), (show r 2 = (r 2) from rfl), (show r 3 0 = (r 3 0) from rfl), (show r 17 = (r 17) from rfl), (show r 18 0 = (r 18 0) from rfl)⟩, rfl⟩
      · refine go_aload_n dX12_holds_53 rfl 0 rfl ?_
        refine grm_g1 rfl dX12_holds_54 ?_
        refine go_bipush (v := Int32.ofInt 8) dX12_holds_57 (by decide) ?_
        refine grm_l1 (by omega) (by omega) dX12_holds_59 ?_
        rw [show r 1 = s from hs]
        refine go_iload_n dX12_holds_60 rfl 2 rfl ?_
        refine go_icmp_eqI (tgt := 67) (by omega) (by omega) dX12_holds_61 (by decide) (fun c_61 => ?_) (fun c_61 => ?_)
        · refine go_iload_n dX12_holds_67 rfl 1 rfl ?_
          refine go_if_neI (tgt := 95) (by omega) dX12_holds_68 (by decide) (fun c_68 => ?_) (fun c_68 => ?_)
          · refine go_iload_n dX12_holds_95 rfl 1 rfl ?_
            refine go_iconst (v := Int32.ofInt 1) dX12_holds_96 rfl ?_
            refine go_icmp_neI (tgt := 107) (by omega) (by omega) dX12_holds_97 (by decide) (fun c_97 => ?_) (fun c_97 => ?_)
            · refine go_iload_n dX12_holds_107 rfl 1 rfl ?_
              refine go_bipush (v := Int32.ofInt 20) dX12_holds_108 (by decide) ?_
              refine go_icmp_geI (tgt := 124) (by omega) (by omega) dX12_holds_110 (by decide) (fun c_110 => ?_) (fun c_110 => ?_)
              · refine go_aload_n dX12_holds_124 rfl 0 rfl ?_
                refine go_iload_n dX12_holds_125 rfl 1 rfl ?_
                refine go_bipush (v := Int32.ofInt 20) dX12_holds_126 (by decide) ?_
                refine go_subI dX12_holds_128 ?_
                refine go_callV (d1 := d - 1) wVX12_233 kX12 rm_ob rfl (by omega) (m_beaten (by omega) (a := w - 20) (by omega) (hs := (show r 1 = s from hs)) h1 h5 hT) rfl (Nat.le_of_ble_eq_true rfl) dX12_holds_129 (fun w σ1 hP => ?_)
                obtain ⟨rfl, rfl⟩ := hP
                refine go_retI rfl rfl ?_ dX12_holds_132
                exact ⟨rj_vi (by unfold sp_holdsF; rw [if_neg (by omega), if_neg (by omega), if_neg (by omega), if_neg (by omega), if_neg (by omega)]), r, ⟨(show r 1 = s from hs), (show r 2 = (r 2) from rfl), (show r 3 0 = (r 3 0) from rfl), (show r 17 = (r 17) from rfl), (show r 18 0 = (r 18 0) from rfl)⟩, rfl⟩
              · refine go_aload_n dX12_holds_113 rfl 0 rfl ?_
                refine go_iload_n dX12_holds_114 rfl 1 rfl ?_
                refine go_bipush (v := Int32.ofInt 10) dX12_holds_115 (by decide) ?_
                refine go_subI dX12_holds_117 ?_
                refine go_callV (d1 := d - 1) wVX12_239 kX12 rm_ob rfl (by omega) (m_inOrder (by omega) (i := w - 10) (by omega) (hs := (show r 1 = s from hs)) h1 h5 hT hA) rfl (Nat.le_of_ble_eq_true rfl) dX12_holds_118 (fun w σ1 hP => ?_)
                obtain ⟨rfl, rfl⟩ := hP
                refine go_goto (tgt := 132) dX12_holds_121 (by decide) ?_
                refine go_retI rfl rfl ?_ dX12_holds_132
                exact ⟨rj_vi (by unfold sp_holdsF; rw [if_neg (by omega), if_neg (by omega), if_neg (by omega), if_neg (by omega), if_pos (by omega)]), r, ⟨(show r 1 = s from hs), (show r 2 = (r 2) from rfl), (show r 3 0 = (r 3 0) from rfl), (show r 17 = (r 17) from rfl), (show r 18 0 = (r 18 0) from rfl)⟩, rfl⟩
            · refine go_aload_n dX12_holds_100 rfl 0 rfl ?_
              refine go_callV (d1 := d - 1) wVX12_242 kX12 rm_ob rfl (by omega) (m_ring (by omega) (hs := (show r 1 = s from hs)) h1 h5 hT) rfl (Nat.le_of_ble_eq_true rfl) dX12_holds_101 (fun w σ1 hP => ?_)
              obtain ⟨rfl, rfl⟩ := hP
              refine go_goto (tgt := 132) dX12_holds_104 (by decide) ?_
              refine go_retI rfl rfl ?_ dX12_holds_132
              exact ⟨rj_vi (by unfold sp_holdsF; rw [if_neg (by omega), if_neg (by omega), if_neg (by omega), if_pos (by omega)]), r, ⟨(show r 1 = s from hs), (show r 2 = (r 2) from rfl), (show r 3 0 = (r 3 0) from rfl), (show r 17 = (r 17) from rfl), (show r 18 0 = (r 18 0) from rfl)⟩, rfl⟩
          · refine go_aload_n dX12_holds_71 rfl 0 rfl ?_
            refine go_iconst (v := Int32.ofInt 0) dX12_holds_72 rfl ?_
            refine go_callV (d1 := d - 1) wVX12_239 kX12 rm_ob rfl (by omega) (m_inOrder (by omega) (i := 0) (by omega) (hs := (show r 1 = s from hs)) h1 h5 hT hA) rfl (Nat.le_of_ble_eq_true rfl) dX12_holds_73 (fun w σ1 hP => ?_)
            obtain ⟨rfl, rfl⟩ := hP
            refine go_istore_nS (lv' := [(0, .ref mb), (1, rj_i w), (2, rj_i (s 1)), (3, rj_i (sp_io s 0 (s 1).toNat 0))]) rfl (by decide) rfl dX12_holds_76 ?_
            refine go_aload_n dX12_holds_77 rfl 0 rfl ?_
            refine go_iload_n dX12_holds_78 rfl 3 rfl ?_
            refine go_callV (d1 := d - 1) wVX12_233 kX12 rm_ob rfl (by omega) (m_beaten (by omega) (a := sp_io s 0 (s 1).toNat 0) (by omega) (hs := (show r 1 = s from hs)) h1 h5 hT) rfl (Nat.le_of_ble_eq_true rfl) dX12_holds_79 (fun w σ1 hP => ?_)
            obtain ⟨rfl, rfl⟩ := hP
            refine go_iload_n dX12_holds_82 rfl 2 rfl ?_
            refine go_iconst (v := Int32.ofInt 1) dX12_holds_83 rfl ?_
            refine go_subI dX12_holds_84 ?_
            refine go_icmp_neI (tgt := 92) (by omega) (by omega) dX12_holds_85 (by decide) (fun c_85 => ?_) (fun c_85 => ?_)
            · refine go_bipush (v := Int32.ofInt (-5)) dX12_holds_92 (by decide) ?_
              refine go_retI rfl rfl ?_ dX12_holds_94
              exact ⟨rj_vi (by unfold sp_holdsF; rw [if_neg (by omega), if_neg (by omega), if_pos (by omega), if_neg (by unfold sp_best0; exact c_85)]), r, ⟨(show r 1 = s from hs), (show r 2 = (r 2) from rfl), (show r 3 0 = (r 3 0) from rfl), (show r 17 = (r 17) from rfl), (show r 18 0 = (r 18 0) from rfl)⟩, rfl⟩
            · refine go_iload_n dX12_holds_88 rfl 3 rfl ?_
              refine go_goto (tgt := 94) dX12_holds_89 (by decide) ?_
              refine go_retI rfl rfl ?_ dX12_holds_94
              exact ⟨rj_vi (by unfold sp_holdsF; rw [if_neg (by omega), if_neg (by omega), if_pos (by omega), if_pos (by unfold sp_best0; exact c_85), sp_best0]), r, ⟨(show r 1 = s from hs), (show r 2 = (r 2) from rfl), (show r 3 0 = (r 3 0) from rfl), (show r 17 = (r 17) from rfl), (show r 18 0 = (r 18 0) from rfl)⟩, rfl⟩
        · refine go_bipush (v := Int32.ofInt (-3)) dX12_holds_64 (by decide) ?_
          refine go_retI rfl rfl ?_ dX12_holds_66
          exact ⟨rj_vi (by unfold sp_holdsF; rw [if_neg (by omega), if_pos (by omega)]), r, ⟨(show r 1 = s from hs), (show r 2 = (r 2) from rfl), (show r 3 0 = (r 3 0) from rfl), (show r 17 = (r 17) from rfl), (show r 18 0 = (r 18 0) from rfl)⟩, rfl⟩
    · refine go_iload_n dX12_holds_29 rfl 1 rfl ?_
      refine go_bipush (v := Int32.ofInt 20) dX12_holds_30 (by decide) ?_
      refine go_bipush (v := Int32.ofInt 19) dX12_holds_32 (by decide) ?_
      refine go_iload_n dX12_holds_34 rfl 2 rfl ?_
      refine go_addI dX12_holds_35 ?_
      refine go_callS (d1 := d - 1) wSX12_47 rfl (by omega) (m_in (v := w) (lo := 20) (hi := 19 + (s 1)) (by omega) (by omega) (by omega)) rfl (Nat.le_of_ble_eq_true rfl) dX12_holds_36 (fun w σ1 hP => ?_)
      obtain ⟨rfl, rfl⟩ := hP
      refine go_if_neB (tgt := 44) dX12_holds_39 (by decide) (fun c_39 => ?_) (fun c_39 => ?_)
      · refine go_aload_n dX12_holds_44 rfl 0 rfl ?_
        refine grm_g1 rfl dX12_holds_45 ?_
        refine go_iconst (v := Int32.ofInt 5) dX12_holds_48 rfl ?_
        refine grm_l1 (by omega) (by omega) dX12_holds_49 ?_
        rw [show r 1 = s from hs]
        refine go_if_eqI (tgt := 64) (by omega) dX12_holds_50 (by decide) (fun c_50 => ?_) (fun c_50 => ?_)
        · refine go_bipush (v := Int32.ofInt (-3)) dX12_holds_64 (by decide) ?_
          refine go_retI rfl rfl ?_ dX12_holds_66
          exact ⟨rj_vi (by unfold sp_holdsF; rw [if_neg (by omega), if_pos (by omega)]), r, ⟨(show r 1 = s from hs), (show r 2 = (r 2) from rfl), (show r 3 0 = (r 3 0) from rfl), (show r 17 = (r 17) from rfl), (show r 18 0 = (r 18 0) from rfl)⟩, rfl⟩
        · refine go_aload_n dX12_holds_53 rfl 0 rfl ?_
          refine grm_g1 rfl dX12_holds_54 ?_
          refine go_bipush (v := Int32.ofInt 8) dX12_holds_57 (by decide) ?_
          refine grm_l1 (by omega) (by omega) dX12_holds_59 ?_
          rw [show r 1 = s from hs]
          refine go_iload_n dX12_holds_60 rfl 2 rfl ?_
          refine go_icmp_eqI (tgt := 67) (by omega) (by omega) dX12_holds_61 (by decide) (fun c_61 => ?_) (fun c_61 => ?_)
          · refine go_iload_n dX12_holds_67 rfl 1 rfl ?_
            refine go_if_neI (tgt := 95) (by omega) dX12_holds_68 (by decide) (fun c_68 => ?_) (fun c_68 => ?_)
            · refine go_iload_n dX12_holds_95 rfl 1 rfl ?_
              refine go_iconst (v := Int32.ofInt 1) dX12_holds_96 rfl ?_
              refine go_icmp_neI (tgt := 107) (by omega) (by omega) dX12_holds_97 (by decide) (fun c_97 => ?_) (fun c_97 => ?_)
              · refine go_iload_n dX12_holds_107 rfl 1 rfl ?_
                refine go_bipush (v := Int32.ofInt 20) dX12_holds_108 (by decide) ?_
                refine go_icmp_geI (tgt := 124) (by omega) (by omega) dX12_holds_110 (by decide) (fun c_110 => ?_) (fun c_110 => ?_)
                · refine go_aload_n dX12_holds_124 rfl 0 rfl ?_
                  refine go_iload_n dX12_holds_125 rfl 1 rfl ?_
                  refine go_bipush (v := Int32.ofInt 20) dX12_holds_126 (by decide) ?_
                  refine go_subI dX12_holds_128 ?_
                  refine go_callV (d1 := d - 1) wVX12_233 kX12 rm_ob rfl (by omega) (m_beaten (by omega) (a := w - 20) (by omega) (hs := (show r 1 = s from hs)) h1 h5 hT) rfl (Nat.le_of_ble_eq_true rfl) dX12_holds_129 (fun w σ1 hP => ?_)
                  obtain ⟨rfl, rfl⟩ := hP
                  refine go_retI rfl rfl ?_ dX12_holds_132
                  exact ⟨rj_vi (by unfold sp_holdsF; rw [if_neg (by omega), if_neg (by omega), if_neg (by omega), if_neg (by omega), if_neg (by omega)]), r, ⟨(show r 1 = s from hs), (show r 2 = (r 2) from rfl), (show r 3 0 = (r 3 0) from rfl), (show r 17 = (r 17) from rfl), (show r 18 0 = (r 18 0) from rfl)⟩, rfl⟩
                · refine go_aload_n dX12_holds_113 rfl 0 rfl ?_
                  refine go_iload_n dX12_holds_114 rfl 1 rfl ?_
                  refine go_bipush (v := Int32.ofInt 10) dX12_holds_115 (by decide) ?_
                  refine go_subI dX12_holds_117 ?_
                  refine go_callV (d1 := d - 1) wVX12_239 kX12 rm_ob rfl (by omega) (m_inOrder (by omega) (i := w - 10) (by omega) (hs := (show r 1 = s from hs)) h1 h5 hT hA) rfl (Nat.le_of_ble_eq_true rfl) dX12_holds_118 (fun w σ1 hP => ?_)
                  obtain ⟨rfl, rfl⟩ := hP
                  refine go_goto (tgt := 132) dX12_holds_121 (by decide) ?_
                  refine go_retI rfl rfl ?_ dX12_holds_132
                  exact ⟨rj_vi (by unfold sp_holdsF; rw [if_neg (by omega), if_neg (by omega), if_neg (by omega), if_neg (by omega), if_pos (by omega)]), r, ⟨(show r 1 = s from hs), (show r 2 = (r 2) from rfl), (show r 3 0 = (r 3 0) from rfl), (show r 17 = (r 17) from rfl), (show r 18 0 = (r 18 0) from rfl)⟩, rfl⟩
              · refine go_aload_n dX12_holds_100 rfl 0 rfl ?_
                refine go_callV (d1 := d - 1) wVX12_242 kX12 rm_ob rfl (by omega) (m_ring (by omega) (hs := (show r 1 = s from hs)) h1 h5 hT) rfl (Nat.le_of_ble_eq_true rfl) dX12_holds_101 (fun w σ1 hP => ?_)
                obtain ⟨rfl, rfl⟩ := hP
                refine go_goto (tgt := 132) dX12_holds_104 (by decide) ?_
                refine go_retI rfl rfl ?_ dX12_holds_132
                exact ⟨rj_vi (by unfold sp_holdsF; rw [if_neg (by omega), if_neg (by omega), if_neg (by omega), if_pos (by omega)]), r, ⟨(show r 1 = s from hs), (show r 2 = (r 2) from rfl), (show r 3 0 = (r 3 0) from rfl), (show r 17 = (r 17) from rfl), (show r 18 0 = (r 18 0) from rfl)⟩, rfl⟩
            · refine go_aload_n dX12_holds_71 rfl 0 rfl ?_
              refine go_iconst (v := Int32.ofInt 0) dX12_holds_72 rfl ?_
              refine go_callV (d1 := d - 1) wVX12_239 kX12 rm_ob rfl (by omega) (m_inOrder (by omega) (i := 0) (by omega) (hs := (show r 1 = s from hs)) h1 h5 hT hA) rfl (Nat.le_of_ble_eq_true rfl) dX12_holds_73 (fun w σ1 hP => ?_)
              obtain ⟨rfl, rfl⟩ := hP
              refine go_istore_nS (lv' := [(0, .ref mb), (1, rj_i w), (2, rj_i (s 1)), (3, rj_i (sp_io s 0 (s 1).toNat 0))]) rfl (by decide) rfl dX12_holds_76 ?_
              refine go_aload_n dX12_holds_77 rfl 0 rfl ?_
              refine go_iload_n dX12_holds_78 rfl 3 rfl ?_
              refine go_callV (d1 := d - 1) wVX12_233 kX12 rm_ob rfl (by omega) (m_beaten (by omega) (a := sp_io s 0 (s 1).toNat 0) (by omega) (hs := (show r 1 = s from hs)) h1 h5 hT) rfl (Nat.le_of_ble_eq_true rfl) dX12_holds_79 (fun w σ1 hP => ?_)
              obtain ⟨rfl, rfl⟩ := hP
              refine go_iload_n dX12_holds_82 rfl 2 rfl ?_
              refine go_iconst (v := Int32.ofInt 1) dX12_holds_83 rfl ?_
              refine go_subI dX12_holds_84 ?_
              refine go_icmp_neI (tgt := 92) (by omega) (by omega) dX12_holds_85 (by decide) (fun c_85 => ?_) (fun c_85 => ?_)
              · refine go_bipush (v := Int32.ofInt (-5)) dX12_holds_92 (by decide) ?_
                refine go_retI rfl rfl ?_ dX12_holds_94
                exact ⟨rj_vi (by unfold sp_holdsF; rw [if_neg (by omega), if_neg (by omega), if_pos (by omega), if_neg (by unfold sp_best0; exact c_85)]), r, ⟨(show r 1 = s from hs), (show r 2 = (r 2) from rfl), (show r 3 0 = (r 3 0) from rfl), (show r 17 = (r 17) from rfl), (show r 18 0 = (r 18 0) from rfl)⟩, rfl⟩
              · refine go_iload_n dX12_holds_88 rfl 3 rfl ?_
                refine go_goto (tgt := 94) dX12_holds_89 (by decide) ?_
                refine go_retI rfl rfl ?_ dX12_holds_94
                exact ⟨rj_vi (by unfold sp_holdsF; rw [if_neg (by omega), if_neg (by omega), if_pos (by omega), if_pos (by unfold sp_best0; exact c_85), sp_best0]), r, ⟨(show r 1 = s from hs), (show r 2 = (r 2) from rfl), (show r 3 0 = (r 3 0) from rfl), (show r 17 = (r 17) from rfl), (show r 18 0 = (r 18 0) from rfl)⟩, rfl⟩
          · refine go_bipush (v := Int32.ofInt (-3)) dX12_holds_64 (by decide) ?_
            refine go_retI rfl rfl ?_ dX12_holds_66
            exact ⟨rj_vi (by unfold sp_holdsF; rw [if_neg (by omega), if_pos (by omega)]), r, ⟨(show r 1 = s from hs), (show r 2 = (r 2) from rfl), (show r 3 0 = (r 3 0) from rfl), (show r 17 = (r 17) from rfl), (show r 18 0 = (r 18 0) from rfl)⟩, rfl⟩
      · refine go_iconst (v := Int32.ofInt (-1)) dX12_holds_42 rfl ?_
        refine go_retI rfl rfl ?_ dX12_holds_43
        exact ⟨rj_vi (by unfold sp_holdsF; rw [if_pos (by omega)]), r, ⟨(show r 1 = s from hs), (show r 2 = (r 2) from rfl), (show r 3 0 = (r 3 0) from rfl), (show r 17 = (r 17) from rfl), (show r 18 0 = (r 18 0) from rfl)⟩, rfl⟩
