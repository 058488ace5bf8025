/-! THE REFERENCE, 7: has, judged, gone, free, plan, passed, worst off, worth -/
def sp_hasB (s : Int → Int) (p w : Int) : Int → Bool := fun q => if w = 2 then sp_so s (s 4) (-13) 99 p q else !sp_so s (s 4) (-13) 99 p q && decide (sp_lat s (s 4) p q = 0)
def sp_hasF (s : Int → Int) (p w : Int) : Int := if (0 ≤ p ∧ p < s 1) ∧ 0 ≤ w ∧ w ≤ 2 then (if w = 0 then sp_has s (s 4) p else sp_bits (sp_hasB s p w) 8) else -1
set_option maxRecDepth 20000 in
/-- m_has -/
theorem m_has {X9 : rj_X} {σ : rj_H} {d : Nat} {mb : Nat} {r : rm_R} {p w : Int} (hd : 7 ≤ d) (hp : -2147483648 ≤ p ∧ p < 2147483648) (hw : -2147483648 ≤ w ∧ w < 2147483648) {s : Int → Int} (hs : r 1 = s) (hI : sp_I s) : rj_Cl X9 d yX12_has cX12_has 7 (some .int) [.ref mb, rj_i p, rj_i w] (rm_p X9 mb r σ) (fun w9 τ => w9 = some (rj_i (sp_hasF s p w)) ∧ ∃ r0, rm_V r r0 s ∧ τ = rm_p X9 mb r0 σ) := by
  obtain ⟨⟨h0, h1, h2, h3, h4, h5, h6, h7⟩, hM, hP, hW, hL, hV⟩ := id hI
  obtain ⟨v1, v2, v3, v4⟩ := id hV
  refine go_call (by decide +kernel) (Nat.le_of_ble_eq_true rfl) ?_
  refine go_eq (pc' := 0) (lv' := [(0, .ref mb), (1, rj_i p), (2, rj_i w)]) (st' := []) rfl rfl rfl rfl ?_
  refine go_aload_n dX12_has_0 rfl 0 rfl ?_
  refine go_iload_n dX12_has_1 rfl 1 rfl ?_
  refine go_callV (d1 := d - 1) wVX12_59 kX12 rm_ob rfl (by omega) (m_isPatch (p := p) (by omega) (by omega) (hs := (show r 1 = s from hs)) (by omega)) rfl (Nat.le_of_ble_eq_true rfl) dX12_has_2 (fun w σ1 hP => ?_)
  obtain ⟨rfl, rfl⟩ := hP
  refine go_if_eqB (tgt := 17) dX12_has_5 (by decide) (fun c_5 => ?_) (fun c_5 => ?_)
  · refine go_iconst (v := Int32.ofInt (-1)) dX12_has_17 rfl ?_
    refine go_retI rfl rfl ?_ dX12_has_18
    exact ⟨rj_vi (by unfold sp_hasF; rw [if_neg (by omega)]), r, ⟨(show r 1 = s from hs), (show r 2 = (r 2) from rfl), (show r 3 0 = (r 3 0) from rfl), (show r 17 = (r 17) from rfl), (show r 18 0 = (r 18 0) from rfl)⟩, rfl⟩
  · refine go_iload_n dX12_has_8 rfl 2 rfl ?_
    refine go_iconst (v := Int32.ofInt 0) dX12_has_9 rfl ?_
    refine go_iconst (v := Int32.ofInt 2) dX12_has_10 rfl ?_
    refine go_callS (d1 := d - 1) wSX12_47 rfl (by omega) (m_in (v := w) (lo := 0) (hi := 2) (by omega) (by omega) (by omega)) rfl (Nat.le_of_ble_eq_true rfl) dX12_has_11 (fun w σ1 hP => ?_)
    obtain ⟨rfl, rfl⟩ := hP
    refine go_if_neB (tgt := 19) dX12_has_14 (by decide) (fun c_14 => ?_) (fun c_14 => ?_)
    · refine go_aload_n dX12_has_19 rfl 0 rfl ?_
      refine go_aload_n dX12_has_20 rfl 0 rfl ?_
      refine grm_g1 rfl dX12_has_21 ?_
      refine go_iconst (v := Int32.ofInt 4) dX12_has_24 rfl ?_
      refine grm_l1 (by omega) (by omega) dX12_has_25 ?_
      rw [show r 1 = s from hs]
      refine grm_w11 rfl dX12_has_26 ?_
      obtain ⟨r1, e1⟩ : ∃ x_, x_ = (rm_u r 11 (fun _ => s 4)) := ⟨_, rfl⟩
      rw [← e1]
      have q1_1 : r1 1 = s := by rw [e1]; exact (show (rm_u r 11 (fun _ => s 4)) 1 = s from hs)
      have q1_2 : r1 2 = (r 2) := by rw [e1]; exact (show (rm_u r 11 (fun _ => s 4)) 2 = (r 2) from rfl)
      have q1_3 : r1 3 0 = (r 3 0) := by rw [e1]; exact (show (rm_u r 11 (fun _ => s 4)) 3 0 = (r 3 0) from rfl)
      have q1_17 : r1 17 = (r 17) := by rw [e1]; exact (show (rm_u r 11 (fun _ => s 4)) 17 = (r 17) from rfl)
      have q1_18 : r1 18 0 = (r 18 0) := by rw [e1]; exact (show (rm_u r 11 (fun _ => s 4)) 18 0 = (r 18 0) from rfl)
      have q1_11 : r1 11 0 = s 4 := by rw [e1]; exact (show (rm_u r 11 (fun _ => s 4)) 11 0 = s 4 from rfl)
      refine go_iload_n dX12_has_29 rfl 2 rfl ?_
      refine go_if_neI (tgt := 39) (by omega) dX12_has_30 (by decide) (fun c_30 => ?_) (fun c_30 => ?_)
      · refine go_iconst (v := Int32.ofInt 0) dX12_has_39 rfl ?_
        refine go_istore_nS (lv' := [(0, .ref mb), (1, rj_i p), (2, rj_i w), (3, rj_i 0)]) rfl (by decide) rfl dX12_has_40 ?_
        refine go_iconst (v := Int32.ofInt 0) dX12_has_41 rfl ?_
        refine go_istoreS (lv' := [(0, .ref mb), (1, rj_i p), (2, rj_i w), (3, rj_i 0), (4, rj_i 0)]) (by decide) rfl dX12_has_42 ?_
        have loop : ∀ (n k : Nat) (rl : rm_R), k + n = (8 : Int).toNat → rm_t r1 rl → rj_Go X9 yX12_has cX12_has 7 (some .int) d (fun w9 τ => w9 = some (rj_i (sp_hasF s p w)) ∧ ∃ r0, rm_V r r0 s ∧ τ = rm_p X9 mb r0 σ) 44 [(0, .ref mb), (1, rj_i p), (2, rj_i w), (3, rj_i (sp_bits (sp_hasB s p w) k)), (4, rj_i (k : Int))] [] (rm_p X9 mb rl σ) := by
          intro n
          induction n with
          | zero =>
            intro k rl hk hr 
            have el1 : rl 1 = s := (hr 1 (by decide) (by decide)).trans (show r1 1 = s from q1_1)
            have el2 : rl 2 = (r 2) := (hr 2 (by decide) (by decide)).trans (show r1 2 = (r 2) from q1_2)
            have el3 : rl 3 0 = (r 3 0) := (congrFun (hr 3 (by decide) (by decide)) 0).trans (show r1 3 0 = (r 3 0) from q1_3)
            have el17 : rl 17 = (r 17) := (hr 17 (by decide) (by decide)).trans (show r1 17 = (r 17) from q1_17)
            have el18 : rl 18 0 = (r 18 0) := (congrFun (hr 18 (by decide) (by decide)) 0).trans (show r1 18 0 = (r 18 0) from q1_18)
            have el11 : rl 11 0 = s 4 := (congrFun (hr 11 (by decide) (by decide)) 0).trans (show r1 11 0 = s 4 from q1_11)
            refine go_iload dX12_has_44 4 rfl ?_
            refine go_bipush (v := Int32.ofInt 8) dX12_has_46 (by decide) ?_
            refine go_icmp_geI (tgt := 114) (by omega) (by omega) dX12_has_48 (by decide) (fun c_48 => ?_) (fun c_48 => ?_)
            · refine go_iload_n dX12_has_114 rfl 3 rfl ?_
              refine go_retI rfl rfl ?_ dX12_has_115
              exact ⟨rj_vi (by unfold sp_hasF; rw [if_pos (by omega), if_neg (by omega), show 8 = k by omega]), rl, ⟨(show rl 1 = s from el1), (show rl 2 = (r 2) from el2), (show rl 3 0 = (r 3 0) from el3), (show rl 17 = (r 17) from el17), (show rl 18 0 = (r 18 0) from el18)⟩, rfl⟩
            · exact absurd c_48 (by omega)
          | succ n ih =>
            intro k rl hk hr 
            have el1 : rl 1 = s := (hr 1 (by decide) (by decide)).trans (show r1 1 = s from q1_1)
            have el2 : rl 2 = (r 2) := (hr 2 (by decide) (by decide)).trans (show r1 2 = (r 2) from q1_2)
            have el3 : rl 3 0 = (r 3 0) := (congrFun (hr 3 (by decide) (by decide)) 0).trans (show r1 3 0 = (r 3 0) from q1_3)
            have el17 : rl 17 = (r 17) := (hr 17 (by decide) (by decide)).trans (show r1 17 = (r 17) from q1_17)
            have el18 : rl 18 0 = (r 18 0) := (congrFun (hr 18 (by decide) (by decide)) 0).trans (show r1 18 0 = (r 18 0) from q1_18)
            have el11 : rl 11 0 = s 4 := (congrFun (hr 11 (by decide) (by decide)) 0).trans (show r1 11 0 = s 4 from q1_11)
            have lb := sp_lat_b (D := s 4) (p := p) (q := (k : Int)) h0 hM
            refine go_iload dX12_has_44 4 rfl ?_
            refine go_bipush (v := Int32.ofInt 8) dX12_has_46 (by decide) ?_
            refine go_icmp_geI (tgt := 114) (by omega) (by omega) dX12_has_48 (by decide) (fun c_48 => ?_) (fun c_48 => ?_)
            · exact absurd c_48 (by omega)
            · refine go_aload_n dX12_has_51 rfl 0 rfl ?_
              refine go_iload_n dX12_has_52 rfl 1 rfl ?_
              refine go_iload dX12_has_53 4 rfl ?_
              refine go_callV (d1 := d - 1) wVX12_196 kX12 rm_ob rfl (by omega) (m_hasOwn (by omega) (p := p) (q := (k : Int)) (hs := (show rl 1 = s from el1)) (hD := (show rl 11 0 = s 4 from el11)) (by omega) hI (by omega) (by omega)) rfl (Nat.le_of_ble_eq_true rfl) dX12_has_55 (fun w σ1 hP => ?_)
              obtain ⟨rfl, r51, hr51, rfl⟩ := hP
              have q51_1 : r51 1 = s := (hr51 1 (by decide) (by decide)).trans (show rl 1 = s from el1)
              have q51_2 : r51 2 = (r 2) := (hr51 2 (by decide) (by decide)).trans (show rl 2 = (r 2) from el2)
              have q51_3 : r51 3 0 = (r 3 0) := (congrFun (hr51 3 (by decide) (by decide)) 0).trans (show rl 3 0 = (r 3 0) from el3)
              have q51_17 : r51 17 = (r 17) := (hr51 17 (by decide) (by decide)).trans (show rl 17 = (r 17) from el17)
              have q51_18 : r51 18 0 = (r 18 0) := (congrFun (hr51 18 (by decide) (by decide)) 0).trans (show rl 18 0 = (r 18 0) from el18)
              have q51_11 : r51 11 0 = s 4 := (congrFun (hr51 11 (by decide) (by decide)) 0).trans (show rl 11 0 = s 4 from el11)
              refine go_istoreS (lv' := [(0, .ref mb), (1, rj_i p), (2, rj_i w), (3, rj_i (sp_bits (sp_hasB s p w) k)), (4, rj_i (k : Int)), (5, rj_i (rj_b (sp_so s (s 4) (-13) 99 p (k : Int) = true)))]) (by decide) rfl dX12_has_58 ?_
              refine go_iload_n dX12_has_60 rfl 2 rfl ?_
              refine go_iconst (v := Int32.ofInt 2) dX12_has_61 rfl ?_
              refine go_icmp_neI (tgt := 70) (by omega) (by omega) dX12_has_62 (by decide) (fun c_62 => ?_) (fun c_62 => ?_)
              · refine go_iload dX12_has_70 5 rfl ?_
                refine go_if_neB (tgt := 89) dX12_has_72 (by decide) (fun c_72 => ?_) (fun c_72 => ?_)
                · refine go_iconst (v := Int32.ofInt 0) dX12_has_89 rfl ?_
                  refine go_istoreS (lv' := [(0, .ref mb), (1, rj_i p), (2, rj_i w), (3, rj_i (sp_bits (sp_hasB s p w) k)), (4, rj_i (k : Int)), (5, rj_i (rj_b (sp_so s (s 4) (-13) 99 p (k : Int) = true))), (6, rj_i 0)]) (by decide) rfl dX12_has_90 ?_
                  refine go_iload_n dX12_has_92 rfl 3 rfl ?_
                  refine go_iload dX12_has_93 6 rfl ?_
                  refine go_if_eqI (tgt := 105) (by omega) dX12_has_95 (by decide) (fun c_95 => ?_) (fun c_95 => ?_)
                  · refine go_iconst (v := Int32.ofInt 0) dX12_has_105 rfl ?_
                    refine go_orI ⟨k, by omega, (sp_bits_b (sp_hasB s p w) k).1, (sp_bits_b (sp_hasB s p w) k).2, by simp⟩ dX12_has_106 ?_
                    refine go_istore_nS (lv' := [(0, .ref mb), (1, rj_i p), (2, rj_i w), (3, rj_i ((sp_bits (sp_hasB s p w) k) + 0)), (4, rj_i (k : Int)), (5, rj_i (rj_b (sp_so s (s 4) (-13) 99 p (k : Int) = true))), (6, rj_i 0)]) rfl (by decide) rfl dX12_has_107 ?_
                    refine go_iincI (a := (k : Int)) (n := 1) (k0 := 4) (lv' := [(0, .ref mb), (1, rj_i p), (2, rj_i w), (3, rj_i ((sp_bits (sp_hasB s p w) k) + 0)), (4, rj_i ((k : Int) + 1)), (5, rj_i (rj_b (sp_so s (s 4) (-13) 99 p (k : Int) = true))), (6, rj_i 0)]) rfl (by decide) rfl dX12_has_108 ?_
                    refine go_goto (tgt := 44) dX12_has_111 (by decide) ?_
                    refine go_sub (lv' := [(0, .ref mb), (1, rj_i p), (2, rj_i w), (3, rj_i ((sp_bits (sp_hasB s p w) k) + 0)), (4, rj_i ((k : Int) + 1))]) (by intro q hq; simp only [List.mem_cons, List.not_mem_nil, or_false] at hq ⊢; rcases hq with rfl | rfl | rfl | rfl | rfl <;> simp) ?_
                    exact go_eq rfl (lv' := [(0, .ref mb), (1, rj_i p), (2, rj_i w), (3, rj_i (sp_bits (sp_hasB s p w) (k + 1))), (4, rj_i ((k + 1 : Nat) : Int))]) (rj_lk (rj_lk (rj_lk (rj_lj (by rw [sp_bits]; simp [sp_hasB, c_95, c_72, c_62, c_48]) (rj_lj (by omega) rfl))))) rfl rfl (ih (k + 1) r51 (by omega) (hr.tr hr51))
                  · exact absurd c_95 (by omega)
                · refine go_aload_n dX12_has_75 rfl 0 rfl ?_
                  refine go_iload_n dX12_has_76 rfl 1 rfl ?_
                  refine go_iload dX12_has_77 4 rfl ?_
                  refine go_callV (d1 := d - 1) wVX12_190 kX12 rm_ob rfl (by omega) (m_lightAt (by omega) (p := p) (q := (k : Int)) (hs := (show r51 1 = s from q51_1)) (hD := (show r51 11 0 = s 4 from q51_11)) (by omega) hI (by omega) (by omega)) rfl (Nat.le_of_ble_eq_true rfl) dX12_has_79 (fun w σ1 hP => ?_)
                  obtain ⟨rfl, r52, hr52, rfl⟩ := hP
                  have q52_1 : r52 1 = s := (hr52 1 (by decide) (by decide)).trans (show r51 1 = s from q51_1)
                  have q52_2 : r52 2 = (r 2) := (hr52 2 (by decide) (by decide)).trans (show r51 2 = (r 2) from q51_2)
                  have q52_3 : r52 3 0 = (r 3 0) := (congrFun (hr52 3 (by decide) (by decide)) 0).trans (show r51 3 0 = (r 3 0) from q51_3)
                  have q52_17 : r52 17 = (r 17) := (hr52 17 (by decide) (by decide)).trans (show r51 17 = (r 17) from q51_17)
                  have q52_18 : r52 18 0 = (r 18 0) := (congrFun (hr52 18 (by decide) (by decide)) 0).trans (show r51 18 0 = (r 18 0) from q51_18)
                  have q52_11 : r52 11 0 = s 4 := (congrFun (hr52 11 (by decide) (by decide)) 0).trans (show r51 11 0 = s 4 from q51_11)
                  refine go_if_neI (tgt := 89) (by omega) dX12_has_82 (by decide) (fun c_82 => ?_) (fun c_82 => ?_)
                  · refine go_iconst (v := Int32.ofInt 0) dX12_has_89 rfl ?_
                    refine go_istoreS (lv' := [(0, .ref mb), (1, rj_i p), (2, rj_i w), (3, rj_i (sp_bits (sp_hasB s p w) k)), (4, rj_i (k : Int)), (5, rj_i (rj_b (sp_so s (s 4) (-13) 99 p (k : Int) = true))), (6, rj_i 0)]) (by decide) rfl dX12_has_90 ?_
                    refine go_iload_n dX12_has_92 rfl 3 rfl ?_
                    refine go_iload dX12_has_93 6 rfl ?_
                    refine go_if_eqI (tgt := 105) (by omega) dX12_has_95 (by decide) (fun c_95 => ?_) (fun c_95 => ?_)
                    · refine go_iconst (v := Int32.ofInt 0) dX12_has_105 rfl ?_
                      refine go_orI ⟨k, by omega, (sp_bits_b (sp_hasB s p w) k).1, (sp_bits_b (sp_hasB s p w) k).2, by simp⟩ dX12_has_106 ?_
                      refine go_istore_nS (lv' := [(0, .ref mb), (1, rj_i p), (2, rj_i w), (3, rj_i ((sp_bits (sp_hasB s p w) k) + 0)), (4, rj_i (k : Int)), (5, rj_i (rj_b (sp_so s (s 4) (-13) 99 p (k : Int) = true))), (6, rj_i 0)]) rfl (by decide) rfl dX12_has_107 ?_
                      refine go_iincI (a := (k : Int)) (n := 1) (k0 := 4) (lv' := [(0, .ref mb), (1, rj_i p), (2, rj_i w), (3, rj_i ((sp_bits (sp_hasB s p w) k) + 0)), (4, rj_i ((k : Int) + 1)), (5, rj_i (rj_b (sp_so s (s 4) (-13) 99 p (k : Int) = true))), (6, rj_i 0)]) rfl (by decide) rfl dX12_has_108 ?_
                      refine go_goto (tgt := 44) dX12_has_111 (by decide) ?_
                      refine go_sub (lv' := [(0, .ref mb), (1, rj_i p), (2, rj_i w), (3, rj_i ((sp_bits (sp_hasB s p w) k) + 0)), (4, rj_i ((k : Int) + 1))]) (by intro q hq; simp only [List.mem_cons, List.not_mem_nil, or_false] at hq ⊢; rcases hq with rfl | rfl | rfl | rfl | rfl <;> simp) ?_
                      exact go_eq rfl (lv' := [(0, .ref mb), (1, rj_i p), (2, rj_i w), (3, rj_i (sp_bits (sp_hasB s p w) (k + 1))), (4, rj_i ((k + 1 : Nat) : Int))]) (rj_lk (rj_lk (rj_lk (rj_lj (by rw [sp_bits]; simp [sp_hasB, c_95, c_82, c_72, c_62, c_48]) (rj_lj (by omega) rfl))))) rfl rfl (ih (k + 1) r52 (by omega) ((hr.tr hr51).tr hr52))
                    · exact absurd c_95 (by omega)
                  · refine go_iconst (v := Int32.ofInt 1) dX12_has_85 rfl ?_
                    refine go_goto (tgt := 90) dX12_has_86 (by decide) ?_
                    refine go_istoreS (lv' := [(0, .ref mb), (1, rj_i p), (2, rj_i w), (3, rj_i (sp_bits (sp_hasB s p w) k)), (4, rj_i (k : Int)), (5, rj_i (rj_b (sp_so s (s 4) (-13) 99 p (k : Int) = true))), (6, rj_i 1)]) (by decide) rfl dX12_has_90 ?_
                    refine go_iload_n dX12_has_92 rfl 3 rfl ?_
                    refine go_iload dX12_has_93 6 rfl ?_
                    refine go_if_eqI (tgt := 105) (by omega) dX12_has_95 (by decide) (fun c_95 => ?_) (fun c_95 => ?_)
                    · exact absurd c_95 (by omega)
                    · refine go_iconst (v := Int32.ofInt 1) dX12_has_98 rfl ?_
                      refine go_iload dX12_has_99 4 rfl ?_
                      refine go_shl1 (k := k) (by omega) dX12_has_101 ?_
                      refine go_goto (tgt := 106) dX12_has_102 (by decide) ?_
                      refine go_orI ⟨k, by omega, (sp_bits_b (sp_hasB s p w) k).1, (sp_bits_b (sp_hasB s p w) k).2, by simp⟩ dX12_has_106 ?_
                      refine go_istore_nS (lv' := [(0, .ref mb), (1, rj_i p), (2, rj_i w), (3, rj_i ((sp_bits (sp_hasB s p w) k) + (2 ^ k))), (4, rj_i (k : Int)), (5, rj_i (rj_b (sp_so s (s 4) (-13) 99 p (k : Int) = true))), (6, rj_i 1)]) rfl (by decide) rfl dX12_has_107 ?_
                      refine go_iincI (a := (k : Int)) (n := 1) (k0 := 4) (lv' := [(0, .ref mb), (1, rj_i p), (2, rj_i w), (3, rj_i ((sp_bits (sp_hasB s p w) k) + (2 ^ k))), (4, rj_i ((k : Int) + 1)), (5, rj_i (rj_b (sp_so s (s 4) (-13) 99 p (k : Int) = true))), (6, rj_i 1)]) rfl (by decide) rfl dX12_has_108 ?_
                      refine go_goto (tgt := 44) dX12_has_111 (by decide) ?_
                      refine go_sub (lv' := [(0, .ref mb), (1, rj_i p), (2, rj_i w), (3, rj_i ((sp_bits (sp_hasB s p w) k) + (2 ^ k))), (4, rj_i ((k : Int) + 1))]) (by intro q hq; simp only [List.mem_cons, List.not_mem_nil, or_false] at hq ⊢; rcases hq with rfl | rfl | rfl | rfl | rfl <;> simp) ?_
                      exact go_eq rfl (lv' := [(0, .ref mb), (1, rj_i p), (2, rj_i w), (3, rj_i (sp_bits (sp_hasB s p w) (k + 1))), (4, rj_i ((k + 1 : Nat) : Int))]) (rj_lk (rj_lk (rj_lk (rj_lj (by rw [sp_bits]; simp [sp_hasB, c_95, c_82, c_72, c_62, c_48]) (rj_lj (by omega) rfl))))) rfl rfl (ih (k + 1) r52 (by omega) ((hr.tr hr51).tr hr52))
              · refine go_iload dX12_has_65 5 rfl ?_
                refine go_goto (tgt := 90) dX12_has_67 (by decide) ?_
                refine go_istoreS (lv' := [(0, .ref mb), (1, rj_i p), (2, rj_i w), (3, rj_i (sp_bits (sp_hasB s p w) k)), (4, rj_i (k : Int)), (5, rj_i (rj_b (sp_so s (s 4) (-13) 99 p (k : Int) = true))), (6, rj_i (rj_b (sp_so s (s 4) (-13) 99 p (k : Int) = true)))]) (by decide) rfl dX12_has_90 ?_
                refine go_iload_n dX12_has_92 rfl 3 rfl ?_
                refine go_iload dX12_has_93 6 rfl ?_
                refine go_if_eqB (tgt := 105) dX12_has_95 (by decide) (fun c_95 => ?_) (fun c_95 => ?_)
                · refine go_iconst (v := Int32.ofInt 0) dX12_has_105 rfl ?_
                  refine go_orI ⟨k, by omega, (sp_bits_b (sp_hasB s p w) k).1, (sp_bits_b (sp_hasB s p w) k).2, by simp⟩ dX12_has_106 ?_
                  refine go_istore_nS (lv' := [(0, .ref mb), (1, rj_i p), (2, rj_i w), (3, rj_i ((sp_bits (sp_hasB s p w) k) + 0)), (4, rj_i (k : Int)), (5, rj_i (rj_b (sp_so s (s 4) (-13) 99 p (k : Int) = true))), (6, rj_i (rj_b (sp_so s (s 4) (-13) 99 p (k : Int) = true)))]) rfl (by decide) rfl dX12_has_107 ?_
                  refine go_iincI (a := (k : Int)) (n := 1) (k0 := 4) (lv' := [(0, .ref mb), (1, rj_i p), (2, rj_i w), (3, rj_i ((sp_bits (sp_hasB s p w) k) + 0)), (4, rj_i ((k : Int) + 1)), (5, rj_i (rj_b (sp_so s (s 4) (-13) 99 p (k : Int) = true))), (6, rj_i (rj_b (sp_so s (s 4) (-13) 99 p (k : Int) = true)))]) rfl (by decide) rfl dX12_has_108 ?_
                  refine go_goto (tgt := 44) dX12_has_111 (by decide) ?_
                  refine go_sub (lv' := [(0, .ref mb), (1, rj_i p), (2, rj_i w), (3, rj_i ((sp_bits (sp_hasB s p w) k) + 0)), (4, rj_i ((k : Int) + 1))]) (by intro q hq; simp only [List.mem_cons, List.not_mem_nil, or_false] at hq ⊢; rcases hq with rfl | rfl | rfl | rfl | rfl <;> simp) ?_
                  exact go_eq rfl (lv' := [(0, .ref mb), (1, rj_i p), (2, rj_i w), (3, rj_i (sp_bits (sp_hasB s p w) (k + 1))), (4, rj_i ((k + 1 : Nat) : Int))]) (rj_lk (rj_lk (rj_lk (rj_lj (by rw [sp_bits]; simp [sp_hasB, c_95, c_62, c_48]) (rj_lj (by omega) rfl))))) rfl rfl (ih (k + 1) r51 (by omega) (hr.tr hr51))
                · refine go_iconst (v := Int32.ofInt 1) dX12_has_98 rfl ?_
                  refine go_iload dX12_has_99 4 rfl ?_
                  refine go_shl1 (k := k) (by omega) dX12_has_101 ?_
                  refine go_goto (tgt := 106) dX12_has_102 (by decide) ?_
                  refine go_orI ⟨k, by omega, (sp_bits_b (sp_hasB s p w) k).1, (sp_bits_b (sp_hasB s p w) k).2, by simp⟩ dX12_has_106 ?_
                  refine go_istore_nS (lv' := [(0, .ref mb), (1, rj_i p), (2, rj_i w), (3, rj_i ((sp_bits (sp_hasB s p w) k) + (2 ^ k))), (4, rj_i (k : Int)), (5, rj_i (rj_b (sp_so s (s 4) (-13) 99 p (k : Int) = true))), (6, rj_i (rj_b (sp_so s (s 4) (-13) 99 p (k : Int) = true)))]) rfl (by decide) rfl dX12_has_107 ?_
                  refine go_iincI (a := (k : Int)) (n := 1) (k0 := 4) (lv' := [(0, .ref mb), (1, rj_i p), (2, rj_i w), (3, rj_i ((sp_bits (sp_hasB s p w) k) + (2 ^ k))), (4, rj_i ((k : Int) + 1)), (5, rj_i (rj_b (sp_so s (s 4) (-13) 99 p (k : Int) = true))), (6, rj_i (rj_b (sp_so s (s 4) (-13) 99 p (k : Int) = true)))]) rfl (by decide) rfl dX12_has_108 ?_
                  refine go_goto (tgt := 44) dX12_has_111 (by decide) ?_
                  refine go_sub (lv' := [(0, .ref mb), (1, rj_i p), (2, rj_i w), (3, rj_i ((sp_bits (sp_hasB s p w) k) + (2 ^ k))), (4, rj_i ((k : Int) + 1))]) (by intro q hq; simp only [List.mem_cons, List.not_mem_nil, or_false] at hq ⊢; rcases hq with rfl | rfl | rfl | rfl | rfl <;> simp) ?_
                  exact go_eq rfl (lv' := [(0, .ref mb), (1, rj_i p), (2, rj_i w), (3, rj_i (sp_bits (sp_hasB s p w) (k + 1))), (4, rj_i ((k + 1 : Nat) : Int))]) (rj_lk (rj_lk (rj_lk (rj_lj (by rw [sp_bits]; simp [sp_hasB, c_95, c_62, c_48]) (rj_lj (by omega) rfl))))) rfl rfl (ih (k + 1) r51 (by omega) (hr.tr hr51))
        exact go_eq rfl (lv' := [(0, .ref mb), (1, rj_i p), (2, rj_i w), (3, rj_i (sp_bits (sp_hasB s p w) 0)), (4, rj_i ((0 : Nat) : Int))]) (rj_lk (rj_lk (rj_lk (rj_lj (rfl) (rj_lj (by omega) rfl))))) rfl rfl (loop (8 : Int).toNat 0 r1 (by omega) rm_t.rf)
      · refine go_aload_n dX12_has_33 rfl 0 rfl ?_
        refine go_iload_n dX12_has_34 rfl 1 rfl ?_
        refine go_callV (d1 := d - 1) wVX12_193 kX12 rm_ob rfl (by omega) (m_hasOf (by omega) (p := p) (hs := (show r1 1 = s from q1_1)) (hD := (show r1 11 0 = s 4 from q1_11)) (by omega) hI (by omega)) rfl (Nat.le_of_ble_eq_true rfl) dX12_has_35 (fun w σ1 hP => ?_)
        obtain ⟨rfl, r2, hr2, rfl⟩ := hP
        have q2_1 : r2 1 = s := (hr2 1 (by decide) (by decide)).trans (show r1 1 = s from q1_1)
        have q2_2 : r2 2 = (r 2) := (hr2 2 (by decide) (by decide)).trans (show r1 2 = (r 2) from q1_2)
        have q2_3 : r2 3 0 = (r 3 0) := (congrFun (hr2 3 (by decide) (by decide)) 0).trans (show r1 3 0 = (r 3 0) from q1_3)
        have q2_17 : r2 17 = (r 17) := (hr2 17 (by decide) (by decide)).trans (show r1 17 = (r 17) from q1_17)
        have q2_18 : r2 18 0 = (r 18 0) := (congrFun (hr2 18 (by decide) (by decide)) 0).trans (show r1 18 0 = (r 18 0) from q1_18)
        have q2_11 : r2 11 0 = s 4 := (congrFun (hr2 11 (by decide) (by decide)) 0).trans (show r1 11 0 = s 4 from q1_11)
        refine go_retI rfl rfl ?_ dX12_has_38
        exact ⟨rj_vi (by unfold sp_hasF; rw [if_pos (by omega), if_pos (by omega)]), r2, ⟨(show r2 1 = s from q2_1), (show r2 2 = (r 2) from q2_2), (show r2 3 0 = (r 3 0) from q2_3), (show r2 17 = (r 17) from q2_17), (show r2 18 0 = (r 18 0) from q2_18)⟩, rfl⟩
    · refine go_iconst (v := Int32.ofInt (-1)) dX12_has_17 rfl ?_
      refine go_retI rfl rfl ?_ dX12_has_18
      exact ⟨rj_vi (by unfold sp_hasF; rw [if_neg (by omega)]), r, ⟨(show r 1 = s from hs), (show r 2 = (r 2) from rfl), (show r 3 0 = (r 3 0) from rfl), (show r 17 = (r 17) from rfl), (show r 18 0 = (r 18 0) from rfl)⟩, rfl⟩
def sp_freeF (s : Int → Int) (m p : Int) : Int := if (0 ≤ m ∧ m < s 0) ∧ (0 ≤ p ∧ p < s 1) then rj_b (sp_free s m p = true) else -1
set_option maxRecDepth 20000 in
/-- m_free -/
theorem m_free {X9 : rj_X} {σ : rj_H} {d : Nat} {mb : Nat} {r : rm_R} {m p : Int} (hd : 4 ≤ d) (hm : -2147483648 ≤ m ∧ m < 2147483648) (hp : -2147483648 ≤ p ∧ p < 2147483648) {s : Int → Int} (hs : r 1 = s) (hI : sp_I s) : rj_Cl X9 d yX12_free cX12_free 3 (some .int) [.ref mb, rj_i m, rj_i p] (rm_p X9 mb r σ) (fun w9 τ => w9 = some (rj_i (sp_freeF s m p)) ∧ ∃ r0, rm_V r r0 s ∧ τ = rm_p X9 mb r0 σ) := by
  obtain ⟨⟨h0, h1, h2, h3, h4, h5, h6, h7⟩, hM, hP, hW, hL, hV⟩ := id hI
  obtain ⟨v1, v2, v3, v4⟩ := id hV
  refine go_call (by decide +kernel) (Nat.le_of_ble_eq_true rfl) ?_
  refine go_eq (pc' := 0) (lv' := [(0, .ref mb), (1, rj_i m), (2, rj_i p)]) (st' := []) rfl rfl rfl rfl ?_
  refine go_aload_n dX12_free_0 rfl 0 rfl ?_
  refine go_iload_n dX12_free_1 rfl 1 rfl ?_
  refine go_callV (d1 := d - 1) wVX12_56 kX12 rm_ob rfl (by omega) (m_isMirror (m := m) (by omega) (by omega) (hs := (show r 1 = s from hs)) (by omega)) rfl (Nat.le_of_ble_eq_true rfl) dX12_free_2 (fun w σ1 hP => ?_)
  obtain ⟨rfl, rfl⟩ := hP
  refine go_if_eqB (tgt := 16) dX12_free_5 (by decide) (fun c_5 => ?_) (fun c_5 => ?_)
  · refine go_iconst (v := Int32.ofInt (-1)) dX12_free_16 rfl ?_
    refine go_retI rfl rfl ?_ dX12_free_17
    exact ⟨rj_vi (by unfold sp_freeF; rw [if_neg (by omega)]), r, ⟨(show r 1 = s from hs), (show r 2 = (r 2) from rfl), (show r 3 0 = (r 3 0) from rfl), (show r 17 = (r 17) from rfl), (show r 18 0 = (r 18 0) from rfl)⟩, rfl⟩
  · refine go_aload_n dX12_free_8 rfl 0 rfl ?_
    refine go_iload_n dX12_free_9 rfl 2 rfl ?_
    refine go_callV (d1 := d - 1) wVX12_59 kX12 rm_ob rfl (by omega) (m_isPatch (p := p) (by omega) (by omega) (hs := (show r 1 = s from hs)) (by omega)) rfl (Nat.le_of_ble_eq_true rfl) dX12_free_10 (fun w σ1 hP => ?_)
    obtain ⟨rfl, rfl⟩ := hP
    refine go_if_neB (tgt := 18) dX12_free_13 (by decide) (fun c_13 => ?_) (fun c_13 => ?_)
    · refine go_aload_n dX12_free_18 rfl 0 rfl ?_
      refine go_iload_n dX12_free_19 rfl 1 rfl ?_
      refine go_iload_n dX12_free_20 rfl 2 rfl ?_
      refine go_callV (d1 := d - 1) wVX12_160 kX12 rm_ob rfl (by omega) (m_isFree (by omega) (m := m) (p := p) (hs := (show r 1 = s from hs)) (by omega) (by omega) h0 h1 h2 hM hP hW) rfl (Nat.le_of_ble_eq_true rfl) dX12_free_21 (fun w σ1 hP => ?_)
      obtain ⟨rfl, rfl⟩ := hP
      refine go_if_eqB (tgt := 31) dX12_free_24 (by decide) (fun c_24 => ?_) (fun c_24 => ?_)
      · refine go_iconst (v := Int32.ofInt 0) dX12_free_31 rfl ?_
        refine go_retI rfl rfl ?_ dX12_free_32
        exact ⟨rj_vi (by unfold sp_freeF; rw [if_pos (by omega)]; exact (rj_bf c_24).symm), r, ⟨(show r 1 = s from hs), (show r 2 = (r 2) from rfl), (show r 3 0 = (r 3 0) from rfl), (show r 17 = (r 17) from rfl), (show r 18 0 = (r 18 0) from rfl)⟩, rfl⟩
      · refine go_iconst (v := Int32.ofInt 1) dX12_free_27 rfl ?_
        refine go_goto (tgt := 32) dX12_free_28 (by decide) ?_
        refine go_retI rfl rfl ?_ dX12_free_32
        exact ⟨rj_vi (by unfold sp_freeF; rw [if_pos (by omega)]; exact (rj_bt c_24).symm), r, ⟨(show r 1 = s from hs), (show r 2 = (r 2) from rfl), (show r 3 0 = (r 3 0) from rfl), (show r 17 = (r 17) from rfl), (show r 18 0 = (r 18 0) from rfl)⟩, rfl⟩
    · refine go_iconst (v := Int32.ofInt (-1)) dX12_free_16 rfl ?_
      refine go_retI rfl rfl ?_ dX12_free_17
      exact ⟨rj_vi (by unfold sp_freeF; rw [if_neg (by omega)]), r, ⟨(show r 1 = s from hs), (show r 2 = (r 2) from rfl), (show r 3 0 = (r 3 0) from rfl), (show r 17 = (r 17) from rfl), (show r 18 0 = (r 18 0) from rfl)⟩, rfl⟩
def sp_planOk (s : Int → Int) (m q p : Int) : Prop := (0 ≤ m ∧ m < s 0) ∧ (0 ≤ q ∧ q < 8) ∧ -1 ≤ p ∧ p < s 1
def sp_planF (s : Int → Int) (m q p : Int) : Int := if (0 ≤ m ∧ m < s 0) ∧ (0 ≤ q ∧ q < 8) ∧ -1 ≤ p ∧ p < s 1 then (if s (236 + 8 * m + q) = -1 then -5 else s (236 + 8 * m + q)) else -1
def sp_planS (s : Int → Int) (m q p : Int) : Int → Int := if (0 ≤ m ∧ m < s 0) ∧ (0 ≤ q ∧ q < 8) ∧ -1 ≤ p ∧ p < s 1 then rj_up s (236 + 8 * m + q) p else s
set_option maxRecDepth 20000 in
/-- m_plan -/
theorem m_plan {X9 : rj_X} {σ : rj_H} {d : Nat} {mb : Nat} {r : rm_R} {m q p : Int} (hd : 2 ≤ d) (hm : -2147483648 ≤ m ∧ m < 2147483648) (hq : -2147483648 ≤ q ∧ q < 2147483648) (hp : -2147483648 ≤ p ∧ p < 2147483648) {s : Int → Int} (hs : r 1 = s) (hI : sp_I s) : rj_Cl X9 d yX12_plan cX12_plan 6 (some .int) [.ref mb, rj_i m, rj_i q, rj_i p] (rm_p X9 mb r σ) (fun w9 τ => w9 = some (rj_i (sp_planF s m q p)) ∧ ∃ r0, rm_V r r0 (sp_planS s m q p) ∧ τ = rm_p X9 mb r0 σ) := by
  obtain ⟨⟨h0, h1, h2, h3, h4, h5, h6, h7⟩, hM, hP, hW, hL, hV⟩ := id hI
  obtain ⟨v1, v2, v3, v4⟩ := id hV
  refine go_call (by decide +kernel) (Nat.le_of_ble_eq_true rfl) ?_
  refine go_eq (pc' := 0) (lv' := [(0, .ref mb), (1, rj_i m), (2, rj_i q), (3, rj_i p)]) (st' := []) rfl rfl rfl rfl ?_
  refine go_aload_n dX12_plan_0 rfl 0 rfl ?_
  refine go_iload_n dX12_plan_1 rfl 1 rfl ?_
  refine go_callV (d1 := d - 1) wVX12_56 kX12 rm_ob rfl (by omega) (m_isMirror (m := m) (by omega) (by omega) (hs := (show r 1 = s from hs)) (by omega)) rfl (Nat.le_of_ble_eq_true rfl) dX12_plan_2 (fun w σ1 hP => ?_)
  obtain ⟨rfl, rfl⟩ := hP
  refine go_if_eqB (tgt := 31) dX12_plan_5 (by decide) (fun c_5 => ?_) (fun c_5 => ?_)
  · refine go_iconst (v := Int32.ofInt (-1)) dX12_plan_31 rfl ?_
    refine go_retI rfl rfl ?_ dX12_plan_32
    exact ⟨rj_vi (by unfold sp_planF; rw [if_neg (by omega)]), r, ⟨by unfold sp_planS; rw [if_neg (by omega)]; exact (show r 1 = s from hs), (show r 2 = (r 2) from rfl), (show r 3 0 = (r 3 0) from rfl), (show r 17 = (r 17) from rfl), (show r 18 0 = (r 18 0) from rfl)⟩, rfl⟩
  · refine go_iload_n dX12_plan_8 rfl 2 rfl ?_
    refine go_callS (d1 := d - 1) wSX12_181 rfl (by omega) (m_isQuarter (q := q) (by omega) (by omega)) rfl (Nat.le_of_ble_eq_true rfl) dX12_plan_9 (fun w σ1 hP => ?_)
    obtain ⟨rfl, rfl⟩ := hP
    refine go_if_eqB (tgt := 31) dX12_plan_12 (by decide) (fun c_12 => ?_) (fun c_12 => ?_)
    · refine go_iconst (v := Int32.ofInt (-1)) dX12_plan_31 rfl ?_
      refine go_retI rfl rfl ?_ dX12_plan_32
      exact ⟨rj_vi (by unfold sp_planF; rw [if_neg (by omega)]), r, ⟨by unfold sp_planS; rw [if_neg (by omega)]; exact (show r 1 = s from hs), (show r 2 = (r 2) from rfl), (show r 3 0 = (r 3 0) from rfl), (show r 17 = (r 17) from rfl), (show r 18 0 = (r 18 0) from rfl)⟩, rfl⟩
    · refine go_iload_n dX12_plan_15 rfl 3 rfl ?_
      refine go_iconst (v := Int32.ofInt (-1)) dX12_plan_16 rfl ?_
      refine go_aload_n dX12_plan_17 rfl 0 rfl ?_
      refine grm_g1 rfl dX12_plan_18 ?_
      refine go_iconst (v := Int32.ofInt 1) dX12_plan_21 rfl ?_
      refine grm_l1 (by omega) (by omega) dX12_plan_22 ?_
      rw [show r 1 = s from hs]
      refine go_iconst (v := Int32.ofInt 1) dX12_plan_23 rfl ?_
      refine go_subI dX12_plan_24 ?_
      refine go_callS (d1 := d - 1) wSX12_47 rfl (by omega) (m_in (v := p) (lo := (-1)) (hi := (s 1) - 1) (by omega) (by omega) (by omega)) rfl (Nat.le_of_ble_eq_true rfl) dX12_plan_25 (fun w σ1 hP => ?_)
      obtain ⟨rfl, rfl⟩ := hP
      refine go_if_neB (tgt := 33) dX12_plan_28 (by decide) (fun c_28 => ?_) (fun c_28 => ?_)
      · refine go_sipush (v := Int32.ofInt 236) dX12_plan_33 (by decide) ?_
        refine go_bipush (v := Int32.ofInt 8) dX12_plan_36 (by decide) ?_
        refine go_iload_n dX12_plan_38 rfl 1 rfl ?_
        refine go_mulI dX12_plan_39 ?_
        refine go_addI dX12_plan_40 ?_
        refine go_iload_n dX12_plan_41 rfl 2 rfl ?_
        refine go_addI dX12_plan_42 ?_
        refine go_istoreS (lv' := [(0, .ref mb), (1, rj_i m), (2, rj_i q), (3, rj_i p), (4, rj_i ((236 + (8 * m)) + q))]) (by decide) rfl dX12_plan_43 ?_
        have l1 := hL m q (by omega) (by omega) (by omega) (by omega)
        refine go_aload_n dX12_plan_45 rfl 0 rfl ?_
        refine grm_g1 rfl dX12_plan_46 ?_
        refine go_iload dX12_plan_49 4 rfl ?_
        refine grm_l1 (by omega) (by omega) dX12_plan_51 ?_
        rw [show r 1 = s from hs]
        refine go_istoreS (lv' := [(0, .ref mb), (1, rj_i m), (2, rj_i q), (3, rj_i p), (4, rj_i ((236 + (8 * m)) + q)), (5, rj_i (s ((236 + (8 * m)) + q)))]) (by decide) rfl dX12_plan_52 ?_
        refine go_aload_n dX12_plan_54 rfl 0 rfl ?_
        refine grm_g1 rfl dX12_plan_55 ?_
        refine go_iload dX12_plan_58 4 rfl ?_
        refine go_iload_n dX12_plan_60 rfl 3 rfl ?_
        refine grm_s1 (by omega) (by omega) dX12_plan_61 ?_
        refine go_iload dX12_plan_62 5 rfl ?_
        refine go_iconst (v := Int32.ofInt (-1)) dX12_plan_64 rfl ?_
        refine go_icmp_neI (tgt := 73) (by omega) (by omega) dX12_plan_65 (by decide) (fun c_65 => ?_) (fun c_65 => ?_)
        · refine go_iload dX12_plan_73 5 rfl ?_
          refine go_retI rfl rfl ?_ dX12_plan_75
          exact ⟨rj_vi (by unfold sp_planF; rw [if_pos (by omega), if_neg (by omega)]), (rm_u r 1 (rj_up (r 1) ((236 + (8 * m)) + q) p)), ⟨by unfold sp_planS; rw [if_pos (by omega)]; exact (show (rm_u r 1 (rj_up (r 1) ((236 + (8 * m)) + q) p)) 1 = (rj_up s ((236 + (8 * m)) + q) p) from (congrArg (fun zz => rj_up zz ((236 + (8 * m)) + q) p) (show r 1 = s from hs))), (show (rm_u r 1 (rj_up (r 1) ((236 + (8 * m)) + q) p)) 2 = (r 2) from rfl), (show (rm_u r 1 (rj_up (r 1) ((236 + (8 * m)) + q) p)) 3 0 = (r 3 0) from rfl), (show (rm_u r 1 (rj_up (r 1) ((236 + (8 * m)) + q) p)) 17 = (r 17) from rfl), (show (rm_u r 1 (rj_up (r 1) ((236 + (8 * m)) + q) p)) 18 0 = (r 18 0) from rfl)⟩, rfl⟩
        · refine go_bipush (v := Int32.ofInt (-5)) dX12_plan_68 (by decide) ?_
          refine go_goto (tgt := 75) dX12_plan_70 (by decide) ?_
          refine go_retI rfl rfl ?_ dX12_plan_75
          exact ⟨rj_vi (by unfold sp_planF; rw [if_pos (by omega), if_pos (by omega)]), (rm_u r 1 (rj_up (r 1) ((236 + (8 * m)) + q) p)), ⟨by unfold sp_planS; rw [if_pos (by omega)]; exact (show (rm_u r 1 (rj_up (r 1) ((236 + (8 * m)) + q) p)) 1 = (rj_up s ((236 + (8 * m)) + q) p) from (congrArg (fun zz => rj_up zz ((236 + (8 * m)) + q) p) (show r 1 = s from hs))), (show (rm_u r 1 (rj_up (r 1) ((236 + (8 * m)) + q) p)) 2 = (r 2) from rfl), (show (rm_u r 1 (rj_up (r 1) ((236 + (8 * m)) + q) p)) 3 0 = (r 3 0) from rfl), (show (rm_u r 1 (rj_up (r 1) ((236 + (8 * m)) + q) p)) 17 = (r 17) from rfl), (show (rm_u r 1 (rj_up (r 1) ((236 + (8 * m)) + q) p)) 18 0 = (r 18 0) from rfl)⟩, rfl⟩
      · refine go_iconst (v := Int32.ofInt (-1)) dX12_plan_31 rfl ?_
        refine go_retI rfl rfl ?_ dX12_plan_32
        exact ⟨rj_vi (by unfold sp_planF; rw [if_neg (by omega)]), r, ⟨by unfold sp_planS; rw [if_neg (by omega)]; exact (show r 1 = s from hs), (show r 2 = (r 2) from rfl), (show r 3 0 = (r 3 0) from rfl), (show r 17 = (r 17) from rfl), (show r 18 0 = (r 18 0) from rfl)⟩, rfl⟩
/-- snow that is left behind n days -/
def sp_left (s : Int → Int) (p : Int) : Nat → Int
  | 0 => s (190 + p)
  | n + 1 => sp_left s p n - sp_sunny s (s 4 + (n : Int)) p
/-- in how many days of n more, from k on, snow is gone -/
def sp_goneN (s : Int → Int) (p : Int) : Nat → Nat → Int
  | 0, _ => -5
  | n + 1, k => if sp_left s p k ≤ 0 then (k : Int) else sp_goneN s p n (k + 1)
def sp_goneF (s : Int → Int) (p : Int) : Int := if 0 ≤ p ∧ p < s 1 then sp_goneN s p 31 0 else -1
theorem sp_left_b {s : Int → Int} {p : Int} (h : 0 ≤ s (190 + p) ∧ s (190 + p) ≤ 20) : ∀ n : Nat, -8 * (n : Int) ≤ sp_left s p n ∧ sp_left s p n ≤ 20
  | 0 => by simp [sp_left]; omega
  | n + 1 => by
    have h1 := sp_left_b h n
    have h2 := sp_sunny_b s (s 4 + (n : Int)) p
    rw [sp_left]
    omega
set_option maxRecDepth 20000 in
/-- m_gone -/
theorem m_gone {X9 : rj_X} {σ : rj_H} {d : Nat} {mb : Nat} {r : rm_R} {p : Int} (hd : 7 ≤ d) (hp : -2147483648 ≤ p ∧ p < 2147483648) {s : Int → Int} (hs : r 1 = s) (hI : sp_I s) : rj_Cl X9 d yX12_gone cX12_gone 4 (some .int) [.ref mb, rj_i p] (rm_p X9 mb r σ) (fun w9 τ => w9 = some (rj_i (sp_goneF s p)) ∧ ∃ r0, rm_V r r0 s ∧ τ = rm_p X9 mb r0 σ) := by
  obtain ⟨⟨h0, h1, h2, h3, h4, h5, h6, h7⟩, hM, hP, hW, hL, hV⟩ := id hI
  obtain ⟨v1, v2, v3, v4⟩ := id hV
  refine go_call (by decide +kernel) (Nat.le_of_ble_eq_true rfl) ?_
  refine go_eq (pc' := 0) (lv' := [(0, .ref mb), (1, rj_i p)]) (st' := []) rfl rfl rfl rfl ?_
  refine go_aload_n dX12_gone_0 rfl 0 rfl ?_
  refine go_iload_n dX12_gone_1 rfl 1 rfl ?_
  refine go_callV (d1 := d - 1) wVX12_59 kX12 rm_ob rfl (by omega) (m_isPatch (p := p) (by omega) (by omega) (hs := (show r 1 = s from hs)) (by omega)) rfl (Nat.le_of_ble_eq_true rfl) dX12_gone_2 (fun w σ1 hP => ?_)
  obtain ⟨rfl, rfl⟩ := hP
  refine go_if_neB (tgt := 10) dX12_gone_5 (by decide) (fun c_5 => ?_) (fun c_5 => ?_)
  · obtain ⟨p1, p2, p3, p4⟩ := hP p (by omega) (by omega)
    refine go_aload_n dX12_gone_10 rfl 0 rfl ?_
    refine grm_g1 rfl dX12_gone_11 ?_
    refine go_sipush (v := Int32.ofInt 190) dX12_gone_14 (by decide) ?_
    refine go_iload_n dX12_gone_17 rfl 1 rfl ?_
    refine go_addI dX12_gone_18 ?_
    refine grm_l1 (by omega) (by omega) dX12_gone_19 ?_
    rw [show r 1 = s from hs]
    refine go_istore_nS (lv' := [(0, .ref mb), (1, rj_i p), (2, rj_i (s (190 + p)))]) rfl (by decide) rfl dX12_gone_20 ?_
    refine go_iconst (v := Int32.ofInt 0) dX12_gone_21 rfl ?_
    refine go_istore_nS (lv' := [(0, .ref mb), (1, rj_i p), (2, rj_i (s (190 + p))), (3, rj_i 0)]) rfl (by decide) rfl dX12_gone_22 ?_
    have loop : ∀ (n k : Nat) (rl : rm_R), k + n = 31 → sp_goneF s p = sp_goneN s p n k → rl 1 = s → rl 2 = (r 2) → rl 3 0 = (r 3 0) → rl 17 = (r 17) → rl 18 0 = (r 18 0) → rj_Go X9 yX12_gone cX12_gone 4 (some .int) d (fun w9 τ => w9 = some (rj_i (sp_goneF s p)) ∧ ∃ r0, rm_V r r0 s ∧ τ = rm_p X9 mb r0 σ) 23 [(0, .ref mb), (1, rj_i p), (2, rj_i (sp_left s p k)), (3, rj_i (k : Int))] [] (rm_p X9 mb rl σ) := by
      intro n
      induction n with
      | zero =>
        intro k rl hk hg el1 el2 el3 el17 el18
        have lb := sp_left_b (s := s) (p := p) (by omega) k
        refine go_iload_n dX12_gone_23 rfl 3 rfl ?_
        refine go_bipush (v := Int32.ofInt 30) dX12_gone_24 (by decide) ?_
        refine go_icmp_gtI (tgt := 61) (by omega) (by omega) dX12_gone_26 (by decide) (fun c_26 => ?_) (fun c_26 => ?_)
        · refine go_bipush (v := Int32.ofInt (-5)) dX12_gone_61 (by decide) ?_
          refine go_retI rfl rfl ?_ dX12_gone_63
          exact ⟨rj_vi (by rw [hg]; rfl), rl, ⟨(show rl 1 = s from el1), (show rl 2 = (r 2) from el2), (show rl 3 0 = (r 3 0) from el3), (show rl 17 = (r 17) from el17), (show rl 18 0 = (r 18 0) from el18)⟩, rfl⟩
        · exact absurd c_26 (by omega)
      | succ n ih =>
        intro k rl hk hg el1 el2 el3 el17 el18
        have lb := sp_left_b (s := s) (p := p) (by omega) k
        have sb := sp_sunny_b s (s 4 + (k : Int)) p
        refine go_iload_n dX12_gone_23 rfl 3 rfl ?_
        refine go_bipush (v := Int32.ofInt 30) dX12_gone_24 (by decide) ?_
        refine go_icmp_gtI (tgt := 61) (by omega) (by omega) dX12_gone_26 (by decide) (fun c_26 => ?_) (fun c_26 => ?_)
        · exact absurd c_26 (by omega)
        · refine go_iload_n dX12_gone_29 rfl 2 rfl ?_
          refine go_if_gtI (tgt := 35) (by omega) dX12_gone_30 (by decide) (fun c_30 => ?_) (fun c_30 => ?_)
          · refine go_aload_n dX12_gone_35 rfl 0 rfl ?_
            refine go_aload_n dX12_gone_36 rfl 0 rfl ?_
            refine grm_g1 rfl dX12_gone_37 ?_
            refine go_iconst (v := Int32.ofInt 4) dX12_gone_40 rfl ?_
            refine grm_l1 (by omega) (by omega) dX12_gone_41 ?_
            rw [show rl 1 = s from el1]
            refine go_iload_n dX12_gone_42 rfl 3 rfl ?_
            refine go_addI dX12_gone_43 ?_
            refine grm_w11 rfl dX12_gone_44 ?_
            obtain ⟨r51, e51⟩ : ∃ x_, x_ = (rm_u rl 11 (fun _ => (s 4) + (k : Int))) := ⟨_, rfl⟩
            rw [← e51]
            have q51_1 : r51 1 = s := by rw [e51]; exact (show (rm_u rl 11 (fun _ => (s 4) + (k : Int))) 1 = s from el1)
            have q51_2 : r51 2 = (r 2) := by rw [e51]; exact (show (rm_u rl 11 (fun _ => (s 4) + (k : Int))) 2 = (r 2) from el2)
            have q51_3 : r51 3 0 = (r 3 0) := by rw [e51]; exact (show (rm_u rl 11 (fun _ => (s 4) + (k : Int))) 3 0 = (r 3 0) from el3)
            have q51_17 : r51 17 = (r 17) := by rw [e51]; exact (show (rm_u rl 11 (fun _ => (s 4) + (k : Int))) 17 = (r 17) from el17)
            have q51_18 : r51 18 0 = (r 18 0) := by rw [e51]; exact (show (rm_u rl 11 (fun _ => (s 4) + (k : Int))) 18 0 = (r 18 0) from el18)
            have q51_11 : r51 11 0 = (s 4) + (k : Int) := by rw [e51]; exact (show (rm_u rl 11 (fun _ => (s 4) + (k : Int))) 11 0 = (s 4) + (k : Int) from rfl)
            refine go_iload_n dX12_gone_47 rfl 2 rfl ?_
            refine go_aload_n dX12_gone_48 rfl 0 rfl ?_
            refine go_iload_n dX12_gone_49 rfl 1 rfl ?_
            refine go_callV (d1 := d - 1) wVX12_227 kX12 rm_ob rfl (by omega) (m_sunny (by omega) (p := p) (hs := (show r51 1 = s from q51_1)) (hD := (show r51 11 0 = (s 4) + (k : Int) from q51_11)) (by omega) hI (by omega)) rfl (Nat.le_of_ble_eq_true rfl) dX12_gone_50 (fun w σ1 hP => ?_)
            obtain ⟨rfl, r52, hr52, rfl⟩ := hP
            have q52_1 : r52 1 = s := (hr52 1 (by decide) (by decide)).trans (show r51 1 = s from q51_1)
            have q52_2 : r52 2 = (r 2) := (hr52 2 (by decide) (by decide)).trans (show r51 2 = (r 2) from q51_2)
            have q52_3 : r52 3 0 = (r 3 0) := (congrFun (hr52 3 (by decide) (by decide)) 0).trans (show r51 3 0 = (r 3 0) from q51_3)
            have q52_17 : r52 17 = (r 17) := (hr52 17 (by decide) (by decide)).trans (show r51 17 = (r 17) from q51_17)
            have q52_18 : r52 18 0 = (r 18 0) := (congrFun (hr52 18 (by decide) (by decide)) 0).trans (show r51 18 0 = (r 18 0) from q51_18)
            have q52_11 : r52 11 0 = (s 4) + (k : Int) := (congrFun (hr52 11 (by decide) (by decide)) 0).trans (show r51 11 0 = (s 4) + (k : Int) from q51_11)
            refine go_subI dX12_gone_53 ?_
            refine go_istore_nS (lv' := [(0, .ref mb), (1, rj_i p), (2, rj_i ((sp_left s p k) - (sp_sunny s ((s 4) + (k : Int)) p))), (3, rj_i (k : Int))]) rfl (by decide) rfl dX12_gone_54 ?_
            refine go_iincI (a := (k : Int)) (n := 1) (k0 := 3) (lv' := [(0, .ref mb), (1, rj_i p), (2, rj_i ((sp_left s p k) - (sp_sunny s ((s 4) + (k : Int)) p))), (3, rj_i ((k : Int) + 1))]) rfl (by decide) rfl dX12_gone_55 ?_
            refine go_goto (tgt := 23) dX12_gone_58 (by decide) ?_
            exact go_eq rfl (lv' := [(0, .ref mb), (1, rj_i p), (2, rj_i (sp_left s p (k + 1))), (3, rj_i ((k + 1 : Nat) : Int))]) (rj_lk (rj_lk (rj_lj (rfl) (rj_lj (by omega) rfl)))) rfl rfl (ih (k + 1) r52 (by omega) (by rw [hg, sp_goneN, if_neg (by omega)]) (show r52 1 = s from q52_1) (show r52 2 = (r 2) from q52_2) (show r52 3 0 = (r 3 0) from q52_3) (show r52 17 = (r 17) from q52_17) (show r52 18 0 = (r 18 0) from q52_18))
          · refine go_iload_n dX12_gone_33 rfl 3 rfl ?_
            refine go_retI rfl rfl ?_ dX12_gone_34
            exact ⟨rj_vi (by rw [hg, sp_goneN, if_pos (by omega)]), rl, ⟨(show rl 1 = s from el1), (show rl 2 = (r 2) from el2), (show rl 3 0 = (r 3 0) from el3), (show rl 17 = (r 17) from el17), (show rl 18 0 = (r 18 0) from el18)⟩, rfl⟩
    exact go_eq rfl (lv' := [(0, .ref mb), (1, rj_i p), (2, rj_i (sp_left s p 0)), (3, rj_i ((0 : Nat) : Int))]) (rj_lk (rj_lk (rj_lj (rfl) (rj_lj (rfl) rfl)))) rfl rfl (loop 31 0 r rfl (by unfold sp_goneF; rw [if_pos (by omega)]) (show r 1 = s from hs) (show r 2 = (r 2) from rfl) (show r 3 0 = (r 3 0) from rfl) (show r 17 = (r 17) from rfl) (show r 18 0 = (r 18 0) from rfl))
  · refine go_iconst (v := Int32.ofInt (-1)) dX12_gone_8 rfl ?_
    refine go_retI rfl rfl ?_ dX12_gone_9
    exact ⟨rj_vi (by unfold sp_goneF; rw [if_neg (by omega)]), r, ⟨(show r 1 = s from hs), (show r 2 = (r 2) from rfl), (show r 3 0 = (r 3 0) from rfl), (show r 17 = (r 17) from rfl), (show r 18 0 = (r 18 0) from rfl)⟩, rfl⟩
/-- worst off of the first n patches, and what it has -/
def sp_wz (s : Int → Int) (D : Int) : Nat → Int × Int
  | 0 => (-5, 0)
  | n + 1 => if (sp_wz s D n).1 = -5 ∨ sp_has s D (n : Int) < (sp_wz s D n).2 then ((n : Int), sp_has s D (n : Int)) else sp_wz s D n
def sp_worst (s : Int → Int) (D : Int) : Int := (sp_wz s D (s 1).toNat).1
theorem sp_wz_b {s : Int → Int} {D : Int} (h0 : 0 ≤ s 0 ∧ s 0 ≤ 6) (hM : sp_IM s) : ∀ n : Nat, (-5 ≤ (sp_wz s D n).1 ∧ (sp_wz s D n).1 < n ∧ ((sp_wz s D n).1 = -5 ↔ n = 0) ∧ ((sp_wz s D n).1 = -5 ∨ 0 ≤ (sp_wz s D n).1)) ∧ 0 ≤ (sp_wz s D n).2 ∧ (sp_wz s D n).2 ≤ 864
  | 0 => by simp [sp_wz]
  | n + 1 => by
    have h := sp_wz_b (D := D) h0 hM n
    have h2 := sp_has_b (D := D) (p := (n : Int)) h0 hM
    rw [sp_wz]
    split
    · refine ⟨⟨?_, ?_, ?_, ?_⟩, ?_⟩ <;> simp <;> omega
    · refine ⟨⟨?_, ?_, ?_, ?_⟩, ?_⟩ <;> omega
set_option maxRecDepth 20000 in
/-- m_worstOff -/
theorem m_worstOff {X9 : rj_X} {σ : rj_H} {d : Nat} {mb : Nat} {r : rm_R} (hd : 7 ≤ d) {s : Int → Int} {D : Int} (hs : r 1 = s) (hD : r 11 0 = D) (hD2 : 0 ≤ D ∧ D ≤ 200) (hI : sp_I s) : rj_Cl X9 d yX12_worstOff cX12_worstOff 6 (some .int) [.ref mb] (rm_p X9 mb r σ) (fun w9 τ => w9 = some (rj_i (sp_worst s D)) ∧ ∃ r0, rm_t r r0 ∧ τ = rm_p X9 mb r0 σ) := by
  obtain ⟨⟨h0, h1, h2, h3, h4, h5, h6, h7⟩, hM, hP, hW, hL, hV⟩ := id hI
  obtain ⟨v1, v2, v3, v4⟩ := id hV
  refine go_call (by decide +kernel) (Nat.le_of_ble_eq_true rfl) ?_
  refine go_eq (pc' := 0) (lv' := [(0, .ref mb)]) (st' := []) rfl rfl rfl rfl ?_
  refine go_bipush (v := Int32.ofInt (-5)) dX12_worstOff_0 (by decide) ?_
  refine go_istore_nS (lv' := [(0, .ref mb), (1, rj_i (-5))]) rfl (by decide) rfl dX12_worstOff_2 ?_
  refine go_iconst (v := Int32.ofInt 0) dX12_worstOff_3 rfl ?_
  refine go_istore_nS (lv' := [(0, .ref mb), (1, rj_i (-5)), (2, rj_i 0)]) rfl (by decide) rfl dX12_worstOff_4 ?_
  refine go_iconst (v := Int32.ofInt 0) dX12_worstOff_5 rfl ?_
  refine go_istore_nS (lv' := [(0, .ref mb), (1, rj_i (-5)), (2, rj_i 0), (3, rj_i 0)]) rfl (by decide) rfl dX12_worstOff_6 ?_
  have loop : ∀ (n k : Nat) (rl : rm_R), k + n = (s 1).toNat → rm_t r rl → rj_Go X9 yX12_worstOff cX12_worstOff 6 (some .int) d (fun w9 τ => w9 = some (rj_i (sp_worst s D)) ∧ ∃ r0, rm_t r r0 ∧ τ = rm_p X9 mb r0 σ) 7 [(0, .ref mb), (1, rj_i ((sp_wz s D k).1)), (2, rj_i ((sp_wz s D k).2)), (3, rj_i (k : Int))] [] (rm_p X9 mb rl σ) := by
    intro n
    induction n with
    | zero =>
      intro k rl hk hr 
      have el1 : rl 1 = s := (hr 1 (by decide) (by decide)).trans (show r 1 = s from hs)
      have el11 : rl 11 0 = D := (congrFun (hr 11 (by decide) (by decide)) 0).trans (show r 11 0 = D from hD)
      refine go_iload_n dX12_worstOff_7 rfl 3 rfl ?_
      refine go_aload_n dX12_worstOff_8 rfl 0 rfl ?_
      refine grm_g1 rfl dX12_worstOff_9 ?_
      refine go_iconst (v := Int32.ofInt 1) dX12_worstOff_12 rfl ?_
      refine grm_l1 (by omega) (by omega) dX12_worstOff_13 ?_
      rw [show rl 1 = s from el1]
      refine go_icmp_geI (tgt := 72) (by omega) (by omega) dX12_worstOff_14 (by decide) (fun c_14 => ?_) (fun c_14 => ?_)
      · refine go_iload_n dX12_worstOff_72 rfl 1 rfl ?_
        refine go_retI rfl rfl ?_ dX12_worstOff_73
        exact ⟨rj_vi (by unfold sp_worst; rw [show (s 1).toNat = k by omega]), rl, hr, rfl⟩
      · exact absurd c_14 (by omega)
    | succ n ih =>
      intro k rl hk hr 
      have el1 : rl 1 = s := (hr 1 (by decide) (by decide)).trans (show r 1 = s from hs)
      have el11 : rl 11 0 = D := (congrFun (hr 11 (by decide) (by decide)) 0).trans (show r 11 0 = D from hD)
      have wb := sp_wz_b (D := D) h0 hM k
      have hb := sp_has_b (D := D) (p := (k : Int)) h0 hM
      refine go_iload_n dX12_worstOff_7 rfl 3 rfl ?_
      refine go_aload_n dX12_worstOff_8 rfl 0 rfl ?_
      refine grm_g1 rfl dX12_worstOff_9 ?_
      refine go_iconst (v := Int32.ofInt 1) dX12_worstOff_12 rfl ?_
      refine grm_l1 (by omega) (by omega) dX12_worstOff_13 ?_
      rw [show rl 1 = s from el1]
      refine go_icmp_geI (tgt := 72) (by omega) (by omega) dX12_worstOff_14 (by decide) (fun c_14 => ?_) (fun c_14 => ?_)
      · exact absurd c_14 (by omega)
      · refine go_aload_n dX12_worstOff_17 rfl 0 rfl ?_
        refine go_iload_n dX12_worstOff_18 rfl 3 rfl ?_
        refine go_callV (d1 := d - 1) wVX12_193 kX12 rm_ob rfl (by omega) (m_hasOf (by omega) (p := (k : Int)) (hs := (show rl 1 = s from el1)) (hD := (show rl 11 0 = D from el11)) (by omega) hI (by omega)) rfl (Nat.le_of_ble_eq_true rfl) dX12_worstOff_19 (fun w σ1 hP => ?_)
        obtain ⟨rfl, r51, hr51, rfl⟩ := hP
        have q51_1 : r51 1 = s := (hr51 1 (by decide) (by decide)).trans (show rl 1 = s from el1)
        have q51_11 : r51 11 0 = D := (congrFun (hr51 11 (by decide) (by decide)) 0).trans (show rl 11 0 = D from el11)
        refine go_istoreS (lv' := [(0, .ref mb), (1, rj_i ((sp_wz s D k).1)), (2, rj_i ((sp_wz s D k).2)), (3, rj_i (k : Int)), (4, rj_i (sp_has s D (k : Int)))]) (by decide) rfl dX12_worstOff_22 ?_
        refine go_iload_n dX12_worstOff_24 rfl 1 rfl ?_
        refine go_bipush (v := Int32.ofInt (-5)) dX12_worstOff_25 (by decide) ?_
        refine go_icmp_eqI (tgt := 36) (by omega) (by omega) dX12_worstOff_27 (by decide) (fun c_27 => ?_) (fun c_27 => ?_)
        · refine go_iconst (v := Int32.ofInt 1) dX12_worstOff_36 rfl ?_
          refine go_goto (tgt := 41) dX12_worstOff_37 (by decide) ?_
          refine go_istoreS (lv' := [(0, .ref mb), (1, rj_i ((sp_wz s D k).1)), (2, rj_i ((sp_wz s D k).2)), (3, rj_i (k : Int)), (4, rj_i (sp_has s D (k : Int))), (5, rj_i 1)]) (by decide) rfl dX12_worstOff_41 ?_
          refine go_iload dX12_worstOff_43 5 rfl ?_
          refine go_if_eqI (tgt := 52) (by omega) dX12_worstOff_45 (by decide) (fun c_45 => ?_) (fun c_45 => ?_)
          · exact absurd c_45 (by omega)
          · refine go_iload_n dX12_worstOff_48 rfl 3 rfl ?_
            refine go_goto (tgt := 53) dX12_worstOff_49 (by decide) ?_
            refine go_istore_nS (lv' := [(0, .ref mb), (1, rj_i (k : Int)), (2, rj_i ((sp_wz s D k).2)), (3, rj_i (k : Int)), (4, rj_i (sp_has s D (k : Int))), (5, rj_i 1)]) rfl (by decide) rfl dX12_worstOff_53 ?_
            refine go_iload dX12_worstOff_54 5 rfl ?_
            refine go_if_eqI (tgt := 64) (by omega) dX12_worstOff_56 (by decide) (fun c_56 => ?_) (fun c_56 => ?_)
            · exact absurd c_56 (by omega)
            · refine go_iload dX12_worstOff_59 4 rfl ?_
              refine go_goto (tgt := 65) dX12_worstOff_61 (by decide) ?_
              refine go_istore_nS (lv' := [(0, .ref mb), (1, rj_i (k : Int)), (2, rj_i (sp_has s D (k : Int))), (3, rj_i (k : Int)), (4, rj_i (sp_has s D (k : Int))), (5, rj_i 1)]) rfl (by decide) rfl dX12_worstOff_65 ?_
              refine go_iincI (a := (k : Int)) (n := 1) (k0 := 3) (lv' := [(0, .ref mb), (1, rj_i (k : Int)), (2, rj_i (sp_has s D (k : Int))), (3, rj_i ((k : Int) + 1)), (4, rj_i (sp_has s D (k : Int))), (5, rj_i 1)]) rfl (by decide) rfl dX12_worstOff_66 ?_
              refine go_goto (tgt := 7) dX12_worstOff_69 (by decide) ?_
              refine go_sub (lv' := [(0, .ref mb), (1, rj_i (k : Int)), (2, rj_i (sp_has s D (k : Int))), (3, rj_i ((k : Int) + 1))]) (by intro q hq; simp only [List.mem_cons, List.not_mem_nil, or_false] at hq ⊢; rcases hq with rfl | rfl | rfl | rfl <;> simp) ?_
              exact go_eq rfl (lv' := [(0, .ref mb), (1, rj_i ((sp_wz s D (k + 1)).1)), (2, rj_i ((sp_wz s D (k + 1)).2)), (3, rj_i ((k + 1 : Nat) : Int))]) (rj_lk (rj_lj (by rw [sp_wz, if_pos (by omega)]) (rj_lj (by rw [sp_wz, if_pos (by omega)]) (rj_lj (by omega) rfl)))) rfl rfl (ih (k + 1) r51 (by omega) (hr.tr hr51))
        · refine go_iload dX12_worstOff_30 4 rfl ?_
          refine go_iload_n dX12_worstOff_32 rfl 2 rfl ?_
          refine go_icmp_geI (tgt := 40) (by omega) (by omega) dX12_worstOff_33 (by decide) (fun c_33 => ?_) (fun c_33 => ?_)
          · refine go_iconst (v := Int32.ofInt 0) dX12_worstOff_40 rfl ?_
            refine go_istoreS (lv' := [(0, .ref mb), (1, rj_i ((sp_wz s D k).1)), (2, rj_i ((sp_wz s D k).2)), (3, rj_i (k : Int)), (4, rj_i (sp_has s D (k : Int))), (5, rj_i 0)]) (by decide) rfl dX12_worstOff_41 ?_
            refine go_iload dX12_worstOff_43 5 rfl ?_
            refine go_if_eqI (tgt := 52) (by omega) dX12_worstOff_45 (by decide) (fun c_45 => ?_) (fun c_45 => ?_)
            · refine go_iload_n dX12_worstOff_52 rfl 1 rfl ?_
              refine go_istore_nS (lv' := [(0, .ref mb), (1, rj_i ((sp_wz s D k).1)), (2, rj_i ((sp_wz s D k).2)), (3, rj_i (k : Int)), (4, rj_i (sp_has s D (k : Int))), (5, rj_i 0)]) rfl (by decide) rfl dX12_worstOff_53 ?_
              refine go_iload dX12_worstOff_54 5 rfl ?_
              refine go_if_eqI (tgt := 64) (by omega) dX12_worstOff_56 (by decide) (fun c_56 => ?_) (fun c_56 => ?_)
              · refine go_iload_n dX12_worstOff_64 rfl 2 rfl ?_
                refine go_istore_nS (lv' := [(0, .ref mb), (1, rj_i ((sp_wz s D k).1)), (2, rj_i ((sp_wz s D k).2)), (3, rj_i (k : Int)), (4, rj_i (sp_has s D (k : Int))), (5, rj_i 0)]) rfl (by decide) rfl dX12_worstOff_65 ?_
                refine go_iincI (a := (k : Int)) (n := 1) (k0 := 3) (lv' := [(0, .ref mb), (1, rj_i ((sp_wz s D k).1)), (2, rj_i ((sp_wz s D k).2)), (3, rj_i ((k : Int) + 1)), (4, rj_i (sp_has s D (k : Int))), (5, rj_i 0)]) rfl (by decide) rfl dX12_worstOff_66 ?_
                refine go_goto (tgt := 7) dX12_worstOff_69 (by decide) ?_
                refine go_sub (lv' := [(0, .ref mb), (1, rj_i ((sp_wz s D k).1)), (2, rj_i ((sp_wz s D k).2)), (3, rj_i ((k : Int) + 1))]) (by intro q hq; simp only [List.mem_cons, List.not_mem_nil, or_false] at hq ⊢; rcases hq with rfl | rfl | rfl | rfl <;> simp) ?_
                exact go_eq rfl (lv' := [(0, .ref mb), (1, rj_i ((sp_wz s D (k + 1)).1)), (2, rj_i ((sp_wz s D (k + 1)).2)), (3, rj_i ((k + 1 : Nat) : Int))]) (rj_lk (rj_lj (by rw [sp_wz, if_neg (by omega)]) (rj_lj (by rw [sp_wz, if_neg (by omega)]) (rj_lj (by omega) rfl)))) rfl rfl (ih (k + 1) r51 (by omega) (hr.tr hr51))
              · exact absurd c_56 (by omega)
            · exact absurd c_45 (by omega)
          · refine go_iconst (v := Int32.ofInt 1) dX12_worstOff_36 rfl ?_
            refine go_goto (tgt := 41) dX12_worstOff_37 (by decide) ?_
            refine go_istoreS (lv' := [(0, .ref mb), (1, rj_i ((sp_wz s D k).1)), (2, rj_i ((sp_wz s D k).2)), (3, rj_i (k : Int)), (4, rj_i (sp_has s D (k : Int))), (5, rj_i 1)]) (by decide) rfl dX12_worstOff_41 ?_
            refine go_iload dX12_worstOff_43 5 rfl ?_
            refine go_if_eqI (tgt := 52) (by omega) dX12_worstOff_45 (by decide) (fun c_45 => ?_) (fun c_45 => ?_)
            · exact absurd c_45 (by omega)
            · refine go_iload_n dX12_worstOff_48 rfl 3 rfl ?_
              refine go_goto (tgt := 53) dX12_worstOff_49 (by decide) ?_
              refine go_istore_nS (lv' := [(0, .ref mb), (1, rj_i (k : Int)), (2, rj_i ((sp_wz s D k).2)), (3, rj_i (k : Int)), (4, rj_i (sp_has s D (k : Int))), (5, rj_i 1)]) rfl (by decide) rfl dX12_worstOff_53 ?_
              refine go_iload dX12_worstOff_54 5 rfl ?_
              refine go_if_eqI (tgt := 64) (by omega) dX12_worstOff_56 (by decide) (fun c_56 => ?_) (fun c_56 => ?_)
              · exact absurd c_56 (by omega)
              · refine go_iload dX12_worstOff_59 4 rfl ?_
                refine go_goto (tgt := 65) dX12_worstOff_61 (by decide) ?_
                refine go_istore_nS (lv' := [(0, .ref mb), (1, rj_i (k : Int)), (2, rj_i (sp_has s D (k : Int))), (3, rj_i (k : Int)), (4, rj_i (sp_has s D (k : Int))), (5, rj_i 1)]) rfl (by decide) rfl dX12_worstOff_65 ?_
                refine go_iincI (a := (k : Int)) (n := 1) (k0 := 3) (lv' := [(0, .ref mb), (1, rj_i (k : Int)), (2, rj_i (sp_has s D (k : Int))), (3, rj_i ((k : Int) + 1)), (4, rj_i (sp_has s D (k : Int))), (5, rj_i 1)]) rfl (by decide) rfl dX12_worstOff_66 ?_
                refine go_goto (tgt := 7) dX12_worstOff_69 (by decide) ?_
                refine go_sub (lv' := [(0, .ref mb), (1, rj_i (k : Int)), (2, rj_i (sp_has s D (k : Int))), (3, rj_i ((k : Int) + 1))]) (by intro q hq; simp only [List.mem_cons, List.not_mem_nil, or_false] at hq ⊢; rcases hq with rfl | rfl | rfl | rfl <;> simp) ?_
                exact go_eq rfl (lv' := [(0, .ref mb), (1, rj_i ((sp_wz s D (k + 1)).1)), (2, rj_i ((sp_wz s D (k + 1)).2)), (3, rj_i ((k + 1 : Nat) : Int))]) (rj_lk (rj_lj (by rw [sp_wz, if_pos (by omega)]) (rj_lj (by rw [sp_wz, if_pos (by omega)]) (rj_lj (by omega) rfl)))) rfl rfl (ih (k + 1) r51 (by omega) (hr.tr hr51))
  exact go_eq rfl (lv' := [(0, .ref mb), (1, rj_i ((sp_wz s D 0).1)), (2, rj_i ((sp_wz s D 0).2)), (3, rj_i ((0 : Nat) : Int))]) (rj_lk (rj_lj (rfl) (rj_lj (rfl) (rj_lj (by omega) rfl)))) rfl rfl (loop (s 1).toNat 0 r (by omega) rm_t.rf)
def sp_wv (s : Int → Int) (D p : Int) : Int := s (184 + p) * sp_has s D p
def sp_worthF (s : Int → Int) (w : Int) : Int := if 0 ≤ w ∧ w ≤ 1 then (if w = 1 then sp_worst s (s 4) else sp_sum (sp_wv s (s 4)) (s 1).toNat) else -1
set_option maxRecDepth 20000 in
/-- m_worth -/
theorem m_worth {X9 : rj_X} {σ : rj_H} {d : Nat} {mb : Nat} {r : rm_R} {w : Int} (hd : 8 ≤ d) (hw : -2147483648 ≤ w ∧ w < 2147483648) {s : Int → Int} (hs : r 1 = s) (hI : sp_I s) : rj_Cl X9 d yX12_worth cX12_worth 4 (some .int) [.ref mb, rj_i w] (rm_p X9 mb r σ) (fun w9 τ => w9 = some (rj_i (sp_worthF s w)) ∧ ∃ r0, rm_V r r0 s ∧ τ = rm_p X9 mb r0 σ) := by
  obtain ⟨⟨h0, h1, h2, h3, h4, h5, h6, h7⟩, hM, hP, hW, hL, hV⟩ := id hI
  obtain ⟨v1, v2, v3, v4⟩ := id hV
  refine go_call (by decide +kernel) (Nat.le_of_ble_eq_true rfl) ?_
  refine go_eq (pc' := 0) (lv' := [(0, .ref mb), (1, rj_i w)]) (st' := []) rfl rfl rfl rfl ?_
  refine go_iload_n dX12_worth_0 rfl 1 rfl ?_
  refine go_iconst (v := Int32.ofInt 0) dX12_worth_1 rfl ?_
  refine go_iconst (v := Int32.ofInt 1) dX12_worth_2 rfl ?_
  refine go_callS (d1 := d - 1) wSX12_47 rfl (by omega) (m_in (v := w) (lo := 0) (hi := 1) (by omega) (by omega) (by omega)) rfl (Nat.le_of_ble_eq_true rfl) dX12_worth_3 (fun w σ1 hP => ?_)
  obtain ⟨rfl, rfl⟩ := hP
  refine go_if_neB (tgt := 11) dX12_worth_6 (by decide) (fun c_6 => ?_) (fun c_6 => ?_)
  · refine go_aload_n dX12_worth_11 rfl 0 rfl ?_
    refine go_aload_n dX12_worth_12 rfl 0 rfl ?_
    refine grm_g1 rfl dX12_worth_13 ?_
    refine go_iconst (v := Int32.ofInt 4) dX12_worth_16 rfl ?_
    refine grm_l1 (by omega) (by omega) dX12_worth_17 ?_
    rw [show r 1 = s from hs]
    refine grm_w11 rfl dX12_worth_18 ?_
    obtain ⟨r1, e1⟩ : ∃ x_, x_ = (rm_u r 11 (fun _ => s 4)) := ⟨_, rfl⟩
    rw [← e1]
    have q1_1 : r1 1 = s := by rw [e1]; exact (show (rm_u r 11 (fun _ => s 4)) 1 = s from hs)
    have q1_2 : r1 2 = (r 2) := by rw [e1]; exact (show (rm_u r 11 (fun _ => s 4)) 2 = (r 2) from rfl)
    have q1_3 : r1 3 0 = (r 3 0) := by rw [e1]; exact (show (rm_u r 11 (fun _ => s 4)) 3 0 = (r 3 0) from rfl)
    have q1_17 : r1 17 = (r 17) := by rw [e1]; exact (show (rm_u r 11 (fun _ => s 4)) 17 = (r 17) from rfl)
    have q1_18 : r1 18 0 = (r 18 0) := by rw [e1]; exact (show (rm_u r 11 (fun _ => s 4)) 18 0 = (r 18 0) from rfl)
    have q1_11 : r1 11 0 = s 4 := by rw [e1]; exact (show (rm_u r 11 (fun _ => s 4)) 11 0 = s 4 from rfl)
    refine go_iload_n dX12_worth_21 rfl 1 rfl ?_
    refine go_iconst (v := Int32.ofInt 1) dX12_worth_22 rfl ?_
    refine go_icmp_neI (tgt := 31) (by omega) (by omega) dX12_worth_23 (by decide) (fun c_23 => ?_) (fun c_23 => ?_)
    · refine go_iconst (v := Int32.ofInt 0) dX12_worth_31 rfl ?_
      refine go_istore_nS (lv' := [(0, .ref mb), (1, rj_i w), (2, rj_i 0)]) rfl (by decide) rfl dX12_worth_32 ?_
      refine go_iconst (v := Int32.ofInt 0) dX12_worth_33 rfl ?_
      refine go_istore_nS (lv' := [(0, .ref mb), (1, rj_i w), (2, rj_i 0), (3, rj_i 0)]) rfl (by decide) rfl dX12_worth_34 ?_
      have loop : ∀ (n k : Nat) (rl : rm_R), k + n = (s 1).toNat → rm_t r1 rl → rj_Go X9 yX12_worth cX12_worth 4 (some .int) d (fun w9 τ => w9 = some (rj_i (sp_worthF s w)) ∧ ∃ r0, rm_V r r0 s ∧ τ = rm_p X9 mb r0 σ) 35 [(0, .ref mb), (1, rj_i w), (2, rj_i (sp_sum (sp_wv s (s 4)) k)), (3, rj_i (k : Int))] [] (rm_p X9 mb rl σ) := by
        intro n
        induction n with
        | zero =>
          intro k rl hk hr 
          have el1 : rl 1 = s := (hr 1 (by decide) (by decide)).trans (show r1 1 = s from q1_1)
          have el2 : rl 2 = (r 2) := (hr 2 (by decide) (by decide)).trans (show r1 2 = (r 2) from q1_2)
          have el3 : rl 3 0 = (r 3 0) := (congrFun (hr 3 (by decide) (by decide)) 0).trans (show r1 3 0 = (r 3 0) from q1_3)
          have el17 : rl 17 = (r 17) := (hr 17 (by decide) (by decide)).trans (show r1 17 = (r 17) from q1_17)
          have el18 : rl 18 0 = (r 18 0) := (congrFun (hr 18 (by decide) (by decide)) 0).trans (show r1 18 0 = (r 18 0) from q1_18)
          have el11 : rl 11 0 = s 4 := (congrFun (hr 11 (by decide) (by decide)) 0).trans (show r1 11 0 = s 4 from q1_11)
          refine go_iload_n dX12_worth_35 rfl 3 rfl ?_
          refine go_aload_n dX12_worth_36 rfl 0 rfl ?_
          refine grm_g1 rfl dX12_worth_37 ?_
          refine go_iconst (v := Int32.ofInt 1) dX12_worth_40 rfl ?_
          refine grm_l1 (by omega) (by omega) dX12_worth_41 ?_
          rw [show rl 1 = s from el1]
          refine go_icmp_geI (tgt := 70) (by omega) (by omega) dX12_worth_42 (by decide) (fun c_42 => ?_) (fun c_42 => ?_)
          · refine go_iload_n dX12_worth_70 rfl 2 rfl ?_
            refine go_retI rfl rfl ?_ dX12_worth_71
            exact ⟨rj_vi (by unfold sp_worthF; rw [if_pos (by omega), if_neg (by omega), show (s 1).toNat = k by omega]), rl, ⟨(show rl 1 = s from el1), (show rl 2 = (r 2) from el2), (show rl 3 0 = (r 3 0) from el3), (show rl 17 = (r 17) from el17), (show rl 18 0 = (r 18 0) from el18)⟩, rfl⟩
          · exact absurd c_42 (by omega)
        | succ n ih =>
          intro k rl hk hr 
          have el1 : rl 1 = s := (hr 1 (by decide) (by decide)).trans (show r1 1 = s from q1_1)
          have el2 : rl 2 = (r 2) := (hr 2 (by decide) (by decide)).trans (show r1 2 = (r 2) from q1_2)
          have el3 : rl 3 0 = (r 3 0) := (congrFun (hr 3 (by decide) (by decide)) 0).trans (show r1 3 0 = (r 3 0) from q1_3)
          have el17 : rl 17 = (r 17) := (hr 17 (by decide) (by decide)).trans (show r1 17 = (r 17) from q1_17)
          have el18 : rl 18 0 = (r 18 0) := (congrFun (hr 18 (by decide) (by decide)) 0).trans (show r1 18 0 = (r 18 0) from q1_18)
          have el11 : rl 11 0 = s 4 := (congrFun (hr 11 (by decide) (by decide)) 0).trans (show r1 11 0 = s 4 from q1_11)
          refine go_iload_n dX12_worth_35 rfl 3 rfl ?_
          refine go_aload_n dX12_worth_36 rfl 0 rfl ?_
          refine grm_g1 rfl dX12_worth_37 ?_
          refine go_iconst (v := Int32.ofInt 1) dX12_worth_40 rfl ?_
          refine grm_l1 (by omega) (by omega) dX12_worth_41 ?_
          rw [show rl 1 = s from el1]
          refine go_icmp_geI (tgt := 70) (by omega) (by omega) dX12_worth_42 (by decide) (fun c_42 => ?_) (fun c_42 => ?_)
          · exact absurd c_42 (by omega)
          · refine go_iload_n dX12_worth_45 rfl 2 rfl ?_
            refine go_aload_n dX12_worth_46 rfl 0 rfl ?_
            refine grm_g1 rfl dX12_worth_47 ?_
            refine go_sipush (v := Int32.ofInt 184) dX12_worth_50 (by decide) ?_
            refine go_iload_n dX12_worth_53 rfl 3 rfl ?_
            refine go_addI dX12_worth_54 ?_
            refine grm_l1 (by omega) (by omega) dX12_worth_55 ?_
            rw [show rl 1 = s from el1]
            refine go_aload_n dX12_worth_56 rfl 0 rfl ?_
            refine go_iload_n dX12_worth_57 rfl 3 rfl ?_
            refine go_callV (d1 := d - 1) wVX12_193 kX12 rm_ob rfl (by omega) (m_hasOf (by omega) (p := (k : Int)) (hs := (show rl 1 = s from el1)) (hD := (show rl 11 0 = s 4 from el11)) (by omega) hI (by omega)) rfl (Nat.le_of_ble_eq_true rfl) dX12_worth_58 (fun w σ1 hP => ?_)
            obtain ⟨rfl, r51, hr51, rfl⟩ := hP
            have q51_1 : r51 1 = s := (hr51 1 (by decide) (by decide)).trans (show rl 1 = s from el1)
            have q51_2 : r51 2 = (r 2) := (hr51 2 (by decide) (by decide)).trans (show rl 2 = (r 2) from el2)
            have q51_3 : r51 3 0 = (r 3 0) := (congrFun (hr51 3 (by decide) (by decide)) 0).trans (show rl 3 0 = (r 3 0) from el3)
            have q51_17 : r51 17 = (r 17) := (hr51 17 (by decide) (by decide)).trans (show rl 17 = (r 17) from el17)
            have q51_18 : r51 18 0 = (r 18 0) := (congrFun (hr51 18 (by decide) (by decide)) 0).trans (show rl 18 0 = (r 18 0) from el18)
            have q51_11 : r51 11 0 = s 4 := (congrFun (hr51 11 (by decide) (by decide)) 0).trans (show rl 11 0 = s 4 from el11)
            refine go_mulI dX12_worth_61 ?_
            refine go_addI dX12_worth_62 ?_
            refine go_istore_nS (lv' := [(0, .ref mb), (1, rj_i w), (2, rj_i ((sp_sum (sp_wv s (s 4)) k) + ((s (184 + (k : Int))) * (sp_has s (s 4) (k : Int))))), (3, rj_i (k : Int))]) rfl (by decide) rfl dX12_worth_63 ?_
            refine go_iincI (a := (k : Int)) (n := 1) (k0 := 3) (lv' := [(0, .ref mb), (1, rj_i w), (2, rj_i ((sp_sum (sp_wv s (s 4)) k) + ((s (184 + (k : Int))) * (sp_has s (s 4) (k : Int))))), (3, rj_i ((k : Int) + 1))]) rfl (by decide) rfl dX12_worth_64 ?_
            refine go_goto (tgt := 35) dX12_worth_67 (by decide) ?_
            exact go_eq rfl (lv' := [(0, .ref mb), (1, rj_i w), (2, rj_i (sp_sum (sp_wv s (s 4)) (k + 1))), (3, rj_i ((k + 1 : Nat) : Int))]) (rj_lk (rj_lk (rj_lj (rfl) (rj_lj (by omega) rfl)))) rfl rfl (ih (k + 1) r51 (by omega) (hr.tr hr51))
      exact go_eq rfl (lv' := [(0, .ref mb), (1, rj_i w), (2, rj_i (sp_sum (sp_wv s (s 4)) 0)), (3, rj_i ((0 : Nat) : Int))]) (rj_lk (rj_lk (rj_lj (rfl) (rj_lj (by omega) rfl)))) rfl rfl (loop (s 1).toNat 0 r1 (by omega) rm_t.rf)
    · refine go_aload_n dX12_worth_26 rfl 0 rfl ?_
      refine go_callV (d1 := d - 1) wVX12_199 kX12 rm_ob rfl (by omega) (m_worstOff (by omega) (hs := (show r1 1 = s from q1_1)) (hD := (show r1 11 0 = s 4 from q1_11)) (by omega) hI) rfl (Nat.le_of_ble_eq_true rfl) dX12_worth_27 (fun w σ1 hP => ?_)
      obtain ⟨rfl, r2, hr2, rfl⟩ := hP
      have q2_1 : r2 1 = s := (hr2 1 (by decide) (by decide)).trans (show r1 1 = s from q1_1)
      have q2_2 : r2 2 = (r 2) := (hr2 2 (by decide) (by decide)).trans (show r1 2 = (r 2) from q1_2)
      have q2_3 : r2 3 0 = (r 3 0) := (congrFun (hr2 3 (by decide) (by decide)) 0).trans (show r1 3 0 = (r 3 0) from q1_3)
      have q2_17 : r2 17 = (r 17) := (hr2 17 (by decide) (by decide)).trans (show r1 17 = (r 17) from q1_17)
      have q2_18 : r2 18 0 = (r 18 0) := (congrFun (hr2 18 (by decide) (by decide)) 0).trans (show r1 18 0 = (r 18 0) from q1_18)
      have q2_11 : r2 11 0 = s 4 := (congrFun (hr2 11 (by decide) (by decide)) 0).trans (show r1 11 0 = s 4 from q1_11)
      refine go_retI rfl rfl ?_ dX12_worth_30
      exact ⟨rj_vi (by unfold sp_worthF; rw [if_pos (by omega), if_pos (by omega)]), r2, ⟨(show r2 1 = s from q2_1), (show r2 2 = (r 2) from q2_2), (show r2 3 0 = (r 3 0) from q2_3), (show r2 17 = (r 17) from q2_17), (show r2 18 0 = (r 18 0) from q2_18)⟩, rfl⟩
  · refine go_iconst (v := Int32.ofInt (-1)) dX12_worth_9 rfl ?_
    refine go_retI rfl rfl ?_ dX12_worth_10
    exact ⟨rj_vi (by unfold sp_worthF; rw [if_neg (by omega)]), r, ⟨(show r 1 = s from hs), (show r 2 = (r 2) from rfl), (show r 3 0 = (r 3 0) from rfl), (show r 17 = (r 17) from rfl), (show r 18 0 = (r 18 0) from rfl)⟩, rfl⟩
