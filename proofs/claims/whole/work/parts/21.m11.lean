/-! THE REFERENCE, 11: ring, holds -/
def sp_r3 (s : Int → Int) (a b K : Int) : Nat → Nat → Int
  | 0, _ => K
  | n + 1, c => if sp_vb s a b = true ∧ sp_vb s b (c : Int) = true ∧ sp_vb s (c : Int) a = true then 100 * a + 10 * b + (c : Int) else sp_r3 s a b K n (c + 1)
def sp_r2 (s : Int → Int) (a : Nat) (K : Int) : Nat → Nat → Int
  | 0, _ => K
  | n + 1, b => sp_r3 s (a : Int) (b : Int) (sp_r2 s a K n (b + 1)) ((s 1).toNat - (a + 1)) (a + 1)
def sp_r1 (s : Int → Int) : Nat → Nat → Int
  | 0, _ => -5
  | n + 1, a => sp_r2 s a (sp_r1 s n (a + 1)) ((s 1).toNat - (a + 1)) (a + 1)
def sp_ring (s : Int → Int) : Int := sp_r1 s (s 1).toNat 0
set_option maxRecDepth 20000 in
/-- m_ring -/
theorem m_ring {X9 : rj_X} {σ : rj_H} {d : Nat} {mb : Nat} {r : rm_R} (hd : 1 ≤ d) {s : Int → Int} (hs : r 1 = s) (h1 : 0 ≤ s 1 ∧ s 1 ≤ 6) (h5 : 0 ≤ s 5 ∧ s 5 ≤ 5) (hT : sp_IT s) : rj_Cl X9 d yX12_ring cX12_ring 4 (some .int) [.ref mb] (rm_p X9 mb r σ) (fun w9 τ => w9 = some (rj_i (sp_ring s)) ∧ τ = (rm_p X9 mb r σ)) := by
  refine go_call (by decide +kernel) (Nat.le_of_ble_eq_true rfl) ?_
  refine go_eq (pc' := 0) (lv' := [(0, .ref mb)]) (st' := []) rfl rfl rfl rfl ?_
  refine go_iconst (v := Int32.ofInt 0) dX12_ring_0 rfl ?_
  refine go_istore_nS (lv' := [(0, .ref mb), (1, rj_i 0)]) rfl (by decide) rfl dX12_ring_1 ?_
  have loopa : ∀ na a : Nat, a + na = (s 1).toNat → (sp_ring s) = sp_r1 s na a → rj_Go X9 yX12_ring cX12_ring 4 (some .int) d (fun w9 τ => w9 = some (rj_i (sp_ring s)) ∧ τ = (rm_p X9 mb r σ)) 2 [(0, .ref mb), (1, rj_i (a : Int))] [] (rm_p X9 mb r σ) := by
    intro na
    induction na with
    | zero =>
      intro a hka hFa
      refine go_iload_n dX12_ring_2 rfl 1 rfl ?_
      refine go_aload_n dX12_ring_3 rfl 0 rfl ?_
      refine grm_g1 rfl dX12_ring_4 ?_
      refine go_iconst (v := Int32.ofInt 1) dX12_ring_7 rfl ?_
      refine grm_l1 (by omega) (by omega) dX12_ring_8 ?_
      rw [show r 1 = s from hs]
      refine go_icmp_geI (tgt := 97) (by omega) (by omega) dX12_ring_9 (by decide) (fun c_9 => ?_) (fun c_9 => ?_)
      · refine go_bipush (v := Int32.ofInt (-5)) dX12_ring_97 (by decide) ?_
        refine go_retI rfl rfl ?_ dX12_ring_99
        exact ⟨rj_vi (by rw [hFa]; rfl), rfl⟩
      · exact absurd c_9 (by omega)
    | succ na iha =>
      intro a hka hFa
      have hFa2 := hFa
      rw [sp_r1] at hFa2
      refine go_iload_n dX12_ring_2 rfl 1 rfl ?_
      refine go_aload_n dX12_ring_3 rfl 0 rfl ?_
      refine grm_g1 rfl dX12_ring_4 ?_
      refine go_iconst (v := Int32.ofInt 1) dX12_ring_7 rfl ?_
      refine grm_l1 (by omega) (by omega) dX12_ring_8 ?_
      rw [show r 1 = s from hs]
      refine go_icmp_geI (tgt := 97) (by omega) (by omega) dX12_ring_9 (by decide) (fun c_9 => ?_) (fun c_9 => ?_)
      · exact absurd c_9 (by omega)
      · refine go_iload_n dX12_ring_12 rfl 1 rfl ?_
        refine go_iconst (v := Int32.ofInt 1) dX12_ring_13 rfl ?_
        refine go_addI dX12_ring_14 ?_
        refine go_istore_nS (lv' := [(0, .ref mb), (1, rj_i (a : Int)), (2, rj_i ((a : Int) + 1))]) rfl (by decide) rfl dX12_ring_15 ?_
        have loopb : ∀ nb b : Nat, b + nb = (s 1).toNat → (sp_ring s) = sp_r2 s a (sp_r1 s na (a + 1)) nb b → rj_Go X9 yX12_ring cX12_ring 4 (some .int) d (fun w9 τ => w9 = some (rj_i (sp_ring s)) ∧ τ = (rm_p X9 mb r σ)) 16 [(0, .ref mb), (1, rj_i (a : Int)), (2, rj_i (b : Int))] [] (rm_p X9 mb r σ) := by
          intro nb
          induction nb with
          | zero =>
            intro b hkb hFb
            refine go_iload_n dX12_ring_16 rfl 2 rfl ?_
            refine go_aload_n dX12_ring_17 rfl 0 rfl ?_
            refine grm_g1 rfl dX12_ring_18 ?_
            refine go_iconst (v := Int32.ofInt 1) dX12_ring_21 rfl ?_
            refine grm_l1 (by omega) (by omega) dX12_ring_22 ?_
            rw [show r 1 = s from hs]
            refine go_icmp_geI (tgt := 91) (by omega) (by omega) dX12_ring_23 (by decide) (fun c_23 => ?_) (fun c_23 => ?_)
            · refine go_iincI (a := (a : Int)) (n := 1) (k0 := 1) (lv' := [(0, .ref mb), (1, rj_i ((a : Int) + 1)), (2, rj_i (b : Int))]) rfl (by decide) rfl dX12_ring_91 ?_
              refine go_goto (tgt := 2) dX12_ring_94 (by decide) ?_
              refine go_sub (lv' := [(0, .ref mb), (1, rj_i ((a : Int) + 1))]) (by intro q hq; simp only [List.mem_cons, List.not_mem_nil, or_false] at hq ⊢; rcases hq with rfl | rfl <;> simp) ?_
              exact go_eq rfl (lv' := [(0, .ref mb), (1, rj_i ((a + 1 : Nat) : Int))]) (rj_lk (rj_lj (by omega) rfl)) rfl rfl (iha (a + 1) (by omega) (by rw [hFb]; rfl))
            · exact absurd c_23 (by omega)
          | succ nb ihb =>
            intro b hkb hFb
            have hFb3 := hFb
            rw [sp_r2] at hFb3
            refine go_iload_n dX12_ring_16 rfl 2 rfl ?_
            refine go_aload_n dX12_ring_17 rfl 0 rfl ?_
            refine grm_g1 rfl dX12_ring_18 ?_
            refine go_iconst (v := Int32.ofInt 1) dX12_ring_21 rfl ?_
            refine grm_l1 (by omega) (by omega) dX12_ring_22 ?_
            rw [show r 1 = s from hs]
            refine go_icmp_geI (tgt := 91) (by omega) (by omega) dX12_ring_23 (by decide) (fun c_23 => ?_) (fun c_23 => ?_)
            · exact absurd c_23 (by omega)
            · refine go_iload_n dX12_ring_26 rfl 1 rfl ?_
              refine go_iconst (v := Int32.ofInt 1) dX12_ring_27 rfl ?_
              refine go_addI dX12_ring_28 ?_
              refine go_istore_nS (lv' := [(0, .ref mb), (1, rj_i (a : Int)), (2, rj_i (b : Int)), (3, rj_i ((a : Int) + 1))]) rfl (by decide) rfl dX12_ring_29 ?_
              have loopc : ∀ nc c : Nat, c + nc = (s 1).toNat → (sp_ring s) = sp_r3 s (a : Int) (b : Int) (sp_r2 s a (sp_r1 s na (a + 1)) nb (b + 1)) nc c → rj_Go X9 yX12_ring cX12_ring 4 (some .int) d (fun w9 τ => w9 = some (rj_i (sp_ring s)) ∧ τ = (rm_p X9 mb r σ)) 30 [(0, .ref mb), (1, rj_i (a : Int)), (2, rj_i (b : Int)), (3, rj_i (c : Int))] [] (rm_p X9 mb r σ) := by
                intro nc
                induction nc with
                | zero =>
                  intro c hkc hFc
                  refine go_iload_n dX12_ring_30 rfl 3 rfl ?_
                  refine go_aload_n dX12_ring_31 rfl 0 rfl ?_
                  refine grm_g1 rfl dX12_ring_32 ?_
                  refine go_iconst (v := Int32.ofInt 1) dX12_ring_35 rfl ?_
                  refine grm_l1 (by omega) (by omega) dX12_ring_36 ?_
                  rw [show r 1 = s from hs]
                  refine go_icmp_geI (tgt := 85) (by omega) (by omega) dX12_ring_37 (by decide) (fun c_37 => ?_) (fun c_37 => ?_)
                  · refine go_iincI (a := (b : Int)) (n := 1) (k0 := 2) (lv' := [(0, .ref mb), (1, rj_i (a : Int)), (2, rj_i ((b : Int) + 1)), (3, rj_i (c : Int))]) rfl (by decide) rfl dX12_ring_85 ?_
                    refine go_goto (tgt := 16) dX12_ring_88 (by decide) ?_
                    refine go_sub (lv' := [(0, .ref mb), (1, rj_i (a : Int)), (2, rj_i ((b : Int) + 1))]) (by intro q hq; simp only [List.mem_cons, List.not_mem_nil, or_false] at hq ⊢; rcases hq with rfl | rfl | rfl <;> simp) ?_
                    exact go_eq rfl (lv' := [(0, .ref mb), (1, rj_i (a : Int)), (2, rj_i ((b + 1 : Nat) : Int))]) (rj_lk (rj_lk (rj_lj (by omega) rfl))) rfl rfl (ihb (b + 1) (by omega) (by rw [hFc]; rfl))
                  · exact absurd c_37 (by omega)
                | succ nc ihc =>
                  intro c hkc hFc
                  refine go_iload_n dX12_ring_30 rfl 3 rfl ?_
                  refine go_aload_n dX12_ring_31 rfl 0 rfl ?_
                  refine grm_g1 rfl dX12_ring_32 ?_
                  refine go_iconst (v := Int32.ofInt 1) dX12_ring_35 rfl ?_
                  refine grm_l1 (by omega) (by omega) dX12_ring_36 ?_
                  rw [show r 1 = s from hs]
                  refine go_icmp_geI (tgt := 85) (by omega) (by omega) dX12_ring_37 (by decide) (fun c_37 => ?_) (fun c_37 => ?_)
                  · exact absurd c_37 (by omega)
                  · refine go_aload_n dX12_ring_40 rfl 0 rfl ?_
                    refine go_iload_n dX12_ring_41 rfl 1 rfl ?_
                    refine go_iload_n dX12_ring_42 rfl 2 rfl ?_
                    refine go_callV (d1 := d - 1) wVX12_230 kX12 rm_ob rfl (by omega) (m_doesBeat (a := (a : Int)) (b := (b : Int)) (by omega) (by omega) (hs := (show r 1 = s from hs)) h1 h5 hT) rfl (Nat.le_of_ble_eq_true rfl) dX12_ring_43 (fun w σ1 hP => ?_)
                    obtain ⟨rfl, rfl⟩ := hP
                    refine go_if_eqB (tgt := 79) dX12_ring_46 (by decide) (fun c_46 => ?_) (fun c_46 => ?_)
                    · refine go_iincI (a := (c : Int)) (n := 1) (k0 := 3) (lv' := [(0, .ref mb), (1, rj_i (a : Int)), (2, rj_i (b : Int)), (3, rj_i ((c : Int) + 1))]) rfl (by decide) rfl dX12_ring_79 ?_
                      refine go_goto (tgt := 30) dX12_ring_82 (by decide) ?_
                      exact go_eq rfl (lv' := [(0, .ref mb), (1, rj_i (a : Int)), (2, rj_i (b : Int)), (3, rj_i ((c + 1 : Nat) : Int))]) (rj_lk (rj_lk (rj_lk (rj_lj (by omega) rfl)))) rfl rfl (ihc (c + 1) (by omega) (by rw [hFc, sp_r3, if_neg (by simp [c_46])]))
                    · refine go_aload_n dX12_ring_49 rfl 0 rfl ?_
                      refine go_iload_n dX12_ring_50 rfl 2 rfl ?_
                      refine go_iload_n dX12_ring_51 rfl 3 rfl ?_
                      refine go_callV (d1 := d - 1) wVX12_230 kX12 rm_ob rfl (by omega) (m_doesBeat (a := (b : Int)) (b := (c : Int)) (by omega) (by omega) (hs := (show r 1 = s from hs)) h1 h5 hT) rfl (Nat.le_of_ble_eq_true rfl) dX12_ring_52 (fun w σ1 hP => ?_)
                      obtain ⟨rfl, rfl⟩ := hP
                      refine go_if_eqB (tgt := 79) dX12_ring_55 (by decide) (fun c_55 => ?_) (fun c_55 => ?_)
                      · refine go_iincI (a := (c : Int)) (n := 1) (k0 := 3) (lv' := [(0, .ref mb), (1, rj_i (a : Int)), (2, rj_i (b : Int)), (3, rj_i ((c : Int) + 1))]) rfl (by decide) rfl dX12_ring_79 ?_
                        refine go_goto (tgt := 30) dX12_ring_82 (by decide) ?_
                        exact go_eq rfl (lv' := [(0, .ref mb), (1, rj_i (a : Int)), (2, rj_i (b : Int)), (3, rj_i ((c + 1 : Nat) : Int))]) (rj_lk (rj_lk (rj_lk (rj_lj (by omega) rfl)))) rfl rfl (ihc (c + 1) (by omega) (by rw [hFc, sp_r3, if_neg (by simp [c_55, c_46])]))
                      · refine go_aload_n dX12_ring_58 rfl 0 rfl ?_
                        refine go_iload_n dX12_ring_59 rfl 3 rfl ?_
                        refine go_iload_n dX12_ring_60 rfl 1 rfl ?_
                        refine go_callV (d1 := d - 1) wVX12_230 kX12 rm_ob rfl (by omega) (m_doesBeat (a := (c : Int)) (b := (a : Int)) (by omega) (by omega) (hs := (show r 1 = s from hs)) h1 h5 hT) rfl (Nat.le_of_ble_eq_true rfl) dX12_ring_61 (fun w σ1 hP => ?_)
                        obtain ⟨rfl, rfl⟩ := hP
                        refine go_if_eqB (tgt := 79) dX12_ring_64 (by decide) (fun c_64 => ?_) (fun c_64 => ?_)
                        · refine go_iincI (a := (c : Int)) (n := 1) (k0 := 3) (lv' := [(0, .ref mb), (1, rj_i (a : Int)), (2, rj_i (b : Int)), (3, rj_i ((c : Int) + 1))]) rfl (by decide) rfl dX12_ring_79 ?_
                          refine go_goto (tgt := 30) dX12_ring_82 (by decide) ?_
                          exact go_eq rfl (lv' := [(0, .ref mb), (1, rj_i (a : Int)), (2, rj_i (b : Int)), (3, rj_i ((c + 1 : Nat) : Int))]) (rj_lk (rj_lk (rj_lk (rj_lj (by omega) rfl)))) rfl rfl (ihc (c + 1) (by omega) (by rw [hFc, sp_r3, if_neg (by simp [c_64, c_55, c_46])]))
                        · refine go_bipush (v := Int32.ofInt 100) dX12_ring_67 (by decide) ?_
                          refine go_iload_n dX12_ring_69 rfl 1 rfl ?_
                          refine go_mulI dX12_ring_70 ?_
                          refine go_bipush (v := Int32.ofInt 10) dX12_ring_71 (by decide) ?_
                          refine go_iload_n dX12_ring_73 rfl 2 rfl ?_
                          refine go_mulI dX12_ring_74 ?_
                          refine go_addI dX12_ring_75 ?_
                          refine go_iload_n dX12_ring_76 rfl 3 rfl ?_
                          refine go_addI dX12_ring_77 ?_
                          refine go_retI rfl rfl ?_ dX12_ring_78
                          exact ⟨rj_vi (by rw [hFc, sp_r3, if_pos ⟨c_46, c_55, c_64⟩]), rfl⟩
              exact go_eq rfl (lv' := [(0, .ref mb), (1, rj_i (a : Int)), (2, rj_i (b : Int)), (3, rj_i (((a + 1) : Nat) : Int))]) (rj_lk (rj_lk (rj_lk (rj_lj (by omega) rfl)))) rfl rfl (loopc ((s 1).toNat - (a + 1)) (a + 1) (by omega) (hFb3))
        exact go_eq rfl (lv' := [(0, .ref mb), (1, rj_i (a : Int)), (2, rj_i (((a + 1) : Nat) : Int))]) (rj_lk (rj_lk (rj_lj (by omega) rfl))) rfl rfl (loopb ((s 1).toNat - (a + 1)) (a + 1) (by omega) (hFa2))
  exact go_eq rfl (lv' := [(0, .ref mb), (1, rj_i ((0 : Nat) : Int))]) (rj_lk (rj_lj (by omega) rfl)) rfl rfl (loopa ((s 1).toNat - 0) 0 (by omega) (rfl))
