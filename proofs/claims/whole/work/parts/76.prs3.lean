/-! THE CLASS: its parser, third -/
theorem pv_C.y {X9 : rj_X} {σ : rj_H} {d D nL va tx : Nat} {y : MethodName} {c : ByteArray} {g : rm_R} {T : Int → Int} {e p n o : Int} {F : Int → sp_R} (h : pv_C X9 va tx σ T e D y c nL o F) (hd : D ≤ d) (hP : pv_P T e p n g) (h9 : (F p).1 = true) : rj_Cl X9 d y c nL (some .boolean) [.ref va, rj_i o] (pv_p X9 va tx g σ) (fun w9 τ => w9 = some (rj_i 1) ∧ ∃ g2 : rm_R, pv_e T e g g2 (F p).2.1 (F p).2.2 ∧ τ = pv_p X9 va tx g2 σ) := (h d g p n hd hP).mono (fun w τ q => ⟨q.1.trans (by rw [rj_bt h9]), q.2⟩)
theorem pv_C.n {X9 : rj_X} {σ : rj_H} {d D nL va tx : Nat} {y : MethodName} {c : ByteArray} {g : rm_R} {T : Int → Int} {e p n o : Int} {F : Int → sp_R} (h : pv_C X9 va tx σ T e D y c nL o F) (hd : D ≤ d) (hP : pv_P T e p n g) (h9 : ¬ (F p).1 = true) : rj_Cl X9 d y c nL (some .boolean) [.ref va, rj_i o] (pv_p X9 va tx g σ) (fun w9 τ => w9 = some (rj_i 0) ∧ ∃ g2 : rm_R, pv_e T e g g2 (F p).2.1 (F p).2.2 ∧ τ = pv_p X9 va tx g2 σ) := (h d g p n hd hP).mono (fun w τ q => ⟨q.1.trans (by rw [rj_bf h9]), q.2⟩)
theorem sp_eta {R : sp_R} {b : Bool} (h : R.1 = b) : R = (b, R.2.1, R.2.2) := by subst h; rfl
theorem sp_lp_no {T : Int → Int} {e c op : Int} {F : Int → sp_R} {f : Nat} {R : sp_R} (h : ¬ R.1 = true) : sp_lp T e c op F f R = R := by
  cases f with
  | zero => rfl
  | succ f => rw [sp_lp, if_neg (fun q => h q.1)]
theorem sp_cat_0 {op : Int} {R X : sp_R} (h : ¬ X.1 = true) : sp_cat op R X = (false, X.2.1, R.2.2 ++ X.2.2) := by
  unfold sp_cat
  rw [if_neg h, List.append_nil]
  have : X.1 = false := by simpa using h
  rw [this]
theorem sp_G1_cat {T : Int → Int} {e p op : Int} {R X : sp_R} (h : sp_TB T e) (hR : sp_G1 p e R) (hX : sp_G1 (R.2.1 + 1) e X) : sp_G1 p e (sp_cat op R X) := by
  obtain ⟨a1, a2, a3⟩ := hR
  obtain ⟨b1, b2, b3⟩ := hX
  unfold sp_cat sp_G1
  dsimp only
  refine ⟨by omega, b2, ?_⟩
  rw [List.length_append, List.length_append]
  split
  · simp only [List.length_cons, List.length_nil]; omega
  · simp only [List.length_nil]; omega

set_option maxRecDepth 20000 in
theorem v_all {X9 : rj_X} {σ : rj_H} {va tx : Nat} {T : Int → Int} {e o : Int} {D : Nat} {F : Int → sp_R} (hD : 2 ≤ D) (hX : pv_X X9 va tx σ T e) (ho : 0 ≤ o ∧ o ≤ 5) (hG : sp_G e F) (hF : pv_C X9 va tx σ T e D yX9_readFactor cX9_readFactor 2 o F) : pv_C X9 va tx σ T e (D + 1) yX9_readAll cX9_readAll 3 o (sp_ev T e F) := by
  intro d g p n hd hP
  obtain ⟨hX1, hX2, hX3, -⟩ := id hX
  obtain ⟨-, -, -, -, hp, hn⟩ := id hP
  have hr := sp_hr_b hX3 hp.1
  have hl0 : ([] : List Int).length = 0 := rfl
  refine go_call (by decide +kernel) (Nat.le_of_ble_eq_true rfl) ?_
  refine go_eq (pc' := 0) (lv' := [(0, .ref va), (1, rj_i o)]) (st' := []) rfl rfl rfl rfl ?_
  refine go_aload_n dX9_readAll_0 rfl 0 rfl ?_
  refine go_iload_n dX9_readAll_1 rfl 1 rfl ?_
  have hq0 := hG p (by omega) (by omega); obtain ⟨hq0_1, hq0_2, hq0_3⟩ := hq0
  by_cases hq_2_0 : (F p).1 = true
  · refine go_callV (d1 := d - 1) wVX9_129 kX9 pv_0 rfl (by omega) (hF.y (by omega) hP hq_2_0) rfl (Nat.le_of_ble_eq_true rfl) dX9_readAll_2 (fun w σ1 hP9 => ?_)
    obtain ⟨rfl, g1, e1, rfl⟩ := hP9
    have E1 := (pv_e.rf hP).tr e1
    have P1 := e1.P hP ⟨(hG p (by omega) (by omega)).1, (hG p (by omega) (by omega)).2.1, (hG p (by omega) (by omega)).2.2⟩
    refine go_if_neI (tgt := 10) (by omega) dX9_readAll_5 (by decide) (fun c_5 => ?_) (fun c_5 => ?_)
    · refine go_iconst (v := Int32.ofInt 0) dX9_readAll_10 rfl ?_
      refine go_istore_nS (lv' := [(0, .ref va), (1, rj_i o), (2, rj_i 0)]) rfl (by decide) rfl dX9_readAll_11 ?_
      obtain ⟨FT, hFT⟩ : ∃ FT, FT = sp_ev T e F p := ⟨_, rfl⟩
      rw [← hFT]
      have loopx : ∀ (nx : Nat) (k : Nat) (R : sp_R) (gl : rm_R), k + nx = 120 → pv_e T e g gl R.2.1 R.2.2 → R.1 = true → sp_G1 p e R → (k : Int) ≤ R.2.1 → FT = sp_lp T e 38 (-2) F (nx + 1) R → rj_Go X9 yX9_readAll cX9_readAll 3 (some .boolean) d (fun w9 τ => w9 = some (rj_i (rj_b ((FT).1 = true))) ∧ ∃ g2 : rm_R, pv_e T e g g2 (FT).2.1 (FT).2.2 ∧ τ = pv_p X9 va tx g2 σ) 12 [(0, .ref va), (1, rj_i o), (2, rj_i (k : Int))] [] (pv_p X9 va tx gl σ) := by
        intro nx
        induction nx with
        | zero =>
          intro k R gl hk hE hok hGR hkR hT9
          obtain ⟨t1, t2, t3⟩ := id hGR; have hPl := hE.P hP ⟨t1, t2, t3⟩; have pr := sp_hr_b (p := R.2.1) hX3 (by omega)
          have hno : sp_hr T e R.2.1 = -1 := by unfold sp_hr; rw [if_neg (by omega)]
          refine go_iload_n dX9_readAll_12 rfl 2 rfl ?_
          refine go_bipush (v := Int32.ofInt 120) dX9_readAll_13 (by decide) ?_
          refine go_icmp_geI (tgt := 49) (by omega) (by omega) dX9_readAll_15 (by decide) (fun c_15 => ?_) (fun c_15 => ?_)
          · refine go_iconst (v := Int32.ofInt 1) dX9_readAll_49 rfl ?_
            refine go_retI rfl (rj_n01 (by decide)) ?_ dX9_readAll_50
            exact pv_z1 (by rw [hT9, sp_lp, if_neg (by omega)]; exact sp_eta hok) hE
          · exact absurd c_15 (by omega)
        | succ nx ihx =>
          intro k R gl hk hE hok hGR hkR hT9
          obtain ⟨t1, t2, t3⟩ := id hGR; have hPl := hE.P hP ⟨t1, t2, t3⟩; have pr := sp_hr_b (p := R.2.1) hX3 (by omega)
          refine go_iload_n dX9_readAll_12 rfl 2 rfl ?_
          refine go_bipush (v := Int32.ofInt 120) dX9_readAll_13 (by decide) ?_
          refine go_icmp_geI (tgt := 49) (by omega) (by omega) dX9_readAll_15 (by decide) (fun c_15 => ?_) (fun c_15 => ?_)
          · exact absurd c_15 (by omega)
          · refine go_aload_n dX9_readAll_18 rfl 0 rfl ?_
            refine go_bipush (v := Int32.ofInt 38) dX9_readAll_19 (by decide) ?_
            by_cases hb_21_20 : sp_hr T e R.2.1 = 38
            · refine go_callV (d1 := d - 1) wVX9_84 kX9 pv_0 rfl (by omega) (v_reads_y (c9 := 38) (by omega) hX hPl (by decide) hb_21_20) rfl (Nat.le_of_ble_eq_true rfl) dX9_readAll_21 (fun w σ1 hP9 => ?_)
              obtain ⟨rfl, rfl⟩ := hP9
              have hv21 := sp_hr_b (p := R.2.1) hX3 (by omega)
              have e21 := pv_mv_e hPl
              have E21 := hE.tr e21
              have P21 := e21.P hPl ⟨by omega, by omega, by simp; omega⟩
              obtain ⟨g21, eg21⟩ : ∃ x_, x_ = pv_mv T e (R.2.1 + 1) gl := ⟨_, rfl⟩
              rw [← eg21] at e21 E21 P21
              rw [← eg21]
              refine go_if_eqI (tgt := 49) (by omega) dX9_readAll_24 (by decide) (fun c_24 => ?_) (fun c_24 => ?_)
              · exact absurd c_24 (by omega)
              · refine go_aload_n dX9_readAll_27 rfl 0 rfl ?_
                refine go_iload_n dX9_readAll_28 rfl 1 rfl ?_
                have hq21 := hG (R.2.1 + 1) (by omega) (by omega); obtain ⟨hq21_1, hq21_2, hq21_3⟩ := hq21
                by_cases hq_29_21 : (F (R.2.1 + 1)).1 = true
                · refine go_callV (d1 := d - 1) wVX9_129 kX9 pv_0 rfl (by omega) (hF.y (by omega) P21 hq_29_21) rfl (Nat.le_of_ble_eq_true rfl) dX9_readAll_29 (fun w σ1 hP9 => ?_)
                  obtain ⟨rfl, g22, e22, rfl⟩ := hP9
                  have E22 := E21.tr e22
                  have P22 := e22.P P21 ⟨(hG (R.2.1 + 1) (by omega) (by omega)).1, (hG (R.2.1 + 1) (by omega) (by omega)).2.1, (hG (R.2.1 + 1) (by omega) (by omega)).2.2⟩
                  refine go_if_neI (tgt := 37) (by omega) dX9_readAll_32 (by decide) (fun c_32 => ?_) (fun c_32 => ?_)
                  · refine go_aload_n dX9_readAll_37 rfl 0 rfl ?_
                    refine go_bipush (v := Int32.ofInt (-2)) dX9_readAll_38 (by decide) ?_
                    refine go_callV (d1 := d - 1) wVX9_125 kX9 pv_0 rfl (by omega) (v_addY (x := (-2)) hX P22 (by omega) (by decide)) rfl (Nat.le_of_ble_eq_true rfl) dX9_readAll_40 (fun w σ1 hP9 => ?_)
                    obtain ⟨rfl, g23, e23, rfl⟩ := hP9
                    have E23 := E22.tr e23
                    refine go_iincI (a := (k : Int)) (n := 1) (k0 := 2) (lv' := [(0, .ref va), (1, rj_i o), (2, rj_i ((k : Int) + 1))]) rfl (by decide) rfl dX9_readAll_43 ?_
                    refine go_goto (tgt := 12) dX9_readAll_46 (by decide) ?_
                    exact go_eq rfl (lv' := [(0, .ref va), (1, rj_i o), (2, rj_i ((k + 1 : Nat) : Int))]) (rj_lk (rj_lk (rj_lj (by omega) rfl))) rfl rfl (ihx (k + 1) (sp_cat (-2) R (F (R.2.1 + 1))) g23 (by omega) (by unfold sp_cat; simpa [hq_29_21] using E23) (by unfold sp_cat; exact hq_29_21) (sp_G1_cat hX3 hGR (hG (R.2.1 + 1) (by omega) (by omega))) (by show ((k + 1 : Nat) : Int) ≤ (F (R.2.1 + 1)).2.1; omega) (by rw [hT9, sp_lp, if_pos ⟨hok, hb_21_20⟩]))
                  · exact absurd c_32 (by omega)
                · refine go_callV (d1 := d - 1) wVX9_129 kX9 pv_0 rfl (by omega) (hF.n (by omega) P21 hq_29_21) rfl (Nat.le_of_ble_eq_true rfl) dX9_readAll_29 (fun w σ1 hP9 => ?_)
                  obtain ⟨rfl, g22, e22, rfl⟩ := hP9
                  have E22 := E21.tr e22
                  have P22 := e22.P P21 ⟨(hG (R.2.1 + 1) (by omega) (by omega)).1, (hG (R.2.1 + 1) (by omega) (by omega)).2.1, (hG (R.2.1 + 1) (by omega) (by omega)).2.2⟩
                  refine go_if_neI (tgt := 37) (by omega) dX9_readAll_32 (by decide) (fun c_32 => ?_) (fun c_32 => ?_)
                  · exact absurd c_32 (by omega)
                  · refine go_iconst (v := Int32.ofInt 0) dX9_readAll_35 rfl ?_
                    refine go_retI rfl (rj_n01 (by decide)) ?_ dX9_readAll_36
                    exact pv_z0 (by rw [hT9, sp_lp, if_pos ⟨hok, hb_21_20⟩, sp_lp_no (by unfold sp_cat; exact hq_29_21)]; exact sp_cat_0 hq_29_21) (by simpa using E22)
            · refine go_callV (d1 := d - 1) wVX9_84 kX9 pv_0 rfl (by omega) (v_reads_n (c9 := 38) hX hPl (by decide) hb_21_20) rfl (Nat.le_of_ble_eq_true rfl) dX9_readAll_21 (fun w σ1 hP9 => ?_)
              obtain ⟨rfl, rfl⟩ := hP9
              refine go_if_eqI (tgt := 49) (by omega) dX9_readAll_24 (by decide) (fun c_24 => ?_) (fun c_24 => ?_)
              · refine go_iconst (v := Int32.ofInt 1) dX9_readAll_49 rfl ?_
                refine go_retI rfl (rj_n01 (by decide)) ?_ dX9_readAll_50
                exact pv_z1 (by rw [hT9, sp_lp, if_neg (fun q => hb_21_20 q.2)]; exact sp_eta hok) hE
              · exact absurd c_24 (by omega)
      exact go_eq rfl (lv' := [(0, .ref va), (1, rj_i o), (2, rj_i ((0 : Nat) : Int))]) (rj_lk (rj_lk (rj_lj (rfl) rfl))) rfl rfl (loopx 120 0 (F p) g1 (by omega) (by simpa using E1) hq_2_0 (hG p hp.1 hp.2) (by omega) hFT)
    · exact absurd c_5 (by omega)
  · refine go_callV (d1 := d - 1) wVX9_129 kX9 pv_0 rfl (by omega) (hF.n (by omega) hP hq_2_0) rfl (Nat.le_of_ble_eq_true rfl) dX9_readAll_2 (fun w σ1 hP9 => ?_)
    obtain ⟨rfl, g1, e1, rfl⟩ := hP9
    have E1 := (pv_e.rf hP).tr e1
    have P1 := e1.P hP ⟨(hG p (by omega) (by omega)).1, (hG p (by omega) (by omega)).2.1, (hG p (by omega) (by omega)).2.2⟩
    refine go_if_neI (tgt := 10) (by omega) dX9_readAll_5 (by decide) (fun c_5 => ?_) (fun c_5 => ?_)
    · exact absurd c_5 (by omega)
    · refine go_iconst (v := Int32.ofInt 0) dX9_readAll_8 rfl ?_
      refine go_retI rfl (rj_n01 (by decide)) ?_ dX9_readAll_9
      exact pv_z0 (by unfold sp_ev; rw [sp_lp, if_neg (fun q => hq_2_0 q.1)]; exact sp_eta (by simpa using hq_2_0)) (by simpa using E1)
def sp_an (T : Int → Int) (e : Int) (F : Int → sp_R) (p : Int) : sp_R := sp_lp T e 124 (-3) F 121 (F p)

set_option maxRecDepth 20000 in
theorem v_any {X9 : rj_X} {σ : rj_H} {va tx : Nat} {T : Int → Int} {e o : Int} {D : Nat} {F : Int → sp_R} (hD : 2 ≤ D) (hX : pv_X X9 va tx σ T e) (ho : 0 ≤ o ∧ o ≤ 5) (hG : sp_G e F) (hF : pv_C X9 va tx σ T e D yX9_readAll cX9_readAll 3 o F) : pv_C X9 va tx σ T e (D + 1) yX9_readAny cX9_readAny 3 o (sp_an T e F) := by
  intro d g p n hd hP
  obtain ⟨hX1, hX2, hX3, -⟩ := id hX
  obtain ⟨-, -, -, -, hp, hn⟩ := id hP
  have hr := sp_hr_b hX3 hp.1
  have hl0 : ([] : List Int).length = 0 := rfl
  refine go_call (by decide +kernel) (Nat.le_of_ble_eq_true rfl) ?_
  refine go_eq (pc' := 0) (lv' := [(0, .ref va), (1, rj_i o)]) (st' := []) rfl rfl rfl rfl ?_
  refine go_aload_n dX9_readAny_0 rfl 0 rfl ?_
  refine go_iload_n dX9_readAny_1 rfl 1 rfl ?_
  have hq0 := hG p (by omega) (by omega); obtain ⟨hq0_1, hq0_2, hq0_3⟩ := hq0
  by_cases hq_2_0 : (F p).1 = true
  · refine go_callV (d1 := d - 1) wVX9_122 kX9 pv_0 rfl (by omega) (hF.y (by omega) hP hq_2_0) rfl (Nat.le_of_ble_eq_true rfl) dX9_readAny_2 (fun w σ1 hP9 => ?_)
    obtain ⟨rfl, g1, e1, rfl⟩ := hP9
    have E1 := (pv_e.rf hP).tr e1
    have P1 := e1.P hP ⟨(hG p (by omega) (by omega)).1, (hG p (by omega) (by omega)).2.1, (hG p (by omega) (by omega)).2.2⟩
    refine go_if_neI (tgt := 10) (by omega) dX9_readAny_5 (by decide) (fun c_5 => ?_) (fun c_5 => ?_)
    · refine go_iconst (v := Int32.ofInt 0) dX9_readAny_10 rfl ?_
      refine go_istore_nS (lv' := [(0, .ref va), (1, rj_i o), (2, rj_i 0)]) rfl (by decide) rfl dX9_readAny_11 ?_
      obtain ⟨FT, hFT⟩ : ∃ FT, FT = sp_an T e F p := ⟨_, rfl⟩
      rw [← hFT]
      have loopx : ∀ (nx : Nat) (k : Nat) (R : sp_R) (gl : rm_R), k + nx = 120 → pv_e T e g gl R.2.1 R.2.2 → R.1 = true → sp_G1 p e R → (k : Int) ≤ R.2.1 → FT = sp_lp T e 124 (-3) F (nx + 1) R → rj_Go X9 yX9_readAny cX9_readAny 3 (some .boolean) d (fun w9 τ => w9 = some (rj_i (rj_b ((FT).1 = true))) ∧ ∃ g2 : rm_R, pv_e T e g g2 (FT).2.1 (FT).2.2 ∧ τ = pv_p X9 va tx g2 σ) 12 [(0, .ref va), (1, rj_i o), (2, rj_i (k : Int))] [] (pv_p X9 va tx gl σ) := by
        intro nx
        induction nx with
        | zero =>
          intro k R gl hk hE hok hGR hkR hT9
          obtain ⟨t1, t2, t3⟩ := id hGR; have hPl := hE.P hP ⟨t1, t2, t3⟩; have pr := sp_hr_b (p := R.2.1) hX3 (by omega)
          have hno : sp_hr T e R.2.1 = -1 := by unfold sp_hr; rw [if_neg (by omega)]
          refine go_iload_n dX9_readAny_12 rfl 2 rfl ?_
          refine go_bipush (v := Int32.ofInt 120) dX9_readAny_13 (by decide) ?_
          refine go_icmp_geI (tgt := 49) (by omega) (by omega) dX9_readAny_15 (by decide) (fun c_15 => ?_) (fun c_15 => ?_)
          · refine go_iconst (v := Int32.ofInt 1) dX9_readAny_49 rfl ?_
            refine go_retI rfl (rj_n01 (by decide)) ?_ dX9_readAny_50
            exact pv_z1 (by rw [hT9, sp_lp, if_neg (by omega)]; exact sp_eta hok) hE
          · exact absurd c_15 (by omega)
        | succ nx ihx =>
          intro k R gl hk hE hok hGR hkR hT9
          obtain ⟨t1, t2, t3⟩ := id hGR; have hPl := hE.P hP ⟨t1, t2, t3⟩; have pr := sp_hr_b (p := R.2.1) hX3 (by omega)
          refine go_iload_n dX9_readAny_12 rfl 2 rfl ?_
          refine go_bipush (v := Int32.ofInt 120) dX9_readAny_13 (by decide) ?_
          refine go_icmp_geI (tgt := 49) (by omega) (by omega) dX9_readAny_15 (by decide) (fun c_15 => ?_) (fun c_15 => ?_)
          · exact absurd c_15 (by omega)
          · refine go_aload_n dX9_readAny_18 rfl 0 rfl ?_
            refine go_bipush (v := Int32.ofInt 124) dX9_readAny_19 (by decide) ?_
            by_cases hb_21_20 : sp_hr T e R.2.1 = 124
            · refine go_callV (d1 := d - 1) wVX9_84 kX9 pv_0 rfl (by omega) (v_reads_y (c9 := 124) (by omega) hX hPl (by decide) hb_21_20) rfl (Nat.le_of_ble_eq_true rfl) dX9_readAny_21 (fun w σ1 hP9 => ?_)
              obtain ⟨rfl, rfl⟩ := hP9
              have hv21 := sp_hr_b (p := R.2.1) hX3 (by omega)
              have e21 := pv_mv_e hPl
              have E21 := hE.tr e21
              have P21 := e21.P hPl ⟨by omega, by omega, by simp; omega⟩
              obtain ⟨g21, eg21⟩ : ∃ x_, x_ = pv_mv T e (R.2.1 + 1) gl := ⟨_, rfl⟩
              rw [← eg21] at e21 E21 P21
              rw [← eg21]
              refine go_if_eqI (tgt := 49) (by omega) dX9_readAny_24 (by decide) (fun c_24 => ?_) (fun c_24 => ?_)
              · exact absurd c_24 (by omega)
              · refine go_aload_n dX9_readAny_27 rfl 0 rfl ?_
                refine go_iload_n dX9_readAny_28 rfl 1 rfl ?_
                have hq21 := hG (R.2.1 + 1) (by omega) (by omega); obtain ⟨hq21_1, hq21_2, hq21_3⟩ := hq21
                by_cases hq_29_21 : (F (R.2.1 + 1)).1 = true
                · refine go_callV (d1 := d - 1) wVX9_122 kX9 pv_0 rfl (by omega) (hF.y (by omega) P21 hq_29_21) rfl (Nat.le_of_ble_eq_true rfl) dX9_readAny_29 (fun w σ1 hP9 => ?_)
                  obtain ⟨rfl, g22, e22, rfl⟩ := hP9
                  have E22 := E21.tr e22
                  have P22 := e22.P P21 ⟨(hG (R.2.1 + 1) (by omega) (by omega)).1, (hG (R.2.1 + 1) (by omega) (by omega)).2.1, (hG (R.2.1 + 1) (by omega) (by omega)).2.2⟩
                  refine go_if_neI (tgt := 37) (by omega) dX9_readAny_32 (by decide) (fun c_32 => ?_) (fun c_32 => ?_)
                  · refine go_aload_n dX9_readAny_37 rfl 0 rfl ?_
                    refine go_bipush (v := Int32.ofInt (-3)) dX9_readAny_38 (by decide) ?_
                    refine go_callV (d1 := d - 1) wVX9_125 kX9 pv_0 rfl (by omega) (v_addY (x := (-3)) hX P22 (by omega) (by decide)) rfl (Nat.le_of_ble_eq_true rfl) dX9_readAny_40 (fun w σ1 hP9 => ?_)
                    obtain ⟨rfl, g23, e23, rfl⟩ := hP9
                    have E23 := E22.tr e23
                    refine go_iincI (a := (k : Int)) (n := 1) (k0 := 2) (lv' := [(0, .ref va), (1, rj_i o), (2, rj_i ((k : Int) + 1))]) rfl (by decide) rfl dX9_readAny_43 ?_
                    refine go_goto (tgt := 12) dX9_readAny_46 (by decide) ?_
                    exact go_eq rfl (lv' := [(0, .ref va), (1, rj_i o), (2, rj_i ((k + 1 : Nat) : Int))]) (rj_lk (rj_lk (rj_lj (by omega) rfl))) rfl rfl (ihx (k + 1) (sp_cat (-3) R (F (R.2.1 + 1))) g23 (by omega) (by unfold sp_cat; simpa [hq_29_21] using E23) (by unfold sp_cat; exact hq_29_21) (sp_G1_cat hX3 hGR (hG (R.2.1 + 1) (by omega) (by omega))) (by show ((k + 1 : Nat) : Int) ≤ (F (R.2.1 + 1)).2.1; omega) (by rw [hT9, sp_lp, if_pos ⟨hok, hb_21_20⟩]))
                  · exact absurd c_32 (by omega)
                · refine go_callV (d1 := d - 1) wVX9_122 kX9 pv_0 rfl (by omega) (hF.n (by omega) P21 hq_29_21) rfl (Nat.le_of_ble_eq_true rfl) dX9_readAny_29 (fun w σ1 hP9 => ?_)
                  obtain ⟨rfl, g22, e22, rfl⟩ := hP9
                  have E22 := E21.tr e22
                  have P22 := e22.P P21 ⟨(hG (R.2.1 + 1) (by omega) (by omega)).1, (hG (R.2.1 + 1) (by omega) (by omega)).2.1, (hG (R.2.1 + 1) (by omega) (by omega)).2.2⟩
                  refine go_if_neI (tgt := 37) (by omega) dX9_readAny_32 (by decide) (fun c_32 => ?_) (fun c_32 => ?_)
                  · exact absurd c_32 (by omega)
                  · refine go_iconst (v := Int32.ofInt 0) dX9_readAny_35 rfl ?_
                    refine go_retI rfl (rj_n01 (by decide)) ?_ dX9_readAny_36
                    exact pv_z0 (by rw [hT9, sp_lp, if_pos ⟨hok, hb_21_20⟩, sp_lp_no (by unfold sp_cat; exact hq_29_21)]; exact sp_cat_0 hq_29_21) (by simpa using E22)
            · refine go_callV (d1 := d - 1) wVX9_84 kX9 pv_0 rfl (by omega) (v_reads_n (c9 := 124) hX hPl (by decide) hb_21_20) rfl (Nat.le_of_ble_eq_true rfl) dX9_readAny_21 (fun w σ1 hP9 => ?_)
              obtain ⟨rfl, rfl⟩ := hP9
              refine go_if_eqI (tgt := 49) (by omega) dX9_readAny_24 (by decide) (fun c_24 => ?_) (fun c_24 => ?_)
              · refine go_iconst (v := Int32.ofInt 1) dX9_readAny_49 rfl ?_
                refine go_retI rfl (rj_n01 (by decide)) ?_ dX9_readAny_50
                exact pv_z1 (by rw [hT9, sp_lp, if_neg (fun q => hb_21_20 q.2)]; exact sp_eta hok) hE
              · exact absurd c_24 (by omega)
      exact go_eq rfl (lv' := [(0, .ref va), (1, rj_i o), (2, rj_i ((0 : Nat) : Int))]) (rj_lk (rj_lk (rj_lj (rfl) rfl))) rfl rfl (loopx 120 0 (F p) g1 (by omega) (by simpa using E1) hq_2_0 (hG p hp.1 hp.2) (by omega) hFT)
    · exact absurd c_5 (by omega)
  · refine go_callV (d1 := d - 1) wVX9_122 kX9 pv_0 rfl (by omega) (hF.n (by omega) hP hq_2_0) rfl (Nat.le_of_ble_eq_true rfl) dX9_readAny_2 (fun w σ1 hP9 => ?_)
    obtain ⟨rfl, g1, e1, rfl⟩ := hP9
    have E1 := (pv_e.rf hP).tr e1
    have P1 := e1.P hP ⟨(hG p (by omega) (by omega)).1, (hG p (by omega) (by omega)).2.1, (hG p (by omega) (by omega)).2.2⟩
    refine go_if_neI (tgt := 10) (by omega) dX9_readAny_5 (by decide) (fun c_5 => ?_) (fun c_5 => ?_)
    · exact absurd c_5 (by omega)
    · refine go_iconst (v := Int32.ofInt 0) dX9_readAny_8 rfl ?_
      refine go_retI rfl (rj_n01 (by decide)) ?_ dX9_readAny_9
      exact pv_z0 (by unfold sp_an; rw [sp_lp, if_neg (fun q => hq_2_0 q.1)]; exact sp_eta (by simpa using hq_2_0)) (by simpa using E1)
def sp_fcs (T : Int → Int) (e : Int) (F : Int → sp_R) (p : Int) : sp_R := if sp_hr T e p = 33 then sp_not (F (p + 1)) else if sp_hr T e p = 40 then sp_clo T e (sp_som T e F (p + 1)) else sp_tt1 T e p
theorem sp_not_0 {X : sp_R} (h : ¬ X.1 = true) : sp_not X = (false, X.2.1, X.2.2) := by
  unfold sp_not
  rw [if_neg h, List.append_nil]
  have : X.1 = false := by simpa using h
  rw [this]
theorem sp_not_1 {X : sp_R} (h : X.1 = true) : sp_not X = (true, X.2.1, X.2.2 ++ [-1]) := by
  unfold sp_not
  rw [if_pos h, h]
theorem sp_clo_0 {T : Int → Int} {e : Int} {X : sp_R} (h : ¬ X.1 = true) : sp_clo T e X = (false, X.2.1, X.2.2) := by
  unfold sp_clo
  rw [if_neg (fun q => h q.1)]
  have : X.1 = false := by simpa using h
  rw [this]; rfl
theorem sp_clo_1 {T : Int → Int} {e : Int} {X : sp_R} (h : X.1 = true) (h2 : sp_hr T e X.2.1 = 41) : sp_clo T e X = (true, X.2.1 + 1, X.2.2) := by
  unfold sp_clo
  rw [if_pos ⟨h, h2⟩, h, h2]; rfl
theorem sp_clo_2 {T : Int → Int} {e : Int} {X : sp_R} (h : ¬ sp_hr T e X.2.1 = 41) : sp_clo T e X = (false, X.2.1, X.2.2) := by
  unfold sp_clo
  rw [if_neg (fun q => h q.2), decide_eq_false h, Bool.and_false]
set_option maxRecDepth 20000 in
theorem v_fac_s {X9 : rj_X} {σ : rj_H} {va tx : Nat} {T : Int → Int} {e : Int} {o : Int} {D : Nat} {F : Int → sp_R} (hX : pv_X X9 va tx σ T e) (hD : 5 ≤ D) (ho : 0 ≤ o ∧ o < 5) (hG : sp_G e F) (hF : pv_C X9 va tx σ T e D yX9_readFactor cX9_readFactor 2 (o + 1) F) (hA : pv_C X9 va tx σ T e (D + 2) yX9_readAny cX9_readAny 3 (o + 1) (sp_som T e F)) : pv_C X9 va tx σ T e (D + 3) yX9_readFactor cX9_readFactor 2 o (sp_fcs T e F) := by
  intro d g p n hd hP
  obtain ⟨hX1, hX2, hX3, -⟩ := id hX
  obtain ⟨-, -, -, -, hp, hn⟩ := id hP
  have hr := sp_hr_b hX3 hp.1
  have hl0 : ([] : List Int).length = 0 := rfl
  have hGs := sp_som_G hX3 hG
  refine go_call (by decide +kernel) (Nat.le_of_ble_eq_true rfl) ?_
  refine go_eq (pc' := 0) (lv' := [(0, .ref va), (1, rj_i o)]) (st' := []) rfl rfl rfl rfl ?_
  refine go_aload_n dX9_readFactor_0 rfl 0 rfl ?_
  refine pv_g12 fX9_58 dX9_readFactor_1 ?_
  rw [(show g 0 12 = sp_hr T e p from (pv_e.rf hP).1.2)]
  refine go_bipush (v := Int32.ofInt 33) dX9_readFactor_4 (by decide) ?_
  refine go_icmp_eqI (tgt := 23) (by omega) (by omega) dX9_readFactor_6 (by decide) (fun c_6 => ?_) (fun c_6 => ?_)
  · refine go_iload_n dX9_readFactor_23 rfl 1 rfl ?_
    refine go_iconst (v := Int32.ofInt 5) dX9_readFactor_24 rfl ?_
    refine go_icmp_ltI (tgt := 30) (by omega) (by omega) dX9_readFactor_25 (by decide) (fun c_25 => ?_) (fun c_25 => ?_)
    · refine go_aload_n dX9_readFactor_30 rfl 0 rfl ?_
      refine go_bipush (v := Int32.ofInt 40) dX9_readFactor_31 (by decide) ?_
      refine go_callV (d1 := d - 1) wVX9_84 kX9 pv_0 rfl (by omega) (v_reads_n (c9 := 40) hX hP (by decide) (by omega)) rfl (Nat.le_of_ble_eq_true rfl) dX9_readFactor_33 (fun w σ1 hP9 => ?_)
      obtain ⟨rfl, rfl⟩ := hP9
      refine go_if_eqI (tgt := 64) (by omega) dX9_readFactor_36 (by decide) (fun c_36 => ?_) (fun c_36 => ?_)
      · refine go_aload_n dX9_readFactor_64 rfl 0 rfl ?_
        refine go_callV (d1 := d - 1) wVX9_77 kX9 pv_0 rfl (by omega) (v_move (q := p) hX (by omega) (show g 0 11 = p from (pv_e.rf hP).1.1) (show g 0 10 = e from (pv_e.rf hP).2.2.1.2.2.2.trans hP.2.2.1)) rfl (Nat.le_of_ble_eq_true rfl) dX9_readFactor_65 (fun w σ1 hP9 => ?_)
        obtain ⟨rfl, rfl⟩ := hP9
        have hv1 := sp_hr_b (p := p) hX3 (by omega)
        have e1 := pv_mv_e hP
        have E1 := (pv_e.rf hP).tr e1
        have P1 := e1.P hP ⟨by omega, by omega, by simp; omega⟩
        obtain ⟨g1, eg1⟩ : ∃ x_, x_ = pv_mv T e (p + 1) g := ⟨_, rfl⟩
        rw [← eg1] at e1 E1 P1
        rw [← eg1]
        refine go_aload_n dX9_readFactor_68 rfl 0 rfl ?_
        refine go_iload_n dX9_readFactor_69 rfl 1 rfl ?_
        refine go_iconst (v := Int32.ofInt 1) dX9_readFactor_70 rfl ?_
        refine go_addI dX9_readFactor_71 ?_
        obtain ⟨hq1_1, hq1_2, hq1_3⟩ := hG (p + 1) (by omega) (by omega)
        by_cases hq_72_1 : (F (p + 1)).1 = true
        · refine go_callV (d1 := d - 1) wVX9_129 kX9 pv_0 rfl (by omega) (hF.y (by omega) P1 hq_72_1) rfl (Nat.le_of_ble_eq_true rfl) dX9_readFactor_72 (fun w σ1 hP9 => ?_)
          obtain ⟨rfl, g2, e2, rfl⟩ := hP9
          have E2 := E1.tr e2
          have P2 := e2.P P1 ⟨hq1_1, hq1_2, hq1_3⟩
          refine go_if_neI (tgt := 80) (by omega) dX9_readFactor_75 (by decide) (fun c_75 => ?_) (fun c_75 => ?_)
          · refine go_aload_n dX9_readFactor_80 rfl 0 rfl ?_
            refine go_iconst (v := Int32.ofInt (-1)) dX9_readFactor_81 rfl ?_
            refine go_callV (d1 := d - 1) wVX9_125 kX9 pv_0 rfl (by omega) (v_addY (x := (-1)) hX P2 (by omega) (by decide)) rfl (Nat.le_of_ble_eq_true rfl) dX9_readFactor_82 (fun w σ1 hP9 => ?_)
            obtain ⟨rfl, g3, e3, rfl⟩ := hP9
            have E3 := E2.tr e3
            refine go_iconst (v := Int32.ofInt 1) dX9_readFactor_85 rfl ?_
            refine go_retI rfl (rj_n01 (by decide)) ?_ dX9_readFactor_86
            exact pv_z1 (by unfold sp_fcs; rw [if_pos c_6]; exact sp_not_1 hq_72_1) (by simpa using E3)
          · exact absurd c_75 (by omega)
        · refine go_callV (d1 := d - 1) wVX9_129 kX9 pv_0 rfl (by omega) (hF.n (by omega) P1 hq_72_1) rfl (Nat.le_of_ble_eq_true rfl) dX9_readFactor_72 (fun w σ1 hP9 => ?_)
          obtain ⟨rfl, g2, e2, rfl⟩ := hP9
          have E2 := E1.tr e2
          have P2 := e2.P P1 ⟨hq1_1, hq1_2, hq1_3⟩
          refine go_if_neI (tgt := 80) (by omega) dX9_readFactor_75 (by decide) (fun c_75 => ?_) (fun c_75 => ?_)
          · exact absurd c_75 (by omega)
          · refine go_iconst (v := Int32.ofInt 0) dX9_readFactor_78 rfl ?_
            refine go_retI rfl (rj_n01 (by decide)) ?_ dX9_readFactor_79
            exact pv_z0 (by unfold sp_fcs; rw [if_pos c_6]; exact sp_not_0 hq_72_1) (by simpa using E2)
      · exact absurd c_36 (by omega)
    · exact absurd c_25 (by omega)
  · refine go_aload_n dX9_readFactor_9 rfl 0 rfl ?_
    refine pv_g12 fX9_58 dX9_readFactor_10 ?_
    rw [(show g 0 12 = sp_hr T e p from (pv_e.rf hP).1.2)]
    refine go_bipush (v := Int32.ofInt 40) dX9_readFactor_13 (by decide) ?_
    refine go_icmp_eqI (tgt := 23) (by omega) (by omega) dX9_readFactor_15 (by decide) (fun c_15 => ?_) (fun c_15 => ?_)
    · refine go_iload_n dX9_readFactor_23 rfl 1 rfl ?_
      refine go_iconst (v := Int32.ofInt 5) dX9_readFactor_24 rfl ?_
      refine go_icmp_ltI (tgt := 30) (by omega) (by omega) dX9_readFactor_25 (by decide) (fun c_25 => ?_) (fun c_25 => ?_)
      · refine go_aload_n dX9_readFactor_30 rfl 0 rfl ?_
        refine go_bipush (v := Int32.ofInt 40) dX9_readFactor_31 (by decide) ?_
        refine go_callV (d1 := d - 1) wVX9_84 kX9 pv_0 rfl (by omega) (v_reads_y (c9 := 40) (by omega) hX hP (by decide) c_15) rfl (Nat.le_of_ble_eq_true rfl) dX9_readFactor_33 (fun w σ1 hP9 => ?_)
        obtain ⟨rfl, rfl⟩ := hP9
        have hv1 := sp_hr_b (p := p) hX3 (by omega)
        have e1 := pv_mv_e hP
        have E1 := (pv_e.rf hP).tr e1
        have P1 := e1.P hP ⟨by omega, by omega, by simp; omega⟩
        obtain ⟨g1, eg1⟩ : ∃ x_, x_ = pv_mv T e (p + 1) g := ⟨_, rfl⟩
        rw [← eg1] at e1 E1 P1
        rw [← eg1]
        refine go_if_eqI (tgt := 64) (by omega) dX9_readFactor_36 (by decide) (fun c_36 => ?_) (fun c_36 => ?_)
        · exact absurd c_36 (by omega)
        · refine go_aload_n dX9_readFactor_39 rfl 0 rfl ?_
          refine go_iload_n dX9_readFactor_40 rfl 1 rfl ?_
          refine go_iconst (v := Int32.ofInt 1) dX9_readFactor_41 rfl ?_
          refine go_addI dX9_readFactor_42 ?_
          obtain ⟨hq1_1, hq1_2, hq1_3⟩ := hGs (p + 1) (by omega) (by omega)
          by_cases hq_43_1 : (sp_som T e F (p + 1)).1 = true
          · refine go_callV (d1 := d - 1) wVX9_119 kX9 pv_0 rfl (by omega) (hA.y (by omega) P1 hq_43_1) rfl (Nat.le_of_ble_eq_true rfl) dX9_readFactor_43 (fun w σ1 hP9 => ?_)
            obtain ⟨rfl, g2, e2, rfl⟩ := hP9
            have E2 := E1.tr e2
            have P2 := e2.P P1 ⟨hq1_1, hq1_2, hq1_3⟩
            refine go_if_eqI (tgt := 62) (by omega) dX9_readFactor_46 (by decide) (fun c_46 => ?_) (fun c_46 => ?_)
            · exact absurd c_46 (by omega)
            · refine go_aload_n dX9_readFactor_49 rfl 0 rfl ?_
              refine go_bipush (v := Int32.ofInt 41) dX9_readFactor_50 (by decide) ?_
              by_cases hb_52_2 : sp_hr T e ((sp_som T e F (p + 1)).2.1) = 41
              · refine go_callV (d1 := d - 1) wVX9_84 kX9 pv_0 rfl (by omega) (v_reads_y (c9 := 41) (by omega) hX P2 (by decide) hb_52_2) rfl (Nat.le_of_ble_eq_true rfl) dX9_readFactor_52 (fun w σ1 hP9 => ?_)
                obtain ⟨rfl, rfl⟩ := hP9
                have hv3 := sp_hr_b (p := (sp_som T e F (p + 1)).2.1) hX3 (by omega)
                have e3 := pv_mv_e P2
                have E3 := E2.tr e3
                have P3 := e3.P P2 ⟨by omega, by omega, by simp; omega⟩
                obtain ⟨g3, eg3⟩ : ∃ x_, x_ = pv_mv T e ((sp_som T e F (p + 1)).2.1 + 1) g2 := ⟨_, rfl⟩
                rw [← eg3] at e3 E3 P3
                rw [← eg3]
                refine go_if_eqI (tgt := 62) (by omega) dX9_readFactor_55 (by decide) (fun c_55 => ?_) (fun c_55 => ?_)
                · exact absurd c_55 (by omega)
                · refine go_iconst (v := Int32.ofInt 1) dX9_readFactor_58 rfl ?_
                  refine go_goto (tgt := 63) dX9_readFactor_59 (by decide) ?_
                  refine go_retI rfl (rj_n01 (by decide)) ?_ dX9_readFactor_63
                  exact pv_z1 (by unfold sp_fcs; rw [if_neg c_6, if_pos c_15]; exact sp_clo_1 hq_43_1 hb_52_2) (by simpa using E3)
              · refine go_callV (d1 := d - 1) wVX9_84 kX9 pv_0 rfl (by omega) (v_reads_n (c9 := 41) hX P2 (by decide) hb_52_2) rfl (Nat.le_of_ble_eq_true rfl) dX9_readFactor_52 (fun w σ1 hP9 => ?_)
                obtain ⟨rfl, rfl⟩ := hP9
                refine go_if_eqI (tgt := 62) (by omega) dX9_readFactor_55 (by decide) (fun c_55 => ?_) (fun c_55 => ?_)
                · refine go_iconst (v := Int32.ofInt 0) dX9_readFactor_62 rfl ?_
                  refine go_retI rfl (rj_n01 (by decide)) ?_ dX9_readFactor_63
                  exact pv_z0 (by unfold sp_fcs; rw [if_neg c_6, if_pos c_15]; exact sp_clo_2 hb_52_2) (by simpa using E2)
                · exact absurd c_55 (by omega)
          · refine go_callV (d1 := d - 1) wVX9_119 kX9 pv_0 rfl (by omega) (hA.n (by omega) P1 hq_43_1) rfl (Nat.le_of_ble_eq_true rfl) dX9_readFactor_43 (fun w σ1 hP9 => ?_)
            obtain ⟨rfl, g2, e2, rfl⟩ := hP9
            have E2 := E1.tr e2
            have P2 := e2.P P1 ⟨hq1_1, hq1_2, hq1_3⟩
            refine go_if_eqI (tgt := 62) (by omega) dX9_readFactor_46 (by decide) (fun c_46 => ?_) (fun c_46 => ?_)
            · refine go_iconst (v := Int32.ofInt 0) dX9_readFactor_62 rfl ?_
              refine go_retI rfl (rj_n01 (by decide)) ?_ dX9_readFactor_63
              exact pv_z0 (by unfold sp_fcs; rw [if_neg c_6, if_pos c_15]; exact sp_clo_0 hq_43_1) (by simpa using E2)
            · exact absurd c_46 (by omega)
      · exact absurd c_25 (by omega)
    · refine go_aload_n dX9_readFactor_18 rfl 0 rfl ?_
      refine go_callV (d1 := d - 1) wVX9_132 kX9 pv_0 rfl (by omega) (v_rtest (by omega) hX hP) rfl (Nat.le_of_ble_eq_true rfl) dX9_readFactor_19 (fun w σ1 hP9 => ?_)
      obtain ⟨hq9_1, hq9_2, hq9_3⟩ := sp_tt1_G hX3 p (by omega) (by omega)
      obtain ⟨rfl, g1, e1, rfl⟩ := hP9
      have E1 := (pv_e.rf hP).tr e1
      have P1 := e1.P hP ⟨hq9_1, hq9_2, hq9_3⟩
      refine go_retI rfl (rj_nb _) ?_ dX9_readFactor_22
      exact pv_zB (by unfold sp_fcs; rw [if_neg c_6, if_neg c_15]) (by simpa using E1)
set_option maxRecDepth 20000 in
theorem v_fac_0 {X9 : rj_X} {σ : rj_H} {va tx : Nat} {T : Int → Int} {e : Int}  (hX : pv_X X9 va tx σ T e)  : pv_C X9 va tx σ T e 6 yX9_readFactor cX9_readFactor 2 5 (sp_fac T e 0) := by
  intro d g p n hd hP
  obtain ⟨hX1, hX2, hX3, -⟩ := id hX
  obtain ⟨-, -, -, -, hp, hn⟩ := id hP
  have hr := sp_hr_b hX3 hp.1
  have hl0 : ([] : List Int).length = 0 := rfl
  refine go_call (by decide +kernel) (Nat.le_of_ble_eq_true rfl) ?_
  refine go_eq (pc' := 0) (lv' := [(0, .ref va), (1, rj_i 5)]) (st' := []) rfl rfl rfl rfl ?_
  refine go_aload_n dX9_readFactor_0 rfl 0 rfl ?_
  refine pv_g12 fX9_58 dX9_readFactor_1 ?_
  rw [(show g 0 12 = sp_hr T e p from (pv_e.rf hP).1.2)]
  refine go_bipush (v := Int32.ofInt 33) dX9_readFactor_4 (by decide) ?_
  refine go_icmp_eqI (tgt := 23) (by omega) (by omega) dX9_readFactor_6 (by decide) (fun c_6 => ?_) (fun c_6 => ?_)
  · refine go_iload_n dX9_readFactor_23 rfl 1 rfl ?_
    refine go_iconst (v := Int32.ofInt 5) dX9_readFactor_24 rfl ?_
    refine go_icmp_ltI (tgt := 30) (by omega) (by omega) dX9_readFactor_25 (by decide) (fun c_25 => ?_) (fun c_25 => ?_)
    · exact absurd c_25 (by omega)
    · refine go_iconst (v := Int32.ofInt 0) dX9_readFactor_28 rfl ?_
      refine go_retI rfl (rj_n01 (by decide)) ?_ dX9_readFactor_29
      exact pv_z0 (by rw [sp_fac_0, if_pos (by omega)]) (pv_e.rf hP)
  · refine go_aload_n dX9_readFactor_9 rfl 0 rfl ?_
    refine pv_g12 fX9_58 dX9_readFactor_10 ?_
    rw [(show g 0 12 = sp_hr T e p from (pv_e.rf hP).1.2)]
    refine go_bipush (v := Int32.ofInt 40) dX9_readFactor_13 (by decide) ?_
    refine go_icmp_eqI (tgt := 23) (by omega) (by omega) dX9_readFactor_15 (by decide) (fun c_15 => ?_) (fun c_15 => ?_)
    · refine go_iload_n dX9_readFactor_23 rfl 1 rfl ?_
      refine go_iconst (v := Int32.ofInt 5) dX9_readFactor_24 rfl ?_
      refine go_icmp_ltI (tgt := 30) (by omega) (by omega) dX9_readFactor_25 (by decide) (fun c_25 => ?_) (fun c_25 => ?_)
      · exact absurd c_25 (by omega)
      · refine go_iconst (v := Int32.ofInt 0) dX9_readFactor_28 rfl ?_
        refine go_retI rfl (rj_n01 (by decide)) ?_ dX9_readFactor_29
        exact pv_z0 (by rw [sp_fac_0, if_pos (by omega)]) (pv_e.rf hP)
    · refine go_aload_n dX9_readFactor_18 rfl 0 rfl ?_
      refine go_callV (d1 := d - 1) wVX9_132 kX9 pv_0 rfl (by omega) (v_rtest (by omega) hX hP) rfl (Nat.le_of_ble_eq_true rfl) dX9_readFactor_19 (fun w σ1 hP9 => ?_)
      obtain ⟨hq9_1, hq9_2, hq9_3⟩ := sp_tt1_G hX3 p (by omega) (by omega)
      obtain ⟨rfl, g1, e1, rfl⟩ := hP9
      have E1 := (pv_e.rf hP).tr e1
      have P1 := e1.P hP ⟨hq9_1, hq9_2, hq9_3⟩
      refine go_retI rfl (rj_nb _) ?_ dX9_readFactor_22
      exact pv_zB (by rw [sp_fac_0, if_neg (by omega)]) (by simpa using E1)
theorem v_fac {X9 : rj_X} {σ : rj_H} {va tx : Nat} {T : Int → Int} {e : Int} (hX : pv_X X9 va tx σ T e) : ∀ m : Nat, m ≤ 5 → pv_C X9 va tx σ T e (6 + 3 * m) yX9_readFactor cX9_readFactor 2 (5 - (m : Int)) (sp_fac T e m)
  | 0, _ => v_fac_0 hX
  | m + 1, hm => by
    have ih := v_fac hX m (by omega)
    have hG := sp_fac_G hX.2.2.1 m
    have h1 := v_all (by omega) hX (o := 5 - (m : Int)) (by omega) hG ih
    have h2 := v_any (by omega) hX (o := 5 - (m : Int)) (by omega) (sp_ev_G hX.2.2.1 hG) h1
    have e5 : 5 - (m : Int) = 5 - ((m + 1 : Nat) : Int) + 1 := by omega
    rw [e5] at ih h2
    exact v_fac_s (D := 6 + 3 * m) hX (by omega) (by omega) hG ih h2
theorem v_any0 {X9 : rj_X} {σ : rj_H} {va tx : Nat} {T : Int → Int} {e : Int} (hX : pv_X X9 va tx σ T e) : pv_C X9 va tx σ T e 23 yX9_readAny cX9_readAny 3 0 (sp_som T e (sp_fac T e 5)) :=
  v_any (by omega) hX (by omega) (sp_ev_G hX.2.2.1 (sp_fac_G hX.2.2.1 5)) (v_all (by omega) hX (by omega) (sp_fac_G hX.2.2.1 5) (v_fac hX 5 (Nat.le_refl _)))
