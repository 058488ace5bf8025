/-! THE CLASS: its parser, fourth -/
theorem sp_spK_n {T : Int → Int} {e p : Int} {i k : Nat} (h : (sp_spK T e i p k).1 = false) : ∀ j : Nat, sp_spK T e i p (k + j) = (false, (sp_spK T e i p k).2)
  | 0 => Prod.ext h rfl
  | j + 1 => by
    show sp_spK T e i p (k + j + 1) = _
    rw [sp_spK, sp_spK_n h j, if_neg (fun q => absurd q.1 (by simp))]
theorem pv_e.k0 {T : Int → Int} {e p : Int} {g g' : rm_R} (h : pv_e T e g g' p []) : pv_k T e g g' p [] (g 0 7) (g 0 8) := by
  obtain ⟨⟨h1, h2⟩, h3, ⟨h4, h5, h6, h7⟩, h8, h9, h10⟩ := h
  refine ⟨⟨h1, h2, h7⟩, by rw [h3]; simp [lz_s], by rw [h4]; simp [lz_w], ⟨h5, h6⟩, h8, h9, h10⟩
theorem pv_rule {T : Int → Int} {e p m n w : Int} {g g1 : rm_R} {Y : List Int} (E : pv_e T e g g1 p Y) (hY : sp_nk Y) (hm : g 0 4 = m) (hn : g1 0 1 = n) (hw : 0 ≤ w) : pv_k T e g (rm_u (rm_u (rm_u g1 2 (rj_up (g1 2) m w)) 3 (rj_up (g1 3) m n)) 0 (rj_up (g1 0) 4 (m + 1))) p (Y ++ [-11 - w]) (g 0 7) (g 0 8) := by
  obtain ⟨⟨h1, h2⟩, h3, ⟨h4, h5, h6, h7⟩, h8, h9, h10⟩ := E
  have es : lz_s (Y ++ [-11 - w]) = Y.map sp_enc := by rw [lz_s_app, lz_s_nk hY, lz_s_c, if_pos (by omega)]; simp [lz_s]
  have ew : lz_w (Y ++ [-11 - w]) = [w] := by rw [lz_w_app, lz_w_nk hY, lz_w_c, if_pos (by omega)]; simp [lz_w]; omega
  have ee : lz_e (g 0 1) (Y ++ [-11 - w]) = [n] := by
    rw [lz_e_app, lz_e_nk _ hY, lz_s_nk hY, lz_e, if_pos (by omega), List.length_map, ← h3, hn]; rfl
  refine ⟨⟨?_, ?_, ?_⟩, ?_, ?_, ⟨?_, ?_⟩, ?_, ?_, ?_⟩
  · rw [rm_u_eq, rj_up_ne _ _ (by decide)]; exact h1
  · rw [rm_u_eq, rj_up_ne _ _ (by decide)]; exact h2
  · rw [rm_u_eq, rj_up_ne _ _ (by decide)]; exact h7
  · rw [rm_u_eq, rj_up_ne _ _ (by decide), h3, es, List.length_map]
  · rw [rm_u_eq, rj_up_eq, ew, hm]; rfl
  · rw [rm_u_eq, rj_up_ne _ _ (by decide)]; exact h5
  · rw [rm_u_eq, rj_up_ne _ _ (by decide)]; exact h6
  · rw [rm_u_ne _ _ (by decide), rm_u_ne _ _ (by decide), rm_u_ne _ _ (by decide), h8, es]
  · rw [rm_u_ne _ _ (by decide), rm_u_ne _ _ (by decide), rm_u_eq, h9, ew, hm]; rfl
  · rw [rm_u_ne _ _ (by decide), rm_u_eq, h10, ee, hm]; rfl
theorem pv_tell {T : Int → Int} {e p v : Int} {g g1 : rm_R} (k : Int) (E : pv_e T e g g1 p []) (hk : k = 7 ∨ k = 8) : pv_k T e g (rm_u g1 0 (rj_up (g1 0) k v)) p [] (if k = 7 then v else g 0 7) (if k = 8 then v else g 0 8) := by
  obtain ⟨⟨h1, h2⟩, h3, ⟨h4, h5, h6, h7⟩, h8, h9, h10⟩ := E
  refine ⟨⟨?_, ?_, ?_⟩, ?_, ?_, ⟨?_, ?_⟩, ?_, ?_, ?_⟩
  · rw [rm_u_eq, rj_up_ne _ _ (by omega)]; exact h1
  · rw [rm_u_eq, rj_up_ne _ _ (by omega)]; exact h2
  · rw [rm_u_eq, rj_up_ne _ _ (by omega)]; exact h7
  · rw [rm_u_eq, rj_up_ne _ _ (by omega), h3]; simp [lz_s]
  · rw [rm_u_eq, rj_up_ne _ _ (by omega), h4]; simp [lz_w]
  · rw [rm_u_eq]
    by_cases h : k = 7
    · rw [if_pos h, h, rj_up_eq]
    · rw [if_neg h, rj_up_ne _ _ (by omega)]; exact h5
  · rw [rm_u_eq]
    by_cases h : k = 8
    · rw [if_pos h, h, rj_up_eq]
    · rw [if_neg h, rj_up_ne _ _ (by omega)]; exact h6
  · rw [rm_u_ne _ _ (by decide)]; exact h8
  · rw [rm_u_ne _ _ (by decide)]; exact h9
  · rw [rm_u_ne _ _ (by decide)]; exact h10
theorem pv_tell7 {T : Int → Int} {e p v : Int} {g g1 : rm_R} (E : pv_e T e g g1 p []) : pv_k T e g (rm_u g1 0 (rj_up (g1 0) 7 v)) p [] v (g 0 8) := by
  have h := pv_tell (v := v) 7 E (Or.inl rfl)
  rw [if_pos rfl, if_neg (by decide)] at h
  exact h
theorem pv_tell8 {T : Int → Int} {e p v : Int} {g g1 : rm_R} (E : pv_e T e g g1 p []) : pv_k T e g (rm_u g1 0 (rj_up (g1 0) 8 v)) p [] (g 0 7) v := by
  have h := pv_tell (v := v) 8 E (Or.inr rfl)
  rw [if_neg (by decide), if_pos rfl] at h
  exact h
/-- behind a clause -/
def pv_Q (X9 : rj_X) (va tx : Nat) (σ : rj_H) (T : Int → Int) (e : Int) (g : rm_R) (X : sp_C) (w9 : Option Value) (τ : rj_H) : Prop := w9 = some (rj_i (rj_b (X.1 = true))) ∧ ∃ g2 : rm_R, (g2 0 11 = X.2.1 ∧ g2 0 12 = sp_hr T e X.2.1 ∧ g2 0 10 = e) ∧ (X.1 = true → pv_k T e g g2 X.2.1 X.2.2.1 X.2.2.2.1 X.2.2.2.2) ∧ τ = pv_p X9 va tx g2 σ
section KZ
variable {X9 : rj_X} {va tx : Nat} {σ : rj_H} {T : Int → Int} {e p' c t : Int} {g g2 : rm_R} {L : List Int} {X : sp_C}
theorem pv_y1 (he : g 0 10 = e) (hF : X = (true, p', L, c, t)) (K : pv_k T e g g2 p' L c t) : pv_Q X9 va tx σ T e g X (some (rj_i 1)) (pv_p X9 va tx g2 σ) := by
  subst hF
  exact ⟨rfl, g2, ⟨K.1.1, K.1.2.1, K.1.2.2.trans he⟩, fun _ => K, rfl⟩
theorem pv_y0 (hF : X = (false, p', L, c, t)) (K : g2 0 11 = p' ∧ g2 0 12 = sp_hr T e p' ∧ g2 0 10 = e) : pv_Q X9 va tx σ T e g X (some (rj_i 0)) (pv_p X9 va tx g2 σ) := by
  subst hF
  exact ⟨rfl, g2, K, fun q => absurd q (by simp), rfl⟩
end KZ
theorem pv_e.z {T : Int → Int} {e p n p' : Int} {g g' : rm_R} {l : List Int} (h : pv_P T e p n g) (k : pv_e T e g g' p' l) : g' 0 11 = p' ∧ g' 0 12 = sp_hr T e p' ∧ g' 0 10 = e := ⟨k.1.1, k.1.2, k.2.2.1.2.2.2.trans h.2.2.1⟩
set_option maxRecDepth 20000 in
/-- v_word -/
theorem v_word {X9 : rj_X} {σ : rj_H} {d va tx : Nat} {g : rm_R} {T : Int → Int} {e p n : Int} {i : Nat} (hd : 4 ≤ d) (hX : pv_X X9 va tx σ T e) (hP : pv_P T e p n g) (hi : i < 7) : rj_Cl X9 d yX9_readWord cX9_readWord 3 (some .boolean) [.ref va, .ref (rj_sk X9 i)] (pv_p X9 va tx g σ) (fun w9 τ => w9 = some (rj_i (rj_b (((sp_sp T e i p)).1 = true))) ∧ ∃ g2 : rm_R, pv_e T e g g2 ((sp_sp T e i p)).2 [] ∧ τ = pv_p X9 va tx g2 σ) := by
  obtain ⟨hX1, hX2, hX3, -⟩ := id hX
  obtain ⟨-, -, -, -, hp, hn⟩ := id hP
  have hr := sp_hr_b hX3 hp.1
  have hl0 : ([] : List Int).length = 0 := rfl
  have hl := (rj_sc_b i hi).1
  refine go_call (by decide +kernel) (Nat.le_of_ble_eq_true rfl) ?_
  refine go_eq (pc' := 0) (lv' := [(0, .ref va), (1, .ref (rj_sk X9 i))]) (st' := []) rfl rfl rfl rfl ?_
  refine go_iconst (v := Int32.ofInt 0) dX9_readWord_0 rfl ?_
  refine go_istore_nS (lv' := [(0, .ref va), (1, .ref (rj_sk X9 i)), (2, rj_i 0)]) rfl (by decide) rfl dX9_readWord_1 ?_
  obtain ⟨FT, hFT⟩ : ∃ FT, FT = sp_sp T e i p := ⟨_, rfl⟩
  rw [← hFT]
  have loopx : ∀ (nx : Nat) (k : Nat) (gl : rm_R), k + nx = rj_sl i → pv_e T e g gl (sp_spK T e i p k).2 [] → (sp_spK T e i p k).1 = true → rj_Go X9 yX9_readWord cX9_readWord 3 (some .boolean) d (fun w9 τ => w9 = some (rj_i (rj_b ((FT).1 = true))) ∧ ∃ g2 : rm_R, pv_e T e g g2 (FT).2 [] ∧ τ = pv_p X9 va tx g2 σ) 2 [(0, .ref va), (1, .ref (rj_sk X9 i)), (2, rj_i (k : Int))] [] (pv_p X9 va tx gl σ) := by
    intro nx
    induction nx with
    | zero =>
      intro k gl hk hE hok
      have hkb := sp_spK_b (p := p) hX3 hi hp k (by omega); have hPl := hE.P hP ⟨hkb.1, hkb.2, by simp; omega⟩; have pr := sp_hr_b (p := (sp_spK T e i p k).2) hX3 (by omega)
      refine go_iload_n dX9_readWord_2 rfl 2 rfl ?_
      refine go_aload_n dX9_readWord_3 rfl 1 rfl ?_
      refine go_callVS (d1 := d - 1) wVX9_30 rfl hi rfl (by omega) (j_length hi (by omega)) rfl (Nat.le_of_ble_eq_true rfl) dX9_readWord_4 (fun w σ1 hP9 => ?_)
      obtain ⟨rfl, rfl⟩ := hP9
      refine go_icmp_geI (tgt := 30) (by omega) (by omega) dX9_readWord_7 (by decide) (fun c_7 => ?_) (fun c_7 => ?_)
      · refine go_iconst (v := Int32.ofInt 1) dX9_readWord_30 rfl ?_
        refine go_retI rfl (rj_n01 (by decide)) ?_ dX9_readWord_31
        exact ⟨by rw [hFT]; unfold sp_sp; rw [show rj_sl i = k by omega, hok]; rfl, gl, (by rw [hFT]; unfold sp_sp; rw [show rj_sl i = k by omega]; exact hE), rfl⟩
      · exact absurd c_7 (by omega)
    | succ nx ihx =>
      intro k gl hk hE hok
      have hkb := sp_spK_b (p := p) hX3 hi hp k (by omega); have hPl := hE.P hP ⟨hkb.1, hkb.2, by simp; omega⟩; have pr := sp_hr_b (p := (sp_spK T e i p k).2) hX3 (by omega)
      have hc := (rj_sc_b i hi).2 k (by have := rj_sl_8 i hi; omega)
      refine go_iload_n dX9_readWord_2 rfl 2 rfl ?_
      refine go_aload_n dX9_readWord_3 rfl 1 rfl ?_
      refine go_callVS (d1 := d - 1) wVX9_30 rfl hi rfl (by omega) (j_length hi (by omega)) rfl (Nat.le_of_ble_eq_true rfl) dX9_readWord_4 (fun w σ1 hP9 => ?_)
      obtain ⟨rfl, rfl⟩ := hP9
      refine go_icmp_geI (tgt := 30) (by omega) (by omega) dX9_readWord_7 (by decide) (fun c_7 => ?_) (fun c_7 => ?_)
      · exact absurd c_7 (by omega)
      · refine go_aload_n dX9_readWord_10 rfl 0 rfl ?_
        refine go_aload_n dX9_readWord_11 rfl 1 rfl ?_
        refine go_iload_n dX9_readWord_12 rfl 2 rfl ?_
        refine go_callVS (d1 := d - 1) wVX9_88 rfl hi rfl (by omega) (j_char hi (k := k) (by omega) (by omega)) rfl (Nat.le_of_ble_eq_true rfl) dX9_readWord_13 (fun w σ1 hP9 => ?_)
        obtain ⟨rfl, rfl⟩ := hP9
        by_cases hb_16_20 : sp_hr T e ((sp_spK T e i p k).2) = rj_sc i k
        · refine go_callV (d1 := d - 1) wVX9_84 kX9 pv_0 rfl (by omega) (v_reads_y (c9 := rj_sc i k) (by omega) hX hPl (by omega) hb_16_20) rfl (Nat.le_of_ble_eq_true rfl) dX9_readWord_16 (fun w σ1 hP9 => ?_)
          obtain ⟨rfl, rfl⟩ := hP9
          have hv21 := sp_hr_b (p := (sp_spK T e i p k).2) hX3 (by omega)
          have e21 := pv_mv_e hPl
          have E21 := hE.tr e21
          have P21 := e21.P hPl ⟨by omega, by omega, by simp; omega⟩
          obtain ⟨g21, eg21⟩ : ∃ x_, x_ = pv_mv T e ((sp_spK T e i p k).2 + 1) gl := ⟨_, rfl⟩
          rw [← eg21] at e21 E21 P21
          rw [← eg21]
          refine go_if_neI (tgt := 24) (by omega) dX9_readWord_19 (by decide) (fun c_19 => ?_) (fun c_19 => ?_)
          · refine go_iincI (a := (k : Int)) (n := 1) (k0 := 2) (lv' := [(0, .ref va), (1, .ref (rj_sk X9 i)), (2, rj_i ((k : Int) + 1))]) rfl (by decide) rfl dX9_readWord_24 ?_
            refine go_goto (tgt := 2) dX9_readWord_27 (by decide) ?_
            have hn9 : sp_spK T e i p (k + 1) = (true, (sp_spK T e i p k).2 + 1) := by rw [sp_spK, if_pos ⟨hok, hb_16_20⟩]
            exact go_eq rfl (lv' := [(0, .ref va), (1, .ref (rj_sk X9 i)), (2, rj_i ((k + 1 : Nat) : Int))]) (rj_lk (rj_lk (rj_lj (by omega) rfl))) rfl rfl (ihx (k + 1) g21 (by omega) (by rw [hn9]; exact E21) (by rw [hn9]))
          · exact absurd c_19 (by omega)
        · refine go_callV (d1 := d - 1) wVX9_84 kX9 pv_0 rfl (by omega) (v_reads_n (c9 := rj_sc i k) hX hPl (by omega) hb_16_20) rfl (Nat.le_of_ble_eq_true rfl) dX9_readWord_16 (fun w σ1 hP9 => ?_)
          obtain ⟨rfl, rfl⟩ := hP9
          refine go_if_neI (tgt := 24) (by omega) dX9_readWord_19 (by decide) (fun c_19 => ?_) (fun c_19 => ?_)
          · exact absurd c_19 (by omega)
          · refine go_iconst (v := Int32.ofInt 0) dX9_readWord_22 rfl ?_
            refine go_retI rfl (rj_n01 (by decide)) ?_ dX9_readWord_23
            exact (by
              have hn9 : sp_spK T e i p (k + 1) = (false, (sp_spK T e i p k).2) := by rw [sp_spK, if_neg (fun q => hb_16_20 q.2)]
              have hF9 : FT = (false, (sp_spK T e i p k).2) := by rw [hFT]; unfold sp_sp; rw [show rj_sl i = k + 1 + nx by omega, sp_spK_n (by rw [hn9]) nx, hn9]
              subst hF9
              exact ⟨rfl, gl, hE, rfl⟩)
  exact go_eq rfl (lv' := [(0, .ref va), (1, .ref (rj_sk X9 i)), (2, rj_i ((0 : Nat) : Int))]) (rj_lk (rj_lk (rj_lj (rfl) rfl))) rfl rfl (loopx (rj_sl i) 0 g (by omega) (pv_e.rf hP) rfl)
theorem v_word_y {X9 : rj_X} {σ : rj_H} {d va tx : Nat} {g : rm_R} {T : Int → Int} {e p n : Int} {i : Nat} (hd : 4 ≤ d) (hX : pv_X X9 va tx σ T e) (hP : pv_P T e p n g) (hi : i < 7) (h9 : (sp_sp T e i p).1 = true) : rj_Cl X9 d yX9_readWord cX9_readWord 3 (some .boolean) [.ref va, .ref (rj_sk X9 i)] (pv_p X9 va tx g σ) (fun w9 τ => w9 = some (rj_i 1) ∧ ∃ g2 : rm_R, pv_e T e g g2 (sp_sp T e i p).2 [] ∧ τ = pv_p X9 va tx g2 σ) := (v_word hd hX hP hi).mono (fun w τ q => ⟨q.1.trans (by rw [rj_bt h9]), q.2⟩)
theorem v_word_n {X9 : rj_X} {σ : rj_H} {d va tx : Nat} {g : rm_R} {T : Int → Int} {e p n : Int} {i : Nat} (hd : 4 ≤ d) (hX : pv_X X9 va tx σ T e) (hP : pv_P T e p n g) (hi : i < 7) (h9 : ¬ (sp_sp T e i p).1 = true) : rj_Cl X9 d yX9_readWord cX9_readWord 3 (some .boolean) [.ref va, .ref (rj_sk X9 i)] (pv_p X9 va tx g σ) (fun w9 τ => w9 = some (rj_i 0) ∧ ∃ g2 : rm_R, pv_e T e g g2 (sp_sp T e i p).2 [] ∧ τ = pv_p X9 va tx g2 σ) := (v_word hd hX hP hi).mono (fun w τ q => ⟨q.1.trans (by rw [rj_bf h9]), q.2⟩)
set_option maxRecDepth 20000 in
/-- v_rule_y -/
theorem v_rule_y {X9 : rj_X} {σ : rj_H} {d va tx : Nat} {g : rm_R} {T : Int → Int} {e p n : Int} {m w : Int} (hd : 24 ≤ d) (hX : pv_X X9 va tx σ T e) (hP : pv_P T e p n g) (hm : g 0 4 = m) (hm2 : 0 ≤ m ∧ m < 10) (hw : 0 ≤ w ∧ w ≤ 2) (h9 : (sp_som T e (sp_fac T e 5) p).1 = true) : rj_Cl X9 d yX9_readRule cX9_readRule 2 (some .boolean) [.ref va, rj_i w] (pv_p X9 va tx g σ) (fun w9 τ => w9 = some (rj_i 1) ∧ ∃ g2 : rm_R, pv_k T e g g2 (sp_som T e (sp_fac T e 5) p).2.1 ((sp_som T e (sp_fac T e 5) p).2.2 ++ [-11 - w]) (g 0 7) (g 0 8) ∧ τ = pv_p X9 va tx g2 σ) := by
  obtain ⟨hX1, hX2, hX3, -⟩ := id hX
  obtain ⟨-, -, -, -, hp, hn⟩ := id hP
  have hr := sp_hr_b hX3 hp.1
  have hl0 : ([] : List Int).length = 0 := rfl
  refine go_call (by decide +kernel) (Nat.le_of_ble_eq_true rfl) ?_
  refine go_eq (pc' := 0) (lv' := [(0, .ref va), (1, rj_i w)]) (st' := []) rfl rfl rfl rfl ?_
  refine go_aload_n dX9_readRule_0 rfl 0 rfl ?_
  refine pv_g4 fX9_25 dX9_readRule_1 ?_
  rw [(show g 0 4 = m from hm)]
  refine go_bipush (v := Int32.ofInt 10) dX9_readRule_4 (by decide) ?_
  refine go_icmp_geI (tgt := 17) (by omega) (by omega) dX9_readRule_6 (by decide) (fun c_6 => ?_) (fun c_6 => ?_)
  · exact absurd c_6 (by omega)
  · refine go_aload_n dX9_readRule_9 rfl 0 rfl ?_
    refine go_iconst (v := Int32.ofInt 0) dX9_readRule_10 rfl ?_
    refine go_callV (d1 := d - 1) wVX9_119 kX9 pv_0 rfl (by omega) ((v_any0 hX).y (by omega) hP h9) rfl (Nat.le_of_ble_eq_true rfl) dX9_readRule_11 (fun w σ1 hP9 => ?_)
    obtain ⟨hq9_1, hq9_2, hq9_3⟩ := sp_som_G hX3 (sp_fac_G hX3 5) p (by omega) (by omega)
    obtain ⟨rfl, g1, e1, rfl⟩ := hP9
    have E1 := (pv_e.rf hP).tr e1
    have P1 := e1.P hP ⟨hq9_1, hq9_2, hq9_3⟩
    refine go_if_neI (tgt := 19) (by omega) dX9_readRule_14 (by decide) (fun c_14 => ?_) (fun c_14 => ?_)
    · refine go_aload_n dX9_readRule_19 rfl 0 rfl ?_
      refine pv_g2 fX9_19 dX9_readRule_20 ?_
      refine go_aload_n dX9_readRule_23 rfl 0 rfl ?_
      refine pv_g4 fX9_25 dX9_readRule_24 ?_
      rw [(show g1 0 4 = m from E1.2.2.1.1.trans hm)]
      refine go_iload_n dX9_readRule_27 rfl 1 rfl ?_
      refine pv_t2 (by omega) (by omega) dX9_readRule_28 ?_
      refine go_aload_n dX9_readRule_29 rfl 0 rfl ?_
      refine pv_g3 fX9_22 dX9_readRule_30 ?_
      refine go_aload_n dX9_readRule_33 rfl 0 rfl ?_
      refine pv_g4 fX9_25 dX9_readRule_34 ?_
      rw [(show (rm_u g1 2 (rj_up (g1 2) m w)) 0 4 = m from (show g1 0 4 = m from E1.2.2.1.1.trans hm))]
      refine go_aload_n dX9_readRule_37 rfl 0 rfl ?_
      refine pv_g1 fX9_15 dX9_readRule_38 ?_
      rw [(show (rm_u g1 2 (rj_up (g1 2) m w)) 0 1 = (n + (((sp_som T e (sp_fac T e 5) p).2.2).length : Int)) from (show g1 0 1 = (n + (((sp_som T e (sp_fac T e 5) p).2.2).length : Int)) from P1.2.2.2.1))]
      refine pv_t3 (by omega) (by omega) dX9_readRule_41 ?_
      refine go_aload_n dX9_readRule_42 rfl 0 rfl ?_
      refine go_dup dX9_readRule_43 rfl ?_
      refine pv_g4 fX9_25 dX9_readRule_44 ?_
      rw [(show (rm_u (rm_u g1 2 (rj_up (g1 2) m w)) 3 (rj_up ((rm_u g1 2 (rj_up (g1 2) m w)) 3) m (n + (((sp_som T e (sp_fac T e 5) p).2.2).length : Int)))) 0 4 = m from (show (rm_u g1 2 (rj_up (g1 2) m w)) 0 4 = m from (show g1 0 4 = m from E1.2.2.1.1.trans hm)))]
      refine go_iconst (v := Int32.ofInt 1) dX9_readRule_47 rfl ?_
      refine go_addI dX9_readRule_48 ?_
      refine pv_w4 fX9_25 dX9_readRule_49 ?_
      refine go_iconst (v := Int32.ofInt 1) dX9_readRule_52 rfl ?_
      refine go_retI rfl (rj_n01 (by decide)) ?_ dX9_readRule_53
      exact ⟨rfl, _, pv_rule (by simpa using E1) (sp_W_5 hX3 hp.1 hp.2 h9).1 hm P1.2.2.2.1 (by omega), rfl⟩
    · exact absurd c_14 (by omega)
set_option maxRecDepth 20000 in
/-- v_rule_n -/
theorem v_rule_n {X9 : rj_X} {σ : rj_H} {d va tx : Nat} {g : rm_R} {T : Int → Int} {e p n : Int} {m w : Int} (hd : 24 ≤ d) (hX : pv_X X9 va tx σ T e) (hP : pv_P T e p n g) (hm : g 0 4 = m) (hm2 : 0 ≤ m ∧ m < 10) (hw : 0 ≤ w ∧ w ≤ 2) (h9 : ¬ (sp_som T e (sp_fac T e 5) p).1 = true) : rj_Cl X9 d yX9_readRule cX9_readRule 2 (some .boolean) [.ref va, rj_i w] (pv_p X9 va tx g σ) (fun w9 τ => w9 = some (rj_i 0) ∧ ∃ g2 : rm_R, pv_e T e g g2 (sp_som T e (sp_fac T e 5) p).2.1 (sp_som T e (sp_fac T e 5) p).2.2 ∧ τ = pv_p X9 va tx g2 σ) := by
  obtain ⟨hX1, hX2, hX3, -⟩ := id hX
  obtain ⟨-, -, -, -, hp, hn⟩ := id hP
  have hr := sp_hr_b hX3 hp.1
  have hl0 : ([] : List Int).length = 0 := rfl
  refine go_call (by decide +kernel) (Nat.le_of_ble_eq_true rfl) ?_
  refine go_eq (pc' := 0) (lv' := [(0, .ref va), (1, rj_i w)]) (st' := []) rfl rfl rfl rfl ?_
  refine go_aload_n dX9_readRule_0 rfl 0 rfl ?_
  refine pv_g4 fX9_25 dX9_readRule_1 ?_
  rw [(show g 0 4 = m from hm)]
  refine go_bipush (v := Int32.ofInt 10) dX9_readRule_4 (by decide) ?_
  refine go_icmp_geI (tgt := 17) (by omega) (by omega) dX9_readRule_6 (by decide) (fun c_6 => ?_) (fun c_6 => ?_)
  · exact absurd c_6 (by omega)
  · refine go_aload_n dX9_readRule_9 rfl 0 rfl ?_
    refine go_iconst (v := Int32.ofInt 0) dX9_readRule_10 rfl ?_
    refine go_callV (d1 := d - 1) wVX9_119 kX9 pv_0 rfl (by omega) ((v_any0 hX).n (by omega) hP h9) rfl (Nat.le_of_ble_eq_true rfl) dX9_readRule_11 (fun w σ1 hP9 => ?_)
    obtain ⟨hq9_1, hq9_2, hq9_3⟩ := sp_som_G hX3 (sp_fac_G hX3 5) p (by omega) (by omega)
    obtain ⟨rfl, g1, e1, rfl⟩ := hP9
    have E1 := (pv_e.rf hP).tr e1
    have P1 := e1.P hP ⟨hq9_1, hq9_2, hq9_3⟩
    refine go_if_neI (tgt := 19) (by omega) dX9_readRule_14 (by decide) (fun c_14 => ?_) (fun c_14 => ?_)
    · exact absurd c_14 (by omega)
    · refine go_iconst (v := Int32.ofInt 0) dX9_readRule_17 rfl ?_
      refine go_retI rfl (rj_n01 (by decide)) ?_ dX9_readRule_18
      exact ⟨rfl, g1, by simpa using E1, rfl⟩
set_option maxRecDepth 20000 in
/-- v_cloud_y -/
theorem v_cloud_y {X9 : rj_X} {σ : rj_H} {d va tx : Nat} {g : rm_R} {T : Int → Int} {e p n : Int} (hd : 2 ≤ d) (hX : pv_X X9 va tx σ T e) (hP : pv_P T e p n g) (h9 : (sp_num T e p).1 = true) : rj_Cl X9 d yX9_readCloud cX9_readCloud 2 (some .boolean) [.ref va] (pv_p X9 va tx g σ) (fun w9 τ => w9 = some (rj_i 1) ∧ ∃ g2 : rm_R, pv_k T e g g2 (sp_num T e p).2.1 [] (if 10 < (sp_num T e p).2.2 then 10 else (sp_num T e p).2.2) (g 0 8) ∧ τ = pv_p X9 va tx g2 σ) := by
  obtain ⟨hX1, hX2, hX3, -⟩ := id hX
  obtain ⟨-, -, -, -, hp, hn⟩ := id hP
  have hr := sp_hr_b hX3 hp.1
  have hl0 : ([] : List Int).length = 0 := rfl
  have hm := sp_num_b (p := p) hX3 hp
  refine go_call (by decide +kernel) (Nat.le_of_ble_eq_true rfl) ?_
  refine go_eq (pc' := 0) (lv' := [(0, .ref va)]) (st' := []) rfl rfl rfl rfl ?_
  refine go_aload_n dX9_readCloud_0 rfl 0 rfl ?_
  refine go_callV (d1 := d - 1) wVX9_116 kX9 pv_0 rfl (by omega) (v_num_y (by omega) hX hP h9) rfl (Nat.le_of_ble_eq_true rfl) dX9_readCloud_1 (fun w σ1 hP9 => ?_)
  obtain ⟨rfl, g1, e1, rfl⟩ := hP9
  have E1 := (pv_e.rf hP).tr e1
  have P1 := e1.P hP ⟨by omega, by omega, by simp; omega⟩
  refine go_istore_nS (lv' := [(0, .ref va), (1, rj_i ((sp_num T e p).2.2))]) rfl (by decide) rfl dX9_readCloud_4 ?_
  refine go_aload_n dX9_readCloud_5 rfl 0 rfl ?_
  refine go_iload_n dX9_readCloud_6 rfl 1 rfl ?_
  refine go_bipush (v := Int32.ofInt 10) dX9_readCloud_7 (by decide) ?_
  refine go_mmin (a := (sp_num T e p).2.2) (b := 10) (by omega) (by omega) wSX9_72 (by omega) (Nat.le_of_ble_eq_true rfl) dX9_readCloud_9 ?_
  refine pv_w7 fX9_42 dX9_readCloud_12 ?_
  refine go_iload_n dX9_readCloud_15 rfl 1 rfl ?_
  refine go_if_ltI (tgt := 23) (by omega) dX9_readCloud_16 (by decide) (fun c_16 => ?_) (fun c_16 => ?_)
  · exact absurd c_16 (by omega)
  · refine go_iconst (v := Int32.ofInt 1) dX9_readCloud_19 rfl ?_
    refine go_goto (tgt := 24) dX9_readCloud_20 (by decide) ?_
    refine go_retI rfl (rj_n01 (by decide)) ?_ dX9_readCloud_24
    exact ⟨rfl, _, pv_tell7 (by simpa using E1), rfl⟩
set_option maxRecDepth 20000 in
/-- v_cloud_n -/
theorem v_cloud_n {X9 : rj_X} {σ : rj_H} {d va tx : Nat} {g : rm_R} {T : Int → Int} {e p n : Int} (hd : 2 ≤ d) (hX : pv_X X9 va tx σ T e) (hP : pv_P T e p n g) (h9 : ¬ (sp_num T e p).1 = true) : rj_Cl X9 d yX9_readCloud cX9_readCloud 2 (some .boolean) [.ref va] (pv_p X9 va tx g σ) (fun w9 τ => w9 = some (rj_i 0) ∧ ∃ g2 : rm_R, (g2 0 11 = (sp_num T e p).2.1 ∧ g2 0 12 = sp_hr T e (sp_num T e p).2.1 ∧ g2 0 10 = g 0 10) ∧ τ = pv_p X9 va tx g2 σ) := by
  obtain ⟨hX1, hX2, hX3, -⟩ := id hX
  obtain ⟨-, -, -, -, hp, hn⟩ := id hP
  have hr := sp_hr_b hX3 hp.1
  have hl0 : ([] : List Int).length = 0 := rfl
  have hm := sp_num_b (p := p) hX3 hp
  refine go_call (by decide +kernel) (Nat.le_of_ble_eq_true rfl) ?_
  refine go_eq (pc' := 0) (lv' := [(0, .ref va)]) (st' := []) rfl rfl rfl rfl ?_
  refine go_aload_n dX9_readCloud_0 rfl 0 rfl ?_
  refine go_callV (d1 := d - 1) wVX9_116 kX9 pv_0 rfl (by omega) (v_num_n (by omega) hX hP h9) rfl (Nat.le_of_ble_eq_true rfl) dX9_readCloud_1 (fun w σ1 hP9 => ?_)
  obtain ⟨rfl, g1, e1, rfl⟩ := hP9
  have E1 := (pv_e.rf hP).tr e1
  have P1 := e1.P hP ⟨by omega, by omega, by simp; omega⟩
  refine go_istore_nS (lv' := [(0, .ref va), (1, rj_i (-1))]) rfl (by decide) rfl dX9_readCloud_4 ?_
  refine go_aload_n dX9_readCloud_5 rfl 0 rfl ?_
  refine go_iload_n dX9_readCloud_6 rfl 1 rfl ?_
  refine go_bipush (v := Int32.ofInt 10) dX9_readCloud_7 (by decide) ?_
  refine go_mmin (a := (-1)) (b := 10) (by omega) (by omega) wSX9_72 (by omega) (Nat.le_of_ble_eq_true rfl) dX9_readCloud_9 ?_
  refine pv_w7 fX9_42 dX9_readCloud_12 ?_
  refine go_iload_n dX9_readCloud_15 rfl 1 rfl ?_
  refine go_if_ltI (tgt := 23) (by omega) dX9_readCloud_16 (by decide) (fun c_16 => ?_) (fun c_16 => ?_)
  · refine go_iconst (v := Int32.ofInt 0) dX9_readCloud_23 rfl ?_
    refine go_retI rfl (rj_n01 (by decide)) ?_ dX9_readCloud_24
    exact ⟨rfl, _, (pv_tell (v := _) 7 (by simpa using E1) (by decide)).1, rfl⟩
  · exact absurd c_16 (by omega)
set_option maxRecDepth 20000 in
/-- v_turn_y -/
theorem v_turn_y {X9 : rj_X} {σ : rj_H} {d va tx : Nat} {g : rm_R} {T : Int → Int} {e p n : Int} (hd : 2 ≤ d) (hX : pv_X X9 va tx σ T e) (hP : pv_P T e p n g) (h9 : (sp_num T e p).1 = true) : rj_Cl X9 d yX9_readTurn cX9_readTurn 1 (some .boolean) [.ref va] (pv_p X9 va tx g σ) (fun w9 τ => w9 = some (rj_i 1) ∧ ∃ g2 : rm_R, pv_k T e g g2 (sp_num T e p).2.1 [] (g 0 7) (sp_num T e p).2.2 ∧ τ = pv_p X9 va tx g2 σ) := by
  obtain ⟨hX1, hX2, hX3, -⟩ := id hX
  obtain ⟨-, -, -, -, hp, hn⟩ := id hP
  have hr := sp_hr_b hX3 hp.1
  have hl0 : ([] : List Int).length = 0 := rfl
  have hm := sp_num_b (p := p) hX3 hp
  refine go_call (by decide +kernel) (Nat.le_of_ble_eq_true rfl) ?_
  refine go_eq (pc' := 0) (lv' := [(0, .ref va)]) (st' := []) rfl rfl rfl rfl ?_
  refine go_aload_n dX9_readTurn_0 rfl 0 rfl ?_
  refine go_aload_n dX9_readTurn_1 rfl 0 rfl ?_
  refine go_callV (d1 := d - 1) wVX9_116 kX9 pv_0 rfl (by omega) (v_num_y (by omega) hX hP h9) rfl (Nat.le_of_ble_eq_true rfl) dX9_readTurn_2 (fun w σ1 hP9 => ?_)
  obtain ⟨rfl, g1, e1, rfl⟩ := hP9
  have E1 := (pv_e.rf hP).tr e1
  have P1 := e1.P hP ⟨by omega, by omega, by simp; omega⟩
  refine pv_w8 fX9_45 dX9_readTurn_5 ?_
  refine go_aload_n dX9_readTurn_8 rfl 0 rfl ?_
  refine pv_g8 fX9_45 dX9_readTurn_9 ?_
  rw [(show (rm_u g1 0 (rj_up (g1 0) 8 ((sp_num T e p).2.2))) 0 8 = (sp_num T e p).2.2 from rfl)]
  refine go_if_ltI (tgt := 19) (by omega) dX9_readTurn_12 (by decide) (fun c_12 => ?_) (fun c_12 => ?_)
  · exact absurd c_12 (by omega)
  · refine go_iconst (v := Int32.ofInt 1) dX9_readTurn_15 rfl ?_
    refine go_goto (tgt := 20) dX9_readTurn_16 (by decide) ?_
    refine go_retI rfl (rj_n01 (by decide)) ?_ dX9_readTurn_20
    exact ⟨rfl, _, pv_tell8 (by simpa using E1), rfl⟩
set_option maxRecDepth 20000 in
/-- v_turn_n -/
theorem v_turn_n {X9 : rj_X} {σ : rj_H} {d va tx : Nat} {g : rm_R} {T : Int → Int} {e p n : Int} (hd : 2 ≤ d) (hX : pv_X X9 va tx σ T e) (hP : pv_P T e p n g) (h9 : ¬ (sp_num T e p).1 = true) : rj_Cl X9 d yX9_readTurn cX9_readTurn 1 (some .boolean) [.ref va] (pv_p X9 va tx g σ) (fun w9 τ => w9 = some (rj_i 0) ∧ ∃ g2 : rm_R, (g2 0 11 = (sp_num T e p).2.1 ∧ g2 0 12 = sp_hr T e (sp_num T e p).2.1 ∧ g2 0 10 = g 0 10) ∧ τ = pv_p X9 va tx g2 σ) := by
  obtain ⟨hX1, hX2, hX3, -⟩ := id hX
  obtain ⟨-, -, -, -, hp, hn⟩ := id hP
  have hr := sp_hr_b hX3 hp.1
  have hl0 : ([] : List Int).length = 0 := rfl
  have hm := sp_num_b (p := p) hX3 hp
  refine go_call (by decide +kernel) (Nat.le_of_ble_eq_true rfl) ?_
  refine go_eq (pc' := 0) (lv' := [(0, .ref va)]) (st' := []) rfl rfl rfl rfl ?_
  refine go_aload_n dX9_readTurn_0 rfl 0 rfl ?_
  refine go_aload_n dX9_readTurn_1 rfl 0 rfl ?_
  refine go_callV (d1 := d - 1) wVX9_116 kX9 pv_0 rfl (by omega) (v_num_n (by omega) hX hP h9) rfl (Nat.le_of_ble_eq_true rfl) dX9_readTurn_2 (fun w σ1 hP9 => ?_)
  obtain ⟨rfl, g1, e1, rfl⟩ := hP9
  have E1 := (pv_e.rf hP).tr e1
  have P1 := e1.P hP ⟨by omega, by omega, by simp; omega⟩
  refine pv_w8 fX9_45 dX9_readTurn_5 ?_
  refine go_aload_n dX9_readTurn_8 rfl 0 rfl ?_
  refine pv_g8 fX9_45 dX9_readTurn_9 ?_
  rw [(show (rm_u g1 0 (rj_up (g1 0) 8 (-1))) 0 8 = (-1) from rfl)]
  refine go_if_ltI (tgt := 19) (by omega) dX9_readTurn_12 (by decide) (fun c_12 => ?_) (fun c_12 => ?_)
  · refine go_iconst (v := Int32.ofInt 0) dX9_readTurn_19 rfl ?_
    refine go_retI rfl (rj_n01 (by decide)) ?_ dX9_readTurn_20
    exact ⟨rfl, _, (pv_tell (v := _) 8 (by simpa using E1) (by decide)).1, rfl⟩
  · exact absurd c_12 (by omega)
