/-! THE CLASS: its parser, sixth: faultOf -/
/-- what is right of a list of clauses -/
def sp_lw9 (L : List Int) : Prop := sp_wl L 0 0 ∧ (L = [] ∨ ∃ (Y : List Int) (k : Int), L = Y ++ [k] ∧ k ≤ -11)
theorem sp_lw9_app {L M : List Int} (h : sp_lw9 L) (k : sp_lw9 M) : sp_lw9 (L ++ M) := by
  refine ⟨sp_wl_app _ _ h.1 k.1, ?_⟩
  rcases k.2 with e | ⟨Y, x, e, hx⟩
  · rw [e, List.append_nil]; exact h.2
  · exact Or.inr ⟨L ++ Y, x, by rw [e, List.append_assoc], hx⟩
theorem sp_lw9_r {T : Int → Int} {e p kind : Int} (hT : sp_TB T e) (hp : 0 ≤ p ∧ p ≤ e) (hk : -13 ≤ kind ∧ kind ≤ -11) (ho : (sp_som T e (sp_fac T e 5) p).1 = true) : sp_lw9 ((sp_som T e (sp_fac T e 5) p).2.2 ++ [kind]) ∧ (lz_w ((sp_som T e (sp_fac T e 5) p).2.2 ++ [kind])).length ≤ 1 := by
  obtain ⟨a, b⟩ := sp_W_5 hT hp.1 hp.2 ho
  refine ⟨⟨sp_wl_app _ _ b ⟨⟨⟨by omega, by omega, fun q => by omega, fun q => by omega, fun q => by omega, fun _ => ⟨rfl, hk.1⟩⟩, fun q => by omega⟩, ?_⟩, Or.inr ⟨_, _, rfl, hk.2⟩⟩, ?_⟩
  · show sp_hx 1 kind = 0
    unfold sp_hx
    rw [if_neg (by omega), if_neg (by omega), if_neg (by omega)]
  · rw [lz_w_app, lz_w_nk a, lz_w_c, if_pos hk.2]; simp [lz_w]
theorem sp_cla_W {T : Int → Int} {e p cl tn : Int} (hT : sp_TB T e) (hp : 0 ≤ p ∧ p ≤ e) (ho : (sp_cla T e p cl tn).1 = true) : sp_lw9 (sp_cla T e p cl tn).2.2.1 ∧ (lz_w (sp_cla T e p cl tn).2.2.1).length ≤ 1 := by
  have hn : sp_lw9 [] ∧ (lz_w []).length ≤ 1 := ⟨⟨rfl, Or.inl rfl⟩, by simp [lz_w]⟩
  have hw : ∀ (i : Nat) (kind : Int), i < 7 → -13 ≤ kind ∧ kind ≤ -11 → (sp_whn T e i kind p).1 = true → sp_lw9 (sp_whn T e i kind p).2.2 ∧ (lz_w (sp_whn T e i kind p).2.2).length ≤ 1 := by
    intro i kind hi hk h
    by_cases h1 : (sp_sp T e i p).1 = true
    · by_cases h2 : (sp_som T e (sp_fac T e 5) (sp_sp T e i p).2).1 = true
      · rw [sp_whn_1 h1 h2]
        have hb := sp_sp_b (T := T) (e := e) (p := p) (i := i) hT hi hp
        exact sp_lw9_r hT ⟨by omega, by omega⟩ hk h2
      · rw [sp_whn_2 h1 h2] at h; exact absurd h (by simp)
    · rw [sp_whn_3 h1] at h; exact absurd h (by simp)
  revert ho
  unfold sp_cla
  split
  · exact hw 0 (-11) (by decide) (by decide)
  · split
    · exact hw 1 (-12) (by decide) (by decide)
    · split
      · exact hw 2 (-13) (by decide) (by decide)
      · split
        · intro _; exact hn
        · split
          · intro _; exact hn
          · intro _; exact hn
theorem sp_cls_W {T : Int → Int} {e : Int} (hT : sp_TB T e) : ∀ (f : Nat) (C : sp_C), sp_CB 0 e C → (C.1 = true → sp_lw9 C.2.2.1) → (sp_cls T e f C).1 = true → sp_lw9 (sp_cls T e f C).2.2.1
  | 0, C, hB, hC, ho => hC ho
  | f + 1, C, hB, hC, ho => by
    revert ho
    rw [sp_cls]
    split
    · rename_i hq
      intro ho
      obtain ⟨b1, b2, b3, b4, b5⟩ := id hB
      have hr := sp_hr_b (p := C.2.1) hT (by omega)
      refine sp_cls_W hT f _ (sp_cct_B hB (sp_cla_B hT (by omega) b4 b5)) (fun hx => ?_) ho
      exact sp_lw9_app (hC hq.1) (sp_cla_W hT (by omega) hx).1
    · exact hC
theorem sp_vl_W {T : Int → Int} {e : Int} (hT : sp_TB T e) (he : 0 ≤ e) (ho : (sp_vl T e).1 = true) : sp_lw9 (sp_vl T e).2.2.1 := sp_cls_W hT 9 _ (sp_cla_B hT (by omega) (by omega) (by omega)) (fun h => (sp_cla_W hT (by omega) h).1) ho
theorem sp_cls_no {T : Int → Int} {e : Int} {f : Nat} {C : sp_C} (h : ¬ (C.1 = true ∧ sp_hr T e C.2.1 = 59)) : sp_cls T e f C = C := by
  cases f with
  | zero => rfl
  | succ f => rw [sp_cls, if_neg h]
theorem lz_s_le (L : List Int) : (lz_s L).length ≤ L.length := by
  unfold lz_s; rw [List.length_map]; exact List.length_filter_le _ _
theorem pv_mv_k {T : Int → Int} {e p p' cl tn : Int} {g g' : rm_R} {L : List Int} (h : pv_k T e g g' p L cl tn) : pv_k T e g (pv_mv T e p' g') p' L cl tn := by
  obtain ⟨⟨h1, h2, h3⟩, h4, h5, ⟨h6, h7⟩, h8, h9, h10⟩ := h
  unfold pv_mv
  refine ⟨⟨?_, ?_, ?_⟩, ?_, ?_, ⟨?_, ?_⟩, h8, h9, h10⟩
  · rw [rm_u_eq, rj_up_ne _ _ (by decide), rj_up_eq]
  · rw [rm_u_eq, rj_up_eq]
  all_goals rw [rm_u_eq, rj_up_ne _ _ (by decide), rj_up_ne _ _ (by decide)]; assumption
/-- behind all clauses: what the object says -/
def pv_F (g g2 : rm_R) (C : sp_C) : Prop := g2 0 1 = ((lz_s C.2.2.1).length : Int) ∧ g2 0 4 = ((lz_w C.2.2.1).length : Int) ∧ (g2 0 7 = C.2.2.2.1 ∧ g2 0 8 = C.2.2.2.2) ∧ g2 1 = pv_app (g 1) 0 (lz_s C.2.2.1) ∧ g2 2 = pv_app (g 2) 0 (lz_w C.2.2.1) ∧ g2 3 = pv_app (g 3) 0 (lz_e 0 C.2.2.1)
set_option maxRecDepth 20000 in
theorem v_fault {X9 : rj_X} {σ H0 : rj_H} {d va tx : Nat} {g : rm_R} {T : Int → Int} {e : Int} (hd : 26 ≤ d) (hX : pv_X X9 va tx σ T e) (h0 : H0.2.2 va = some (.inr (9, (pv_f va tx (g 0)).set 9 .null))) (hs : rj_set H0 va (.inr (9, pv_f va tx (g 0))) = pv_p X9 va tx g σ) (z1 : g 0 1 = 0) (z4 : g 0 4 = 0) (z7 : g 0 7 = 0) (z8 : g 0 8 = 9) : rj_Cl X9 d yX9_faultOf cX9_faultOf 5 (some .int) [.ref va, .ref tx, rj_i e] H0 (fun w9 τ => w9 = some (rj_i (if (sp_vl T e).1 = true ∧ (sp_vl T e).2.1 = e then -1 else (sp_vl T e).2.1)) ∧ ∃ g2 : rm_R, ((sp_vl T e).1 = true → pv_F g g2 (sp_vl T e)) ∧ τ = pv_p X9 va tx g2 σ) := by
  obtain ⟨hX1, hX2, hX3, ct, hct, -⟩ := id hX
  refine go_call (by decide +kernel) (Nat.le_of_ble_eq_true rfl) ?_
  refine go_eq (pc' := 0) (lv' := [(0, .ref va), (1, .ref tx), (2, rj_i e)]) (st' := []) rfl rfl rfl rfl ?_
  refine go_aload_n dX9_faultOf_0 rfl 0 rfl ?_
  refine go_aload_n dX9_faultOf_1 rfl 1 rfl ?_
  refine go_put (k := 9) kX9 (by decide) fX9_48 (Or.inl rfl) h0 (by show 9 < 13; decide) rfl rfl dX9_faultOf_2 ?_
  rw [show rj_set H0 va (.inr (9, ((pv_f va tx (g 0)).set 9 .null).set 9 (.ref tx))) = pv_p X9 va tx g σ from hs]
  refine go_aload_n dX9_faultOf_5 rfl 0 rfl ?_
  refine go_iload_n dX9_faultOf_6 rfl 2 rfl ?_
  refine go_aload_n dX9_faultOf_7 rfl 1 rfl ?_
  refine go_alen (n := 120) ((pv_o hX1).trans hct) rfl rfl (by decide) dX9_faultOf_8 ?_
  refine go_mmin (a := e) (b := ((120 : Nat) : Int)) (by omega) (by omega) wSX9_72 (by omega) (Nat.le_of_ble_eq_true rfl) dX9_faultOf_9 ?_
  rw [show (if ((120 : Nat) : Int) < e then ((120 : Nat) : Int) else e) = e from if_neg (by omega)]
  refine pv_w10 fX9_52 dX9_faultOf_12 ?_
  refine go_aload_n dX9_faultOf_15 rfl 0 rfl ?_
  refine go_iconst (v := Int32.ofInt (-1)) dX9_faultOf_16 rfl ?_
  refine pv_w11 fX9_55 dX9_faultOf_17 ?_
  refine go_aload_n dX9_faultOf_20 rfl 0 rfl ?_
  refine go_callV (d1 := d - 1) wVX9_77 kX9 pv_0 rfl (by omega) (v_move (q := -1) hX (by decide) (show (rm_u (rm_u g 0 (rj_up (g 0) 10 e)) 0 (rj_up ((rm_u g 0 (rj_up (g 0) 10 e)) 0) 11 (-1))) 0 11 = (-1) from rfl) ((congrFun (rm_u_eq _ _ _) _).trans ((rj_up_ne _ _ (by decide)).trans (show (rm_u g 0 (rj_up (g 0) 10 e)) 0 10 = e from rfl)))) rfl (Nat.le_of_ble_eq_true rfl) dX9_faultOf_21 (fun w σ1 hP9 => ?_)
  obtain ⟨rfl, rfl⟩ := hP9
  obtain ⟨G0, eG⟩ : ∃ x_, x_ = pv_mv T e (-1 + 1) (rm_u (rm_u g 0 (rj_up (g 0) 10 e)) 0 (rj_up ((rm_u g 0 (rj_up (g 0) 10 e)) 0) 11 (-1))) := ⟨_, rfl⟩
  rw [← eG]
  have G1 : G0 0 1 = 0 := by rw [eG]; unfold pv_mv; rw [rm_u_eq, rj_up_ne _ _ (by decide), rj_up_ne _ _ (by decide), rm_u_eq, rj_up_ne _ _ (by decide), rm_u_eq, rj_up_ne _ _ (by decide)]; exact z1
  have G4 : G0 0 4 = 0 := by rw [eG]; unfold pv_mv; rw [rm_u_eq, rj_up_ne _ _ (by decide), rj_up_ne _ _ (by decide), rm_u_eq, rj_up_ne _ _ (by decide), rm_u_eq, rj_up_ne _ _ (by decide)]; exact z4
  have G7 : G0 0 7 = 0 := by rw [eG]; unfold pv_mv; rw [rm_u_eq, rj_up_ne _ _ (by decide), rj_up_ne _ _ (by decide), rm_u_eq, rj_up_ne _ _ (by decide), rm_u_eq, rj_up_ne _ _ (by decide)]; exact z7
  have G8 : G0 0 8 = 9 := by rw [eG]; unfold pv_mv; rw [rm_u_eq, rj_up_ne _ _ (by decide), rj_up_ne _ _ (by decide), rm_u_eq, rj_up_ne _ _ (by decide), rm_u_eq, rj_up_ne _ _ (by decide)]; exact z8
  have Ga : G0 1 = g 1 ∧ G0 2 = g 2 ∧ G0 3 = g 3 := by rw [eG]; exact ⟨rfl, rfl, rfl⟩
  have PG : pv_P T e 0 0 G0 := ⟨by rw [eG]; unfold pv_mv; rw [rm_u_eq, rj_up_ne _ _ (by decide), rj_up_eq]; rfl, by rw [eG]; unfold pv_mv; rw [rm_u_eq, rj_up_eq]; rfl, by rw [eG]; unfold pv_mv; rw [rm_u_eq, rj_up_ne _ _ (by decide), rj_up_ne _ _ (by decide), rm_u_eq, rj_up_ne _ _ (by decide), rm_u_eq, rj_up_eq], G1, by omega, by omega⟩
  refine go_aload_n dX9_faultOf_24 rfl 0 rfl ?_
  refine go_callV (d1 := d - 1) wVX9_80 kX9 pv_0 rfl (by omega) (v_clause (m := 0) (cl := 0) (tn := 9) (by omega) hX PG G4 (by decide) G7 G8) rfl (Nat.le_of_ble_eq_true rfl) dX9_faultOf_25 (fun w σ1 hP9 => ?_)
  obtain ⟨rfl, g1, zz1, K1, rfl⟩ := hP9
  refine go_istore_nS (lv' := [(0, .ref va), (1, .ref tx), (2, rj_i e), (3, rj_i (rj_b ((sp_cla T e 0 0 9).1 = true)))]) rfl (by decide) rfl dX9_faultOf_28 ?_
  refine go_iconst (v := Int32.ofInt 1) dX9_faultOf_29 rfl ?_
  refine go_istoreS (lv' := [(0, .ref va), (1, .ref tx), (2, rj_i e), (3, rj_i (rj_b ((sp_cla T e 0 0 9).1 = true))), (4, rj_i 1)]) (by decide) rfl dX9_faultOf_30 ?_
  obtain ⟨FT, hFT⟩ : ∃ FT, FT = sp_vl T e := ⟨_, rfl⟩
  rw [← hFT]
  have loopx : ∀ (nx : Nat) (j : Nat) (C : sp_C) (gl : rm_R), j + nx = 9 → (gl 0 11 = C.2.1 ∧ gl 0 12 = sp_hr T e C.2.1 ∧ gl 0 10 = e) → (C.1 = true → pv_k T e G0 gl C.2.1 C.2.2.1 C.2.2.2.1 C.2.2.2.2) → sp_CB 0 e C → (C.1 = true → (lz_w C.2.2.1).length ≤ j + 1) → FT = sp_cls T e nx C → rj_Go X9 yX9_faultOf cX9_faultOf 5 (some .int) d (fun w9 τ => w9 = some (rj_i (if FT.1 = true ∧ FT.2.1 = e then -1 else FT.2.1)) ∧ ∃ g2 : rm_R, (FT.1 = true → pv_F g g2 FT) ∧ τ = pv_p X9 va tx g2 σ) 32 [(0, .ref va), (1, .ref tx), (2, rj_i e), (3, rj_i (rj_b (C.1 = true))), (4, rj_i ((j : Int) + 1))] [] (pv_p X9 va tx gl σ) := by
    intro nx
    induction nx with
    | zero =>
      intro j C gl hk zl Kl hB hw hT9
      obtain ⟨b1, b2, b3, b4, b5⟩ := id hB; have hrl := sp_hr_b (p := C.2.1) hX3 (by omega)
      refine go_iload dX9_faultOf_32 4 rfl ?_
      refine go_bipush (v := Int32.ofInt 10) dX9_faultOf_34 (by decide) ?_
      refine go_icmp_geI (tgt := 63) (by omega) (by omega) dX9_faultOf_36 (by decide) (fun c_36 => ?_) (fun c_36 => ?_)
      · have hFC : FT = C := by rw [hT9]; rfl
        rw [hFC]
        refine go_iload_n dX9_faultOf_63 rfl 3 rfl ?_
        refine go_if_eqB (tgt := 82) dX9_faultOf_64 (by decide) (fun c_64 => ?_) (fun c_64 => ?_)
        · refine go_aload_n dX9_faultOf_82 rfl 0 rfl ?_
          refine pv_g11 fX9_55 dX9_faultOf_83 ?_
          rw [(show gl 0 11 = C.2.1 from zl.1)]
          refine go_retI rfl rfl ?_ dX9_faultOf_86
          exact ⟨rj_vi (by rw [if_neg (by first | (intro q; exact c_64 q.1) | (intro q; exact c_75 q.2))]), gl, (fun hc => by have K := Kl hc; exact ⟨by rw [K.2.1, G1]; omega, by rw [K.2.2.1, G4]; omega, K.2.2.2.1, by rw [K.2.2.2.2.1, Ga.1, G1], by rw [K.2.2.2.2.2.1, Ga.2.1, G4], by rw [K.2.2.2.2.2.2, Ga.2.2, G4, G1]⟩), rfl⟩
        · refine go_aload_n dX9_faultOf_67 rfl 0 rfl ?_
          refine pv_g11 fX9_55 dX9_faultOf_68 ?_
          rw [(show gl 0 11 = C.2.1 from zl.1)]
          refine go_aload_n dX9_faultOf_71 rfl 0 rfl ?_
          refine pv_g10 fX9_52 dX9_faultOf_72 ?_
          rw [(show gl 0 10 = e from zl.2.2)]
          refine go_icmp_neI (tgt := 82) (by omega) (by omega) dX9_faultOf_75 (by decide) (fun c_75 => ?_) (fun c_75 => ?_)
          · refine go_aload_n dX9_faultOf_82 rfl 0 rfl ?_
            refine pv_g11 fX9_55 dX9_faultOf_83 ?_
            rw [(show gl 0 11 = C.2.1 from zl.1)]
            refine go_retI rfl rfl ?_ dX9_faultOf_86
            exact ⟨rj_vi (by rw [if_neg (by first | (intro q; exact c_64 q.1) | (intro q; exact c_75 q.2))]), gl, (fun hc => by have K := Kl hc; exact ⟨by rw [K.2.1, G1]; omega, by rw [K.2.2.1, G4]; omega, K.2.2.2.1, by rw [K.2.2.2.2.1, Ga.1, G1], by rw [K.2.2.2.2.2.1, Ga.2.1, G4], by rw [K.2.2.2.2.2.2, Ga.2.2, G4, G1]⟩), rfl⟩
          · refine go_iconst (v := Int32.ofInt (-1)) dX9_faultOf_78 rfl ?_
            refine go_goto (tgt := 86) dX9_faultOf_79 (by decide) ?_
            refine go_retI rfl rfl ?_ dX9_faultOf_86
            exact ⟨rj_vi (by rw [if_pos ⟨c_64, by omega⟩]), gl, (fun hc => by have K := Kl hc; exact ⟨by rw [K.2.1, G1]; omega, by rw [K.2.2.1, G4]; omega, K.2.2.2.1, by rw [K.2.2.2.2.1, Ga.1, G1], by rw [K.2.2.2.2.2.1, Ga.2.1, G4], by rw [K.2.2.2.2.2.2, Ga.2.2, G4, G1]⟩), rfl⟩
      · exact absurd c_36 (by omega)
    | succ nx ihx =>
      intro j C gl hk zl Kl hB hw hT9
      obtain ⟨b1, b2, b3, b4, b5⟩ := id hB; have hrl := sp_hr_b (p := C.2.1) hX3 (by omega)
      refine go_iload dX9_faultOf_32 4 rfl ?_
      refine go_bipush (v := Int32.ofInt 10) dX9_faultOf_34 (by decide) ?_
      refine go_icmp_geI (tgt := 63) (by omega) (by omega) dX9_faultOf_36 (by decide) (fun c_36 => ?_) (fun c_36 => ?_)
      · exact absurd c_36 (by omega)
      · refine go_iload_n dX9_faultOf_39 rfl 3 rfl ?_
        refine go_if_eqB (tgt := 63) dX9_faultOf_40 (by decide) (fun c_40 => ?_) (fun c_40 => ?_)
        · have hFC : FT = C := by rw [hT9]; exact sp_cls_no (fun q => c_40 q.1)
          rw [hFC]
          refine go_iload_n dX9_faultOf_63 rfl 3 rfl ?_
          refine go_if_eqB (tgt := 82) dX9_faultOf_64 (by decide) (fun c_64 => ?_) (fun c_64 => ?_)
          · refine go_aload_n dX9_faultOf_82 rfl 0 rfl ?_
            refine pv_g11 fX9_55 dX9_faultOf_83 ?_
            rw [(show gl 0 11 = C.2.1 from zl.1)]
            refine go_retI rfl rfl ?_ dX9_faultOf_86
            exact ⟨rj_vi (by rw [if_neg (by first | (intro q; exact c_64 q.1) | (intro q; exact c_75 q.2))]), gl, (fun hc => by have K := Kl hc; exact ⟨by rw [K.2.1, G1]; omega, by rw [K.2.2.1, G4]; omega, K.2.2.2.1, by rw [K.2.2.2.2.1, Ga.1, G1], by rw [K.2.2.2.2.2.1, Ga.2.1, G4], by rw [K.2.2.2.2.2.2, Ga.2.2, G4, G1]⟩), rfl⟩
          · refine go_aload_n dX9_faultOf_67 rfl 0 rfl ?_
            refine pv_g11 fX9_55 dX9_faultOf_68 ?_
            rw [(show gl 0 11 = C.2.1 from zl.1)]
            refine go_aload_n dX9_faultOf_71 rfl 0 rfl ?_
            refine pv_g10 fX9_52 dX9_faultOf_72 ?_
            rw [(show gl 0 10 = e from zl.2.2)]
            refine go_icmp_neI (tgt := 82) (by omega) (by omega) dX9_faultOf_75 (by decide) (fun c_75 => ?_) (fun c_75 => ?_)
            · refine go_aload_n dX9_faultOf_82 rfl 0 rfl ?_
              refine pv_g11 fX9_55 dX9_faultOf_83 ?_
              rw [(show gl 0 11 = C.2.1 from zl.1)]
              refine go_retI rfl rfl ?_ dX9_faultOf_86
              exact ⟨rj_vi (by rw [if_neg (by first | (intro q; exact c_64 q.1) | (intro q; exact c_75 q.2))]), gl, (fun hc => by have K := Kl hc; exact ⟨by rw [K.2.1, G1]; omega, by rw [K.2.2.1, G4]; omega, K.2.2.2.1, by rw [K.2.2.2.2.1, Ga.1, G1], by rw [K.2.2.2.2.2.1, Ga.2.1, G4], by rw [K.2.2.2.2.2.2, Ga.2.2, G4, G1]⟩), rfl⟩
            · refine go_iconst (v := Int32.ofInt (-1)) dX9_faultOf_78 rfl ?_
              refine go_goto (tgt := 86) dX9_faultOf_79 (by decide) ?_
              refine go_retI rfl rfl ?_ dX9_faultOf_86
              exact ⟨rj_vi (by rw [if_pos ⟨c_64, by omega⟩]), gl, (fun hc => by have K := Kl hc; exact ⟨by rw [K.2.1, G1]; omega, by rw [K.2.2.1, G4]; omega, K.2.2.2.1, by rw [K.2.2.2.2.1, Ga.1, G1], by rw [K.2.2.2.2.2.1, Ga.2.1, G4], by rw [K.2.2.2.2.2.2, Ga.2.2, G4, G1]⟩), rfl⟩
        · refine go_aload_n dX9_faultOf_43 rfl 0 rfl ?_
          refine go_bipush (v := Int32.ofInt 59) dX9_faultOf_44 (by decide) ?_
          have KC := Kl c_40
          have PC : pv_P T e C.2.1 ((lz_s C.2.2.1).length : Int) gl := ⟨zl.1, zl.2.1, zl.2.2, by rw [KC.2.1, G1]; omega, by omega, by have := lz_s_le C.2.2.1; omega⟩
          by_cases hb9 : sp_hr T e C.2.1 = 59
          · refine go_callV (d1 := d - 1) wVX9_84 kX9 pv_0 rfl (by omega) (v_reads_y (c9 := 59) (by omega) hX PC (by decide) hb9) rfl (Nat.le_of_ble_eq_true rfl) dX9_faultOf_46 (fun w σ1 hP9 => ?_)
            obtain ⟨rfl, rfl⟩ := hP9
            have PM := (pv_mv_e PC).P PC ⟨by omega, by omega, by simp; omega⟩
            have KM := pv_mv_k (p' := C.2.1 + 1) KC
            obtain ⟨gm, egm⟩ : ∃ x_, x_ = pv_mv T e (C.2.1 + 1) gl := ⟨_, rfl⟩
            rw [← egm] at PM KM
            rw [← egm]
            refine go_if_eqI (tgt := 63) (by omega) dX9_faultOf_49 (by decide) (fun c_49 => ?_) (fun c_49 => ?_)
            · exact absurd c_49 (by omega)
            · refine go_aload_n dX9_faultOf_52 rfl 0 rfl ?_
              have hmk := hw c_40
              refine go_callV (d1 := d - 1) wVX9_80 kX9 pv_0 rfl (by omega) (v_clause (m := ((lz_w C.2.2.1).length : Int)) (cl := C.2.2.2.1) (tn := C.2.2.2.2) (by omega) hX PM (by rw [KM.2.2.1, G4]; omega) (by omega) KM.2.2.2.1.1 KM.2.2.2.1.2) rfl (Nat.le_of_ble_eq_true rfl) dX9_faultOf_53 (fun w σ1 hP9 => ?_)
              obtain ⟨rfl, gx, zx, Kx, rfl⟩ := hP9
              refine go_istore_nS (lv' := [(0, .ref va), (1, .ref tx), (2, rj_i e), (3, rj_i (rj_b ((sp_cla T e (C.2.1 + 1) C.2.2.2.1 C.2.2.2.2).1 = true))), (4, rj_i ((j : Int) + 1))]) rfl (by decide) rfl dX9_faultOf_56 ?_
              refine go_iincI (a := ((j : Int) + 1)) (n := 1) (k0 := 4) (lv' := [(0, .ref va), (1, .ref tx), (2, rj_i e), (3, rj_i (rj_b ((sp_cla T e (C.2.1 + 1) C.2.2.2.1 C.2.2.2.2).1 = true))), (4, rj_i (((j : Int) + 1) + 1))]) rfl (by decide) rfl dX9_faultOf_57 ?_
              refine go_goto (tgt := 32) dX9_faultOf_60 (by decide) ?_
              have hBx := sp_cla_B (T := T) (e := e) (p := C.2.1 + 1) (cl := C.2.2.2.1) (tn := C.2.2.2.2) hX3 (by omega) b4 b5
              exact go_eq rfl (lv' := [(0, .ref va), (1, .ref tx), (2, rj_i e), (3, rj_i (rj_b ((sp_cct C (sp_cla T e (C.2.1 + 1) C.2.2.2.1 C.2.2.2.2)).1 = true))), (4, rj_i (((j + 1 : Nat) : Int) + 1))]) (rj_lk (rj_lk (rj_lk (rj_lk (rj_lj (by omega) rfl))))) rfl rfl (ihx (j + 1) (sp_cct C (sp_cla T e (C.2.1 + 1) C.2.2.2.1 C.2.2.2.2)) gx (by omega) zx (fun hc => KM.tr (Kx hc)) (sp_cct_B hB hBx) (fun hc => by show (lz_w (C.2.2.1 ++ (sp_cla T e (C.2.1 + 1) C.2.2.2.1 C.2.2.2.2).2.2.1)).length ≤ _; have q1 := (sp_cla_W (T := T) (e := e) (p := C.2.1 + 1) (cl := C.2.2.2.1) (tn := C.2.2.2.2) hX3 (by omega) hc).2; rw [lz_w_app, List.length_append]; omega) (by rw [hT9, sp_cls, if_pos ⟨c_40, hb9⟩]))
          · refine go_callV (d1 := d - 1) wVX9_84 kX9 pv_0 rfl (by omega) (v_reads_n (c9 := 59) hX PC (by decide) hb9) rfl (Nat.le_of_ble_eq_true rfl) dX9_faultOf_46 (fun w σ1 hP9 => ?_)
            obtain ⟨rfl, rfl⟩ := hP9
            refine go_if_eqI (tgt := 63) (by omega) dX9_faultOf_49 (by decide) (fun c_49 => ?_) (fun c_49 => ?_)
            · have hFC : FT = C := by rw [hT9]; exact sp_cls_no (fun q => hb9 q.2)
              rw [hFC]
              refine go_iload_n dX9_faultOf_63 rfl 3 rfl ?_
              refine go_if_eqB (tgt := 82) dX9_faultOf_64 (by decide) (fun c_64 => ?_) (fun c_64 => ?_)
              · refine go_aload_n dX9_faultOf_82 rfl 0 rfl ?_
                refine pv_g11 fX9_55 dX9_faultOf_83 ?_
                rw [(show gl 0 11 = C.2.1 from zl.1)]
                refine go_retI rfl rfl ?_ dX9_faultOf_86
                exact ⟨rj_vi (by rw [if_neg (by first | (intro q; exact c_64 q.1) | (intro q; exact c_75 q.2))]), gl, (fun hc => by have K := Kl hc; exact ⟨by rw [K.2.1, G1]; omega, by rw [K.2.2.1, G4]; omega, K.2.2.2.1, by rw [K.2.2.2.2.1, Ga.1, G1], by rw [K.2.2.2.2.2.1, Ga.2.1, G4], by rw [K.2.2.2.2.2.2, Ga.2.2, G4, G1]⟩), rfl⟩
              · refine go_aload_n dX9_faultOf_67 rfl 0 rfl ?_
                refine pv_g11 fX9_55 dX9_faultOf_68 ?_
                rw [(show gl 0 11 = C.2.1 from zl.1)]
                refine go_aload_n dX9_faultOf_71 rfl 0 rfl ?_
                refine pv_g10 fX9_52 dX9_faultOf_72 ?_
                rw [(show gl 0 10 = e from zl.2.2)]
                refine go_icmp_neI (tgt := 82) (by omega) (by omega) dX9_faultOf_75 (by decide) (fun c_75 => ?_) (fun c_75 => ?_)
                · refine go_aload_n dX9_faultOf_82 rfl 0 rfl ?_
                  refine pv_g11 fX9_55 dX9_faultOf_83 ?_
                  rw [(show gl 0 11 = C.2.1 from zl.1)]
                  refine go_retI rfl rfl ?_ dX9_faultOf_86
                  exact ⟨rj_vi (by rw [if_neg (by first | (intro q; exact c_64 q.1) | (intro q; exact c_75 q.2))]), gl, (fun hc => by have K := Kl hc; exact ⟨by rw [K.2.1, G1]; omega, by rw [K.2.2.1, G4]; omega, K.2.2.2.1, by rw [K.2.2.2.2.1, Ga.1, G1], by rw [K.2.2.2.2.2.1, Ga.2.1, G4], by rw [K.2.2.2.2.2.2, Ga.2.2, G4, G1]⟩), rfl⟩
                · refine go_iconst (v := Int32.ofInt (-1)) dX9_faultOf_78 rfl ?_
                  refine go_goto (tgt := 86) dX9_faultOf_79 (by decide) ?_
                  refine go_retI rfl rfl ?_ dX9_faultOf_86
                  exact ⟨rj_vi (by rw [if_pos ⟨c_64, by omega⟩]), gl, (fun hc => by have K := Kl hc; exact ⟨by rw [K.2.1, G1]; omega, by rw [K.2.2.1, G4]; omega, K.2.2.2.1, by rw [K.2.2.2.2.1, Ga.1, G1], by rw [K.2.2.2.2.2.1, Ga.2.1, G4], by rw [K.2.2.2.2.2.2, Ga.2.2, G4, G1]⟩), rfl⟩
            · exact absurd c_49 (by omega)
  exact go_eq rfl (lv' := [(0, .ref va), (1, .ref tx), (2, rj_i e), (3, rj_i (rj_b ((sp_cla T e 0 0 9).1 = true))), (4, rj_i (((0 : Nat) : Int) + 1))]) (rj_lk (rj_lk (rj_lk (rj_lk (rj_lj (rfl) rfl))))) rfl rfl (loopx 9 0 (sp_cla T e 0 0 9) g1 (by omega) zz1 K1 (sp_cla_B hX3 (by omega) (by omega) (by omega)) (fun hc => (sp_cla_W hX3 (by omega) hc).2) hFT)
