/-! THE REFERENCE, 17: coarse -/
def sp_c2 (s : Int → Int) (m : Int) (st : Nat) (q : Int) : Nat → Nat → Bool
  | 0, _ => false
  | f + 1, p => decide ((p : Int) < s 1) && (sp_can s (s 4) m (p : Int) q || sp_c2 s m st q f (p + st))
def sp_c1 (s : Int → Int) (m : Int) (st : Nat) : Nat → Nat → Bool
  | 0, _ => false
  | f + 1, q => sp_c2 s m st (q : Int) 7 0 || sp_c1 s m st f (q + 1)
def sp_cs (s : Int → Int) (m : Int) (st : Nat) : Bool := sp_c1 s m st 8 0
set_option maxRecDepth 20000 in
/-- m_canThrowOnSome -/
theorem m_canThrowOnSome {X9 : rj_X} {σ : rj_H} {d : Nat} {mb : Nat} {r : rm_R} {m : Int} {st : Nat} (hd : 5 ≤ d) {s : Int → Int} (hs : r 1 = s) (hD : r 11 0 = s 4) (hI : sp_I s) (hm : 0 ≤ m ∧ m < s 0) (hst : 1 ≤ st ∧ st ≤ 9) : rj_Cl X9 d yX12_canThrowOnSome cX12_canThrowOnSome 6 (some .boolean) [.ref mb, rj_i m, rj_i (st : Int)] (rm_p X9 mb r σ) (fun w9 τ => w9 = some (rj_i (rj_b (sp_cs s m st = true))) ∧ ∃ r0, rm_t r r0 ∧ τ = rm_p X9 mb r0 σ) := by
  obtain ⟨⟨h0, h1, h2, h3, h4, h5, h6, h7⟩, hM, hP, hW, hL, hV⟩ := id hI
  obtain ⟨v1, v2, v3, v4⟩ := id hV
  refine go_call (by decide +kernel) (Nat.le_of_ble_eq_true rfl) ?_
  refine go_eq (pc' := 0) (lv' := [(0, .ref mb), (1, rj_i m), (2, rj_i (st : Int))]) (st' := []) rfl rfl rfl rfl ?_
  refine go_iconst (v := Int32.ofInt 0) dX12_canThrowOnSome_0 rfl ?_
  refine go_istore_nS (lv' := [(0, .ref mb), (1, rj_i m), (2, rj_i (st : Int)), (3, rj_i 0)]) rfl (by decide) rfl dX12_canThrowOnSome_1 ?_
  refine go_iconst (v := Int32.ofInt 0) dX12_canThrowOnSome_2 rfl ?_
  refine go_istoreS (lv' := [(0, .ref mb), (1, rj_i m), (2, rj_i (st : Int)), (3, rj_i 0), (4, rj_i 0)]) (by decide) rfl dX12_canThrowOnSome_3 ?_
  have loopa : ∀ (na ka : Nat) (rla : rm_R) (c : Bool), ka + na = 8 → rm_t r rla → sp_cs s m st = (c || sp_c1 s m st na ka) → rj_Go X9 yX12_canThrowOnSome cX12_canThrowOnSome 6 (some .boolean) d (fun w9 τ => w9 = some (rj_i (rj_b (sp_cs s m st = true))) ∧ ∃ r0, rm_t r r0 ∧ τ = rm_p X9 mb r0 σ) 5 [(0, .ref mb), (1, rj_i m), (2, rj_i (st : Int)), (3, rj_i (rj_b (c = true))), (4, rj_i (ka : Int))] [] (rm_p X9 mb rla σ) := by
    intro na
    induction na with
    | zero =>
      intro ka rla c hka hra hFa
      have ela1 : rla 1 = s := (hra 1 (by decide) (by decide)).trans (show r 1 = s from hs)
      have ela11 : rla 11 0 = s 4 := (congrFun (hra 11 (by decide) (by decide)) 0).trans (show r 11 0 = s 4 from hD)
      refine go_iload dX12_canThrowOnSome_5 4 rfl ?_
      refine go_bipush (v := Int32.ofInt 8) dX12_canThrowOnSome_7 (by decide) ?_
      refine go_icmp_geI (tgt := 59) (by omega) (by omega) dX12_canThrowOnSome_9 (by decide) (fun c_9 => ?_) (fun c_9 => ?_)
      · refine go_iload_n dX12_canThrowOnSome_59 rfl 3 rfl ?_
        refine go_retI rfl (rj_nb _) ?_ dX12_canThrowOnSome_60
        exact ⟨by rw [hFa]; simp [sp_c1], rla, hra, rfl⟩
      · exact absurd c_9 (by omega)
    | succ na iha =>
      intro ka rla c hka hra hFa
      have ela1 : rla 1 = s := (hra 1 (by decide) (by decide)).trans (show r 1 = s from hs)
      have ela11 : rla 11 0 = s 4 := (congrFun (hra 11 (by decide) (by decide)) 0).trans (show r 11 0 = s 4 from hD)
      refine go_iload dX12_canThrowOnSome_5 4 rfl ?_
      refine go_bipush (v := Int32.ofInt 8) dX12_canThrowOnSome_7 (by decide) ?_
      refine go_icmp_geI (tgt := 59) (by omega) (by omega) dX12_canThrowOnSome_9 (by decide) (fun c_9 => ?_) (fun c_9 => ?_)
      · exact absurd c_9 (by omega)
      · refine go_iload_n dX12_canThrowOnSome_12 rfl 3 rfl ?_
        refine go_if_neB (tgt := 59) dX12_canThrowOnSome_13 (by decide) (fun c_13 => ?_) (fun c_13 => ?_)
        · refine go_iload_n dX12_canThrowOnSome_59 rfl 3 rfl ?_
          refine go_retI rfl (rj_nb _) ?_ dX12_canThrowOnSome_60
          exact ⟨by rw [hFa, c_13]; simp, rla, hra, rfl⟩
        · refine go_iconst (v := Int32.ofInt 0) dX12_canThrowOnSome_16 rfl ?_
          refine go_istoreS (lv' := [(0, .ref mb), (1, rj_i m), (2, rj_i (st : Int)), (3, rj_i (rj_b (c = true))), (4, rj_i (ka : Int)), (5, rj_i 0)]) (by decide) rfl dX12_canThrowOnSome_17 ?_
          have loopb : ∀ (f pp : Nat) (rlb : rm_R) (cc : Bool), 7 ≤ pp + f → pp ≤ 20 → rm_t rla rlb → sp_cs s m st = (cc || sp_c2 s m st (ka : Int) f pp || sp_c1 s m st na (ka + 1)) → rj_Go X9 yX12_canThrowOnSome cX12_canThrowOnSome 6 (some .boolean) d (fun w9 τ => w9 = some (rj_i (rj_b (sp_cs s m st = true))) ∧ ∃ r0, rm_t r r0 ∧ τ = rm_p X9 mb r0 σ) 19 [(0, .ref mb), (1, rj_i m), (2, rj_i (st : Int)), (3, rj_i (rj_b (cc = true))), (4, rj_i (ka : Int)), (5, rj_i (pp : Int))] [] (rm_p X9 mb rlb σ) := by
            intro f
            induction f with
            | zero =>
              intro pp rlb cc hpp hp20 hrb hFb
              have elb1 : rlb 1 = s := (hrb 1 (by decide) (by decide)).trans (show rla 1 = s from ela1)
              have elb11 : rlb 11 0 = s 4 := (congrFun (hrb 11 (by decide) (by decide)) 0).trans (show rla 11 0 = s 4 from ela11)
              refine go_iload dX12_canThrowOnSome_19 5 rfl ?_
              refine go_aload_n dX12_canThrowOnSome_21 rfl 0 rfl ?_
              refine grm_g1 rfl dX12_canThrowOnSome_22 ?_
              refine go_iconst (v := Int32.ofInt 1) dX12_canThrowOnSome_25 rfl ?_
              refine grm_l1 (by omega) (by omega) dX12_canThrowOnSome_26 ?_
              rw [show rlb 1 = s from elb1]
              refine go_icmp_geI (tgt := 53) (by omega) (by omega) dX12_canThrowOnSome_27 (by decide) (fun c_27 => ?_) (fun c_27 => ?_)
              · refine go_iincI (a := (ka : Int)) (n := 1) (k0 := 4) (lv' := [(0, .ref mb), (1, rj_i m), (2, rj_i (st : Int)), (3, rj_i (rj_b (cc = true))), (4, rj_i ((ka : Int) + 1)), (5, rj_i (pp : Int))]) rfl (by decide) rfl dX12_canThrowOnSome_53 ?_
                refine go_goto (tgt := 5) dX12_canThrowOnSome_56 (by decide) ?_
                refine go_sub (lv' := [(0, .ref mb), (1, rj_i m), (2, rj_i (st : Int)), (3, rj_i (rj_b (cc = true))), (4, rj_i ((ka : Int) + 1))]) (by intro q hq; simp only [List.mem_cons, List.not_mem_nil, or_false] at hq ⊢; rcases hq with rfl | rfl | rfl | rfl | rfl <;> simp) ?_
                exact go_eq rfl (lv' := [(0, .ref mb), (1, rj_i m), (2, rj_i (st : Int)), (3, rj_i (rj_b (cc = true))), (4, rj_i ((ka + 1 : Nat) : Int))]) (rj_lk (rj_lk (rj_lk (rj_lk (rj_lj (by omega) rfl))))) rfl rfl (iha (ka + 1) rlb cc (by omega) (hra.tr hrb) (by rw [hFb]; simp [sp_c2]))
              · exact absurd c_27 (by omega)
            | succ f ihf =>
              intro pp rlb cc hpp hp20 hrb hFb
              have elb1 : rlb 1 = s := (hrb 1 (by decide) (by decide)).trans (show rla 1 = s from ela1)
              have elb11 : rlb 11 0 = s 4 := (congrFun (hrb 11 (by decide) (by decide)) 0).trans (show rla 11 0 = s 4 from ela11)
              refine go_iload dX12_canThrowOnSome_19 5 rfl ?_
              refine go_aload_n dX12_canThrowOnSome_21 rfl 0 rfl ?_
              refine grm_g1 rfl dX12_canThrowOnSome_22 ?_
              refine go_iconst (v := Int32.ofInt 1) dX12_canThrowOnSome_25 rfl ?_
              refine grm_l1 (by omega) (by omega) dX12_canThrowOnSome_26 ?_
              rw [show rlb 1 = s from elb1]
              refine go_icmp_geI (tgt := 53) (by omega) (by omega) dX12_canThrowOnSome_27 (by decide) (fun c_27 => ?_) (fun c_27 => ?_)
              · refine go_iincI (a := (ka : Int)) (n := 1) (k0 := 4) (lv' := [(0, .ref mb), (1, rj_i m), (2, rj_i (st : Int)), (3, rj_i (rj_b (cc = true))), (4, rj_i ((ka : Int) + 1)), (5, rj_i (pp : Int))]) rfl (by decide) rfl dX12_canThrowOnSome_53 ?_
                refine go_goto (tgt := 5) dX12_canThrowOnSome_56 (by decide) ?_
                refine go_sub (lv' := [(0, .ref mb), (1, rj_i m), (2, rj_i (st : Int)), (3, rj_i (rj_b (cc = true))), (4, rj_i ((ka : Int) + 1))]) (by intro q hq; simp only [List.mem_cons, List.not_mem_nil, or_false] at hq ⊢; rcases hq with rfl | rfl | rfl | rfl | rfl <;> simp) ?_
                exact go_eq rfl (lv' := [(0, .ref mb), (1, rj_i m), (2, rj_i (st : Int)), (3, rj_i (rj_b (cc = true))), (4, rj_i ((ka + 1 : Nat) : Int))]) (rj_lk (rj_lk (rj_lk (rj_lk (rj_lj (by omega) rfl))))) rfl rfl (iha (ka + 1) rlb cc (by omega) (hra.tr hrb) (by rw [hFb]; simp [sp_c2, show ¬ (pp : Int) < s 1 by omega]))
              · refine go_iload_n dX12_canThrowOnSome_30 rfl 3 rfl ?_
                refine go_if_neB (tgt := 53) dX12_canThrowOnSome_31 (by decide) (fun c_31 => ?_) (fun c_31 => ?_)
                · refine go_iincI (a := (ka : Int)) (n := 1) (k0 := 4) (lv' := [(0, .ref mb), (1, rj_i m), (2, rj_i (st : Int)), (3, rj_i (rj_b (cc = true))), (4, rj_i ((ka : Int) + 1)), (5, rj_i (pp : Int))]) rfl (by decide) rfl dX12_canThrowOnSome_53 ?_
                  refine go_goto (tgt := 5) dX12_canThrowOnSome_56 (by decide) ?_
                  refine go_sub (lv' := [(0, .ref mb), (1, rj_i m), (2, rj_i (st : Int)), (3, rj_i (rj_b (cc = true))), (4, rj_i ((ka : Int) + 1))]) (by intro q hq; simp only [List.mem_cons, List.not_mem_nil, or_false] at hq ⊢; rcases hq with rfl | rfl | rfl | rfl | rfl <;> simp) ?_
                  exact go_eq rfl (lv' := [(0, .ref mb), (1, rj_i m), (2, rj_i (st : Int)), (3, rj_i (rj_b (cc = true))), (4, rj_i ((ka + 1 : Nat) : Int))]) (rj_lk (rj_lk (rj_lk (rj_lk (rj_lj (by omega) rfl))))) rfl rfl (iha (ka + 1) rlb cc (by omega) (hra.tr hrb) (by rw [hFb]; simp [c_31]))
                · refine go_aload_n dX12_canThrowOnSome_34 rfl 0 rfl ?_
                  refine go_iload_n dX12_canThrowOnSome_35 rfl 1 rfl ?_
                  refine go_iload dX12_canThrowOnSome_36 5 rfl ?_
                  refine go_iload dX12_canThrowOnSome_38 4 rfl ?_
                  refine go_callV (d1 := d - 1) wVX12_178 kX12 rm_ob rfl (by omega) (m_canThrow (by omega) (m := m) (p := (pp : Int)) (q := (ka : Int)) (hs := (show rlb 1 = s from elb1)) (hD := (show rlb 11 0 = s 4 from elb11)) (by omega) hI (by omega) (by omega) (by omega)) rfl (Nat.le_of_ble_eq_true rfl) dX12_canThrowOnSome_40 (fun w σ1 hP => ?_)
                  obtain ⟨rfl, r61, hr61, rfl⟩ := hP
                  have q61_1 : r61 1 = s := (hr61 1 (by decide) (by decide)).trans (show rlb 1 = s from elb1)
                  have q61_11 : r61 11 0 = s 4 := (congrFun (hr61 11 (by decide) (by decide)) 0).trans (show rlb 11 0 = s 4 from elb11)
                  refine go_istore_nS (lv' := [(0, .ref mb), (1, rj_i m), (2, rj_i (st : Int)), (3, rj_i (rj_b (sp_can s (s 4) m (pp : Int) (ka : Int) = true))), (4, rj_i (ka : Int)), (5, rj_i (pp : Int))]) rfl (by decide) rfl dX12_canThrowOnSome_43 ?_
                  refine go_iload dX12_canThrowOnSome_44 5 rfl ?_
                  refine go_iload_n dX12_canThrowOnSome_46 rfl 2 rfl ?_
                  refine go_addI dX12_canThrowOnSome_47 ?_
                  refine go_istoreS (lv' := [(0, .ref mb), (1, rj_i m), (2, rj_i (st : Int)), (3, rj_i (rj_b (sp_can s (s 4) m (pp : Int) (ka : Int) = true))), (4, rj_i (ka : Int)), (5, rj_i ((pp : Int) + (st : Int)))]) (by decide) rfl dX12_canThrowOnSome_48 ?_
                  refine go_goto (tgt := 19) dX12_canThrowOnSome_50 (by decide) ?_
                  exact go_eq rfl (lv' := [(0, .ref mb), (1, rj_i m), (2, rj_i (st : Int)), (3, rj_i (rj_b (sp_can s (s 4) m (pp : Int) (ka : Int) = true))), (4, rj_i (ka : Int)), (5, rj_i ((pp + st : Nat) : Int))]) (rj_lk (rj_lk (rj_lk (rj_lk (rj_lk (rj_lj (by omega) rfl)))))) rfl rfl (ihf (pp + st) r61 (sp_can s (s 4) m (pp : Int) (ka : Int)) (by omega) (by omega) (hrb.tr hr61) (by rw [hFb, sp_c2]; simp [c_31, show (pp : Int) < s 1 by omega]))
          exact go_eq rfl (lv' := [(0, .ref mb), (1, rj_i m), (2, rj_i (st : Int)), (3, rj_i (rj_b (c = true))), (4, rj_i (ka : Int)), (5, rj_i ((0 : Nat) : Int))]) (rj_lk (rj_lk (rj_lk (rj_lk (rj_lk (rj_lj (rfl) rfl)))))) rfl rfl (loopb 7 0 rla c (by omega) (by omega) rm_t.rf (by rw [hFa, sp_c1, Bool.or_assoc]))
  exact go_eq rfl (lv' := [(0, .ref mb), (1, rj_i m), (2, rj_i (st : Int)), (3, rj_i (rj_b (false = true))), (4, rj_i ((0 : Nat) : Int))]) (rj_lk (rj_lk (rj_lk (rj_lj (rfl) (rj_lj (rfl) rfl))))) rfl rfl (loopa 8 0 r false (by omega) rm_t.rf rfl)
