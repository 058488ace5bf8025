/-! THE REFERENCE, 5: light, has, worst off -/
def sp_sum (f : Int → Int) : Nat → Int
  | 0 => 0
  | n + 1 => sp_sum f n + f (n : Int)
theorem sp_sum_b {f : Int → Int} {B : Int} {N : Nat} (h : ∀ k : Int, 0 ≤ k → k < N → 0 ≤ f k ∧ f k ≤ B) : ∀ n : Nat, n ≤ N → 0 ≤ sp_sum f n ∧ sp_sum f n ≤ B * n
  | 0, _ => by simp [sp_sum]
  | n + 1, hn => by
    have h1 := sp_sum_b h n (by omega)
    have h2 := h n (by omega) (by omega)
    have h3 : B * ((n + 1 : Nat) : Int) = B * n + B := by rw [Int.natCast_succ, Int.mul_add, Int.mul_one]
    rw [sp_sum, h3]
    omega
/-- a mirror's light on a patch by the plan, at a quarter -/
def sp_lt (s : Int → Int) (D p q m : Int) : Int := if s (236 + 8 * m + q) = p ∧ sp_can s D m p q = true then sp_light s m else 0
def sp_lat (s : Int → Int) (D p q : Int) : Int := sp_sum (sp_lt s D p q) (s 0).toNat
def sp_has (s : Int → Int) (D p : Int) : Int := sp_sum (fun q => sp_lat s D p q) 8
theorem sp_light_b {s : Int → Int} {m : Int} (h : 1 ≤ s (154 + m) ∧ s (154 + m) ≤ 9) : 1 ≤ sp_light s m ∧ sp_light s m ≤ 18 := by unfold sp_light; split <;> omega
theorem sp_lt_b {s : Int → Int} {D p q m : Int} (h : 1 ≤ s (154 + m) ∧ s (154 + m) ≤ 9) : 0 ≤ sp_lt s D p q m ∧ sp_lt s D p q m ≤ 18 := by
  have := sp_light_b h
  unfold sp_lt; split <;> omega
theorem sp_lat_b {s : Int → Int} {D p q : Int} (h0 : 0 ≤ s 0 ∧ s 0 ≤ 6) (hM : sp_IM s) : 0 ≤ sp_lat s D p q ∧ sp_lat s D p q ≤ 108 := by
  have h := sp_sum_b (f := sp_lt s D p q) (B := 18) (N := (s 0).toNat) (fun k a b => sp_lt_b (hM k a (by omega)).2.2.2.2.1) (s 0).toNat (Nat.le_refl _)
  unfold sp_lat
  omega
theorem sp_has_b {s : Int → Int} {D p : Int} (h0 : 0 ≤ s 0 ∧ s 0 ≤ 6) (hM : sp_IM s) : 0 ≤ sp_has s D p ∧ sp_has s D p ≤ 864 := by
  have h := sp_sum_b (f := fun q => sp_lat s D p q) (B := 108) (N := 8) (fun k a b => sp_lat_b h0 hM) 8 (Nat.le_refl _)
  unfold sp_has
  omega
set_option maxRecDepth 20000 in
/-- m_lightAt -/
theorem m_lightAt {X9 : rj_X} {σ : rj_H} {d : Nat} {mb : Nat} {r : rm_R} {p q : Int} (hd : 5 ≤ d) {s : Int → Int} {D : Int} (hs : r 1 = s) (hD : r 11 0 = D) (hD2 : 0 ≤ D ∧ D ≤ 200) (hI : sp_I s) (hp : 0 ≤ p ∧ p < s 1) (hq : 0 ≤ q ∧ q < 8) : rj_Cl X9 d yX12_lightAt cX12_lightAt 5 (some .int) [.ref mb, rj_i p, rj_i q] (rm_p X9 mb r σ) (fun w9 τ => w9 = some (rj_i (sp_lat s D p q)) ∧ ∃ r0, rm_t r r0 ∧ τ = rm_p X9 mb r0 σ) := by
  obtain ⟨⟨h0, h1, h2, h3, h4, h5, h6, h7⟩, hM, hP, hW, hL, hV⟩ := id hI
  obtain ⟨v1, v2, v3, v4⟩ := id hV
  refine go_call (by decide +kernel) (Nat.le_of_ble_eq_true rfl) ?_
  refine go_eq (pc' := 0) (lv' := [(0, .ref mb), (1, rj_i p), (2, rj_i q)]) (st' := []) rfl rfl rfl rfl ?_
  refine go_iconst (v := Int32.ofInt 0) dX12_lightAt_0 rfl ?_
  refine go_istore_nS (lv' := [(0, .ref mb), (1, rj_i p), (2, rj_i q), (3, rj_i 0)]) rfl (by decide) rfl dX12_lightAt_1 ?_
  refine go_iconst (v := Int32.ofInt 0) dX12_lightAt_2 rfl ?_
  refine go_istoreS (lv' := [(0, .ref mb), (1, rj_i p), (2, rj_i q), (3, rj_i 0), (4, rj_i 0)]) (by decide) rfl dX12_lightAt_3 ?_
  have loop : ∀ (n k : Nat) (rl : rm_R), k + n = (s 0).toNat → rm_t r rl → rj_Go X9 yX12_lightAt cX12_lightAt 5 (some .int) d (fun w9 τ => w9 = some (rj_i (sp_lat s D p q)) ∧ ∃ r0, rm_t r r0 ∧ τ = rm_p X9 mb r0 σ) 5 [(0, .ref mb), (1, rj_i p), (2, rj_i q), (3, rj_i (sp_sum (sp_lt s D p q) k)), (4, rj_i (k : Int))] [] (rm_p X9 mb rl σ) := by
    intro n
    induction n with
    | zero =>
      intro k rl hk hr 
      have el1 : rl 1 = s := (hr 1 (by decide) (by decide)).trans (show r 1 = s from hs)
      have el11 : rl 11 0 = D := (congrFun (hr 11 (by decide) (by decide)) 0).trans (show r 11 0 = D from hD)
      refine go_iload dX12_lightAt_5 4 rfl ?_
      refine go_aload_n dX12_lightAt_7 rfl 0 rfl ?_
      refine grm_g1 rfl dX12_lightAt_8 ?_
      refine go_iconst (v := Int32.ofInt 0) dX12_lightAt_11 rfl ?_
      refine grm_l1 (by omega) (by omega) dX12_lightAt_12 ?_
      rw [show rl 1 = s from el1]
      refine go_icmp_geI (tgt := 66) (by omega) (by omega) dX12_lightAt_13 (by decide) (fun c_13 => ?_) (fun c_13 => ?_)
      · refine go_iload_n dX12_lightAt_66 rfl 3 rfl ?_
        refine go_retI rfl rfl ?_ dX12_lightAt_67
        exact ⟨rj_vi (by unfold sp_lat; rw [show (s 0).toNat = k by omega]), rl, hr, rfl⟩
      · exact absurd c_13 (by omega)
    | succ n ih =>
      intro k rl hk hr 
      have el1 : rl 1 = s := (hr 1 (by decide) (by decide)).trans (show r 1 = s from hs)
      have el11 : rl 11 0 = D := (congrFun (hr 11 (by decide) (by decide)) 0).trans (show r 11 0 = D from hD)
      obtain ⟨m1, m2, m3, m4, m5, m6, m7⟩ := hM k (by omega) (by omega)
      have l1 := hL k q (by omega) (by omega) (by omega) (by omega)
      refine go_iload dX12_lightAt_5 4 rfl ?_
      refine go_aload_n dX12_lightAt_7 rfl 0 rfl ?_
      refine grm_g1 rfl dX12_lightAt_8 ?_
      refine go_iconst (v := Int32.ofInt 0) dX12_lightAt_11 rfl ?_
      refine grm_l1 (by omega) (by omega) dX12_lightAt_12 ?_
      rw [show rl 1 = s from el1]
      refine go_icmp_geI (tgt := 66) (by omega) (by omega) dX12_lightAt_13 (by decide) (fun c_13 => ?_) (fun c_13 => ?_)
      · exact absurd c_13 (by omega)
      · refine go_iload_n dX12_lightAt_16 rfl 3 rfl ?_
        refine go_aload_n dX12_lightAt_17 rfl 0 rfl ?_
        refine grm_g1 rfl dX12_lightAt_18 ?_
        refine go_sipush (v := Int32.ofInt 236) dX12_lightAt_21 (by decide) ?_
        refine go_bipush (v := Int32.ofInt 8) dX12_lightAt_24 (by decide) ?_
        refine go_iload dX12_lightAt_26 4 rfl ?_
        refine go_mulI dX12_lightAt_28 ?_
        refine go_addI dX12_lightAt_29 ?_
        refine go_iload_n dX12_lightAt_30 rfl 2 rfl ?_
        refine go_addI dX12_lightAt_31 ?_
        refine grm_l1 (by omega) (by omega) dX12_lightAt_32 ?_
        rw [show rl 1 = s from el1]
        refine go_iload_n dX12_lightAt_33 rfl 1 rfl ?_
        refine go_icmp_neI (tgt := 57) (by omega) (by omega) dX12_lightAt_34 (by decide) (fun c_34 => ?_) (fun c_34 => ?_)
        · refine go_iconst (v := Int32.ofInt 0) dX12_lightAt_57 rfl ?_
          refine go_addI dX12_lightAt_58 ?_
          refine go_istore_nS (lv' := [(0, .ref mb), (1, rj_i p), (2, rj_i q), (3, rj_i ((sp_sum (sp_lt s D p q) k) + 0)), (4, rj_i (k : Int))]) rfl (by decide) rfl dX12_lightAt_59 ?_
          refine go_iincI (a := (k : Int)) (n := 1) (k0 := 4) (lv' := [(0, .ref mb), (1, rj_i p), (2, rj_i q), (3, rj_i ((sp_sum (sp_lt s D p q) k) + 0)), (4, rj_i ((k : Int) + 1))]) rfl (by decide) rfl dX12_lightAt_60 ?_
          refine go_goto (tgt := 5) dX12_lightAt_63 (by decide) ?_
          exact go_eq rfl (lv' := [(0, .ref mb), (1, rj_i p), (2, rj_i q), (3, rj_i (sp_sum (sp_lt s D p q) (k + 1))), (4, rj_i ((k + 1 : Nat) : Int))]) (rj_lk (rj_lk (rj_lk (rj_lj (by rw [sp_sum]; unfold sp_lt; simp [c_34]) (rj_lj (by omega) rfl))))) rfl rfl (ih (k + 1) rl (by omega) hr)
        · refine go_aload_n dX12_lightAt_37 rfl 0 rfl ?_
          refine go_iload dX12_lightAt_38 4 rfl ?_
          refine go_iload_n dX12_lightAt_40 rfl 1 rfl ?_
          refine go_iload_n dX12_lightAt_41 rfl 2 rfl ?_
          refine go_callV (d1 := d - 1) wVX12_178 kX12 rm_ob rfl (by omega) (m_canThrow (by omega) (m := (k : Int)) (p := p) (q := q) (hs := (show rl 1 = s from el1)) (hD := (show rl 11 0 = D from el11)) (by omega) hI (by omega) (by omega) (by omega)) rfl (Nat.le_of_ble_eq_true rfl) dX12_lightAt_42 (fun w σ1 hP => ?_)
          obtain ⟨rfl, r51, hr51, rfl⟩ := hP
          have q51_1 : r51 1 = s := (hr51 1 (by decide) (by decide)).trans (show rl 1 = s from el1)
          have q51_11 : r51 11 0 = D := (congrFun (hr51 11 (by decide) (by decide)) 0).trans (show rl 11 0 = D from el11)
          refine go_if_eqB (tgt := 57) dX12_lightAt_45 (by decide) (fun c_45 => ?_) (fun c_45 => ?_)
          · refine go_iconst (v := Int32.ofInt 0) dX12_lightAt_57 rfl ?_
            refine go_addI dX12_lightAt_58 ?_
            refine go_istore_nS (lv' := [(0, .ref mb), (1, rj_i p), (2, rj_i q), (3, rj_i ((sp_sum (sp_lt s D p q) k) + 0)), (4, rj_i (k : Int))]) rfl (by decide) rfl dX12_lightAt_59 ?_
            refine go_iincI (a := (k : Int)) (n := 1) (k0 := 4) (lv' := [(0, .ref mb), (1, rj_i p), (2, rj_i q), (3, rj_i ((sp_sum (sp_lt s D p q) k) + 0)), (4, rj_i ((k : Int) + 1))]) rfl (by decide) rfl dX12_lightAt_60 ?_
            refine go_goto (tgt := 5) dX12_lightAt_63 (by decide) ?_
            exact go_eq rfl (lv' := [(0, .ref mb), (1, rj_i p), (2, rj_i q), (3, rj_i (sp_sum (sp_lt s D p q) (k + 1))), (4, rj_i ((k + 1 : Nat) : Int))]) (rj_lk (rj_lk (rj_lk (rj_lj (by rw [sp_sum]; unfold sp_lt; simp [c_45, c_34]) (rj_lj (by omega) rfl))))) rfl rfl (ih (k + 1) r51 (by omega) (hr.tr hr51))
          · refine go_aload_n dX12_lightAt_48 rfl 0 rfl ?_
            refine go_iload dX12_lightAt_49 4 rfl ?_
            refine go_callV (d1 := d - 1) wVX12_187 kX12 rm_ob rfl (by omega) (m_lightOf (m := (k : Int)) (by omega) (hs := (show r51 1 = s from q51_1)) (hM (k : Int) (by omega) (by omega)).1) rfl (Nat.le_of_ble_eq_true rfl) dX12_lightAt_51 (fun w σ1 hP => ?_)
            obtain ⟨rfl, rfl⟩ := hP
            refine go_goto (tgt := 58) dX12_lightAt_54 (by decide) ?_
            refine go_addI dX12_lightAt_58 ?_
            refine go_istore_nS (lv' := [(0, .ref mb), (1, rj_i p), (2, rj_i q), (3, rj_i ((sp_sum (sp_lt s D p q) k) + (sp_light s (k : Int)))), (4, rj_i (k : Int))]) rfl (by decide) rfl dX12_lightAt_59 ?_
            refine go_iincI (a := (k : Int)) (n := 1) (k0 := 4) (lv' := [(0, .ref mb), (1, rj_i p), (2, rj_i q), (3, rj_i ((sp_sum (sp_lt s D p q) k) + (sp_light s (k : Int)))), (4, rj_i ((k : Int) + 1))]) rfl (by decide) rfl dX12_lightAt_60 ?_
            refine go_goto (tgt := 5) dX12_lightAt_63 (by decide) ?_
            exact go_eq rfl (lv' := [(0, .ref mb), (1, rj_i p), (2, rj_i q), (3, rj_i (sp_sum (sp_lt s D p q) (k + 1))), (4, rj_i ((k + 1 : Nat) : Int))]) (rj_lk (rj_lk (rj_lk (rj_lj (by rw [sp_sum]; unfold sp_lt; simp [c_45, c_34]) (rj_lj (by omega) rfl))))) rfl rfl (ih (k + 1) r51 (by omega) (hr.tr hr51))
  exact go_eq rfl (lv' := [(0, .ref mb), (1, rj_i p), (2, rj_i q), (3, rj_i (sp_sum (sp_lt s D p q) 0)), (4, rj_i ((0 : Nat) : Int))]) (rj_lk (rj_lk (rj_lk (rj_lj (rfl) (rj_lj (by omega) rfl))))) rfl rfl (loop (s 0).toNat 0 r (by omega) rm_t.rf)
set_option maxRecDepth 20000 in
/-- m_hasOf -/
theorem m_hasOf {X9 : rj_X} {σ : rj_H} {d : Nat} {mb : Nat} {r : rm_R} {p : Int} (hd : 6 ≤ d) {s : Int → Int} {D : Int} (hs : r 1 = s) (hD : r 11 0 = D) (hD2 : 0 ≤ D ∧ D ≤ 200) (hI : sp_I s) (hp : 0 ≤ p ∧ p < s 1) : rj_Cl X9 d yX12_hasOf cX12_hasOf 4 (some .int) [.ref mb, rj_i p] (rm_p X9 mb r σ) (fun w9 τ => w9 = some (rj_i (sp_has s D p)) ∧ ∃ r0, rm_t r r0 ∧ τ = rm_p X9 mb r0 σ) := by
  obtain ⟨⟨h0, h1, h2, h3, h4, h5, h6, h7⟩, hM, hP, hW, hL, hV⟩ := id hI
  obtain ⟨v1, v2, v3, v4⟩ := id hV
  refine go_call (by decide +kernel) (Nat.le_of_ble_eq_true rfl) ?_
  refine go_eq (pc' := 0) (lv' := [(0, .ref mb), (1, rj_i p)]) (st' := []) rfl rfl rfl rfl ?_
  refine go_iconst (v := Int32.ofInt 0) dX12_hasOf_0 rfl ?_
  refine go_istore_nS (lv' := [(0, .ref mb), (1, rj_i p), (2, rj_i 0)]) rfl (by decide) rfl dX12_hasOf_1 ?_
  refine go_iconst (v := Int32.ofInt 0) dX12_hasOf_2 rfl ?_
  refine go_istore_nS (lv' := [(0, .ref mb), (1, rj_i p), (2, rj_i 0), (3, rj_i 0)]) rfl (by decide) rfl dX12_hasOf_3 ?_
  have loop : ∀ (n k : Nat) (rl : rm_R), k + n = (8 : Int).toNat → rm_t r rl → rj_Go X9 yX12_hasOf cX12_hasOf 4 (some .int) d (fun w9 τ => w9 = some (rj_i (sp_has s D p)) ∧ ∃ r0, rm_t r r0 ∧ τ = rm_p X9 mb r0 σ) 4 [(0, .ref mb), (1, rj_i p), (2, rj_i (sp_sum (fun q => sp_lat s D p q) k)), (3, rj_i (k : Int))] [] (rm_p X9 mb rl σ) := by
    intro n
    induction n with
    | zero =>
      intro k rl hk hr 
      have el1 : rl 1 = s := (hr 1 (by decide) (by decide)).trans (show r 1 = s from hs)
      have el11 : rl 11 0 = D := (congrFun (hr 11 (by decide) (by decide)) 0).trans (show r 11 0 = D from hD)
      refine go_iload_n dX12_hasOf_4 rfl 3 rfl ?_
      refine go_bipush (v := Int32.ofInt 8) dX12_hasOf_5 (by decide) ?_
      refine go_icmp_geI (tgt := 25) (by omega) (by omega) dX12_hasOf_7 (by decide) (fun c_7 => ?_) (fun c_7 => ?_)
      · refine go_iload_n dX12_hasOf_25 rfl 2 rfl ?_
        refine go_retI rfl rfl ?_ dX12_hasOf_26
        exact ⟨rj_vi (by unfold sp_has; rw [show 8 = k by omega]), rl, hr, rfl⟩
      · exact absurd c_7 (by omega)
    | succ n ih =>
      intro k rl hk hr 
      have el1 : rl 1 = s := (hr 1 (by decide) (by decide)).trans (show r 1 = s from hs)
      have el11 : rl 11 0 = D := (congrFun (hr 11 (by decide) (by decide)) 0).trans (show r 11 0 = D from hD)
      refine go_iload_n dX12_hasOf_4 rfl 3 rfl ?_
      refine go_bipush (v := Int32.ofInt 8) dX12_hasOf_5 (by decide) ?_
      refine go_icmp_geI (tgt := 25) (by omega) (by omega) dX12_hasOf_7 (by decide) (fun c_7 => ?_) (fun c_7 => ?_)
      · exact absurd c_7 (by omega)
      · refine go_iload_n dX12_hasOf_10 rfl 2 rfl ?_
        refine go_aload_n dX12_hasOf_11 rfl 0 rfl ?_
        refine go_iload_n dX12_hasOf_12 rfl 1 rfl ?_
        refine go_iload_n dX12_hasOf_13 rfl 3 rfl ?_
        refine go_callV (d1 := d - 1) wVX12_190 kX12 rm_ob rfl (by omega) (m_lightAt (by omega) (p := p) (q := (k : Int)) (hs := (show rl 1 = s from el1)) (hD := (show rl 11 0 = D from el11)) (by omega) hI (by omega) (by omega)) rfl (Nat.le_of_ble_eq_true rfl) dX12_hasOf_14 (fun w σ1 hP => ?_)
        obtain ⟨rfl, r51, hr51, rfl⟩ := hP
        have q51_1 : r51 1 = s := (hr51 1 (by decide) (by decide)).trans (show rl 1 = s from el1)
        have q51_11 : r51 11 0 = D := (congrFun (hr51 11 (by decide) (by decide)) 0).trans (show rl 11 0 = D from el11)
        refine go_addI dX12_hasOf_17 ?_
        refine go_istore_nS (lv' := [(0, .ref mb), (1, rj_i p), (2, rj_i ((sp_sum (fun q => sp_lat s D p q) k) + (sp_lat s D p (k : Int)))), (3, rj_i (k : Int))]) rfl (by decide) rfl dX12_hasOf_18 ?_
        refine go_iincI (a := (k : Int)) (n := 1) (k0 := 3) (lv' := [(0, .ref mb), (1, rj_i p), (2, rj_i ((sp_sum (fun q => sp_lat s D p q) k) + (sp_lat s D p (k : Int)))), (3, rj_i ((k : Int) + 1))]) rfl (by decide) rfl dX12_hasOf_19 ?_
        refine go_goto (tgt := 4) dX12_hasOf_22 (by decide) ?_
        exact go_eq rfl (lv' := [(0, .ref mb), (1, rj_i p), (2, rj_i (sp_sum (fun q => sp_lat s D p q) (k + 1))), (3, rj_i ((k + 1 : Nat) : Int))]) (rj_lk (rj_lk (rj_lj (rfl) (rj_lj (by omega) rfl)))) rfl rfl (ih (k + 1) r51 (by omega) (hr.tr hr51))
  exact go_eq rfl (lv' := [(0, .ref mb), (1, rj_i p), (2, rj_i (sp_sum (fun q => sp_lat s D p q) 0)), (3, rj_i ((0 : Nat) : Int))]) (rj_lk (rj_lk (rj_lj (rfl) (rj_lj (by omega) rfl)))) rfl rfl (loop (8 : Int).toNat 0 r (by omega) rm_t.rf)
def sp_sun (s : Int → Int) (D p q : Int) : Int := if sp_so s D (-13) 99 p q = true ∨ 0 < sp_lat s D p q then 1 else 0
def sp_sunny (s : Int → Int) (D p : Int) : Int := sp_sum (sp_sun s D p) 8
theorem sp_sunny_b (s : Int → Int) (D p : Int) : 0 ≤ sp_sunny s D p ∧ sp_sunny s D p ≤ 8 := by
  have h := sp_sum_b (f := sp_sun s D p) (B := 1) (N := 8) (fun k a b => by unfold sp_sun; split <;> omega) 8 (Nat.le_refl _)
  unfold sp_sunny
  omega
set_option maxRecDepth 20000 in
/-- m_sunny -/
theorem m_sunny {X9 : rj_X} {σ : rj_H} {d : Nat} {mb : Nat} {r : rm_R} {p : Int} (hd : 6 ≤ d) {s : Int → Int} {D : Int} (hs : r 1 = s) (hD : r 11 0 = D) (hD2 : 0 ≤ D ∧ D ≤ 200) (hI : sp_I s) (hp : 0 ≤ p ∧ p < s 1) : rj_Cl X9 d yX12_sunny cX12_sunny 4 (some .int) [.ref mb, rj_i p] (rm_p X9 mb r σ) (fun w9 τ => w9 = some (rj_i (sp_sunny s D p)) ∧ ∃ r0, rm_t r r0 ∧ τ = rm_p X9 mb r0 σ) := by
  obtain ⟨⟨h0, h1, h2, h3, h4, h5, h6, h7⟩, hM, hP, hW, hL, hV⟩ := id hI
  obtain ⟨v1, v2, v3, v4⟩ := id hV
  refine go_call (by decide +kernel) (Nat.le_of_ble_eq_true rfl) ?_
  refine go_eq (pc' := 0) (lv' := [(0, .ref mb), (1, rj_i p)]) (st' := []) rfl rfl rfl rfl ?_
  refine go_iconst (v := Int32.ofInt 0) dX12_sunny_0 rfl ?_
  refine go_istore_nS (lv' := [(0, .ref mb), (1, rj_i p), (2, rj_i 0)]) rfl (by decide) rfl dX12_sunny_1 ?_
  refine go_iconst (v := Int32.ofInt 0) dX12_sunny_2 rfl ?_
  refine go_istore_nS (lv' := [(0, .ref mb), (1, rj_i p), (2, rj_i 0), (3, rj_i 0)]) rfl (by decide) rfl dX12_sunny_3 ?_
  have loop : ∀ (n k : Nat) (rl : rm_R), k + n = (8 : Int).toNat → rm_t r rl → rj_Go X9 yX12_sunny cX12_sunny 4 (some .int) d (fun w9 τ => w9 = some (rj_i (sp_sunny s D p)) ∧ ∃ r0, rm_t r r0 ∧ τ = rm_p X9 mb r0 σ) 4 [(0, .ref mb), (1, rj_i p), (2, rj_i (sp_sum (sp_sun s D p) k)), (3, rj_i (k : Int))] [] (rm_p X9 mb rl σ) := by
    intro n
    induction n with
    | zero =>
      intro k rl hk hr 
      have el1 : rl 1 = s := (hr 1 (by decide) (by decide)).trans (show r 1 = s from hs)
      have el11 : rl 11 0 = D := (congrFun (hr 11 (by decide) (by decide)) 0).trans (show r 11 0 = D from hD)
      refine go_iload_n dX12_sunny_4 rfl 3 rfl ?_
      refine go_bipush (v := Int32.ofInt 8) dX12_sunny_5 (by decide) ?_
      refine go_icmp_geI (tgt := 42) (by omega) (by omega) dX12_sunny_7 (by decide) (fun c_7 => ?_) (fun c_7 => ?_)
      · refine go_iload_n dX12_sunny_42 rfl 2 rfl ?_
        refine go_retI rfl rfl ?_ dX12_sunny_43
        exact ⟨rj_vi (by unfold sp_sunny; rw [show 8 = k by omega]), rl, hr, rfl⟩
      · exact absurd c_7 (by omega)
    | succ n ih =>
      intro k rl hk hr 
      have el1 : rl 1 = s := (hr 1 (by decide) (by decide)).trans (show r 1 = s from hs)
      have el11 : rl 11 0 = D := (congrFun (hr 11 (by decide) (by decide)) 0).trans (show r 11 0 = D from hD)
      have lb := sp_lat_b (D := D) (p := p) (q := (k : Int)) h0 hM
      refine go_iload_n dX12_sunny_4 rfl 3 rfl ?_
      refine go_bipush (v := Int32.ofInt 8) dX12_sunny_5 (by decide) ?_
      refine go_icmp_geI (tgt := 42) (by omega) (by omega) dX12_sunny_7 (by decide) (fun c_7 => ?_) (fun c_7 => ?_)
      · exact absurd c_7 (by omega)
      · refine go_iload_n dX12_sunny_10 rfl 2 rfl ?_
        refine go_aload_n dX12_sunny_11 rfl 0 rfl ?_
        refine go_iload_n dX12_sunny_12 rfl 1 rfl ?_
        refine go_iload_n dX12_sunny_13 rfl 3 rfl ?_
        refine go_callV (d1 := d - 1) wVX12_196 kX12 rm_ob rfl (by omega) (m_hasOwn (by omega) (p := p) (q := (k : Int)) (hs := (show rl 1 = s from el1)) (hD := (show rl 11 0 = D from el11)) (by omega) hI (by omega) (by omega)) rfl (Nat.le_of_ble_eq_true rfl) dX12_sunny_14 (fun w σ1 hP => ?_)
        obtain ⟨rfl, r51, hr51, rfl⟩ := hP
        have q51_1 : r51 1 = s := (hr51 1 (by decide) (by decide)).trans (show rl 1 = s from el1)
        have q51_11 : r51 11 0 = D := (congrFun (hr51 11 (by decide) (by decide)) 0).trans (show rl 11 0 = D from el11)
        refine go_if_neB (tgt := 29) dX12_sunny_17 (by decide) (fun c_17 => ?_) (fun c_17 => ?_)
        · refine go_iconst (v := Int32.ofInt 1) dX12_sunny_29 rfl ?_
          refine go_goto (tgt := 34) dX12_sunny_30 (by decide) ?_
          refine go_addI dX12_sunny_34 ?_
          refine go_istore_nS (lv' := [(0, .ref mb), (1, rj_i p), (2, rj_i ((sp_sum (sp_sun s D p) k) + 1)), (3, rj_i (k : Int))]) rfl (by decide) rfl dX12_sunny_35 ?_
          refine go_iincI (a := (k : Int)) (n := 1) (k0 := 3) (lv' := [(0, .ref mb), (1, rj_i p), (2, rj_i ((sp_sum (sp_sun s D p) k) + 1)), (3, rj_i ((k : Int) + 1))]) rfl (by decide) rfl dX12_sunny_36 ?_
          refine go_goto (tgt := 4) dX12_sunny_39 (by decide) ?_
          exact go_eq rfl (lv' := [(0, .ref mb), (1, rj_i p), (2, rj_i (sp_sum (sp_sun s D p) (k + 1))), (3, rj_i ((k + 1 : Nat) : Int))]) (rj_lk (rj_lk (rj_lj (by rw [sp_sum, sp_sun, if_pos (Or.inl c_17)]) (rj_lj (by omega) rfl)))) rfl rfl (ih (k + 1) r51 (by omega) (hr.tr hr51))
        · refine go_aload_n dX12_sunny_20 rfl 0 rfl ?_
          refine go_iload_n dX12_sunny_21 rfl 1 rfl ?_
          refine go_iload_n dX12_sunny_22 rfl 3 rfl ?_
          refine go_callV (d1 := d - 1) wVX12_190 kX12 rm_ob rfl (by omega) (m_lightAt (by omega) (p := p) (q := (k : Int)) (hs := (show r51 1 = s from q51_1)) (hD := (show r51 11 0 = D from q51_11)) (by omega) hI (by omega) (by omega)) rfl (Nat.le_of_ble_eq_true rfl) dX12_sunny_23 (fun w σ1 hP => ?_)
          obtain ⟨rfl, r52, hr52, rfl⟩ := hP
          have q52_1 : r52 1 = s := (hr52 1 (by decide) (by decide)).trans (show r51 1 = s from q51_1)
          have q52_11 : r52 11 0 = D := (congrFun (hr52 11 (by decide) (by decide)) 0).trans (show r51 11 0 = D from q51_11)
          refine go_if_leI (tgt := 33) (by omega) dX12_sunny_26 (by decide) (fun c_26 => ?_) (fun c_26 => ?_)
          · refine go_iconst (v := Int32.ofInt 0) dX12_sunny_33 rfl ?_
            refine go_addI dX12_sunny_34 ?_
            refine go_istore_nS (lv' := [(0, .ref mb), (1, rj_i p), (2, rj_i ((sp_sum (sp_sun s D p) k) + 0)), (3, rj_i (k : Int))]) rfl (by decide) rfl dX12_sunny_35 ?_
            refine go_iincI (a := (k : Int)) (n := 1) (k0 := 3) (lv' := [(0, .ref mb), (1, rj_i p), (2, rj_i ((sp_sum (sp_sun s D p) k) + 0)), (3, rj_i ((k : Int) + 1))]) rfl (by decide) rfl dX12_sunny_36 ?_
            refine go_goto (tgt := 4) dX12_sunny_39 (by decide) ?_
            exact go_eq rfl (lv' := [(0, .ref mb), (1, rj_i p), (2, rj_i (sp_sum (sp_sun s D p) (k + 1))), (3, rj_i ((k + 1 : Nat) : Int))]) (rj_lk (rj_lk (rj_lj (by rw [sp_sum, sp_sun, if_neg (by simp [c_17]; omega)]) (rj_lj (by omega) rfl)))) rfl rfl (ih (k + 1) r52 (by omega) ((hr.tr hr51).tr hr52))
          · refine go_iconst (v := Int32.ofInt 1) dX12_sunny_29 rfl ?_
            refine go_goto (tgt := 34) dX12_sunny_30 (by decide) ?_
            refine go_addI dX12_sunny_34 ?_
            refine go_istore_nS (lv' := [(0, .ref mb), (1, rj_i p), (2, rj_i ((sp_sum (sp_sun s D p) k) + 1)), (3, rj_i (k : Int))]) rfl (by decide) rfl dX12_sunny_35 ?_
            refine go_iincI (a := (k : Int)) (n := 1) (k0 := 3) (lv' := [(0, .ref mb), (1, rj_i p), (2, rj_i ((sp_sum (sp_sun s D p) k) + 1)), (3, rj_i ((k : Int) + 1))]) rfl (by decide) rfl dX12_sunny_36 ?_
            refine go_goto (tgt := 4) dX12_sunny_39 (by decide) ?_
            exact go_eq rfl (lv' := [(0, .ref mb), (1, rj_i p), (2, rj_i (sp_sum (sp_sun s D p) (k + 1))), (3, rj_i ((k + 1 : Nat) : Int))]) (rj_lk (rj_lk (rj_lj (by rw [sp_sum, sp_sun, if_pos (Or.inr (by omega))]) (rj_lj (by omega) rfl)))) rfl rfl (ih (k + 1) r52 (by omega) ((hr.tr hr51).tr hr52))
  exact go_eq rfl (lv' := [(0, .ref mb), (1, rj_i p), (2, rj_i (sp_sum (sp_sun s D p) 0)), (3, rj_i ((0 : Nat) : Int))]) (rj_lk (rj_lk (rj_lj (rfl) (rj_lj (by omega) rfl)))) rfl rfl (loop (8 : Int).toNat 0 r (by omega) rm_t.rf)
