/-! THE CLASS: small numbers; what only reads -/
set_option maxRecDepth 20000 in
/-- x_within -/
theorem x_within {X9 : rj_X} {σ : rj_H} {d : Nat} {v lo hi : Int} (hv : -2147483648 ≤ v ∧ v < 2147483648) (hlo : -2147483648 ≤ lo ∧ lo < 2147483648) (hhi : -2147483648 ≤ hi ∧ hi < 2147483648) : rj_Cl X9 d yX11_isWithin cX11_isWithin 3 (some .boolean) [rj_i v, rj_i lo, rj_i hi] σ (fun w9 τ => w9 = some (rj_i (rj_b (lo ≤ v ∧ v ≤ hi))) ∧ τ = σ) := by
  refine go_call (by decide +kernel) (Nat.le_of_ble_eq_true rfl) ?_
  refine go_eq (pc' := 0) (lv' := [(0, rj_i v), (1, rj_i lo), (2, rj_i hi)]) (st' := []) rfl rfl rfl rfl ?_
  refine go_iload_n dX11_isWithin_0 rfl 0 rfl ?_
  refine go_iload_n dX11_isWithin_1 rfl 1 rfl ?_
  refine go_icmp_ltI (tgt := 14) (by omega) (by omega) dX11_isWithin_2 (by decide) (fun c_2 => ?_) (fun c_2 => ?_)
  · refine go_iconst (v := Int32.ofInt 0) dX11_isWithin_14 rfl ?_
    refine go_retI rfl (rj_n01 (by decide)) ?_ dX11_isWithin_15
    exact ⟨rj_vi (rj_bf (by omega)).symm, rfl⟩
  · refine go_iload_n dX11_isWithin_5 rfl 0 rfl ?_
    refine go_iload_n dX11_isWithin_6 rfl 2 rfl ?_
    refine go_icmp_gtI (tgt := 14) (by omega) (by omega) dX11_isWithin_7 (by decide) (fun c_7 => ?_) (fun c_7 => ?_)
    · refine go_iconst (v := Int32.ofInt 0) dX11_isWithin_14 rfl ?_
      refine go_retI rfl (rj_n01 (by decide)) ?_ dX11_isWithin_15
      exact ⟨rj_vi (rj_bf (by omega)).symm, rfl⟩
    · refine go_iconst (v := Int32.ofInt 1) dX11_isWithin_10 rfl ?_
      refine go_goto (tgt := 15) dX11_isWithin_11 (by decide) ?_
      refine go_retI rfl (rj_n01 (by decide)) ?_ dX11_isWithin_15
      exact ⟨rj_vi (rj_bt (by omega)).symm, rfl⟩
set_option maxRecDepth 20000 in
/-- x_point -/
theorem x_point {X9 : rj_X} {σ : rj_H} {d : Nat} {a : Int} (ha : -2147483648 ≤ a ∧ a < 2147483648) : rj_Cl X9 d yX11_isPoint cX11_isPoint 1 (some .boolean) [rj_i a] σ (fun w9 τ => w9 = some (rj_i (rj_b (0 ≤ a ∧ a ≤ 4040 ∧ a % 100 ≤ 40))) ∧ τ = σ) := by
  refine go_call (by decide +kernel) (Nat.le_of_ble_eq_true rfl) ?_
  refine go_eq (pc' := 0) (lv' := [(0, rj_i a)]) (st' := []) rfl rfl rfl rfl ?_
  refine go_iload_n dX11_isPoint_0 rfl 0 rfl ?_
  refine go_if_ltI (tgt := 26) (by omega) dX11_isPoint_1 (by decide) (fun c_1 => ?_) (fun c_1 => ?_)
  · refine go_iconst (v := Int32.ofInt 0) dX11_isPoint_26 rfl ?_
    refine go_retI rfl (rj_n01 (by decide)) ?_ dX11_isPoint_27
    exact ⟨rj_vi (rj_bf (by omega)).symm, rfl⟩
  · refine go_iload_n dX11_isPoint_4 rfl 0 rfl ?_
    refine go_bipush (v := Int32.ofInt 100) dX11_isPoint_5 (by decide) ?_
    refine go_divI (by omega) (by omega) dX11_isPoint_7 ?_
    refine go_bipush (v := Int32.ofInt 40) dX11_isPoint_8 (by decide) ?_
    refine go_icmp_gtI (tgt := 26) (by omega) (by omega) dX11_isPoint_10 (by decide) (fun c_10 => ?_) (fun c_10 => ?_)
    · refine go_iconst (v := Int32.ofInt 0) dX11_isPoint_26 rfl ?_
      refine go_retI rfl (rj_n01 (by decide)) ?_ dX11_isPoint_27
      exact ⟨rj_vi (rj_bf (by omega)).symm, rfl⟩
    · refine go_iload_n dX11_isPoint_13 rfl 0 rfl ?_
      refine go_bipush (v := Int32.ofInt 100) dX11_isPoint_14 (by decide) ?_
      refine go_remI (by omega) (by omega) dX11_isPoint_16 ?_
      refine go_bipush (v := Int32.ofInt 40) dX11_isPoint_17 (by decide) ?_
      refine go_icmp_gtI (tgt := 26) (by omega) (by omega) dX11_isPoint_19 (by decide) (fun c_19 => ?_) (fun c_19 => ?_)
      · refine go_iconst (v := Int32.ofInt 0) dX11_isPoint_26 rfl ?_
        refine go_retI rfl (rj_n01 (by decide)) ?_ dX11_isPoint_27
        exact ⟨rj_vi (rj_bf (by omega)).symm, rfl⟩
      · refine go_iconst (v := Int32.ofInt 1) dX11_isPoint_22 rfl ?_
        refine go_goto (tgt := 27) dX11_isPoint_23 (by decide) ?_
        refine go_retI rfl (rj_n01 (by decide)) ?_ dX11_isPoint_27
        exact ⟨rj_vi (rj_bt (by omega)).symm, rfl⟩
set_option maxRecDepth 20000 in
/-- x_make -/
theorem x_make {X9 : rj_X} {σ : rj_H} {d : Nat} {mk : Int} (hd : 1 ≤ d) (hmk : -2147483648 ≤ mk ∧ mk < 2147483648) : rj_Cl X9 d yX11_isMake cX11_isMake 1 (some .boolean) [rj_i mk] σ (fun w9 τ => w9 = some (rj_i (rj_b ((0 ≤ mk ∧ mk ≤ 999999) ∧ (1 ≤ mk / 100 % 100 ∧ mk / 100 % 100 ≤ 40) ∧ ¬ mk / 10 % 10 = 0))) ∧ τ = σ) := by
  refine go_call (by decide +kernel) (Nat.le_of_ble_eq_true rfl) ?_
  refine go_eq (pc' := 0) (lv' := [(0, rj_i mk)]) (st' := []) rfl rfl rfl rfl ?_
  refine go_iload_n dX11_isMake_0 rfl 0 rfl ?_
  refine go_if_ltI (tgt := 45) (by omega) dX11_isMake_1 (by decide) (fun c_1 => ?_) (fun c_1 => ?_)
  · refine go_iconst (v := Int32.ofInt 0) dX11_isMake_45 rfl ?_
    refine go_retI rfl (rj_n01 (by decide)) ?_ dX11_isMake_46
    exact ⟨rj_vi (rj_bf (by omega)).symm, rfl⟩
  · refine go_iload_n dX11_isMake_4 rfl 0 rfl ?_
    refine go_sipush (v := Int32.ofInt 10000) dX11_isMake_5 (by decide) ?_
    refine go_divI (by omega) (by omega) dX11_isMake_8 ?_
    refine go_bipush (v := Int32.ofInt 99) dX11_isMake_9 (by decide) ?_
    refine go_icmp_gtI (tgt := 45) (by omega) (by omega) dX11_isMake_11 (by decide) (fun c_11 => ?_) (fun c_11 => ?_)
    · refine go_iconst (v := Int32.ofInt 0) dX11_isMake_45 rfl ?_
      refine go_retI rfl (rj_n01 (by decide)) ?_ dX11_isMake_46
      exact ⟨rj_vi (rj_bf (by omega)).symm, rfl⟩
    · refine go_iload_n dX11_isMake_14 rfl 0 rfl ?_
      refine go_bipush (v := Int32.ofInt 100) dX11_isMake_15 (by decide) ?_
      refine go_divI (by omega) (by omega) dX11_isMake_17 ?_
      refine go_bipush (v := Int32.ofInt 100) dX11_isMake_18 (by decide) ?_
      refine go_remI (by omega) (by omega) dX11_isMake_20 ?_
      refine go_iconst (v := Int32.ofInt 1) dX11_isMake_21 rfl ?_
      refine go_bipush (v := Int32.ofInt 40) dX11_isMake_22 (by decide) ?_
      refine go_callS (d1 := d - 1) wSX11_72 rfl (by omega) (x_within (v := (mk / 100) % 100) (lo := 1) (hi := 40) (by omega) (by omega) (by omega)) rfl (Nat.le_of_ble_eq_true rfl) dX11_isMake_24 (fun w σ1 hP9 => ?_)
      obtain ⟨rfl, rfl⟩ := hP9
      refine go_if_eqB (tgt := 45) dX11_isMake_27 (by decide) (fun c_27 => ?_) (fun c_27 => ?_)
      · refine go_iconst (v := Int32.ofInt 0) dX11_isMake_45 rfl ?_
        refine go_retI rfl (rj_n01 (by decide)) ?_ dX11_isMake_46
        exact ⟨rj_vi (rj_bf (by omega)).symm, rfl⟩
      · refine go_iload_n dX11_isMake_30 rfl 0 rfl ?_
        refine go_bipush (v := Int32.ofInt 10) dX11_isMake_31 (by decide) ?_
        refine go_divI (by omega) (by omega) dX11_isMake_33 ?_
        refine go_bipush (v := Int32.ofInt 10) dX11_isMake_34 (by decide) ?_
        refine go_remI (by omega) (by omega) dX11_isMake_36 ?_
        refine go_iconst (v := Int32.ofInt 1) dX11_isMake_37 rfl ?_
        refine go_icmp_ltI (tgt := 45) (by omega) (by omega) dX11_isMake_38 (by decide) (fun c_38 => ?_) (fun c_38 => ?_)
        · refine go_iconst (v := Int32.ofInt 0) dX11_isMake_45 rfl ?_
          refine go_retI rfl (rj_n01 (by decide)) ?_ dX11_isMake_46
          exact ⟨rj_vi (rj_bf (by omega)).symm, rfl⟩
        · refine go_iconst (v := Int32.ofInt 1) dX11_isMake_41 rfl ?_
          refine go_goto (tgt := 46) dX11_isMake_42 (by decide) ?_
          refine go_retI rfl (rj_n01 (by decide)) ?_ dX11_isMake_46
          exact ⟨rj_vi (rj_bt (by omega)).symm, rfl⟩
set_option maxRecDepth 20000 in
/-- x_quarter -/
theorem x_quarter {X9 : rj_X} {σ : rj_H} {d : Nat} {q : Int} (hq : -2147483648 ≤ q ∧ q < 2147483648) : rj_Cl X9 d yX11_isQuarter cX11_isQuarter 1 (some .boolean) [rj_i q] σ (fun w9 τ => w9 = some (rj_i (rj_b (0 ≤ q ∧ q < 8))) ∧ τ = σ) := by
  refine go_call (by decide +kernel) (Nat.le_of_ble_eq_true rfl) ?_
  refine go_eq (pc' := 0) (lv' := [(0, rj_i q)]) (st' := []) rfl rfl rfl rfl ?_
  refine go_iload_n dX11_isQuarter_0 rfl 0 rfl ?_
  refine go_if_ltI (tgt := 14) (by omega) dX11_isQuarter_1 (by decide) (fun c_1 => ?_) (fun c_1 => ?_)
  · refine go_iconst (v := Int32.ofInt 0) dX11_isQuarter_14 rfl ?_
    refine go_retI rfl (rj_n01 (by decide)) ?_ dX11_isQuarter_15
    exact ⟨rj_vi (rj_bf (by omega)).symm, rfl⟩
  · refine go_iload_n dX11_isQuarter_4 rfl 0 rfl ?_
    refine go_bipush (v := Int32.ofInt 8) dX11_isQuarter_5 (by decide) ?_
    refine go_icmp_geI (tgt := 14) (by omega) (by omega) dX11_isQuarter_7 (by decide) (fun c_7 => ?_) (fun c_7 => ?_)
    · refine go_iconst (v := Int32.ofInt 0) dX11_isQuarter_14 rfl ?_
      refine go_retI rfl (rj_n01 (by decide)) ?_ dX11_isQuarter_15
      exact ⟨rj_vi (rj_bf (by omega)).symm, rfl⟩
    · refine go_iconst (v := Int32.ofInt 1) dX11_isQuarter_10 rfl ?_
      refine go_goto (tgt := 15) dX11_isQuarter_11 (by decide) ?_
      refine go_retI rfl (rj_n01 (by decide)) ?_ dX11_isQuarter_15
      exact ⟨rj_vi (rj_bt (by omega)).symm, rfl⟩
set_option maxRecDepth 20000 in
/-- x_orN -/
theorem x_orN {X9 : rj_X} {σ : rj_H} {d : Nat} {v : Int} (hv : -2147483648 ≤ v ∧ v < 2147483648) : rj_Cl X9 d yX11_orNothing cX11_orNothing 1 (some .int) [rj_i v] σ (fun w9 τ => w9 = some (rj_i (if v < 0 then -5 else v)) ∧ τ = σ) := by
  refine go_call (by decide +kernel) (Nat.le_of_ble_eq_true rfl) ?_
  refine go_eq (pc' := 0) (lv' := [(0, rj_i v)]) (st' := []) rfl rfl rfl rfl ?_
  refine go_iload_n dX11_orNothing_0 rfl 0 rfl ?_
  refine go_if_geI (tgt := 9) (by omega) dX11_orNothing_1 (by decide) (fun c_1 => ?_) (fun c_1 => ?_)
  · refine go_iload_n dX11_orNothing_9 rfl 0 rfl ?_
    refine go_retI rfl rfl ?_ dX11_orNothing_10
    exact ⟨rj_vi (by rw [if_neg (by omega)]), rfl⟩
  · refine go_bipush (v := Int32.ofInt (-5)) dX11_orNothing_4 (by decide) ?_
    refine go_goto (tgt := 10) dX11_orNothing_6 (by decide) ?_
    refine go_retI rfl rfl ?_ dX11_orNothing_10
    exact ⟨rj_vi (by rw [if_pos (by omega)]), rfl⟩
set_option maxRecDepth 20000 in
/-- x_isInI -/
theorem x_isInI {X9 : rj_X} {σ : rj_H} {d : Nat} {x m : Int} (hx9 : 0 ≤ x ∧ x < 256) (hm9 : 0 ≤ m ∧ m < 8) : rj_Cl X9 d yX11_isIn cX11_isIn 2 (some .boolean) [rj_i x, rj_i m] σ (fun w9 τ => w9 = some (rj_i (rj_b (sp_btx x m = 1))) ∧ τ = σ) := by
  refine go_call (by decide +kernel) (Nat.le_of_ble_eq_true rfl) ?_
  refine go_eq (pc' := 0) (lv' := [(0, rj_i x), (1, rj_i m)]) (st' := []) rfl rfl rfl rfl ?_
  refine go_iload_n dX11_isIn_0 rfl 0 rfl ?_
  refine go_iload_n dX11_isIn_1 rfl 1 rfl ?_
  refine go_shrI (a := x) (b := m) (by omega) (by omega) dX11_isIn_2 ?_
  refine go_iconst (v := Int32.ofInt 1) dX11_isIn_3 rfl ?_
  refine go_and1 (a := x / 2 ^ m.toNat) (sp_shr_b hx9 _) dX11_isIn_4 ?_
  refine go_iconst (v := Int32.ofInt 1) dX11_isIn_5 rfl ?_
  refine go_icmp_neI (tgt := 13) (by have := sp_btx_b x m; unfold sp_btx at this; omega) (by omega) dX11_isIn_6 (by decide) (fun c_6 => ?_) (fun c_6 => ?_)
  · refine go_iconst (v := Int32.ofInt 0) dX11_isIn_13 rfl ?_
    refine go_retI rfl (rj_n01 (by decide)) ?_ dX11_isIn_14
    exact ⟨rj_vi (rj_bf (by unfold sp_btx; omega)).symm, rfl⟩
  · refine go_iconst (v := Int32.ofInt 1) dX11_isIn_9 rfl ?_
    refine go_goto (tgt := 14) dX11_isIn_10 (by decide) ?_
    refine go_retI rfl (rj_n01 (by decide)) ?_ dX11_isIn_14
    exact ⟨rj_vi (rj_bt (by unfold sp_btx; omega)).symm, rfl⟩
theorem x_isInM {X9 : rj_X} {σ : rj_H} {d : Nat} {P : Int → Bool} {q : Int} (hq : 0 ≤ q ∧ q < 8) : rj_Cl X9 d yX11_isIn cX11_isIn 2 (some .boolean) [rj_i (sp_bits P 8), rj_i q] σ (fun w9 τ => w9 = some (rj_i (rj_b (P q = true))) ∧ τ = σ) := by
  have hb := sp_bits_b P 8
  refine (x_isInI (x := sp_bits P 8) (m := q) (by omega) hq).mono (fun w τ h => ⟨?_, h.2⟩)
  rw [h.1, rj_bc (sp_btx_in P hq.1 hq.2)]
set_option maxRecDepth 20000 in
/-- x_mirrorAt_y -/
theorem x_mirrorAt_y {X9 : rj_X} {σ : rj_H} {d cb vv vk : Nat} {c : rm_R} {m : Int} (hd : 0 ≤ d) {s : Int → Int} {ad : Nat → Int → Nat} (hR : rc_R X9 cb vv vk c σ s ad) (hI : sp_I s) (hm : 0 ≤ m ∧ m < s 0) : rj_Cl X9 d yX5_mirrorAt cX5_mirrorAt 2 (some (.object "SunMirrors$Mirror")) [.ref (cb + 1), rj_i m] (rc_p X9 cb vv vk c σ) (fun w9 τ => w9 = some (.ref (ad 0 m)) ∧ τ = rc_p X9 cb vv vk c σ) := by
  obtain ⟨⟨h0, h1, h2, h3, h4, h5, h6, h7⟩, hM, hP, hW, hL, hV⟩ := id hI
  obtain ⟨v1, v2, v3, v4⟩ := id hV
  refine go_call (by decide +kernel) (Nat.le_of_ble_eq_true rfl) ?_
  refine go_eq (pc' := 0) (lv' := [(0, .ref (cb + 1)), (1, rj_i m)]) (st' := []) rfl rfl rfl rfl ?_
  refine go_iload_n dX5_mirrorAt_0 rfl 1 rfl ?_
  refine go_if_ltI (tgt := 21) (by omega) dX5_mirrorAt_1 (by decide) (fun c_1 => ?_) (fun c_1 => ?_)
  · exact absurd c_1 (by omega)
  · refine go_iload_n dX5_mirrorAt_4 rfl 1 rfl ?_
    refine go_aload_n dX5_mirrorAt_5 rfl 0 rfl ?_
    refine rc_gs hR.V (k := 1) (v := rj_i (s 0)) (by decide) fX5_17 (rj_vi hR.n0) dX5_mirrorAt_6 ?_
    refine go_icmp_geI (tgt := 21) (by omega) (by omega) dX5_mirrorAt_9 (by decide) (fun c_9 => ?_) (fun c_9 => ?_)
    · exact absurd c_9 (by omega)
    · refine go_aload_n dX5_mirrorAt_12 rfl 0 rfl ?_
      refine rc_gs hR.V (k := 0) (v := .ref (cb + 2)) (by decide) fX5_11 rfl dX5_mirrorAt_13 ?_
      refine go_iload_n dX5_mirrorAt_16 rfl 1 rfl ?_
      refine rc_em hR (m := m) (by omega) (by omega) h0 dX5_mirrorAt_17 ?_
      refine go_goto (tgt := 22) dX5_mirrorAt_18 (by decide) ?_
      refine go_retA rfl ?_ dX5_mirrorAt_22
      exact ⟨rfl, rfl⟩
set_option maxRecDepth 20000 in
/-- x_mirrorAt_n0 -/
theorem x_mirrorAt_n0 {X9 : rj_X} {σ : rj_H} {d cb vv vk : Nat} {c : rm_R} {m : Int} (hd : 0 ≤ d) (hm : -2147483648 ≤ m ∧ m < 2147483648) {s : Int → Int} {ad : Nat → Int → Nat} (hR : rc_R X9 cb vv vk c σ s ad) (hI : sp_I s) (hm : ¬ (0 ≤ m ∧ m < s 0)) : rj_Cl X9 d yX5_mirrorAt cX5_mirrorAt 2 (some (.object "SunMirrors$Mirror")) [.ref (cb + 1), rj_i m] (rc_p X9 cb vv vk c σ) (fun w9 τ => w9 = some .null ∧ τ = rc_p X9 cb vv vk c σ) := by
  obtain ⟨⟨h0, h1, h2, h3, h4, h5, h6, h7⟩, hM, hP, hW, hL, hV⟩ := id hI
  obtain ⟨v1, v2, v3, v4⟩ := id hV
  refine go_call (by decide +kernel) (Nat.le_of_ble_eq_true rfl) ?_
  refine go_eq (pc' := 0) (lv' := [(0, .ref (cb + 1)), (1, rj_i m)]) (st' := []) rfl rfl rfl rfl ?_
  refine go_iload_n dX5_mirrorAt_0 rfl 1 rfl ?_
  refine go_if_ltI (tgt := 21) (by omega) dX5_mirrorAt_1 (by decide) (fun c_1 => ?_) (fun c_1 => ?_)
  · refine go_null dX5_mirrorAt_21 ?_
    refine go_retN rfl ?_ dX5_mirrorAt_22
    exact ⟨rfl, rfl⟩
  · refine go_iload_n dX5_mirrorAt_4 rfl 1 rfl ?_
    refine go_aload_n dX5_mirrorAt_5 rfl 0 rfl ?_
    refine rc_gs hR.V (k := 1) (v := rj_i (s 0)) (by decide) fX5_17 (rj_vi hR.n0) dX5_mirrorAt_6 ?_
    refine go_icmp_geI (tgt := 21) (by omega) (by omega) dX5_mirrorAt_9 (by decide) (fun c_9 => ?_) (fun c_9 => ?_)
    · refine go_null dX5_mirrorAt_21 ?_
      refine go_retN rfl ?_ dX5_mirrorAt_22
      exact ⟨rfl, rfl⟩
    · exact absurd c_9 (by omega)
set_option maxRecDepth 20000 in
/-- x_hasPatch -/
theorem x_hasPatch {X9 : rj_X} {σ : rj_H} {d cb vv vk : Nat} {c : rm_R} {p : Int} (hp : -2147483648 ≤ p ∧ p < 2147483648) {s : Int → Int} {ad : Nat → Int → Nat} (hR : rc_R X9 cb vv vk c σ s ad) (hI : sp_I s) : rj_Cl X9 d yX5_hasPatch cX5_hasPatch 2 (some .boolean) [.ref (cb + 1), rj_i p] (rc_p X9 cb vv vk c σ) (fun w9 τ => w9 = some (rj_i (rj_b (0 ≤ p ∧ p < s 1))) ∧ τ = rc_p X9 cb vv vk c σ) := by
  obtain ⟨⟨h0, h1, h2, h3, h4, h5, h6, h7⟩, hM, hP, hW, hL, hV⟩ := id hI
  obtain ⟨v1, v2, v3, v4⟩ := id hV
  refine go_call (by decide +kernel) (Nat.le_of_ble_eq_true rfl) ?_
  refine go_eq (pc' := 0) (lv' := [(0, .ref (cb + 1)), (1, rj_i p)]) (st' := []) rfl rfl rfl rfl ?_
  refine go_iload_n dX5_hasPatch_0 rfl 1 rfl ?_
  refine go_if_ltI (tgt := 16) (by omega) dX5_hasPatch_1 (by decide) (fun c_1 => ?_) (fun c_1 => ?_)
  · refine go_iconst (v := Int32.ofInt 0) dX5_hasPatch_16 rfl ?_
    refine go_retI rfl (rj_n01 (by decide)) ?_ dX5_hasPatch_17
    exact ⟨rj_vi (rj_bf (by omega)).symm, rfl⟩
  · refine go_iload_n dX5_hasPatch_4 rfl 1 rfl ?_
    refine go_aload_n dX5_hasPatch_5 rfl 0 rfl ?_
    refine rc_gs hR.V (k := 3) (v := rj_i (s 1)) (by decide) fX5_26 (rj_vi hR.n1) dX5_hasPatch_6 ?_
    refine go_icmp_geI (tgt := 16) (by omega) (by omega) dX5_hasPatch_9 (by decide) (fun c_9 => ?_) (fun c_9 => ?_)
    · refine go_iconst (v := Int32.ofInt 0) dX5_hasPatch_16 rfl ?_
      refine go_retI rfl (rj_n01 (by decide)) ?_ dX5_hasPatch_17
      exact ⟨rj_vi (rj_bf (by omega)).symm, rfl⟩
    · refine go_iconst (v := Int32.ofInt 1) dX5_hasPatch_12 rfl ?_
      refine go_goto (tgt := 17) dX5_hasPatch_13 (by decide) ?_
      refine go_retI rfl (rj_n01 (by decide)) ?_ dX5_hasPatch_17
      exact ⟨rj_vi (rj_bt (by omega)).symm, rfl⟩
set_option maxRecDepth 20000 in
/-- x_newPatch -/
theorem x_newPatch {X9 : rj_X} {σ : rj_H} {d cb vv vk : Nat} {c : rm_R} {s : Int → Int} {ad : Nat → Int → Nat} (hR : rc_R X9 cb vv vk c σ s ad) (hI : sp_I s) (h8 : 0 ≤ s 8 ∧ s 8 ≤ 6) : rj_Cl X9 d yX5_hasNewPatch cX5_hasNewPatch 1 (some .boolean) [.ref (cb + 1)] (rc_p X9 cb vv vk c σ) (fun w9 τ => w9 = some (rj_i (rj_b (0 < s 5 ∧ ¬ s 1 = s 8))) ∧ τ = rc_p X9 cb vv vk c σ) := by
  obtain ⟨⟨h0, h1, h2, h3, h4, h5, h6, h7⟩, hM, hP, hW, hL, hV⟩ := id hI
  obtain ⟨v1, v2, v3, v4⟩ := id hV
  refine go_call (by decide +kernel) (Nat.le_of_ble_eq_true rfl) ?_
  refine go_eq (pc' := 0) (lv' := [(0, .ref (cb + 1))]) (st' := []) rfl rfl rfl rfl ?_
  refine go_aload_n dX5_hasNewPatch_0 rfl 0 rfl ?_
  refine rc_gs hR.V (k := 13) (v := rj_i (s 5)) (by decide) fX5_64 (rj_vi hR.n5) dX5_hasNewPatch_1 ?_
  refine go_if_leI (tgt := 22) (by omega) dX5_hasNewPatch_4 (by decide) (fun c_4 => ?_) (fun c_4 => ?_)
  · refine go_iconst (v := Int32.ofInt 0) dX5_hasNewPatch_22 rfl ?_
    refine go_retI rfl (rj_n01 (by decide)) ?_ dX5_hasNewPatch_23
    exact ⟨rj_vi (rj_bf (by omega)).symm, rfl⟩
  · refine go_aload_n dX5_hasNewPatch_7 rfl 0 rfl ?_
    refine rc_gs hR.V (k := 3) (v := rj_i (s 1)) (by decide) fX5_26 (rj_vi hR.n1) dX5_hasNewPatch_8 ?_
    refine go_aload_n dX5_hasNewPatch_11 rfl 0 rfl ?_
    refine rc_gs hR.V (k := 14) (v := rj_i (s 8)) (by decide) fX5_67 (rj_vi hR.n8) dX5_hasNewPatch_12 ?_
    refine go_icmp_eqI (tgt := 22) (by omega) (by omega) dX5_hasNewPatch_15 (by decide) (fun c_15 => ?_) (fun c_15 => ?_)
    · refine go_iconst (v := Int32.ofInt 0) dX5_hasNewPatch_22 rfl ?_
      refine go_retI rfl (rj_n01 (by decide)) ?_ dX5_hasNewPatch_23
      exact ⟨rj_vi (rj_bf (by omega)).symm, rfl⟩
    · refine go_iconst (v := Int32.ofInt 1) dX5_hasNewPatch_18 rfl ?_
      refine go_goto (tgt := 23) dX5_hasNewPatch_19 (by decide) ?_
      refine go_retI rfl (rj_n01 (by decide)) ?_ dX5_hasNewPatch_23
      exact ⟨rj_vi (rj_bt (by omega)).symm, rfl⟩
