/-! THE JDK: String.indexOf of a constant -/
theorem rj_di2b : ∀ x : Nat, x < 256 → (nI x).toInt8.toInt32 = Int32.ofInt (rc_sb (x : Int)) := by decide +kernel
theorem rj_da25 : ∀ x : Nat, x < 256 → Int32.ofInt (rc_sb (x : Int)) &&& Int32.ofInt 255 = nI x := by decide +kernel
section IX
variable {X9 : rj_X} {y9 : MethodName} {cc : ByteArray} {nL : Nat} {rt9 : Option FieldType} {d9 : Nat} {P9 : Option Value → rj_H → Prop} {pc : Nat} {lv : List (Nat × Value)} {rest : List Value} {σ : rj_H} {a : Int}
theorem go_i2bS (ha : 0 ≤ a ∧ a < 256) (hdg : decode cc pc = .ok (.i2b, 1)) (kk : rj_Go X9 y9 cc nL rt9 d9 P9 (pc + 1) lv (rj_i (rc_sb a) :: rest) σ) : rj_Go X9 y9 cc nL rt9 d9 P9 pc lv (rj_i a :: rest) σ := by
  obtain ⟨x, rfl⟩ := Int.eq_ofNat_of_zero_le ha.1
  have h := rj_di2b x (by omega)
  rw [rj_nI] at h
  exact go_i2b hdg h kk
theorem go_aS255 (ha : 0 ≤ a ∧ a < 256) (hdg : decode cc pc = .ok (.iand, 1)) (kk : rj_Go X9 y9 cc nL rt9 d9 P9 (pc + 1) lv (rj_i a :: rest) σ) : rj_Go X9 y9 cc nL rt9 d9 P9 pc lv (rj_i 255 :: rj_i (rc_sb a) :: rest) σ := by
  refine go_iand hdg ?_
  obtain ⟨x, rfl⟩ := Int.eq_ofNat_of_zero_le ha.1
  have h := rj_da25 x (by omega)
  rw [rj_nI] at h
  have e : Int32.ofInt (rc_sb (x : Int)) &&& Int32.ofInt 255 = Int32.ofInt (x : Int) := h
  rw [e]
  exact kk
end IX
theorem sp_am_j {i : Nat} {c : Int} {k n : Nat} : sp_amN i c (n + 1) k = if c = rj_sc i k then (k : Int) else sp_amN i c n (k + 1) := rfl
set_option maxRecDepth 20000 in
/-- j_canE -/
theorem j_canE {X9 : rj_X} {σ : rj_H} {d : Nat} {a : Int} (ha : 0 ≤ a ∧ a < 256) : rj_Cl X9 d yJ1_canEncode_9a6ad cJ1_canEncode_9a6ad 1 (some .boolean) [rj_i a] σ (fun w9 τ => w9 = some (rj_i 1) ∧ τ = σ) := by
  refine go_call (by decide +kernel) (Nat.le_of_ble_eq_true rfl) ?_
  refine go_eq (pc' := 0) (lv' := [(0, rj_i a)]) (st' := []) rfl rfl rfl rfl ?_
  refine go_iload_n dJ1_canEncode_9a6ad_0 rfl 0 rfl ?_
  refine go_if_ltI (tgt := 15) (by omega) dJ1_canEncode_9a6ad_1 (by decide) (fun c_1 => ?_) (fun c_1 => ?_)
  · exact absurd c_1 (by omega)
  · refine go_iload_n dJ1_canEncode_9a6ad_4 rfl 0 rfl ?_
    refine go_sipush (v := Int32.ofInt 255) dJ1_canEncode_9a6ad_5 (by decide) ?_
    refine go_icmp_gtI (tgt := 15) (by omega) (by omega) dJ1_canEncode_9a6ad_8 (by decide) (fun c_8 => ?_) (fun c_8 => ?_)
    · exact absurd c_8 (by omega)
    · refine go_iconst (v := Int32.ofInt 1) dJ1_canEncode_9a6ad_11 rfl ?_
      refine go_goto (tgt := 16) dJ1_canEncode_9a6ad_12 (by decide) ?_
      refine go_retI rfl rfl ?_ dJ1_canEncode_9a6ad_16
      exact ⟨rfl, rfl⟩
set_option maxRecDepth 20000 in
/-- j_idxC -/
theorem j_idxC {X9 : rj_X} {σ : rj_H} {d : Nat} {i : Nat} (hi : i < 7) {a : Int} (ha : 0 ≤ a ∧ a < 256) : rj_Cl X9 d yJ1_indexOfChar_4cfef cJ1_indexOfChar_4cfef 6 (some .int) [.ref (rj_sv X9 i), rj_i a, rj_i 0, rj_i (rj_sl i : Int)] σ (fun w9 τ => w9 = some (rj_i (sp_am i a)) ∧ τ = σ) := by
  have hl := (rj_sc_b i hi).1
  refine go_call (by decide +kernel) (Nat.le_of_ble_eq_true rfl) ?_
  refine go_eq (pc' := 0) (lv' := [(0, .ref (rj_sv X9 i)), (1, rj_i a), (2, rj_i 0), (3, rj_i (rj_sl i : Int))]) (st' := []) rfl rfl rfl rfl ?_
  refine go_iload_n dJ1_indexOfChar_4cfef_0 rfl 1 rfl ?_
  refine go_i2bS ha dJ1_indexOfChar_4cfef_1 ?_
  refine go_istoreS (lv' := [(0, .ref (rj_sv X9 i)), (1, rj_i a), (2, rj_i 0), (3, rj_i (rj_sl i : Int)), (4, rj_i (rc_sb a))]) (by decide) rfl dJ1_indexOfChar_4cfef_2 ?_
  refine go_iload_n dJ1_indexOfChar_4cfef_4 rfl 2 rfl ?_
  refine go_istoreS (lv' := [(0, .ref (rj_sv X9 i)), (1, rj_i a), (2, rj_i 0), (3, rj_i (rj_sl i : Int)), (4, rj_i (rc_sb a)), (5, rj_i 0)]) (by decide) rfl dJ1_indexOfChar_4cfef_5 ?_
  obtain ⟨FT, hFT⟩ : ∃ FT, FT = sp_am i a := ⟨_, rfl⟩
  rw [← hFT]
  have loopx : ∀ (nx : Nat) (k : Nat), k + nx = rj_sl i → FT = sp_amN i a nx k → rj_Go X9 yJ1_indexOfChar_4cfef cJ1_indexOfChar_4cfef 6 (some .int) d (fun w9 τ => w9 = some (rj_i FT) ∧ τ = σ) 7 [(0, .ref (rj_sv X9 i)), (1, rj_i a), (2, rj_i 0), (3, rj_i (rj_sl i : Int)), (4, rj_i (rc_sb a)), (5, rj_i (k : Int))] [] σ := by
    intro nx
    induction nx with
    | zero =>
      intro k hk hF
      refine go_iload dJ1_indexOfChar_4cfef_7 5 rfl ?_
      refine go_iload_n dJ1_indexOfChar_4cfef_9 rfl 3 rfl ?_
      refine go_icmp_geI (tgt := 31) (by omega) (by omega) dJ1_indexOfChar_4cfef_10 (by decide) (fun c_10 => ?_) (fun c_10 => ?_)
      · refine go_iconst (v := Int32.ofInt (-1)) dJ1_indexOfChar_4cfef_31 rfl ?_
        refine go_retI rfl rfl ?_ dJ1_indexOfChar_4cfef_32
        exact ⟨rj_vi (by rw [hF]; rfl), rfl⟩
      · exact absurd c_10 (by omega)
    | succ nx ihx =>
      intro k hk hF
      have hc := (rj_sc_b i hi).2 k (by have := rj_sl_8 i hi; omega)
      have hb : (a < 128 ∧ rc_sb a = a) ∨ (128 ≤ a ∧ rc_sb a = a - 256) := by unfold rc_sb; split <;> omega
      refine go_iload dJ1_indexOfChar_4cfef_7 5 rfl ?_
      refine go_iload_n dJ1_indexOfChar_4cfef_9 rfl 3 rfl ?_
      refine go_icmp_geI (tgt := 31) (by omega) (by omega) dJ1_indexOfChar_4cfef_10 (by decide) (fun c_10 => ?_) (fun c_10 => ?_)
      · exact absurd c_10 (by omega)
      · refine go_aload_n dJ1_indexOfChar_4cfef_13 rfl 0 rfl ?_
        refine go_iload dJ1_indexOfChar_4cfef_14 5 rfl ?_
        refine go_sby hi (by omega) dJ1_indexOfChar_4cfef_16 ?_
        refine go_iload dJ1_indexOfChar_4cfef_17 4 rfl ?_
        refine go_icmp_neI (tgt := 25) (by omega) (by omega) dJ1_indexOfChar_4cfef_19 (by decide) (fun c_19 => ?_) (fun c_19 => ?_)
        · refine go_iincI (a := (k : Int)) (n := 1) (k0 := 5) (lv' := [(0, .ref (rj_sv X9 i)), (1, rj_i a), (2, rj_i 0), (3, rj_i (rj_sl i : Int)), (4, rj_i (rc_sb a)), (5, rj_i ((k : Int) + 1))]) rfl (by decide) rfl dJ1_indexOfChar_4cfef_25 ?_
          refine go_goto (tgt := 7) dJ1_indexOfChar_4cfef_28 (by decide) ?_
          exact go_eq rfl (lv' := [(0, .ref (rj_sv X9 i)), (1, rj_i a), (2, rj_i 0), (3, rj_i (rj_sl i : Int)), (4, rj_i (rc_sb a)), (5, rj_i ((k + 1 : Nat) : Int))]) (rj_lk (rj_lk (rj_lk (rj_lk (rj_lk (rj_lj (by omega) rfl)))))) rfl rfl (ihx (k + 1) (by omega) (by rw [hF, sp_amN, if_neg (by omega)]))
        · refine go_iload dJ1_indexOfChar_4cfef_22 5 rfl ?_
          refine go_retI rfl rfl ?_ dJ1_indexOfChar_4cfef_24
          exact ⟨rj_vi (by rw [hF, sp_amN, if_pos (by omega)]), rfl⟩
  exact go_eq rfl (lv' := [(0, .ref (rj_sv X9 i)), (1, rj_i a), (2, rj_i 0), (3, rj_i (rj_sl i : Int)), (4, rj_i (rc_sb a)), (5, rj_i ((0 : Nat) : Int))]) (rj_lk (rj_lk (rj_lk (rj_lk (rj_lk (rj_lj (rfl) rfl)))))) rfl rfl (loopx (rj_sl i) 0 (by omega) hFT)
set_option maxRecDepth 20000 in
/-- j_idxL -/
theorem j_idxL {X9 : rj_X} {σ : rj_H} {d : Nat} {i : Nat} (hi : i < 7) {a : Int} (hd : 1 ≤ d) (ha : 0 ≤ a ∧ a < 256) (h0 : 1 ≤ rj_sl i) : rj_Cl X9 d yJ1_indexOf_4cfef cJ1_indexOf_4cfef 4 (some .int) [.ref (rj_sv X9 i), rj_i a, rj_i 0, rj_i (rj_sl i : Int)] σ (fun w9 τ => w9 = some (rj_i (sp_am i a)) ∧ τ = σ) := by
  have hl := (rj_sc_b i hi).1
  refine go_call (by decide +kernel) (Nat.le_of_ble_eq_true rfl) ?_
  refine go_eq (pc' := 0) (lv' := [(0, .ref (rj_sv X9 i)), (1, rj_i a), (2, rj_i 0), (3, rj_i (rj_sl i : Int))]) (st' := []) rfl rfl rfl rfl ?_
  refine go_iload_n dJ1_indexOf_4cfef_0 rfl 1 rfl ?_
  refine go_callS (d1 := d - 1) wSJ1_88 rfl (by omega) (j_canE ha) rfl (Nat.le_of_ble_eq_true rfl) dJ1_indexOf_4cfef_1 (fun w σ1 hP => ?_)
  obtain ⟨rfl, rfl⟩ := hP
  refine go_if_neI (tgt := 9) (by omega) dJ1_indexOf_4cfef_4 (by decide) (fun c_4 => ?_) (fun c_4 => ?_)
  · refine go_iload_n dJ1_indexOf_4cfef_9 rfl 2 rfl ?_
    refine go_iconst (v := Int32.ofInt 0) dJ1_indexOf_4cfef_10 rfl ?_
    refine go_mmax (a := 0) (b := 0) (by omega) (by omega) wSJ1_92 (by omega) (Nat.le_of_ble_eq_true rfl) dJ1_indexOf_4cfef_11 ?_
    rw [show (if (0 : Int) < (0 : Int) then (0 : Int) else (0 : Int)) = (0 : Int) from if_neg (by omega)]
    refine go_istore_nS (lv' := [(0, .ref (rj_sv X9 i)), (1, rj_i a), (2, rj_i 0), (3, rj_i (rj_sl i : Int))]) rfl (by decide) rfl dJ1_indexOf_4cfef_14 ?_
    refine go_iload_n dJ1_indexOf_4cfef_15 rfl 3 rfl ?_
    refine go_aload_n dJ1_indexOf_4cfef_16 rfl 0 rfl ?_
    refine go_sle hi dJ1_indexOf_4cfef_17 ?_
    refine go_mmin (a := (rj_sl i : Int)) (b := (rj_sl i : Int)) (by omega) (by omega) wSJ1_38 (by omega) (Nat.le_of_ble_eq_true rfl) dJ1_indexOf_4cfef_18 ?_
    rw [show (if (rj_sl i : Int) < (rj_sl i : Int) then (rj_sl i : Int) else (rj_sl i : Int)) = (rj_sl i : Int) from if_neg (by omega)]
    refine go_istore_nS (lv' := [(0, .ref (rj_sv X9 i)), (1, rj_i a), (2, rj_i 0), (3, rj_i (rj_sl i : Int))]) rfl (by decide) rfl dJ1_indexOf_4cfef_21 ?_
    refine go_iload_n dJ1_indexOf_4cfef_22 rfl 2 rfl ?_
    refine go_iload_n dJ1_indexOf_4cfef_23 rfl 3 rfl ?_
    refine go_icmp_ltI (tgt := 29) (by omega) (by omega) dJ1_indexOf_4cfef_24 (by decide) (fun c_24 => ?_) (fun c_24 => ?_)
    · refine go_aload_n dJ1_indexOf_4cfef_29 rfl 0 rfl ?_
      refine go_iload_n dJ1_indexOf_4cfef_30 rfl 1 rfl ?_
      refine go_iload_n dJ1_indexOf_4cfef_31 rfl 2 rfl ?_
      refine go_iload_n dJ1_indexOf_4cfef_32 rfl 3 rfl ?_
      refine go_callS (d1 := d - 1) wSJ1_95 rfl (by omega) (j_idxC hi ha) rfl (Nat.le_of_ble_eq_true rfl) dJ1_indexOf_4cfef_33 (fun w σ1 hP => ?_)
      obtain ⟨rfl, rfl⟩ := hP
      refine go_retI rfl rfl ?_ dJ1_indexOf_4cfef_36
      exact ⟨rj_vi (rfl), rfl⟩
    · exact absurd c_24 (by omega)
  · exact absurd c_4 (by omega)
set_option maxRecDepth 20000 in
/-- j_idx2 -/
theorem j_idx2 {X9 : rj_X} {σ : rj_H} {d : Nat} {i : Nat} (hi : i < 7) {a : Int} (hd : 2 ≤ d) (ha : 0 ≤ a ∧ a < 256) (h0 : 1 ≤ rj_sl i) : rj_Cl X9 d yJ0_indexOf_7cf53 cJ0_indexOf_7cf53 3 (some .int) [.ref (rj_sk X9 i), rj_i a, rj_i 0] σ (fun w9 τ => w9 = some (rj_i (sp_am i a)) ∧ τ = σ) := by
  have hl := (rj_sc_b i hi).1
  refine go_call (by decide +kernel) (Nat.le_of_ble_eq_true rfl) ?_
  refine go_eq (pc' := 0) (lv' := [(0, .ref (rj_sk X9 i)), (1, rj_i a), (2, rj_i 0)]) (st' := []) rfl rfl rfl rfl ?_
  refine go_aload_n dJ0_indexOf_7cf53_0 rfl 0 rfl ?_
  refine go_callVS (d1 := d - 1) wVJ0_492 rfl hi rfl (by omega) (j_lat hi) rfl (Nat.le_of_ble_eq_true rfl) dJ0_indexOf_7cf53_1 (fun w σ1 hP => ?_)
  obtain ⟨rfl, rfl⟩ := hP
  refine go_if_eqI (tgt := 23) (by omega) dJ0_indexOf_7cf53_4 (by decide) (fun c_4 => ?_) (fun c_4 => ?_)
  · exact absurd c_4 (by omega)
  · refine go_aload_n dJ0_indexOf_7cf53_7 rfl 0 rfl ?_
    refine go_sva hi rj_fv0 dJ0_indexOf_7cf53_8 ?_
    refine go_iload_n dJ0_indexOf_7cf53_11 rfl 1 rfl ?_
    refine go_iload_n dJ0_indexOf_7cf53_12 rfl 2 rfl ?_
    refine go_aload_n dJ0_indexOf_7cf53_13 rfl 0 rfl ?_
    refine go_callVS (d1 := d - 1) wVJ0_505 rfl hi rfl (by omega) (j_length hi (by omega)) rfl (Nat.le_of_ble_eq_true rfl) dJ0_indexOf_7cf53_14 (fun w σ1 hP => ?_)
    obtain ⟨rfl, rfl⟩ := hP
    refine go_callS (d1 := d - 1) wSJ0_637 rfl (by omega) (j_idxL hi (by omega) ha h0) rfl (Nat.le_of_ble_eq_true rfl) dJ0_indexOf_7cf53_17 (fun w σ1 hP => ?_)
    obtain ⟨rfl, rfl⟩ := hP
    refine go_goto (tgt := 36) dJ0_indexOf_7cf53_20 (by decide) ?_
    refine go_retI rfl rfl ?_ dJ0_indexOf_7cf53_36
    exact ⟨rj_vi (rfl), rfl⟩
set_option maxRecDepth 20000 in
/-- j_idx -/
theorem j_idx {X9 : rj_X} {σ : rj_H} {d : Nat} {i : Nat} (hi : i < 7) {a : Int} (hd : 3 ≤ d) (ha : 0 ≤ a ∧ a < 256) (h0 : 1 ≤ rj_sl i) : rj_Cl X9 d yJ0_indexOf_0f7a4 cJ0_indexOf_0f7a4 2 (some .int) [.ref (rj_sk X9 i), rj_i a] σ (fun w9 τ => w9 = some (rj_i (sp_am i a)) ∧ τ = σ) := by
  have hl := (rj_sc_b i hi).1
  refine go_call (by decide +kernel) (Nat.le_of_ble_eq_true rfl) ?_
  refine go_eq (pc' := 0) (lv' := [(0, .ref (rj_sk X9 i)), (1, rj_i a)]) (st' := []) rfl rfl rfl rfl ?_
  refine go_aload_n dJ0_indexOf_0f7a4_0 rfl 0 rfl ?_
  refine go_iload_n dJ0_indexOf_0f7a4_1 rfl 1 rfl ?_
  refine go_iconst (v := Int32.ofInt 0) dJ0_indexOf_0f7a4_2 rfl ?_
  refine go_callVS (d1 := d - 1) wVJ0_633 rfl hi rfl (by omega) (j_idx2 hi (by omega) ha h0) rfl (Nat.le_of_ble_eq_true rfl) dJ0_indexOf_0f7a4_3 (fun w σ1 hP => ?_)
  obtain ⟨rfl, rfl⟩ := hP
  refine go_retI rfl rfl ?_ dJ0_indexOf_0f7a4_6
  exact ⟨rj_vi (rfl), rfl⟩
