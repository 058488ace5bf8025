/-! THE REFERENCE, 1: leaves -/
theorem rj_vi {a b : Int} (h : a = b) : some (rj_i a) = some (rj_i b) := by rw [h]
/-- |v| -/
def rj_abs (v : Int) : Int := if v < 0 then -v else v

set_option maxRecDepth 20000 in
/-- m_in -/
theorem m_in {X9 : rj_X} {σ : rj_H} {d : Nat} {v lo hi : Int} (hv : -2147483648 ≤ v ∧ v < 2147483648) (hlo : -2147483648 ≤ lo ∧ lo < 2147483648) (hhi : -2147483648 ≤ hi ∧ hi < 2147483648) : rj_Call X9 d yX12_in cX12_in 3 (some .boolean) [rj_i v, rj_i lo, rj_i hi] σ (some (rj_i (rj_b (lo ≤ v ∧ v ≤ hi)))) σ := by
  refine rj_call (by decide +kernel) (Nat.le_of_ble_eq_true rfl) ⟨Nat.le_refl _, Nat.le_refl _⟩ ?_
  refine rj_eq (pc' := 0) (lv' := [(0, rj_i v), (1, rj_i lo), (2, rj_i hi)]) (st' := []) rfl rfl rfl rfl ?_
  refine rj_iload_n dX12_in_0 rfl 0 rfl ?_
  refine rj_iload_n dX12_in_1 rfl 1 rfl ?_
  refine rj_icmp_ltI (tgt := 14) (by omega) (by omega) dX12_in_2 (by decide) (fun c_2 => ?_) (fun c_2 => ?_)
  · refine rj_iconst (v := Int32.ofInt 0) dX12_in_14 rfl ?_
    exact rj_retI rfl (rj_n01 (by decide)) (rj_vi (rj_bf (by omega))) rfl dX12_in_15
  · refine rj_iload_n dX12_in_5 rfl 0 rfl ?_
    refine rj_iload_n dX12_in_6 rfl 2 rfl ?_
    refine rj_icmp_gtI (tgt := 14) (by omega) (by omega) dX12_in_7 (by decide) (fun c_7 => ?_) (fun c_7 => ?_)
    · refine rj_iconst (v := Int32.ofInt 0) dX12_in_14 rfl ?_
      exact rj_retI rfl (rj_n01 (by decide)) (rj_vi (rj_bf (by omega))) rfl dX12_in_15
    · refine rj_iconst (v := Int32.ofInt 1) dX12_in_10 rfl ?_
      refine rj_goto (tgt := 15) dX12_in_11 (by decide) ?_
      exact rj_retI rfl (rj_n01 (by decide)) (rj_vi (rj_bt (by omega))) rfl dX12_in_15
set_option maxRecDepth 20000 in
/-- m_size -/
theorem m_size {X9 : rj_X} {σ : rj_H} {d : Nat} {v : Int} (hv : -2147483648 ≤ v ∧ v < 2147483648) : rj_Call X9 d yX12_size cX12_size 1 (some .int) [rj_i v] σ (some (rj_i (rj_abs v))) σ := by
  refine rj_call (by decide +kernel) (Nat.le_of_ble_eq_true rfl) ⟨Nat.le_refl _, Nat.le_refl _⟩ ?_
  refine rj_eq (pc' := 0) (lv' := [(0, rj_i v)]) (st' := []) rfl rfl rfl rfl ?_
  refine rj_iload_n dX12_size_0 rfl 0 rfl ?_
  refine rj_if_geI (tgt := 9) (by omega) dX12_size_1 (by decide) (fun c_1 => ?_) (fun c_1 => ?_)
  · refine rj_iload_n dX12_size_9 rfl 0 rfl ?_
    exact rj_retI rfl rfl (rj_vi (by unfold rj_abs; split <;> omega)) rfl dX12_size_10
  · refine rj_iload_n dX12_size_4 rfl 0 rfl ?_
    refine rj_negI dX12_size_5 ?_
    refine rj_goto (tgt := 10) dX12_size_6 (by decide) ?_
    exact rj_retI rfl rfl (rj_vi (by unfold rj_abs; split <;> omega)) rfl dX12_size_10
set_option maxRecDepth 20000 in
/-- m_isMirror -/
theorem m_isMirror {X9 : rj_X} {σ : rj_H} {d : Nat} {mb : Nat} {r : rm_R} {m : Int} (hd : 1 ≤ d) (hm : -2147483648 ≤ m ∧ m < 2147483648) (h0 : 0 ≤ r 1 0 ∧ r 1 0 ≤ 6) : rj_Call X9 d yX12_isMirror cX12_isMirror 2 (some .boolean) [.ref mb, rj_i m] (rm_p X9 mb r σ) (some (rj_i (rj_b (0 ≤ m ∧ m < r 1 0)))) (rm_p X9 mb r σ) := by
  refine rj_call (by decide +kernel) (Nat.le_of_ble_eq_true rfl) ⟨Nat.le_refl _, Nat.le_refl _⟩ ?_
  refine rj_eq (pc' := 0) (lv' := [(0, .ref mb), (1, rj_i m)]) (st' := []) rfl rfl rfl rfl ?_
  refine rj_iload_n dX12_isMirror_0 rfl 1 rfl ?_
  refine rj_iconst (v := Int32.ofInt 0) dX12_isMirror_1 rfl ?_
  refine rj_aload_n dX12_isMirror_2 rfl 0 rfl ?_
  refine rm_g1 rfl dX12_isMirror_3 ?_
  refine rj_iconst (v := Int32.ofInt 0) dX12_isMirror_6 rfl ?_
  refine rm_l1 (by omega) (by omega) dX12_isMirror_7 ?_
  refine rj_iconst (v := Int32.ofInt 1) dX12_isMirror_8 rfl ?_
  refine rj_subI dX12_isMirror_9 ?_
  refine rj_callS (d1 := d - 1) wSX12_47 rfl (by omega) (m_in (v := m) (lo := 0) (hi := (r 1 0) - 1) (by omega) (by omega) (by omega)) ⟨Nat.le_refl _, Nat.le_refl _⟩ rfl (Nat.le_of_ble_eq_true rfl) dX12_isMirror_10 ?_
  exact rj_retI rfl (rj_nb _) (rj_vi (rj_bc (by omega))) rfl dX12_isMirror_13
set_option maxRecDepth 20000 in
/-- m_isPatch -/
theorem m_isPatch {X9 : rj_X} {σ : rj_H} {d : Nat} {mb : Nat} {r : rm_R} {p : Int} (hd : 1 ≤ d) (hp : -2147483648 ≤ p ∧ p < 2147483648) (h1 : 0 ≤ r 1 1 ∧ r 1 1 ≤ 6) : rj_Call X9 d yX12_isPatch cX12_isPatch 2 (some .boolean) [.ref mb, rj_i p] (rm_p X9 mb r σ) (some (rj_i (rj_b (0 ≤ p ∧ p < r 1 1)))) (rm_p X9 mb r σ) := by
  refine rj_call (by decide +kernel) (Nat.le_of_ble_eq_true rfl) ⟨Nat.le_refl _, Nat.le_refl _⟩ ?_
  refine rj_eq (pc' := 0) (lv' := [(0, .ref mb), (1, rj_i p)]) (st' := []) rfl rfl rfl rfl ?_
  refine rj_iload_n dX12_isPatch_0 rfl 1 rfl ?_
  refine rj_iconst (v := Int32.ofInt 0) dX12_isPatch_1 rfl ?_
  refine rj_aload_n dX12_isPatch_2 rfl 0 rfl ?_
  refine rm_g1 rfl dX12_isPatch_3 ?_
  refine rj_iconst (v := Int32.ofInt 1) dX12_isPatch_6 rfl ?_
  refine rm_l1 (by omega) (by omega) dX12_isPatch_7 ?_
  refine rj_iconst (v := Int32.ofInt 1) dX12_isPatch_8 rfl ?_
  refine rj_subI dX12_isPatch_9 ?_
  refine rj_callS (d1 := d - 1) wSX12_47 rfl (by omega) (m_in (v := p) (lo := 0) (hi := (r 1 1) - 1) (by omega) (by omega) (by omega)) ⟨Nat.le_refl _, Nat.le_refl _⟩ rfl (Nat.le_of_ble_eq_true rfl) dX12_isPatch_10 ?_
  exact rj_retI rfl (rj_nb _) (rj_vi (rj_bc (by omega))) rfl dX12_isPatch_13
set_option maxRecDepth 20000 in
/-- m_isQuarter -/
theorem m_isQuarter {X9 : rj_X} {σ : rj_H} {d : Nat} {q : Int} (hd : 1 ≤ d) (hq : -2147483648 ≤ q ∧ q < 2147483648) : rj_Call X9 d yX12_isQuarter cX12_isQuarter 1 (some .boolean) [rj_i q] σ (some (rj_i (rj_b (0 ≤ q ∧ q < 8)))) σ := by
  refine rj_call (by decide +kernel) (Nat.le_of_ble_eq_true rfl) ⟨Nat.le_refl _, Nat.le_refl _⟩ ?_
  refine rj_eq (pc' := 0) (lv' := [(0, rj_i q)]) (st' := []) rfl rfl rfl rfl ?_
  refine rj_iload_n dX12_isQuarter_0 rfl 0 rfl ?_
  refine rj_iconst (v := Int32.ofInt 0) dX12_isQuarter_1 rfl ?_
  refine rj_bipush (v := Int32.ofInt 7) dX12_isQuarter_2 (by decide) ?_
  refine rj_callS (d1 := d - 1) wSX12_47 rfl (by omega) (m_in (v := q) (lo := 0) (hi := 7) (by omega) (by omega) (by omega)) ⟨Nat.le_refl _, Nat.le_refl _⟩ rfl (Nat.le_of_ble_eq_true rfl) dX12_isQuarter_4 ?_
  exact rj_retI rfl (rj_nb _) (rj_vi (rj_bc (by omega))) rfl dX12_isQuarter_7
set_option maxRecDepth 20000 in
/-- m_isAt -/
theorem m_isAt {X9 : rj_X} {σ : rj_H} {d : Nat} {a : Int} (hd : 1 ≤ d) (ha : -2147483648 ≤ a ∧ a < 2147483648) : rj_Call X9 d yX12_isAt cX12_isAt 1 (some .boolean) [rj_i a] σ (some (rj_i (rj_b (0 ≤ a ∧ a ≤ 4040 ∧ a % 100 ≤ 40)))) σ := by
  refine rj_call (by decide +kernel) (Nat.le_of_ble_eq_true rfl) ⟨Nat.le_refl _, Nat.le_refl _⟩ ?_
  refine rj_eq (pc' := 0) (lv' := [(0, rj_i a)]) (st' := []) rfl rfl rfl rfl ?_
  refine rj_iload_n dX12_isAt_0 rfl 0 rfl ?_
  refine rj_iconst (v := Int32.ofInt 0) dX12_isAt_1 rfl ?_
  refine rj_sipush (v := Int32.ofInt 4040) dX12_isAt_2 (by decide) ?_
  refine rj_callS (d1 := d - 1) wSX12_47 rfl (by omega) (m_in (v := a) (lo := 0) (hi := 4040) (by omega) (by omega) (by omega)) ⟨Nat.le_refl _, Nat.le_refl _⟩ rfl (Nat.le_of_ble_eq_true rfl) dX12_isAt_5 ?_
  refine rj_if_eqB (tgt := 24) dX12_isAt_8 (by decide) (fun c_8 => ?_) (fun c_8 => ?_)
  · refine rj_iconst (v := Int32.ofInt 0) dX12_isAt_24 rfl ?_
    exact rj_retI rfl (rj_n01 (by decide)) (rj_vi (rj_bf (by omega))) rfl dX12_isAt_25
  · refine rj_iload_n dX12_isAt_11 rfl 0 rfl ?_
    refine rj_bipush (v := Int32.ofInt 100) dX12_isAt_12 (by decide) ?_
    refine rj_remI (by omega) (by omega) dX12_isAt_14 ?_
    refine rj_bipush (v := Int32.ofInt 40) dX12_isAt_15 (by decide) ?_
    refine rj_icmp_gtI (tgt := 24) (by omega) (by omega) dX12_isAt_17 (by decide) (fun c_17 => ?_) (fun c_17 => ?_)
    · refine rj_iconst (v := Int32.ofInt 0) dX12_isAt_24 rfl ?_
      exact rj_retI rfl (rj_n01 (by decide)) (rj_vi (rj_bf (by omega))) rfl dX12_isAt_25
    · refine rj_iconst (v := Int32.ofInt 1) dX12_isAt_20 rfl ?_
      refine rj_goto (tgt := 25) dX12_isAt_21 (by decide) ?_
      exact rj_retI rfl (rj_n01 (by decide)) (rj_vi (rj_bt (by omega))) rfl dX12_isAt_25
