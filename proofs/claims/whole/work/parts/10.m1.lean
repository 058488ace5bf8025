/-! THE REFERENCE, 1: leaves -/
theorem rj_vi {a b : Int} (h : a = b) : some (rj_i a) = some (rj_i b) := by rw [h]
/-- |v| -/
def rj_abs (v : Int) : Int := if v < 0 then -v else v
set_option maxRecDepth 20000 in
/-- m_in -/
theorem m_in {X9 : rj_X} {σ : rj_H} {d : Nat} {v lo hi : Int} (hv : -2147483648 ≤ v ∧ v < 2147483648) (hlo : -2147483648 ≤ lo ∧ lo < 2147483648) (hhi : -2147483648 ≤ hi ∧ hi < 2147483648) : rj_Cl X9 d yX12_in cX12_in 3 (some .boolean) [rj_i v, rj_i lo, rj_i hi] σ (fun w9 τ => w9 = some (rj_i (rj_b (lo ≤ v ∧ v ≤ hi))) ∧ τ = σ) := by
  refine go_call (by decide +kernel) (Nat.le_of_ble_eq_true rfl) ?_
  refine go_eq (pc' := 0) (lv' := [(0, rj_i v), (1, rj_i lo), (2, rj_i hi)]) (st' := []) rfl rfl rfl rfl ?_
  refine go_iload_n dX12_in_0 rfl 0 rfl ?_
  refine go_iload_n dX12_in_1 rfl 1 rfl ?_
  refine go_icmp_ltI (tgt := 14) (by omega) (by omega) dX12_in_2 (by decide) (fun c_2 => ?_) (fun c_2 => ?_)
  · refine go_iconst (v := Int32.ofInt 0) dX12_in_14 rfl ?_
    refine go_retI rfl (rj_n01 (by decide)) ?_ dX12_in_15
    exact ⟨rj_vi (rj_bf (by omega)).symm, rfl⟩
  · refine go_iload_n dX12_in_5 rfl 0 rfl ?_
    refine go_iload_n dX12_in_6 rfl 2 rfl ?_
    refine go_icmp_gtI (tgt := 14) (by omega) (by omega) dX12_in_7 (by decide) (fun c_7 => ?_) (fun c_7 => ?_)
    · refine go_iconst (v := Int32.ofInt 0) dX12_in_14 rfl ?_
      refine go_retI rfl (rj_n01 (by decide)) ?_ dX12_in_15
      exact ⟨rj_vi (rj_bf (by omega)).symm, rfl⟩
    · refine go_iconst (v := Int32.ofInt 1) dX12_in_10 rfl ?_
      refine go_goto (tgt := 15) dX12_in_11 (by decide) ?_
      refine go_retI rfl (rj_n01 (by decide)) ?_ dX12_in_15
      exact ⟨rj_vi (rj_bt (by omega)).symm, rfl⟩
set_option maxRecDepth 20000 in
/-- m_size -/
theorem m_size {X9 : rj_X} {σ : rj_H} {d : Nat} {v : Int} (hv : -2147483648 ≤ v ∧ v < 2147483648) : rj_Cl X9 d yX12_size cX12_size 1 (some .int) [rj_i v] σ (fun w9 τ => w9 = some (rj_i (rj_abs v)) ∧ τ = σ) := by
  refine go_call (by decide +kernel) (Nat.le_of_ble_eq_true rfl) ?_
  refine go_eq (pc' := 0) (lv' := [(0, rj_i v)]) (st' := []) rfl rfl rfl rfl ?_
  refine go_iload_n dX12_size_0 rfl 0 rfl ?_
  refine go_if_geI (tgt := 9) (by omega) dX12_size_1 (by decide) (fun c_1 => ?_) (fun c_1 => ?_)
  · refine go_iload_n dX12_size_9 rfl 0 rfl ?_
    refine go_retI rfl rfl ?_ dX12_size_10
    exact ⟨rj_vi (by unfold rj_abs; split <;> omega), rfl⟩
  · refine go_iload_n dX12_size_4 rfl 0 rfl ?_
    refine go_negI dX12_size_5 ?_
    refine go_goto (tgt := 10) dX12_size_6 (by decide) ?_
    refine go_retI rfl rfl ?_ dX12_size_10
    exact ⟨rj_vi (by unfold rj_abs; split <;> omega), rfl⟩
set_option maxRecDepth 20000 in
/-- m_isMirror -/
theorem m_isMirror {X9 : rj_X} {σ : rj_H} {d : Nat} {mb : Nat} {r : rm_R} {m : Int} (hd : 1 ≤ d) (hm : -2147483648 ≤ m ∧ m < 2147483648) {s : Int → Int} (hs : r 1 = s) (h0 : 0 ≤ s 0 ∧ s 0 ≤ 6) : rj_Cl X9 d yX12_isMirror cX12_isMirror 2 (some .boolean) [.ref mb, rj_i m] (rm_p X9 mb r σ) (fun w9 τ => w9 = some (rj_i (rj_b (0 ≤ m ∧ m < s 0))) ∧ τ = (rm_p X9 mb r σ)) := by
  refine go_call (by decide +kernel) (Nat.le_of_ble_eq_true rfl) ?_
  refine go_eq (pc' := 0) (lv' := [(0, .ref mb), (1, rj_i m)]) (st' := []) rfl rfl rfl rfl ?_
  refine go_iload_n dX12_isMirror_0 rfl 1 rfl ?_
  refine go_iconst (v := Int32.ofInt 0) dX12_isMirror_1 rfl ?_
  refine go_aload_n dX12_isMirror_2 rfl 0 rfl ?_
  refine grm_g1 rfl dX12_isMirror_3 ?_
  refine go_iconst (v := Int32.ofInt 0) dX12_isMirror_6 rfl ?_
  refine grm_l1 (by omega) (by omega) dX12_isMirror_7 ?_
  rw [show r 1 = s from hs]
  refine go_iconst (v := Int32.ofInt 1) dX12_isMirror_8 rfl ?_
  refine go_subI dX12_isMirror_9 ?_
  refine go_callS (d1 := d - 1) wSX12_47 rfl (by omega) (m_in (v := m) (lo := 0) (hi := (s 0) - 1) (by omega) (by omega) (by omega)) rfl (Nat.le_of_ble_eq_true rfl) dX12_isMirror_10 (fun w σ1 hP => ?_)
  obtain ⟨rfl, rfl⟩ := hP
  refine go_retI rfl (rj_nb _) ?_ dX12_isMirror_13
  exact ⟨rj_vi (rj_bc (by omega)), rfl⟩
set_option maxRecDepth 20000 in
/-- m_isPatch -/
theorem m_isPatch {X9 : rj_X} {σ : rj_H} {d : Nat} {mb : Nat} {r : rm_R} {p : Int} (hd : 1 ≤ d) (hp : -2147483648 ≤ p ∧ p < 2147483648) {s : Int → Int} (hs : r 1 = s) (h1 : 0 ≤ s 1 ∧ s 1 ≤ 6) : rj_Cl X9 d yX12_isPatch cX12_isPatch 2 (some .boolean) [.ref mb, rj_i p] (rm_p X9 mb r σ) (fun w9 τ => w9 = some (rj_i (rj_b (0 ≤ p ∧ p < s 1))) ∧ τ = (rm_p X9 mb r σ)) := by
  refine go_call (by decide +kernel) (Nat.le_of_ble_eq_true rfl) ?_
  refine go_eq (pc' := 0) (lv' := [(0, .ref mb), (1, rj_i p)]) (st' := []) rfl rfl rfl rfl ?_
  refine go_iload_n dX12_isPatch_0 rfl 1 rfl ?_
  refine go_iconst (v := Int32.ofInt 0) dX12_isPatch_1 rfl ?_
  refine go_aload_n dX12_isPatch_2 rfl 0 rfl ?_
  refine grm_g1 rfl dX12_isPatch_3 ?_
  refine go_iconst (v := Int32.ofInt 1) dX12_isPatch_6 rfl ?_
  refine grm_l1 (by omega) (by omega) dX12_isPatch_7 ?_
  rw [show r 1 = s from hs]
  refine go_iconst (v := Int32.ofInt 1) dX12_isPatch_8 rfl ?_
  refine go_subI dX12_isPatch_9 ?_
  refine go_callS (d1 := d - 1) wSX12_47 rfl (by omega) (m_in (v := p) (lo := 0) (hi := (s 1) - 1) (by omega) (by omega) (by omega)) rfl (Nat.le_of_ble_eq_true rfl) dX12_isPatch_10 (fun w σ1 hP => ?_)
  obtain ⟨rfl, rfl⟩ := hP
  refine go_retI rfl (rj_nb _) ?_ dX12_isPatch_13
  exact ⟨rj_vi (rj_bc (by omega)), rfl⟩
set_option maxRecDepth 20000 in
/-- m_isQuarter -/
theorem m_isQuarter {X9 : rj_X} {σ : rj_H} {d : Nat} {q : Int} (hd : 1 ≤ d) (hq : -2147483648 ≤ q ∧ q < 2147483648) : rj_Cl X9 d yX12_isQuarter cX12_isQuarter 1 (some .boolean) [rj_i q] σ (fun w9 τ => w9 = some (rj_i (rj_b (0 ≤ q ∧ q < 8))) ∧ τ = σ) := by
  refine go_call (by decide +kernel) (Nat.le_of_ble_eq_true rfl) ?_
  refine go_eq (pc' := 0) (lv' := [(0, rj_i q)]) (st' := []) rfl rfl rfl rfl ?_
  refine go_iload_n dX12_isQuarter_0 rfl 0 rfl ?_
  refine go_iconst (v := Int32.ofInt 0) dX12_isQuarter_1 rfl ?_
  refine go_bipush (v := Int32.ofInt 7) dX12_isQuarter_2 (by decide) ?_
  refine go_callS (d1 := d - 1) wSX12_47 rfl (by omega) (m_in (v := q) (lo := 0) (hi := 7) (by omega) (by omega) (by omega)) rfl (Nat.le_of_ble_eq_true rfl) dX12_isQuarter_4 (fun w σ1 hP => ?_)
  obtain ⟨rfl, rfl⟩ := hP
  refine go_retI rfl (rj_nb _) ?_ dX12_isQuarter_7
  exact ⟨rj_vi (rj_bc (by omega)), rfl⟩
set_option maxRecDepth 20000 in
/-- m_isAt -/
theorem m_isAt {X9 : rj_X} {σ : rj_H} {d : Nat} {a : Int} (hd : 1 ≤ d) (ha : -2147483648 ≤ a ∧ a < 2147483648) : rj_Cl X9 d yX12_isAt cX12_isAt 1 (some .boolean) [rj_i a] σ (fun w9 τ => w9 = some (rj_i (rj_b (0 ≤ a ∧ a ≤ 4040 ∧ a % 100 ≤ 40))) ∧ τ = σ) := by
  refine go_call (by decide +kernel) (Nat.le_of_ble_eq_true rfl) ?_
  refine go_eq (pc' := 0) (lv' := [(0, rj_i a)]) (st' := []) rfl rfl rfl rfl ?_
  refine go_iload_n dX12_isAt_0 rfl 0 rfl ?_
  refine go_iconst (v := Int32.ofInt 0) dX12_isAt_1 rfl ?_
  refine go_sipush (v := Int32.ofInt 4040) dX12_isAt_2 (by decide) ?_
  refine go_callS (d1 := d - 1) wSX12_47 rfl (by omega) (m_in (v := a) (lo := 0) (hi := 4040) (by omega) (by omega) (by omega)) rfl (Nat.le_of_ble_eq_true rfl) dX12_isAt_5 (fun w σ1 hP => ?_)
  obtain ⟨rfl, rfl⟩ := hP
  refine go_if_eqB (tgt := 24) dX12_isAt_8 (by decide) (fun c_8 => ?_) (fun c_8 => ?_)
  · refine go_iconst (v := Int32.ofInt 0) dX12_isAt_24 rfl ?_
    refine go_retI rfl (rj_n01 (by decide)) ?_ dX12_isAt_25
    exact ⟨rj_vi (rj_bf (by omega)).symm, rfl⟩
  · refine go_iload_n dX12_isAt_11 rfl 0 rfl ?_
    refine go_bipush (v := Int32.ofInt 100) dX12_isAt_12 (by decide) ?_
    refine go_remI (by omega) (by omega) dX12_isAt_14 ?_
    refine go_bipush (v := Int32.ofInt 40) dX12_isAt_15 (by decide) ?_
    refine go_icmp_gtI (tgt := 24) (by omega) (by omega) dX12_isAt_17 (by decide) (fun c_17 => ?_) (fun c_17 => ?_)
    · refine go_iconst (v := Int32.ofInt 0) dX12_isAt_24 rfl ?_
      refine go_retI rfl (rj_n01 (by decide)) ?_ dX12_isAt_25
      exact ⟨rj_vi (rj_bf (by omega)).symm, rfl⟩
    · refine go_iconst (v := Int32.ofInt 1) dX12_isAt_20 rfl ?_
      refine go_goto (tgt := 25) dX12_isAt_21 (by decide) ?_
      refine go_retI rfl (rj_n01 (by decide)) ?_ dX12_isAt_25
      exact ⟨rj_vi (rj_bt (by omega)).symm, rfl⟩
/-- what of() and is() answer -/
def sp_of (s : Int → Int) (m k : Int) : Int := if (0 ≤ m ∧ m < s 0) ∧ 0 ≤ k ∧ k ≤ 6 then s (130 + 6 * k + m) else -1
def sp_is (s : Int → Int) (p k : Int) : Int := if (0 ≤ p ∧ p < s 1) ∧ 0 ≤ k ∧ k ≤ 3 then s (172 + 6 * k + p) else -1
set_option maxRecDepth 20000 in
/-- m_of -/
theorem m_of {X9 : rj_X} {σ : rj_H} {d : Nat} {mb : Nat} {r : rm_R} {m k : Int} (hd : 2 ≤ d) (hm : -2147483648 ≤ m ∧ m < 2147483648) (hk : -2147483648 ≤ k ∧ k < 2147483648) {s : Int → Int} (hs : r 1 = s) (h0 : 0 ≤ s 0 ∧ s 0 ≤ 6) : rj_Cl X9 d yX12_of cX12_of 3 (some .int) [.ref mb, rj_i m, rj_i k] (rm_p X9 mb r σ) (fun w9 τ => w9 = some (rj_i (sp_of s m k)) ∧ τ = (rm_p X9 mb r σ)) := by
  refine go_call (by decide +kernel) (Nat.le_of_ble_eq_true rfl) ?_
  refine go_eq (pc' := 0) (lv' := [(0, .ref mb), (1, rj_i m), (2, rj_i k)]) (st' := []) rfl rfl rfl rfl ?_
  refine go_aload_n dX12_of_0 rfl 0 rfl ?_
  refine go_iload_n dX12_of_1 rfl 1 rfl ?_
  refine go_callV (d1 := d - 1) wVX12_56 kX12 rm_ob rfl (by omega) (m_isMirror (m := m) (by omega) (by omega) (hs := (show r 1 = s from hs)) (by omega)) rfl (Nat.le_of_ble_eq_true rfl) dX12_of_2 (fun w σ1 hP => ?_)
  obtain ⟨rfl, rfl⟩ := hP
  refine go_if_eqB (tgt := 36) dX12_of_5 (by decide) (fun c_5 => ?_) (fun c_5 => ?_)
  · refine go_iconst (v := Int32.ofInt (-1)) dX12_of_36 rfl ?_
    refine go_retI rfl rfl ?_ dX12_of_37
    exact ⟨rj_vi (by unfold sp_of; rw [if_neg (by omega)]), rfl⟩
  · refine go_iload_n dX12_of_8 rfl 2 rfl ?_
    refine go_iconst (v := Int32.ofInt 0) dX12_of_9 rfl ?_
    refine go_bipush (v := Int32.ofInt 6) dX12_of_10 (by decide) ?_
    refine go_callS (d1 := d - 1) wSX12_47 rfl (by omega) (m_in (v := k) (lo := 0) (hi := 6) (by omega) (by omega) (by omega)) rfl (Nat.le_of_ble_eq_true rfl) dX12_of_12 (fun w σ1 hP => ?_)
    obtain ⟨rfl, rfl⟩ := hP
    refine go_if_eqB (tgt := 36) dX12_of_15 (by decide) (fun c_15 => ?_) (fun c_15 => ?_)
    · refine go_iconst (v := Int32.ofInt (-1)) dX12_of_36 rfl ?_
      refine go_retI rfl rfl ?_ dX12_of_37
      exact ⟨rj_vi (by unfold sp_of; rw [if_neg (by omega)]), rfl⟩
    · refine go_aload_n dX12_of_18 rfl 0 rfl ?_
      refine grm_g1 rfl dX12_of_19 ?_
      refine go_sipush (v := Int32.ofInt 130) dX12_of_22 (by decide) ?_
      refine go_bipush (v := Int32.ofInt 6) dX12_of_25 (by decide) ?_
      refine go_iload_n dX12_of_27 rfl 2 rfl ?_
      refine go_mulI dX12_of_28 ?_
      refine go_addI dX12_of_29 ?_
      refine go_iload_n dX12_of_30 rfl 1 rfl ?_
      refine go_addI dX12_of_31 ?_
      refine grm_l1 (by omega) (by omega) dX12_of_32 ?_
      rw [show r 1 = s from hs]
      refine go_goto (tgt := 37) dX12_of_33 (by decide) ?_
      refine go_retI rfl rfl ?_ dX12_of_37
      exact ⟨rj_vi (by unfold sp_of; rw [if_pos (by omega)]), rfl⟩
set_option maxRecDepth 20000 in
/-- m_is -/
theorem m_is {X9 : rj_X} {σ : rj_H} {d : Nat} {mb : Nat} {r : rm_R} {p k : Int} (hd : 2 ≤ d) (hp : -2147483648 ≤ p ∧ p < 2147483648) (hk : -2147483648 ≤ k ∧ k < 2147483648) {s : Int → Int} (hs : r 1 = s) (h1 : 0 ≤ s 1 ∧ s 1 ≤ 6) : rj_Cl X9 d yX12_is cX12_is 3 (some .int) [.ref mb, rj_i p, rj_i k] (rm_p X9 mb r σ) (fun w9 τ => w9 = some (rj_i (sp_is s p k)) ∧ τ = (rm_p X9 mb r σ)) := by
  refine go_call (by decide +kernel) (Nat.le_of_ble_eq_true rfl) ?_
  refine go_eq (pc' := 0) (lv' := [(0, .ref mb), (1, rj_i p), (2, rj_i k)]) (st' := []) rfl rfl rfl rfl ?_
  refine go_aload_n dX12_is_0 rfl 0 rfl ?_
  refine go_iload_n dX12_is_1 rfl 1 rfl ?_
  refine go_callV (d1 := d - 1) wVX12_59 kX12 rm_ob rfl (by omega) (m_isPatch (p := p) (by omega) (by omega) (hs := (show r 1 = s from hs)) (by omega)) rfl (Nat.le_of_ble_eq_true rfl) dX12_is_2 (fun w σ1 hP => ?_)
  obtain ⟨rfl, rfl⟩ := hP
  refine go_if_eqB (tgt := 35) dX12_is_5 (by decide) (fun c_5 => ?_) (fun c_5 => ?_)
  · refine go_iconst (v := Int32.ofInt (-1)) dX12_is_35 rfl ?_
    refine go_retI rfl rfl ?_ dX12_is_36
    exact ⟨rj_vi (by unfold sp_is; rw [if_neg (by omega)]), rfl⟩
  · refine go_iload_n dX12_is_8 rfl 2 rfl ?_
    refine go_iconst (v := Int32.ofInt 0) dX12_is_9 rfl ?_
    refine go_iconst (v := Int32.ofInt 3) dX12_is_10 rfl ?_
    refine go_callS (d1 := d - 1) wSX12_47 rfl (by omega) (m_in (v := k) (lo := 0) (hi := 3) (by omega) (by omega) (by omega)) rfl (Nat.le_of_ble_eq_true rfl) dX12_is_11 (fun w σ1 hP => ?_)
    obtain ⟨rfl, rfl⟩ := hP
    refine go_if_eqB (tgt := 35) dX12_is_14 (by decide) (fun c_14 => ?_) (fun c_14 => ?_)
    · refine go_iconst (v := Int32.ofInt (-1)) dX12_is_35 rfl ?_
      refine go_retI rfl rfl ?_ dX12_is_36
      exact ⟨rj_vi (by unfold sp_is; rw [if_neg (by omega)]), rfl⟩
    · refine go_aload_n dX12_is_17 rfl 0 rfl ?_
      refine grm_g1 rfl dX12_is_18 ?_
      refine go_sipush (v := Int32.ofInt 172) dX12_is_21 (by decide) ?_
      refine go_bipush (v := Int32.ofInt 6) dX12_is_24 (by decide) ?_
      refine go_iload_n dX12_is_26 rfl 2 rfl ?_
      refine go_mulI dX12_is_27 ?_
      refine go_addI dX12_is_28 ?_
      refine go_iload_n dX12_is_29 rfl 1 rfl ?_
      refine go_addI dX12_is_30 ?_
      refine grm_l1 (by omega) (by omega) dX12_is_31 ?_
      rw [show r 1 = s from hs]
      refine go_goto (tgt := 36) dX12_is_32 (by decide) ?_
      refine go_retI rfl rfl ?_ dX12_is_36
      exact ⟨rj_vi (by unfold sp_is; rw [if_pos (by omega)]), rfl⟩
def sp_tells (s : Int → Int) (w n : Int) : Int := if s 7 = -1 then n else s (w + s 7)
set_option maxRecDepth 20000 in
/-- m_tellsOf -/
theorem m_tellsOf {X9 : rj_X} {σ : rj_H} {d : Nat} {mb : Nat} {r : rm_R} {w n : Int} (hw : 0 ≤ w ∧ w ≤ 1000) (hn : -2147483648 ≤ n ∧ n < 2147483648) {s : Int → Int} (hs : r 1 = s) (h7 : -1 ≤ s 7 ∧ s 7 ≤ 4) : rj_Cl X9 d yX12_tellsOf cX12_tellsOf 3 (some .int) [.ref mb, rj_i w, rj_i n] (rm_p X9 mb r σ) (fun w9 τ => w9 = some (rj_i (sp_tells s w n)) ∧ τ = (rm_p X9 mb r σ)) := by
  refine go_call (by decide +kernel) (Nat.le_of_ble_eq_true rfl) ?_
  refine go_eq (pc' := 0) (lv' := [(0, .ref mb), (1, rj_i w), (2, rj_i n)]) (st' := []) rfl rfl rfl rfl ?_
  refine go_aload_n dX12_tellsOf_0 rfl 0 rfl ?_
  refine grm_g1 rfl dX12_tellsOf_1 ?_
  refine go_bipush (v := Int32.ofInt 7) dX12_tellsOf_4 (by decide) ?_
  refine grm_l1 (by omega) (by omega) dX12_tellsOf_6 ?_
  rw [show r 1 = s from hs]
  refine go_iconst (v := Int32.ofInt (-1)) dX12_tellsOf_7 rfl ?_
  refine go_icmp_neI (tgt := 15) (by omega) (by omega) dX12_tellsOf_8 (by decide) (fun c_8 => ?_) (fun c_8 => ?_)
  · refine go_aload_n dX12_tellsOf_15 rfl 0 rfl ?_
    refine grm_g1 rfl dX12_tellsOf_16 ?_
    refine go_iload_n dX12_tellsOf_19 rfl 1 rfl ?_
    refine go_aload_n dX12_tellsOf_20 rfl 0 rfl ?_
    refine grm_g1 rfl dX12_tellsOf_21 ?_
    refine go_bipush (v := Int32.ofInt 7) dX12_tellsOf_24 (by decide) ?_
    refine grm_l1 (by omega) (by omega) dX12_tellsOf_26 ?_
    rw [show r 1 = s from hs]
    refine go_addI dX12_tellsOf_27 ?_
    refine grm_l1 (by omega) (by omega) dX12_tellsOf_28 ?_
    rw [show r 1 = s from hs]
    refine go_retI rfl rfl ?_ dX12_tellsOf_29
    exact ⟨rj_vi (by unfold sp_tells; rw [if_neg (by omega)]), rfl⟩
  · refine go_iload_n dX12_tellsOf_11 rfl 2 rfl ?_
    refine go_goto (tgt := 29) dX12_tellsOf_12 (by decide) ?_
    refine go_retI rfl rfl ?_ dX12_tellsOf_29
    exact ⟨rj_vi (by unfold sp_tells; rw [if_pos (by omega)]), rfl⟩
def sp_light (s : Int → Int) (m : Int) : Int := if s (130 + m) = 4 then 2 * s (154 + m) else s (154 + m)
set_option maxRecDepth 20000 in
/-- m_lightOf -/
theorem m_lightOf {X9 : rj_X} {σ : rj_H} {d : Nat} {mb : Nat} {r : rm_R} {m : Int} (hm : 0 ≤ m ∧ m < 6) {s : Int → Int} (hs : r 1 = s) (hk : 0 ≤ s (130 + m) ∧ s (130 + m) ≤ 6) : rj_Cl X9 d yX12_lightOf cX12_lightOf 2 (some .int) [.ref mb, rj_i m] (rm_p X9 mb r σ) (fun w9 τ => w9 = some (rj_i (sp_light s m)) ∧ τ = (rm_p X9 mb r σ)) := by
  refine go_call (by decide +kernel) (Nat.le_of_ble_eq_true rfl) ?_
  refine go_eq (pc' := 0) (lv' := [(0, .ref mb), (1, rj_i m)]) (st' := []) rfl rfl rfl rfl ?_
  refine go_aload_n dX12_lightOf_0 rfl 0 rfl ?_
  refine grm_g1 rfl dX12_lightOf_1 ?_
  refine go_sipush (v := Int32.ofInt 130) dX12_lightOf_4 (by decide) ?_
  refine go_iload_n dX12_lightOf_7 rfl 1 rfl ?_
  refine go_addI dX12_lightOf_8 ?_
  refine grm_l1 (by omega) (by omega) dX12_lightOf_9 ?_
  rw [show r 1 = s from hs]
  refine go_iconst (v := Int32.ofInt 4) dX12_lightOf_10 rfl ?_
  refine go_icmp_neI (tgt := 29) (by omega) (by omega) dX12_lightOf_11 (by decide) (fun c_11 => ?_) (fun c_11 => ?_)
  · refine go_aload_n dX12_lightOf_29 rfl 0 rfl ?_
    refine grm_g1 rfl dX12_lightOf_30 ?_
    refine go_sipush (v := Int32.ofInt 154) dX12_lightOf_33 (by decide) ?_
    refine go_iload_n dX12_lightOf_36 rfl 1 rfl ?_
    refine go_addI dX12_lightOf_37 ?_
    refine grm_l1 (by omega) (by omega) dX12_lightOf_38 ?_
    rw [show r 1 = s from hs]
    refine go_retI rfl rfl ?_ dX12_lightOf_39
    exact ⟨rj_vi (by unfold sp_light; rw [if_neg (by omega)]), rfl⟩
  · refine go_iconst (v := Int32.ofInt 2) dX12_lightOf_14 rfl ?_
    refine go_aload_n dX12_lightOf_15 rfl 0 rfl ?_
    refine grm_g1 rfl dX12_lightOf_16 ?_
    refine go_sipush (v := Int32.ofInt 154) dX12_lightOf_19 (by decide) ?_
    refine go_iload_n dX12_lightOf_22 rfl 1 rfl ?_
    refine go_addI dX12_lightOf_23 ?_
    refine grm_l1 (by omega) (by omega) dX12_lightOf_24 ?_
    rw [show r 1 = s from hs]
    refine go_mulI dX12_lightOf_25 ?_
    refine go_goto (tgt := 39) dX12_lightOf_26 (by decide) ?_
    refine go_retI rfl rfl ?_ dX12_lightOf_39
    exact ⟨rj_vi (by unfold sp_light; rw [if_pos (by omega)]), rfl⟩
