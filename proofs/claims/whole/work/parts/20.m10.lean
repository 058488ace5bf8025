/-! THE REFERENCE, 10: votes -/
def sp_IT (s : Int → Int) : Prop := ∀ k a : Int, 0 ≤ k → k < 5 → 0 ≤ a → a < 6 → 0 ≤ s (999 + 6 * k + a) ∧ s (999 + 6 * k + a) ≤ 5
def sp_vc (s : Int → Int) (a b k : Int) : Int := if s (999 + 6 * k + a) < s (999 + 6 * k + b) then 1 else 0
def sp_vn (s : Int → Int) (a b : Int) : Int := sp_sum (sp_vc s a b) (s 5).toNat
def sp_vb (s : Int → Int) (a b : Int) : Bool := decide (a ≠ b) && decide (s 5 < 2 * sp_vn s a b)
def sp_ve (s : Int → Int) (a b : Int) : Int := if sp_vb s a b = true then 1 else 0
def sp_ven (s : Int → Int) (a : Int) : Int := sp_sum (sp_ve s a) (s 1).toNat
def sp_vp (s : Int → Int) (p o : Int) : Int := if sp_ven s p < sp_ven s o ∨ sp_ven s o = sp_ven s p ∧ o < p then 1 else 0
def sp_vpo (s : Int → Int) (p : Int) : Int := sp_sum (sp_vp s p) (s 1).toNat
theorem sp_vn_b {s : Int → Int} {a b : Int} (h5 : 0 ≤ s 5 ∧ s 5 ≤ 5) : 0 ≤ sp_vn s a b ∧ sp_vn s a b ≤ 5 := by
  have h := sp_sum_b (f := sp_vc s a b) (B := 1) (N := (s 5).toNat) (fun k a b => by unfold sp_vc; split <;> omega) (s 5).toNat (Nat.le_refl _)
  unfold sp_vn; omega
theorem sp_ven_b {s : Int → Int} {a : Int} (h1 : 0 ≤ s 1 ∧ s 1 ≤ 6) : 0 ≤ sp_ven s a ∧ sp_ven s a ≤ 6 := by
  have h := sp_sum_b (f := sp_ve s a) (B := 1) (N := (s 1).toNat) (fun k a b => by unfold sp_ve; split <;> omega) (s 1).toNat (Nat.le_refl _)
  unfold sp_ven; omega
theorem sp_vpo_b {s : Int → Int} {p : Int} (h1 : 0 ≤ s 1 ∧ s 1 ≤ 6) : 0 ≤ sp_vpo s p ∧ sp_vpo s p ≤ 6 := by
  have h := sp_sum_b (f := sp_vp s p) (B := 1) (N := (s 1).toNat) (fun k a b => by unfold sp_vp; split <;> omega) (s 1).toNat (Nat.le_refl _)
  unfold sp_vpo; omega
theorem sp_sum_c {f g : Int → Int} : ∀ n : Nat, (∀ k : Int, 0 ≤ k → k < n → f k = g k) → sp_sum f n = sp_sum g n
  | 0, _ => rfl
  | n + 1, h => by rw [sp_sum, sp_sum, sp_sum_c n (fun k a b => h k a (by omega)), h n (by omega) (by omega)]
set_option maxRecDepth 20000 in
/-- m_doesBeat -/
theorem m_doesBeat {X9 : rj_X} {σ : rj_H} {d : Nat} {mb : Nat} {r : rm_R} {a b : Int} (ha : 0 ≤ a ∧ a < 6) (hb : 0 ≤ b ∧ b < 6) {s : Int → Int} (hs : r 1 = s) (h1 : 0 ≤ s 1 ∧ s 1 ≤ 6) (h5 : 0 ≤ s 5 ∧ s 5 ≤ 5) (hT : sp_IT s) : rj_Cl X9 d yX12_doesBeat cX12_doesBeat 5 (some .boolean) [.ref mb, rj_i a, rj_i b] (rm_p X9 mb r σ) (fun w9 τ => w9 = some (rj_i (rj_b (sp_vb s a b = true))) ∧ τ = (rm_p X9 mb r σ)) := by
  refine go_call (by decide +kernel) (Nat.le_of_ble_eq_true rfl) ?_
  refine go_eq (pc' := 0) (lv' := [(0, .ref mb), (1, rj_i a), (2, rj_i b)]) (st' := []) rfl rfl rfl rfl ?_
  refine go_iconst (v := Int32.ofInt 0) dX12_doesBeat_0 rfl ?_
  refine go_istore_nS (lv' := [(0, .ref mb), (1, rj_i a), (2, rj_i b), (3, rj_i 0)]) rfl (by decide) rfl dX12_doesBeat_1 ?_
  refine go_iconst (v := Int32.ofInt 0) dX12_doesBeat_2 rfl ?_
  refine go_istoreS (lv' := [(0, .ref mb), (1, rj_i a), (2, rj_i b), (3, rj_i 0), (4, rj_i 0)]) (by decide) rfl dX12_doesBeat_3 ?_
  have loop : ∀ n k : Nat, k + n = (s 5).toNat → rj_Go X9 yX12_doesBeat cX12_doesBeat 5 (some .boolean) d (fun w9 τ => w9 = some (rj_i (rj_b (sp_vb s a b = true))) ∧ τ = (rm_p X9 mb r σ)) 5 [(0, .ref mb), (1, rj_i a), (2, rj_i b), (3, rj_i (sp_sum (sp_vc s a b) k)), (4, rj_i (k : Int))] [] (rm_p X9 mb r σ) := by
    intro n
    induction n with
    | zero =>
      intro k hk 
      have vb := sp_vn_b (s := s) (a := a) (b := b) h5
      have vb2 : sp_sum (sp_vc s a b) k = sp_vn s a b := by unfold sp_vn; rw [show (s 5).toNat = k by omega]
      refine go_iload dX12_doesBeat_5 4 rfl ?_
      refine go_aload_n dX12_doesBeat_7 rfl 0 rfl ?_
      refine grm_g1 rfl dX12_doesBeat_8 ?_
      refine go_iconst (v := Int32.ofInt 5) dX12_doesBeat_11 rfl ?_
      refine grm_l1 (by omega) (by omega) dX12_doesBeat_12 ?_
      rw [show r 1 = s from hs]
      refine go_icmp_geI (tgt := 65) (by omega) (by omega) dX12_doesBeat_13 (by decide) (fun c_13 => ?_) (fun c_13 => ?_)
      · refine go_iload_n dX12_doesBeat_65 rfl 1 rfl ?_
        refine go_iload_n dX12_doesBeat_66 rfl 2 rfl ?_
        refine go_icmp_eqI (tgt := 86) (by omega) (by omega) dX12_doesBeat_67 (by decide) (fun c_67 => ?_) (fun c_67 => ?_)
        · refine go_iconst (v := Int32.ofInt 0) dX12_doesBeat_86 rfl ?_
          refine go_retI rfl (rj_n01 (by decide)) ?_ dX12_doesBeat_87
          exact ⟨rj_vi (rj_bf (by unfold sp_vb sp_vn; rw [show (s 5).toNat = k by omega]; simp; omega)).symm, rfl⟩
        · refine go_iconst (v := Int32.ofInt 2) dX12_doesBeat_70 rfl ?_
          refine go_iload_n dX12_doesBeat_71 rfl 3 rfl ?_
          refine go_mulI dX12_doesBeat_72 ?_
          refine go_aload_n dX12_doesBeat_73 rfl 0 rfl ?_
          refine grm_g1 rfl dX12_doesBeat_74 ?_
          refine go_iconst (v := Int32.ofInt 5) dX12_doesBeat_77 rfl ?_
          refine grm_l1 (by omega) (by omega) dX12_doesBeat_78 ?_
          rw [show r 1 = s from hs]
          refine go_icmp_leI (tgt := 86) (by omega) (by omega) dX12_doesBeat_79 (by decide) (fun c_79 => ?_) (fun c_79 => ?_)
          · refine go_iconst (v := Int32.ofInt 0) dX12_doesBeat_86 rfl ?_
            refine go_retI rfl (rj_n01 (by decide)) ?_ dX12_doesBeat_87
            exact ⟨rj_vi (rj_bf (by unfold sp_vb sp_vn; rw [show (s 5).toNat = k by omega]; simp; omega)).symm, rfl⟩
          · refine go_iconst (v := Int32.ofInt 1) dX12_doesBeat_82 rfl ?_
            refine go_goto (tgt := 87) dX12_doesBeat_83 (by decide) ?_
            refine go_retI rfl (rj_n01 (by decide)) ?_ dX12_doesBeat_87
            exact ⟨rj_vi (rj_bt (by unfold sp_vb sp_vn; rw [show (s 5).toNat = k by omega]; simp; omega)).symm, rfl⟩
      · exact absurd c_13 (by omega)
    | succ n ih =>
      intro k hk 
      have t1 := hT k a (by omega) (by omega) (by omega) (by omega)
      have t2 := hT k b (by omega) (by omega) (by omega) (by omega)
      refine go_iload dX12_doesBeat_5 4 rfl ?_
      refine go_aload_n dX12_doesBeat_7 rfl 0 rfl ?_
      refine grm_g1 rfl dX12_doesBeat_8 ?_
      refine go_iconst (v := Int32.ofInt 5) dX12_doesBeat_11 rfl ?_
      refine grm_l1 (by omega) (by omega) dX12_doesBeat_12 ?_
      rw [show r 1 = s from hs]
      refine go_icmp_geI (tgt := 65) (by omega) (by omega) dX12_doesBeat_13 (by decide) (fun c_13 => ?_) (fun c_13 => ?_)
      · exact absurd c_13 (by omega)
      · refine go_iload_n dX12_doesBeat_16 rfl 3 rfl ?_
        refine go_aload_n dX12_doesBeat_17 rfl 0 rfl ?_
        refine grm_g1 rfl dX12_doesBeat_18 ?_
        refine go_sipush (v := Int32.ofInt 999) dX12_doesBeat_21 (by decide) ?_
        refine go_bipush (v := Int32.ofInt 6) dX12_doesBeat_24 (by decide) ?_
        refine go_iload dX12_doesBeat_26 4 rfl ?_
        refine go_mulI dX12_doesBeat_28 ?_
        refine go_addI dX12_doesBeat_29 ?_
        refine go_iload_n dX12_doesBeat_30 rfl 1 rfl ?_
        refine go_addI dX12_doesBeat_31 ?_
        refine grm_l1 (by omega) (by omega) dX12_doesBeat_32 ?_
        rw [show r 1 = s from hs]
        refine go_aload_n dX12_doesBeat_33 rfl 0 rfl ?_
        refine grm_g1 rfl dX12_doesBeat_34 ?_
        refine go_sipush (v := Int32.ofInt 999) dX12_doesBeat_37 (by decide) ?_
        refine go_bipush (v := Int32.ofInt 6) dX12_doesBeat_40 (by decide) ?_
        refine go_iload dX12_doesBeat_42 4 rfl ?_
        refine go_mulI dX12_doesBeat_44 ?_
        refine go_addI dX12_doesBeat_45 ?_
        refine go_iload_n dX12_doesBeat_46 rfl 2 rfl ?_
        refine go_addI dX12_doesBeat_47 ?_
        refine grm_l1 (by omega) (by omega) dX12_doesBeat_48 ?_
        rw [show r 1 = s from hs]
        refine go_icmp_geI (tgt := 56) (by omega) (by omega) dX12_doesBeat_49 (by decide) (fun c_49 => ?_) (fun c_49 => ?_)
        · refine go_iconst (v := Int32.ofInt 0) dX12_doesBeat_56 rfl ?_
          refine go_addI dX12_doesBeat_57 ?_
          refine go_istore_nS (lv' := [(0, .ref mb), (1, rj_i a), (2, rj_i b), (3, rj_i ((sp_sum (sp_vc s a b) k) + 0)), (4, rj_i (k : Int))]) rfl (by decide) rfl dX12_doesBeat_58 ?_
          refine go_iincI (a := (k : Int)) (n := 1) (k0 := 4) (lv' := [(0, .ref mb), (1, rj_i a), (2, rj_i b), (3, rj_i ((sp_sum (sp_vc s a b) k) + 0)), (4, rj_i ((k : Int) + 1))]) rfl (by decide) rfl dX12_doesBeat_59 ?_
          refine go_goto (tgt := 5) dX12_doesBeat_62 (by decide) ?_
          exact go_eq rfl (lv' := [(0, .ref mb), (1, rj_i a), (2, rj_i b), (3, rj_i (sp_sum (sp_vc s a b) (k + 1))), (4, rj_i ((k + 1 : Nat) : Int))]) (rj_lk (rj_lk (rj_lk (rj_lj (by rw [sp_sum, sp_vc, if_neg (by omega)]) (rj_lj (by omega) rfl))))) rfl rfl (ih (k + 1) (by omega))
        · refine go_iconst (v := Int32.ofInt 1) dX12_doesBeat_52 rfl ?_
          refine go_goto (tgt := 57) dX12_doesBeat_53 (by decide) ?_
          refine go_addI dX12_doesBeat_57 ?_
          refine go_istore_nS (lv' := [(0, .ref mb), (1, rj_i a), (2, rj_i b), (3, rj_i ((sp_sum (sp_vc s a b) k) + 1)), (4, rj_i (k : Int))]) rfl (by decide) rfl dX12_doesBeat_58 ?_
          refine go_iincI (a := (k : Int)) (n := 1) (k0 := 4) (lv' := [(0, .ref mb), (1, rj_i a), (2, rj_i b), (3, rj_i ((sp_sum (sp_vc s a b) k) + 1)), (4, rj_i ((k : Int) + 1))]) rfl (by decide) rfl dX12_doesBeat_59 ?_
          refine go_goto (tgt := 5) dX12_doesBeat_62 (by decide) ?_
          exact go_eq rfl (lv' := [(0, .ref mb), (1, rj_i a), (2, rj_i b), (3, rj_i (sp_sum (sp_vc s a b) (k + 1))), (4, rj_i ((k + 1 : Nat) : Int))]) (rj_lk (rj_lk (rj_lk (rj_lj (by rw [sp_sum, sp_vc, if_pos (by omega)]) (rj_lj (by omega) rfl))))) rfl rfl (ih (k + 1) (by omega))
  exact go_eq rfl (lv' := [(0, .ref mb), (1, rj_i a), (2, rj_i b), (3, rj_i (sp_sum (sp_vc s a b) 0)), (4, rj_i ((0 : Nat) : Int))]) (rj_lk (rj_lk (rj_lk (rj_lj (rfl) (rj_lj (rfl) rfl))))) rfl rfl (loop (s 5).toNat 0 (by omega))
set_option maxRecDepth 20000 in
/-- m_beaten -/
theorem m_beaten {X9 : rj_X} {σ : rj_H} {d : Nat} {mb : Nat} {r : rm_R} {a : Int} (hd : 1 ≤ d) (ha : 0 ≤ a ∧ a < 6) {s : Int → Int} (hs : r 1 = s) (h1 : 0 ≤ s 1 ∧ s 1 ≤ 6) (h5 : 0 ≤ s 5 ∧ s 5 ≤ 5) (hT : sp_IT s) : rj_Cl X9 d yX12_beaten cX12_beaten 4 (some .int) [.ref mb, rj_i a] (rm_p X9 mb r σ) (fun w9 τ => w9 = some (rj_i (sp_ven s a)) ∧ τ = (rm_p X9 mb r σ)) := by
  refine go_call (by decide +kernel) (Nat.le_of_ble_eq_true rfl) ?_
  refine go_eq (pc' := 0) (lv' := [(0, .ref mb), (1, rj_i a)]) (st' := []) rfl rfl rfl rfl ?_
  refine go_iconst (v := Int32.ofInt 0) dX12_beaten_0 rfl ?_
  refine go_istore_nS (lv' := [(0, .ref mb), (1, rj_i a), (2, rj_i 0)]) rfl (by decide) rfl dX12_beaten_1 ?_
  refine go_iconst (v := Int32.ofInt 0) dX12_beaten_2 rfl ?_
  refine go_istore_nS (lv' := [(0, .ref mb), (1, rj_i a), (2, rj_i 0), (3, rj_i 0)]) rfl (by decide) rfl dX12_beaten_3 ?_
  have loop : ∀ n k : Nat, k + n = (s 1).toNat → rj_Go X9 yX12_beaten cX12_beaten 4 (some .int) d (fun w9 τ => w9 = some (rj_i (sp_ven s a)) ∧ τ = (rm_p X9 mb r σ)) 4 [(0, .ref mb), (1, rj_i a), (2, rj_i (sp_sum (sp_ve s a) k)), (3, rj_i (k : Int))] [] (rm_p X9 mb r σ) := by
    intro n
    induction n with
    | zero =>
      intro k hk 
      refine go_iload_n dX12_beaten_4 rfl 3 rfl ?_
      refine go_aload_n dX12_beaten_5 rfl 0 rfl ?_
      refine grm_g1 rfl dX12_beaten_6 ?_
      refine go_iconst (v := Int32.ofInt 1) dX12_beaten_9 rfl ?_
      refine grm_l1 (by omega) (by omega) dX12_beaten_10 ?_
      rw [show r 1 = s from hs]
      refine go_icmp_geI (tgt := 37) (by omega) (by omega) dX12_beaten_11 (by decide) (fun c_11 => ?_) (fun c_11 => ?_)
      · refine go_iload_n dX12_beaten_37 rfl 2 rfl ?_
        refine go_retI rfl rfl ?_ dX12_beaten_38
        exact ⟨rj_vi (by unfold sp_ven; rw [show (s 1).toNat = k by omega]), rfl⟩
      · exact absurd c_11 (by omega)
    | succ n ih =>
      intro k hk 
      refine go_iload_n dX12_beaten_4 rfl 3 rfl ?_
      refine go_aload_n dX12_beaten_5 rfl 0 rfl ?_
      refine grm_g1 rfl dX12_beaten_6 ?_
      refine go_iconst (v := Int32.ofInt 1) dX12_beaten_9 rfl ?_
      refine grm_l1 (by omega) (by omega) dX12_beaten_10 ?_
      rw [show r 1 = s from hs]
      refine go_icmp_geI (tgt := 37) (by omega) (by omega) dX12_beaten_11 (by decide) (fun c_11 => ?_) (fun c_11 => ?_)
      · exact absurd c_11 (by omega)
      · refine go_iload_n dX12_beaten_14 rfl 2 rfl ?_
        refine go_aload_n dX12_beaten_15 rfl 0 rfl ?_
        refine go_iload_n dX12_beaten_16 rfl 1 rfl ?_
        refine go_iload_n dX12_beaten_17 rfl 3 rfl ?_
        refine go_callV (d1 := d - 1) wVX12_230 kX12 rm_ob rfl (by omega) (m_doesBeat (a := a) (b := (k : Int)) (by omega) (by omega) (hs := (show r 1 = s from hs)) h1 h5 hT) rfl (Nat.le_of_ble_eq_true rfl) dX12_beaten_18 (fun w σ1 hP => ?_)
        obtain ⟨rfl, rfl⟩ := hP
        refine go_if_eqB (tgt := 28) dX12_beaten_21 (by decide) (fun c_21 => ?_) (fun c_21 => ?_)
        · refine go_iconst (v := Int32.ofInt 0) dX12_beaten_28 rfl ?_
          refine go_addI dX12_beaten_29 ?_
          refine go_istore_nS (lv' := [(0, .ref mb), (1, rj_i a), (2, rj_i ((sp_sum (sp_ve s a) k) + 0)), (3, rj_i (k : Int))]) rfl (by decide) rfl dX12_beaten_30 ?_
          refine go_iincI (a := (k : Int)) (n := 1) (k0 := 3) (lv' := [(0, .ref mb), (1, rj_i a), (2, rj_i ((sp_sum (sp_ve s a) k) + 0)), (3, rj_i ((k : Int) + 1))]) rfl (by decide) rfl dX12_beaten_31 ?_
          refine go_goto (tgt := 4) dX12_beaten_34 (by decide) ?_
          exact go_eq rfl (lv' := [(0, .ref mb), (1, rj_i a), (2, rj_i (sp_sum (sp_ve s a) (k + 1))), (3, rj_i ((k + 1 : Nat) : Int))]) (rj_lk (rj_lk (rj_lj (by rw [sp_sum, sp_ve, if_neg c_21]) (rj_lj (by omega) rfl)))) rfl rfl (ih (k + 1) (by omega))
        · refine go_iconst (v := Int32.ofInt 1) dX12_beaten_24 rfl ?_
          refine go_goto (tgt := 29) dX12_beaten_25 (by decide) ?_
          refine go_addI dX12_beaten_29 ?_
          refine go_istore_nS (lv' := [(0, .ref mb), (1, rj_i a), (2, rj_i ((sp_sum (sp_ve s a) k) + 1)), (3, rj_i (k : Int))]) rfl (by decide) rfl dX12_beaten_30 ?_
          refine go_iincI (a := (k : Int)) (n := 1) (k0 := 3) (lv' := [(0, .ref mb), (1, rj_i a), (2, rj_i ((sp_sum (sp_ve s a) k) + 1)), (3, rj_i ((k : Int) + 1))]) rfl (by decide) rfl dX12_beaten_31 ?_
          refine go_goto (tgt := 4) dX12_beaten_34 (by decide) ?_
          exact go_eq rfl (lv' := [(0, .ref mb), (1, rj_i a), (2, rj_i (sp_sum (sp_ve s a) (k + 1))), (3, rj_i ((k + 1 : Nat) : Int))]) (rj_lk (rj_lk (rj_lj (by rw [sp_sum, sp_ve, if_pos c_21]) (rj_lj (by omega) rfl)))) rfl rfl (ih (k + 1) (by omega))
  exact go_eq rfl (lv' := [(0, .ref mb), (1, rj_i a), (2, rj_i (sp_sum (sp_ve s a) 0)), (3, rj_i ((0 : Nat) : Int))]) (rj_lk (rj_lk (rj_lj (rfl) (rj_lj (rfl) rfl)))) rfl rfl (loop (s 1).toNat 0 (by omega))
set_option maxRecDepth 20000 in
/-- m_placeOf -/
theorem m_placeOf {X9 : rj_X} {σ : rj_H} {d : Nat} {mb : Nat} {r : rm_R} {p : Int} (hd : 2 ≤ d) (hp : 0 ≤ p ∧ p < 6) {s : Int → Int} (hs : r 1 = s) (h1 : 0 ≤ s 1 ∧ s 1 ≤ 6) (h5 : 0 ≤ s 5 ∧ s 5 ≤ 5) (hT : sp_IT s) : rj_Cl X9 d yX12_placeOf cX12_placeOf 4 (some .int) [.ref mb, rj_i p] (rm_p X9 mb r σ) (fun w9 τ => w9 = some (rj_i (sp_vpo s p)) ∧ τ = (rm_p X9 mb r σ)) := by
  refine go_call (by decide +kernel) (Nat.le_of_ble_eq_true rfl) ?_
  refine go_eq (pc' := 0) (lv' := [(0, .ref mb), (1, rj_i p)]) (st' := []) rfl rfl rfl rfl ?_
  refine go_iconst (v := Int32.ofInt 0) dX12_placeOf_0 rfl ?_
  refine go_istore_nS (lv' := [(0, .ref mb), (1, rj_i p), (2, rj_i 0)]) rfl (by decide) rfl dX12_placeOf_1 ?_
  refine go_iconst (v := Int32.ofInt 0) dX12_placeOf_2 rfl ?_
  refine go_istore_nS (lv' := [(0, .ref mb), (1, rj_i p), (2, rj_i 0), (3, rj_i 0)]) rfl (by decide) rfl dX12_placeOf_3 ?_
  have loop : ∀ n k : Nat, k + n = (s 1).toNat → rj_Go X9 yX12_placeOf cX12_placeOf 4 (some .int) d (fun w9 τ => w9 = some (rj_i (sp_vpo s p)) ∧ τ = (rm_p X9 mb r σ)) 4 [(0, .ref mb), (1, rj_i p), (2, rj_i (sp_sum (sp_vp s p) k)), (3, rj_i (k : Int))] [] (rm_p X9 mb r σ) := by
    intro n
    induction n with
    | zero =>
      intro k hk 
      refine go_iload_n dX12_placeOf_4 rfl 3 rfl ?_
      refine go_aload_n dX12_placeOf_5 rfl 0 rfl ?_
      refine grm_g1 rfl dX12_placeOf_6 ?_
      refine go_iconst (v := Int32.ofInt 1) dX12_placeOf_9 rfl ?_
      refine grm_l1 (by omega) (by omega) dX12_placeOf_10 ?_
      rw [show r 1 = s from hs]
      refine go_icmp_geI (tgt := 59) (by omega) (by omega) dX12_placeOf_11 (by decide) (fun c_11 => ?_) (fun c_11 => ?_)
      · refine go_iload_n dX12_placeOf_59 rfl 2 rfl ?_
        refine go_retI rfl rfl ?_ dX12_placeOf_60
        exact ⟨rj_vi (by unfold sp_vpo; rw [show (s 1).toNat = k by omega]), rfl⟩
      · exact absurd c_11 (by omega)
    | succ n ih =>
      intro k hk 
      have b1 := sp_ven_b (s := s) (a := p) h1
      have b2 := sp_ven_b (s := s) (a := (k : Int)) h1
      refine go_iload_n dX12_placeOf_4 rfl 3 rfl ?_
      refine go_aload_n dX12_placeOf_5 rfl 0 rfl ?_
      refine grm_g1 rfl dX12_placeOf_6 ?_
      refine go_iconst (v := Int32.ofInt 1) dX12_placeOf_9 rfl ?_
      refine grm_l1 (by omega) (by omega) dX12_placeOf_10 ?_
      rw [show r 1 = s from hs]
      refine go_icmp_geI (tgt := 59) (by omega) (by omega) dX12_placeOf_11 (by decide) (fun c_11 => ?_) (fun c_11 => ?_)
      · exact absurd c_11 (by omega)
      · refine go_iload_n dX12_placeOf_14 rfl 2 rfl ?_
        refine go_aload_n dX12_placeOf_15 rfl 0 rfl ?_
        refine go_iload_n dX12_placeOf_16 rfl 3 rfl ?_
        refine go_callV (d1 := d - 1) wVX12_233 kX12 rm_ob rfl (by omega) (m_beaten (by omega) (a := (k : Int)) (by omega) (hs := (show r 1 = s from hs)) h1 h5 hT) rfl (Nat.le_of_ble_eq_true rfl) dX12_placeOf_17 (fun w σ1 hP => ?_)
        obtain ⟨rfl, rfl⟩ := hP
        refine go_aload_n dX12_placeOf_20 rfl 0 rfl ?_
        refine go_iload_n dX12_placeOf_21 rfl 1 rfl ?_
        refine go_callV (d1 := d - 1) wVX12_233 kX12 rm_ob rfl (by omega) (m_beaten (by omega) (a := p) (by omega) (hs := (show r 1 = s from hs)) h1 h5 hT) rfl (Nat.le_of_ble_eq_true rfl) dX12_placeOf_22 (fun w σ1 hP => ?_)
        obtain ⟨rfl, rfl⟩ := hP
        refine go_icmp_gtI (tgt := 46) (by omega) (by omega) dX12_placeOf_25 (by decide) (fun c_25 => ?_) (fun c_25 => ?_)
        · refine go_iconst (v := Int32.ofInt 1) dX12_placeOf_46 rfl ?_
          refine go_goto (tgt := 51) dX12_placeOf_47 (by decide) ?_
          refine go_addI dX12_placeOf_51 ?_
          refine go_istore_nS (lv' := [(0, .ref mb), (1, rj_i p), (2, rj_i ((sp_sum (sp_vp s p) k) + 1)), (3, rj_i (k : Int))]) rfl (by decide) rfl dX12_placeOf_52 ?_
          refine go_iincI (a := (k : Int)) (n := 1) (k0 := 3) (lv' := [(0, .ref mb), (1, rj_i p), (2, rj_i ((sp_sum (sp_vp s p) k) + 1)), (3, rj_i ((k : Int) + 1))]) rfl (by decide) rfl dX12_placeOf_53 ?_
          refine go_goto (tgt := 4) dX12_placeOf_56 (by decide) ?_
          exact go_eq rfl (lv' := [(0, .ref mb), (1, rj_i p), (2, rj_i (sp_sum (sp_vp s p) (k + 1))), (3, rj_i ((k + 1 : Nat) : Int))]) (rj_lk (rj_lk (rj_lj (by rw [sp_sum, sp_vp, if_pos (by omega)]) (rj_lj (by omega) rfl)))) rfl rfl (ih (k + 1) (by omega))
        · refine go_aload_n dX12_placeOf_28 rfl 0 rfl ?_
          refine go_iload_n dX12_placeOf_29 rfl 3 rfl ?_
          refine go_callV (d1 := d - 1) wVX12_233 kX12 rm_ob rfl (by omega) (m_beaten (by omega) (a := (k : Int)) (by omega) (hs := (show r 1 = s from hs)) h1 h5 hT) rfl (Nat.le_of_ble_eq_true rfl) dX12_placeOf_30 (fun w σ1 hP => ?_)
          obtain ⟨rfl, rfl⟩ := hP
          refine go_aload_n dX12_placeOf_33 rfl 0 rfl ?_
          refine go_iload_n dX12_placeOf_34 rfl 1 rfl ?_
          refine go_callV (d1 := d - 1) wVX12_233 kX12 rm_ob rfl (by omega) (m_beaten (by omega) (a := p) (by omega) (hs := (show r 1 = s from hs)) h1 h5 hT) rfl (Nat.le_of_ble_eq_true rfl) dX12_placeOf_35 (fun w σ1 hP => ?_)
          obtain ⟨rfl, rfl⟩ := hP
          refine go_icmp_neI (tgt := 50) (by omega) (by omega) dX12_placeOf_38 (by decide) (fun c_38 => ?_) (fun c_38 => ?_)
          · refine go_iconst (v := Int32.ofInt 0) dX12_placeOf_50 rfl ?_
            refine go_addI dX12_placeOf_51 ?_
            refine go_istore_nS (lv' := [(0, .ref mb), (1, rj_i p), (2, rj_i ((sp_sum (sp_vp s p) k) + 0)), (3, rj_i (k : Int))]) rfl (by decide) rfl dX12_placeOf_52 ?_
            refine go_iincI (a := (k : Int)) (n := 1) (k0 := 3) (lv' := [(0, .ref mb), (1, rj_i p), (2, rj_i ((sp_sum (sp_vp s p) k) + 0)), (3, rj_i ((k : Int) + 1))]) rfl (by decide) rfl dX12_placeOf_53 ?_
            refine go_goto (tgt := 4) dX12_placeOf_56 (by decide) ?_
            exact go_eq rfl (lv' := [(0, .ref mb), (1, rj_i p), (2, rj_i (sp_sum (sp_vp s p) (k + 1))), (3, rj_i ((k + 1 : Nat) : Int))]) (rj_lk (rj_lk (rj_lj (by rw [sp_sum, sp_vp, if_neg (by omega)]) (rj_lj (by omega) rfl)))) rfl rfl (ih (k + 1) (by omega))
          · refine go_iload_n dX12_placeOf_41 rfl 3 rfl ?_
            refine go_iload_n dX12_placeOf_42 rfl 1 rfl ?_
            refine go_icmp_geI (tgt := 50) (by omega) (by omega) dX12_placeOf_43 (by decide) (fun c_43 => ?_) (fun c_43 => ?_)
            · refine go_iconst (v := Int32.ofInt 0) dX12_placeOf_50 rfl ?_
              refine go_addI dX12_placeOf_51 ?_
              refine go_istore_nS (lv' := [(0, .ref mb), (1, rj_i p), (2, rj_i ((sp_sum (sp_vp s p) k) + 0)), (3, rj_i (k : Int))]) rfl (by decide) rfl dX12_placeOf_52 ?_
              refine go_iincI (a := (k : Int)) (n := 1) (k0 := 3) (lv' := [(0, .ref mb), (1, rj_i p), (2, rj_i ((sp_sum (sp_vp s p) k) + 0)), (3, rj_i ((k : Int) + 1))]) rfl (by decide) rfl dX12_placeOf_53 ?_
              refine go_goto (tgt := 4) dX12_placeOf_56 (by decide) ?_
              exact go_eq rfl (lv' := [(0, .ref mb), (1, rj_i p), (2, rj_i (sp_sum (sp_vp s p) (k + 1))), (3, rj_i ((k + 1 : Nat) : Int))]) (rj_lk (rj_lk (rj_lj (by rw [sp_sum, sp_vp, if_neg (by omega)]) (rj_lj (by omega) rfl)))) rfl rfl (ih (k + 1) (by omega))
            · refine go_iconst (v := Int32.ofInt 1) dX12_placeOf_46 rfl ?_
              refine go_goto (tgt := 51) dX12_placeOf_47 (by decide) ?_
              refine go_addI dX12_placeOf_51 ?_
              refine go_istore_nS (lv' := [(0, .ref mb), (1, rj_i p), (2, rj_i ((sp_sum (sp_vp s p) k) + 1)), (3, rj_i (k : Int))]) rfl (by decide) rfl dX12_placeOf_52 ?_
              refine go_iincI (a := (k : Int)) (n := 1) (k0 := 3) (lv' := [(0, .ref mb), (1, rj_i p), (2, rj_i ((sp_sum (sp_vp s p) k) + 1)), (3, rj_i ((k : Int) + 1))]) rfl (by decide) rfl dX12_placeOf_53 ?_
              refine go_goto (tgt := 4) dX12_placeOf_56 (by decide) ?_
              exact go_eq rfl (lv' := [(0, .ref mb), (1, rj_i p), (2, rj_i (sp_sum (sp_vp s p) (k + 1))), (3, rj_i ((k + 1 : Nat) : Int))]) (rj_lk (rj_lk (rj_lj (by rw [sp_sum, sp_vp, if_pos (by omega)]) (rj_lj (by omega) rfl)))) rfl rfl (ih (k + 1) (by omega))
  exact go_eq rfl (lv' := [(0, .ref mb), (1, rj_i p), (2, rj_i (sp_sum (sp_vp s p) 0)), (3, rj_i ((0 : Nat) : Int))]) (rj_lk (rj_lk (rj_lj (rfl) (rj_lj (rfl) rfl)))) rfl rfl (loop (s 1).toNat 0 (by omega))
def sp_io (s : Int → Int) (i : Int) : Nat → Nat → Int
  | 0, _ => -1
  | n + 1, k => if sp_vpo s (k : Int) = i then (k : Int) else sp_io s i n (k + 1)
theorem sp_io_b (s : Int → Int) (i : Int) : ∀ n k : Nat, (∃ p : Nat, k ≤ p ∧ p < k + n ∧ sp_vpo s (p : Int) = i) → (k : Int) ≤ sp_io s i n k ∧ sp_io s i n k < (k + n : Nat)
  | 0, k, h => by obtain ⟨p, h1, h2, _⟩ := h; omega
  | n + 1, k, h => by
    rw [sp_io]
    split
    · omega
    · rename_i hne
      obtain ⟨p, h1, h2, h3⟩ := h
      have hp : p ≠ k := fun e => hne (by rw [← e]; exact h3)
      have := sp_io_b s i n (k + 1) ⟨p, by omega, by omega, h3⟩
      omega
/-- every place is some patch's -/
def sp_all (s : Int → Int) : Prop := ∀ i : Int, 0 ≤ i → i < s 1 → ∃ p : Nat, (p : Int) < s 1 ∧ sp_vpo s (p : Int) = i
set_option maxRecDepth 20000 in
/-- m_inOrder -/
theorem m_inOrder {X9 : rj_X} {σ : rj_H} {d : Nat} {mb : Nat} {r : rm_R} {i : Int} {s : Int → Int} (hd : 3 ≤ d) (hi : 0 ≤ i ∧ i < s 1) (hs : r 1 = s) (h1 : 0 ≤ s 1 ∧ s 1 ≤ 6) (h5 : 0 ≤ s 5 ∧ s 5 ≤ 5) (hT : sp_IT s) (hA : sp_all s) : rj_Cl X9 d yX12_inOrder cX12_inOrder 3 (some .int) [.ref mb, rj_i i] (rm_p X9 mb r σ) (fun w9 τ => w9 = some (rj_i (sp_io s i (s 1).toNat 0)) ∧ τ = (rm_p X9 mb r σ)) := by
  refine go_call (by decide +kernel) (Nat.le_of_ble_eq_true rfl) ?_
  refine go_eq (pc' := 0) (lv' := [(0, .ref mb), (1, rj_i i)]) (st' := []) rfl rfl rfl rfl ?_
  refine go_iconst (v := Int32.ofInt 0) dX12_inOrder_0 rfl ?_
  refine go_istore_nS (lv' := [(0, .ref mb), (1, rj_i i), (2, rj_i 0)]) rfl (by decide) rfl dX12_inOrder_1 ?_
  have loop : ∀ n k : Nat, k + n = (s 1).toNat → (∃ p : Nat, k ≤ p ∧ p < k + n ∧ sp_vpo s (p : Int) = i) → sp_io s i (s 1).toNat 0 = sp_io s i n k → rj_Go X9 yX12_inOrder cX12_inOrder 3 (some .int) d (fun w9 τ => w9 = some (rj_i (sp_io s i (s 1).toNat 0)) ∧ τ = (rm_p X9 mb r σ)) 2 [(0, .ref mb), (1, rj_i i), (2, rj_i (k : Int))] [] (rm_p X9 mb r σ) := by
    intro n
    induction n with
    | zero =>
      intro k hk hx hF
      obtain ⟨p, q1, q2, _⟩ := hx
      exact absurd q2 (by omega)
    | succ n ih =>
      intro k hk hx hF
      have b1 := sp_vpo_b (s := s) (p := (k : Int)) h1
      refine go_aload_n dX12_inOrder_2 rfl 0 rfl ?_
      refine go_iload_n dX12_inOrder_3 rfl 2 rfl ?_
      refine go_callV (d1 := d - 1) wVX12_236 kX12 rm_ob rfl (by omega) (m_placeOf (by omega) (p := (k : Int)) (by omega) (hs := (show r 1 = s from hs)) h1 h5 hT) rfl (Nat.le_of_ble_eq_true rfl) dX12_inOrder_4 (fun w σ1 hP => ?_)
      obtain ⟨rfl, rfl⟩ := hP
      refine go_iload_n dX12_inOrder_7 rfl 1 rfl ?_
      refine go_icmp_eqI (tgt := 17) (by omega) (by omega) dX12_inOrder_8 (by decide) (fun c_8 => ?_) (fun c_8 => ?_)
      · refine go_iload_n dX12_inOrder_17 rfl 2 rfl ?_
        refine go_retI rfl rfl ?_ dX12_inOrder_18
        exact ⟨rj_vi (by rw [hF, sp_io, if_pos c_8]), rfl⟩
      · refine go_iincI (a := (k : Int)) (n := 1) (k0 := 2) (lv' := [(0, .ref mb), (1, rj_i i), (2, rj_i ((k : Int) + 1))]) rfl (by decide) rfl dX12_inOrder_11 ?_
        refine go_goto (tgt := 2) dX12_inOrder_14 (by decide) ?_
        have hx2 : ∃ p : Nat, k + 1 ≤ p ∧ p < k + 1 + n ∧ sp_vpo s (p : Int) = i := by
          obtain ⟨p, q1, q2, q3⟩ := hx
          have hp : p ≠ k := fun e => c_8 (by rw [← e]; exact q3)
          exact ⟨p, by omega, by omega, q3⟩
        exact go_eq rfl (lv' := [(0, .ref mb), (1, rj_i i), (2, rj_i ((k + 1 : Nat) : Int))]) (rj_lk (rj_lk (rj_lj (by omega) rfl))) rfl rfl (ih (k + 1) (by omega) hx2 (by rw [hF, sp_io, if_neg c_8]))
  obtain ⟨p, q1, q2⟩ := hA i (by omega) (by omega)
  exact go_eq rfl (lv' := [(0, .ref mb), (1, rj_i i), (2, rj_i ((0 : Nat) : Int))]) (rj_lk (rj_lk (rj_lj (rfl) rfl))) rfl rfl (loop (s 1).toNat 0 (by omega) ⟨p, by omega, by omega, q2⟩ rfl)
