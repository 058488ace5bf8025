/-! THE CLASS: acts -/
/-- the trace: bodies b, of which n ran -/
def rc_tr (c : rm_R) (b : Int → Int) (n : Int) : rm_R := rm_u (rm_u c 64 b) 63 (rj_up (c 63) 1 n)
theorem rc_tr_64 {c : rm_R} {b : Int → Int} {n : Int} : rc_tr c b n 64 = b := (rm_u_ne _ _ (by decide)).trans (rm_u_eq _ _ _)
theorem rc_tr_63 {c : rm_R} {b : Int → Int} {n : Int} : rc_tr c b n 63 1 = n := (congrFun (rm_u_eq _ _ _) 1).trans (rj_up_eq _ _ _)
theorem rc_tr_o {c : rm_R} {b : Int → Int} {n : Int} {k : Nat} (h : k ≠ 63) (h2 : k ≠ 64) : rc_tr c b n k = c k := (rm_u_ne _ _ h).trans (rm_u_ne _ _ h2)
theorem rc_tr_b {c : rm_R} : rm_u c 63 (rj_up (c 63) 1 0) = rc_tr c (c 64) 0 := by
  unfold rc_tr
  rw [show rm_u c 64 (c 64) = c from funext fun k => by by_cases h : k = 64 <;> simp [rm_u, h]]
theorem rc_tr_u {c : rm_R} {b b2 : Int → Int} {n n2 : Int} : rm_u (rm_u (rc_tr c b n) 64 b2) 63 (rj_up (rm_u (rc_tr c b n) 64 b2 63) 1 n2) = rc_tr c b2 n2 := by
  funext k
  by_cases h : k = 63
  · subst h; rw [rm_u_eq, rm_u_ne _ _ (by decide)]; unfold rc_tr; rw [rm_u_eq, rm_u_eq, rj_up_up]
  · rw [rm_u_ne _ _ h]
    by_cases h2 : k = 64
    · subst h2; rw [rm_u_eq, rc_tr_64]
    · rw [rm_u_ne _ _ h2, rc_tr_o h h2, rc_tr_o h h2]
theorem rc_tr_v {c : rm_R} {b : Int → Int} {n n2 : Int} : rm_u (rc_tr c b n) 63 (rj_up (rc_tr c b n 63) 1 n2) = rc_tr c b n2 := by
  have h := rc_tr_u (c := c) (b := b) (b2 := b) (n := n) (n2 := n2)
  rwa [show rm_u (rc_tr c b n) 64 b = rc_tr c b n from funext fun k => by by_cases h : k = 64 <;> simp [rm_u, h, rc_tr_64]] at h
theorem rc_tr_tr {c : rm_R} {b b2 : Int → Int} {n n2 : Int} : rc_tr (rc_tr c b n) b2 n2 = rc_tr c b2 n2 := rc_tr_u
/-- a Mirror of any class stands -/
theorem rc_mx {X9 : rj_X} {cb vv vk : Nat} {σ : rj_H} {s : Int → Int} {m : Int} {a : Nat} (hm : rc_mir cb vv vk σ s m a) (hkd : 0 ≤ s (130 + m) ∧ s (130 + m) ≤ 6) : ∃ (ci : Nat) (C : String) (T : u_T) (N : Nat) (ty : Nat → FieldType), rj_cl ci C T N ty ∧ ∀ c : rm_R, (rc_p X9 cb vv vk c σ).2.2 a = some (.inr (ci, rc_mf s m)) := by
  have ha := fun c => rc_ma (X9 := X9) (c := c) hm
  rcases (show s (130 + m) = 0 ∨ s (130 + m) = 1 ∨ s (130 + m) = 2 ∨ s (130 + m) = 3 ∨ s (130 + m) = 4 ∨ s (130 + m) = 5 ∨ s (130 + m) = 6 by omega) with hk | hk | hk | hk | hk | hk | hk <;> rw [hk] at ha
  · exact ⟨_, _, _, _, _, kX2, ha⟩
  · exact ⟨_, _, _, _, _, kX8, ha⟩
  · exact ⟨_, _, _, _, _, kX0, ha⟩
  · exact ⟨_, _, _, _, _, kX3, ha⟩
  · exact ⟨_, _, _, _, _, kX1, ha⟩
  · exact ⟨_, _, _, _, _, kX4, ha⟩
  · exact ⟨_, _, _, _, _, kX6, ha⟩
set_option maxRecDepth 20000 in
/-- x_begin -/
theorem x_begin {X9 : rj_X} {σ : rj_H} {d cb vv vk : Nat} {c : rm_R} (hV : rc_V cb vv vk) : rj_Cl X9 d yX7_begin cX7_begin 1 none [.ref (cb + 63)] (rc_p X9 cb vv vk c σ) (fun w9 τ => w9 = none ∧ τ = rc_p X9 cb vv vk (rc_tr c (c 64) 0) σ) := by
  refine go_call (by decide +kernel) (Nat.le_of_ble_eq_true rfl) ?_
  refine go_eq (pc' := 0) (lv' := [(0, .ref (cb + 63))]) (st' := []) rfl rfl rfl rfl ?_
  refine go_aload_n dX7_begin_0 rfl 0 rfl ?_
  refine go_iconst (v := Int32.ofInt 0) dX7_begin_1 rfl ?_
  refine rc_pt1 hV fX7_15 dX7_begin_2 ?_
  refine go_retV rfl ?_ dX7_begin_5
  exact ⟨rfl, congrArg (fun z => rc_p X9 cb vv vk z σ) rc_tr_b⟩
set_option maxRecDepth 20000 in
/-- x_add -/
theorem x_add {X9 : rj_X} {σ : rj_H} {d cb vv vk : Nat} {c : rm_R} {b : Int → Int} {n z : Int} (hV : rc_V cb vv vk) (hn : 0 ≤ n ∧ n ≤ 110) : rj_Cl X9 d yX7_add cX7_add 2 none [.ref (cb + 63), rj_i z] (rc_p X9 cb vv vk (rc_tr c b n) σ) (fun w9 τ => w9 = none ∧ τ = rc_p X9 cb vv vk (rc_tr c (sp_run b n z) (n + 1)) σ) := by
  refine go_call (by decide +kernel) (Nat.le_of_ble_eq_true rfl) ?_
  refine go_eq (pc' := 0) (lv' := [(0, .ref (cb + 63)), (1, rj_i z)]) (st' := []) rfl rfl rfl rfl ?_
  refine go_aload_n dX7_add_0 rfl 0 rfl ?_
  refine rc_gt hV (k := 1) (by decide) fX7_15 rfl dX7_add_1 ?_
  rw [show (rc_tr c b n) 63 1 = n from rc_tr_63]
  refine go_bipush (v := Int32.ofInt 20) dX7_add_4 (by decide) ?_
  refine go_icmp_geI (tgt := 19) (by omega) (by omega) dX7_add_6 (by decide) (fun c_6 => ?_) (fun c_6 => ?_)
  · refine go_aload_n dX7_add_19 rfl 0 rfl ?_
    refine go_dup dX7_add_20 rfl ?_
    refine rc_gt hV (k := 1) (by decide) fX7_15 rfl dX7_add_21 ?_
    rw [show (rc_tr c b n) 63 1 = n from rc_tr_63]
    refine go_iconst (v := Int32.ofInt 1) dX7_add_24 rfl ?_
    refine go_addI dX7_add_25 ?_
    refine rc_pt1 hV fX7_15 dX7_add_26 ?_
    refine go_retV rfl ?_ dX7_add_29
    exact ⟨rfl, congrArg (fun z => rc_p X9 cb vv vk z σ) (rc_tr_v.trans (congrArg (fun z => rc_tr c z (n + 1)) (by unfold sp_run; rw [if_neg (by omega)])))⟩
  · refine go_aload_n dX7_add_9 rfl 0 rfl ?_
    refine rc_gt hV (k := 0) (by decide) fX7_9 rfl dX7_add_10 ?_
    refine go_aload_n dX7_add_13 rfl 0 rfl ?_
    refine rc_gt hV (k := 1) (by decide) fX7_15 rfl dX7_add_14 ?_
    rw [show (rc_tr c b n) 63 1 = n from rc_tr_63]
    refine go_iload_n dX7_add_17 rfl 1 rfl ?_
    refine rc_st hV (n := 64) (L := 20) rfl (fun _ => rfl) (by omega) (by omega) (by decide) dX7_add_18 ?_
    refine go_aload_n dX7_add_19 rfl 0 rfl ?_
    refine go_dup dX7_add_20 rfl ?_
    refine rc_gt hV (k := 1) (by decide) fX7_15 rfl dX7_add_21 ?_
    rw [show (rm_u (rc_tr c b n) 64 (rj_up ((rc_tr c b n) 64) n z)) 63 1 = n from (congrFun (rm_u_ne _ _ (by decide)) 1).trans rc_tr_63]
    refine go_iconst (v := Int32.ofInt 1) dX7_add_24 rfl ?_
    refine go_addI dX7_add_25 ?_
    refine rc_pt1 hV fX7_15 dX7_add_26 ?_
    refine go_retV rfl ?_ dX7_add_29
    exact ⟨rfl, congrArg (fun z => rc_p X9 cb vv vk z σ) (rc_tr_u.trans (congrArg (fun z => rc_tr c z (n + 1)) (by unfold sp_run; rw [if_pos (by omega), rc_tr_64])))⟩
set_option maxRecDepth 20000 in
/-- x_casts2 -/
theorem x_casts2 {X9 : rj_X} {σ : rj_H} {d cb vv vk : Nat} {c : rm_R} {s : Int → Int} {m x : Int} {a : Nat} {b : Int → Int} {n : Int} (hd : 1 ≤ d) (hV : rc_V cb vv vk) (hm : rc_mir cb vv vk σ s m a) (hkd : 0 ≤ s (130 + m) ∧ s (130 + m) ≤ 6) (hn : 0 ≤ n ∧ n ≤ 109) : rj_Cl X9 d yX2_casts cX2_casts 3 (some .int) [.ref a, rj_i x, .ref (cb + 63)] (rc_p X9 cb vv vk (rc_tr c b n) σ) (fun w9 τ => w9 = some (rj_i (sp_pc m x b n).1) ∧ τ = rc_p X9 cb vv vk (rc_tr c (sp_pc m x b n).2.1 (sp_pc m x b n).2.2) σ) := by
  obtain ⟨ci, C, T, N, ty, hcl, hmx⟩ := rc_mx (X9 := X9) hm hkd
  refine go_call (by decide +kernel) (Nat.le_of_ble_eq_true rfl) ?_
  refine go_eq (pc' := 0) (lv' := [(0, .ref a), (1, rj_i x), (2, .ref (cb + 63))]) (st' := []) rfl rfl rfl rfl ?_
  refine go_aload_n dX2_casts_0 rfl 2 rfl ?_
  refine go_iconst (v := Int32.ofInt 1) dX2_casts_1 rfl ?_
  refine go_callV (d1 := d - 1) wVX2_36 kX7 (rc_a63 hV) rfl (by omega) (x_add (b := b) (n := n) (z := 1) hV (by omega)) rfl (Nat.le_of_ble_eq_true rfl) dX2_casts_2 (fun w σ1 hP9 => ?_)
  obtain ⟨rfl, rfl⟩ := hP9
  refine go_iload_n dX2_casts_5 rfl 1 rfl ?_
  refine go_aload_n dX2_casts_6 rfl 0 rfl ?_
  refine rc_gm hm hkd (k := 1) (by decide) fX2_15 rfl dX2_casts_7 ?_
  refine go_addI dX2_casts_10 ?_
  refine go_retI rfl rfl ?_ dX2_casts_11
  exact ⟨rfl, rfl⟩
set_option maxRecDepth 20000 in
/-- x_casts8 -/
theorem x_casts8 {X9 : rj_X} {σ : rj_H} {d cb vv vk : Nat} {c : rm_R} {s : Int → Int} {m x : Int} {a : Nat} {b : Int → Int} {n : Int} (hd : 2 ≤ d) (hV : rc_V cb vv vk) (hm : rc_mir cb vv vk σ s m a) (hkd : 0 ≤ s (130 + m) ∧ s (130 + m) ≤ 6) (hn : 0 ≤ n ∧ n ≤ 108) : rj_Cl X9 d yX8_casts cX8_casts 3 (some .int) [.ref a, rj_i x, .ref (cb + 63)] (rc_p X9 cb vv vk (rc_tr c b n) σ) (fun w9 τ => w9 = some (rj_i (sp_pc m (x * 3) (sp_run b n 11) (n + 1)).1) ∧ τ = rc_p X9 cb vv vk (rc_tr c (sp_pc m (x * 3) (sp_run b n 11) (n + 1)).2.1 (sp_pc m (x * 3) (sp_run b n 11) (n + 1)).2.2) σ) := by
  obtain ⟨ci, C, T, N, ty, hcl, hmx⟩ := rc_mx (X9 := X9) hm hkd
  refine go_call (by decide +kernel) (Nat.le_of_ble_eq_true rfl) ?_
  refine go_eq (pc' := 0) (lv' := [(0, .ref a), (1, rj_i x), (2, .ref (cb + 63))]) (st' := []) rfl rfl rfl rfl ?_
  refine go_aload_n dX8_casts_0 rfl 2 rfl ?_
  refine go_bipush (v := Int32.ofInt 11) dX8_casts_1 (by decide) ?_
  refine go_callV (d1 := d - 1) wVX8_16 kX7 (rc_a63 hV) rfl (by omega) (x_add (b := b) (n := n) (z := 11) hV (by omega)) rfl (Nat.le_of_ble_eq_true rfl) dX8_casts_3 (fun w σ1 hP9 => ?_)
  obtain ⟨rfl, rfl⟩ := hP9
  refine go_aload_n dX8_casts_6 rfl 0 rfl ?_
  refine go_iload_n dX8_casts_7 rfl 1 rfl ?_
  refine go_iconst (v := Int32.ofInt 3) dX8_casts_8 rfl ?_
  refine go_mulI dX8_casts_9 ?_
  refine go_aload_n dX8_casts_10 rfl 2 rfl ?_
  refine go_callP (d1 := d - 1) wPX8_22 hcl (hmx _) rfl (by omega) (x_casts2 (x := (x * 3)) (b := (sp_run b n 11)) (n := (n + 1)) (by omega) hV hm hkd (by omega)) rfl (Nat.le_of_ble_eq_true rfl) dX8_casts_11 (fun w σ1 hP9 => ?_)
  obtain ⟨rfl, rfl⟩ := hP9
  refine go_retI rfl rfl ?_ dX8_casts_14
  exact ⟨rfl, rfl⟩
set_option maxRecDepth 20000 in
/-- x_casts4 -/
theorem x_casts4 {X9 : rj_X} {σ : rj_H} {d cb vv vk : Nat} {c : rm_R} {s : Int → Int} {m x : Int} {a : Nat} {b : Int → Int} {n : Int} (hd : 2 ≤ d) (hV : rc_V cb vv vk) (hm : rc_mir cb vv vk σ s m a) (hkd : 0 ≤ s (130 + m) ∧ s (130 + m) ≤ 6) (hn : 0 ≤ n ∧ n ≤ 108) : rj_Cl X9 d yX4_casts cX4_casts 3 (some .int) [.ref a, rj_i x, .ref (cb + 63)] (rc_p X9 cb vv vk (rc_tr c b n) σ) (fun w9 τ => w9 = some (rj_i (((sp_xor (sp_pc m x (sp_run b n 51) (n + 1)).1 m, (sp_pc m x (sp_run b n 51) (n + 1)).2) : sp_A)).1) ∧ τ = rc_p X9 cb vv vk (rc_tr c (((sp_xor (sp_pc m x (sp_run b n 51) (n + 1)).1 m, (sp_pc m x (sp_run b n 51) (n + 1)).2) : sp_A)).2.1 (((sp_xor (sp_pc m x (sp_run b n 51) (n + 1)).1 m, (sp_pc m x (sp_run b n 51) (n + 1)).2) : sp_A)).2.2) σ) := by
  obtain ⟨ci, C, T, N, ty, hcl, hmx⟩ := rc_mx (X9 := X9) hm hkd
  refine go_call (by decide +kernel) (Nat.le_of_ble_eq_true rfl) ?_
  refine go_eq (pc' := 0) (lv' := [(0, .ref a), (1, rj_i x), (2, .ref (cb + 63))]) (st' := []) rfl rfl rfl rfl ?_
  refine go_aload_n dX4_casts_0 rfl 2 rfl ?_
  refine go_bipush (v := Int32.ofInt 51) dX4_casts_1 (by decide) ?_
  refine go_callV (d1 := d - 1) wVX4_7 kX7 (rc_a63 hV) rfl (by omega) (x_add (b := b) (n := n) (z := 51) hV (by omega)) rfl (Nat.le_of_ble_eq_true rfl) dX4_casts_3 (fun w σ1 hP9 => ?_)
  obtain ⟨rfl, rfl⟩ := hP9
  refine go_aload_n dX4_casts_6 rfl 0 rfl ?_
  refine go_iload_n dX4_casts_7 rfl 1 rfl ?_
  refine go_aload_n dX4_casts_8 rfl 2 rfl ?_
  refine go_callQ (d1 := d - 1) wQX4_13 hcl (hmx _) rfl (by omega) (x_casts2 (x := x) (b := (sp_run b n 51)) (n := (n + 1)) (by omega) hV hm hkd (by omega)) rfl (Nat.le_of_ble_eq_true rfl) dX4_casts_9 (fun w σ1 hP9 => ?_)
  obtain ⟨rfl, rfl⟩ := hP9
  refine go_aload_n dX4_casts_12 rfl 0 rfl ?_
  refine rc_gm hm hkd (k := 1) (by decide) fX4_17 rfl dX4_casts_13 ?_
  refine go_xorI dX4_casts_16 ?_
  refine go_retI rfl rfl ?_ dX4_casts_17
  exact ⟨rfl, rfl⟩
set_option maxRecDepth 20000 in
theorem rv_casts {X9 : rj_X} {nL : Nat} {rt9 : Option FieldType} {d9 : Nat} {P9 : Option Value → rj_H → Prop} {pc : Nat} {lv : List (Nat × Value)} {rest : List Value} {σ : rj_H} {cb vv vk : Nat} {c : rm_R} {s : Int → Int} {m : Int} {a : Nat} (hm : rc_mir cb vv vk σ s m a) (hkd : 0 ≤ s (130 + m) ∧ s (130 + m) ≤ 6) (hd : 3 ≤ d9) {x : Int} {b : Int → Int} {n : Int} (hV : rc_V cb vv vk) (hn : 0 ≤ n ∧ n ≤ 108) (hcat : (rest.map fun v => v.category).sum ≤ 8) (hdg : decode cX2_turns pc = .ok (.invokevirtual 42, 3)) (kk : rj_Go X9 yX2_turns cX2_turns nL rt9 d9 P9 (pc + 3) lv (rj_i (sp_ca (s (130 + m)) m x b n).1 :: rest) (rc_p X9 cb vv vk (rc_tr c (sp_ca (s (130 + m)) m x b n).2.1 (sp_ca (s (130 + m)) m x b n).2.2) σ)) : rj_Go X9 yX2_turns cX2_turns nL rt9 d9 P9 pc lv (.ref (cb + 63) :: rj_i x :: .ref a :: rest) (rc_p X9 cb vv vk (rc_tr c b n) σ) := by
  have ha := rc_ma (X9 := X9) (c := (rc_tr c b n)) hm
  rcases (show s (130 + m) = 0 ∨ s (130 + m) = 1 ∨ s (130 + m) = 2 ∨ s (130 + m) = 3 ∨ s (130 + m) = 4 ∨ s (130 + m) = 5 ∨ s (130 + m) = 6 by omega) with hk | hk | hk | hk | hk | hk | hk
  · have ha2 : (rc_p X9 cb vv vk (rc_tr c b n) σ).2.2 a = some (.inr (2, rc_mf s m)) := by rw [hk] at ha; exact ha
    refine go_callV (d1 := d9 - 1) wVX2_42 kX2 ha2 rfl (by omega) (x_casts2 (x := x) (b := b) (n := n) (by omega) hV hm hkd (by omega)) rfl hcat hdg (fun w σ1 hP9 => ?_)
    obtain ⟨rfl, rfl⟩ := hP9
    have e9 : sp_ca (s (130 + m)) m x b n = sp_pc m x b n := by unfold sp_ca; rw [if_neg (by unfold sp_und; omega), if_neg (by omega)]
    rw [e9] at kk
    exact kk
  · have ha2 : (rc_p X9 cb vv vk (rc_tr c b n) σ).2.2 a = some (.inr (8, rc_mf s m)) := by rw [hk] at ha; exact ha
    refine go_callU (d1 := d9 - 1) wUX2_42_X8 kX8 ha2 rfl (by omega) (x_casts8 (x := x) (b := b) (n := n) (by omega) hV hm hkd (by omega)) rfl hcat hdg (fun w σ1 hP9 => ?_)
    obtain ⟨rfl, rfl⟩ := hP9
    have e9 : sp_ca (s (130 + m)) m x b n = sp_pc m (x * 3) (sp_run b n 11) (n + 1) := by unfold sp_ca; rw [if_pos (by unfold sp_und; omega)]
    rw [e9] at kk
    exact kk
  · have ha2 : (rc_p X9 cb vv vk (rc_tr c b n) σ).2.2 a = some (.inr (0, rc_mf s m)) := by rw [hk] at ha; exact ha
    refine go_callU (d1 := d9 - 1) wUX2_42_X0 kX0 ha2 rfl (by omega) (x_casts2 (x := x) (b := b) (n := n) (by omega) hV hm hkd (by omega)) rfl hcat hdg (fun w σ1 hP9 => ?_)
    obtain ⟨rfl, rfl⟩ := hP9
    have e9 : sp_ca (s (130 + m)) m x b n = sp_pc m x b n := by unfold sp_ca; rw [if_neg (by unfold sp_und; omega), if_neg (by omega)]
    rw [e9] at kk
    exact kk
  · have ha2 : (rc_p X9 cb vv vk (rc_tr c b n) σ).2.2 a = some (.inr (3, rc_mf s m)) := by rw [hk] at ha; exact ha
    refine go_callU (d1 := d9 - 1) wUX2_42_X3 kX3 ha2 rfl (by omega) (x_casts8 (x := x) (b := b) (n := n) (by omega) hV hm hkd (by omega)) rfl hcat hdg (fun w σ1 hP9 => ?_)
    obtain ⟨rfl, rfl⟩ := hP9
    have e9 : sp_ca (s (130 + m)) m x b n = sp_pc m (x * 3) (sp_run b n 11) (n + 1) := by unfold sp_ca; rw [if_pos (by unfold sp_und; omega)]
    rw [e9] at kk
    exact kk
  · have ha2 : (rc_p X9 cb vv vk (rc_tr c b n) σ).2.2 a = some (.inr (1, rc_mf s m)) := by rw [hk] at ha; exact ha
    refine go_callU (d1 := d9 - 1) wUX2_42_X1 kX1 ha2 rfl (by omega) (x_casts8 (x := x) (b := b) (n := n) (by omega) hV hm hkd (by omega)) rfl hcat hdg (fun w σ1 hP9 => ?_)
    obtain ⟨rfl, rfl⟩ := hP9
    have e9 : sp_ca (s (130 + m)) m x b n = sp_pc m (x * 3) (sp_run b n 11) (n + 1) := by unfold sp_ca; rw [if_pos (by unfold sp_und; omega)]
    rw [e9] at kk
    exact kk
  · have ha2 : (rc_p X9 cb vv vk (rc_tr c b n) σ).2.2 a = some (.inr (4, rc_mf s m)) := by rw [hk] at ha; exact ha
    refine go_callU (d1 := d9 - 1) wUX2_42_X4 kX4 ha2 rfl (by omega) (x_casts4 (x := x) (b := b) (n := n) (by omega) hV hm hkd (by omega)) rfl hcat hdg (fun w σ1 hP9 => ?_)
    obtain ⟨rfl, rfl⟩ := hP9
    have e9 : sp_ca (s (130 + m)) m x b n = ((sp_xor (sp_pc m x (sp_run b n 51) (n + 1)).1 m, (sp_pc m x (sp_run b n 51) (n + 1)).2) : sp_A) := by unfold sp_ca; rw [if_neg (by unfold sp_und; omega), if_pos (by omega)]
    rw [e9] at kk
    exact kk
  · have ha2 : (rc_p X9 cb vv vk (rc_tr c b n) σ).2.2 a = some (.inr (6, rc_mf s m)) := by rw [hk] at ha; exact ha
    refine go_callU (d1 := d9 - 1) wUX2_42_X6 kX6 ha2 rfl (by omega) (x_casts2 (x := x) (b := b) (n := n) (by omega) hV hm hkd (by omega)) rfl hcat hdg (fun w σ1 hP9 => ?_)
    obtain ⟨rfl, rfl⟩ := hP9
    have e9 : sp_ca (s (130 + m)) m x b n = sp_pc m x b n := by unfold sp_ca; rw [if_neg (by unfold sp_und; omega), if_neg (by omega)]
    rw [e9] at kk
    exact kk
set_option maxRecDepth 20000 in
/-- x_turns2 -/
theorem x_turns2 {X9 : rj_X} {σ : rj_H} {d cb vv vk : Nat} {c : rm_R} {s : Int → Int} {m x : Int} {a : Nat} {b : Int → Int} {n : Int} (hd : 4 ≤ d) (hV : rc_V cb vv vk) (hm : rc_mir cb vv vk σ s m a) (hkd : 0 ≤ s (130 + m) ∧ s (130 + m) ≤ 6) (hn : 0 ≤ n ∧ n ≤ 107) : rj_Cl X9 d yX2_turns cX2_turns 3 (some .int) [.ref a, rj_i x, .ref (cb + 63)] (rc_p X9 cb vv vk (rc_tr c b n) σ) (fun w9 τ => w9 = some (rj_i (sp_pt (s (130 + m)) m (s (166 + m)) x b n).1) ∧ τ = rc_p X9 cb vv vk (rc_tr c (sp_pt (s (130 + m)) m (s (166 + m)) x b n).2.1 (sp_pt (s (130 + m)) m (s (166 + m)) x b n).2.2) σ) := by
  obtain ⟨ci, C, T, N, ty, hcl, hmx⟩ := rc_mx (X9 := X9) hm hkd
  refine go_call (by decide +kernel) (Nat.le_of_ble_eq_true rfl) ?_
  refine go_eq (pc' := 0) (lv' := [(0, .ref a), (1, rj_i x), (2, .ref (cb + 63))]) (st' := []) rfl rfl rfl rfl ?_
  refine go_aload_n dX2_turns_0 rfl 2 rfl ?_
  refine go_iconst (v := Int32.ofInt 2) dX2_turns_1 rfl ?_
  refine go_callV (d1 := d - 1) wVX2_36 kX7 (rc_a63 hV) rfl (by omega) (x_add (b := b) (n := n) (z := 2) hV (by omega)) rfl (Nat.le_of_ble_eq_true rfl) dX2_turns_2 (fun w σ1 hP9 => ?_)
  obtain ⟨rfl, rfl⟩ := hP9
  refine go_aload_n dX2_turns_5 rfl 0 rfl ?_
  refine go_iload_n dX2_turns_6 rfl 1 rfl ?_
  refine go_aload_n dX2_turns_7 rfl 2 rfl ?_
  refine rv_casts (x := x) (b := (sp_run b n 2)) (n := (n + 1)) hm hkd (by omega) hV (by omega) (by decide) dX2_turns_8 ?_
  have bn1 := sp_ca_n (s (130 + m)) m x (sp_run b n 2) (n + 1)
  refine go_aload_n dX2_turns_11 rfl 0 rfl ?_
  refine rc_gm hm hkd (k := 7) (by decide) fX2_33 rfl dX2_turns_12 ?_
  refine go_subI dX2_turns_15 ?_
  refine go_retI rfl rfl ?_ dX2_turns_16
  exact ⟨rfl, rfl⟩
set_option maxRecDepth 20000 in
/-- x_turns0 -/
theorem x_turns0 {X9 : rj_X} {σ : rj_H} {d cb vv vk : Nat} {c : rm_R} {s : Int → Int} {m x : Int} {a : Nat} {b : Int → Int} {n : Int} (hd : 5 ≤ d) (hV : rc_V cb vv vk) (hm : rc_mir cb vv vk σ s m a) (hkd : 0 ≤ s (130 + m) ∧ s (130 + m) ≤ 6) (hn : 0 ≤ n ∧ n ≤ 106) : rj_Cl X9 d yX0_turns cX0_turns 3 (some .int) [.ref a, rj_i x, .ref (cb + 63)] (rc_p X9 cb vv vk (rc_tr c b n) σ) (fun w9 τ => w9 = some (rj_i (sp_ft (s (130 + m)) m (s (166 + m)) x b n).1) ∧ τ = rc_p X9 cb vv vk (rc_tr c (sp_ft (s (130 + m)) m (s (166 + m)) x b n).2.1 (sp_ft (s (130 + m)) m (s (166 + m)) x b n).2.2) σ) := by
  obtain ⟨ci, C, T, N, ty, hcl, hmx⟩ := rc_mx (X9 := X9) hm hkd
  refine go_call (by decide +kernel) (Nat.le_of_ble_eq_true rfl) ?_
  refine go_eq (pc' := 0) (lv' := [(0, .ref a), (1, rj_i x), (2, .ref (cb + 63))]) (st' := []) rfl rfl rfl rfl ?_
  refine go_aload_n dX0_turns_0 rfl 2 rfl ?_
  refine go_bipush (v := Int32.ofInt 21) dX0_turns_1 (by decide) ?_
  refine go_callV (d1 := d - 1) wVX0_13 kX7 (rc_a63 hV) rfl (by omega) (x_add (b := b) (n := n) (z := 21) hV (by omega)) rfl (Nat.le_of_ble_eq_true rfl) dX0_turns_3 (fun w σ1 hP9 => ?_)
  obtain ⟨rfl, rfl⟩ := hP9
  refine go_aload_n dX0_turns_6 rfl 0 rfl ?_
  refine go_iload_n dX0_turns_7 rfl 1 rfl ?_
  refine go_aload_n dX0_turns_8 rfl 2 rfl ?_
  refine go_callP (d1 := d - 1) wPX0_19 hcl (hmx _) rfl (by omega) (x_turns2 (x := x) (b := (sp_run b n 21)) (n := (n + 1)) (by omega) hV hm hkd (by omega)) rfl (Nat.le_of_ble_eq_true rfl) dX0_turns_9 (fun w σ1 hP9 => ?_)
  obtain ⟨rfl, rfl⟩ := hP9
  have bn1 := sp_pt_n (s (130 + m)) m (s (166 + m)) x (sp_run b n 21) (n + 1)
  refine go_negI dX0_turns_12 ?_
  refine go_retI rfl rfl ?_ dX0_turns_13
  exact ⟨rfl, rfl⟩
set_option maxRecDepth 20000 in
/-- x_turns6 -/
theorem x_turns6 {X9 : rj_X} {σ : rj_H} {d cb vv vk : Nat} {c : rm_R} {s : Int → Int} {m x : Int} {a : Nat} {b : Int → Int} {n : Int} (hd : 6 ≤ d) (hV : rc_V cb vv vk) (hm : rc_mir cb vv vk σ s m a) (hkd : 0 ≤ s (130 + m) ∧ s (130 + m) ≤ 6) (hn : 0 ≤ n ∧ n ≤ 105) : rj_Cl X9 d yX6_turns cX6_turns 3 (some .int) [.ref a, rj_i x, .ref (cb + 63)] (rc_p X9 cb vv vk (rc_tr c b n) σ) (fun w9 τ => w9 = some (rj_i ((((sp_ft (s (130 + m)) m (s (166 + m)) x (sp_run b n 61) (n + 1)).1 + s (166 + m), (sp_ft (s (130 + m)) m (s (166 + m)) x (sp_run b n 61) (n + 1)).2) : sp_A)).1) ∧ τ = rc_p X9 cb vv vk (rc_tr c ((((sp_ft (s (130 + m)) m (s (166 + m)) x (sp_run b n 61) (n + 1)).1 + s (166 + m), (sp_ft (s (130 + m)) m (s (166 + m)) x (sp_run b n 61) (n + 1)).2) : sp_A)).2.1 ((((sp_ft (s (130 + m)) m (s (166 + m)) x (sp_run b n 61) (n + 1)).1 + s (166 + m), (sp_ft (s (130 + m)) m (s (166 + m)) x (sp_run b n 61) (n + 1)).2) : sp_A)).2.2) σ) := by
  obtain ⟨ci, C, T, N, ty, hcl, hmx⟩ := rc_mx (X9 := X9) hm hkd
  refine go_call (by decide +kernel) (Nat.le_of_ble_eq_true rfl) ?_
  refine go_eq (pc' := 0) (lv' := [(0, .ref a), (1, rj_i x), (2, .ref (cb + 63))]) (st' := []) rfl rfl rfl rfl ?_
  refine go_aload_n dX6_turns_0 rfl 2 rfl ?_
  refine go_bipush (v := Int32.ofInt 61) dX6_turns_1 (by decide) ?_
  refine go_callV (d1 := d - 1) wVX6_13 kX7 (rc_a63 hV) rfl (by omega) (x_add (b := b) (n := n) (z := 61) hV (by omega)) rfl (Nat.le_of_ble_eq_true rfl) dX6_turns_3 (fun w σ1 hP9 => ?_)
  obtain ⟨rfl, rfl⟩ := hP9
  refine go_aload_n dX6_turns_6 rfl 0 rfl ?_
  refine go_iload_n dX6_turns_7 rfl 1 rfl ?_
  refine go_aload_n dX6_turns_8 rfl 2 rfl ?_
  refine go_callP (d1 := d - 1) wPX6_19 hcl (hmx _) rfl (by omega) (x_turns0 (x := x) (b := (sp_run b n 61)) (n := (n + 1)) (by omega) hV hm hkd (by omega)) rfl (Nat.le_of_ble_eq_true rfl) dX6_turns_9 (fun w σ1 hP9 => ?_)
  obtain ⟨rfl, rfl⟩ := hP9
  have bn1 := sp_ft_n (s (130 + m)) m (s (166 + m)) x (sp_run b n 61) (n + 1)
  refine go_aload_n dX6_turns_12 rfl 0 rfl ?_
  refine rc_gm hm hkd (k := 7) (by decide) fX6_7 rfl dX6_turns_13 ?_
  refine go_addI dX6_turns_16 ?_
  refine go_retI rfl rfl ?_ dX6_turns_17
  exact ⟨rfl, rfl⟩
set_option maxRecDepth 20000 in
theorem rv_turns {X9 : rj_X} {nL : Nat} {rt9 : Option FieldType} {d9 : Nat} {P9 : Option Value → rj_H → Prop} {pc : Nat} {lv : List (Nat × Value)} {rest : List Value} {σ : rj_H} {cb vv vk : Nat} {c : rm_R} {s : Int → Int} {m : Int} {a : Nat} (hm : rc_mir cb vv vk σ s m a) (hkd : 0 ≤ s (130 + m) ∧ s (130 + m) ≤ 6) (hd : 7 ≤ d9) {x : Int} {b : Int → Int} {n : Int} (hV : rc_V cb vv vk) (hn : 0 ≤ n ∧ n ≤ 105) (hcat : (rest.map fun v => v.category).sum ≤ 8) (hdg : decode cX2_tells pc = .ok (.invokevirtual 46, 3)) (kk : rj_Go X9 yX2_tells cX2_tells nL rt9 d9 P9 (pc + 3) lv (rj_i (sp_tu (s (130 + m)) m (s (166 + m)) x b n).1 :: rest) (rc_p X9 cb vv vk (rc_tr c (sp_tu (s (130 + m)) m (s (166 + m)) x b n).2.1 (sp_tu (s (130 + m)) m (s (166 + m)) x b n).2.2) σ)) : rj_Go X9 yX2_tells cX2_tells nL rt9 d9 P9 pc lv (.ref (cb + 63) :: rj_i x :: .ref a :: rest) (rc_p X9 cb vv vk (rc_tr c b n) σ) := by
  have ha := rc_ma (X9 := X9) (c := (rc_tr c b n)) hm
  rcases (show s (130 + m) = 0 ∨ s (130 + m) = 1 ∨ s (130 + m) = 2 ∨ s (130 + m) = 3 ∨ s (130 + m) = 4 ∨ s (130 + m) = 5 ∨ s (130 + m) = 6 by omega) with hk | hk | hk | hk | hk | hk | hk
  · have ha2 : (rc_p X9 cb vv vk (rc_tr c b n) σ).2.2 a = some (.inr (2, rc_mf s m)) := by rw [hk] at ha; exact ha
    refine go_callV (d1 := d9 - 1) wVX2_46 kX2 ha2 rfl (by omega) (x_turns2 (x := x) (b := b) (n := n) (by omega) hV hm hkd (by omega)) rfl hcat hdg (fun w σ1 hP9 => ?_)
    obtain ⟨rfl, rfl⟩ := hP9
    have e9 : sp_tu (s (130 + m)) m (s (166 + m)) x b n = sp_pt (s (130 + m)) m (s (166 + m)) x b n := by unfold sp_tu; rw [if_neg (by omega), if_neg (by unfold sp_und; omega)]
    rw [e9] at kk
    exact kk
  · have ha2 : (rc_p X9 cb vv vk (rc_tr c b n) σ).2.2 a = some (.inr (8, rc_mf s m)) := by rw [hk] at ha; exact ha
    refine go_callU (d1 := d9 - 1) wUX2_46_X8 kX8 ha2 rfl (by omega) (x_turns2 (x := x) (b := b) (n := n) (by omega) hV hm hkd (by omega)) rfl hcat hdg (fun w σ1 hP9 => ?_)
    obtain ⟨rfl, rfl⟩ := hP9
    have e9 : sp_tu (s (130 + m)) m (s (166 + m)) x b n = sp_pt (s (130 + m)) m (s (166 + m)) x b n := by unfold sp_tu; rw [if_neg (by omega), if_neg (by unfold sp_und; omega)]
    rw [e9] at kk
    exact kk
  · have ha2 : (rc_p X9 cb vv vk (rc_tr c b n) σ).2.2 a = some (.inr (0, rc_mf s m)) := by rw [hk] at ha; exact ha
    refine go_callU (d1 := d9 - 1) wUX2_46_X0 kX0 ha2 rfl (by omega) (x_turns0 (x := x) (b := b) (n := n) (by omega) hV hm hkd (by omega)) rfl hcat hdg (fun w σ1 hP9 => ?_)
    obtain ⟨rfl, rfl⟩ := hP9
    have e9 : sp_tu (s (130 + m)) m (s (166 + m)) x b n = sp_ft (s (130 + m)) m (s (166 + m)) x b n := by unfold sp_tu; rw [if_neg (by omega), if_pos (by unfold sp_und; omega)]
    rw [e9] at kk
    exact kk
  · have ha2 : (rc_p X9 cb vv vk (rc_tr c b n) σ).2.2 a = some (.inr (3, rc_mf s m)) := by rw [hk] at ha; exact ha
    refine go_callU (d1 := d9 - 1) wUX2_46_X3 kX3 ha2 rfl (by omega) (x_turns2 (x := x) (b := b) (n := n) (by omega) hV hm hkd (by omega)) rfl hcat hdg (fun w σ1 hP9 => ?_)
    obtain ⟨rfl, rfl⟩ := hP9
    have e9 : sp_tu (s (130 + m)) m (s (166 + m)) x b n = sp_pt (s (130 + m)) m (s (166 + m)) x b n := by unfold sp_tu; rw [if_neg (by omega), if_neg (by unfold sp_und; omega)]
    rw [e9] at kk
    exact kk
  · have ha2 : (rc_p X9 cb vv vk (rc_tr c b n) σ).2.2 a = some (.inr (1, rc_mf s m)) := by rw [hk] at ha; exact ha
    refine go_callU (d1 := d9 - 1) wUX2_46_X1 kX1 ha2 rfl (by omega) (x_turns2 (x := x) (b := b) (n := n) (by omega) hV hm hkd (by omega)) rfl hcat hdg (fun w σ1 hP9 => ?_)
    obtain ⟨rfl, rfl⟩ := hP9
    have e9 : sp_tu (s (130 + m)) m (s (166 + m)) x b n = sp_pt (s (130 + m)) m (s (166 + m)) x b n := by unfold sp_tu; rw [if_neg (by omega), if_neg (by unfold sp_und; omega)]
    rw [e9] at kk
    exact kk
  · have ha2 : (rc_p X9 cb vv vk (rc_tr c b n) σ).2.2 a = some (.inr (4, rc_mf s m)) := by rw [hk] at ha; exact ha
    refine go_callU (d1 := d9 - 1) wUX2_46_X4 kX4 ha2 rfl (by omega) (x_turns0 (x := x) (b := b) (n := n) (by omega) hV hm hkd (by omega)) rfl hcat hdg (fun w σ1 hP9 => ?_)
    obtain ⟨rfl, rfl⟩ := hP9
    have e9 : sp_tu (s (130 + m)) m (s (166 + m)) x b n = sp_ft (s (130 + m)) m (s (166 + m)) x b n := by unfold sp_tu; rw [if_neg (by omega), if_pos (by unfold sp_und; omega)]
    rw [e9] at kk
    exact kk
  · have ha2 : (rc_p X9 cb vv vk (rc_tr c b n) σ).2.2 a = some (.inr (6, rc_mf s m)) := by rw [hk] at ha; exact ha
    refine go_callU (d1 := d9 - 1) wUX2_46_X6 kX6 ha2 rfl (by omega) (x_turns6 (x := x) (b := b) (n := n) (by omega) hV hm hkd (by omega)) rfl hcat hdg (fun w σ1 hP9 => ?_)
    obtain ⟨rfl, rfl⟩ := hP9
    have e9 : sp_tu (s (130 + m)) m (s (166 + m)) x b n = (((sp_ft (s (130 + m)) m (s (166 + m)) x (sp_run b n 61) (n + 1)).1 + s (166 + m), (sp_ft (s (130 + m)) m (s (166 + m)) x (sp_run b n 61) (n + 1)).2) : sp_A) := by unfold sp_tu; rw [if_pos (by omega)]
    rw [e9] at kk
    exact kk
set_option maxRecDepth 20000 in
/-- x_tells2 -/
theorem x_tells2 {X9 : rj_X} {σ : rj_H} {d cb vv vk : Nat} {c : rm_R} {s : Int → Int} {m x : Int} {a : Nat} {b : Int → Int} {n : Int} (hd : 8 ≤ d) (hV : rc_V cb vv vk) (hm : rc_mir cb vv vk σ s m a) (hkd : 0 ≤ s (130 + m) ∧ s (130 + m) ≤ 6) (hn : 0 ≤ n ∧ n ≤ 104) : rj_Cl X9 d yX2_tells cX2_tells 3 (some .int) [.ref a, rj_i x, .ref (cb + 63)] (rc_p X9 cb vv vk (rc_tr c b n) σ) (fun w9 τ => w9 = some (rj_i (sp_pl (s (130 + m)) m (s (166 + m)) x b n).1) ∧ τ = rc_p X9 cb vv vk (rc_tr c (sp_pl (s (130 + m)) m (s (166 + m)) x b n).2.1 (sp_pl (s (130 + m)) m (s (166 + m)) x b n).2.2) σ) := by
  obtain ⟨ci, C, T, N, ty, hcl, hmx⟩ := rc_mx (X9 := X9) hm hkd
  refine go_call (by decide +kernel) (Nat.le_of_ble_eq_true rfl) ?_
  refine go_eq (pc' := 0) (lv' := [(0, .ref a), (1, rj_i x), (2, .ref (cb + 63))]) (st' := []) rfl rfl rfl rfl ?_
  refine go_aload_n dX2_tells_0 rfl 2 rfl ?_
  refine go_iconst (v := Int32.ofInt 3) dX2_tells_1 rfl ?_
  refine go_callV (d1 := d - 1) wVX2_36 kX7 (rc_a63 hV) rfl (by omega) (x_add (b := b) (n := n) (z := 3) hV (by omega)) rfl (Nat.le_of_ble_eq_true rfl) dX2_tells_2 (fun w σ1 hP9 => ?_)
  obtain ⟨rfl, rfl⟩ := hP9
  refine go_aload_n dX2_tells_5 rfl 0 rfl ?_
  refine go_iload_n dX2_tells_6 rfl 1 rfl ?_
  refine go_aload_n dX2_tells_7 rfl 2 rfl ?_
  refine rv_turns (x := x) (b := (sp_run b n 3)) (n := (n + 1)) hm hkd (by omega) hV (by omega) (by decide) dX2_tells_8 ?_
  have bn1 := sp_tu_n (s (130 + m)) m (s (166 + m)) x (sp_run b n 3) (n + 1)
  refine go_iconst (v := Int32.ofInt 2) dX2_tells_11 rfl ?_
  refine go_mulI dX2_tells_12 ?_
  refine go_retI rfl rfl ?_ dX2_tells_13
  exact ⟨rfl, rfl⟩
set_option maxRecDepth 20000 in
/-- x_tells3 -/
theorem x_tells3 {X9 : rj_X} {σ : rj_H} {d cb vv vk : Nat} {c : rm_R} {s : Int → Int} {m x : Int} {a : Nat} {b : Int → Int} {n : Int} (hd : 9 ≤ d) (hV : rc_V cb vv vk) (hm : rc_mir cb vv vk σ s m a) (hkd : 0 ≤ s (130 + m) ∧ s (130 + m) ≤ 6) (hn : 0 ≤ n ∧ n ≤ 103) : rj_Cl X9 d yX3_tells cX3_tells 3 (some .int) [.ref a, rj_i x, .ref (cb + 63)] (rc_p X9 cb vv vk (rc_tr c b n) σ) (fun w9 τ => w9 = some (rj_i (((sp_xor (sp_pl (s (130 + m)) m (s (166 + m)) x (sp_run b n 31) (n + 1)).1 7, (sp_pl (s (130 + m)) m (s (166 + m)) x (sp_run b n 31) (n + 1)).2) : sp_A)).1) ∧ τ = rc_p X9 cb vv vk (rc_tr c (((sp_xor (sp_pl (s (130 + m)) m (s (166 + m)) x (sp_run b n 31) (n + 1)).1 7, (sp_pl (s (130 + m)) m (s (166 + m)) x (sp_run b n 31) (n + 1)).2) : sp_A)).2.1 (((sp_xor (sp_pl (s (130 + m)) m (s (166 + m)) x (sp_run b n 31) (n + 1)).1 7, (sp_pl (s (130 + m)) m (s (166 + m)) x (sp_run b n 31) (n + 1)).2) : sp_A)).2.2) σ) := by
  obtain ⟨ci, C, T, N, ty, hcl, hmx⟩ := rc_mx (X9 := X9) hm hkd
  refine go_call (by decide +kernel) (Nat.le_of_ble_eq_true rfl) ?_
  refine go_eq (pc' := 0) (lv' := [(0, .ref a), (1, rj_i x), (2, .ref (cb + 63))]) (st' := []) rfl rfl rfl rfl ?_
  refine go_aload_n dX3_tells_0 rfl 2 rfl ?_
  refine go_bipush (v := Int32.ofInt 31) dX3_tells_1 (by decide) ?_
  refine go_callV (d1 := d - 1) wVX3_26 kX7 (rc_a63 hV) rfl (by omega) (x_add (b := b) (n := n) (z := 31) hV (by omega)) rfl (Nat.le_of_ble_eq_true rfl) dX3_tells_3 (fun w σ1 hP9 => ?_)
  obtain ⟨rfl, rfl⟩ := hP9
  refine go_aload_n dX3_tells_6 rfl 0 rfl ?_
  refine go_iload_n dX3_tells_7 rfl 1 rfl ?_
  refine go_aload_n dX3_tells_8 rfl 2 rfl ?_
  refine go_callQ (d1 := d - 1) wQX3_32 hcl (hmx _) rfl (by omega) (x_tells2 (x := x) (b := (sp_run b n 31)) (n := (n + 1)) (by omega) hV hm hkd (by omega)) rfl (Nat.le_of_ble_eq_true rfl) dX3_tells_9 (fun w σ1 hP9 => ?_)
  obtain ⟨rfl, rfl⟩ := hP9
  have bn1 := sp_pl_n (s (130 + m)) m (s (166 + m)) x (sp_run b n 31) (n + 1)
  refine go_bipush (v := Int32.ofInt 7) dX3_tells_12 (by decide) ?_
  refine go_xorI dX3_tells_14 ?_
  refine go_retI rfl rfl ?_ dX3_tells_15
  exact ⟨rfl, rfl⟩
set_option maxRecDepth 20000 in
/-- x_tells1 -/
theorem x_tells1 {X9 : rj_X} {σ : rj_H} {d cb vv vk : Nat} {c : rm_R} {s : Int → Int} {m x : Int} {a : Nat} {b : Int → Int} {n : Int} (hd : 9 ≤ d) (hV : rc_V cb vv vk) (hm : rc_mir cb vv vk σ s m a) (hkd : 0 ≤ s (130 + m) ∧ s (130 + m) ≤ 6) (hn : 0 ≤ n ∧ n ≤ 100) (hk4 : s (130 + m) = 4) : rj_Cl X9 d yX1_tells cX1_tells 3 (some .int) [.ref a, rj_i x, .ref (cb + 63)] (rc_p X9 cb vv vk (rc_tr c b n) σ) (fun w9 τ => w9 = some (rj_i ((((sp_pl (s (130 + m)) m (s (166 + m)) (x - 1) (sp_run b n 41) (n + 1)).1 + (sp_ca (s (130 + m)) m 2 (sp_pl (s (130 + m)) m (s (166 + m)) (x - 1) (sp_run b n 41) (n + 1)).2.1 (sp_pl (s (130 + m)) m (s (166 + m)) (x - 1) (sp_run b n 41) (n + 1)).2.2).1, (sp_ca (s (130 + m)) m 2 (sp_pl (s (130 + m)) m (s (166 + m)) (x - 1) (sp_run b n 41) (n + 1)).2.1 (sp_pl (s (130 + m)) m (s (166 + m)) (x - 1) (sp_run b n 41) (n + 1)).2.2).2) : sp_A)).1) ∧ τ = rc_p X9 cb vv vk (rc_tr c ((((sp_pl (s (130 + m)) m (s (166 + m)) (x - 1) (sp_run b n 41) (n + 1)).1 + (sp_ca (s (130 + m)) m 2 (sp_pl (s (130 + m)) m (s (166 + m)) (x - 1) (sp_run b n 41) (n + 1)).2.1 (sp_pl (s (130 + m)) m (s (166 + m)) (x - 1) (sp_run b n 41) (n + 1)).2.2).1, (sp_ca (s (130 + m)) m 2 (sp_pl (s (130 + m)) m (s (166 + m)) (x - 1) (sp_run b n 41) (n + 1)).2.1 (sp_pl (s (130 + m)) m (s (166 + m)) (x - 1) (sp_run b n 41) (n + 1)).2.2).2) : sp_A)).2.1 ((((sp_pl (s (130 + m)) m (s (166 + m)) (x - 1) (sp_run b n 41) (n + 1)).1 + (sp_ca (s (130 + m)) m 2 (sp_pl (s (130 + m)) m (s (166 + m)) (x - 1) (sp_run b n 41) (n + 1)).2.1 (sp_pl (s (130 + m)) m (s (166 + m)) (x - 1) (sp_run b n 41) (n + 1)).2.2).1, (sp_ca (s (130 + m)) m 2 (sp_pl (s (130 + m)) m (s (166 + m)) (x - 1) (sp_run b n 41) (n + 1)).2.1 (sp_pl (s (130 + m)) m (s (166 + m)) (x - 1) (sp_run b n 41) (n + 1)).2.2).2) : sp_A)).2.2) σ) := by
  obtain ⟨ci, C, T, N, ty, hcl, hmx⟩ := rc_mx (X9 := X9) hm hkd
  have hmy : ∀ c : rm_R, (rc_p X9 cb vv vk c σ).2.2 a = some (.inr (1, rc_mf s m)) := fun c => by have h := rc_ma (X9 := X9) (c := c) hm; rw [hk4] at h; exact h
  refine go_call (by decide +kernel) (Nat.le_of_ble_eq_true rfl) ?_
  refine go_eq (pc' := 0) (lv' := [(0, .ref a), (1, rj_i x), (2, .ref (cb + 63))]) (st' := []) rfl rfl rfl rfl ?_
  refine go_aload_n dX1_tells_0 rfl 2 rfl ?_
  refine go_bipush (v := Int32.ofInt 41) dX1_tells_1 (by decide) ?_
  refine go_callV (d1 := d - 1) wVX1_29 kX7 (rc_a63 hV) rfl (by omega) (x_add (b := b) (n := n) (z := 41) hV (by omega)) rfl (Nat.le_of_ble_eq_true rfl) dX1_tells_3 (fun w σ1 hP9 => ?_)
  obtain ⟨rfl, rfl⟩ := hP9
  refine go_aload_n dX1_tells_6 rfl 0 rfl ?_
  refine go_iload_n dX1_tells_7 rfl 1 rfl ?_
  refine go_iconst (v := Int32.ofInt 1) dX1_tells_8 rfl ?_
  refine go_subI dX1_tells_9 ?_
  refine go_aload_n dX1_tells_10 rfl 2 rfl ?_
  refine go_callQ (d1 := d - 1) wQX1_35 hcl (hmx _) rfl (by omega) (x_tells2 (x := (x - 1)) (b := (sp_run b n 41)) (n := (n + 1)) (by omega) hV hm hkd (by omega)) rfl (Nat.le_of_ble_eq_true rfl) dX1_tells_11 (fun w σ1 hP9 => ?_)
  obtain ⟨rfl, rfl⟩ := hP9
  have bn1 := sp_pl_n (s (130 + m)) m (s (166 + m)) (x - 1) (sp_run b n 41) (n + 1)
  refine go_aload_n dX1_tells_14 rfl 0 rfl ?_
  refine go_iconst (v := Int32.ofInt 2) dX1_tells_15 rfl ?_
  refine go_aload_n dX1_tells_16 rfl 2 rfl ?_
  have hxc := x_casts8 (X9 := X9) (d := d - 1) (σ := σ) (c := c) (x := 2) (b := ((sp_pl (s (130 + m)) m (s (166 + m)) (x - 1) (sp_run b n 41) (n + 1)).2.1)) (n := ((sp_pl (s (130 + m)) m (s (166 + m)) (x - 1) (sp_run b n 41) (n + 1)).2.2)) (by omega) hV hm hkd (by omega)
  refine go_callU (d1 := d - 1) wUX1_39_X1 kX1 (hmy _) rfl (by omega) (hxc) rfl (Nat.le_of_ble_eq_true rfl) dX1_tells_17 (fun w σ1 hP9 => ?_)
  obtain ⟨rfl, rfl⟩ := hP9
  rw [show (sp_pc m (2 * 3) (sp_run ((sp_pl (s (130 + m)) m (s (166 + m)) (x - 1) (sp_run b n 41) (n + 1)).2.1) ((sp_pl (s (130 + m)) m (s (166 + m)) (x - 1) (sp_run b n 41) (n + 1)).2.2) 11) (((sp_pl (s (130 + m)) m (s (166 + m)) (x - 1) (sp_run b n 41) (n + 1)).2.2) + 1)) = sp_ca (s (130 + m)) m 2 ((sp_pl (s (130 + m)) m (s (166 + m)) (x - 1) (sp_run b n 41) (n + 1)).2.1) ((sp_pl (s (130 + m)) m (s (166 + m)) (x - 1) (sp_run b n 41) (n + 1)).2.2) from by unfold sp_ca; rw [if_pos (by unfold sp_und; omega)]]
  have bn2 := sp_ca_n (s (130 + m)) m 2 ((sp_pl (s (130 + m)) m (s (166 + m)) (x - 1) (sp_run b n 41) (n + 1)).2.1) ((sp_pl (s (130 + m)) m (s (166 + m)) (x - 1) (sp_run b n 41) (n + 1)).2.2)
  refine go_addI dX1_tells_20 ?_
  refine go_retI rfl rfl ?_ dX1_tells_21
  exact ⟨rfl, rfl⟩
set_option maxRecDepth 20000 in
theorem rv_actc {X9 : rj_X} {nL : Nat} {rt9 : Option FieldType} {d9 : Nat} {P9 : Option Value → rj_H → Prop} {pc : Nat} {lv : List (Nat × Value)} {rest : List Value} {σ : rj_H} {cb vv vk : Nat} {c : rm_R} {s : Int → Int} {m : Int} {a : Nat} (hm : rc_mir cb vv vk σ s m a) (hkd : 0 ≤ s (130 + m) ∧ s (130 + m) ≤ 6) (hd : 10 ≤ d9) {x : Int} {b : Int → Int} {n : Int} (hV : rc_V cb vv vk) (hn : 0 ≤ n ∧ n ≤ 100) (hcat : (rest.map fun v => v.category).sum ≤ 8) (hdg : decode cX11_act pc = .ok (.invokevirtual 270, 3)) (kk : rj_Go X9 yX11_act cX11_act nL rt9 d9 P9 (pc + 3) lv (rj_i (sp_ca (s (130 + m)) m x b n).1 :: rest) (rc_p X9 cb vv vk (rc_tr c (sp_ca (s (130 + m)) m x b n).2.1 (sp_ca (s (130 + m)) m x b n).2.2) σ)) : rj_Go X9 yX11_act cX11_act nL rt9 d9 P9 pc lv (.ref (cb + 63) :: rj_i x :: .ref a :: rest) (rc_p X9 cb vv vk (rc_tr c b n) σ) := by
  have ha := rc_ma (X9 := X9) (c := (rc_tr c b n)) hm
  rcases (show s (130 + m) = 0 ∨ s (130 + m) = 1 ∨ s (130 + m) = 2 ∨ s (130 + m) = 3 ∨ s (130 + m) = 4 ∨ s (130 + m) = 5 ∨ s (130 + m) = 6 by omega) with hk | hk | hk | hk | hk | hk | hk
  · have ha2 : (rc_p X9 cb vv vk (rc_tr c b n) σ).2.2 a = some (.inr (2, rc_mf s m)) := by rw [hk] at ha; exact ha
    refine go_callV (d1 := d9 - 1) wVX11_270 kX2 ha2 rfl (by omega) (x_casts2 (x := x) (b := b) (n := n) (by omega) hV hm hkd (by omega)) rfl hcat hdg (fun w σ1 hP9 => ?_)
    obtain ⟨rfl, rfl⟩ := hP9
    have e9 : sp_ca (s (130 + m)) m x b n = sp_pc m x b n := by unfold sp_ca; rw [if_neg (by unfold sp_und; omega), if_neg (by omega)]
    rw [e9] at kk
    exact kk
  · have ha2 : (rc_p X9 cb vv vk (rc_tr c b n) σ).2.2 a = some (.inr (8, rc_mf s m)) := by rw [hk] at ha; exact ha
    refine go_callU (d1 := d9 - 1) wUX11_270_X8 kX8 ha2 rfl (by omega) (x_casts8 (x := x) (b := b) (n := n) (by omega) hV hm hkd (by omega)) rfl hcat hdg (fun w σ1 hP9 => ?_)
    obtain ⟨rfl, rfl⟩ := hP9
    have e9 : sp_ca (s (130 + m)) m x b n = sp_pc m (x * 3) (sp_run b n 11) (n + 1) := by unfold sp_ca; rw [if_pos (by unfold sp_und; omega)]
    rw [e9] at kk
    exact kk
  · have ha2 : (rc_p X9 cb vv vk (rc_tr c b n) σ).2.2 a = some (.inr (0, rc_mf s m)) := by rw [hk] at ha; exact ha
    refine go_callU (d1 := d9 - 1) wUX11_270_X0 kX0 ha2 rfl (by omega) (x_casts2 (x := x) (b := b) (n := n) (by omega) hV hm hkd (by omega)) rfl hcat hdg (fun w σ1 hP9 => ?_)
    obtain ⟨rfl, rfl⟩ := hP9
    have e9 : sp_ca (s (130 + m)) m x b n = sp_pc m x b n := by unfold sp_ca; rw [if_neg (by unfold sp_und; omega), if_neg (by omega)]
    rw [e9] at kk
    exact kk
  · have ha2 : (rc_p X9 cb vv vk (rc_tr c b n) σ).2.2 a = some (.inr (3, rc_mf s m)) := by rw [hk] at ha; exact ha
    refine go_callU (d1 := d9 - 1) wUX11_270_X3 kX3 ha2 rfl (by omega) (x_casts8 (x := x) (b := b) (n := n) (by omega) hV hm hkd (by omega)) rfl hcat hdg (fun w σ1 hP9 => ?_)
    obtain ⟨rfl, rfl⟩ := hP9
    have e9 : sp_ca (s (130 + m)) m x b n = sp_pc m (x * 3) (sp_run b n 11) (n + 1) := by unfold sp_ca; rw [if_pos (by unfold sp_und; omega)]
    rw [e9] at kk
    exact kk
  · have ha2 : (rc_p X9 cb vv vk (rc_tr c b n) σ).2.2 a = some (.inr (1, rc_mf s m)) := by rw [hk] at ha; exact ha
    refine go_callU (d1 := d9 - 1) wUX11_270_X1 kX1 ha2 rfl (by omega) (x_casts8 (x := x) (b := b) (n := n) (by omega) hV hm hkd (by omega)) rfl hcat hdg (fun w σ1 hP9 => ?_)
    obtain ⟨rfl, rfl⟩ := hP9
    have e9 : sp_ca (s (130 + m)) m x b n = sp_pc m (x * 3) (sp_run b n 11) (n + 1) := by unfold sp_ca; rw [if_pos (by unfold sp_und; omega)]
    rw [e9] at kk
    exact kk
  · have ha2 : (rc_p X9 cb vv vk (rc_tr c b n) σ).2.2 a = some (.inr (4, rc_mf s m)) := by rw [hk] at ha; exact ha
    refine go_callU (d1 := d9 - 1) wUX11_270_X4 kX4 ha2 rfl (by omega) (x_casts4 (x := x) (b := b) (n := n) (by omega) hV hm hkd (by omega)) rfl hcat hdg (fun w σ1 hP9 => ?_)
    obtain ⟨rfl, rfl⟩ := hP9
    have e9 : sp_ca (s (130 + m)) m x b n = ((sp_xor (sp_pc m x (sp_run b n 51) (n + 1)).1 m, (sp_pc m x (sp_run b n 51) (n + 1)).2) : sp_A) := by unfold sp_ca; rw [if_neg (by unfold sp_und; omega), if_pos (by omega)]
    rw [e9] at kk
    exact kk
  · have ha2 : (rc_p X9 cb vv vk (rc_tr c b n) σ).2.2 a = some (.inr (6, rc_mf s m)) := by rw [hk] at ha; exact ha
    refine go_callU (d1 := d9 - 1) wUX11_270_X6 kX6 ha2 rfl (by omega) (x_casts2 (x := x) (b := b) (n := n) (by omega) hV hm hkd (by omega)) rfl hcat hdg (fun w σ1 hP9 => ?_)
    obtain ⟨rfl, rfl⟩ := hP9
    have e9 : sp_ca (s (130 + m)) m x b n = sp_pc m x b n := by unfold sp_ca; rw [if_neg (by unfold sp_und; omega), if_neg (by omega)]
    rw [e9] at kk
    exact kk
set_option maxRecDepth 20000 in
theorem rv_actt {X9 : rj_X} {nL : Nat} {rt9 : Option FieldType} {d9 : Nat} {P9 : Option Value → rj_H → Prop} {pc : Nat} {lv : List (Nat × Value)} {rest : List Value} {σ : rj_H} {cb vv vk : Nat} {c : rm_R} {s : Int → Int} {m : Int} {a : Nat} (hm : rc_mir cb vv vk σ s m a) (hkd : 0 ≤ s (130 + m) ∧ s (130 + m) ≤ 6) (hd : 10 ≤ d9) {x : Int} {b : Int → Int} {n : Int} (hV : rc_V cb vv vk) (hn : 0 ≤ n ∧ n ≤ 100) (hcat : (rest.map fun v => v.category).sum ≤ 8) (hdg : decode cX11_act pc = .ok (.invokevirtual 274, 3)) (kk : rj_Go X9 yX11_act cX11_act nL rt9 d9 P9 (pc + 3) lv (rj_i (sp_tu (s (130 + m)) m (s (166 + m)) x b n).1 :: rest) (rc_p X9 cb vv vk (rc_tr c (sp_tu (s (130 + m)) m (s (166 + m)) x b n).2.1 (sp_tu (s (130 + m)) m (s (166 + m)) x b n).2.2) σ)) : rj_Go X9 yX11_act cX11_act nL rt9 d9 P9 pc lv (.ref (cb + 63) :: rj_i x :: .ref a :: rest) (rc_p X9 cb vv vk (rc_tr c b n) σ) := by
  have ha := rc_ma (X9 := X9) (c := (rc_tr c b n)) hm
  rcases (show s (130 + m) = 0 ∨ s (130 + m) = 1 ∨ s (130 + m) = 2 ∨ s (130 + m) = 3 ∨ s (130 + m) = 4 ∨ s (130 + m) = 5 ∨ s (130 + m) = 6 by omega) with hk | hk | hk | hk | hk | hk | hk
  · have ha2 : (rc_p X9 cb vv vk (rc_tr c b n) σ).2.2 a = some (.inr (2, rc_mf s m)) := by rw [hk] at ha; exact ha
    refine go_callV (d1 := d9 - 1) wVX11_274 kX2 ha2 rfl (by omega) (x_turns2 (x := x) (b := b) (n := n) (by omega) hV hm hkd (by omega)) rfl hcat hdg (fun w σ1 hP9 => ?_)
    obtain ⟨rfl, rfl⟩ := hP9
    have e9 : sp_tu (s (130 + m)) m (s (166 + m)) x b n = sp_pt (s (130 + m)) m (s (166 + m)) x b n := by unfold sp_tu; rw [if_neg (by omega), if_neg (by unfold sp_und; omega)]
    rw [e9] at kk
    exact kk
  · have ha2 : (rc_p X9 cb vv vk (rc_tr c b n) σ).2.2 a = some (.inr (8, rc_mf s m)) := by rw [hk] at ha; exact ha
    refine go_callU (d1 := d9 - 1) wUX11_274_X8 kX8 ha2 rfl (by omega) (x_turns2 (x := x) (b := b) (n := n) (by omega) hV hm hkd (by omega)) rfl hcat hdg (fun w σ1 hP9 => ?_)
    obtain ⟨rfl, rfl⟩ := hP9
    have e9 : sp_tu (s (130 + m)) m (s (166 + m)) x b n = sp_pt (s (130 + m)) m (s (166 + m)) x b n := by unfold sp_tu; rw [if_neg (by omega), if_neg (by unfold sp_und; omega)]
    rw [e9] at kk
    exact kk
  · have ha2 : (rc_p X9 cb vv vk (rc_tr c b n) σ).2.2 a = some (.inr (0, rc_mf s m)) := by rw [hk] at ha; exact ha
    refine go_callU (d1 := d9 - 1) wUX11_274_X0 kX0 ha2 rfl (by omega) (x_turns0 (x := x) (b := b) (n := n) (by omega) hV hm hkd (by omega)) rfl hcat hdg (fun w σ1 hP9 => ?_)
    obtain ⟨rfl, rfl⟩ := hP9
    have e9 : sp_tu (s (130 + m)) m (s (166 + m)) x b n = sp_ft (s (130 + m)) m (s (166 + m)) x b n := by unfold sp_tu; rw [if_neg (by omega), if_pos (by unfold sp_und; omega)]
    rw [e9] at kk
    exact kk
  · have ha2 : (rc_p X9 cb vv vk (rc_tr c b n) σ).2.2 a = some (.inr (3, rc_mf s m)) := by rw [hk] at ha; exact ha
    refine go_callU (d1 := d9 - 1) wUX11_274_X3 kX3 ha2 rfl (by omega) (x_turns2 (x := x) (b := b) (n := n) (by omega) hV hm hkd (by omega)) rfl hcat hdg (fun w σ1 hP9 => ?_)
    obtain ⟨rfl, rfl⟩ := hP9
    have e9 : sp_tu (s (130 + m)) m (s (166 + m)) x b n = sp_pt (s (130 + m)) m (s (166 + m)) x b n := by unfold sp_tu; rw [if_neg (by omega), if_neg (by unfold sp_und; omega)]
    rw [e9] at kk
    exact kk
  · have ha2 : (rc_p X9 cb vv vk (rc_tr c b n) σ).2.2 a = some (.inr (1, rc_mf s m)) := by rw [hk] at ha; exact ha
    refine go_callU (d1 := d9 - 1) wUX11_274_X1 kX1 ha2 rfl (by omega) (x_turns2 (x := x) (b := b) (n := n) (by omega) hV hm hkd (by omega)) rfl hcat hdg (fun w σ1 hP9 => ?_)
    obtain ⟨rfl, rfl⟩ := hP9
    have e9 : sp_tu (s (130 + m)) m (s (166 + m)) x b n = sp_pt (s (130 + m)) m (s (166 + m)) x b n := by unfold sp_tu; rw [if_neg (by omega), if_neg (by unfold sp_und; omega)]
    rw [e9] at kk
    exact kk
  · have ha2 : (rc_p X9 cb vv vk (rc_tr c b n) σ).2.2 a = some (.inr (4, rc_mf s m)) := by rw [hk] at ha; exact ha
    refine go_callU (d1 := d9 - 1) wUX11_274_X4 kX4 ha2 rfl (by omega) (x_turns0 (x := x) (b := b) (n := n) (by omega) hV hm hkd (by omega)) rfl hcat hdg (fun w σ1 hP9 => ?_)
    obtain ⟨rfl, rfl⟩ := hP9
    have e9 : sp_tu (s (130 + m)) m (s (166 + m)) x b n = sp_ft (s (130 + m)) m (s (166 + m)) x b n := by unfold sp_tu; rw [if_neg (by omega), if_pos (by unfold sp_und; omega)]
    rw [e9] at kk
    exact kk
  · have ha2 : (rc_p X9 cb vv vk (rc_tr c b n) σ).2.2 a = some (.inr (6, rc_mf s m)) := by rw [hk] at ha; exact ha
    refine go_callU (d1 := d9 - 1) wUX11_274_X6 kX6 ha2 rfl (by omega) (x_turns6 (x := x) (b := b) (n := n) (by omega) hV hm hkd (by omega)) rfl hcat hdg (fun w σ1 hP9 => ?_)
    obtain ⟨rfl, rfl⟩ := hP9
    have e9 : sp_tu (s (130 + m)) m (s (166 + m)) x b n = (((sp_ft (s (130 + m)) m (s (166 + m)) x (sp_run b n 61) (n + 1)).1 + s (166 + m), (sp_ft (s (130 + m)) m (s (166 + m)) x (sp_run b n 61) (n + 1)).2) : sp_A) := by unfold sp_tu; rw [if_pos (by omega)]
    rw [e9] at kk
    exact kk
set_option maxRecDepth 20000 in
theorem rv_actl {X9 : rj_X} {nL : Nat} {rt9 : Option FieldType} {d9 : Nat} {P9 : Option Value → rj_H → Prop} {pc : Nat} {lv : List (Nat × Value)} {rest : List Value} {σ : rj_H} {cb vv vk : Nat} {c : rm_R} {s : Int → Int} {m : Int} {a : Nat} (hm : rc_mir cb vv vk σ s m a) (hkd : 0 ≤ s (130 + m) ∧ s (130 + m) ≤ 6) (hd : 10 ≤ d9) {x : Int} {b : Int → Int} {n : Int} (hV : rc_V cb vv vk) (hn : 0 ≤ n ∧ n ≤ 100) (hcat : (rest.map fun v => v.category).sum ≤ 8) (hdg : decode cX11_act pc = .ok (.invokevirtual 277, 3)) (kk : rj_Go X9 yX11_act cX11_act nL rt9 d9 P9 (pc + 3) lv (rj_i (sp_te (s (130 + m)) m (s (166 + m)) x b n).1 :: rest) (rc_p X9 cb vv vk (rc_tr c (sp_te (s (130 + m)) m (s (166 + m)) x b n).2.1 (sp_te (s (130 + m)) m (s (166 + m)) x b n).2.2) σ)) : rj_Go X9 yX11_act cX11_act nL rt9 d9 P9 pc lv (.ref (cb + 63) :: rj_i x :: .ref a :: rest) (rc_p X9 cb vv vk (rc_tr c b n) σ) := by
  have ha := rc_ma (X9 := X9) (c := (rc_tr c b n)) hm
  rcases (show s (130 + m) = 0 ∨ s (130 + m) = 1 ∨ s (130 + m) = 2 ∨ s (130 + m) = 3 ∨ s (130 + m) = 4 ∨ s (130 + m) = 5 ∨ s (130 + m) = 6 by omega) with hk | hk | hk | hk | hk | hk | hk
  · have ha2 : (rc_p X9 cb vv vk (rc_tr c b n) σ).2.2 a = some (.inr (2, rc_mf s m)) := by rw [hk] at ha; exact ha
    refine go_callV (d1 := d9 - 1) wVX11_277 kX2 ha2 rfl (by omega) (x_tells2 (x := x) (b := b) (n := n) (by omega) hV hm hkd (by omega)) rfl hcat hdg (fun w σ1 hP9 => ?_)
    obtain ⟨rfl, rfl⟩ := hP9
    have e9 : sp_te (s (130 + m)) m (s (166 + m)) x b n = sp_pl (s (130 + m)) m (s (166 + m)) x b n := by unfold sp_te; rw [if_neg (by omega), if_neg (by omega)]
    rw [e9] at kk
    exact kk
  · have ha2 : (rc_p X9 cb vv vk (rc_tr c b n) σ).2.2 a = some (.inr (8, rc_mf s m)) := by rw [hk] at ha; exact ha
    refine go_callU (d1 := d9 - 1) wUX11_277_X8 kX8 ha2 rfl (by omega) (x_tells2 (x := x) (b := b) (n := n) (by omega) hV hm hkd (by omega)) rfl hcat hdg (fun w σ1 hP9 => ?_)
    obtain ⟨rfl, rfl⟩ := hP9
    have e9 : sp_te (s (130 + m)) m (s (166 + m)) x b n = sp_pl (s (130 + m)) m (s (166 + m)) x b n := by unfold sp_te; rw [if_neg (by omega), if_neg (by omega)]
    rw [e9] at kk
    exact kk
  · have ha2 : (rc_p X9 cb vv vk (rc_tr c b n) σ).2.2 a = some (.inr (0, rc_mf s m)) := by rw [hk] at ha; exact ha
    refine go_callU (d1 := d9 - 1) wUX11_277_X0 kX0 ha2 rfl (by omega) (x_tells2 (x := x) (b := b) (n := n) (by omega) hV hm hkd (by omega)) rfl hcat hdg (fun w σ1 hP9 => ?_)
    obtain ⟨rfl, rfl⟩ := hP9
    have e9 : sp_te (s (130 + m)) m (s (166 + m)) x b n = sp_pl (s (130 + m)) m (s (166 + m)) x b n := by unfold sp_te; rw [if_neg (by omega), if_neg (by omega)]
    rw [e9] at kk
    exact kk
  · have ha2 : (rc_p X9 cb vv vk (rc_tr c b n) σ).2.2 a = some (.inr (3, rc_mf s m)) := by rw [hk] at ha; exact ha
    refine go_callU (d1 := d9 - 1) wUX11_277_X3 kX3 ha2 rfl (by omega) (x_tells3 (x := x) (b := b) (n := n) (by omega) hV hm hkd (by omega)) rfl hcat hdg (fun w σ1 hP9 => ?_)
    obtain ⟨rfl, rfl⟩ := hP9
    have e9 : sp_te (s (130 + m)) m (s (166 + m)) x b n = ((sp_xor (sp_pl (s (130 + m)) m (s (166 + m)) x (sp_run b n 31) (n + 1)).1 7, (sp_pl (s (130 + m)) m (s (166 + m)) x (sp_run b n 31) (n + 1)).2) : sp_A) := by unfold sp_te; rw [if_pos (by omega)]
    rw [e9] at kk
    exact kk
  · have ha2 : (rc_p X9 cb vv vk (rc_tr c b n) σ).2.2 a = some (.inr (1, rc_mf s m)) := by rw [hk] at ha; exact ha
    refine go_callU (d1 := d9 - 1) wUX11_277_X1 kX1 ha2 rfl (by omega) (x_tells1 (x := x) (b := b) (n := n) (by omega) hV hm hkd (by omega) (by omega)) rfl hcat hdg (fun w σ1 hP9 => ?_)
    obtain ⟨rfl, rfl⟩ := hP9
    have e9 : sp_te (s (130 + m)) m (s (166 + m)) x b n = (((sp_pl (s (130 + m)) m (s (166 + m)) (x - 1) (sp_run b n 41) (n + 1)).1 + (sp_ca (s (130 + m)) m 2 (sp_pl (s (130 + m)) m (s (166 + m)) (x - 1) (sp_run b n 41) (n + 1)).2.1 (sp_pl (s (130 + m)) m (s (166 + m)) (x - 1) (sp_run b n 41) (n + 1)).2.2).1, (sp_ca (s (130 + m)) m 2 (sp_pl (s (130 + m)) m (s (166 + m)) (x - 1) (sp_run b n 41) (n + 1)).2.1 (sp_pl (s (130 + m)) m (s (166 + m)) (x - 1) (sp_run b n 41) (n + 1)).2.2).2) : sp_A) := by unfold sp_te; rw [if_neg (by omega), if_pos (by omega)]
    rw [e9] at kk
    exact kk
  · have ha2 : (rc_p X9 cb vv vk (rc_tr c b n) σ).2.2 a = some (.inr (4, rc_mf s m)) := by rw [hk] at ha; exact ha
    refine go_callU (d1 := d9 - 1) wUX11_277_X4 kX4 ha2 rfl (by omega) (x_tells2 (x := x) (b := b) (n := n) (by omega) hV hm hkd (by omega)) rfl hcat hdg (fun w σ1 hP9 => ?_)
    obtain ⟨rfl, rfl⟩ := hP9
    have e9 : sp_te (s (130 + m)) m (s (166 + m)) x b n = sp_pl (s (130 + m)) m (s (166 + m)) x b n := by unfold sp_te; rw [if_neg (by omega), if_neg (by omega)]
    rw [e9] at kk
    exact kk
  · have ha2 : (rc_p X9 cb vv vk (rc_tr c b n) σ).2.2 a = some (.inr (6, rc_mf s m)) := by rw [hk] at ha; exact ha
    refine go_callU (d1 := d9 - 1) wUX11_277_X6 kX6 ha2 rfl (by omega) (x_tells2 (x := x) (b := b) (n := n) (by omega) hV hm hkd (by omega)) rfl hcat hdg (fun w σ1 hP9 => ?_)
    obtain ⟨rfl, rfl⟩ := hP9
    have e9 : sp_te (s (130 + m)) m (s (166 + m)) x b n = sp_pl (s (130 + m)) m (s (166 + m)) x b n := by unfold sp_te; rw [if_neg (by omega), if_neg (by omega)]
    rw [e9] at kk
    exact kk
