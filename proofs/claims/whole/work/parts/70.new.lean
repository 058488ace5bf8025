/-! THE CLASS: constructors of mirrors and walls -/
theorem rj_set_new (σ : rj_H) (n : Nat) (e e' : va_E) : rj_set (rj_new σ n e) σ.1 e' = rj_new σ n e' := by
  unfold rj_set rj_new
  refine congrArg _ (congrArg _ (funext fun q => ?_))
  by_cases h : q = σ.1
  · rw [if_pos h, if_pos h]
  · rw [if_neg h, if_neg h]
    exact if_neg h
/-- a field's first value, in a constructor -/
theorem go_pi {X9 : rj_X} {y9 : MethodName} {cc : ByteArray} {nL : Nat} {rt9 : Option FieldType} {d9 : Nat} {P9 : Option Value → rj_H → Prop} {pc : Nat} {lv : List (Nat × Value)} {rest : List Value} {σ : rj_H} {k idx a ci N : Nat} {C : String} {T : u_T} {ty : Nat → FieldType} {fs : List Value} {w : Value} (hcl : rj_cl ci C T N ty) (hk : k < N) (hln : rj_ln y9.cls idx (T k)) (hy : y9.name = "<init>") (hc : (T k).1 = y9.cls) (hl : fs.length = N) (hn : narrow (ty k) w = w) (hf : fits (ty k) w = true) (h0 : y9 = y9) (hdg : decode cc pc = .ok (.putfield idx, 3)) (kk : rj_Go X9 y9 cc nL rt9 d9 P9 (pc + 3) lv rest (rj_set σ a (.inr (ci, fs.set k w)))) : rj_Go X9 y9 cc nL rt9 d9 P9 pc lv (w :: .ref a :: rest) (rj_set σ a (.inr (ci, fs))) :=
  go_put hcl hk hln (Or.inr ⟨hy, hc⟩) (rj_set_eq _ _ _) (by omega) hn hf hdg (by rw [rj_set_set]; exact kk)
theorem rj_z8 : ∀ j : Nat, j < 8 → defaultValue (tyX2 j) = vp_V [rj_i 0, rj_i 0, rj_i 0, rj_i 0, rj_i 0, rj_i 0, rj_i 0, rj_i 0] j
  | 0, _ => rfl | 1, _ => rfl | 2, _ => rfl | 3, _ => rfl | 4, _ => rfl | 5, _ => rfl | 6, _ => rfl | 7, _ => rfl
  | n + 8, h => absurd h (by omega)
theorem rj_z5 : ∀ j : Nat, j < 5 → defaultValue (tyX10 j) = vp_V [rj_i 0, rj_i 0, rj_i 0, rj_i 0, rj_i 0] j
  | 0, _ => rfl | 1, _ => rfl | 2, _ => rfl | 3, _ => rfl | 4, _ => rfl
  | n + 5, h => absurd h (by omega)
/-- a mirror's fields out of its make -/
def rk_mf (kd nb t w : Int) : List Value := [rj_i kd, rj_i nb, rj_i (t / 100), rj_i (t % 100), rj_i (w / 100 % 100), rj_i (w / 10 % 10), rj_i (w / 10000), rj_i (w % 10)]
def rk_wf (u v hi : Int) : List Value := [rj_i (u / 100), rj_i (u % 100), rj_i (v / 100 - u / 100), rj_i (v % 100 - u % 100), rj_i hi]
set_option maxRecDepth 20000 in
theorem k_mirror {X9 : rj_X} {σ : rj_H} {d : Nat} {kd nb t w : Int} (hd : 1 ≤ d) (ht : 0 ≤ t ∧ t ≤ 4040) (hw : 0 ≤ w ∧ w ≤ 999999) {a ci : Nat} {C : String} {f0 f1 f2 f3 f4 f5 f6 f7 : Value} (hcl : rj_cl ci C TX2 8 tyX2) (ha : σ.2.2 a = some (.inr (ci, [f0, f1, f2, f3, f4, f5, f6, f7]))) : rj_Cl X9 d yX2_init cX2_init 5 none [.ref a, rj_i kd, rj_i nb, rj_i t, rj_i w] σ (fun w9 τ => w9 = none ∧ τ = rj_set σ a (.inr (ci, rk_mf kd nb t w))) := by
  refine go_call (by decide +kernel) (Nat.le_of_ble_eq_true rfl) ?_
  refine go_eq (pc' := 0) (lv' := [(0, .ref a), (1, rj_i kd), (2, rj_i nb), (3, rj_i t), (4, rj_i w)]) (st' := []) (σ' := (rj_set σ a (.inr (ci, [f0, f1, f2, f3, f4, f5, f6, f7])))) rfl rfl rfl (rj_set_id ha).symm ?_
  refine go_aload_n dX2_init_0 rfl 0 rfl ?_
  refine go_obj (rj_inT 239 (by decide +kernel)) (rj_inT 29 (by decide +kernel)) (rj_inT 30 (by decide +kernel)) (by omega) (Nat.le_of_ble_eq_true rfl) dX2_init_1 ?_
  refine go_aload_n dX2_init_4 rfl 0 rfl ?_
  refine go_iload_n dX2_init_5 rfl 1 rfl ?_
  refine go_pi hcl (k := 0) (by decide) fX2_9 rfl rfl rfl rfl rfl rfl dX2_init_6 ?_
  refine go_aload_n dX2_init_9 rfl 0 rfl ?_
  refine go_iload_n dX2_init_10 rfl 2 rfl ?_
  refine go_pi hcl (k := 1) (by decide) fX2_15 rfl rfl rfl rfl rfl rfl dX2_init_11 ?_
  refine go_aload_n dX2_init_14 rfl 0 rfl ?_
  refine go_iload_n dX2_init_15 rfl 3 rfl ?_
  refine go_bipush (v := Int32.ofInt 100) dX2_init_16 (by decide) ?_
  refine go_divI (by omega) (by omega) dX2_init_18 ?_
  refine go_pi hcl (k := 2) (by decide) fX2_18 rfl rfl rfl rfl rfl rfl dX2_init_19 ?_
  refine go_aload_n dX2_init_22 rfl 0 rfl ?_
  refine go_iload_n dX2_init_23 rfl 3 rfl ?_
  refine go_bipush (v := Int32.ofInt 100) dX2_init_24 (by decide) ?_
  refine go_remI (by omega) (by omega) dX2_init_26 ?_
  refine go_pi hcl (k := 3) (by decide) fX2_21 rfl rfl rfl rfl rfl rfl dX2_init_27 ?_
  refine go_aload_n dX2_init_30 rfl 0 rfl ?_
  refine go_iload dX2_init_31 4 rfl ?_
  refine go_sipush (v := Int32.ofInt 10000) dX2_init_33 (by decide) ?_
  refine go_divI (by omega) (by omega) dX2_init_36 ?_
  refine go_pi hcl (k := 6) (by decide) fX2_24 rfl rfl rfl rfl rfl rfl dX2_init_37 ?_
  refine go_aload_n dX2_init_40 rfl 0 rfl ?_
  refine go_iload dX2_init_41 4 rfl ?_
  refine go_bipush (v := Int32.ofInt 100) dX2_init_43 (by decide) ?_
  refine go_divI (by omega) (by omega) dX2_init_45 ?_
  refine go_bipush (v := Int32.ofInt 100) dX2_init_46 (by decide) ?_
  refine go_remI (by omega) (by omega) dX2_init_48 ?_
  refine go_pi hcl (k := 4) (by decide) fX2_27 rfl rfl rfl rfl rfl rfl dX2_init_49 ?_
  refine go_aload_n dX2_init_52 rfl 0 rfl ?_
  refine go_iload dX2_init_53 4 rfl ?_
  refine go_bipush (v := Int32.ofInt 10) dX2_init_55 (by decide) ?_
  refine go_divI (by omega) (by omega) dX2_init_57 ?_
  refine go_bipush (v := Int32.ofInt 10) dX2_init_58 (by decide) ?_
  refine go_remI (by omega) (by omega) dX2_init_60 ?_
  refine go_pi hcl (k := 5) (by decide) fX2_30 rfl rfl rfl rfl rfl rfl dX2_init_61 ?_
  refine go_aload_n dX2_init_64 rfl 0 rfl ?_
  refine go_iload dX2_init_65 4 rfl ?_
  refine go_bipush (v := Int32.ofInt 10) dX2_init_67 (by decide) ?_
  refine go_remI (by omega) (by omega) dX2_init_69 ?_
  refine go_pi hcl (k := 7) (by decide) fX2_33 rfl rfl rfl rfl rfl rfl dX2_init_70 ?_
  refine go_retV rfl ?_ dX2_init_73
  exact ⟨rfl, rfl⟩
set_option maxRecDepth 20000 in
theorem k_fixed {X9 : rj_X} {σ : rj_H} {d : Nat} {kd nb t w : Int} (hd : 2 ≤ d) (ht : 0 ≤ t ∧ t ≤ 4040) (hw : 0 ≤ w ∧ w ≤ 999999) {a ci : Nat} {C : String} {f0 f1 f2 f3 f4 f5 f6 f7 : Value} (hcl : rj_cl ci C TX2 8 tyX2) (ha : σ.2.2 a = some (.inr (ci, [f0, f1, f2, f3, f4, f5, f6, f7]))) : rj_Cl X9 d yX0_init cX0_init 5 none [.ref a, rj_i kd, rj_i nb, rj_i t, rj_i w] σ (fun w9 τ => w9 = none ∧ τ = rj_set σ a (.inr (ci, rk_mf kd nb t w))) := by
  refine go_call (by decide +kernel) (Nat.le_of_ble_eq_true rfl) ?_
  refine go_eq (pc' := 0) (lv' := [(0, .ref a), (1, rj_i kd), (2, rj_i nb), (3, rj_i t), (4, rj_i w)]) (st' := []) (σ' := σ) rfl rfl rfl rfl ?_
  refine go_aload_n dX0_init_0 rfl 0 rfl ?_
  refine go_iload_n dX0_init_1 rfl 1 rfl ?_
  refine go_iload_n dX0_init_2 rfl 2 rfl ?_
  refine go_iload_n dX0_init_3 rfl 3 rfl ?_
  refine go_iload dX0_init_4 4 rfl ?_
  refine go_callI (d1 := d - 1) (Pc := fun _ τ => τ = _) wIX0_1 rfl (by omega) (k_mirror (by omega) ht hw hcl ha) rfl (Nat.le_of_ble_eq_true rfl) dX0_init_6 (fun σ1 hP9 => ?_)
  subst hP9
  refine go_retV rfl ?_ dX0_init_9
  exact ⟨rfl, rfl⟩
set_option maxRecDepth 20000 in
theorem k_turned {X9 : rj_X} {σ : rj_H} {d : Nat} {kd nb t w : Int} (hd : 2 ≤ d) (ht : 0 ≤ t ∧ t ≤ 4040) (hw : 0 ≤ w ∧ w ≤ 999999) {a ci : Nat} {C : String} {f0 f1 f2 f3 f4 f5 f6 f7 : Value} (hcl : rj_cl ci C TX2 8 tyX2) (ha : σ.2.2 a = some (.inr (ci, [f0, f1, f2, f3, f4, f5, f6, f7]))) : rj_Cl X9 d yX8_init cX8_init 5 none [.ref a, rj_i kd, rj_i nb, rj_i t, rj_i w] σ (fun w9 τ => w9 = none ∧ τ = rj_set σ a (.inr (ci, rk_mf kd nb t w))) := by
  refine go_call (by decide +kernel) (Nat.le_of_ble_eq_true rfl) ?_
  refine go_eq (pc' := 0) (lv' := [(0, .ref a), (1, rj_i kd), (2, rj_i nb), (3, rj_i t), (4, rj_i w)]) (st' := []) (σ' := σ) rfl rfl rfl rfl ?_
  refine go_aload_n dX8_init_0 rfl 0 rfl ?_
  refine go_iload_n dX8_init_1 rfl 1 rfl ?_
  refine go_iload_n dX8_init_2 rfl 2 rfl ?_
  refine go_iload_n dX8_init_3 rfl 3 rfl ?_
  refine go_iload dX8_init_4 4 rfl ?_
  refine go_callI (d1 := d - 1) (Pc := fun _ τ => τ = _) wIX8_1 rfl (by omega) (k_mirror (by omega) ht hw hcl ha) rfl (Nat.le_of_ble_eq_true rfl) dX8_init_6 (fun σ1 hP9 => ?_)
  subst hP9
  refine go_retV rfl ?_ dX8_init_9
  exact ⟨rfl, rfl⟩
set_option maxRecDepth 20000 in
theorem k_great {X9 : rj_X} {σ : rj_H} {d : Nat} {kd nb t w : Int} (hd : 3 ≤ d) (ht : 0 ≤ t ∧ t ≤ 4040) (hw : 0 ≤ w ∧ w ≤ 999999) {a ci : Nat} {C : String} {f0 f1 f2 f3 f4 f5 f6 f7 : Value} (hcl : rj_cl ci C TX2 8 tyX2) (ha : σ.2.2 a = some (.inr (ci, [f0, f1, f2, f3, f4, f5, f6, f7]))) : rj_Cl X9 d yX1_init cX1_init 5 none [.ref a, rj_i kd, rj_i nb, rj_i t, rj_i w] σ (fun w9 τ => w9 = none ∧ τ = rj_set σ a (.inr (ci, rk_mf kd nb t w))) := by
  refine go_call (by decide +kernel) (Nat.le_of_ble_eq_true rfl) ?_
  refine go_eq (pc' := 0) (lv' := [(0, .ref a), (1, rj_i kd), (2, rj_i nb), (3, rj_i t), (4, rj_i w)]) (st' := []) (σ' := σ) rfl rfl rfl rfl ?_
  refine go_aload_n dX1_init_0 rfl 0 rfl ?_
  refine go_iload_n dX1_init_1 rfl 1 rfl ?_
  refine go_iload_n dX1_init_2 rfl 2 rfl ?_
  refine go_iload_n dX1_init_3 rfl 3 rfl ?_
  refine go_iload dX1_init_4 4 rfl ?_
  refine go_callI (d1 := d - 1) (Pc := fun _ τ => τ = _) wIX1_1 rfl (by omega) (k_turned (by omega) ht hw hcl ha) rfl (Nat.le_of_ble_eq_true rfl) dX1_init_6 (fun σ1 hP9 => ?_)
  subst hP9
  refine go_retV rfl ?_ dX1_init_9
  exact ⟨rfl, rfl⟩
set_option maxRecDepth 20000 in
theorem k_one {X9 : rj_X} {σ : rj_H} {d : Nat} {kd nb t w : Int} (hd : 3 ≤ d) (ht : 0 ≤ t ∧ t ≤ 4040) (hw : 0 ≤ w ∧ w ≤ 999999) {a ci : Nat} {C : String} {f0 f1 f2 f3 f4 f5 f6 f7 : Value} (hcl : rj_cl ci C TX2 8 tyX2) (ha : σ.2.2 a = some (.inr (ci, [f0, f1, f2, f3, f4, f5, f6, f7]))) : rj_Cl X9 d yX3_init cX3_init 5 none [.ref a, rj_i kd, rj_i nb, rj_i t, rj_i w] σ (fun w9 τ => w9 = none ∧ τ = rj_set σ a (.inr (ci, rk_mf kd nb t w))) := by
  refine go_call (by decide +kernel) (Nat.le_of_ble_eq_true rfl) ?_
  refine go_eq (pc' := 0) (lv' := [(0, .ref a), (1, rj_i kd), (2, rj_i nb), (3, rj_i t), (4, rj_i w)]) (st' := []) (σ' := σ) rfl rfl rfl rfl ?_
  refine go_aload_n dX3_init_0 rfl 0 rfl ?_
  refine go_iload_n dX3_init_1 rfl 1 rfl ?_
  refine go_iload_n dX3_init_2 rfl 2 rfl ?_
  refine go_iload_n dX3_init_3 rfl 3 rfl ?_
  refine go_iload dX3_init_4 4 rfl ?_
  refine go_callI (d1 := d - 1) (Pc := fun _ τ => τ = _) wIX3_1 rfl (by omega) (k_turned (by omega) ht hw hcl ha) rfl (Nat.le_of_ble_eq_true rfl) dX3_init_6 (fun σ1 hP9 => ?_)
  subst hP9
  refine go_retV rfl ?_ dX3_init_9
  exact ⟨rfl, rfl⟩
set_option maxRecDepth 20000 in
theorem k_passing {X9 : rj_X} {σ : rj_H} {d : Nat} {kd nb t w : Int} (hd : 3 ≤ d) (ht : 0 ≤ t ∧ t ≤ 4040) (hw : 0 ≤ w ∧ w ≤ 999999) {a ci : Nat} {C : String} {f0 f1 f2 f3 f4 f5 f6 f7 : Value} (hcl : rj_cl ci C TX2 8 tyX2) (ha : σ.2.2 a = some (.inr (ci, [f0, f1, f2, f3, f4, f5, f6, f7]))) : rj_Cl X9 d yX4_init cX4_init 5 none [.ref a, rj_i kd, rj_i nb, rj_i t, rj_i w] σ (fun w9 τ => w9 = none ∧ τ = rj_set σ a (.inr (ci, rk_mf kd nb t w))) := by
  refine go_call (by decide +kernel) (Nat.le_of_ble_eq_true rfl) ?_
  refine go_eq (pc' := 0) (lv' := [(0, .ref a), (1, rj_i kd), (2, rj_i nb), (3, rj_i t), (4, rj_i w)]) (st' := []) (σ' := σ) rfl rfl rfl rfl ?_
  refine go_aload_n dX4_init_0 rfl 0 rfl ?_
  refine go_iload_n dX4_init_1 rfl 1 rfl ?_
  refine go_iload_n dX4_init_2 rfl 2 rfl ?_
  refine go_iload_n dX4_init_3 rfl 3 rfl ?_
  refine go_iload dX4_init_4 4 rfl ?_
  refine go_callI (d1 := d - 1) (Pc := fun _ τ => τ = _) wIX4_1 rfl (by omega) (k_fixed (by omega) ht hw hcl ha) rfl (Nat.le_of_ble_eq_true rfl) dX4_init_6 (fun σ1 hP9 => ?_)
  subst hP9
  refine go_retV rfl ?_ dX4_init_9
  exact ⟨rfl, rfl⟩
set_option maxRecDepth 20000 in
theorem k_told {X9 : rj_X} {σ : rj_H} {d : Nat} {kd nb t w : Int} (hd : 3 ≤ d) (ht : 0 ≤ t ∧ t ≤ 4040) (hw : 0 ≤ w ∧ w ≤ 999999) {a ci : Nat} {C : String} {f0 f1 f2 f3 f4 f5 f6 f7 : Value} (hcl : rj_cl ci C TX2 8 tyX2) (ha : σ.2.2 a = some (.inr (ci, [f0, f1, f2, f3, f4, f5, f6, f7]))) : rj_Cl X9 d yX6_init cX6_init 5 none [.ref a, rj_i kd, rj_i nb, rj_i t, rj_i w] σ (fun w9 τ => w9 = none ∧ τ = rj_set σ a (.inr (ci, rk_mf kd nb t w))) := by
  refine go_call (by decide +kernel) (Nat.le_of_ble_eq_true rfl) ?_
  refine go_eq (pc' := 0) (lv' := [(0, .ref a), (1, rj_i kd), (2, rj_i nb), (3, rj_i t), (4, rj_i w)]) (st' := []) (σ' := σ) rfl rfl rfl rfl ?_
  refine go_aload_n dX6_init_0 rfl 0 rfl ?_
  refine go_iload_n dX6_init_1 rfl 1 rfl ?_
  refine go_iload_n dX6_init_2 rfl 2 rfl ?_
  refine go_iload_n dX6_init_3 rfl 3 rfl ?_
  refine go_iload dX6_init_4 4 rfl ?_
  refine go_callI (d1 := d - 1) (Pc := fun _ τ => τ = _) wIX6_1 rfl (by omega) (k_fixed (by omega) ht hw hcl ha) rfl (Nat.le_of_ble_eq_true rfl) dX6_init_6 (fun σ1 hP9 => ?_)
  subst hP9
  refine go_retV rfl ?_ dX6_init_9
  exact ⟨rfl, rfl⟩
set_option maxRecDepth 20000 in
theorem k_newMirror {X9 : rj_X} {σ : rj_H} {d : Nat} {kd nb t w : Int} (hd : 4 ≤ d) (hk : 0 ≤ kd ∧ kd ≤ 6) (ht : 0 ≤ t ∧ t ≤ 4040) (hw : 0 ≤ w ∧ w ≤ 999999) : rj_Cl X9 d yX11_newMirror cX11_newMirror 4 (some (.object "SunMirrors$Mirror")) [rj_i kd, rj_i nb, rj_i t, rj_i w] σ (fun w9 τ => w9 = some (.ref σ.1) ∧ τ = rj_new σ 8 (.inr (rc_ci kd, rk_mf kd nb t w))) := by
  refine go_call (by decide +kernel) (Nat.le_of_ble_eq_true rfl) ?_
  refine go_eq (pc' := 0) (lv' := [(0, rj_i kd), (1, rj_i nb), (2, rj_i t), (3, rj_i w)]) (st' := []) (σ' := σ) rfl rfl rfl rfl ?_
  refine go_iload_n dX11_newMirror_0 rfl 0 rfl ?_
  rcases (show kd = 0 ∨ kd = 1 ∨ kd = 2 ∨ kd = 3 ∨ kd = 4 ∨ kd = 5 ∨ kd = 6 by omega) with rfl | rfl | rfl | rfl | rfl | rfl | rfl
  · refine go_tableOut (tgt := 112) dX11_newMirror_1 (Or.inl (by decide)) (by decide) ?_
    refine go_newo (fs := [rj_i 0, rj_i 0, rj_i 0, rj_i 0, rj_i 0, rj_i 0, rj_i 0, rj_i 0]) kX2 (rj_inT 371 (by decide +kernel)) (rj_inT 372 (by decide +kernel)) (rj_inT 8 (by decide +kernel)) rj_z8 dX11_newMirror_112 ?_
    refine go_dup dX11_newMirror_115 rfl ?_
    refine go_iload_n dX11_newMirror_116 rfl 0 rfl ?_
    refine go_iload_n dX11_newMirror_117 rfl 1 rfl ?_
    refine go_iload_n dX11_newMirror_118 rfl 2 rfl ?_
    refine go_iload_n dX11_newMirror_119 rfl 3 rfl ?_
    refine go_callI (d1 := d - 1) (Pc := fun _ τ => τ = _) wIX11_316 rfl (by omega) (k_mirror (by omega) ht hw kX2 (rj_new_eq _ _ _)) rfl (Nat.le_of_ble_eq_true rfl) dX11_newMirror_120 (fun σ1 hP9 => ?_)
    subst hP9
    rw [rj_set_new]
    refine go_retA rfl ?_ dX11_newMirror_123
    exact ⟨rfl, rfl⟩
  · refine go_tableIn (off := 39) (tgt := 40) dX11_newMirror_1 (by decide) (by decide) (by decide) (by decide) ?_
    refine go_newo (fs := [rj_i 0, rj_i 0, rj_i 0, rj_i 0, rj_i 0, rj_i 0, rj_i 0, rj_i 0]) kX8 (rj_inT 231 (by decide +kernel)) (rj_inT 232 (by decide +kernel)) (rj_inT 9 (by decide +kernel)) rj_z8 dX11_newMirror_40 ?_
    refine go_dup dX11_newMirror_43 rfl ?_
    refine go_iload_n dX11_newMirror_44 rfl 0 rfl ?_
    refine go_iload_n dX11_newMirror_45 rfl 1 rfl ?_
    refine go_iload_n dX11_newMirror_46 rfl 2 rfl ?_
    refine go_iload_n dX11_newMirror_47 rfl 3 rfl ?_
    refine go_callI (d1 := d - 1) (Pc := fun _ τ => τ = _) wIX11_298 rfl (by omega) (k_turned (by omega) ht hw kX8 (rj_new_eq _ _ _)) rfl (Nat.le_of_ble_eq_true rfl) dX11_newMirror_48 (fun σ1 hP9 => ?_)
    subst hP9
    rw [rj_set_new]
    refine go_retA rfl ?_ dX11_newMirror_51
    exact ⟨rfl, rfl⟩
  · refine go_tableIn (off := 51) (tgt := 52) dX11_newMirror_1 (by decide) (by decide) (by decide) (by decide) ?_
    refine go_newo (fs := [rj_i 0, rj_i 0, rj_i 0, rj_i 0, rj_i 0, rj_i 0, rj_i 0, rj_i 0]) kX0 (rj_inT 296 (by decide +kernel)) (rj_inT 297 (by decide +kernel)) (rj_inT 10 (by decide +kernel)) rj_z8 dX11_newMirror_52 ?_
    refine go_dup dX11_newMirror_55 rfl ?_
    refine go_iload_n dX11_newMirror_56 rfl 0 rfl ?_
    refine go_iload_n dX11_newMirror_57 rfl 1 rfl ?_
    refine go_iload_n dX11_newMirror_58 rfl 2 rfl ?_
    refine go_iload_n dX11_newMirror_59 rfl 3 rfl ?_
    refine go_callI (d1 := d - 1) (Pc := fun _ τ => τ = _) wIX11_303 rfl (by omega) (k_fixed (by omega) ht hw kX0 (rj_new_eq _ _ _)) rfl (Nat.le_of_ble_eq_true rfl) dX11_newMirror_60 (fun σ1 hP9 => ?_)
    subst hP9
    rw [rj_set_new]
    refine go_retA rfl ?_ dX11_newMirror_63
    exact ⟨rfl, rfl⟩
  · refine go_tableIn (off := 63) (tgt := 64) dX11_newMirror_1 (by decide) (by decide) (by decide) (by decide) ?_
    refine go_newo (fs := [rj_i 0, rj_i 0, rj_i 0, rj_i 0, rj_i 0, rj_i 0, rj_i 0, rj_i 0]) kX3 (rj_inT 311 (by decide +kernel)) (rj_inT 312 (by decide +kernel)) (rj_inT 11 (by decide +kernel)) rj_z8 dX11_newMirror_64 ?_
    refine go_dup dX11_newMirror_67 rfl ?_
    refine go_iload_n dX11_newMirror_68 rfl 0 rfl ?_
    refine go_iload_n dX11_newMirror_69 rfl 1 rfl ?_
    refine go_iload_n dX11_newMirror_70 rfl 2 rfl ?_
    refine go_iload_n dX11_newMirror_71 rfl 3 rfl ?_
    refine go_callI (d1 := d - 1) (Pc := fun _ τ => τ = _) wIX11_306 rfl (by omega) (k_one (by omega) ht hw kX3 (rj_new_eq _ _ _)) rfl (Nat.le_of_ble_eq_true rfl) dX11_newMirror_72 (fun σ1 hP9 => ?_)
    subst hP9
    rw [rj_set_new]
    refine go_retA rfl ?_ dX11_newMirror_75
    exact ⟨rfl, rfl⟩
  · refine go_tableIn (off := 75) (tgt := 76) dX11_newMirror_1 (by decide) (by decide) (by decide) (by decide) ?_
    refine go_newo (fs := [rj_i 0, rj_i 0, rj_i 0, rj_i 0, rj_i 0, rj_i 0, rj_i 0, rj_i 0]) kX1 (rj_inT 326 (by decide +kernel)) (rj_inT 327 (by decide +kernel)) (rj_inT 12 (by decide +kernel)) rj_z8 dX11_newMirror_76 ?_
    refine go_dup dX11_newMirror_79 rfl ?_
    refine go_iload_n dX11_newMirror_80 rfl 0 rfl ?_
    refine go_iload_n dX11_newMirror_81 rfl 1 rfl ?_
    refine go_iload_n dX11_newMirror_82 rfl 2 rfl ?_
    refine go_iload_n dX11_newMirror_83 rfl 3 rfl ?_
    refine go_callI (d1 := d - 1) (Pc := fun _ τ => τ = _) wIX11_309 rfl (by omega) (k_great (by omega) ht hw kX1 (rj_new_eq _ _ _)) rfl (Nat.le_of_ble_eq_true rfl) dX11_newMirror_84 (fun σ1 hP9 => ?_)
    subst hP9
    rw [rj_set_new]
    refine go_retA rfl ?_ dX11_newMirror_87
    exact ⟨rfl, rfl⟩
  · refine go_tableIn (off := 87) (tgt := 88) dX11_newMirror_1 (by decide) (by decide) (by decide) (by decide) ?_
    refine go_newo (fs := [rj_i 0, rj_i 0, rj_i 0, rj_i 0, rj_i 0, rj_i 0, rj_i 0, rj_i 0]) kX4 (rj_inT 341 (by decide +kernel)) (rj_inT 342 (by decide +kernel)) (rj_inT 13 (by decide +kernel)) rj_z8 dX11_newMirror_88 ?_
    refine go_dup dX11_newMirror_91 rfl ?_
    refine go_iload_n dX11_newMirror_92 rfl 0 rfl ?_
    refine go_iload_n dX11_newMirror_93 rfl 1 rfl ?_
    refine go_iload_n dX11_newMirror_94 rfl 2 rfl ?_
    refine go_iload_n dX11_newMirror_95 rfl 3 rfl ?_
    refine go_callI (d1 := d - 1) (Pc := fun _ τ => τ = _) wIX11_312 rfl (by omega) (k_passing (by omega) ht hw kX4 (rj_new_eq _ _ _)) rfl (Nat.le_of_ble_eq_true rfl) dX11_newMirror_96 (fun σ1 hP9 => ?_)
    subst hP9
    rw [rj_set_new]
    refine go_retA rfl ?_ dX11_newMirror_99
    exact ⟨rfl, rfl⟩
  · refine go_tableIn (off := 99) (tgt := 100) dX11_newMirror_1 (by decide) (by decide) (by decide) (by decide) ?_
    refine go_newo (fs := [rj_i 0, rj_i 0, rj_i 0, rj_i 0, rj_i 0, rj_i 0, rj_i 0, rj_i 0]) kX6 (rj_inT 356 (by decide +kernel)) (rj_inT 357 (by decide +kernel)) (rj_inT 14 (by decide +kernel)) rj_z8 dX11_newMirror_100 ?_
    refine go_dup dX11_newMirror_103 rfl ?_
    refine go_iload_n dX11_newMirror_104 rfl 0 rfl ?_
    refine go_iload_n dX11_newMirror_105 rfl 1 rfl ?_
    refine go_iload_n dX11_newMirror_106 rfl 2 rfl ?_
    refine go_iload_n dX11_newMirror_107 rfl 3 rfl ?_
    refine go_callI (d1 := d - 1) (Pc := fun _ τ => τ = _) wIX11_315 rfl (by omega) (k_told (by omega) ht hw kX6 (rj_new_eq _ _ _)) rfl (Nat.le_of_ble_eq_true rfl) dX11_newMirror_108 (fun σ1 hP9 => ?_)
    subst hP9
    rw [rj_set_new]
    refine go_retA rfl ?_ dX11_newMirror_111
    exact ⟨rfl, rfl⟩
set_option maxRecDepth 20000 in
theorem k_wall {X9 : rj_X} {σ : rj_H} {d : Nat} {u v hi : Int} (hd : 1 ≤ d) (hu : 0 ≤ u ∧ u ≤ 4040) (hv : 0 ≤ v ∧ v ≤ 4040) {a : Nat} {f0 f1 f2 f3 f4 : Value} (ha : σ.2.2 a = some (.inr (10, [f0, f1, f2, f3, f4]))) : rj_Cl X9 d yX10_init cX10_init 4 none [.ref a, rj_i u, rj_i v, rj_i hi] σ (fun w9 τ => w9 = none ∧ τ = rj_set σ a (.inr (10, rk_wf u v hi))) := by
  refine go_call (by decide +kernel) (Nat.le_of_ble_eq_true rfl) ?_
  refine go_eq (pc' := 0) (lv' := [(0, .ref a), (1, rj_i u), (2, rj_i v), (3, rj_i hi)]) (st' := []) (σ' := (rj_set σ a (.inr (10, [f0, f1, f2, f3, f4])))) rfl rfl rfl (rj_set_id ha).symm ?_
  refine go_aload_n dX10_init_0 rfl 0 rfl ?_
  refine go_obj (rj_inT 396 (by decide +kernel)) (rj_inT 29 (by decide +kernel)) (rj_inT 30 (by decide +kernel)) (by omega) (Nat.le_of_ble_eq_true rfl) dX10_init_1 ?_
  refine go_aload_n dX10_init_4 rfl 0 rfl ?_
  refine go_iload_n dX10_init_5 rfl 1 rfl ?_
  refine go_bipush (v := Int32.ofInt 100) dX10_init_6 (by decide) ?_
  refine go_divI (by omega) (by omega) dX10_init_8 ?_
  refine go_pi kX10 (k := 0) (by decide) fX10_7 rfl rfl rfl rfl rfl rfl dX10_init_9 ?_
  refine go_aload_n dX10_init_12 rfl 0 rfl ?_
  refine go_iload_n dX10_init_13 rfl 1 rfl ?_
  refine go_bipush (v := Int32.ofInt 100) dX10_init_14 (by decide) ?_
  refine go_remI (by omega) (by omega) dX10_init_16 ?_
  refine go_pi kX10 (k := 1) (by decide) fX10_13 rfl rfl rfl rfl rfl rfl dX10_init_17 ?_
  refine go_aload_n dX10_init_20 rfl 0 rfl ?_
  refine go_iload_n dX10_init_21 rfl 2 rfl ?_
  refine go_bipush (v := Int32.ofInt 100) dX10_init_22 (by decide) ?_
  refine go_divI (by omega) (by omega) dX10_init_24 ?_
  refine go_aload_n dX10_init_25 rfl 0 rfl ?_
  refine go_get (k := 0) kX10 (by decide) fX10_7 (rj_set_eq _ _ _) rfl dX10_init_26 ?_
  refine go_subI dX10_init_29 ?_
  refine go_pi kX10 (k := 2) (by decide) fX10_16 rfl rfl rfl rfl rfl rfl dX10_init_30 ?_
  refine go_aload_n dX10_init_33 rfl 0 rfl ?_
  refine go_iload_n dX10_init_34 rfl 2 rfl ?_
  refine go_bipush (v := Int32.ofInt 100) dX10_init_35 (by decide) ?_
  refine go_remI (by omega) (by omega) dX10_init_37 ?_
  refine go_aload_n dX10_init_38 rfl 0 rfl ?_
  refine go_get (k := 1) kX10 (by decide) fX10_13 (rj_set_eq _ _ _) rfl dX10_init_39 ?_
  refine go_subI dX10_init_42 ?_
  refine go_pi kX10 (k := 3) (by decide) fX10_19 rfl rfl rfl rfl rfl rfl dX10_init_43 ?_
  refine go_aload_n dX10_init_46 rfl 0 rfl ?_
  refine go_iload_n dX10_init_47 rfl 3 rfl ?_
  refine go_pi kX10 (k := 4) (by decide) fX10_22 rfl rfl rfl rfl rfl rfl dX10_init_48 ?_
  refine go_retV rfl ?_ dX10_init_51
  exact ⟨rfl, rfl⟩
