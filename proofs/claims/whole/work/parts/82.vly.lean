/-! THE CLASS: a new valley; valley -/
theorem rj_new_set {σ : rj_H} {a n : Nat} {e e' : va_E} (h : a ≠ σ.1) : rj_new (rj_set σ a e) n e' = rj_set (rj_new σ n e') a e := by
  unfold rj_new rj_set
  refine congrArg _ (congrArg _ (funext fun q => ?_))
  show (if q = σ.1 then _ else if q = a then _ else _) = (if q = a then _ else if q = σ.1 then _ else _)
  by_cases h1 : q = σ.1
  · rw [if_pos h1, if_neg (by omega), if_pos h1]
  · rw [if_neg h1, if_neg h1]
theorem rj_z13 : ∀ j : Nat, j < 13 → defaultValue (tyX9 j) = vp_V [.null, rj_i 0, .null, .null, rj_i 0, .null, .null, rj_i 0, rj_i 0, .null, rj_i 0, rj_i 0, rj_i 0] j
  | 0, _ => rfl | 1, _ => rfl | 2, _ => rfl | 3, _ => rfl | 4, _ => rfl | 5, _ => rfl | 6, _ => rfl | 7, _ => rfl | 8, _ => rfl | 9, _ => rfl | 10, _ => rfl | 11, _ => rfl | 12, _ => rfl
  | n + 13, h => absurd h (by omega)
/-- five arrays behind -/
def rk_v5 (X9 : rj_X) (σ : rj_H) : rj_H := rj_new (rj_new (rj_new (rj_new (rj_new σ 120 (rj_ar X9 0 120 (fun _ => 0))) 10 (rj_ar X9 0 10 (fun _ => 0))) 10 (rj_ar X9 0 10 (fun _ => 0))) 5 (rj_ar X9 0 5 (fun _ => 0))) 13 (rj_ar X9 0 13 (fun _ => 0))
def rk_vf (b : Nat) : List Value := [.ref b, rj_i 0, .ref (b + 1), .ref (b + 2), rj_i 0, .ref (b + 3), .ref (b + 4), rj_i 0, rj_i 9, .null, rj_i 0, rj_i 0, rj_i (-1)]
set_option maxRecDepth 20000 in
theorem k_valley {X9 : rj_X} {σ : rj_H} {d : Nat} (hd : 2 ≤ d) {a : Nat} {f0 f1 f2 f3 f4 f5 f6 f7 f8 f9 f10 f11 f12 : Value} (ha : σ.2.2 a = some (.inr (9, [f0, f1, f2, f3, f4, f5, f6, f7, f8, f9, f10, f11, f12]))) (hlt : a < σ.1) : rj_Cl X9 d yX9_init cX9_init 1 none [.ref a] σ (fun w9 τ => w9 = none ∧ τ = rj_set (rk_v5 X9 σ) a (.inr (9, rk_vf σ.1))) := by
  refine go_call (by decide +kernel) (Nat.le_of_ble_eq_true rfl) ?_
  refine go_eq (pc' := 0) (lv' := [(0, .ref a)]) (st' := []) (σ' := (rj_set σ a (.inr (9, [f0, f1, f2, f3, f4, f5, f6, f7, f8, f9, f10, f11, f12])))) rfl rfl rfl (rj_set_id ha).symm ?_
  refine go_aload_n dX9_init_0 rfl 0 rfl ?_
  refine go_obj (rj_inT 48 (by decide +kernel)) (rj_inT 29 (by decide +kernel)) (rj_inT 30 (by decide +kernel)) (by omega) (Nat.le_of_ble_eq_true rfl) dX9_init_1 ?_
  refine go_aload_n dX9_init_4 rfl 0 rfl ?_
  refine go_bipush (v := Int32.ofInt 120) dX9_init_5 (by decide) ?_
  refine go_inew (n := 120) rfl (by decide) (rj_inT 102 (by decide +kernel)) dX9_init_7 ?_
  rw [rj_new_set (by show a ≠ σ.1; omega)]
  refine go_pi kX9 (k := 0) (by decide) fX9_9 rfl rfl rfl rfl rfl rfl dX9_init_9 ?_
  refine go_aload_n dX9_init_12 rfl 0 rfl ?_
  refine go_iconst (v := Int32.ofInt 0) dX9_init_13 rfl ?_
  refine go_pi kX9 (k := 1) (by decide) fX9_15 rfl rfl rfl rfl rfl rfl dX9_init_14 ?_
  refine go_aload_n dX9_init_17 rfl 0 rfl ?_
  refine go_bipush (v := Int32.ofInt 10) dX9_init_18 (by decide) ?_
  refine go_inew (n := 10) rfl (by decide) (rj_inT 102 (by decide +kernel)) dX9_init_20 ?_
  rw [rj_new_set (by show a ≠ σ.1 + 1; omega)]
  refine go_pi kX9 (k := 2) (by decide) fX9_19 rfl rfl rfl rfl rfl rfl dX9_init_22 ?_
  refine go_aload_n dX9_init_25 rfl 0 rfl ?_
  refine go_bipush (v := Int32.ofInt 10) dX9_init_26 (by decide) ?_
  refine go_inew (n := 10) rfl (by decide) (rj_inT 102 (by decide +kernel)) dX9_init_28 ?_
  rw [rj_new_set (by show a ≠ σ.1 + 1 + 1; omega)]
  refine go_pi kX9 (k := 3) (by decide) fX9_22 rfl rfl rfl rfl rfl rfl dX9_init_30 ?_
  refine go_aload_n dX9_init_33 rfl 0 rfl ?_
  refine go_iconst (v := Int32.ofInt 0) dX9_init_34 rfl ?_
  refine go_pi kX9 (k := 4) (by decide) fX9_25 rfl rfl rfl rfl rfl rfl dX9_init_35 ?_
  refine go_aload_n dX9_init_38 rfl 0 rfl ?_
  refine go_ldcS (i := 5) (tx := "mpqdh") (by decide +kernel) dX9_init_39 ?_
  rw [show X9.2.2.2.2.2.1 5 = rj_sk X9 5 from rfl]
  refine go_callVS (d1 := d - 1) (i := 5) wVX9_30 rfl (by decide) rfl (by omega) (j_length (by decide) (by omega)) rfl (Nat.le_of_ble_eq_true rfl) dX9_init_41 (fun w σ1 hP9 => ?_)
  obtain ⟨rfl, rfl⟩ := hP9
  rw [show (rj_sl 5 : Int) = 5 from rfl]
  refine go_inew (n := 5) rfl (by decide) (rj_inT 102 (by decide +kernel)) dX9_init_44 ?_
  rw [rj_new_set (by show a ≠ σ.1 + 1 + 1 + 1; omega)]
  refine go_pi kX9 (k := 5) (by decide) fX9_36 rfl rfl rfl rfl rfl rfl dX9_init_46 ?_
  refine go_aload_n dX9_init_49 rfl 0 rfl ?_
  refine go_bipush (v := Int32.ofInt 13) dX9_init_50 (by decide) ?_
  refine go_inew (n := 13) rfl (by decide) (rj_inT 102 (by decide +kernel)) dX9_init_52 ?_
  rw [rj_new_set (by show a ≠ σ.1 + 1 + 1 + 1 + 1; omega)]
  refine go_pi kX9 (k := 6) (by decide) fX9_39 rfl rfl rfl rfl rfl rfl dX9_init_54 ?_
  refine go_aload_n dX9_init_57 rfl 0 rfl ?_
  refine go_iconst (v := Int32.ofInt 0) dX9_init_58 rfl ?_
  refine go_pi kX9 (k := 7) (by decide) fX9_42 rfl rfl rfl rfl rfl rfl dX9_init_59 ?_
  refine go_aload_n dX9_init_62 rfl 0 rfl ?_
  refine go_bipush (v := Int32.ofInt 9) dX9_init_63 (by decide) ?_
  refine go_pi kX9 (k := 8) (by decide) fX9_45 rfl rfl rfl rfl rfl rfl dX9_init_65 ?_
  refine go_aload_n dX9_init_68 rfl 0 rfl ?_
  refine go_null dX9_init_69 ?_
  refine go_pi kX9 (k := 9) (by decide) fX9_48 rfl rfl rfl rfl rfl rfl dX9_init_70 ?_
  refine go_aload_n dX9_init_73 rfl 0 rfl ?_
  refine go_iconst (v := Int32.ofInt 0) dX9_init_74 rfl ?_
  refine go_pi kX9 (k := 10) (by decide) fX9_52 rfl rfl rfl rfl rfl rfl dX9_init_75 ?_
  refine go_aload_n dX9_init_78 rfl 0 rfl ?_
  refine go_iconst (v := Int32.ofInt 0) dX9_init_79 rfl ?_
  refine go_pi kX9 (k := 11) (by decide) fX9_55 rfl rfl rfl rfl rfl rfl dX9_init_80 ?_
  refine go_aload_n dX9_init_83 rfl 0 rfl ?_
  refine go_iconst (v := Int32.ofInt (-1)) dX9_init_84 rfl ?_
  refine go_pi kX9 (k := 12) (by decide) fX9_58 rfl rfl rfl rfl rfl rfl dX9_init_85 ?_
  refine go_retV rfl ?_ dX9_init_88
  exact ⟨rfl, rfl⟩
