/-! CONSTRUCTORS: lists of cells -/
/-- cells behind a heap -/
def rj_lg (σ : rj_H) (L : List va_E) (m : Nat) : rj_H := (σ.1 + L.length, σ.2.1 + m, fun q => if σ.1 ≤ q then L[q - σ.1]? else σ.2.2 q)
def rj_top (σ : rj_H) : Prop := ∀ q : Nat, σ.1 ≤ q → σ.2.2 q = none
theorem lg_new {σ : rj_H} {L : List va_E} {m n : Nat} {e : va_E} : rj_new (rj_lg σ L m) n e = rj_lg σ (L ++ [e]) (m + n) := by
  unfold rj_new rj_lg
  refine Prod.ext ?_ (Prod.ext ?_ (funext fun q => ?_))
  · show σ.1 + L.length + 1 = σ.1 + (L ++ [e]).length
    rw [List.length_append]; rfl
  · show σ.2.1 + m + n = σ.2.1 + (m + n); omega
  · show (if q = σ.1 + L.length then some e else if σ.1 ≤ q then L[q - σ.1]? else σ.2.2 q) = if σ.1 ≤ q then (L ++ [e])[q - σ.1]? else σ.2.2 q
    by_cases h : σ.1 ≤ q
    · rw [if_pos h, if_pos h]
      by_cases hq : q = σ.1 + L.length
      · rw [if_pos hq, List.getElem?_append_right (by omega), show q - σ.1 - L.length = 0 by omega]; rfl
      · rw [if_neg hq]
        by_cases hl : q - σ.1 < L.length
        · rw [List.getElem?_append_left hl]
        · rw [List.getElem?_append_right (by omega), List.getElem?_eq_none (by omega), List.getElem?_eq_none (by simp; omega)]
    · rw [if_neg h, if_neg h, if_neg (by omega)]
theorem lg_0 {σ : rj_H} {n : Nat} {e : va_E} (h : rj_top σ) : rj_new σ n e = rj_lg σ [e] n := by
  unfold rj_new rj_lg
  refine congrArg _ (congrArg _ (funext fun q => ?_))
  show (if q = σ.1 then some e else σ.2.2 q) = if σ.1 ≤ q then [e][q - σ.1]? else σ.2.2 q
  by_cases h1 : q = σ.1
  · rw [if_pos h1, if_pos (by omega), h1, Nat.sub_self]; rfl
  · rw [if_neg h1]
    by_cases h2 : σ.1 ≤ q
    · rw [if_pos h2, h q h2, List.getElem?_eq_none (by simp; omega)]
    · rw [if_neg h2]
theorem lg_top {σ : rj_H} {L : List va_E} {m : Nat} : rj_top (rj_lg σ L m) := fun q hq => by
  show (if σ.1 ≤ q then L[q - σ.1]? else σ.2.2 q) = none
  have h : σ.1 + L.length ≤ q := hq
  rw [if_pos (by omega), List.getElem?_eq_none (by omega)]
theorem lg_set {σ : rj_H} {L : List va_E} {m k : Nat} {e : va_E} (h : k < L.length) : rj_set (rj_lg σ L m) (σ.1 + k) e = rj_lg σ (L.set k e) m := by
  unfold rj_set rj_lg
  refine Prod.ext ?_ (Prod.ext rfl (funext fun q => ?_))
  · show σ.1 + L.length = σ.1 + (L.set k e).length
    rw [List.length_set]
  · show (if q = σ.1 + k then some e else if σ.1 ≤ q then L[q - σ.1]? else σ.2.2 q) = if σ.1 ≤ q then (L.set k e)[q - σ.1]? else σ.2.2 q
    by_cases hq : q = σ.1 + k
    · rw [if_pos hq, if_pos (by omega), show q - σ.1 = k by omega, List.getElem?_set_self h]
    · rw [if_neg hq]
      by_cases h1 : σ.1 ≤ q
      · rw [if_pos h1, if_pos h1, List.getElem?_set_ne (by omega)]
      · rw [if_neg h1, if_neg h1]
theorem lg_at {σ : rj_H} {L : List va_E} {m k : Nat} : (rj_lg σ L m).2.2 (σ.1 + k) = L[k]? := by
  show (if σ.1 ≤ σ.1 + k then L[σ.1 + k - σ.1]? else _) = _
  rw [if_pos (by omega), Nat.add_sub_cancel_left]
theorem lg_lt {σ : rj_H} {L : List va_E} {m q : Nat} (h : q < σ.1) : (rj_lg σ L m).2.2 q = σ.2.2 q := if_neg (by omega)
theorem lg_lg {σ : rj_H} {A B : List va_E} {m n : Nat} : rj_lg (rj_lg σ A m) B n = rj_lg σ (A ++ B) (m + n) := by
  unfold rj_lg
  refine Prod.ext ?_ (Prod.ext ?_ (funext fun q => ?_))
  · show σ.1 + A.length + B.length = σ.1 + (A ++ B).length
    rw [List.length_append]; omega
  · show σ.2.1 + m + n = σ.2.1 + (m + n); omega
  · show (if σ.1 + A.length ≤ q then B[q - (σ.1 + A.length)]? else if σ.1 ≤ q then A[q - σ.1]? else σ.2.2 q) = if σ.1 ≤ q then (A ++ B)[q - σ.1]? else σ.2.2 q
    by_cases h : σ.1 + A.length ≤ q
    · rw [if_pos h, if_pos (by omega), List.getElem?_append_right (by omega)]
      congr 1
      omega
    · rw [if_neg h]
      by_cases h2 : σ.1 ≤ q
      · rw [if_pos h2, if_pos h2, List.getElem?_append_left (by omega)]
      · rw [if_neg h2, if_neg h2]
theorem lg_mn {X9 : rj_X} {σ : rj_H} {L : List va_E} {m n k : Nat} : rj_mn X9 (rj_lg σ L m) n k = rj_lg σ (L ++ (rj_rr X9 3 n (fun j => some (σ.1 + L.length + 1 + j.toNat)) :: List.replicate n (rj_ar X9 0 k (fun _ => 0)))) (m + n + n * k) := by
  unfold rj_mn rj_lg
  refine Prod.ext ?_ (Prod.ext ?_ (funext fun q => ?_))
  · show σ.1 + L.length + 1 + n = σ.1 + (L ++ _ :: List.replicate n _).length
    rw [List.length_append, List.length_cons, List.length_replicate]; omega
  · show σ.2.1 + m + n + n * k = σ.2.1 + (m + n + n * k); omega
  · show (if q = σ.1 + L.length then some (rj_rr X9 3 n (fun j => some (σ.1 + L.length + 1 + j.toNat))) else if σ.1 + L.length < q ∧ q ≤ σ.1 + L.length + n then some (rj_ar X9 0 k (fun _ => 0)) else if σ.1 ≤ q then L[q - σ.1]? else σ.2.2 q) = if σ.1 ≤ q then (L ++ _)[q - σ.1]? else σ.2.2 q
    by_cases h : σ.1 ≤ q
    · rw [if_pos h, if_pos h]
      by_cases hq : q = σ.1 + L.length
      · rw [if_pos hq, List.getElem?_append_right (by omega), show q - σ.1 - L.length = 0 by omega]; rfl
      · rw [if_neg hq]
        by_cases hl : q - σ.1 < L.length
        · rw [if_neg (by omega), List.getElem?_append_left hl]
        · rw [List.getElem?_append_right (by omega), show q - σ.1 - L.length = (q - σ.1 - L.length - 1) + 1 by omega, List.getElem?_cons_succ]
          by_cases h3 : q ≤ σ.1 + L.length + n
          · rw [if_pos (by omega), List.getElem?_replicate, if_pos (by omega)]
          · rw [if_neg (by omega), List.getElem?_replicate, if_neg (by omega), List.getElem?_eq_none (by omega)]
    · rw [if_neg h, if_neg h, if_neg (by omega), if_neg (by omega)]
theorem rj_z15 : ∀ j : Nat, j < 15 → defaultValue (tyX5 j) = vp_V [.null, rj_i 0, .null, rj_i 0, .null, rj_i 0, .null, rj_i 0, .null, rj_i 0, .null, rj_i 0, .null, rj_i 0, rj_i 0] j
  | 0, _ => rfl | 1, _ => rfl | 2, _ => rfl | 3, _ => rfl | 4, _ => rfl | 5, _ => rfl | 6, _ => rfl | 7, _ => rfl | 8, _ => rfl | 9, _ => rfl | 10, _ => rfl | 11, _ => rfl | 12, _ => rfl | 13, _ => rfl | 14, _ => rfl
  | n + 15, h => absurd h (by omega)
theorem rj_z2 : ∀ j : Nat, j < 2 → defaultValue (tyX7 j) = vp_V [.null, rj_i 0] j
  | 0, _ => rfl | 1, _ => rfl
  | n + 2, h => absurd h (by omega)
theorem rj_z10 : ∀ j : Nat, j < 10 → defaultValue (tyX11 j) = vp_V [.null, .null, rj_i 0, .null, .null, .null, .null, .null, .null, .null] j
  | 0, _ => rfl | 1, _ => rfl | 2, _ => rfl | 3, _ => rfl | 4, _ => rfl | 5, _ => rfl | 6, _ => rfl | 7, _ => rfl | 8, _ => rfl | 9, _ => rfl
  | n + 10, h => absurd h (by omega)
set_option maxRecDepth 20000 in
set_option maxHeartbeats 1000000 in
theorem k_scene {X9 : rj_X} {σ : rj_H} {d : Nat} (hd : 2 ≤ d) : rj_Cl X9 d yX5_init cX5_init 2 none [.ref σ.1] (rj_lg σ [.inr (5, [.null, rj_i 0, .null, rj_i 0, .null, rj_i 0, .null, rj_i 0, .null, rj_i 0, .null, rj_i 0, .null, rj_i 0, rj_i 0])] 15) (fun w9 τ => w9 = none ∧ τ = rj_lg σ [.inr (5, [.ref (σ.1 + 1), rj_i 0, .ref (σ.1 + 2), rj_i 0, .ref (σ.1 + 9), rj_i 0, .ref (σ.1 + 10), rj_i 0, .ref (σ.1 + 11), rj_i 0, .ref (σ.1 + 17), rj_i 0, .ref (σ.1 + 24), rj_i 0, rj_i 0]), rj_rr X9 4 6 (fun _ => none), rj_rr X9 3 6 (fun j => some (σ.1 + 2 + 1 + j.toNat)), rj_ar X9 0 4 (fun _ => 0), rj_ar X9 0 4 (fun _ => 0), rj_ar X9 0 4 (fun _ => 0), rj_ar X9 0 4 (fun _ => 0), rj_ar X9 0 4 (fun _ => 0), rj_ar X9 0 4 (fun _ => 0), rj_rr X9 5 8 (fun _ => none), rj_ar X9 1 120 (fun _ => 0), .inr (9, [.ref (σ.1 + 12), rj_i 0, .ref (σ.1 + 13), .ref (σ.1 + 14), rj_i 0, .ref (σ.1 + 15), .ref (σ.1 + 16), rj_i 0, rj_i 9, .null, rj_i 0, rj_i 0, rj_i (-1)]), rj_ar X9 0 120 (fun _ => 0), rj_ar X9 0 10 (fun _ => 0), rj_ar X9 0 10 (fun _ => 0), rj_ar X9 0 5 (fun _ => 0), rj_ar X9 0 13 (fun _ => 0), rj_rr X9 3 6 (fun j => some (σ.1 + 17 + 1 + j.toNat)), rj_ar X9 0 8 (rj_fl ((8 : Nat) : Int) (-1) (fun _ => 0)), rj_ar X9 0 8 (rj_fl ((8 : Nat) : Int) (-1) (fun _ => 0)), rj_ar X9 0 8 (rj_fl ((8 : Nat) : Int) (-1) (fun _ => 0)), rj_ar X9 0 8 (rj_fl ((8 : Nat) : Int) (-1) (fun _ => 0)), rj_ar X9 0 8 (rj_fl ((8 : Nat) : Int) (-1) (fun _ => 0)), rj_ar X9 0 8 (rj_fl ((8 : Nat) : Int) (-1) (fun _ => 0)), rj_rr X9 3 6 (fun j => some (σ.1 + 24 + 1 + j.toNat)), rj_ar X9 0 6 (fun _ => 0), rj_ar X9 0 6 (fun _ => 0), rj_ar X9 0 6 (fun _ => 0), rj_ar X9 0 6 (fun _ => 0), rj_ar X9 0 6 (fun _ => 0), rj_ar X9 0 6 (fun _ => 0)] 446) := by
  refine go_call (by decide +kernel) (Nat.le_of_ble_eq_true rfl) ?_
  refine go_eq (pc' := 0) (lv' := [(0, .ref σ.1)]) (st' := []) rfl rfl rfl rfl ?_
  refine go_aload_n dX5_init_0 rfl 0 rfl ?_
  refine go_obj (rj_inT 36 (by decide +kernel)) (rj_inT 29 (by decide +kernel)) (rj_inT 30 (by decide +kernel)) (by omega) (Nat.le_of_ble_eq_true rfl) dX5_init_1 ?_
  refine go_aload_n dX5_init_4 rfl 0 rfl ?_
  refine go_bipush (v := Int32.ofInt 6) dX5_init_5 (by decide) ?_
  refine go_anew (n := 6) (t := 4) rfl (by decide) rfl (by decide) (rj_inT 37 (by decide +kernel)) dX5_init_7 ?_
  refine go_eq (st' := [.ref (σ.1 + 1), .ref σ.1]) (σ' := (rj_lg σ [.inr (5, [.null, rj_i 0, .null, rj_i 0, .null, rj_i 0, .null, rj_i 0, .null, rj_i 0, .null, rj_i 0, .null, rj_i 0, rj_i 0]), rj_rr X9 4 6 (fun _ => none)] 21)) rfl rfl rfl (lg_new) ?_
  refine go_put (k := 0) (a := σ.1 + 0) kX5 (by decide) fX5_11 (Or.inr ⟨rfl, rfl⟩) (lg_at.trans rfl) (by show 0 < 15; decide) rfl rfl dX5_init_10 ?_
  refine go_eq (st' := []) (σ' := (rj_lg σ [.inr (5, [.ref (σ.1 + 1), rj_i 0, .null, rj_i 0, .null, rj_i 0, .null, rj_i 0, .null, rj_i 0, .null, rj_i 0, .null, rj_i 0, rj_i 0]), rj_rr X9 4 6 (fun _ => none)] 21)) rfl rfl rfl (lg_set (Nat.le_of_ble_eq_true rfl)) ?_
  refine go_aload_n dX5_init_13 rfl 0 rfl ?_
  refine go_iconst (v := Int32.ofInt 0) dX5_init_14 rfl ?_
  refine go_put (k := 1) (a := σ.1 + 0) kX5 (by decide) fX5_17 (Or.inr ⟨rfl, rfl⟩) (lg_at.trans rfl) (by show 1 < 15; decide) rfl rfl dX5_init_15 ?_
  refine go_eq (st' := []) (σ' := (rj_lg σ [.inr (5, [.ref (σ.1 + 1), rj_i 0, .null, rj_i 0, .null, rj_i 0, .null, rj_i 0, .null, rj_i 0, .null, rj_i 0, .null, rj_i 0, rj_i 0]), rj_rr X9 4 6 (fun _ => none)] 21)) rfl rfl rfl (lg_set (Nat.le_of_ble_eq_true rfl)) ?_
  refine go_aload_n dX5_init_18 rfl 0 rfl ?_
  refine go_bipush (v := Int32.ofInt 6) dX5_init_19 (by decide) ?_
  refine go_iconst (v := Int32.ofInt 4) dX5_init_21 rfl ?_
  refine go_mnew (n := 6) (k := 4) rfl rfl (by decide) (by decide) (rj_inT 39 (by decide +kernel)) (rj_inT 91 (by decide +kernel)) dX5_init_22 ?_
  refine go_eq (st' := [.ref (σ.1 + 2), .ref σ.1]) (σ' := (rj_lg σ [.inr (5, [.ref (σ.1 + 1), rj_i 0, .null, rj_i 0, .null, rj_i 0, .null, rj_i 0, .null, rj_i 0, .null, rj_i 0, .null, rj_i 0, rj_i 0]), rj_rr X9 4 6 (fun _ => none), rj_rr X9 3 6 (fun j => some (σ.1 + 2 + 1 + j.toNat)), rj_ar X9 0 4 (fun _ => 0), rj_ar X9 0 4 (fun _ => 0), rj_ar X9 0 4 (fun _ => 0), rj_ar X9 0 4 (fun _ => 0), rj_ar X9 0 4 (fun _ => 0), rj_ar X9 0 4 (fun _ => 0)] 51)) rfl rfl rfl (lg_mn) ?_
  refine go_put (k := 2) (a := σ.1 + 0) kX5 (by decide) fX5_23 (Or.inr ⟨rfl, rfl⟩) (lg_at.trans rfl) (by show 2 < 15; decide) rfl rfl dX5_init_26 ?_
  refine go_eq (st' := []) (σ' := (rj_lg σ [.inr (5, [.ref (σ.1 + 1), rj_i 0, .ref (σ.1 + 2), rj_i 0, .null, rj_i 0, .null, rj_i 0, .null, rj_i 0, .null, rj_i 0, .null, rj_i 0, rj_i 0]), rj_rr X9 4 6 (fun _ => none), rj_rr X9 3 6 (fun j => some (σ.1 + 2 + 1 + j.toNat)), rj_ar X9 0 4 (fun _ => 0), rj_ar X9 0 4 (fun _ => 0), rj_ar X9 0 4 (fun _ => 0), rj_ar X9 0 4 (fun _ => 0), rj_ar X9 0 4 (fun _ => 0), rj_ar X9 0 4 (fun _ => 0)] 51)) rfl rfl rfl (lg_set (Nat.le_of_ble_eq_true rfl)) ?_
  refine go_aload_n dX5_init_29 rfl 0 rfl ?_
  refine go_iconst (v := Int32.ofInt 0) dX5_init_30 rfl ?_
  refine go_put (k := 3) (a := σ.1 + 0) kX5 (by decide) fX5_26 (Or.inr ⟨rfl, rfl⟩) (lg_at.trans rfl) (by show 3 < 15; decide) rfl rfl dX5_init_31 ?_
  refine go_eq (st' := []) (σ' := (rj_lg σ [.inr (5, [.ref (σ.1 + 1), rj_i 0, .ref (σ.1 + 2), rj_i 0, .null, rj_i 0, .null, rj_i 0, .null, rj_i 0, .null, rj_i 0, .null, rj_i 0, rj_i 0]), rj_rr X9 4 6 (fun _ => none), rj_rr X9 3 6 (fun j => some (σ.1 + 2 + 1 + j.toNat)), rj_ar X9 0 4 (fun _ => 0), rj_ar X9 0 4 (fun _ => 0), rj_ar X9 0 4 (fun _ => 0), rj_ar X9 0 4 (fun _ => 0), rj_ar X9 0 4 (fun _ => 0), rj_ar X9 0 4 (fun _ => 0)] 51)) rfl rfl rfl (lg_set (Nat.le_of_ble_eq_true rfl)) ?_
  refine go_aload_n dX5_init_34 rfl 0 rfl ?_
  refine go_bipush (v := Int32.ofInt 8) dX5_init_35 (by decide) ?_
  refine go_anew (n := 8) (t := 5) rfl (by decide) rfl (by decide) (rj_inT 41 (by decide +kernel)) dX5_init_37 ?_
  refine go_eq (st' := [.ref (σ.1 + 9), .ref σ.1]) (σ' := (rj_lg σ [.inr (5, [.ref (σ.1 + 1), rj_i 0, .ref (σ.1 + 2), rj_i 0, .null, rj_i 0, .null, rj_i 0, .null, rj_i 0, .null, rj_i 0, .null, rj_i 0, rj_i 0]), rj_rr X9 4 6 (fun _ => none), rj_rr X9 3 6 (fun j => some (σ.1 + 2 + 1 + j.toNat)), rj_ar X9 0 4 (fun _ => 0), rj_ar X9 0 4 (fun _ => 0), rj_ar X9 0 4 (fun _ => 0), rj_ar X9 0 4 (fun _ => 0), rj_ar X9 0 4 (fun _ => 0), rj_ar X9 0 4 (fun _ => 0), rj_rr X9 5 8 (fun _ => none)] 59)) rfl rfl rfl (lg_new) ?_
  refine go_put (k := 4) (a := σ.1 + 0) kX5 (by decide) fX5_31 (Or.inr ⟨rfl, rfl⟩) (lg_at.trans rfl) (by show 4 < 15; decide) rfl rfl dX5_init_40 ?_
  refine go_eq (st' := []) (σ' := (rj_lg σ [.inr (5, [.ref (σ.1 + 1), rj_i 0, .ref (σ.1 + 2), rj_i 0, .ref (σ.1 + 9), rj_i 0, .null, rj_i 0, .null, rj_i 0, .null, rj_i 0, .null, rj_i 0, rj_i 0]), rj_rr X9 4 6 (fun _ => none), rj_rr X9 3 6 (fun j => some (σ.1 + 2 + 1 + j.toNat)), rj_ar X9 0 4 (fun _ => 0), rj_ar X9 0 4 (fun _ => 0), rj_ar X9 0 4 (fun _ => 0), rj_ar X9 0 4 (fun _ => 0), rj_ar X9 0 4 (fun _ => 0), rj_ar X9 0 4 (fun _ => 0), rj_rr X9 5 8 (fun _ => none)] 59)) rfl rfl rfl (lg_set (Nat.le_of_ble_eq_true rfl)) ?_
  refine go_aload_n dX5_init_43 rfl 0 rfl ?_
  refine go_iconst (v := Int32.ofInt 0) dX5_init_44 rfl ?_
  refine go_put (k := 5) (a := σ.1 + 0) kX5 (by decide) fX5_35 (Or.inr ⟨rfl, rfl⟩) (lg_at.trans rfl) (by show 5 < 15; decide) rfl rfl dX5_init_45 ?_
  refine go_eq (st' := []) (σ' := (rj_lg σ [.inr (5, [.ref (σ.1 + 1), rj_i 0, .ref (σ.1 + 2), rj_i 0, .ref (σ.1 + 9), rj_i 0, .null, rj_i 0, .null, rj_i 0, .null, rj_i 0, .null, rj_i 0, rj_i 0]), rj_rr X9 4 6 (fun _ => none), rj_rr X9 3 6 (fun j => some (σ.1 + 2 + 1 + j.toNat)), rj_ar X9 0 4 (fun _ => 0), rj_ar X9 0 4 (fun _ => 0), rj_ar X9 0 4 (fun _ => 0), rj_ar X9 0 4 (fun _ => 0), rj_ar X9 0 4 (fun _ => 0), rj_ar X9 0 4 (fun _ => 0), rj_rr X9 5 8 (fun _ => none)] 59)) rfl rfl rfl (lg_set (Nat.le_of_ble_eq_true rfl)) ?_
  refine go_aload_n dX5_init_48 rfl 0 rfl ?_
  refine go_bipush (v := Int32.ofInt 120) dX5_init_49 (by decide) ?_
  refine go_bnew (n := 120) rfl (by decide) (rj_inT 92 (by decide +kernel)) dX5_init_51 ?_
  refine go_eq (st' := [.ref (σ.1 + 10), .ref σ.1]) (σ' := (rj_lg σ [.inr (5, [.ref (σ.1 + 1), rj_i 0, .ref (σ.1 + 2), rj_i 0, .ref (σ.1 + 9), rj_i 0, .null, rj_i 0, .null, rj_i 0, .null, rj_i 0, .null, rj_i 0, rj_i 0]), rj_rr X9 4 6 (fun _ => none), rj_rr X9 3 6 (fun j => some (σ.1 + 2 + 1 + j.toNat)), rj_ar X9 0 4 (fun _ => 0), rj_ar X9 0 4 (fun _ => 0), rj_ar X9 0 4 (fun _ => 0), rj_ar X9 0 4 (fun _ => 0), rj_ar X9 0 4 (fun _ => 0), rj_ar X9 0 4 (fun _ => 0), rj_rr X9 5 8 (fun _ => none), rj_ar X9 1 120 (fun _ => 0)] 179)) rfl rfl rfl (lg_new) ?_
  refine go_put (k := 6) (a := σ.1 + 0) kX5 (by decide) fX5_38 (Or.inr ⟨rfl, rfl⟩) (lg_at.trans rfl) (by show 6 < 15; decide) rfl rfl dX5_init_53 ?_
  refine go_eq (st' := []) (σ' := (rj_lg σ [.inr (5, [.ref (σ.1 + 1), rj_i 0, .ref (σ.1 + 2), rj_i 0, .ref (σ.1 + 9), rj_i 0, .ref (σ.1 + 10), rj_i 0, .null, rj_i 0, .null, rj_i 0, .null, rj_i 0, rj_i 0]), rj_rr X9 4 6 (fun _ => none), rj_rr X9 3 6 (fun j => some (σ.1 + 2 + 1 + j.toNat)), rj_ar X9 0 4 (fun _ => 0), rj_ar X9 0 4 (fun _ => 0), rj_ar X9 0 4 (fun _ => 0), rj_ar X9 0 4 (fun _ => 0), rj_ar X9 0 4 (fun _ => 0), rj_ar X9 0 4 (fun _ => 0), rj_rr X9 5 8 (fun _ => none), rj_ar X9 1 120 (fun _ => 0)] 179)) rfl rfl rfl (lg_set (Nat.le_of_ble_eq_true rfl)) ?_
  refine go_aload_n dX5_init_56 rfl 0 rfl ?_
  refine go_iconst (v := Int32.ofInt 0) dX5_init_57 rfl ?_
  refine go_put (k := 7) (a := σ.1 + 0) kX5 (by decide) fX5_42 (Or.inr ⟨rfl, rfl⟩) (lg_at.trans rfl) (by show 7 < 15; decide) rfl rfl dX5_init_58 ?_
  refine go_eq (st' := []) (σ' := (rj_lg σ [.inr (5, [.ref (σ.1 + 1), rj_i 0, .ref (σ.1 + 2), rj_i 0, .ref (σ.1 + 9), rj_i 0, .ref (σ.1 + 10), rj_i 0, .null, rj_i 0, .null, rj_i 0, .null, rj_i 0, rj_i 0]), rj_rr X9 4 6 (fun _ => none), rj_rr X9 3 6 (fun j => some (σ.1 + 2 + 1 + j.toNat)), rj_ar X9 0 4 (fun _ => 0), rj_ar X9 0 4 (fun _ => 0), rj_ar X9 0 4 (fun _ => 0), rj_ar X9 0 4 (fun _ => 0), rj_ar X9 0 4 (fun _ => 0), rj_ar X9 0 4 (fun _ => 0), rj_rr X9 5 8 (fun _ => none), rj_ar X9 1 120 (fun _ => 0)] 179)) rfl rfl rfl (lg_set (Nat.le_of_ble_eq_true rfl)) ?_
  refine go_aload_n dX5_init_61 rfl 0 rfl ?_
  refine go_newo (fs := [.null, rj_i 0, .null, .null, rj_i 0, .null, .null, rj_i 0, rj_i 0, .null, rj_i 0, rj_i 0, rj_i 0]) kX9 (rj_inT 43 (by decide +kernel)) (rj_inT 44 (by decide +kernel)) (rj_inT 3 (by decide +kernel)) rj_z13 dX5_init_62 ?_
  refine go_eq (st' := [.ref (σ.1 + 11), .ref σ.1]) (σ' := (rj_lg σ [.inr (5, [.ref (σ.1 + 1), rj_i 0, .ref (σ.1 + 2), rj_i 0, .ref (σ.1 + 9), rj_i 0, .ref (σ.1 + 10), rj_i 0, .null, rj_i 0, .null, rj_i 0, .null, rj_i 0, rj_i 0]), rj_rr X9 4 6 (fun _ => none), rj_rr X9 3 6 (fun j => some (σ.1 + 2 + 1 + j.toNat)), rj_ar X9 0 4 (fun _ => 0), rj_ar X9 0 4 (fun _ => 0), rj_ar X9 0 4 (fun _ => 0), rj_ar X9 0 4 (fun _ => 0), rj_ar X9 0 4 (fun _ => 0), rj_ar X9 0 4 (fun _ => 0), rj_rr X9 5 8 (fun _ => none), rj_ar X9 1 120 (fun _ => 0), .inr (9, [.null, rj_i 0, .null, .null, rj_i 0, .null, .null, rj_i 0, rj_i 0, .null, rj_i 0, rj_i 0, rj_i 0])] 192)) rfl rfl rfl (lg_new) ?_
  refine go_dup dX5_init_65 rfl ?_
  refine go_callN (d1 := d - 1) (Pc := fun _ τ => τ = _) wNX5_47 rfl (by omega) (k_valley (a := σ.1 + 11) (by omega) (lg_at.trans rfl) (by show σ.1 + 11 < σ.1 + 12; omega)) rfl (Nat.le_of_ble_eq_true rfl) dX5_init_66 (fun σ1 hP9 => ?_)
  subst hP9
  refine go_eq (st' := [.ref (σ.1 + 11), .ref σ.1]) (σ' := (rj_lg σ [.inr (5, [.ref (σ.1 + 1), rj_i 0, .ref (σ.1 + 2), rj_i 0, .ref (σ.1 + 9), rj_i 0, .ref (σ.1 + 10), rj_i 0, .null, rj_i 0, .null, rj_i 0, .null, rj_i 0, rj_i 0]), rj_rr X9 4 6 (fun _ => none), rj_rr X9 3 6 (fun j => some (σ.1 + 2 + 1 + j.toNat)), rj_ar X9 0 4 (fun _ => 0), rj_ar X9 0 4 (fun _ => 0), rj_ar X9 0 4 (fun _ => 0), rj_ar X9 0 4 (fun _ => 0), rj_ar X9 0 4 (fun _ => 0), rj_ar X9 0 4 (fun _ => 0), rj_rr X9 5 8 (fun _ => none), rj_ar X9 1 120 (fun _ => 0), .inr (9, [.ref (σ.1 + 12), rj_i 0, .ref (σ.1 + 13), .ref (σ.1 + 14), rj_i 0, .ref (σ.1 + 15), .ref (σ.1 + 16), rj_i 0, rj_i 9, .null, rj_i 0, rj_i 0, rj_i (-1)]), rj_ar X9 0 120 (fun _ => 0), rj_ar X9 0 10 (fun _ => 0), rj_ar X9 0 10 (fun _ => 0), rj_ar X9 0 5 (fun _ => 0), rj_ar X9 0 13 (fun _ => 0)] 350)) rfl rfl rfl ((congrArg (fun z => rj_set z (σ.1 + 11) _) (show rk_v5 X9 _ = rj_lg σ [.inr (5, [.ref (σ.1 + 1), rj_i 0, .ref (σ.1 + 2), rj_i 0, .ref (σ.1 + 9), rj_i 0, .ref (σ.1 + 10), rj_i 0, .null, rj_i 0, .null, rj_i 0, .null, rj_i 0, rj_i 0]), rj_rr X9 4 6 (fun _ => none), rj_rr X9 3 6 (fun j => some (σ.1 + 2 + 1 + j.toNat)), rj_ar X9 0 4 (fun _ => 0), rj_ar X9 0 4 (fun _ => 0), rj_ar X9 0 4 (fun _ => 0), rj_ar X9 0 4 (fun _ => 0), rj_ar X9 0 4 (fun _ => 0), rj_ar X9 0 4 (fun _ => 0), rj_rr X9 5 8 (fun _ => none), rj_ar X9 1 120 (fun _ => 0), .inr (9, [.null, rj_i 0, .null, .null, rj_i 0, .null, .null, rj_i 0, rj_i 0, .null, rj_i 0, rj_i 0, rj_i 0]), rj_ar X9 0 120 (fun _ => 0), rj_ar X9 0 10 (fun _ => 0), rj_ar X9 0 10 (fun _ => 0), rj_ar X9 0 5 (fun _ => 0), rj_ar X9 0 13 (fun _ => 0)] 350 by unfold rk_v5; rw [lg_new, lg_new, lg_new, lg_new, lg_new]; rfl)).trans (lg_set (Nat.le_of_ble_eq_true rfl))) ?_
  refine go_put (k := 8) (a := σ.1 + 0) kX5 (by decide) fX5_48 (Or.inr ⟨rfl, rfl⟩) (lg_at.trans rfl) (by show 8 < 15; decide) rfl rfl dX5_init_69 ?_
  refine go_eq (st' := []) (σ' := (rj_lg σ [.inr (5, [.ref (σ.1 + 1), rj_i 0, .ref (σ.1 + 2), rj_i 0, .ref (σ.1 + 9), rj_i 0, .ref (σ.1 + 10), rj_i 0, .ref (σ.1 + 11), rj_i 0, .null, rj_i 0, .null, rj_i 0, rj_i 0]), rj_rr X9 4 6 (fun _ => none), rj_rr X9 3 6 (fun j => some (σ.1 + 2 + 1 + j.toNat)), rj_ar X9 0 4 (fun _ => 0), rj_ar X9 0 4 (fun _ => 0), rj_ar X9 0 4 (fun _ => 0), rj_ar X9 0 4 (fun _ => 0), rj_ar X9 0 4 (fun _ => 0), rj_ar X9 0 4 (fun _ => 0), rj_rr X9 5 8 (fun _ => none), rj_ar X9 1 120 (fun _ => 0), .inr (9, [.ref (σ.1 + 12), rj_i 0, .ref (σ.1 + 13), .ref (σ.1 + 14), rj_i 0, .ref (σ.1 + 15), .ref (σ.1 + 16), rj_i 0, rj_i 9, .null, rj_i 0, rj_i 0, rj_i (-1)]), rj_ar X9 0 120 (fun _ => 0), rj_ar X9 0 10 (fun _ => 0), rj_ar X9 0 10 (fun _ => 0), rj_ar X9 0 5 (fun _ => 0), rj_ar X9 0 13 (fun _ => 0)] 350)) rfl rfl rfl (lg_set (Nat.le_of_ble_eq_true rfl)) ?_
  refine go_aload_n dX5_init_72 rfl 0 rfl ?_
  refine go_iconst (v := Int32.ofInt 0) dX5_init_73 rfl ?_
  refine go_put (k := 9) (a := σ.1 + 0) kX5 (by decide) fX5_52 (Or.inr ⟨rfl, rfl⟩) (lg_at.trans rfl) (by show 9 < 15; decide) rfl rfl dX5_init_74 ?_
  refine go_eq (st' := []) (σ' := (rj_lg σ [.inr (5, [.ref (σ.1 + 1), rj_i 0, .ref (σ.1 + 2), rj_i 0, .ref (σ.1 + 9), rj_i 0, .ref (σ.1 + 10), rj_i 0, .ref (σ.1 + 11), rj_i 0, .null, rj_i 0, .null, rj_i 0, rj_i 0]), rj_rr X9 4 6 (fun _ => none), rj_rr X9 3 6 (fun j => some (σ.1 + 2 + 1 + j.toNat)), rj_ar X9 0 4 (fun _ => 0), rj_ar X9 0 4 (fun _ => 0), rj_ar X9 0 4 (fun _ => 0), rj_ar X9 0 4 (fun _ => 0), rj_ar X9 0 4 (fun _ => 0), rj_ar X9 0 4 (fun _ => 0), rj_rr X9 5 8 (fun _ => none), rj_ar X9 1 120 (fun _ => 0), .inr (9, [.ref (σ.1 + 12), rj_i 0, .ref (σ.1 + 13), .ref (σ.1 + 14), rj_i 0, .ref (σ.1 + 15), .ref (σ.1 + 16), rj_i 0, rj_i 9, .null, rj_i 0, rj_i 0, rj_i (-1)]), rj_ar X9 0 120 (fun _ => 0), rj_ar X9 0 10 (fun _ => 0), rj_ar X9 0 10 (fun _ => 0), rj_ar X9 0 5 (fun _ => 0), rj_ar X9 0 13 (fun _ => 0)] 350)) rfl rfl rfl (lg_set (Nat.le_of_ble_eq_true rfl)) ?_
  refine go_aload_n dX5_init_77 rfl 0 rfl ?_
  refine go_bipush (v := Int32.ofInt 6) dX5_init_78 (by decide) ?_
  refine go_bipush (v := Int32.ofInt 8) dX5_init_80 (by decide) ?_
  refine go_mnew (n := 6) (k := 8) rfl rfl (by decide) (by decide) (rj_inT 39 (by decide +kernel)) (rj_inT 91 (by decide +kernel)) dX5_init_82 ?_
  refine go_eq (st' := [.ref (σ.1 + 17), .ref σ.1]) (σ' := (rj_lg σ [.inr (5, [.ref (σ.1 + 1), rj_i 0, .ref (σ.1 + 2), rj_i 0, .ref (σ.1 + 9), rj_i 0, .ref (σ.1 + 10), rj_i 0, .ref (σ.1 + 11), rj_i 0, .null, rj_i 0, .null, rj_i 0, rj_i 0]), rj_rr X9 4 6 (fun _ => none), rj_rr X9 3 6 (fun j => some (σ.1 + 2 + 1 + j.toNat)), rj_ar X9 0 4 (fun _ => 0), rj_ar X9 0 4 (fun _ => 0), rj_ar X9 0 4 (fun _ => 0), rj_ar X9 0 4 (fun _ => 0), rj_ar X9 0 4 (fun _ => 0), rj_ar X9 0 4 (fun _ => 0), rj_rr X9 5 8 (fun _ => none), rj_ar X9 1 120 (fun _ => 0), .inr (9, [.ref (σ.1 + 12), rj_i 0, .ref (σ.1 + 13), .ref (σ.1 + 14), rj_i 0, .ref (σ.1 + 15), .ref (σ.1 + 16), rj_i 0, rj_i 9, .null, rj_i 0, rj_i 0, rj_i (-1)]), rj_ar X9 0 120 (fun _ => 0), rj_ar X9 0 10 (fun _ => 0), rj_ar X9 0 10 (fun _ => 0), rj_ar X9 0 5 (fun _ => 0), rj_ar X9 0 13 (fun _ => 0), rj_rr X9 3 6 (fun j => some (σ.1 + 17 + 1 + j.toNat)), rj_ar X9 0 8 (fun _ => 0), rj_ar X9 0 8 (fun _ => 0), rj_ar X9 0 8 (fun _ => 0), rj_ar X9 0 8 (fun _ => 0), rj_ar X9 0 8 (fun _ => 0), rj_ar X9 0 8 (fun _ => 0)] 404)) rfl rfl rfl (lg_mn) ?_
  refine go_put (k := 10) (a := σ.1 + 0) kX5 (by decide) fX5_55 (Or.inr ⟨rfl, rfl⟩) (lg_at.trans rfl) (by show 10 < 15; decide) rfl rfl dX5_init_86 ?_
  refine go_eq (st' := []) (σ' := (rj_lg σ [.inr (5, [.ref (σ.1 + 1), rj_i 0, .ref (σ.1 + 2), rj_i 0, .ref (σ.1 + 9), rj_i 0, .ref (σ.1 + 10), rj_i 0, .ref (σ.1 + 11), rj_i 0, .ref (σ.1 + 17), rj_i 0, .null, rj_i 0, rj_i 0]), rj_rr X9 4 6 (fun _ => none), rj_rr X9 3 6 (fun j => some (σ.1 + 2 + 1 + j.toNat)), rj_ar X9 0 4 (fun _ => 0), rj_ar X9 0 4 (fun _ => 0), rj_ar X9 0 4 (fun _ => 0), rj_ar X9 0 4 (fun _ => 0), rj_ar X9 0 4 (fun _ => 0), rj_ar X9 0 4 (fun _ => 0), rj_rr X9 5 8 (fun _ => none), rj_ar X9 1 120 (fun _ => 0), .inr (9, [.ref (σ.1 + 12), rj_i 0, .ref (σ.1 + 13), .ref (σ.1 + 14), rj_i 0, .ref (σ.1 + 15), .ref (σ.1 + 16), rj_i 0, rj_i 9, .null, rj_i 0, rj_i 0, rj_i (-1)]), rj_ar X9 0 120 (fun _ => 0), rj_ar X9 0 10 (fun _ => 0), rj_ar X9 0 10 (fun _ => 0), rj_ar X9 0 5 (fun _ => 0), rj_ar X9 0 13 (fun _ => 0), rj_rr X9 3 6 (fun j => some (σ.1 + 17 + 1 + j.toNat)), rj_ar X9 0 8 (fun _ => 0), rj_ar X9 0 8 (fun _ => 0), rj_ar X9 0 8 (fun _ => 0), rj_ar X9 0 8 (fun _ => 0), rj_ar X9 0 8 (fun _ => 0), rj_ar X9 0 8 (fun _ => 0)] 404)) rfl rfl rfl (lg_set (Nat.le_of_ble_eq_true rfl)) ?_
  refine go_aload_n dX5_init_89 rfl 0 rfl ?_
  refine go_iconst (v := Int32.ofInt 0) dX5_init_90 rfl ?_
  refine go_put (k := 11) (a := σ.1 + 0) kX5 (by decide) fX5_58 (Or.inr ⟨rfl, rfl⟩) (lg_at.trans rfl) (by show 11 < 15; decide) rfl rfl dX5_init_91 ?_
  refine go_eq (st' := []) (σ' := (rj_lg σ [.inr (5, [.ref (σ.1 + 1), rj_i 0, .ref (σ.1 + 2), rj_i 0, .ref (σ.1 + 9), rj_i 0, .ref (σ.1 + 10), rj_i 0, .ref (σ.1 + 11), rj_i 0, .ref (σ.1 + 17), rj_i 0, .null, rj_i 0, rj_i 0]), rj_rr X9 4 6 (fun _ => none), rj_rr X9 3 6 (fun j => some (σ.1 + 2 + 1 + j.toNat)), rj_ar X9 0 4 (fun _ => 0), rj_ar X9 0 4 (fun _ => 0), rj_ar X9 0 4 (fun _ => 0), rj_ar X9 0 4 (fun _ => 0), rj_ar X9 0 4 (fun _ => 0), rj_ar X9 0 4 (fun _ => 0), rj_rr X9 5 8 (fun _ => none), rj_ar X9 1 120 (fun _ => 0), .inr (9, [.ref (σ.1 + 12), rj_i 0, .ref (σ.1 + 13), .ref (σ.1 + 14), rj_i 0, .ref (σ.1 + 15), .ref (σ.1 + 16), rj_i 0, rj_i 9, .null, rj_i 0, rj_i 0, rj_i (-1)]), rj_ar X9 0 120 (fun _ => 0), rj_ar X9 0 10 (fun _ => 0), rj_ar X9 0 10 (fun _ => 0), rj_ar X9 0 5 (fun _ => 0), rj_ar X9 0 13 (fun _ => 0), rj_rr X9 3 6 (fun j => some (σ.1 + 17 + 1 + j.toNat)), rj_ar X9 0 8 (fun _ => 0), rj_ar X9 0 8 (fun _ => 0), rj_ar X9 0 8 (fun _ => 0), rj_ar X9 0 8 (fun _ => 0), rj_ar X9 0 8 (fun _ => 0), rj_ar X9 0 8 (fun _ => 0)] 404)) rfl rfl rfl (lg_set (Nat.le_of_ble_eq_true rfl)) ?_
  refine go_aload_n dX5_init_94 rfl 0 rfl ?_
  refine go_bipush (v := Int32.ofInt 6) dX5_init_95 (by decide) ?_
  refine go_bipush (v := Int32.ofInt 6) dX5_init_97 (by decide) ?_
  refine go_mnew (n := 6) (k := 6) rfl rfl (by decide) (by decide) (rj_inT 39 (by decide +kernel)) (rj_inT 91 (by decide +kernel)) dX5_init_99 ?_
  refine go_eq (st' := [.ref (σ.1 + 24), .ref σ.1]) (σ' := (rj_lg σ [.inr (5, [.ref (σ.1 + 1), rj_i 0, .ref (σ.1 + 2), rj_i 0, .ref (σ.1 + 9), rj_i 0, .ref (σ.1 + 10), rj_i 0, .ref (σ.1 + 11), rj_i 0, .ref (σ.1 + 17), rj_i 0, .null, rj_i 0, rj_i 0]), rj_rr X9 4 6 (fun _ => none), rj_rr X9 3 6 (fun j => some (σ.1 + 2 + 1 + j.toNat)), rj_ar X9 0 4 (fun _ => 0), rj_ar X9 0 4 (fun _ => 0), rj_ar X9 0 4 (fun _ => 0), rj_ar X9 0 4 (fun _ => 0), rj_ar X9 0 4 (fun _ => 0), rj_ar X9 0 4 (fun _ => 0), rj_rr X9 5 8 (fun _ => none), rj_ar X9 1 120 (fun _ => 0), .inr (9, [.ref (σ.1 + 12), rj_i 0, .ref (σ.1 + 13), .ref (σ.1 + 14), rj_i 0, .ref (σ.1 + 15), .ref (σ.1 + 16), rj_i 0, rj_i 9, .null, rj_i 0, rj_i 0, rj_i (-1)]), rj_ar X9 0 120 (fun _ => 0), rj_ar X9 0 10 (fun _ => 0), rj_ar X9 0 10 (fun _ => 0), rj_ar X9 0 5 (fun _ => 0), rj_ar X9 0 13 (fun _ => 0), rj_rr X9 3 6 (fun j => some (σ.1 + 17 + 1 + j.toNat)), rj_ar X9 0 8 (fun _ => 0), rj_ar X9 0 8 (fun _ => 0), rj_ar X9 0 8 (fun _ => 0), rj_ar X9 0 8 (fun _ => 0), rj_ar X9 0 8 (fun _ => 0), rj_ar X9 0 8 (fun _ => 0), rj_rr X9 3 6 (fun j => some (σ.1 + 24 + 1 + j.toNat)), rj_ar X9 0 6 (fun _ => 0), rj_ar X9 0 6 (fun _ => 0), rj_ar X9 0 6 (fun _ => 0), rj_ar X9 0 6 (fun _ => 0), rj_ar X9 0 6 (fun _ => 0), rj_ar X9 0 6 (fun _ => 0)] 446)) rfl rfl rfl (lg_mn) ?_
  refine go_put (k := 12) (a := σ.1 + 0) kX5 (by decide) fX5_61 (Or.inr ⟨rfl, rfl⟩) (lg_at.trans rfl) (by show 12 < 15; decide) rfl rfl dX5_init_103 ?_
  refine go_eq (st' := []) (σ' := (rj_lg σ [.inr (5, [.ref (σ.1 + 1), rj_i 0, .ref (σ.1 + 2), rj_i 0, .ref (σ.1 + 9), rj_i 0, .ref (σ.1 + 10), rj_i 0, .ref (σ.1 + 11), rj_i 0, .ref (σ.1 + 17), rj_i 0, .ref (σ.1 + 24), rj_i 0, rj_i 0]), rj_rr X9 4 6 (fun _ => none), rj_rr X9 3 6 (fun j => some (σ.1 + 2 + 1 + j.toNat)), rj_ar X9 0 4 (fun _ => 0), rj_ar X9 0 4 (fun _ => 0), rj_ar X9 0 4 (fun _ => 0), rj_ar X9 0 4 (fun _ => 0), rj_ar X9 0 4 (fun _ => 0), rj_ar X9 0 4 (fun _ => 0), rj_rr X9 5 8 (fun _ => none), rj_ar X9 1 120 (fun _ => 0), .inr (9, [.ref (σ.1 + 12), rj_i 0, .ref (σ.1 + 13), .ref (σ.1 + 14), rj_i 0, .ref (σ.1 + 15), .ref (σ.1 + 16), rj_i 0, rj_i 9, .null, rj_i 0, rj_i 0, rj_i (-1)]), rj_ar X9 0 120 (fun _ => 0), rj_ar X9 0 10 (fun _ => 0), rj_ar X9 0 10 (fun _ => 0), rj_ar X9 0 5 (fun _ => 0), rj_ar X9 0 13 (fun _ => 0), rj_rr X9 3 6 (fun j => some (σ.1 + 17 + 1 + j.toNat)), rj_ar X9 0 8 (fun _ => 0), rj_ar X9 0 8 (fun _ => 0), rj_ar X9 0 8 (fun _ => 0), rj_ar X9 0 8 (fun _ => 0), rj_ar X9 0 8 (fun _ => 0), rj_ar X9 0 8 (fun _ => 0), rj_rr X9 3 6 (fun j => some (σ.1 + 24 + 1 + j.toNat)), rj_ar X9 0 6 (fun _ => 0), rj_ar X9 0 6 (fun _ => 0), rj_ar X9 0 6 (fun _ => 0), rj_ar X9 0 6 (fun _ => 0), rj_ar X9 0 6 (fun _ => 0), rj_ar X9 0 6 (fun _ => 0)] 446)) rfl rfl rfl (lg_set (Nat.le_of_ble_eq_true rfl)) ?_
  refine go_aload_n dX5_init_106 rfl 0 rfl ?_
  refine go_iconst (v := Int32.ofInt 0) dX5_init_107 rfl ?_
  refine go_put (k := 13) (a := σ.1 + 0) kX5 (by decide) fX5_64 (Or.inr ⟨rfl, rfl⟩) (lg_at.trans rfl) (by show 13 < 15; decide) rfl rfl dX5_init_108 ?_
  refine go_eq (st' := []) (σ' := (rj_lg σ [.inr (5, [.ref (σ.1 + 1), rj_i 0, .ref (σ.1 + 2), rj_i 0, .ref (σ.1 + 9), rj_i 0, .ref (σ.1 + 10), rj_i 0, .ref (σ.1 + 11), rj_i 0, .ref (σ.1 + 17), rj_i 0, .ref (σ.1 + 24), rj_i 0, rj_i 0]), rj_rr X9 4 6 (fun _ => none), rj_rr X9 3 6 (fun j => some (σ.1 + 2 + 1 + j.toNat)), rj_ar X9 0 4 (fun _ => 0), rj_ar X9 0 4 (fun _ => 0), rj_ar X9 0 4 (fun _ => 0), rj_ar X9 0 4 (fun _ => 0), rj_ar X9 0 4 (fun _ => 0), rj_ar X9 0 4 (fun _ => 0), rj_rr X9 5 8 (fun _ => none), rj_ar X9 1 120 (fun _ => 0), .inr (9, [.ref (σ.1 + 12), rj_i 0, .ref (σ.1 + 13), .ref (σ.1 + 14), rj_i 0, .ref (σ.1 + 15), .ref (σ.1 + 16), rj_i 0, rj_i 9, .null, rj_i 0, rj_i 0, rj_i (-1)]), rj_ar X9 0 120 (fun _ => 0), rj_ar X9 0 10 (fun _ => 0), rj_ar X9 0 10 (fun _ => 0), rj_ar X9 0 5 (fun _ => 0), rj_ar X9 0 13 (fun _ => 0), rj_rr X9 3 6 (fun j => some (σ.1 + 17 + 1 + j.toNat)), rj_ar X9 0 8 (fun _ => 0), rj_ar X9 0 8 (fun _ => 0), rj_ar X9 0 8 (fun _ => 0), rj_ar X9 0 8 (fun _ => 0), rj_ar X9 0 8 (fun _ => 0), rj_ar X9 0 8 (fun _ => 0), rj_rr X9 3 6 (fun j => some (σ.1 + 24 + 1 + j.toNat)), rj_ar X9 0 6 (fun _ => 0), rj_ar X9 0 6 (fun _ => 0), rj_ar X9 0 6 (fun _ => 0), rj_ar X9 0 6 (fun _ => 0), rj_ar X9 0 6 (fun _ => 0), rj_ar X9 0 6 (fun _ => 0)] 446)) rfl rfl rfl (lg_set (Nat.le_of_ble_eq_true rfl)) ?_
  refine go_aload_n dX5_init_111 rfl 0 rfl ?_
  refine go_iconst (v := Int32.ofInt 0) dX5_init_112 rfl ?_
  refine go_put (k := 14) (a := σ.1 + 0) kX5 (by decide) fX5_67 (Or.inr ⟨rfl, rfl⟩) (lg_at.trans rfl) (by show 14 < 15; decide) rfl rfl dX5_init_113 ?_
  refine go_eq (st' := []) (σ' := (rj_lg σ [.inr (5, [.ref (σ.1 + 1), rj_i 0, .ref (σ.1 + 2), rj_i 0, .ref (σ.1 + 9), rj_i 0, .ref (σ.1 + 10), rj_i 0, .ref (σ.1 + 11), rj_i 0, .ref (σ.1 + 17), rj_i 0, .ref (σ.1 + 24), rj_i 0, rj_i 0]), rj_rr X9 4 6 (fun _ => none), rj_rr X9 3 6 (fun j => some (σ.1 + 2 + 1 + j.toNat)), rj_ar X9 0 4 (fun _ => 0), rj_ar X9 0 4 (fun _ => 0), rj_ar X9 0 4 (fun _ => 0), rj_ar X9 0 4 (fun _ => 0), rj_ar X9 0 4 (fun _ => 0), rj_ar X9 0 4 (fun _ => 0), rj_rr X9 5 8 (fun _ => none), rj_ar X9 1 120 (fun _ => 0), .inr (9, [.ref (σ.1 + 12), rj_i 0, .ref (σ.1 + 13), .ref (σ.1 + 14), rj_i 0, .ref (σ.1 + 15), .ref (σ.1 + 16), rj_i 0, rj_i 9, .null, rj_i 0, rj_i 0, rj_i (-1)]), rj_ar X9 0 120 (fun _ => 0), rj_ar X9 0 10 (fun _ => 0), rj_ar X9 0 10 (fun _ => 0), rj_ar X9 0 5 (fun _ => 0), rj_ar X9 0 13 (fun _ => 0), rj_rr X9 3 6 (fun j => some (σ.1 + 17 + 1 + j.toNat)), rj_ar X9 0 8 (fun _ => 0), rj_ar X9 0 8 (fun _ => 0), rj_ar X9 0 8 (fun _ => 0), rj_ar X9 0 8 (fun _ => 0), rj_ar X9 0 8 (fun _ => 0), rj_ar X9 0 8 (fun _ => 0), rj_rr X9 3 6 (fun j => some (σ.1 + 24 + 1 + j.toNat)), rj_ar X9 0 6 (fun _ => 0), rj_ar X9 0 6 (fun _ => 0), rj_ar X9 0 6 (fun _ => 0), rj_ar X9 0 6 (fun _ => 0), rj_ar X9 0 6 (fun _ => 0), rj_ar X9 0 6 (fun _ => 0)] 446)) rfl rfl rfl (lg_set (Nat.le_of_ble_eq_true rfl)) ?_
  refine go_iconst (v := Int32.ofInt 0) dX5_init_116 rfl ?_
  refine go_istore_nS (lv' := [(0, .ref σ.1), (1, rj_i 0)]) rfl (by decide) rfl dX5_init_117 ?_
  refine go_iload_n dX5_init_118 rfl 1 rfl ?_
  refine go_bipush (v := Int32.ofInt 6) dX5_init_119 (by decide) ?_
  refine go_icmp_geI (tgt := 140) (by omega) (by omega) dX5_init_121 (by decide) (fun c_121 => ?_) (fun c_121 => ?_)
  · exact absurd c_121 (by omega)
  · refine go_aload_n dX5_init_124 rfl 0 rfl ?_
    refine go_get (k := 10) (a := σ.1 + 0) kX5 (by decide) fX5_55 (lg_at.trans rfl) rfl dX5_init_125 ?_
    refine go_iload_n dX5_init_128 rfl 1 rfl ?_
    refine go_aald (a := σ.1 + 17) (n := 6) (t := 3) (lg_at.trans rfl) rfl rfl (by omega) (by omega) (by decide) dX5_init_129 ?_
    refine go_iconst (v := Int32.ofInt (-1)) dX5_init_130 rfl ?_
    refine go_callS (d1 := d - 1) wSX5_70 rfl (by omega) (j_fill (a := σ.1 + 18) (n := 8) (v := (-1)) (lg_at.trans rfl) (by decide) (by decide)) rfl (Nat.le_of_ble_eq_true rfl) dX5_init_131 (fun w σ1 hP9 => ?_)
    obtain ⟨rfl, rfl⟩ := hP9
    refine go_eq (st' := []) (σ' := (rj_lg σ [.inr (5, [.ref (σ.1 + 1), rj_i 0, .ref (σ.1 + 2), rj_i 0, .ref (σ.1 + 9), rj_i 0, .ref (σ.1 + 10), rj_i 0, .ref (σ.1 + 11), rj_i 0, .ref (σ.1 + 17), rj_i 0, .ref (σ.1 + 24), rj_i 0, rj_i 0]), rj_rr X9 4 6 (fun _ => none), rj_rr X9 3 6 (fun j => some (σ.1 + 2 + 1 + j.toNat)), rj_ar X9 0 4 (fun _ => 0), rj_ar X9 0 4 (fun _ => 0), rj_ar X9 0 4 (fun _ => 0), rj_ar X9 0 4 (fun _ => 0), rj_ar X9 0 4 (fun _ => 0), rj_ar X9 0 4 (fun _ => 0), rj_rr X9 5 8 (fun _ => none), rj_ar X9 1 120 (fun _ => 0), .inr (9, [.ref (σ.1 + 12), rj_i 0, .ref (σ.1 + 13), .ref (σ.1 + 14), rj_i 0, .ref (σ.1 + 15), .ref (σ.1 + 16), rj_i 0, rj_i 9, .null, rj_i 0, rj_i 0, rj_i (-1)]), rj_ar X9 0 120 (fun _ => 0), rj_ar X9 0 10 (fun _ => 0), rj_ar X9 0 10 (fun _ => 0), rj_ar X9 0 5 (fun _ => 0), rj_ar X9 0 13 (fun _ => 0), rj_rr X9 3 6 (fun j => some (σ.1 + 17 + 1 + j.toNat)), rj_ar X9 0 8 (rj_fl ((8 : Nat) : Int) (-1) (fun _ => 0)), rj_ar X9 0 8 (fun _ => 0), rj_ar X9 0 8 (fun _ => 0), rj_ar X9 0 8 (fun _ => 0), rj_ar X9 0 8 (fun _ => 0), rj_ar X9 0 8 (fun _ => 0), rj_rr X9 3 6 (fun j => some (σ.1 + 24 + 1 + j.toNat)), rj_ar X9 0 6 (fun _ => 0), rj_ar X9 0 6 (fun _ => 0), rj_ar X9 0 6 (fun _ => 0), rj_ar X9 0 6 (fun _ => 0), rj_ar X9 0 6 (fun _ => 0), rj_ar X9 0 6 (fun _ => 0)] 446)) rfl rfl rfl (lg_set (Nat.le_of_ble_eq_true rfl)) ?_
    refine go_iincI (a := 0) (n := 1) (k0 := 1) (lv' := [(0, .ref σ.1), (1, rj_i (0 + 1))]) rfl (by decide) rfl dX5_init_134 ?_
    refine go_goto (tgt := 118) dX5_init_137 (by decide) ?_
    refine go_eq (lv' := [(0, .ref σ.1), (1, rj_i 1)]) rfl ((rj_lk (rj_lj (by omega) rfl))) rfl rfl ?_
    refine go_iload_n dX5_init_118 rfl 1 rfl ?_
    refine go_bipush (v := Int32.ofInt 6) dX5_init_119 (by decide) ?_
    refine go_icmp_geI (tgt := 140) (by omega) (by omega) dX5_init_121 (by decide) (fun c_121 => ?_) (fun c_121 => ?_)
    · exact absurd c_121 (by omega)
    · refine go_aload_n dX5_init_124 rfl 0 rfl ?_
      refine go_get (k := 10) (a := σ.1 + 0) kX5 (by decide) fX5_55 (lg_at.trans rfl) rfl dX5_init_125 ?_
      refine go_iload_n dX5_init_128 rfl 1 rfl ?_
      refine go_aald (a := σ.1 + 17) (n := 6) (t := 3) (lg_at.trans rfl) rfl rfl (by omega) (by omega) (by decide) dX5_init_129 ?_
      refine go_iconst (v := Int32.ofInt (-1)) dX5_init_130 rfl ?_
      refine go_callS (d1 := d - 1) wSX5_70 rfl (by omega) (j_fill (a := σ.1 + 19) (n := 8) (v := (-1)) (lg_at.trans rfl) (by decide) (by decide)) rfl (Nat.le_of_ble_eq_true rfl) dX5_init_131 (fun w σ1 hP9 => ?_)
      obtain ⟨rfl, rfl⟩ := hP9
      refine go_eq (st' := []) (σ' := (rj_lg σ [.inr (5, [.ref (σ.1 + 1), rj_i 0, .ref (σ.1 + 2), rj_i 0, .ref (σ.1 + 9), rj_i 0, .ref (σ.1 + 10), rj_i 0, .ref (σ.1 + 11), rj_i 0, .ref (σ.1 + 17), rj_i 0, .ref (σ.1 + 24), rj_i 0, rj_i 0]), rj_rr X9 4 6 (fun _ => none), rj_rr X9 3 6 (fun j => some (σ.1 + 2 + 1 + j.toNat)), rj_ar X9 0 4 (fun _ => 0), rj_ar X9 0 4 (fun _ => 0), rj_ar X9 0 4 (fun _ => 0), rj_ar X9 0 4 (fun _ => 0), rj_ar X9 0 4 (fun _ => 0), rj_ar X9 0 4 (fun _ => 0), rj_rr X9 5 8 (fun _ => none), rj_ar X9 1 120 (fun _ => 0), .inr (9, [.ref (σ.1 + 12), rj_i 0, .ref (σ.1 + 13), .ref (σ.1 + 14), rj_i 0, .ref (σ.1 + 15), .ref (σ.1 + 16), rj_i 0, rj_i 9, .null, rj_i 0, rj_i 0, rj_i (-1)]), rj_ar X9 0 120 (fun _ => 0), rj_ar X9 0 10 (fun _ => 0), rj_ar X9 0 10 (fun _ => 0), rj_ar X9 0 5 (fun _ => 0), rj_ar X9 0 13 (fun _ => 0), rj_rr X9 3 6 (fun j => some (σ.1 + 17 + 1 + j.toNat)), rj_ar X9 0 8 (rj_fl ((8 : Nat) : Int) (-1) (fun _ => 0)), rj_ar X9 0 8 (rj_fl ((8 : Nat) : Int) (-1) (fun _ => 0)), rj_ar X9 0 8 (fun _ => 0), rj_ar X9 0 8 (fun _ => 0), rj_ar X9 0 8 (fun _ => 0), rj_ar X9 0 8 (fun _ => 0), rj_rr X9 3 6 (fun j => some (σ.1 + 24 + 1 + j.toNat)), rj_ar X9 0 6 (fun _ => 0), rj_ar X9 0 6 (fun _ => 0), rj_ar X9 0 6 (fun _ => 0), rj_ar X9 0 6 (fun _ => 0), rj_ar X9 0 6 (fun _ => 0), rj_ar X9 0 6 (fun _ => 0)] 446)) rfl rfl rfl (lg_set (Nat.le_of_ble_eq_true rfl)) ?_
      refine go_iincI (a := 1) (n := 1) (k0 := 1) (lv' := [(0, .ref σ.1), (1, rj_i (1 + 1))]) rfl (by decide) rfl dX5_init_134 ?_
      refine go_goto (tgt := 118) dX5_init_137 (by decide) ?_
      refine go_eq (lv' := [(0, .ref σ.1), (1, rj_i 2)]) rfl ((rj_lk (rj_lj (by omega) rfl))) rfl rfl ?_
      refine go_iload_n dX5_init_118 rfl 1 rfl ?_
      refine go_bipush (v := Int32.ofInt 6) dX5_init_119 (by decide) ?_
      refine go_icmp_geI (tgt := 140) (by omega) (by omega) dX5_init_121 (by decide) (fun c_121 => ?_) (fun c_121 => ?_)
      · exact absurd c_121 (by omega)
      · refine go_aload_n dX5_init_124 rfl 0 rfl ?_
        refine go_get (k := 10) (a := σ.1 + 0) kX5 (by decide) fX5_55 (lg_at.trans rfl) rfl dX5_init_125 ?_
        refine go_iload_n dX5_init_128 rfl 1 rfl ?_
        refine go_aald (a := σ.1 + 17) (n := 6) (t := 3) (lg_at.trans rfl) rfl rfl (by omega) (by omega) (by decide) dX5_init_129 ?_
        refine go_iconst (v := Int32.ofInt (-1)) dX5_init_130 rfl ?_
        refine go_callS (d1 := d - 1) wSX5_70 rfl (by omega) (j_fill (a := σ.1 + 20) (n := 8) (v := (-1)) (lg_at.trans rfl) (by decide) (by decide)) rfl (Nat.le_of_ble_eq_true rfl) dX5_init_131 (fun w σ1 hP9 => ?_)
        obtain ⟨rfl, rfl⟩ := hP9
        refine go_eq (st' := []) (σ' := (rj_lg σ [.inr (5, [.ref (σ.1 + 1), rj_i 0, .ref (σ.1 + 2), rj_i 0, .ref (σ.1 + 9), rj_i 0, .ref (σ.1 + 10), rj_i 0, .ref (σ.1 + 11), rj_i 0, .ref (σ.1 + 17), rj_i 0, .ref (σ.1 + 24), rj_i 0, rj_i 0]), rj_rr X9 4 6 (fun _ => none), rj_rr X9 3 6 (fun j => some (σ.1 + 2 + 1 + j.toNat)), rj_ar X9 0 4 (fun _ => 0), rj_ar X9 0 4 (fun _ => 0), rj_ar X9 0 4 (fun _ => 0), rj_ar X9 0 4 (fun _ => 0), rj_ar X9 0 4 (fun _ => 0), rj_ar X9 0 4 (fun _ => 0), rj_rr X9 5 8 (fun _ => none), rj_ar X9 1 120 (fun _ => 0), .inr (9, [.ref (σ.1 + 12), rj_i 0, .ref (σ.1 + 13), .ref (σ.1 + 14), rj_i 0, .ref (σ.1 + 15), .ref (σ.1 + 16), rj_i 0, rj_i 9, .null, rj_i 0, rj_i 0, rj_i (-1)]), rj_ar X9 0 120 (fun _ => 0), rj_ar X9 0 10 (fun _ => 0), rj_ar X9 0 10 (fun _ => 0), rj_ar X9 0 5 (fun _ => 0), rj_ar X9 0 13 (fun _ => 0), rj_rr X9 3 6 (fun j => some (σ.1 + 17 + 1 + j.toNat)), rj_ar X9 0 8 (rj_fl ((8 : Nat) : Int) (-1) (fun _ => 0)), rj_ar X9 0 8 (rj_fl ((8 : Nat) : Int) (-1) (fun _ => 0)), rj_ar X9 0 8 (rj_fl ((8 : Nat) : Int) (-1) (fun _ => 0)), rj_ar X9 0 8 (fun _ => 0), rj_ar X9 0 8 (fun _ => 0), rj_ar X9 0 8 (fun _ => 0), rj_rr X9 3 6 (fun j => some (σ.1 + 24 + 1 + j.toNat)), rj_ar X9 0 6 (fun _ => 0), rj_ar X9 0 6 (fun _ => 0), rj_ar X9 0 6 (fun _ => 0), rj_ar X9 0 6 (fun _ => 0), rj_ar X9 0 6 (fun _ => 0), rj_ar X9 0 6 (fun _ => 0)] 446)) rfl rfl rfl (lg_set (Nat.le_of_ble_eq_true rfl)) ?_
        refine go_iincI (a := 2) (n := 1) (k0 := 1) (lv' := [(0, .ref σ.1), (1, rj_i (2 + 1))]) rfl (by decide) rfl dX5_init_134 ?_
        refine go_goto (tgt := 118) dX5_init_137 (by decide) ?_
        refine go_eq (lv' := [(0, .ref σ.1), (1, rj_i 3)]) rfl ((rj_lk (rj_lj (by omega) rfl))) rfl rfl ?_
        refine go_iload_n dX5_init_118 rfl 1 rfl ?_
        refine go_bipush (v := Int32.ofInt 6) dX5_init_119 (by decide) ?_
        refine go_icmp_geI (tgt := 140) (by omega) (by omega) dX5_init_121 (by decide) (fun c_121 => ?_) (fun c_121 => ?_)
        · exact absurd c_121 (by omega)
        · refine go_aload_n dX5_init_124 rfl 0 rfl ?_
          refine go_get (k := 10) (a := σ.1 + 0) kX5 (by decide) fX5_55 (lg_at.trans rfl) rfl dX5_init_125 ?_
          refine go_iload_n dX5_init_128 rfl 1 rfl ?_
          refine go_aald (a := σ.1 + 17) (n := 6) (t := 3) (lg_at.trans rfl) rfl rfl (by omega) (by omega) (by decide) dX5_init_129 ?_
          refine go_iconst (v := Int32.ofInt (-1)) dX5_init_130 rfl ?_
          refine go_callS (d1 := d - 1) wSX5_70 rfl (by omega) (j_fill (a := σ.1 + 21) (n := 8) (v := (-1)) (lg_at.trans rfl) (by decide) (by decide)) rfl (Nat.le_of_ble_eq_true rfl) dX5_init_131 (fun w σ1 hP9 => ?_)
          obtain ⟨rfl, rfl⟩ := hP9
          refine go_eq (st' := []) (σ' := (rj_lg σ [.inr (5, [.ref (σ.1 + 1), rj_i 0, .ref (σ.1 + 2), rj_i 0, .ref (σ.1 + 9), rj_i 0, .ref (σ.1 + 10), rj_i 0, .ref (σ.1 + 11), rj_i 0, .ref (σ.1 + 17), rj_i 0, .ref (σ.1 + 24), rj_i 0, rj_i 0]), rj_rr X9 4 6 (fun _ => none), rj_rr X9 3 6 (fun j => some (σ.1 + 2 + 1 + j.toNat)), rj_ar X9 0 4 (fun _ => 0), rj_ar X9 0 4 (fun _ => 0), rj_ar X9 0 4 (fun _ => 0), rj_ar X9 0 4 (fun _ => 0), rj_ar X9 0 4 (fun _ => 0), rj_ar X9 0 4 (fun _ => 0), rj_rr X9 5 8 (fun _ => none), rj_ar X9 1 120 (fun _ => 0), .inr (9, [.ref (σ.1 + 12), rj_i 0, .ref (σ.1 + 13), .ref (σ.1 + 14), rj_i 0, .ref (σ.1 + 15), .ref (σ.1 + 16), rj_i 0, rj_i 9, .null, rj_i 0, rj_i 0, rj_i (-1)]), rj_ar X9 0 120 (fun _ => 0), rj_ar X9 0 10 (fun _ => 0), rj_ar X9 0 10 (fun _ => 0), rj_ar X9 0 5 (fun _ => 0), rj_ar X9 0 13 (fun _ => 0), rj_rr X9 3 6 (fun j => some (σ.1 + 17 + 1 + j.toNat)), rj_ar X9 0 8 (rj_fl ((8 : Nat) : Int) (-1) (fun _ => 0)), rj_ar X9 0 8 (rj_fl ((8 : Nat) : Int) (-1) (fun _ => 0)), rj_ar X9 0 8 (rj_fl ((8 : Nat) : Int) (-1) (fun _ => 0)), rj_ar X9 0 8 (rj_fl ((8 : Nat) : Int) (-1) (fun _ => 0)), rj_ar X9 0 8 (fun _ => 0), rj_ar X9 0 8 (fun _ => 0), rj_rr X9 3 6 (fun j => some (σ.1 + 24 + 1 + j.toNat)), rj_ar X9 0 6 (fun _ => 0), rj_ar X9 0 6 (fun _ => 0), rj_ar X9 0 6 (fun _ => 0), rj_ar X9 0 6 (fun _ => 0), rj_ar X9 0 6 (fun _ => 0), rj_ar X9 0 6 (fun _ => 0)] 446)) rfl rfl rfl (lg_set (Nat.le_of_ble_eq_true rfl)) ?_
          refine go_iincI (a := 3) (n := 1) (k0 := 1) (lv' := [(0, .ref σ.1), (1, rj_i (3 + 1))]) rfl (by decide) rfl dX5_init_134 ?_
          refine go_goto (tgt := 118) dX5_init_137 (by decide) ?_
          refine go_eq (lv' := [(0, .ref σ.1), (1, rj_i 4)]) rfl ((rj_lk (rj_lj (by omega) rfl))) rfl rfl ?_
          refine go_iload_n dX5_init_118 rfl 1 rfl ?_
          refine go_bipush (v := Int32.ofInt 6) dX5_init_119 (by decide) ?_
          refine go_icmp_geI (tgt := 140) (by omega) (by omega) dX5_init_121 (by decide) (fun c_121 => ?_) (fun c_121 => ?_)
          · exact absurd c_121 (by omega)
          · refine go_aload_n dX5_init_124 rfl 0 rfl ?_
            refine go_get (k := 10) (a := σ.1 + 0) kX5 (by decide) fX5_55 (lg_at.trans rfl) rfl dX5_init_125 ?_
            refine go_iload_n dX5_init_128 rfl 1 rfl ?_
            refine go_aald (a := σ.1 + 17) (n := 6) (t := 3) (lg_at.trans rfl) rfl rfl (by omega) (by omega) (by decide) dX5_init_129 ?_
            refine go_iconst (v := Int32.ofInt (-1)) dX5_init_130 rfl ?_
            refine go_callS (d1 := d - 1) wSX5_70 rfl (by omega) (j_fill (a := σ.1 + 22) (n := 8) (v := (-1)) (lg_at.trans rfl) (by decide) (by decide)) rfl (Nat.le_of_ble_eq_true rfl) dX5_init_131 (fun w σ1 hP9 => ?_)
            obtain ⟨rfl, rfl⟩ := hP9
            refine go_eq (st' := []) (σ' := (rj_lg σ [.inr (5, [.ref (σ.1 + 1), rj_i 0, .ref (σ.1 + 2), rj_i 0, .ref (σ.1 + 9), rj_i 0, .ref (σ.1 + 10), rj_i 0, .ref (σ.1 + 11), rj_i 0, .ref (σ.1 + 17), rj_i 0, .ref (σ.1 + 24), rj_i 0, rj_i 0]), rj_rr X9 4 6 (fun _ => none), rj_rr X9 3 6 (fun j => some (σ.1 + 2 + 1 + j.toNat)), rj_ar X9 0 4 (fun _ => 0), rj_ar X9 0 4 (fun _ => 0), rj_ar X9 0 4 (fun _ => 0), rj_ar X9 0 4 (fun _ => 0), rj_ar X9 0 4 (fun _ => 0), rj_ar X9 0 4 (fun _ => 0), rj_rr X9 5 8 (fun _ => none), rj_ar X9 1 120 (fun _ => 0), .inr (9, [.ref (σ.1 + 12), rj_i 0, .ref (σ.1 + 13), .ref (σ.1 + 14), rj_i 0, .ref (σ.1 + 15), .ref (σ.1 + 16), rj_i 0, rj_i 9, .null, rj_i 0, rj_i 0, rj_i (-1)]), rj_ar X9 0 120 (fun _ => 0), rj_ar X9 0 10 (fun _ => 0), rj_ar X9 0 10 (fun _ => 0), rj_ar X9 0 5 (fun _ => 0), rj_ar X9 0 13 (fun _ => 0), rj_rr X9 3 6 (fun j => some (σ.1 + 17 + 1 + j.toNat)), rj_ar X9 0 8 (rj_fl ((8 : Nat) : Int) (-1) (fun _ => 0)), rj_ar X9 0 8 (rj_fl ((8 : Nat) : Int) (-1) (fun _ => 0)), rj_ar X9 0 8 (rj_fl ((8 : Nat) : Int) (-1) (fun _ => 0)), rj_ar X9 0 8 (rj_fl ((8 : Nat) : Int) (-1) (fun _ => 0)), rj_ar X9 0 8 (rj_fl ((8 : Nat) : Int) (-1) (fun _ => 0)), rj_ar X9 0 8 (fun _ => 0), rj_rr X9 3 6 (fun j => some (σ.1 + 24 + 1 + j.toNat)), rj_ar X9 0 6 (fun _ => 0), rj_ar X9 0 6 (fun _ => 0), rj_ar X9 0 6 (fun _ => 0), rj_ar X9 0 6 (fun _ => 0), rj_ar X9 0 6 (fun _ => 0), rj_ar X9 0 6 (fun _ => 0)] 446)) rfl rfl rfl (lg_set (Nat.le_of_ble_eq_true rfl)) ?_
            refine go_iincI (a := 4) (n := 1) (k0 := 1) (lv' := [(0, .ref σ.1), (1, rj_i (4 + 1))]) rfl (by decide) rfl dX5_init_134 ?_
            refine go_goto (tgt := 118) dX5_init_137 (by decide) ?_
            refine go_eq (lv' := [(0, .ref σ.1), (1, rj_i 5)]) rfl ((rj_lk (rj_lj (by omega) rfl))) rfl rfl ?_
            refine go_iload_n dX5_init_118 rfl 1 rfl ?_
            refine go_bipush (v := Int32.ofInt 6) dX5_init_119 (by decide) ?_
            refine go_icmp_geI (tgt := 140) (by omega) (by omega) dX5_init_121 (by decide) (fun c_121 => ?_) (fun c_121 => ?_)
            · exact absurd c_121 (by omega)
            · refine go_aload_n dX5_init_124 rfl 0 rfl ?_
              refine go_get (k := 10) (a := σ.1 + 0) kX5 (by decide) fX5_55 (lg_at.trans rfl) rfl dX5_init_125 ?_
              refine go_iload_n dX5_init_128 rfl 1 rfl ?_
              refine go_aald (a := σ.1 + 17) (n := 6) (t := 3) (lg_at.trans rfl) rfl rfl (by omega) (by omega) (by decide) dX5_init_129 ?_
              refine go_iconst (v := Int32.ofInt (-1)) dX5_init_130 rfl ?_
              refine go_callS (d1 := d - 1) wSX5_70 rfl (by omega) (j_fill (a := σ.1 + 23) (n := 8) (v := (-1)) (lg_at.trans rfl) (by decide) (by decide)) rfl (Nat.le_of_ble_eq_true rfl) dX5_init_131 (fun w σ1 hP9 => ?_)
              obtain ⟨rfl, rfl⟩ := hP9
              refine go_eq (st' := []) (σ' := (rj_lg σ [.inr (5, [.ref (σ.1 + 1), rj_i 0, .ref (σ.1 + 2), rj_i 0, .ref (σ.1 + 9), rj_i 0, .ref (σ.1 + 10), rj_i 0, .ref (σ.1 + 11), rj_i 0, .ref (σ.1 + 17), rj_i 0, .ref (σ.1 + 24), rj_i 0, rj_i 0]), rj_rr X9 4 6 (fun _ => none), rj_rr X9 3 6 (fun j => some (σ.1 + 2 + 1 + j.toNat)), rj_ar X9 0 4 (fun _ => 0), rj_ar X9 0 4 (fun _ => 0), rj_ar X9 0 4 (fun _ => 0), rj_ar X9 0 4 (fun _ => 0), rj_ar X9 0 4 (fun _ => 0), rj_ar X9 0 4 (fun _ => 0), rj_rr X9 5 8 (fun _ => none), rj_ar X9 1 120 (fun _ => 0), .inr (9, [.ref (σ.1 + 12), rj_i 0, .ref (σ.1 + 13), .ref (σ.1 + 14), rj_i 0, .ref (σ.1 + 15), .ref (σ.1 + 16), rj_i 0, rj_i 9, .null, rj_i 0, rj_i 0, rj_i (-1)]), rj_ar X9 0 120 (fun _ => 0), rj_ar X9 0 10 (fun _ => 0), rj_ar X9 0 10 (fun _ => 0), rj_ar X9 0 5 (fun _ => 0), rj_ar X9 0 13 (fun _ => 0), rj_rr X9 3 6 (fun j => some (σ.1 + 17 + 1 + j.toNat)), rj_ar X9 0 8 (rj_fl ((8 : Nat) : Int) (-1) (fun _ => 0)), rj_ar X9 0 8 (rj_fl ((8 : Nat) : Int) (-1) (fun _ => 0)), rj_ar X9 0 8 (rj_fl ((8 : Nat) : Int) (-1) (fun _ => 0)), rj_ar X9 0 8 (rj_fl ((8 : Nat) : Int) (-1) (fun _ => 0)), rj_ar X9 0 8 (rj_fl ((8 : Nat) : Int) (-1) (fun _ => 0)), rj_ar X9 0 8 (rj_fl ((8 : Nat) : Int) (-1) (fun _ => 0)), rj_rr X9 3 6 (fun j => some (σ.1 + 24 + 1 + j.toNat)), rj_ar X9 0 6 (fun _ => 0), rj_ar X9 0 6 (fun _ => 0), rj_ar X9 0 6 (fun _ => 0), rj_ar X9 0 6 (fun _ => 0), rj_ar X9 0 6 (fun _ => 0), rj_ar X9 0 6 (fun _ => 0)] 446)) rfl rfl rfl (lg_set (Nat.le_of_ble_eq_true rfl)) ?_
              refine go_iincI (a := 5) (n := 1) (k0 := 1) (lv' := [(0, .ref σ.1), (1, rj_i (5 + 1))]) rfl (by decide) rfl dX5_init_134 ?_
              refine go_goto (tgt := 118) dX5_init_137 (by decide) ?_
              refine go_eq (lv' := [(0, .ref σ.1), (1, rj_i 6)]) rfl ((rj_lk (rj_lj (by omega) rfl))) rfl rfl ?_
              refine go_iload_n dX5_init_118 rfl 1 rfl ?_
              refine go_bipush (v := Int32.ofInt 6) dX5_init_119 (by decide) ?_
              refine go_icmp_geI (tgt := 140) (by omega) (by omega) dX5_init_121 (by decide) (fun c_121 => ?_) (fun c_121 => ?_)
              · refine go_retV rfl ?_ dX5_init_140
                exact ⟨rfl, rfl⟩
              · exact absurd c_121 (by omega)
