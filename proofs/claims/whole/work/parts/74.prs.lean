/-! THE CLASS: its parser, first -/
/-- a valley that is read: its object at va (scratch behind), its rows, laid over any heap -/
def pv_f (va tx : Nat) (g : Int → Int) : List Value := [.ref (va + 1), rj_i (g 1), .ref (va + 2), .ref (va + 3), rj_i (g 4), .ref (va + 4), .ref (va + 5), rj_i (g 7), rj_i (g 8), .ref tx, rj_i (g 10), rj_i (g 11), rj_i (g 12)]
def pv_p (X9 : rj_X) (va tx : Nat) (g : rm_R) (σ : rj_H) : rj_H := (σ.1, σ.2.1, fun a => if a = va then some (.inr (9, pv_f va tx (g 0))) else if a = va + 1 then some (rj_ar X9 0 120 (g 1)) else if a = va + 2 then some (rj_ar X9 0 10 (g 2)) else if a = va + 3 then some (rj_ar X9 0 10 (g 3)) else σ.2.2 a)
section PV
variable {X9 : rj_X} {y9 : MethodName} {cc : ByteArray} {nL : Nat} {rt9 : Option FieldType} {d9 : Nat} {P9 : Option Value → rj_H → Prop} {pc : Nat} {lv : List (Nat × Value)} {rest : List Value} {σ : rj_H} {va tx : Nat} {g : rm_R} {z w : Int}
theorem pv_0 : (pv_p X9 va tx g σ).2.2 va = some (.inr (9, pv_f va tx (g 0))) := if_pos rfl
theorem pv_1 : (pv_p X9 va tx g σ).2.2 (va + 1) = some (rj_ar X9 0 120 (g 1)) := by
  show (if va + 1 = va then _ else if va + 1 = va + 1 then _ else _) = _
  rw [if_neg (by omega), if_pos rfl]
theorem pv_2 : (pv_p X9 va tx g σ).2.2 (va + 2) = some (rj_ar X9 0 10 (g 2)) := by
  show (if va + 2 = va then _ else if va + 2 = va + 1 then _ else if va + 2 = va + 2 then _ else _) = _
  rw [if_neg (by omega), if_neg (by omega), if_pos rfl]
theorem pv_3 : (pv_p X9 va tx g σ).2.2 (va + 3) = some (rj_ar X9 0 10 (g 3)) := by
  show (if va + 3 = va then _ else if va + 3 = va + 1 then _ else if va + 3 = va + 2 then _ else if va + 3 = va + 3 then _ else _) = _
  rw [if_neg (by omega), if_neg (by omega), if_neg (by omega), if_pos rfl]
theorem pv_o {a : Nat} (h : ¬ (va ≤ a ∧ a ≤ va + 3)) : (pv_p X9 va tx g σ).2.2 a = σ.2.2 a := by
  show (if a = va then _ else if a = va + 1 then _ else if a = va + 2 then _ else if a = va + 3 then _ else _) = _
  rw [if_neg (by omega), if_neg (by omega), if_neg (by omega), if_neg (by omega)]
theorem pv_s0 {h : Int → Int} : rj_set (pv_p X9 va tx g σ) va (.inr (9, pv_f va tx h)) = pv_p X9 va tx (rm_u g 0 h) σ := by
  unfold rj_set pv_p
  refine congrArg _ (congrArg _ (funext fun q => ?_))
  rw [rm_u_eq, rm_u_ne _ _ (show 1 ≠ 0 by decide), rm_u_ne _ _ (show 2 ≠ 0 by decide), rm_u_ne _ _ (show 3 ≠ 0 by decide)]
  by_cases e : q = va
  · rw [if_pos e, if_pos e]
  · rw [if_neg e, if_neg e]; exact if_neg e
theorem pv_s1 {h : Int → Int} : rj_set (pv_p X9 va tx g σ) (va + 1) (rj_ar X9 0 120 h) = pv_p X9 va tx (rm_u g 1 h) σ := by
  unfold rj_set pv_p
  refine congrArg _ (congrArg _ (funext fun q => ?_))
  rw [rm_u_eq, rm_u_ne _ _ (show 0 ≠ 1 by decide), rm_u_ne _ _ (show 2 ≠ 1 by decide), rm_u_ne _ _ (show 3 ≠ 1 by decide)]
  by_cases e : q = va + 1
  · subst e
    rw [if_pos rfl, if_neg (by omega), if_pos rfl]
  · rw [if_neg e]
    show (if q = va then _ else if q = va + 1 then _ else if q = va + 2 then _ else if q = va + 3 then _ else _) = _
    by_cases e0 : q = va
    · rw [if_pos e0, if_pos e0]
    · rw [if_neg e0, if_neg e0]
      rw [if_neg e, if_neg e]
theorem pv_s2 {h : Int → Int} : rj_set (pv_p X9 va tx g σ) (va + 2) (rj_ar X9 0 10 h) = pv_p X9 va tx (rm_u g 2 h) σ := by
  unfold rj_set pv_p
  refine congrArg _ (congrArg _ (funext fun q => ?_))
  rw [rm_u_eq, rm_u_ne _ _ (show 0 ≠ 2 by decide), rm_u_ne _ _ (show 1 ≠ 2 by decide), rm_u_ne _ _ (show 3 ≠ 2 by decide)]
  by_cases e : q = va + 2
  · subst e
    rw [if_pos rfl, if_neg (by omega), if_neg (by omega), if_pos rfl]
  · rw [if_neg e]
    show (if q = va then _ else if q = va + 1 then _ else if q = va + 2 then _ else if q = va + 3 then _ else _) = _
    by_cases e0 : q = va
    · rw [if_pos e0, if_pos e0]
    · rw [if_neg e0, if_neg e0]
      by_cases e1 : q = va + 1
      · rw [if_pos e1, if_pos e1]
      · rw [if_neg e1, if_neg e1]
        rw [if_neg e, if_neg e]
theorem pv_s3 {h : Int → Int} : rj_set (pv_p X9 va tx g σ) (va + 3) (rj_ar X9 0 10 h) = pv_p X9 va tx (rm_u g 3 h) σ := by
  unfold rj_set pv_p
  refine congrArg _ (congrArg _ (funext fun q => ?_))
  rw [rm_u_eq, rm_u_ne _ _ (show 0 ≠ 3 by decide), rm_u_ne _ _ (show 1 ≠ 3 by decide), rm_u_ne _ _ (show 2 ≠ 3 by decide)]
  by_cases e : q = va + 3
  · subst e
    rw [if_pos rfl, if_neg (by omega), if_neg (by omega), if_neg (by omega), if_pos rfl]
  · rw [if_neg e]
    show (if q = va then _ else if q = va + 1 then _ else if q = va + 2 then _ else if q = va + 3 then _ else _) = _
    by_cases e0 : q = va
    · rw [if_pos e0, if_pos e0]
    · rw [if_neg e0, if_neg e0]
      by_cases e1 : q = va + 1
      · rw [if_pos e1, if_pos e1]
      · rw [if_neg e1, if_neg e1]
        by_cases e2 : q = va + 2
        · rw [if_pos e2, if_pos e2]
        · rw [if_neg e2, if_neg e2]
          rw [if_neg e, if_neg e]
theorem pv_g1 {idx : Nat} (hln : rj_ln y9.cls idx (TX9 1)) (hdg : decode cc pc = .ok (.getfield idx, 3)) (kk : rj_Go X9 y9 cc nL rt9 d9 P9 (pc + 3) lv (rj_i (g 0 1) :: rest) (pv_p X9 va tx g σ)) : rj_Go X9 y9 cc nL rt9 d9 P9 pc lv (.ref va :: rest) (pv_p X9 va tx g σ) := go_get (k := 1) kX9 (by decide) hln pv_0 rfl hdg kk
theorem pv_w1 {idx : Nat} (hln : rj_ln y9.cls idx (TX9 1)) (hdg : decode cc pc = .ok (.putfield idx, 3)) (kk : rj_Go X9 y9 cc nL rt9 d9 P9 (pc + 3) lv rest (pv_p X9 va tx (rm_u g 0 (rj_up (g 0) 1 w)) σ)) : rj_Go X9 y9 cc nL rt9 d9 P9 pc lv (rj_i w :: .ref va :: rest) (pv_p X9 va tx g σ) := go_put (k := 1) kX9 (by decide) hln (Or.inl rfl) pv_0 (by show 1 < 13; decide) rfl rfl hdg (go_eq rfl rfl rfl (pv_s0 (h := rj_up (g 0) 1 w)) kk)
theorem pv_g4 {idx : Nat} (hln : rj_ln y9.cls idx (TX9 4)) (hdg : decode cc pc = .ok (.getfield idx, 3)) (kk : rj_Go X9 y9 cc nL rt9 d9 P9 (pc + 3) lv (rj_i (g 0 4) :: rest) (pv_p X9 va tx g σ)) : rj_Go X9 y9 cc nL rt9 d9 P9 pc lv (.ref va :: rest) (pv_p X9 va tx g σ) := go_get (k := 4) kX9 (by decide) hln pv_0 rfl hdg kk
theorem pv_w4 {idx : Nat} (hln : rj_ln y9.cls idx (TX9 4)) (hdg : decode cc pc = .ok (.putfield idx, 3)) (kk : rj_Go X9 y9 cc nL rt9 d9 P9 (pc + 3) lv rest (pv_p X9 va tx (rm_u g 0 (rj_up (g 0) 4 w)) σ)) : rj_Go X9 y9 cc nL rt9 d9 P9 pc lv (rj_i w :: .ref va :: rest) (pv_p X9 va tx g σ) := go_put (k := 4) kX9 (by decide) hln (Or.inl rfl) pv_0 (by show 4 < 13; decide) rfl rfl hdg (go_eq rfl rfl rfl (pv_s0 (h := rj_up (g 0) 4 w)) kk)
theorem pv_g7 {idx : Nat} (hln : rj_ln y9.cls idx (TX9 7)) (hdg : decode cc pc = .ok (.getfield idx, 3)) (kk : rj_Go X9 y9 cc nL rt9 d9 P9 (pc + 3) lv (rj_i (g 0 7) :: rest) (pv_p X9 va tx g σ)) : rj_Go X9 y9 cc nL rt9 d9 P9 pc lv (.ref va :: rest) (pv_p X9 va tx g σ) := go_get (k := 7) kX9 (by decide) hln pv_0 rfl hdg kk
theorem pv_w7 {idx : Nat} (hln : rj_ln y9.cls idx (TX9 7)) (hdg : decode cc pc = .ok (.putfield idx, 3)) (kk : rj_Go X9 y9 cc nL rt9 d9 P9 (pc + 3) lv rest (pv_p X9 va tx (rm_u g 0 (rj_up (g 0) 7 w)) σ)) : rj_Go X9 y9 cc nL rt9 d9 P9 pc lv (rj_i w :: .ref va :: rest) (pv_p X9 va tx g σ) := go_put (k := 7) kX9 (by decide) hln (Or.inl rfl) pv_0 (by show 7 < 13; decide) rfl rfl hdg (go_eq rfl rfl rfl (pv_s0 (h := rj_up (g 0) 7 w)) kk)
theorem pv_g8 {idx : Nat} (hln : rj_ln y9.cls idx (TX9 8)) (hdg : decode cc pc = .ok (.getfield idx, 3)) (kk : rj_Go X9 y9 cc nL rt9 d9 P9 (pc + 3) lv (rj_i (g 0 8) :: rest) (pv_p X9 va tx g σ)) : rj_Go X9 y9 cc nL rt9 d9 P9 pc lv (.ref va :: rest) (pv_p X9 va tx g σ) := go_get (k := 8) kX9 (by decide) hln pv_0 rfl hdg kk
theorem pv_w8 {idx : Nat} (hln : rj_ln y9.cls idx (TX9 8)) (hdg : decode cc pc = .ok (.putfield idx, 3)) (kk : rj_Go X9 y9 cc nL rt9 d9 P9 (pc + 3) lv rest (pv_p X9 va tx (rm_u g 0 (rj_up (g 0) 8 w)) σ)) : rj_Go X9 y9 cc nL rt9 d9 P9 pc lv (rj_i w :: .ref va :: rest) (pv_p X9 va tx g σ) := go_put (k := 8) kX9 (by decide) hln (Or.inl rfl) pv_0 (by show 8 < 13; decide) rfl rfl hdg (go_eq rfl rfl rfl (pv_s0 (h := rj_up (g 0) 8 w)) kk)
theorem pv_g10 {idx : Nat} (hln : rj_ln y9.cls idx (TX9 10)) (hdg : decode cc pc = .ok (.getfield idx, 3)) (kk : rj_Go X9 y9 cc nL rt9 d9 P9 (pc + 3) lv (rj_i (g 0 10) :: rest) (pv_p X9 va tx g σ)) : rj_Go X9 y9 cc nL rt9 d9 P9 pc lv (.ref va :: rest) (pv_p X9 va tx g σ) := go_get (k := 10) kX9 (by decide) hln pv_0 rfl hdg kk
theorem pv_w10 {idx : Nat} (hln : rj_ln y9.cls idx (TX9 10)) (hdg : decode cc pc = .ok (.putfield idx, 3)) (kk : rj_Go X9 y9 cc nL rt9 d9 P9 (pc + 3) lv rest (pv_p X9 va tx (rm_u g 0 (rj_up (g 0) 10 w)) σ)) : rj_Go X9 y9 cc nL rt9 d9 P9 pc lv (rj_i w :: .ref va :: rest) (pv_p X9 va tx g σ) := go_put (k := 10) kX9 (by decide) hln (Or.inl rfl) pv_0 (by show 10 < 13; decide) rfl rfl hdg (go_eq rfl rfl rfl (pv_s0 (h := rj_up (g 0) 10 w)) kk)
theorem pv_g11 {idx : Nat} (hln : rj_ln y9.cls idx (TX9 11)) (hdg : decode cc pc = .ok (.getfield idx, 3)) (kk : rj_Go X9 y9 cc nL rt9 d9 P9 (pc + 3) lv (rj_i (g 0 11) :: rest) (pv_p X9 va tx g σ)) : rj_Go X9 y9 cc nL rt9 d9 P9 pc lv (.ref va :: rest) (pv_p X9 va tx g σ) := go_get (k := 11) kX9 (by decide) hln pv_0 rfl hdg kk
theorem pv_w11 {idx : Nat} (hln : rj_ln y9.cls idx (TX9 11)) (hdg : decode cc pc = .ok (.putfield idx, 3)) (kk : rj_Go X9 y9 cc nL rt9 d9 P9 (pc + 3) lv rest (pv_p X9 va tx (rm_u g 0 (rj_up (g 0) 11 w)) σ)) : rj_Go X9 y9 cc nL rt9 d9 P9 pc lv (rj_i w :: .ref va :: rest) (pv_p X9 va tx g σ) := go_put (k := 11) kX9 (by decide) hln (Or.inl rfl) pv_0 (by show 11 < 13; decide) rfl rfl hdg (go_eq rfl rfl rfl (pv_s0 (h := rj_up (g 0) 11 w)) kk)
theorem pv_g12 {idx : Nat} (hln : rj_ln y9.cls idx (TX9 12)) (hdg : decode cc pc = .ok (.getfield idx, 3)) (kk : rj_Go X9 y9 cc nL rt9 d9 P9 (pc + 3) lv (rj_i (g 0 12) :: rest) (pv_p X9 va tx g σ)) : rj_Go X9 y9 cc nL rt9 d9 P9 pc lv (.ref va :: rest) (pv_p X9 va tx g σ) := go_get (k := 12) kX9 (by decide) hln pv_0 rfl hdg kk
theorem pv_w12 {idx : Nat} (hln : rj_ln y9.cls idx (TX9 12)) (hdg : decode cc pc = .ok (.putfield idx, 3)) (kk : rj_Go X9 y9 cc nL rt9 d9 P9 (pc + 3) lv rest (pv_p X9 va tx (rm_u g 0 (rj_up (g 0) 12 w)) σ)) : rj_Go X9 y9 cc nL rt9 d9 P9 pc lv (rj_i w :: .ref va :: rest) (pv_p X9 va tx g σ) := go_put (k := 12) kX9 (by decide) hln (Or.inl rfl) pv_0 (by show 12 < 13; decide) rfl rfl hdg (go_eq rfl rfl rfl (pv_s0 (h := rj_up (g 0) 12 w)) kk)
theorem pv_g0 {idx : Nat} (hln : rj_ln y9.cls idx (TX9 0)) (hdg : decode cc pc = .ok (.getfield idx, 3)) (kk : rj_Go X9 y9 cc nL rt9 d9 P9 (pc + 3) lv (.ref (va + 1) :: rest) (pv_p X9 va tx g σ)) : rj_Go X9 y9 cc nL rt9 d9 P9 pc lv (.ref va :: rest) (pv_p X9 va tx g σ) := go_get (k := 0) kX9 (by decide) hln pv_0 rfl hdg kk
theorem pv_g2 {idx : Nat} (hln : rj_ln y9.cls idx (TX9 2)) (hdg : decode cc pc = .ok (.getfield idx, 3)) (kk : rj_Go X9 y9 cc nL rt9 d9 P9 (pc + 3) lv (.ref (va + 2) :: rest) (pv_p X9 va tx g σ)) : rj_Go X9 y9 cc nL rt9 d9 P9 pc lv (.ref va :: rest) (pv_p X9 va tx g σ) := go_get (k := 2) kX9 (by decide) hln pv_0 rfl hdg kk
theorem pv_g3 {idx : Nat} (hln : rj_ln y9.cls idx (TX9 3)) (hdg : decode cc pc = .ok (.getfield idx, 3)) (kk : rj_Go X9 y9 cc nL rt9 d9 P9 (pc + 3) lv (.ref (va + 3) :: rest) (pv_p X9 va tx g σ)) : rj_Go X9 y9 cc nL rt9 d9 P9 pc lv (.ref va :: rest) (pv_p X9 va tx g σ) := go_get (k := 3) kX9 (by decide) hln pv_0 rfl hdg kk
theorem pv_g9 {idx : Nat} (hln : rj_ln y9.cls idx (TX9 9)) (hdg : decode cc pc = .ok (.getfield idx, 3)) (kk : rj_Go X9 y9 cc nL rt9 d9 P9 (pc + 3) lv (.ref (tx) :: rest) (pv_p X9 va tx g σ)) : rj_Go X9 y9 cc nL rt9 d9 P9 pc lv (.ref va :: rest) (pv_p X9 va tx g σ) := go_get (k := 9) kX9 (by decide) hln pv_0 rfl hdg kk
theorem pv_t1 (h0 : 0 ≤ z) (h1 : z < 120) (hdg : decode cc pc = .ok (.iastore, 1)) (kk : rj_Go X9 y9 cc nL rt9 d9 P9 (pc + 1) lv rest (pv_p X9 va tx (rm_u g 1 (rj_up (g 1) z w)) σ)) : rj_Go X9 y9 cc nL rt9 d9 P9 pc lv (rj_i w :: rj_i z :: .ref (va + 1) :: rest) (pv_p X9 va tx g σ) := go_iast pv_1 h0 h1 (by decide) hdg (go_eq rfl rfl rfl pv_s1 kk)
theorem pv_t2 (h0 : 0 ≤ z) (h1 : z < 10) (hdg : decode cc pc = .ok (.iastore, 1)) (kk : rj_Go X9 y9 cc nL rt9 d9 P9 (pc + 1) lv rest (pv_p X9 va tx (rm_u g 2 (rj_up (g 2) z w)) σ)) : rj_Go X9 y9 cc nL rt9 d9 P9 pc lv (rj_i w :: rj_i z :: .ref (va + 2) :: rest) (pv_p X9 va tx g σ) := go_iast pv_2 h0 h1 (by decide) hdg (go_eq rfl rfl rfl pv_s2 kk)
theorem pv_t3 (h0 : 0 ≤ z) (h1 : z < 10) (hdg : decode cc pc = .ok (.iastore, 1)) (kk : rj_Go X9 y9 cc nL rt9 d9 P9 (pc + 1) lv rest (pv_p X9 va tx (rm_u g 3 (rj_up (g 3) z w)) σ)) : rj_Go X9 y9 cc nL rt9 d9 P9 pc lv (rj_i w :: rj_i z :: .ref (va + 3) :: rest) (pv_p X9 va tx g σ) := go_iast pv_3 h0 h1 (by decide) hdg (go_eq rfl rfl rfl pv_s3 kk)
end PV
/-- the text -/
def pv_X (X9 : rj_X) (va tx : Nat) (σ : rj_H) (T : Int → Int) (e : Int) : Prop := ¬ (va ≤ tx ∧ tx ≤ va + 3) ∧ (0 ≤ e ∧ e ≤ 120) ∧ sp_TB T e ∧ ∃ ct : Int → Int, σ.2.2 tx = some (rj_ar X9 1 120 ct) ∧ ∀ j : Int, 0 ≤ j → j < e → ct j = rc_sb (T j)
/-- p is read next, n steps stand -/
def pv_P (T : Int → Int) (e p n : Int) (g : rm_R) : Prop := g 0 11 = p ∧ g 0 12 = sp_hr T e p ∧ g 0 10 = e ∧ g 0 1 = n ∧ (0 ≤ p ∧ p ≤ e) ∧ (0 ≤ n ∧ n ≤ p)
def pv_app (f : Int → Int) : Int → List Int → (Int → Int)
  | _, [] => f
  | n, x :: l => pv_app (rj_up f n x) (n + 1) l
theorem pv_app_app : ∀ (l m : List Int) (f : Int → Int) (n : Int), pv_app f n (l ++ m) = pv_app (pv_app f n l) (n + (l.length : Int)) m
  | [], m, f, n => by simp [pv_app]
  | x :: l, m, f, n => by
    rw [List.cons_append, pv_app, pv_app, pv_app_app l m, List.length_cons]
    congr 1
    omega
/-- behind a part: at p, with the steps l more -/
def pv_e (T : Int → Int) (e : Int) (g g' : rm_R) (p : Int) (l : List Int) : Prop := (g' 0 11 = p ∧ g' 0 12 = sp_hr T e p) ∧ g' 0 1 = g 0 1 + (l.length : Int) ∧ (g' 0 4 = g 0 4 ∧ g' 0 7 = g 0 7 ∧ g' 0 8 = g 0 8 ∧ g' 0 10 = g 0 10) ∧ g' 1 = pv_app (g 1) (g 0 1) (l.map sp_enc) ∧ g' 2 = g 2 ∧ g' 3 = g 3
theorem pv_e.tr {T : Int → Int} {e p1 p2 : Int} {g g1 g2 : rm_R} {l1 l2 : List Int} (h : pv_e T e g g1 p1 l1) (k : pv_e T e g1 g2 p2 l2) : pv_e T e g g2 p2 (l1 ++ l2) := by
  obtain ⟨-, b2, ⟨b3, b4, b5, b6⟩, b7, b8, b9⟩ := h
  obtain ⟨a1, a2, ⟨a3, a4, a5, a6⟩, a7, a8, a9⟩ := k
  refine ⟨a1, by rw [a2, b2, List.length_append]; omega, ⟨a3.trans b3, a4.trans b4, a5.trans b5, a6.trans b6⟩, ?_, a8.trans b8, a9.trans b9⟩
  rw [a7, b7, b2, List.map_append, pv_app_app, List.length_map]
theorem pv_e.P {T : Int → Int} {e p n p1 : Int} {g g1 : rm_R} {l : List Int} (h : pv_P T e p n g) (k : pv_e T e g g1 p1 l) (b : p ≤ p1 ∧ p1 ≤ e ∧ (l.length : Int) ≤ p1 - p) : pv_P T e p1 (n + (l.length : Int)) g1 := by
  obtain ⟨h1, h2, h3, h4, h5, h6⟩ := h
  obtain ⟨a1, a2, ⟨a3, a4, a5, a6⟩, a7⟩ := k
  exact ⟨a1.1, a1.2, a6.trans h3, by rw [a2, h4], by omega, by omega⟩
theorem pv_e.rf {T : Int → Int} {e p n : Int} {g : rm_R} (h : pv_P T e p n g) : pv_e T e g g p [] := ⟨⟨h.1, h.2.1⟩, by simp, ⟨rfl, rfl, rfl, rfl⟩, rfl, rfl, rfl⟩
theorem pv_z {X9 : rj_X} {va tx : Nat} {σ : rj_H} {T : Int → Int} {e p' : Int} {g g' : rm_R} {l : List Int} {F : sp_R} (b : Bool) (hF : F = (b, p', l)) (E : pv_e T e g g' p' l) : (some (rj_i (if b = true then 1 else 0)) = some (rj_i (rj_b (F.1 = true)))) ∧ ∃ g2 : rm_R, pv_e T e g g2 F.2.1 F.2.2 ∧ pv_p X9 va tx g' σ = pv_p X9 va tx g2 σ := by
  subst hF
  exact ⟨by cases b <;> rfl, g', E, rfl⟩
theorem pv_z1 {X9 : rj_X} {va tx : Nat} {σ : rj_H} {T : Int → Int} {e p' : Int} {g g' : rm_R} {l : List Int} {F : sp_R} (hF : F = (true, p', l)) (E : pv_e T e g g' p' l) : (some (rj_i 1) = some (rj_i (rj_b (F.1 = true)))) ∧ ∃ g2 : rm_R, pv_e T e g g2 F.2.1 F.2.2 ∧ pv_p X9 va tx g' σ = pv_p X9 va tx g2 σ := pv_z true hF E
theorem pv_z0 {X9 : rj_X} {va tx : Nat} {σ : rj_H} {T : Int → Int} {e p' : Int} {g g' : rm_R} {l : List Int} {F : sp_R} (hF : F = (false, p', l)) (E : pv_e T e g g' p' l) : (some (rj_i 0) = some (rj_i (rj_b (F.1 = true)))) ∧ ∃ g2 : rm_R, pv_e T e g g2 F.2.1 F.2.2 ∧ pv_p X9 va tx g' σ = pv_p X9 va tx g2 σ := pv_z false hF E
theorem pv_zB {X9 : rj_X} {va tx : Nat} {σ : rj_H} {T : Int → Int} {e : Int} {g g' : rm_R} {F G : sp_R} (hF : F = G) (E : pv_e T e g g' G.2.1 G.2.2) : (some (rj_i (rj_b (G.1 = true))) = some (rj_i (rj_b (F.1 = true)))) ∧ ∃ g2 : rm_R, pv_e T e g g2 F.2.1 F.2.2 ∧ pv_p X9 va tx g' σ = pv_p X9 va tx g2 σ := by
  subst hF
  exact ⟨rfl, g', E, rfl⟩
def pv_mv (T : Int → Int) (e p : Int) (g : rm_R) : rm_R := rm_u g 0 (rj_up (rj_up (g 0) 11 p) 12 (sp_hr T e p))
theorem pv_mv_e {T : Int → Int} {e p n : Int} {g : rm_R} (h : pv_P T e p n g) : pv_e T e g (pv_mv T e (p + 1) g) (p + 1) [] := by
  unfold pv_mv
  refine ⟨⟨?_, ?_⟩, ?_, ⟨?_, ?_, ?_, ?_⟩, rfl, rfl, rfl⟩
  all_goals rw [rm_u_eq]
  · rw [rj_up_ne _ _ (by decide), rj_up_eq]
  · rw [rj_up_eq]
  · rw [rj_up_ne _ _ (by decide), rj_up_ne _ _ (by decide)]; simp
  all_goals rw [rj_up_ne _ _ (by decide), rj_up_ne _ _ (by decide)]
theorem pv_ad_e {T : Int → Int} {e p n x : Int} {g : rm_R} (h : pv_P T e p n g) : pv_e T e g (rm_u (rm_u g 1 (rj_up (g 1) n (sp_enc x))) 0 (rj_up (g 0) 1 (n + 1))) p [x] := by
  obtain ⟨h1, h2, h3, h4, h5, h6⟩ := h
  refine ⟨⟨?_, ?_⟩, ?_, ⟨?_, ?_, ?_, ?_⟩, ?_, rfl, rfl⟩
  · rw [rm_u_eq, rj_up_ne _ _ (by decide)]; exact h1
  · rw [rm_u_eq, rj_up_ne _ _ (by decide)]; exact h2
  · rw [rm_u_eq, rj_up_eq, h4]; rfl
  · rw [rm_u_eq, rj_up_ne _ _ (by decide)]
  · rw [rm_u_eq, rj_up_ne _ _ (by decide)]
  · rw [rm_u_eq, rj_up_ne _ _ (by decide)]
  · rw [rm_u_eq, rj_up_ne _ _ (by decide)]
  · rw [rm_u_ne _ _ (by decide), rm_u_eq, h4]; rfl
section PVC
variable {X9 : rj_X} {y9 : MethodName} {cc : ByteArray} {nL : Nat} {rt9 : Option FieldType} {d9 : Nat} {P9 : Option Value → rj_H → Prop} {pc : Nat} {lv : List (Nat × Value)} {rest : List Value} {σ : rj_H} {va tx : Nat} {g : rm_R} {z w : Int}
theorem pv_bt {T : Int → Int} {e : Int} (hX : pv_X X9 va tx σ T e) (h0 : 0 ≤ z) (h1 : z < e) (hdg : decode cc pc = .ok (.baload, 1)) (kk : rj_Go X9 y9 cc nL rt9 d9 P9 (pc + 1) lv (rj_i (rc_sb (T z)) :: rest) (pv_p X9 va tx g σ)) : rj_Go X9 y9 cc nL rt9 d9 P9 pc lv (rj_i z :: .ref tx :: rest) (pv_p X9 va tx g σ) := by
  obtain ⟨o, he, hT, ct, h2, h3⟩ := hX
  refine go_bald ((pv_o o).trans h2) h0 (by omega) (by decide) hdg ?_
  rw [h3 z h0 h1]; exact kk
end PVC
set_option maxRecDepth 20000 in
/-- v_move -/
theorem v_move {X9 : rj_X} {σ : rj_H} {d va tx : Nat} {g : rm_R} {T : Int → Int} {e : Int} {q : Int} (hX : pv_X X9 va tx σ T e) (hq : -1 ≤ q ∧ q ≤ 200) (h11 : g 0 11 = q) (h10 : g 0 10 = e) : rj_Cl X9 d yX9_move cX9_move 1 none [.ref va] (pv_p X9 va tx g σ) (fun w9 τ => w9 = none ∧ τ = pv_p X9 va tx (pv_mv T e (q + 1) g) σ) := by
  obtain ⟨hX1, hX2, hX3, -⟩ := id hX
  have hT255 : ∀ j : Int, 0 ≤ j → j < e → 0 ≤ T j ∧ T j < 256 := fun j a b => by have := hX3 j a b; omega
  refine go_call (by decide +kernel) (Nat.le_of_ble_eq_true rfl) ?_
  refine go_eq (pc' := 0) (lv' := [(0, .ref va)]) (st' := []) rfl rfl rfl rfl ?_
  refine go_aload_n dX9_move_0 rfl 0 rfl ?_
  refine go_dup dX9_move_1 rfl ?_
  refine pv_g11 fX9_55 dX9_move_2 ?_
  rw [(show g 0 11 = q from h11)]
  refine go_iconst (v := Int32.ofInt 1) dX9_move_5 rfl ?_
  refine go_addI dX9_move_6 ?_
  refine pv_w11 fX9_55 dX9_move_7 ?_
  refine go_aload_n dX9_move_10 rfl 0 rfl ?_
  refine go_aload_n dX9_move_11 rfl 0 rfl ?_
  refine pv_g11 fX9_55 dX9_move_12 ?_
  rw [(show (rm_u g 0 (rj_up (g 0) 11 (q + 1))) 0 11 = q + 1 from rfl)]
  refine go_aload_n dX9_move_15 rfl 0 rfl ?_
  refine pv_g10 fX9_52 dX9_move_16 ?_
  rw [((congrFun (rm_u_eq _ _ _) _).trans ((rj_up_ne _ _ (by decide)).trans (show g 0 10 = e from h10)))]
  refine go_icmp_geI (tgt := 38) (by omega) (by omega) dX9_move_19 (by decide) (fun c_19 => ?_) (fun c_19 => ?_)
  · refine go_iconst (v := Int32.ofInt (-1)) dX9_move_38 rfl ?_
    refine pv_w12 fX9_58 dX9_move_39 ?_
    refine go_retV rfl ?_ dX9_move_42
    exact ⟨rfl, by rw [rm_u_u, rm_u_eq, show ((-1)) = sp_hr T e (q + 1) from by unfold sp_hr; rw [if_neg (by omega)]]; rfl⟩
  · refine go_aload_n dX9_move_22 rfl 0 rfl ?_
    refine pv_g9 fX9_48 dX9_move_23 ?_
    refine go_aload_n dX9_move_26 rfl 0 rfl ?_
    refine pv_g11 fX9_55 dX9_move_27 ?_
    rw [(show (rm_u g 0 (rj_up (g 0) 11 (q + 1))) 0 11 = q + 1 from rfl)]
    refine pv_bt hX (by omega) (by omega) dX9_move_30 ?_
    refine go_sipush (v := Int32.ofInt 255) dX9_move_31 (by decide) ?_
    refine go_aS255 (hT255 _ (by omega) (by omega)) dX9_move_34 ?_
    refine go_goto (tgt := 39) dX9_move_35 (by decide) ?_
    refine pv_w12 fX9_58 dX9_move_39 ?_
    refine go_retV rfl ?_ dX9_move_42
    exact ⟨rfl, by rw [rm_u_u, rm_u_eq, show ((T (q + 1))) = sp_hr T e (q + 1) from by unfold sp_hr; rw [if_pos (by omega)]]; rfl⟩
set_option maxRecDepth 20000 in
/-- v_reads -/
theorem v_reads {X9 : rj_X} {σ : rj_H} {d va tx : Nat} {g : rm_R} {T : Int → Int} {e p n : Int} {c9 : Int} (hd : 1 ≤ d) (hX : pv_X X9 va tx σ T e) (hP : pv_P T e p n g) (hc : 0 ≤ c9 ∧ c9 ≤ 65535) : rj_Cl X9 d yX9_reads cX9_reads 2 (some .boolean) [.ref va, rj_i c9] (pv_p X9 va tx g σ) (fun w9 τ => w9 = some (rj_i (rj_b ((((decide (sp_hr T e p = c9), if sp_hr T e p = c9 then p + 1 else p, []) : sp_R)).1 = true))) ∧ ∃ g2 : rm_R, pv_e T e g g2 (((decide (sp_hr T e p = c9), if sp_hr T e p = c9 then p + 1 else p, []) : sp_R)).2.1 (((decide (sp_hr T e p = c9), if sp_hr T e p = c9 then p + 1 else p, []) : sp_R)).2.2 ∧ τ = pv_p X9 va tx g2 σ) := by
  obtain ⟨hX1, hX2, hX3, -⟩ := id hX
  obtain ⟨-, -, -, -, hp, hn⟩ := id hP
  have hr := sp_hr_b hX3 hp.1
  have hl0 : ([] : List Int).length = 0 := rfl
  refine go_call (by decide +kernel) (Nat.le_of_ble_eq_true rfl) ?_
  refine go_eq (pc' := 0) (lv' := [(0, .ref va), (1, rj_i c9)]) (st' := []) rfl rfl rfl rfl ?_
  refine go_aload_n dX9_reads_0 rfl 0 rfl ?_
  refine pv_g12 fX9_58 dX9_reads_1 ?_
  rw [(show g 0 12 = sp_hr T e p from (pv_e.rf hP).1.2)]
  refine go_iload_n dX9_reads_4 rfl 1 rfl ?_
  refine go_icmp_eqI (tgt := 10) (by omega) (by omega) dX9_reads_5 (by decide) (fun c_5 => ?_) (fun c_5 => ?_)
  · refine go_aload_n dX9_reads_10 rfl 0 rfl ?_
    refine go_callV (d1 := d - 1) wVX9_77 kX9 pv_0 rfl (by omega) (v_move (q := p) hX (by omega) (show g 0 11 = p from (pv_e.rf hP).1.1) (show g 0 10 = e from (pv_e.rf hP).2.2.1.2.2.2.trans hP.2.2.1)) rfl (Nat.le_of_ble_eq_true rfl) dX9_reads_11 (fun w σ1 hP9 => ?_)
    obtain ⟨rfl, rfl⟩ := hP9
    have hv1 := sp_hr_b (p := p) hX3 (by omega)
    have e1 := pv_mv_e hP
    have E1 := (pv_e.rf hP).tr e1
    have P1 := e1.P hP ⟨by omega, by omega, by simp; omega⟩
    obtain ⟨g1, eg1⟩ : ∃ x_, x_ = pv_mv T e (p + 1) g := ⟨_, rfl⟩
    rw [← eg1] at e1 E1 P1
    rw [← eg1]
    refine go_iconst (v := Int32.ofInt 1) dX9_reads_14 rfl ?_
    refine go_retI rfl (rj_n01 (by decide)) ?_ dX9_reads_15
    exact pv_z1 (F := (decide (sp_hr T e p = c9), if sp_hr T e p = c9 then p + 1 else p, [])) (by rw [if_pos c_5]; simp [c_5]) E1
  · refine go_iconst (v := Int32.ofInt 0) dX9_reads_8 rfl ?_
    refine go_retI rfl (rj_n01 (by decide)) ?_ dX9_reads_9
    exact pv_z0 (F := (decide (sp_hr T e p = c9), if sp_hr T e p = c9 then p + 1 else p, [])) (by rw [if_neg c_5]; simp [c_5]) (pv_e.rf hP)
set_option maxRecDepth 20000 in
/-- v_add -/
theorem v_add {X9 : rj_X} {σ : rj_H} {d va tx : Nat} {g : rm_R} {T : Int → Int} {e p n : Int} {x : Int} (hX : pv_X X9 va tx σ T e) (hP : pv_P T e p n g) (hlt : n < p) (hx : sp_enc x = sp_enc x) : rj_Cl X9 d yX9_addStep cX9_addStep 2 none [.ref va, rj_i (sp_enc x)] (pv_p X9 va tx g σ) (fun w9 τ => w9 = none ∧ ∃ g2 : rm_R, pv_e T e g g2 p [x] ∧ τ = pv_p X9 va tx g2 σ) := by
  obtain ⟨hX1, hX2, hX3, -⟩ := id hX
  obtain ⟨-, -, -, -, hp, hn⟩ := id hP
  have hr := sp_hr_b hX3 hp.1
  have hl0 : ([] : List Int).length = 0 := rfl
  refine go_call (by decide +kernel) (Nat.le_of_ble_eq_true rfl) ?_
  refine go_eq (pc' := 0) (lv' := [(0, .ref va), (1, rj_i (sp_enc x))]) (st' := []) rfl rfl rfl rfl ?_
  refine go_aload_n dX9_addStep_0 rfl 0 rfl ?_
  refine pv_g1 fX9_15 dX9_addStep_1 ?_
  rw [(show g 0 1 = n from hP.2.2.2.1)]
  refine go_bipush (v := Int32.ofInt 120) dX9_addStep_4 (by decide) ?_
  refine go_icmp_ltI (tgt := 10) (by omega) (by omega) dX9_addStep_6 (by decide) (fun c_6 => ?_) (fun c_6 => ?_)
  · refine go_aload_n dX9_addStep_10 rfl 0 rfl ?_
    refine pv_g0 fX9_9 dX9_addStep_11 ?_
    refine go_aload_n dX9_addStep_14 rfl 0 rfl ?_
    refine pv_g1 fX9_15 dX9_addStep_15 ?_
    rw [(show g 0 1 = n from hP.2.2.2.1)]
    refine go_iload_n dX9_addStep_18 rfl 1 rfl ?_
    refine pv_t1 (by omega) (by omega) dX9_addStep_19 ?_
    refine go_aload_n dX9_addStep_20 rfl 0 rfl ?_
    refine go_dup dX9_addStep_21 rfl ?_
    refine pv_g1 fX9_15 dX9_addStep_22 ?_
    rw [(show (rm_u g 1 (rj_up (g 1) n (sp_enc x))) 0 1 = n from hP.2.2.2.1)]
    refine go_iconst (v := Int32.ofInt 1) dX9_addStep_25 rfl ?_
    refine go_addI dX9_addStep_26 ?_
    refine pv_w1 fX9_15 dX9_addStep_27 ?_
    refine go_retV rfl ?_ dX9_addStep_30
    exact ⟨rfl, _, pv_ad_e hP, rfl⟩
  · exact absurd c_6 (by omega)
