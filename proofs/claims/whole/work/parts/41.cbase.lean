/-! THE CLASS'S HEAP: its fixed cells (cb .. cb + 91) and the scratch of its valley (vv, vk) as registers, laid over any heap -/
def rc_x (cb : Nat) (g : Int → Int) : List Value := [.ref (cb + 1), .ref (cb + 32), rj_i (g 2), .ref (cb + 63), .ref (cb + 65), .ref (cb + 66), .ref (cb + 76), .ref (cb + 83), .ref (cb + 90), .ref (cb + 91)]
def rc_sc (sb : Nat) (g : Int → Int) : List Value := [.ref (sb + 1), rj_i (g 1), .ref (sb + 2), rj_i (g 3), .ref (sb + 9), rj_i (g 5), .ref (sb + 10), rj_i (g 7), .ref (g 8).toNat, rj_i (g 9), .ref (sb + 17), rj_i (g 11), .ref (sb + 24), rj_i (g 13), rj_i (g 14)]
def rc_o (g : Int → Int) : Int → Option Nat := fun j => if g j < 0 then none else some (g j).toNat
/-- a scene's cell -/
def rc_ks (X9 : rj_X) (sb : Nat) (n : Nat) (g : Int → Int) : va_E :=
  if n = 0 then .inr (5, rc_sc sb g) else if n = 1 then rj_rr X9 4 6 (rc_o g) else if n = 2 then rj_rr X9 3 6 (fun j => some (sb + (3 + j.toNat))) else if n ≤ 8 then rj_ar X9 0 4 g
  else if n = 9 then rj_rr X9 5 8 (rc_o g) else if n = 10 then rj_ar X9 1 120 g else if n = 17 then rj_rr X9 3 6 (fun j => some (sb + (18 + j.toNat))) else if n ≤ 23 then rj_ar X9 0 8 g
  else if n = 24 then rj_rr X9 3 6 (fun j => some (sb + (25 + j.toNat))) else rj_ar X9 0 6 g
def rc_k (X9 : rj_X) (cb : Nat) (n : Nat) (g : Int → Int) : va_E :=
  if n = 0 then .inr (11, rc_x cb g) else if n ≤ 31 then rc_ks X9 (cb + 1) (n - 1) g else if n ≤ 62 then rc_ks X9 (cb + 32) (n - 32) g
  else if n = 63 then .inr (7, [.ref (cb + 64), rj_i (g 1)]) else if n = 64 then rj_ar X9 0 20 g else if n = 65 then rj_ar X9 0 6 g
  else if n = 66 then rj_rr X9 3 9 (fun j => some (cb + (67 + j.toNat))) else if n ≤ 75 then rj_ar X9 0 7 g
  else if n = 76 then rj_rr X9 3 6 (fun j => some (cb + (77 + j.toNat))) else if n ≤ 82 then rj_ar X9 0 6 g
  else if n = 83 then rj_rr X9 3 6 (fun j => some (cb + (84 + j.toNat))) else rj_ar X9 0 6 g
/-- the cells that are fixed -/
def rc_fx (n : Nat) : Bool := decide (n < 92) && !(decide (12 ≤ n) && decide (n ≤ 17)) && !(decide (43 ≤ n) && decide (n ≤ 48))
/-- a cell that is neither fixed nor the reference's -/
def rc_fo (n : Nat) : Bool := rc_fx n || (decide (92 ≤ n) && decide (n ≤ 102))
def rc_out (cb a : Nat) : Prop := ¬ (cb ≤ a ∧ rc_fo (a - cb) = true)
theorem rc_out.x {cb a : Nat} (h : rc_out cb a) : ¬ (cb ≤ a ∧ rc_fx (a - cb) = true) := fun q => h ⟨q.1, by unfold rc_fo; rw [q.2]; rfl⟩
theorem rc_out.m {cb a i : Nat} (h : rc_out cb a) (hi : i < 11) : a ≠ cb + 92 + i := fun q => h ⟨by omega, by unfold rc_fo; have : decide (92 ≤ a - cb) = true := decide_eq_true (by omega); have h2 : decide (a - cb ≤ 102) = true := decide_eq_true (by omega); rw [this, h2]; simp⟩
theorem rc_out.ge {cb a : Nat} (h : cb + 103 ≤ a) : rc_out cb a := fun q => by
  have := q.2
  simp only [rc_fo, rc_fx, Bool.or_eq_true, Bool.and_eq_true, decide_eq_true_eq] at this
  omega
def rc_V (cb vv vk : Nat) : Prop := vv ≠ vk ∧ rc_out cb vv ∧ rc_out cb vk
def rc_p (X9 : rj_X) (cb vv vk : Nat) (c : rm_R) (σ : rj_H) : rj_H := (σ.1, σ.2.1, fun a => if a = vv then some (rj_ar X9 0 5 (c 92)) else if a = vk then some (rj_ar X9 0 13 (c 93)) else if cb ≤ a ∧ rc_fx (a - cb) = true then some (rc_k X9 cb (a - cb) (c (a - cb))) else σ.2.2 a)
section RC
variable {X9 : rj_X} {y9 : MethodName} {cc : ByteArray} {nL : Nat} {rt9 : Option FieldType} {d9 : Nat} {P9 : Option Value → rj_H → Prop} {pc : Nat} {lv : List (Nat × Value)} {rest : List Value} {σ : rj_H} {cb vv vk : Nat} {c : rm_R} {z w : Int}
theorem rc_at (hV : rc_V cb vv vk) (n : Nat) (hn : rc_fx n = true) : (rc_p X9 cb vv vk c σ).2.2 (cb + n) = some (rc_k X9 cb n (c n)) := by
  obtain ⟨-, h2, h3⟩ := hV
  have hi : cb ≤ cb + n ∧ rc_fx (cb + n - cb) = true := ⟨by omega, by rw [Nat.add_sub_cancel_left]; exact hn⟩
  show (if cb + n = vv then _ else if cb + n = vk then _ else if cb ≤ cb + n ∧ rc_fx (cb + n - cb) = true then _ else _) = _
  rw [if_neg (fun e : cb + n = vv => h2.x (by rw [← e]; exact hi)), if_neg (fun e : cb + n = vk => h3.x (by rw [← e]; exact hi)), if_pos hi, Nat.add_sub_cancel_left]
theorem rc_vv : (rc_p X9 cb vv vk c σ).2.2 vv = some (rj_ar X9 0 5 (c 92)) := if_pos rfl
theorem rc_vk (hV : rc_V cb vv vk) : (rc_p X9 cb vv vk c σ).2.2 vk = some (rj_ar X9 0 13 (c 93)) := by
  show (if vk = vv then _ else if vk = vk then _ else _) = _
  rw [if_neg (fun e => hV.1 e.symm), if_pos rfl]
theorem rc_of {a : Nat} (h1 : rc_out cb a) (h2 : a ≠ vv) (h3 : a ≠ vk) : (rc_p X9 cb vv vk c σ).2.2 a = σ.2.2 a := by
  show (if a = vv then _ else if a = vk then _ else if cb ≤ a ∧ rc_fx (a - cb) = true then _ else _) = _
  rw [if_neg h2, if_neg h3, if_neg h1.x]
theorem rc_set (hV : rc_V cb vv vk) (n : Nat) (hn : rc_fx n = true) {g : Int → Int} {e : va_E} (he : rc_k X9 cb n g = e) : rj_set (rc_p X9 cb vv vk c σ) (cb + n) e = rc_p X9 cb vv vk (rm_u c n g) σ := by
  obtain ⟨-, h2, h3⟩ := hV
  have hi : cb ≤ cb + n ∧ rc_fx (cb + n - cb) = true := ⟨by omega, by rw [Nat.add_sub_cancel_left]; exact hn⟩
  have n92 : n < 92 := by
    simp only [rc_fx, Bool.and_eq_true, decide_eq_true_eq] at hn
    exact hn.1.1
  unfold rj_set rc_p
  refine congrArg _ (congrArg _ (funext fun q => ?_))
  by_cases h : q = cb + n
  · subst h
    rw [if_pos rfl, if_neg (fun e : cb + n = vv => h2.x (by rw [← e]; exact hi)), if_neg (fun e : cb + n = vk => h3.x (by rw [← e]; exact hi)), if_pos hi, Nat.add_sub_cancel_left, rm_u_eq, he]
  · rw [if_neg h]
    show (if q = vv then _ else if q = vk then _ else if cb ≤ q ∧ rc_fx (q - cb) = true then _ else _) = (if q = vv then _ else if q = vk then _ else if cb ≤ q ∧ rc_fx (q - cb) = true then _ else _)
    rw [rm_u_ne _ _ (show 92 ≠ n by omega), rm_u_ne _ _ (show 93 ≠ n by omega)]
    by_cases hq : cb ≤ q ∧ rc_fx (q - cb) = true
    · rw [rm_u_ne _ _ (show q - cb ≠ n by omega)]
    · rw [if_neg hq, if_neg hq]
theorem rc_setv (hV : rc_V cb vv vk) {g : Int → Int} : rj_set (rc_p X9 cb vv vk c σ) vv (rj_ar X9 0 5 g) = rc_p X9 cb vv vk (rm_u c 92 g) σ := by
  unfold rj_set rc_p
  refine congrArg _ (congrArg _ (funext fun q => ?_))
  by_cases h : q = vv
  · subst h; rw [if_pos rfl, if_pos rfl, rm_u_eq]
  · rw [if_neg h]
    show (if q = vv then _ else if q = vk then _ else if cb ≤ q ∧ rc_fx (q - cb) = true then _ else _) = (if q = vv then _ else if q = vk then _ else if cb ≤ q ∧ rc_fx (q - cb) = true then _ else _)
    rw [if_neg h, if_neg h, rm_u_ne _ _ (show 93 ≠ 92 by decide)]
    by_cases hq : cb ≤ q ∧ rc_fx (q - cb) = true
    · have n92 : q - cb < 92 := by
        have := hq.2
        simp only [rc_fx, Bool.and_eq_true, decide_eq_true_eq] at this
        exact this.1.1
      rw [rm_u_ne _ _ (show q - cb ≠ 92 by omega)]
    · rw [if_neg hq, if_neg hq]
theorem rc_setk (hV : rc_V cb vv vk) {g : Int → Int} : rj_set (rc_p X9 cb vv vk c σ) vk (rj_ar X9 0 13 g) = rc_p X9 cb vv vk (rm_u c 93 g) σ := by
  unfold rj_set rc_p
  refine congrArg _ (congrArg _ (funext fun q => ?_))
  by_cases h : q = vk
  · subst h; rw [if_pos rfl, if_neg (fun e => hV.1 e.symm), if_pos rfl, rm_u_eq]
  · rw [if_neg h]
    show (if q = vv then _ else if q = vk then _ else if cb ≤ q ∧ rc_fx (q - cb) = true then _ else _) = (if q = vv then _ else if q = vk then _ else if cb ≤ q ∧ rc_fx (q - cb) = true then _ else _)
    rw [if_neg h, if_neg h, rm_u_ne _ _ (show 92 ≠ 93 by decide)]
    by_cases hq : cb ≤ q ∧ rc_fx (q - cb) = true
    · have n92 : q - cb < 92 := by
        have := hq.2
        simp only [rc_fx, Bool.and_eq_true, decide_eq_true_eq] at this
        exact this.1.1
      rw [rm_u_ne _ _ (show q - cb ≠ 93 by omega)]
    · rw [if_neg hq, if_neg hq]
/-- loads and stores of int arrays at a fixed cell, and of its objects' fields -/
theorem rc_ld (hV : rc_V cb vv vk) {n L : Nat} (hn : rc_fx n = true) (hk : rc_k X9 cb n (c n) = rj_ar X9 0 L (c n)) (h0 : 0 ≤ z) (h1 : z < L) (hL : L < 2147483648) (hdg : decode cc pc = .ok (.iaload, 1)) (kk : rj_Go X9 y9 cc nL rt9 d9 P9 (pc + 1) lv (rj_i (c n z) :: rest) (rc_p X9 cb vv vk c σ)) : rj_Go X9 y9 cc nL rt9 d9 P9 pc lv (rj_i z :: .ref (cb + n) :: rest) (rc_p X9 cb vv vk c σ) := go_iald ((rc_at hV n hn).trans (congrArg some hk)) h0 h1 hL hdg kk
theorem rc_st (hV : rc_V cb vv vk) {n L : Nat} (hn : rc_fx n = true) (hk : ∀ g, rc_k X9 cb n g = rj_ar X9 0 L g) (h0 : 0 ≤ z) (h1 : z < L) (hL : L < 2147483648) (hdg : decode cc pc = .ok (.iastore, 1)) (kk : rj_Go X9 y9 cc nL rt9 d9 P9 (pc + 1) lv rest (rc_p X9 cb vv vk (rm_u c n (rj_up (c n) z w)) σ)) : rj_Go X9 y9 cc nL rt9 d9 P9 pc lv (rj_i w :: rj_i z :: .ref (cb + n) :: rest) (rc_p X9 cb vv vk c σ) := go_iast ((rc_at hV n hn).trans (congrArg some (hk _))) h0 h1 hL hdg (by rw [rc_set hV n hn (hk _)]; exact kk)
theorem rc_ldv (h0 : 0 ≤ z) (h1 : z < 5) (hdg : decode cc pc = .ok (.iaload, 1)) (kk : rj_Go X9 y9 cc nL rt9 d9 P9 (pc + 1) lv (rj_i (c 92 z) :: rest) (rc_p X9 cb vv vk c σ)) : rj_Go X9 y9 cc nL rt9 d9 P9 pc lv (rj_i z :: .ref vv :: rest) (rc_p X9 cb vv vk c σ) := go_iald rc_vv h0 h1 (by decide) hdg kk
theorem rc_stv (hV : rc_V cb vv vk) (h0 : 0 ≤ z) (h1 : z < 5) (hdg : decode cc pc = .ok (.iastore, 1)) (kk : rj_Go X9 y9 cc nL rt9 d9 P9 (pc + 1) lv rest (rc_p X9 cb vv vk (rm_u c 92 (rj_up (c 92) z w)) σ)) : rj_Go X9 y9 cc nL rt9 d9 P9 pc lv (rj_i w :: rj_i z :: .ref vv :: rest) (rc_p X9 cb vv vk c σ) := go_iast rc_vv h0 h1 (by decide) hdg (by rw [rc_setv hV]; exact kk)
theorem rc_ldk (hV : rc_V cb vv vk) (h0 : 0 ≤ z) (h1 : z < 13) (hdg : decode cc pc = .ok (.iaload, 1)) (kk : rj_Go X9 y9 cc nL rt9 d9 P9 (pc + 1) lv (rj_i (c 93 z) :: rest) (rc_p X9 cb vv vk c σ)) : rj_Go X9 y9 cc nL rt9 d9 P9 pc lv (rj_i z :: .ref vk :: rest) (rc_p X9 cb vv vk c σ) := go_iald (rc_vk hV) h0 h1 (by decide) hdg kk
theorem rc_stk (hV : rc_V cb vv vk) (h0 : 0 ≤ z) (h1 : z < 13) (hdg : decode cc pc = .ok (.iastore, 1)) (kk : rj_Go X9 y9 cc nL rt9 d9 P9 (pc + 1) lv rest (rc_p X9 cb vv vk (rm_u c 93 (rj_up (c 93) z w)) σ)) : rj_Go X9 y9 cc nL rt9 d9 P9 pc lv (rj_i w :: rj_i z :: .ref vk :: rest) (rc_p X9 cb vv vk c σ) := go_iast (rc_vk hV) h0 h1 (by decide) hdg (by rw [rc_setk hV]; exact kk)
/-- an element of an array of rows -/
theorem rc_row (hV : rc_V cb vv vk) {n L m : Nat} (hn : rc_fx n = true) (hk : rc_k X9 cb n (c n) = rj_rr X9 3 L (fun j => some (cb + (m + j.toNat)))) (h0 : 0 ≤ z) (h1 : z < L) (hL : L < 2147483648) (hdg : decode cc pc = .ok (.aaload, 1)) (kk : rj_Go X9 y9 cc nL rt9 d9 P9 (pc + 1) lv (.ref (cb + (m + z.toNat)) :: rest) (rc_p X9 cb vv vk c σ)) : rj_Go X9 y9 cc nL rt9 d9 P9 pc lv (rj_i z :: .ref (cb + n) :: rest) (rc_p X9 cb vv vk c σ) := go_aald ((rc_at hV n hn).trans (congrArg some hk)) rfl rfl h0 h1 hL hdg kk
/-- an element of mirrors or walls -/
theorem rc_el (hV : rc_V cb vv vk) {n L t : Nat} {ty : FieldType} (hn : rc_fx n = true) (hk : rc_k X9 cb n (c n) = rj_rr X9 t L (rc_o (c n))) (ht : (rj_tys X9)[t]? = some (X9.2.2.1 t, ty)) (hr : ty.isReference = true) (h0 : 0 ≤ z) (h1 : z < L) (hL : L < 2147483648) (hg : 0 ≤ c n z) (hdg : decode cc pc = .ok (.aaload, 1)) (kk : rj_Go X9 y9 cc nL rt9 d9 P9 (pc + 1) lv (.ref (c n z).toNat :: rest) (rc_p X9 cb vv vk c σ)) : rj_Go X9 y9 cc nL rt9 d9 P9 pc lv (rj_i z :: .ref (cb + n) :: rest) (rc_p X9 cb vv vk c σ) := go_aald ((rc_at hV n hn).trans (congrArg some hk)) ht hr h0 h1 hL hdg (by rw [show va_rf (rc_o (c n) z) = .ref (c n z).toNat from by unfold rc_o; rw [if_neg (by omega)]; rfl]; exact kk)
/-- fields of the fixed objects -/
theorem rc_gx {k idx : Nat} {v : Value} (hV : rc_V cb vv vk) (hk : k < 10) (hln : rj_ln y9.cls idx (TX11 k)) (hv : (rc_x cb (c 0))[k]? = some v) (hdg : decode cc pc = .ok (.getfield idx, 3)) (kk : rj_Go X9 y9 cc nL rt9 d9 P9 (pc + 3) lv (v :: rest) (rc_p X9 cb vv vk c σ)) : rj_Go X9 y9 cc nL rt9 d9 P9 pc lv (.ref cb :: rest) (rc_p X9 cb vv vk c σ) := go_get kX11 hk hln (rc_at hV 0 rfl) hv hdg kk
theorem rc_gs {k idx : Nat} {v : Value} (hV : rc_V cb vv vk) (hk : k < 15) (hln : rj_ln y9.cls idx (TX5 k)) (hv : (rc_sc (cb + 1) (c 1))[k]? = some v) (hdg : decode cc pc = .ok (.getfield idx, 3)) (kk : rj_Go X9 y9 cc nL rt9 d9 P9 (pc + 3) lv (v :: rest) (rc_p X9 cb vv vk c σ)) : rj_Go X9 y9 cc nL rt9 d9 P9 pc lv (.ref (cb + 1) :: rest) (rc_p X9 cb vv vk c σ) := go_get kX5 hk hln (rc_at hV 1 rfl) hv hdg kk
theorem rc_gt {k idx : Nat} {v : Value} (hV : rc_V cb vv vk) (hk : k < 2) (hln : rj_ln y9.cls idx (TX7 k)) (hv : ([.ref (cb + 64), rj_i (c 63 1)] : List Value)[k]? = some v) (hdg : decode cc pc = .ok (.getfield idx, 3)) (kk : rj_Go X9 y9 cc nL rt9 d9 P9 (pc + 3) lv (v :: rest) (rc_p X9 cb vv vk c σ)) : rj_Go X9 y9 cc nL rt9 d9 P9 pc lv (.ref (cb + 63) :: rest) (rc_p X9 cb vv vk c σ) := go_get kX7 hk hln (rc_at hV 63 rfl) hv hdg kk
/-- fields of objects elsewhere -/
theorem rc_go {ci k idx a : Nat} {C : String} {T : u_T} {N : Nat} {ty : Nat → FieldType} {fs : List Value} {v : Value} (hcl : rj_cl ci C T N ty) (h1 : rc_out cb a) (h2 : a ≠ vv) (h3 : a ≠ vk) (ha : σ.2.2 a = some (.inr (ci, fs))) (hk : k < N) (hln : rj_ln y9.cls idx (T k)) (hv : fs[k]? = some v) (hdg : decode cc pc = .ok (.getfield idx, 3)) (kk : rj_Go X9 y9 cc nL rt9 d9 P9 (pc + 3) lv (v :: rest) (rc_p X9 cb vv vk c σ)) : rj_Go X9 y9 cc nL rt9 d9 P9 pc lv (.ref a :: rest) (rc_p X9 cb vv vk c σ) := go_get hcl hk hln ((rc_of h1 h2 h3).trans ha) hv hdg kk
theorem rc_ld2 {a L : Nat} {g : Int → Int} (h1 : rc_out cb a) (h2 : a ≠ vv) (h3 : a ≠ vk) (ha : σ.2.2 a = some (rj_ar X9 0 L g)) (z0 : 0 ≤ z) (z1 : z < L) (hL : L < 2147483648) (hdg : decode cc pc = .ok (.iaload, 1)) (kk : rj_Go X9 y9 cc nL rt9 d9 P9 (pc + 1) lv (rj_i (g z) :: rest) (rc_p X9 cb vv vk c σ)) : rj_Go X9 y9 cc nL rt9 d9 P9 pc lv (rj_i z :: .ref a :: rest) (rc_p X9 cb vv vk c σ) := go_iald ((rc_of h1 h2 h3).trans ha) z0 z1 hL hdg kk
end RC
/-- what changes but scratch: the valley's (0), all rows that single calls fill (1) -/
def rc_t (n : Nat) (c c' : rm_R) : Prop := ∀ k : Nat, k < n → c' k = c k
theorem rc_t.rf {n : Nat} {c : rm_R} : rc_t n c c := fun _ _ => rfl
theorem rc_t.tr {n : Nat} {c c1 c2 : rm_R} (h : rc_t n c c1) (k : rc_t n c1 c2) : rc_t n c c2 := fun j a => (k j a).trans (h j a)
theorem rc_t.le {m n : Nat} {c c' : rm_R} (h : rc_t n c c') (hm : m ≤ n) : rc_t m c c' := fun j a => h j (by omega)
theorem rc_t.u {n k : Nat} {c : rm_R} {g : Int → Int} (hk : n ≤ k) : rc_t n c (rm_u c k g) := fun j a => rm_u_ne _ _ (by omega)
/-- Mirrors' classes by kind -/
def rc_ci (kind : Int) : Nat := if kind = 1 then 8 else if kind = 2 then 0 else if kind = 3 then 3 else if kind = 4 then 1 else if kind = 5 then 4 else if kind = 6 then 6 else 2
def rc_mf (s : Int → Int) (m : Int) : List Value := [rj_i (s (130 + m)), rj_i m, rj_i (s (136 + m)), rj_i (s (142 + m)), rj_i (s (148 + m)), rj_i (s (154 + m)), rj_i (s (160 + m)), rj_i (s (166 + m))]
/-- a is no cell of the overlay, and stands -/
abbrev rc_o3 (cb vv vk : Nat) (σ : rj_H) (a : Nat) : Prop := rc_out cb a ∧ a ≠ vv ∧ a ≠ vk ∧ a < σ.1
/-- a is mirror m; wall w -/
def rc_mir (cb vv vk : Nat) (σ : rj_H) (s : Int → Int) (m : Int) (a : Nat) : Prop := rc_o3 cb vv vk σ a ∧ σ.2.2 a = some (.inr (rc_ci (s (130 + m)), rc_mf s m))
def rc_wal (cb vv vk : Nat) (σ : rj_H) (s : Int → Int) (w : Int) (a : Nat) : Prop := rc_o3 cb vv vk σ a ∧ σ.2.2 a = some (.inr (10, [rj_i (s (196 + w)), rj_i (s (204 + w)), rj_i (s (212 + w) - s (196 + w)), rj_i (s (220 + w) - s (204 + w)), rj_i (s (228 + w))]))
def rc_sb (z : Int) : Int := if z < 128 then z else z - 256
/-- a scene says what the reference's row says; ad: where mirrors (0), walls (1), the valley (2) stand -/
def rc_S (b : Nat) (cb vv vk : Nat) (c : rm_R) (σ : rj_H) (s : Int → Int) (ad : Nat → Int → Nat) : Prop :=
  (c b 1 = s 0 ∧ c b 3 = s 1 ∧ c b 5 = s 2 ∧ c b 7 = s 6 ∧ c b 8 = (ad 2 0 : Int) ∧ c b 9 = s 3 ∧ c b 11 = s 4 ∧ c b 13 = s 5 ∧ c b 14 = s 8) ∧
  (∀ m : Int, 0 ≤ m → m < s 0 → c (b + 1) m = (ad 0 m : Int) ∧ rc_mir cb vv vk σ s m (ad 0 m)) ∧
  (∀ p : Int, 0 ≤ p → p < s 1 → p < 6 → c (b + (3 + p.toNat)) 0 = s (172 + p) ∧ c (b + (3 + p.toNat)) 1 = s (178 + p) ∧ c (b + (3 + p.toNat)) 2 = s (184 + p) ∧ c (b + (3 + p.toNat)) 3 = s (190 + p)) ∧
  (∀ w : Int, 0 ≤ w → w < s 2 → c (b + 9) w = (ad 1 w : Int) ∧ rc_wal cb vv vk σ s w (ad 1 w)) ∧
  (∀ j : Int, 0 ≤ j → j < s 6 → c (b + 10) j = rc_sb (s (10 + j))) ∧
  (∀ m q : Int, 0 ≤ m → m < 6 → 0 ≤ q → q < 8 → c (b + (18 + m.toNat)) q = s (236 + 8 * m + q)) ∧
  (∀ a e : Int, 0 ≤ a → a < 6 → 0 ≤ e → e < 6 → (s 5 = 0 ∨ (a < s 8 ∧ e < s 8)) → c (b + (25 + a.toNat)) e = sp_vn s a e)
