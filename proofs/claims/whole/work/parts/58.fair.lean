/-! THE CLASS: fair -/
def sp_al (s : Int → Int) (m p : Int) : Int := sp_sum (fun q => rj_b (sp_can s (s 4) m p q = true)) 8 * sp_light s m
def sp_lw (s : Int → Int) (m p o : Int) : Int := (if o = p then sp_al s m p else 0) + sp_sum (fun g => if g = m then 0 else sp_lo1 s o g) (s 0).toNat
def sp_lm (s : Int → Int) (m p : Int) : Nat → Int
  | 0 => -1
  | k + 1 => if sp_lm s m p k < 0 ∨ sp_lw s m p (k : Int) < sp_lm s m p k then sp_lw s m p (k : Int) else sp_lm s m p k
theorem sp_sum_at (f : Int → Int) (m A : Int) : ∀ n : Nat, sp_sum (fun g => if g = m then A else f g) n = (if 0 ≤ m ∧ m < n then A else 0) + sp_sum (fun g => if g = m then 0 else f g) n
  | 0 => by rw [if_neg (by omega)]; rfl
  | n + 1 => by
    rw [sp_sum, sp_sum, sp_sum_at f m A n]
    by_cases h : (n : Int) = m
    · rw [if_pos h, if_pos h, if_neg (by omega), if_pos (by omega)]; omega
    · rw [if_neg h, if_neg h]
      by_cases h2 : 0 ≤ m ∧ m < n
      · rw [if_pos h2, if_pos (by omega)]; omega
      · rw [if_neg h2, if_neg (by omega)]; omega
theorem sp_fl_like (s : Int → Int) {m p : Int} (hm : 0 ≤ m ∧ m < 6) : sp_like s (sp_fl s m p 8) := fun j a b c d e f => by unfold sp_fl; rw [if_neg (by omega)]
theorem sp_has_fl {s : Int → Int} {m p o : Int} (hI : sp_I s) (hm : 0 ≤ m ∧ m < s 0) (hp : 0 ≤ p ∧ p < s 1) (ho : 0 ≤ o ∧ o < s 1) : sp_has (sp_fl s m p 8) (s 4) o = sp_lw s m p o := by
  obtain ⟨⟨h0, h1, h2, h3, h4, h5, h6, h7⟩, -⟩ := id hI
  have hl := sp_fl_like s (m := m) (p := p) (by omega)
  have e4 : sp_fl s m p 8 4 = s 4 := by unfold sp_fl; rw [if_neg (by omega)]
  have e0 : sp_fl s m p 8 0 = s 0 := by unfold sp_fl; rw [if_neg (by omega)]
  have h9 := sp_has_lo (sp_fl s m p 8) o
  rw [e4, e0] at h9
  rw [h9]
  have hx : ∀ g : Int, 0 ≤ g → g < (s 0).toNat → sp_lo1 (sp_fl s m p 8) o g = (fun g => if g = m then (if o = p then sp_al s m p else 0) else sp_lo1 s o g) g := by
    intro g g0 g1
    show _ = (if g = m then (if o = p then sp_al s m p else 0) else sp_lo1 s o g)
    unfold sp_lo1
    rw [e4, sp_light_ag hl (by omega)]
    by_cases hg : g = m
    · subst hg
      rw [if_pos rfl]
      have hf : ∀ q : Int, 0 ≤ q → q < 8 → sp_fl s g p 8 (236 + 8 * g + q) = p := fun q a b => by unfold sp_fl; rw [if_pos (by omega)]
      by_cases hop : o = p
      · subst hop
        rw [if_pos rfl]
        unfold sp_al
        congr 1
        exact sp_sum_ext 8 (fun q a b => by unfold sp_thr; rw [hf q a (by omega), sp_can_ag hl hI (by omega) (by omega), decide_eq_true rfl, Bool.true_and])
      · rw [if_neg hop, sp_sum_ext (g := fun _ => 0) 8 (fun q a b => by unfold sp_thr; rw [hf q a (by omega), decide_eq_false (fun e => hop e.symm), Bool.false_and]; rfl), sp_sum_z, Int.zero_mul]
    · rw [if_neg hg]
      congr 1
      refine sp_sum_ext 8 (fun q a b => ?_)
      have hf : sp_fl s m p 8 (236 + 8 * g + q) = s (236 + 8 * g + q) := by unfold sp_fl; rw [if_neg (by omega)]
      unfold sp_thr
      rw [hf, sp_can_ag hl hI (by omega) (by omega)]
  rw [sp_sum_ext _ hx, sp_sum_at]
  unfold sp_lw
  rw [if_pos (by omega)]
theorem sp_lm_wz {s : Int → Int} {m p : Int} (hI : sp_I s) (hm : 0 ≤ m ∧ m < s 0) (hp : 0 ≤ p ∧ p < s 1) : ∀ k : Nat, (k : Int) ≤ s 1 → (k = 0 ∧ sp_lm s m p k = -1 ∧ (sp_wz (sp_fl s m p 8) (s 4) k).1 = -5) ∨ (0 < k ∧ 0 ≤ sp_lm s m p k ∧ (sp_wz (sp_fl s m p 8) (s 4) k).2 = sp_lm s m p k ∧ 0 ≤ (sp_wz (sp_fl s m p 8) (s 4) k).1 ∧ (sp_wz (sp_fl s m p 8) (s 4) k).1 < k ∧ sp_has (sp_fl s m p 8) (s 4) (sp_wz (sp_fl s m p 8) (s 4) k).1 = sp_lm s m p k)
  | 0, _ => Or.inl ⟨rfl, rfl, rfl⟩
  | k + 1, hk => by
    have ih := sp_lm_wz hI hm hp k (by omega)
    obtain ⟨⟨h0, h1, -⟩, -⟩ := id hI
    have hf := sp_I_fl hI (m := m) (p := p) (by omega) (by omega)
    obtain ⟨⟨g0, -⟩, hM2, -⟩ := hf
    have hh := sp_has_fl (o := (k : Int)) hI hm hp (by omega)
    have hb := sp_has_b (s := sp_fl s m p 8) (D := s 4) (p := (k : Int)) g0 hM2
    refine Or.inr ⟨by omega, ?_⟩
    have ew : ∀ P : Prop, (((sp_wz (sp_fl s m p 8) (s 4) k).1 = -5 ∨ sp_has (sp_fl s m p 8) (s 4) (k : Int) < (sp_wz (sp_fl s m p 8) (s 4) k).2) ↔ P) → [Decidable P] → sp_wz (sp_fl s m p 8) (s 4) (k + 1) = if P then ((k : Int), sp_has (sp_fl s m p 8) (s 4) (k : Int)) else sp_wz (sp_fl s m p 8) (s 4) k := fun P hP _ => by
      rw [sp_wz]
      by_cases h : P
      · rw [if_pos (hP.mpr h), if_pos h]
      · rw [if_neg (fun q => h (hP.mp q)), if_neg h]
    rcases ih with ⟨i1, i2, i3⟩ | ⟨i1, i2, i3, i4, i5, i6⟩
    · have e1 := ew True ⟨fun _ => trivial, fun _ => Or.inl i3⟩
      have e2 : sp_lm s m p (k + 1) = sp_lw s m p (k : Int) := by rw [sp_lm, if_pos (Or.inl (by omega))]
      rw [if_pos trivial] at e1
      rw [e1, e2, hh]
      refine ⟨by omega, rfl, ?_, ?_, rfl⟩ <;> dsimp only <;> omega
    · by_cases h9 : sp_lw s m p (k : Int) < sp_lm s m p k
      · have e1 := ew True ⟨fun _ => trivial, fun _ => Or.inr (by rw [hh, i3]; exact h9)⟩
        have e2 : sp_lm s m p (k + 1) = sp_lw s m p (k : Int) := by rw [sp_lm, if_pos (Or.inr h9)]
        rw [if_pos trivial] at e1
        rw [e1, e2, hh]
        refine ⟨by omega, rfl, ?_, ?_, rfl⟩ <;> dsimp only <;> omega
      · have e1 := ew False ⟨fun q => by rcases q with q | q; (· omega); (· rw [hh, i3] at q; exact h9 q), fun q => q.elim⟩
        have e2 : sp_lm s m p (k + 1) = sp_lm s m p k := by rw [sp_lm, if_neg (by omega)]
        rw [if_neg (fun q => q)] at e1
        rw [e1, e2]
        exact ⟨i2, i3, i4, by omega, i6⟩
theorem sp_fv_lm {s : Int → Int} {m p : Int} (hI : sp_I s) (hm : 0 ≤ m ∧ m < s 0) (hp : 0 ≤ p ∧ p < s 1) : sp_fv s m p = sp_lm s m p (s 1).toNat ∧ 0 ≤ sp_lm s m p (s 1).toNat := by
  have h := sp_lm_wz hI hm hp (s 1).toNat (by omega)
  have e1 : sp_fl s m p 8 1 = s 1 := by unfold sp_fl; rw [if_neg (by omega)]
  rcases h with ⟨h1, -⟩ | ⟨h1, h2, h3, h4, h5, h6⟩
  · omega
  · unfold sp_fv
    rw [show sp_worst (sp_fl s m p 8) (s 4) = (sp_wz (sp_fl s m p 8) (s 4) (s 1).toNat).1 from by unfold sp_worst; rw [e1]]
    exact ⟨h6, h2⟩
/-- the class's pair and what it has; nothing tried yet -/
def sp_cf (x : Int × Int) : Int × Int := if x.1 = -5 then (0, -1) else x
def sp_fi (x : Int × Int) : Prop := (x.1 = -5 ∧ x.2 = -5) ∨ (0 ≤ x.1 ∧ 0 ≤ x.2)
theorem sp_fB_i {s : Int → Int} {m : Int} {x : Int × Int} (hI : sp_I s) (hm : 0 ≤ m ∧ m < s 0) (hx : sp_fi x) : ∀ k : Nat, (k : Int) ≤ s 1 → sp_fi (sp_fB s m x k) ∧ (0 < k → (sp_fB s m x k).1 ≠ -5)
  | 0, _ => ⟨hx, fun h => absurd h (by omega)⟩
  | k + 1, hk => by
    obtain ⟨i1, i2⟩ := sp_fB_i hI hm hx k (by omega)
    have h := sp_fv_lm hI hm (p := (k : Int)) (by omega)
    rw [sp_fB]
    unfold sp_fi at i1
    split
    · refine ⟨Or.inr ⟨?_, ?_⟩, fun _ => ?_⟩ <;> dsimp only <;> omega
    · refine ⟨i1, fun _ => ?_⟩; omega
theorem sp_fA_i {s : Int → Int} (hI : sp_I s) : ∀ k : Nat, (k : Int) ≤ s 0 → sp_fi (sp_fA s k) ∧ (0 < k → 0 < s 1 → (sp_fA s k).1 ≠ -5)
  | 0, _ => ⟨Or.inl ⟨rfl, rfl⟩, fun h => absurd h (by omega)⟩
  | k + 1, hk => by
    obtain ⟨⟨h0, h1, -⟩, -⟩ := id hI
    have i1 := (sp_fA_i hI k (by omega)).1
    have h := sp_fB_i hI (m := (k : Int)) (by omega) i1 (s 1).toNat (by omega)
    rw [sp_fA]
    exact ⟨h.1, fun _ h3 => h.2 (by omega)⟩
theorem sp_fA_0 {s : Int → Int} (h : s 1 = 0) : ∀ k : Nat, sp_fA s k = (-5, -5)
  | 0 => rfl
  | k + 1 => by rw [sp_fA, sp_fA_0 h k, h]; rfl
theorem sp_cf_s {s : Int → Int} {m : Int} {x : Int × Int} {k : Nat} (hx : sp_fi (sp_fB s m x k)) (hv : 0 ≤ sp_fv s m (k : Int)) (hm : 0 ≤ m) : sp_cf (sp_fB s m x (k + 1)) = if (sp_cf (sp_fB s m x k)).2 < sp_fv s m (k : Int) then (10 * m + (k : Int), sp_fv s m (k : Int)) else sp_cf (sp_fB s m x k) := by
  unfold sp_fi at hx
  rw [sp_fB]
  unfold sp_cf
  rcases hx with ⟨h1, h2⟩ | ⟨h1, h2⟩
  · rw [if_pos h1, if_pos (show (sp_fB s m x k).2 < sp_fv s m (k : Int) by omega), if_pos (show ((0 : Int), (-1 : Int)).2 < sp_fv s m (k : Int) by dsimp only; omega)]
    by_cases h5 : 10 * m + (k : Int) = -5
    · omega
    · rw [if_neg h5]
  · have e0 : (if (sp_fB s m x k).1 = -5 then ((0 : Int), (-1 : Int)) else sp_fB s m x k) = sp_fB s m x k := if_neg (by omega)
    rw [e0]
    by_cases h3 : (sp_fB s m x k).2 < sp_fv s m (k : Int)
    · have e1 : (if (sp_fB s m x k).2 < sp_fv s m (k : Int) then (10 * m + (k : Int), sp_fv s m (k : Int)) else sp_fB s m x k) = (10 * m + (k : Int), sp_fv s m (k : Int)) := if_pos h3
      rw [e1]
      exact if_neg (show ¬ 10 * m + (k : Int) = -5 by omega)
    · have e1 : (if (sp_fB s m x k).2 < sp_fv s m (k : Int) then (10 * m + (k : Int), sp_fv s m (k : Int)) else sp_fB s m x k) = sp_fB s m x k := if_neg h3
      rw [e1]
      exact if_neg (by omega)
/-- the rows of planned and always -/
def rc_cl (s : Int → Int) (c : rm_R) (k kp : Nat) : Prop := ∀ g p : Int, 0 ≤ g → 0 ≤ p → p < s 1 → (g < (k : Int) ∨ g = (k : Int) ∧ p < (kp : Int)) → c (77 + g.toNat) p = sp_lo1 s p g ∧ c (84 + g.toNat) p = sp_al s g p
theorem rc_cl.up {s : Int → Int} {c : rm_R} {k kp : Nat} {w1 w2 : Int} (h : rc_cl s c k kp) (hk : k < 6) (h1 : w1 = sp_al s k kp) (h2 : w2 = sp_lo1 s kp k) : rc_cl s (rm_u (rm_u c (84 + (k : Int).toNat) (rj_up (c (84 + (k : Int).toNat)) (kp : Int) w1)) (77 + (k : Int).toNat) (rj_up ((rm_u c (84 + (k : Int).toNat) (rj_up (c (84 + (k : Int).toNat)) (kp : Int) w1)) (77 + (k : Int).toNat)) (kp : Int) w2)) k (kp + 1) := by
  subst h1; subst h2
  intro g p g0 p0 p1 hh
  by_cases hg : g = (k : Int)
  · subst hg
    rw [rm_u_eq, rm_u_ne _ _ (show 77 + (k : Int).toNat ≠ 84 + (k : Int).toNat by omega), rm_u_ne _ _ (show 84 + (k : Int).toNat ≠ 77 + (k : Int).toNat by omega), rm_u_eq]
    by_cases hp : p = (kp : Int)
    · subst hp; rw [rj_up_eq, rj_up_eq]; exact ⟨rfl, rfl⟩
    · rw [rj_up_ne _ _ hp, rj_up_ne _ _ hp]; exact h _ p (by omega) p0 p1 (Or.inr ⟨rfl, by omega⟩)
  · rw [rm_u_ne _ _ (by omega), rm_u_ne _ _ (by omega), rm_u_ne _ _ (by omega), rm_u_ne _ _ (by omega)]
    exact h g p g0 p0 p1 (by omega)
theorem rc_cl.next {s : Int → Int} {c : rm_R} {k kp : Nat} (h : rc_cl s c k kp) (hk : s 1 ≤ (kp : Int)) : rc_cl s c (k + 1) 0 := fun g p g0 p0 p1 hh => h g p g0 p0 p1 (by omega)
theorem rc_cl.t {s : Int → Int} {c c' : rm_R} {k kp : Nat} (h : rc_cl s c k kp) (hk : k ≤ 6) (ht : rc_t 92 c c') (hs : (k : Int) < 6 ∨ kp = 0) : rc_cl s c' k kp := fun g p g0 p0 p1 hh => by rw [ht _ (by omega), ht _ (by omega)]; exact h g p g0 p0 p1 hh
set_option maxRecDepth 20000 in
set_option maxHeartbeats 2000000 in
/-- x_countLight -/
theorem x_countLight {X9 : rj_X} {σ : rj_H} {d cb vv vk : Nat} {c : rm_R} (hd : 5 ≤ d) {s : Int → Int} {ad : Nat → Int → Nat} (hR : rc_R X9 cb vv vk c σ s ad) (hI : sp_I s) : rj_Cl X9 d yX11_countLight cX11_countLight 5 none [.ref cb] (rc_p X9 cb vv vk c σ) (fun w9 τ => w9 = none ∧ ∃ c0, rc_t 65 c c0 ∧ rc_cl s c0 (s 0).toNat 0 ∧ τ = rc_p X9 cb vv vk c0 σ) := by
  obtain ⟨⟨h0, h1, h2, h3, h4, h5, h6, h7⟩, hM, hP, hW, hL, hV⟩ := id hI
  obtain ⟨v1, v2, v3, v4⟩ := id hV
  refine go_call (by decide +kernel) (Nat.le_of_ble_eq_true rfl) ?_
  refine go_eq (pc' := 0) (lv' := [(0, .ref cb)]) (st' := []) rfl rfl rfl rfl ?_
  refine go_iconst (v := Int32.ofInt 0) dX11_countLight_0 rfl ?_
  refine go_istore_nS (lv' := [(0, .ref cb), (1, rj_i 0)]) rfl (by decide) rfl dX11_countLight_1 ?_
  have loop : ∀ (n2 k : Nat) (cl : rm_R), k + n2 = (s 0).toNat → rc_t 65 c cl → rc_cl s cl k 0 → rj_Go X9 yX11_countLight cX11_countLight 5 none d (fun w9 τ => w9 = none ∧ ∃ c0, rc_t 65 c c0 ∧ rc_cl s c0 (s 0).toNat 0 ∧ τ = rc_p X9 cb vv vk c0 σ) 2 [(0, .ref cb), (1, rj_i (k : Int))] [] (rc_p X9 cb vv vk cl σ) := by
    intro n2
    induction n2 with
    | zero =>
      intro k cl hk hl hC
      refine go_iload_n dX11_countLight_2 rfl 1 rfl ?_
      refine go_aload_n dX11_countLight_3 rfl 0 rfl ?_
      refine rc_gx (hR.t hl).V (k := 0) (by decide) fX11_12 rfl dX11_countLight_4 ?_
      refine rc_gs (hR.t hl).V (k := 1) (v := rj_i (s 0)) (by decide) fX11_60 (rj_vi (hR.t hl).n0) dX11_countLight_7 ?_
      refine go_icmp_geI (tgt := 112) (by omega) (by omega) dX11_countLight_10 (by decide) (fun c_10 => ?_) (fun c_10 => ?_)
      · refine go_retV rfl ?_ dX11_countLight_112
        exact ⟨rfl, cl, hl, (show k = (s 0).toNat by omega) ▸ hC, rfl⟩
      · exact absurd c_10 (by omega)
    | succ n2 ih =>
      intro k cl hk hl hC
      refine go_iload_n dX11_countLight_2 rfl 1 rfl ?_
      refine go_aload_n dX11_countLight_3 rfl 0 rfl ?_
      refine rc_gx (hR.t hl).V (k := 0) (by decide) fX11_12 rfl dX11_countLight_4 ?_
      refine rc_gs (hR.t hl).V (k := 1) (v := rj_i (s 0)) (by decide) fX11_60 (rj_vi (hR.t hl).n0) dX11_countLight_7 ?_
      refine go_icmp_geI (tgt := 112) (by omega) (by omega) dX11_countLight_10 (by decide) (fun c_10 => ?_) (fun c_10 => ?_)
      · exact absurd c_10 (by omega)
      · refine go_aload_n dX11_countLight_13 rfl 0 rfl ?_
        refine rc_gx (hR.t hl).V (k := 0) (by decide) fX11_12 rfl dX11_countLight_14 ?_
        refine rc_gs (hR.t hl).V (k := 0) (v := .ref (cb + 2)) (by decide) fX11_64 rfl dX11_countLight_17 ?_
        refine go_iload_n dX11_countLight_20 rfl 1 rfl ?_
        refine rc_em (hR.t hl) (m := (k : Int)) (by omega) (by omega) h0 dX11_countLight_21 ?_
        refine go_astore_nS (lv' := [(0, .ref cb), (1, rj_i (k : Int)), (2, .ref (ad 0 (k : Int)))]) rfl (by decide) rfl dX11_countLight_22 ?_
        refine go_iconst (v := Int32.ofInt 0) dX11_countLight_23 rfl ?_
        refine go_istore_nS (lv' := [(0, .ref cb), (1, rj_i (k : Int)), (2, .ref (ad 0 (k : Int))), (3, rj_i 0)]) rfl (by decide) rfl dX11_countLight_24 ?_
        have loopi : ∀ (n2i ki : Nat) (cli : rm_R), ki + n2i = (s 1).toNat → rc_t 65 c cli → rc_cl s cli k ki → rj_Go X9 yX11_countLight cX11_countLight 5 none d (fun w9 τ => w9 = none ∧ ∃ c0, rc_t 65 c c0 ∧ rc_cl s c0 (s 0).toNat 0 ∧ τ = rc_p X9 cb vv vk c0 σ) 25 [(0, .ref cb), (1, rj_i (k : Int)), (2, .ref (ad 0 (k : Int))), (3, rj_i (ki : Int))] [] (rc_p X9 cb vv vk cli σ) := by
          intro n2i
          induction n2i with
          | zero =>
            intro ki cli hki hli hCi
            refine go_iload_n dX11_countLight_25 rfl 3 rfl ?_
            refine go_aload_n dX11_countLight_26 rfl 0 rfl ?_
            refine rc_gx (hR.t hli).V (k := 0) (by decide) fX11_12 rfl dX11_countLight_27 ?_
            refine rc_gs (hR.t hli).V (k := 3) (v := rj_i (s 1)) (by decide) fX11_76 (rj_vi (hR.t hli).n1) dX11_countLight_30 ?_
            refine go_icmp_geI (tgt := 106) (by omega) (by omega) dX11_countLight_33 (by decide) (fun c_33 => ?_) (fun c_33 => ?_)
            · refine go_iincI (a := (k : Int)) (n := 1) (k0 := 1) (lv' := [(0, .ref cb), (1, rj_i ((k : Int) + 1)), (2, .ref (ad 0 (k : Int))), (3, rj_i (ki : Int))]) rfl (by decide) rfl dX11_countLight_106 ?_
              refine go_goto (tgt := 2) dX11_countLight_109 (by decide) ?_
              refine go_sub (lv' := [(0, .ref cb), (1, rj_i ((k : Int) + 1))]) (by intro q hq; simp only [List.mem_cons, List.not_mem_nil, or_false] at hq ⊢; rcases hq with rfl | rfl <;> simp) ?_
              exact go_eq rfl (lv' := [(0, .ref cb), (1, rj_i ((k + 1 : Nat) : Int))]) (rj_lk (rj_lj (by omega) rfl)) rfl rfl (ih (k + 1) cli (by omega) hli (hCi.next (by omega)))
            · exact absurd c_33 (by omega)
          | succ n2i ihi =>
            intro ki cli hki hli hCi
            refine go_iload_n dX11_countLight_25 rfl 3 rfl ?_
            refine go_aload_n dX11_countLight_26 rfl 0 rfl ?_
            refine rc_gx (hR.t hli).V (k := 0) (by decide) fX11_12 rfl dX11_countLight_27 ?_
            refine rc_gs (hR.t hli).V (k := 3) (v := rj_i (s 1)) (by decide) fX11_76 (rj_vi (hR.t hli).n1) dX11_countLight_30 ?_
            refine go_icmp_geI (tgt := 106) (by omega) (by omega) dX11_countLight_33 (by decide) (fun c_33 => ?_) (fun c_33 => ?_)
            · exact absurd c_33 (by omega)
            · refine go_aload_n dX11_countLight_36 rfl 0 rfl ?_
              refine rc_gx (hR.t hli).V (k := 0) (by decide) fX11_12 rfl dX11_countLight_37 ?_
              refine go_aload_n dX11_countLight_40 rfl 2 rfl ?_
              refine go_iload_n dX11_countLight_41 rfl 3 rfl ?_
              refine go_aload_n dX11_countLight_42 rfl 0 rfl ?_
              refine rc_gx (hR.t hli).V (k := 0) (by decide) fX11_12 rfl dX11_countLight_43 ?_
              refine rc_gs (hR.t hli).V (k := 11) (v := rj_i (s 4)) (by decide) fX11_136 (rj_vi (hR.t hli).n4) dX11_countLight_46 ?_
              refine go_callV (d1 := d - 1) wVX11_139 kX5 (rc_a1 (hR.t hli).V) rfl (by omega) (x_can (m := (k : Int)) (p := (ki : Int)) (D := s 4) (by omega) (hR.t hli) hI (by omega) (by omega) (by omega)) rfl (Nat.le_of_ble_eq_true rfl) dX11_countLight_49 (fun w σ1 hP9 => ?_)
              obtain ⟨rfl, c61, hc61, rfl⟩ := hP9
              have hr61 : rc_t 65 c c61 := hli.tr (hc61.le (by decide))
              refine go_istoreS (lv' := [(0, .ref cb), (1, rj_i (k : Int)), (2, .ref (ad 0 (k : Int))), (3, rj_i (ki : Int)), (4, rj_i (sp_bits (fun q7 => sp_can s (s 4) (k : Int) (ki : Int) q7) 8))]) (by decide) rfl dX11_countLight_52 ?_
              refine go_aload_n dX11_countLight_54 rfl 0 rfl ?_
              refine rc_gx (hR.t hr61).V (k := 7) (by decide) fX11_44 rfl dX11_countLight_55 ?_
              refine go_iload_n dX11_countLight_58 rfl 1 rfl ?_
              refine rc_r84 (hR.t hr61).V (z := (k : Int)) (by omega) (by omega) dX11_countLight_59 ?_
              refine go_iload_n dX11_countLight_60 rfl 3 rfl ?_
              refine go_iload dX11_countLight_61 4 rfl ?_
              refine go_callS (d1 := d - 1) wSX11_186 rfl (by omega) (j_bit (fun q7 => sp_can s (s 4) (k : Int) (ki : Int) q7)) rfl (Nat.le_of_ble_eq_true rfl) dX11_countLight_63 (fun w σ1 hP9 => ?_)
              obtain ⟨rfl, rfl⟩ := hP9
              refine go_aload_n dX11_countLight_66 rfl 2 rfl ?_
              refine rv_lightC (m := (k : Int)) (hR.mir (k : Int) (by omega) (by omega)).2 (hM (k : Int) (by omega) (by omega)).1 (by omega) (Nat.le_of_ble_eq_true rfl) dX11_countLight_67 ?_
              refine go_mulI dX11_countLight_70 ?_
              refine rc_s84 (hR.t hr61).V (i := (k : Int)) (by omega) (by omega) (by omega) (by omega) dX11_countLight_71 ?_
              refine go_aload_n dX11_countLight_72 rfl 0 rfl ?_
              refine rc_gx (hR.t hr61).V (k := 6) (by decide) fX11_41 rfl dX11_countLight_73 ?_
              refine go_iload_n dX11_countLight_76 rfl 1 rfl ?_
              refine rc_r77 (hR.t hr61).V (z := (k : Int)) (by omega) (by omega) dX11_countLight_77 ?_
              refine go_iload_n dX11_countLight_78 rfl 3 rfl ?_
              refine go_iload dX11_countLight_79 4 rfl ?_
              refine go_aload_n dX11_countLight_81 rfl 0 rfl ?_
              refine rc_gx (hR.t hr61).V (k := 0) (by decide) fX11_12 rfl dX11_countLight_82 ?_
              refine go_iload_n dX11_countLight_85 rfl 1 rfl ?_
              refine go_iload_n dX11_countLight_86 rfl 3 rfl ?_
              refine go_callV (d1 := d - 1) wVX11_341 kX5 (rc_a1 (hR.t hr61).V) rfl (by omega) (x_planQ (m := (k : Int)) (p := (ki : Int)) ((hR.t hr61).t (rc_t.u (k := (84 + (k : Int).toNat)) (by omega))) hI (by omega) (by omega)) rfl (Nat.le_of_ble_eq_true rfl) dX11_countLight_87 (fun w σ1 hP9 => ?_)
              obtain ⟨rfl, rfl⟩ := hP9
              refine go_andM (fun q7 => sp_can s (s 4) (k : Int) (ki : Int) q7) (fun q7 => decide (s (236 + 8 * (k : Int) + q7) = (ki : Int))) 8 dX11_countLight_90 ?_
              refine go_callS (d1 := d - 1) wSX11_186 rfl (by omega) (j_bit (fun q8 => (fun q7 => sp_can s (s 4) (k : Int) (ki : Int) q7) q8 && (fun q7 => decide (s (236 + 8 * (k : Int) + q7) = (ki : Int))) q8)) rfl (Nat.le_of_ble_eq_true rfl) dX11_countLight_91 (fun w σ1 hP9 => ?_)
              obtain ⟨rfl, rfl⟩ := hP9
              refine go_aload_n dX11_countLight_94 rfl 2 rfl ?_
              refine rv_lightC (m := (k : Int)) (hR.mir (k : Int) (by omega) (by omega)).2 (hM (k : Int) (by omega) (by omega)).1 (by omega) (Nat.le_of_ble_eq_true rfl) dX11_countLight_95 ?_
              refine go_mulI dX11_countLight_98 ?_
              refine rc_s77 (hR.t hr61).V (i := (k : Int)) (by omega) (by omega) (by omega) (by omega) dX11_countLight_99 ?_
              refine go_iincI (a := (ki : Int)) (n := 1) (k0 := 3) (lv' := [(0, .ref cb), (1, rj_i (k : Int)), (2, .ref (ad 0 (k : Int))), (3, rj_i ((ki : Int) + 1)), (4, rj_i (sp_bits (fun q7 => sp_can s (s 4) (k : Int) (ki : Int) q7) 8))]) rfl (by decide) rfl dX11_countLight_100 ?_
              refine go_goto (tgt := 25) dX11_countLight_103 (by decide) ?_
              refine go_sub (lv' := [(0, .ref cb), (1, rj_i (k : Int)), (2, .ref (ad 0 (k : Int))), (3, rj_i ((ki : Int) + 1))]) (by intro q hq; simp only [List.mem_cons, List.not_mem_nil, or_false] at hq ⊢; rcases hq with rfl | rfl | rfl | rfl <;> simp) ?_
              exact go_eq rfl (lv' := [(0, .ref cb), (1, rj_i (k : Int)), (2, .ref (ad 0 (k : Int))), (3, rj_i ((ki + 1 : Nat) : Int))]) (rj_lk (rj_lk (rj_lk (rj_lj (by omega) rfl)))) rfl rfl (ihi (ki + 1) (rm_u (rm_u c61 (84 + (k : Int).toNat) (rj_up (c61 (84 + (k : Int).toNat)) (ki : Int) ((sp_sum (fun q8 => rj_b ((fun q7 => sp_can s (s 4) (k : Int) (ki : Int) q7) q8 = true)) 8) * (sp_light s (k : Int))))) (77 + (k : Int).toNat) (rj_up ((rm_u c61 (84 + (k : Int).toNat) (rj_up (c61 (84 + (k : Int).toNat)) (ki : Int) ((sp_sum (fun q8 => rj_b ((fun q7 => sp_can s (s 4) (k : Int) (ki : Int) q7) q8 = true)) 8) * (sp_light s (k : Int))))) (77 + (k : Int).toNat)) (ki : Int) ((sp_sum (fun q8 => rj_b ((fun q8 => (fun q7 => sp_can s (s 4) (k : Int) (ki : Int) q7) q8 && (fun q7 => decide (s (236 + 8 * (k : Int) + q7) = (ki : Int))) q8) q8 = true)) 8) * (sp_light s (k : Int))))) (by omega) ((hr61.tr (rc_t.u (by omega))).tr (rc_t.u (by omega))) ((hCi.t (by omega) hc61 (by omega)).up (by omega) rfl (by show sp_sum _ 8 * _ = sp_lo1 s (ki : Int) (k : Int); unfold sp_lo1; congr 1; exact sp_sum_ext 8 (fun q a b => by show rj_b ((_ && _) = true) = rj_b (sp_thr s (s 4) (k : Int) (ki : Int) q = true); unfold sp_thr; rw [Bool.and_comm]))))
        exact go_eq rfl (lv' := [(0, .ref cb), (1, rj_i (k : Int)), (2, .ref (ad 0 (k : Int))), (3, rj_i ((0 : Nat) : Int))]) (rj_lk (rj_lk (rj_lk (rj_lj (rfl) rfl)))) rfl rfl (loopi (s 1).toNat 0 cl (by omega) hl hC)
  exact go_eq rfl (lv' := [(0, .ref cb), (1, rj_i ((0 : Nat) : Int))]) (rj_lk (rj_lj (rfl) rfl)) rfl rfl (loop (s 0).toNat 0 c (by omega) rc_t.rf (fun g p a b c d => by omega))
theorem sp_sm_ne {f : Int → Int} {m : Int} {n : Nat} (h : (n : Int) ≠ m) : sp_sum (fun g => if g = m then 0 else f g) (n + 1) = sp_sum (fun g => if g = m then 0 else f g) n + f (n : Int) := by rw [sp_sum, if_neg h]
theorem sp_sm_eq {f : Int → Int} {m : Int} {n : Nat} (h : (n : Int) = m) : sp_sum (fun g => if g = m then 0 else f g) (n + 1) = sp_sum (fun g => if g = m then 0 else f g) n := by rw [sp_sum, if_pos h, Int.add_zero]
theorem sp_lw_b {s : Int → Int} {m p o : Int} (hI : sp_I s) (hm : 0 ≤ m ∧ m < s 0) (hp : 0 ≤ p ∧ p < s 1) (ho : 0 ≤ o ∧ o < s 1) : 0 ≤ sp_lw s m p o ∧ sp_lw s m p o ≤ 864 := by
  have hf := sp_I_fl hI (m := m) (p := p) (by obtain ⟨⟨h0, -⟩, -⟩ := hI; omega) (by omega)
  obtain ⟨⟨g0, -⟩, hM2, -⟩ := hf
  have hb := sp_has_b (s := sp_fl s m p 8) (D := s 4) (p := o) g0 hM2
  rw [sp_has_fl hI hm hp ho] at hb
  exact hb
theorem sp_lm_b {s : Int → Int} {m p : Int} (hI : sp_I s) (hm : 0 ≤ m ∧ m < s 0) (hp : 0 ≤ p ∧ p < s 1) : ∀ k : Nat, (k : Int) ≤ s 1 → -1 ≤ sp_lm s m p k ∧ sp_lm s m p k ≤ 864
  | 0, _ => by simp [sp_lm]
  | k + 1, hk => by
    have h1 := sp_lm_b hI hm hp k (by omega)
    have h2 := sp_lw_b hI hm hp (o := (k : Int)) (by omega)
    rw [sp_lm]; split <;> omega
set_option maxRecDepth 20000 in
set_option maxHeartbeats 2000000 in
/-- x_least -/
theorem x_least {X9 : rj_X} {σ : rj_H} {d cb vv vk : Nat} {c : rm_R} {m p : Int} (hd : 1 ≤ d) {s : Int → Int} {ad : Nat → Int → Nat} (hR : rc_R X9 cb vv vk c σ s ad) (hI : sp_I s) (hm : 0 ≤ m ∧ m < s 0) (hp : 0 ≤ p ∧ p < s 1) (hcl : rc_cl s c (s 0).toNat 0) : rj_Cl X9 d yX11_leastIfAlways cX11_leastIfAlways 7 (some .int) [.ref cb, rj_i m, rj_i p] (rc_p X9 cb vv vk c σ) (fun w9 τ => w9 = some (rj_i (sp_lm s m p (s 1).toNat)) ∧ τ = rc_p X9 cb vv vk c σ) := by
  obtain ⟨⟨h0, h1, h2, h3, h4, h5, h6, h7⟩, hM, hP, hW, hL, hV⟩ := id hI
  obtain ⟨v1, v2, v3, v4⟩ := id hV
  have hlwb := fun (o : Int) (a : 0 ≤ o) (b : o < s 1) => sp_lw_b hI hm hp (o := o) ⟨a, b⟩
  have hlmb := sp_lm_b hI hm hp
  refine go_call (by decide +kernel) (Nat.le_of_ble_eq_true rfl) ?_
  refine go_eq (pc' := 0) (lv' := [(0, .ref cb), (1, rj_i m), (2, rj_i p)]) (st' := []) rfl rfl rfl rfl ?_
  refine go_iconst (v := Int32.ofInt (-1)) dX11_leastIfAlways_0 rfl ?_
  refine go_istore_nS (lv' := [(0, .ref cb), (1, rj_i m), (2, rj_i p), (3, rj_i (-1))]) rfl (by decide) rfl dX11_leastIfAlways_1 ?_
  refine go_iconst (v := Int32.ofInt 0) dX11_leastIfAlways_2 rfl ?_
  refine go_istoreS (lv' := [(0, .ref cb), (1, rj_i m), (2, rj_i p), (3, rj_i (-1)), (4, rj_i 0)]) (by decide) rfl dX11_leastIfAlways_3 ?_
  have loopo : ∀ (no : Nat) (k : Nat), k + no = (s 1).toNat → rj_Go X9 yX11_leastIfAlways cX11_leastIfAlways 7 (some .int) d (fun w9 τ => w9 = some (rj_i (sp_lm s m p (s 1).toNat)) ∧ τ = rc_p X9 cb vv vk c σ) 5 [(0, .ref cb), (1, rj_i m), (2, rj_i p), (3, rj_i (sp_lm s m p k)), (4, rj_i (k : Int))] [] (rc_p X9 cb vv vk c σ) := by
    intro no
    induction no with
    | zero =>
      intro k hk
      refine go_iload dX11_leastIfAlways_5 4 rfl ?_
      refine go_aload_n dX11_leastIfAlways_7 rfl 0 rfl ?_
      refine rc_gx hR.V (k := 0) (by decide) fX11_12 rfl dX11_leastIfAlways_8 ?_
      refine rc_gs hR.V (k := 3) (v := rj_i (s 1)) (by decide) fX11_76 (rj_vi hR.n1) dX11_leastIfAlways_11 ?_
      refine go_icmp_geI (tgt := 98) (by omega) (by omega) dX11_leastIfAlways_14 (by decide) (fun c_14 => ?_) (fun c_14 => ?_)
      · refine go_iload_n dX11_leastIfAlways_98 rfl 3 rfl ?_
        refine go_retI rfl rfl ?_ dX11_leastIfAlways_99
        exact ⟨rj_vi (by rw [show (s 1).toNat = k by omega]), rfl⟩
      · exact absurd c_14 (by omega)
    | succ no iho =>
      intro k hk
      have lwb := hlwb (k : Int) (by omega) (by omega)
      have lmb := hlmb k (by omega)
      refine go_iload dX11_leastIfAlways_5 4 rfl ?_
      refine go_aload_n dX11_leastIfAlways_7 rfl 0 rfl ?_
      refine rc_gx hR.V (k := 0) (by decide) fX11_12 rfl dX11_leastIfAlways_8 ?_
      refine rc_gs hR.V (k := 3) (v := rj_i (s 1)) (by decide) fX11_76 (rj_vi hR.n1) dX11_leastIfAlways_11 ?_
      refine go_icmp_geI (tgt := 98) (by omega) (by omega) dX11_leastIfAlways_14 (by decide) (fun c_14 => ?_) (fun c_14 => ?_)
      · exact absurd c_14 (by omega)
      · refine go_iload dX11_leastIfAlways_17 4 rfl ?_
        refine go_iload_n dX11_leastIfAlways_19 rfl 2 rfl ?_
        refine go_icmp_neI (tgt := 34) (by omega) (by omega) dX11_leastIfAlways_20 (by decide) (fun c_20 => ?_) (fun c_20 => ?_)
        · refine go_iconst (v := Int32.ofInt 0) dX11_leastIfAlways_34 rfl ?_
          refine go_istoreS (lv' := [(0, .ref cb), (1, rj_i m), (2, rj_i p), (3, rj_i (sp_lm s m p k)), (4, rj_i (k : Int)), (5, rj_i 0)]) (by decide) rfl dX11_leastIfAlways_35 ?_
          have hx5 : 0 = (if (k : Int) = p then sp_al s m p else 0) := by rw [if_neg (by omega)]
          rw [hx5]
          refine go_iconst (v := Int32.ofInt 0) dX11_leastIfAlways_37 rfl ?_
          refine go_istoreS (lv' := [(0, .ref cb), (1, rj_i m), (2, rj_i p), (3, rj_i (sp_lm s m p k)), (4, rj_i (k : Int)), (5, rj_i (if (k : Int) = p then sp_al s m p else 0)), (6, rj_i 0)]) (by decide) rfl dX11_leastIfAlways_38 ?_
          have loopg : ∀ (ng : Nat) (kg : Nat), kg + ng = (s 0).toNat → rj_Go X9 yX11_leastIfAlways cX11_leastIfAlways 7 (some .int) d (fun w9 τ => w9 = some (rj_i (sp_lm s m p (s 1).toNat)) ∧ τ = rc_p X9 cb vv vk c σ) 40 [(0, .ref cb), (1, rj_i m), (2, rj_i p), (3, rj_i (sp_lm s m p k)), (4, rj_i (k : Int)), (5, rj_i ((if (k : Int) = p then sp_al s m p else 0) + sp_sum (fun g => if g = m then 0 else sp_lo1 s (k : Int) g) kg)), (6, rj_i (kg : Int))] [] (rc_p X9 cb vv vk c σ) := by
            intro ng
            induction ng with
            | zero =>
              intro kg hkg
              refine go_iload dX11_leastIfAlways_40 6 rfl ?_
              refine go_aload_n dX11_leastIfAlways_42 rfl 0 rfl ?_
              refine rc_gx hR.V (k := 0) (by decide) fX11_12 rfl dX11_leastIfAlways_43 ?_
              refine rc_gs hR.V (k := 1) (v := rj_i (s 0)) (by decide) fX11_60 (rj_vi hR.n0) dX11_leastIfAlways_46 ?_
              refine go_icmp_geI (tgt := 79) (by omega) (by omega) dX11_leastIfAlways_49 (by decide) (fun c_49 => ?_) (fun c_49 => ?_)
              · have elw : (if (k : Int) = p then sp_al s m p else 0) + sp_sum (fun g => if g = m then 0 else sp_lo1 s (k : Int) g) kg = sp_lw s m p k := by unfold sp_lw; rw [show (s 0).toNat = kg by omega]
                rw [elw]
                refine go_iload_n dX11_leastIfAlways_79 rfl 3 rfl ?_
                refine go_if_ltI (tgt := 89) (by omega) dX11_leastIfAlways_80 (by decide) (fun c_80 => ?_) (fun c_80 => ?_)
                · refine go_iload dX11_leastIfAlways_89 5 rfl ?_
                  refine go_istore_nS (lv' := [(0, .ref cb), (1, rj_i m), (2, rj_i p), (3, rj_i (sp_lw s m p (k : Int))), (4, rj_i (k : Int)), (5, rj_i (sp_lw s m p (k : Int))), (6, rj_i (kg : Int))]) rfl (by decide) rfl dX11_leastIfAlways_91 ?_
                  refine go_iincI (a := (k : Int)) (n := 1) (k0 := 4) (lv' := [(0, .ref cb), (1, rj_i m), (2, rj_i p), (3, rj_i (sp_lw s m p (k : Int))), (4, rj_i ((k : Int) + 1)), (5, rj_i (sp_lw s m p (k : Int))), (6, rj_i (kg : Int))]) rfl (by decide) rfl dX11_leastIfAlways_92 ?_
                  refine go_goto (tgt := 5) dX11_leastIfAlways_95 (by decide) ?_
                  refine go_sub (lv' := [(0, .ref cb), (1, rj_i m), (2, rj_i p), (3, rj_i (sp_lw s m p (k : Int))), (4, rj_i ((k : Int) + 1))]) (by intro q hq; simp only [List.mem_cons, List.not_mem_nil, or_false] at hq ⊢; rcases hq with rfl | rfl | rfl | rfl | rfl <;> simp) ?_
                  exact go_eq rfl (lv' := [(0, .ref cb), (1, rj_i m), (2, rj_i p), (3, rj_i (sp_lm s m p (k + 1))), (4, rj_i ((k + 1 : Nat) : Int))]) (rj_lk (rj_lk (rj_lk (rj_lj (by rw [sp_lm, if_pos (by omega)]) (rj_lj (by omega) rfl))))) rfl rfl (iho (k + 1) (by omega))
                · refine go_iload dX11_leastIfAlways_83 5 rfl ?_
                  refine go_iload_n dX11_leastIfAlways_85 rfl 3 rfl ?_
                  refine go_icmp_geI (tgt := 92) (by omega) (by omega) dX11_leastIfAlways_86 (by decide) (fun c_86 => ?_) (fun c_86 => ?_)
                  · refine go_iincI (a := (k : Int)) (n := 1) (k0 := 4) (lv' := [(0, .ref cb), (1, rj_i m), (2, rj_i p), (3, rj_i (sp_lm s m p k)), (4, rj_i ((k : Int) + 1)), (5, rj_i (sp_lw s m p (k : Int))), (6, rj_i (kg : Int))]) rfl (by decide) rfl dX11_leastIfAlways_92 ?_
                    refine go_goto (tgt := 5) dX11_leastIfAlways_95 (by decide) ?_
                    refine go_sub (lv' := [(0, .ref cb), (1, rj_i m), (2, rj_i p), (3, rj_i (sp_lm s m p k)), (4, rj_i ((k : Int) + 1))]) (by intro q hq; simp only [List.mem_cons, List.not_mem_nil, or_false] at hq ⊢; rcases hq with rfl | rfl | rfl | rfl | rfl <;> simp) ?_
                    exact go_eq rfl (lv' := [(0, .ref cb), (1, rj_i m), (2, rj_i p), (3, rj_i (sp_lm s m p (k + 1))), (4, rj_i ((k + 1 : Nat) : Int))]) (rj_lk (rj_lk (rj_lk (rj_lj (by rw [sp_lm, if_neg (by omega)]) (rj_lj (by omega) rfl))))) rfl rfl (iho (k + 1) (by omega))
                  · refine go_iload dX11_leastIfAlways_89 5 rfl ?_
                    refine go_istore_nS (lv' := [(0, .ref cb), (1, rj_i m), (2, rj_i p), (3, rj_i (sp_lw s m p (k : Int))), (4, rj_i (k : Int)), (5, rj_i (sp_lw s m p (k : Int))), (6, rj_i (kg : Int))]) rfl (by decide) rfl dX11_leastIfAlways_91 ?_
                    refine go_iincI (a := (k : Int)) (n := 1) (k0 := 4) (lv' := [(0, .ref cb), (1, rj_i m), (2, rj_i p), (3, rj_i (sp_lw s m p (k : Int))), (4, rj_i ((k : Int) + 1)), (5, rj_i (sp_lw s m p (k : Int))), (6, rj_i (kg : Int))]) rfl (by decide) rfl dX11_leastIfAlways_92 ?_
                    refine go_goto (tgt := 5) dX11_leastIfAlways_95 (by decide) ?_
                    refine go_sub (lv' := [(0, .ref cb), (1, rj_i m), (2, rj_i p), (3, rj_i (sp_lw s m p (k : Int))), (4, rj_i ((k : Int) + 1))]) (by intro q hq; simp only [List.mem_cons, List.not_mem_nil, or_false] at hq ⊢; rcases hq with rfl | rfl | rfl | rfl | rfl <;> simp) ?_
                    exact go_eq rfl (lv' := [(0, .ref cb), (1, rj_i m), (2, rj_i p), (3, rj_i (sp_lm s m p (k + 1))), (4, rj_i ((k + 1 : Nat) : Int))]) (rj_lk (rj_lk (rj_lk (rj_lj (by rw [sp_lm, if_pos (by omega)]) (rj_lj (by omega) rfl))))) rfl rfl (iho (k + 1) (by omega))
              · exact absurd c_49 (by omega)
            | succ ng ihg =>
              intro kg hkg
              refine go_iload dX11_leastIfAlways_40 6 rfl ?_
              refine go_aload_n dX11_leastIfAlways_42 rfl 0 rfl ?_
              refine rc_gx hR.V (k := 0) (by decide) fX11_12 rfl dX11_leastIfAlways_43 ?_
              refine rc_gs hR.V (k := 1) (v := rj_i (s 0)) (by decide) fX11_60 (rj_vi hR.n0) dX11_leastIfAlways_46 ?_
              refine go_icmp_geI (tgt := 79) (by omega) (by omega) dX11_leastIfAlways_49 (by decide) (fun c_49 => ?_) (fun c_49 => ?_)
              · exact absurd c_49 (by omega)
              · refine go_iload dX11_leastIfAlways_52 6 rfl ?_
                refine go_iload_n dX11_leastIfAlways_54 rfl 1 rfl ?_
                refine go_icmp_eqI (tgt := 73) (by omega) (by omega) dX11_leastIfAlways_55 (by decide) (fun c_55 => ?_) (fun c_55 => ?_)
                · refine go_iincI (a := (kg : Int)) (n := 1) (k0 := 6) (lv' := [(0, .ref cb), (1, rj_i m), (2, rj_i p), (3, rj_i (sp_lm s m p k)), (4, rj_i (k : Int)), (5, rj_i ((if (k : Int) = p then sp_al s m p else 0) + sp_sum (fun g => if g = m then 0 else sp_lo1 s (k : Int) g) kg)), (6, rj_i ((kg : Int) + 1))]) rfl (by decide) rfl dX11_leastIfAlways_73 ?_
                  refine go_goto (tgt := 40) dX11_leastIfAlways_76 (by decide) ?_
                  exact go_eq rfl (lv' := [(0, .ref cb), (1, rj_i m), (2, rj_i p), (3, rj_i (sp_lm s m p k)), (4, rj_i (k : Int)), (5, rj_i ((if (k : Int) = p then sp_al s m p else 0) + sp_sum (fun g => if g = m then 0 else sp_lo1 s (k : Int) g) (kg + 1))), (6, rj_i ((kg + 1 : Nat) : Int))]) (rj_lk (rj_lk (rj_lk (rj_lk (rj_lk (rj_lj (by rw [sp_sm_eq (by omega)]) (rj_lj (by omega) rfl))))))) rfl rfl (ihg (kg + 1) (by omega))
                · refine go_iload dX11_leastIfAlways_58 5 rfl ?_
                  refine go_aload_n dX11_leastIfAlways_60 rfl 0 rfl ?_
                  refine rc_gx hR.V (k := 6) (by decide) fX11_41 rfl dX11_leastIfAlways_61 ?_
                  refine go_iload dX11_leastIfAlways_64 6 rfl ?_
                  refine rc_r77 hR.V (z := (kg : Int)) (by omega) (by omega) dX11_leastIfAlways_66 ?_
                  refine go_iload dX11_leastIfAlways_67 4 rfl ?_
                  refine rc_l77 hR.V (i := (kg : Int)) (by omega) (by omega) (by omega) (by omega) dX11_leastIfAlways_69 ?_
                  rw [show c (77 + (kg : Int).toNat) (k : Int) = sp_lo1 s (k : Int) (kg : Int) from (hcl (kg : Int) (k : Int) (by omega) (by omega) (by omega) (by omega)).1]
                  refine go_addI dX11_leastIfAlways_70 ?_
                  refine go_istoreS (lv' := [(0, .ref cb), (1, rj_i m), (2, rj_i p), (3, rj_i (sp_lm s m p k)), (4, rj_i (k : Int)), (5, rj_i (((if (k : Int) = p then sp_al s m p else 0) + sp_sum (fun g => if g = m then 0 else sp_lo1 s (k : Int) g) kg) + (sp_lo1 s (k : Int) (kg : Int)))), (6, rj_i (kg : Int))]) (by decide) rfl dX11_leastIfAlways_71 ?_
                  refine go_iincI (a := (kg : Int)) (n := 1) (k0 := 6) (lv' := [(0, .ref cb), (1, rj_i m), (2, rj_i p), (3, rj_i (sp_lm s m p k)), (4, rj_i (k : Int)), (5, rj_i (((if (k : Int) = p then sp_al s m p else 0) + sp_sum (fun g => if g = m then 0 else sp_lo1 s (k : Int) g) kg) + (sp_lo1 s (k : Int) (kg : Int)))), (6, rj_i ((kg : Int) + 1))]) rfl (by decide) rfl dX11_leastIfAlways_73 ?_
                  refine go_goto (tgt := 40) dX11_leastIfAlways_76 (by decide) ?_
                  exact go_eq rfl (lv' := [(0, .ref cb), (1, rj_i m), (2, rj_i p), (3, rj_i (sp_lm s m p k)), (4, rj_i (k : Int)), (5, rj_i ((if (k : Int) = p then sp_al s m p else 0) + sp_sum (fun g => if g = m then 0 else sp_lo1 s (k : Int) g) (kg + 1))), (6, rj_i ((kg + 1 : Nat) : Int))]) (rj_lk (rj_lk (rj_lk (rj_lk (rj_lk (rj_lj (by rw [sp_sm_ne (by omega)]; omega) (rj_lj (by omega) rfl))))))) rfl rfl (ihg (kg + 1) (by omega))
          exact go_eq rfl (lv' := [(0, .ref cb), (1, rj_i m), (2, rj_i p), (3, rj_i (sp_lm s m p k)), (4, rj_i (k : Int)), (5, rj_i ((if (k : Int) = p then sp_al s m p else 0) + sp_sum (fun g => if g = m then 0 else sp_lo1 s (k : Int) g) 0)), (6, rj_i ((0 : Nat) : Int))]) (rj_lk (rj_lk (rj_lk (rj_lk (rj_lk (rj_lj ((Int.add_zero _).symm) (rj_lj (rfl) rfl))))))) rfl rfl (loopg (s 0).toNat 0 (by omega))
        · refine go_aload_n dX11_leastIfAlways_23 rfl 0 rfl ?_
          refine rc_gx hR.V (k := 7) (by decide) fX11_44 rfl dX11_leastIfAlways_24 ?_
          refine go_iload_n dX11_leastIfAlways_27 rfl 1 rfl ?_
          refine rc_r84 hR.V (z := m) (by omega) (by omega) dX11_leastIfAlways_28 ?_
          refine go_iload_n dX11_leastIfAlways_29 rfl 2 rfl ?_
          refine rc_l84 hR.V (i := m) (by omega) (by omega) (by omega) (by omega) dX11_leastIfAlways_30 ?_
          rw [show c (84 + m.toNat) p = sp_al s m p from (hcl m p (by omega) (by omega) (by omega) (by omega)).2]
          refine go_goto (tgt := 35) dX11_leastIfAlways_31 (by decide) ?_
          refine go_istoreS (lv' := [(0, .ref cb), (1, rj_i m), (2, rj_i p), (3, rj_i (sp_lm s m p k)), (4, rj_i (k : Int)), (5, rj_i (sp_al s m p))]) (by decide) rfl dX11_leastIfAlways_35 ?_
          have hx5 : sp_al s m p = (if (k : Int) = p then sp_al s m p else 0) := by rw [if_pos (by omega)]
          rw [hx5]
          refine go_iconst (v := Int32.ofInt 0) dX11_leastIfAlways_37 rfl ?_
          refine go_istoreS (lv' := [(0, .ref cb), (1, rj_i m), (2, rj_i p), (3, rj_i (sp_lm s m p k)), (4, rj_i (k : Int)), (5, rj_i (if (k : Int) = p then sp_al s m p else 0)), (6, rj_i 0)]) (by decide) rfl dX11_leastIfAlways_38 ?_
          have loopg : ∀ (ng : Nat) (kg : Nat), kg + ng = (s 0).toNat → rj_Go X9 yX11_leastIfAlways cX11_leastIfAlways 7 (some .int) d (fun w9 τ => w9 = some (rj_i (sp_lm s m p (s 1).toNat)) ∧ τ = rc_p X9 cb vv vk c σ) 40 [(0, .ref cb), (1, rj_i m), (2, rj_i p), (3, rj_i (sp_lm s m p k)), (4, rj_i (k : Int)), (5, rj_i ((if (k : Int) = p then sp_al s m p else 0) + sp_sum (fun g => if g = m then 0 else sp_lo1 s (k : Int) g) kg)), (6, rj_i (kg : Int))] [] (rc_p X9 cb vv vk c σ) := by
            intro ng
            induction ng with
            | zero =>
              intro kg hkg
              refine go_iload dX11_leastIfAlways_40 6 rfl ?_
              refine go_aload_n dX11_leastIfAlways_42 rfl 0 rfl ?_
              refine rc_gx hR.V (k := 0) (by decide) fX11_12 rfl dX11_leastIfAlways_43 ?_
              refine rc_gs hR.V (k := 1) (v := rj_i (s 0)) (by decide) fX11_60 (rj_vi hR.n0) dX11_leastIfAlways_46 ?_
              refine go_icmp_geI (tgt := 79) (by omega) (by omega) dX11_leastIfAlways_49 (by decide) (fun c_49 => ?_) (fun c_49 => ?_)
              · have elw : (if (k : Int) = p then sp_al s m p else 0) + sp_sum (fun g => if g = m then 0 else sp_lo1 s (k : Int) g) kg = sp_lw s m p k := by unfold sp_lw; rw [show (s 0).toNat = kg by omega]
                rw [elw]
                refine go_iload_n dX11_leastIfAlways_79 rfl 3 rfl ?_
                refine go_if_ltI (tgt := 89) (by omega) dX11_leastIfAlways_80 (by decide) (fun c_80 => ?_) (fun c_80 => ?_)
                · refine go_iload dX11_leastIfAlways_89 5 rfl ?_
                  refine go_istore_nS (lv' := [(0, .ref cb), (1, rj_i m), (2, rj_i p), (3, rj_i (sp_lw s m p (k : Int))), (4, rj_i (k : Int)), (5, rj_i (sp_lw s m p (k : Int))), (6, rj_i (kg : Int))]) rfl (by decide) rfl dX11_leastIfAlways_91 ?_
                  refine go_iincI (a := (k : Int)) (n := 1) (k0 := 4) (lv' := [(0, .ref cb), (1, rj_i m), (2, rj_i p), (3, rj_i (sp_lw s m p (k : Int))), (4, rj_i ((k : Int) + 1)), (5, rj_i (sp_lw s m p (k : Int))), (6, rj_i (kg : Int))]) rfl (by decide) rfl dX11_leastIfAlways_92 ?_
                  refine go_goto (tgt := 5) dX11_leastIfAlways_95 (by decide) ?_
                  refine go_sub (lv' := [(0, .ref cb), (1, rj_i m), (2, rj_i p), (3, rj_i (sp_lw s m p (k : Int))), (4, rj_i ((k : Int) + 1))]) (by intro q hq; simp only [List.mem_cons, List.not_mem_nil, or_false] at hq ⊢; rcases hq with rfl | rfl | rfl | rfl | rfl <;> simp) ?_
                  exact go_eq rfl (lv' := [(0, .ref cb), (1, rj_i m), (2, rj_i p), (3, rj_i (sp_lm s m p (k + 1))), (4, rj_i ((k + 1 : Nat) : Int))]) (rj_lk (rj_lk (rj_lk (rj_lj (by rw [sp_lm, if_pos (by omega)]) (rj_lj (by omega) rfl))))) rfl rfl (iho (k + 1) (by omega))
                · refine go_iload dX11_leastIfAlways_83 5 rfl ?_
                  refine go_iload_n dX11_leastIfAlways_85 rfl 3 rfl ?_
                  refine go_icmp_geI (tgt := 92) (by omega) (by omega) dX11_leastIfAlways_86 (by decide) (fun c_86 => ?_) (fun c_86 => ?_)
                  · refine go_iincI (a := (k : Int)) (n := 1) (k0 := 4) (lv' := [(0, .ref cb), (1, rj_i m), (2, rj_i p), (3, rj_i (sp_lm s m p k)), (4, rj_i ((k : Int) + 1)), (5, rj_i (sp_lw s m p (k : Int))), (6, rj_i (kg : Int))]) rfl (by decide) rfl dX11_leastIfAlways_92 ?_
                    refine go_goto (tgt := 5) dX11_leastIfAlways_95 (by decide) ?_
                    refine go_sub (lv' := [(0, .ref cb), (1, rj_i m), (2, rj_i p), (3, rj_i (sp_lm s m p k)), (4, rj_i ((k : Int) + 1))]) (by intro q hq; simp only [List.mem_cons, List.not_mem_nil, or_false] at hq ⊢; rcases hq with rfl | rfl | rfl | rfl | rfl <;> simp) ?_
                    exact go_eq rfl (lv' := [(0, .ref cb), (1, rj_i m), (2, rj_i p), (3, rj_i (sp_lm s m p (k + 1))), (4, rj_i ((k + 1 : Nat) : Int))]) (rj_lk (rj_lk (rj_lk (rj_lj (by rw [sp_lm, if_neg (by omega)]) (rj_lj (by omega) rfl))))) rfl rfl (iho (k + 1) (by omega))
                  · refine go_iload dX11_leastIfAlways_89 5 rfl ?_
                    refine go_istore_nS (lv' := [(0, .ref cb), (1, rj_i m), (2, rj_i p), (3, rj_i (sp_lw s m p (k : Int))), (4, rj_i (k : Int)), (5, rj_i (sp_lw s m p (k : Int))), (6, rj_i (kg : Int))]) rfl (by decide) rfl dX11_leastIfAlways_91 ?_
                    refine go_iincI (a := (k : Int)) (n := 1) (k0 := 4) (lv' := [(0, .ref cb), (1, rj_i m), (2, rj_i p), (3, rj_i (sp_lw s m p (k : Int))), (4, rj_i ((k : Int) + 1)), (5, rj_i (sp_lw s m p (k : Int))), (6, rj_i (kg : Int))]) rfl (by decide) rfl dX11_leastIfAlways_92 ?_
                    refine go_goto (tgt := 5) dX11_leastIfAlways_95 (by decide) ?_
                    refine go_sub (lv' := [(0, .ref cb), (1, rj_i m), (2, rj_i p), (3, rj_i (sp_lw s m p (k : Int))), (4, rj_i ((k : Int) + 1))]) (by intro q hq; simp only [List.mem_cons, List.not_mem_nil, or_false] at hq ⊢; rcases hq with rfl | rfl | rfl | rfl | rfl <;> simp) ?_
                    exact go_eq rfl (lv' := [(0, .ref cb), (1, rj_i m), (2, rj_i p), (3, rj_i (sp_lm s m p (k + 1))), (4, rj_i ((k + 1 : Nat) : Int))]) (rj_lk (rj_lk (rj_lk (rj_lj (by rw [sp_lm, if_pos (by omega)]) (rj_lj (by omega) rfl))))) rfl rfl (iho (k + 1) (by omega))
              · exact absurd c_49 (by omega)
            | succ ng ihg =>
              intro kg hkg
              refine go_iload dX11_leastIfAlways_40 6 rfl ?_
              refine go_aload_n dX11_leastIfAlways_42 rfl 0 rfl ?_
              refine rc_gx hR.V (k := 0) (by decide) fX11_12 rfl dX11_leastIfAlways_43 ?_
              refine rc_gs hR.V (k := 1) (v := rj_i (s 0)) (by decide) fX11_60 (rj_vi hR.n0) dX11_leastIfAlways_46 ?_
              refine go_icmp_geI (tgt := 79) (by omega) (by omega) dX11_leastIfAlways_49 (by decide) (fun c_49 => ?_) (fun c_49 => ?_)
              · exact absurd c_49 (by omega)
              · refine go_iload dX11_leastIfAlways_52 6 rfl ?_
                refine go_iload_n dX11_leastIfAlways_54 rfl 1 rfl ?_
                refine go_icmp_eqI (tgt := 73) (by omega) (by omega) dX11_leastIfAlways_55 (by decide) (fun c_55 => ?_) (fun c_55 => ?_)
                · refine go_iincI (a := (kg : Int)) (n := 1) (k0 := 6) (lv' := [(0, .ref cb), (1, rj_i m), (2, rj_i p), (3, rj_i (sp_lm s m p k)), (4, rj_i (k : Int)), (5, rj_i ((if (k : Int) = p then sp_al s m p else 0) + sp_sum (fun g => if g = m then 0 else sp_lo1 s (k : Int) g) kg)), (6, rj_i ((kg : Int) + 1))]) rfl (by decide) rfl dX11_leastIfAlways_73 ?_
                  refine go_goto (tgt := 40) dX11_leastIfAlways_76 (by decide) ?_
                  exact go_eq rfl (lv' := [(0, .ref cb), (1, rj_i m), (2, rj_i p), (3, rj_i (sp_lm s m p k)), (4, rj_i (k : Int)), (5, rj_i ((if (k : Int) = p then sp_al s m p else 0) + sp_sum (fun g => if g = m then 0 else sp_lo1 s (k : Int) g) (kg + 1))), (6, rj_i ((kg + 1 : Nat) : Int))]) (rj_lk (rj_lk (rj_lk (rj_lk (rj_lk (rj_lj (by rw [sp_sm_eq (by omega)]) (rj_lj (by omega) rfl))))))) rfl rfl (ihg (kg + 1) (by omega))
                · refine go_iload dX11_leastIfAlways_58 5 rfl ?_
                  refine go_aload_n dX11_leastIfAlways_60 rfl 0 rfl ?_
                  refine rc_gx hR.V (k := 6) (by decide) fX11_41 rfl dX11_leastIfAlways_61 ?_
                  refine go_iload dX11_leastIfAlways_64 6 rfl ?_
                  refine rc_r77 hR.V (z := (kg : Int)) (by omega) (by omega) dX11_leastIfAlways_66 ?_
                  refine go_iload dX11_leastIfAlways_67 4 rfl ?_
                  refine rc_l77 hR.V (i := (kg : Int)) (by omega) (by omega) (by omega) (by omega) dX11_leastIfAlways_69 ?_
                  rw [show c (77 + (kg : Int).toNat) (k : Int) = sp_lo1 s (k : Int) (kg : Int) from (hcl (kg : Int) (k : Int) (by omega) (by omega) (by omega) (by omega)).1]
                  refine go_addI dX11_leastIfAlways_70 ?_
                  refine go_istoreS (lv' := [(0, .ref cb), (1, rj_i m), (2, rj_i p), (3, rj_i (sp_lm s m p k)), (4, rj_i (k : Int)), (5, rj_i (((if (k : Int) = p then sp_al s m p else 0) + sp_sum (fun g => if g = m then 0 else sp_lo1 s (k : Int) g) kg) + (sp_lo1 s (k : Int) (kg : Int)))), (6, rj_i (kg : Int))]) (by decide) rfl dX11_leastIfAlways_71 ?_
                  refine go_iincI (a := (kg : Int)) (n := 1) (k0 := 6) (lv' := [(0, .ref cb), (1, rj_i m), (2, rj_i p), (3, rj_i (sp_lm s m p k)), (4, rj_i (k : Int)), (5, rj_i (((if (k : Int) = p then sp_al s m p else 0) + sp_sum (fun g => if g = m then 0 else sp_lo1 s (k : Int) g) kg) + (sp_lo1 s (k : Int) (kg : Int)))), (6, rj_i ((kg : Int) + 1))]) rfl (by decide) rfl dX11_leastIfAlways_73 ?_
                  refine go_goto (tgt := 40) dX11_leastIfAlways_76 (by decide) ?_
                  exact go_eq rfl (lv' := [(0, .ref cb), (1, rj_i m), (2, rj_i p), (3, rj_i (sp_lm s m p k)), (4, rj_i (k : Int)), (5, rj_i ((if (k : Int) = p then sp_al s m p else 0) + sp_sum (fun g => if g = m then 0 else sp_lo1 s (k : Int) g) (kg + 1))), (6, rj_i ((kg + 1 : Nat) : Int))]) (rj_lk (rj_lk (rj_lk (rj_lk (rj_lk (rj_lj (by rw [sp_sm_ne (by omega)]; omega) (rj_lj (by omega) rfl))))))) rfl rfl (ihg (kg + 1) (by omega))
          exact go_eq rfl (lv' := [(0, .ref cb), (1, rj_i m), (2, rj_i p), (3, rj_i (sp_lm s m p k)), (4, rj_i (k : Int)), (5, rj_i ((if (k : Int) = p then sp_al s m p else 0) + sp_sum (fun g => if g = m then 0 else sp_lo1 s (k : Int) g) 0)), (6, rj_i ((0 : Nat) : Int))]) (rj_lk (rj_lk (rj_lk (rj_lk (rj_lk (rj_lj ((Int.add_zero _).symm) (rj_lj (rfl) rfl))))))) rfl rfl (loopg (s 0).toNat 0 (by omega))
  exact go_eq rfl (lv' := [(0, .ref cb), (1, rj_i m), (2, rj_i p), (3, rj_i (sp_lm s m p 0)), (4, rj_i ((0 : Nat) : Int))]) (rj_lk (rj_lk (rj_lk (rj_lj (rfl) (rj_lj (rfl) rfl))))) rfl rfl (loopo (s 1).toNat 0 (by omega))
set_option maxRecDepth 20000 in
set_option maxHeartbeats 2000000 in
/-- x_fair -/
theorem x_fair {X9 : rj_X} {σ : rj_H} {d cb vv vk : Nat} {c : rm_R} {w : Int} (hd : 6 ≤ d) (hw : -2147483648 ≤ w ∧ w < 2147483648) {s : Int → Int} {ad : Nat → Int → Nat} (hR : rc_R X9 cb vv vk c σ s ad) (hI : sp_I s) : rj_Cl X9 d yX11_fair cX11_fair 7 (some .int) [.ref cb, rj_i w] (rc_p X9 cb vv vk c σ) (fun w9 τ => w9 = some (rj_i (sp_fairF s w)) ∧ ∃ c0, rc_t 65 c c0 ∧ τ = rc_p X9 cb vv vk c0 σ) := by
  obtain ⟨⟨h0, h1, h2, h3, h4, h5, h6, h7⟩, hM, hP, hW, hL, hV⟩ := id hI
  obtain ⟨v1, v2, v3, v4⟩ := id hV
  refine go_call (by decide +kernel) (Nat.le_of_ble_eq_true rfl) ?_
  refine go_eq (pc' := 0) (lv' := [(0, .ref cb), (1, rj_i w)]) (st' := []) rfl rfl rfl rfl ?_
  refine go_iload_n dX11_fair_0 rfl 1 rfl ?_
  refine go_if_ltI (tgt := 9) (by omega) dX11_fair_1 (by decide) (fun c_1 => ?_) (fun c_1 => ?_)
  · refine go_iconst (v := Int32.ofInt (-1)) dX11_fair_9 rfl ?_
    refine go_retI rfl rfl ?_ dX11_fair_10
    exact ⟨rj_vi (by unfold sp_fairF; rw [if_neg (by omega)]), c, rc_t.rf, rfl⟩
  · refine go_iload_n dX11_fair_4 rfl 1 rfl ?_
    refine go_iconst (v := Int32.ofInt 1) dX11_fair_5 rfl ?_
    refine go_icmp_leI (tgt := 11) (by omega) (by omega) dX11_fair_6 (by decide) (fun c_6 => ?_) (fun c_6 => ?_)
    · refine go_aload_n dX11_fair_11 rfl 0 rfl ?_
      refine rc_gx hR.V (k := 0) (by decide) fX11_12 rfl dX11_fair_12 ?_
      refine rc_gs hR.V (k := 1) (v := rj_i (s 0)) (by decide) fX11_60 (rj_vi hR.n0) dX11_fair_15 ?_
      refine go_if_eqI (tgt := 31) (by omega) dX11_fair_18 (by decide) (fun c_18 => ?_) (fun c_18 => ?_)
      · refine go_bipush (v := Int32.ofInt (-5)) dX11_fair_31 (by decide) ?_
        refine go_retI rfl rfl ?_ dX11_fair_33
        exact ⟨rj_vi (by unfold sp_fairF; rw [if_pos (by omega : 0 ≤ w ∧ w ≤ 1)]; rw [show (s 0).toNat = 0 by omega]; simp only [sp_fA]; split <;> rfl), c, rc_t.rf, rfl⟩
      · refine go_aload_n dX11_fair_21 rfl 0 rfl ?_
        refine rc_gx hR.V (k := 0) (by decide) fX11_12 rfl dX11_fair_22 ?_
        refine rc_gs hR.V (k := 3) (v := rj_i (s 1)) (by decide) fX11_76 (rj_vi hR.n1) dX11_fair_25 ?_
        refine go_if_neI (tgt := 34) (by omega) dX11_fair_28 (by decide) (fun c_28 => ?_) (fun c_28 => ?_)
        · refine go_aload_n dX11_fair_34 rfl 0 rfl ?_
          refine go_callV (d1 := d - 1) wVX11_180 kX11 (rc_a0 hR.V) rfl (by omega) (x_countLight (by omega) hR hI) rfl (Nat.le_of_ble_eq_true rfl) dX11_fair_35 (fun w σ1 hP9 => ?_)
          obtain ⟨rfl, c1, hr1, hcl1, rfl⟩ := hP9
          refine go_iconst (v := Int32.ofInt 0) dX11_fair_38 rfl ?_
          refine go_istore_nS (lv' := [(0, .ref cb), (1, rj_i w), (2, rj_i 0)]) rfl (by decide) rfl dX11_fair_39 ?_
          refine go_iconst (v := Int32.ofInt (-1)) dX11_fair_40 rfl ?_
          refine go_istore_nS (lv' := [(0, .ref cb), (1, rj_i w), (2, rj_i 0), (3, rj_i (-1))]) rfl (by decide) rfl dX11_fair_41 ?_
          refine go_iconst (v := Int32.ofInt 0) dX11_fair_42 rfl ?_
          refine go_istoreS (lv' := [(0, .ref cb), (1, rj_i w), (2, rj_i 0), (3, rj_i (-1)), (4, rj_i 0)]) (by decide) rfl dX11_fair_43 ?_
          have loopm : ∀ (nm : Nat) (km : Nat), km + nm = (s 0).toNat → rj_Go X9 yX11_fair cX11_fair 7 (some .int) d (fun w9 τ => w9 = some (rj_i (sp_fairF s w)) ∧ ∃ c0, rc_t 65 c c0 ∧ τ = rc_p X9 cb vv vk c0 σ) 45 [(0, .ref cb), (1, rj_i w), (2, rj_i ((sp_cf (sp_fA s km)).1)), (3, rj_i ((sp_cf (sp_fA s km)).2)), (4, rj_i (km : Int))] [] (rc_p X9 cb vv vk c1 σ) := by
            intro nm
            induction nm with
            | zero =>
              intro km hkm
              refine go_iload dX11_fair_45 4 rfl ?_
              refine go_aload_n dX11_fair_47 rfl 0 rfl ?_
              refine rc_gx (hR.t hr1).V (k := 0) (by decide) fX11_12 rfl dX11_fair_48 ?_
              refine rc_gs (hR.t hr1).V (k := 1) (v := rj_i (s 0)) (by decide) fX11_60 (rj_vi (hR.t hr1).n0) dX11_fair_51 ?_
              refine go_icmp_geI (tgt := 112) (by omega) (by omega) dX11_fair_54 (by decide) (fun c_54 => ?_) (fun c_54 => ?_)
              · refine go_iload_n dX11_fair_112 rfl 1 rfl ?_
                refine go_if_neI (tgt := 120) (by omega) dX11_fair_113 (by decide) (fun c_113 => ?_) (fun c_113 => ?_)
                · refine go_iload_n dX11_fair_120 rfl 3 rfl ?_
                  refine go_retI rfl rfl ?_ dX11_fair_121
                  exact ⟨rj_vi (by unfold sp_fairF; rw [if_pos (by omega : 0 ≤ w ∧ w ≤ 1), if_neg (by omega), show (s 0).toNat = km by omega]; unfold sp_cf; rw [if_neg ((sp_fA_i hI km (by omega)).2 (by omega) (by omega))]), c1, hr1, rfl⟩
                · refine go_iload_n dX11_fair_116 rfl 2 rfl ?_
                  refine go_goto (tgt := 121) dX11_fair_117 (by decide) ?_
                  refine go_retI rfl rfl ?_ dX11_fair_121
                  exact ⟨rj_vi (by unfold sp_fairF; rw [if_pos (by omega : 0 ≤ w ∧ w ≤ 1), if_pos (by omega), show (s 0).toNat = km by omega]; unfold sp_cf; rw [if_neg ((sp_fA_i hI km (by omega)).2 (by omega) (by omega))]), c1, hr1, rfl⟩
              · exact absurd c_54 (by omega)
            | succ nm ihm =>
              intro km hkm
              have fi := (sp_fA_i hI km (by omega)).1
              refine go_iload dX11_fair_45 4 rfl ?_
              refine go_aload_n dX11_fair_47 rfl 0 rfl ?_
              refine rc_gx (hR.t hr1).V (k := 0) (by decide) fX11_12 rfl dX11_fair_48 ?_
              refine rc_gs (hR.t hr1).V (k := 1) (v := rj_i (s 0)) (by decide) fX11_60 (rj_vi (hR.t hr1).n0) dX11_fair_51 ?_
              refine go_icmp_geI (tgt := 112) (by omega) (by omega) dX11_fair_54 (by decide) (fun c_54 => ?_) (fun c_54 => ?_)
              · exact absurd c_54 (by omega)
              · refine go_iconst (v := Int32.ofInt 0) dX11_fair_57 rfl ?_
                refine go_istoreS (lv' := [(0, .ref cb), (1, rj_i w), (2, rj_i ((sp_cf (sp_fA s km)).1)), (3, rj_i ((sp_cf (sp_fA s km)).2)), (4, rj_i (km : Int)), (5, rj_i 0)]) (by decide) rfl dX11_fair_58 ?_
                have loopp : ∀ (np : Nat) (k : Nat), k + np = (s 1).toNat → rj_Go X9 yX11_fair cX11_fair 7 (some .int) d (fun w9 τ => w9 = some (rj_i (sp_fairF s w)) ∧ ∃ c0, rc_t 65 c c0 ∧ τ = rc_p X9 cb vv vk c0 σ) 60 [(0, .ref cb), (1, rj_i w), (2, rj_i ((sp_cf (sp_fB s (km : Int) (sp_fA s km) k)).1)), (3, rj_i ((sp_cf (sp_fB s (km : Int) (sp_fA s km) k)).2)), (4, rj_i (km : Int)), (5, rj_i (k : Int))] [] (rc_p X9 cb vv vk c1 σ) := by
                  intro np
                  induction np with
                  | zero =>
                    intro k hk
                    refine go_iload dX11_fair_60 5 rfl ?_
                    refine go_aload_n dX11_fair_62 rfl 0 rfl ?_
                    refine rc_gx (hR.t hr1).V (k := 0) (by decide) fX11_12 rfl dX11_fair_63 ?_
                    refine rc_gs (hR.t hr1).V (k := 3) (v := rj_i (s 1)) (by decide) fX11_76 (rj_vi (hR.t hr1).n1) dX11_fair_66 ?_
                    refine go_icmp_geI (tgt := 106) (by omega) (by omega) dX11_fair_69 (by decide) (fun c_69 => ?_) (fun c_69 => ?_)
                    · refine go_iincI (a := (km : Int)) (n := 1) (k0 := 4) (lv' := [(0, .ref cb), (1, rj_i w), (2, rj_i ((sp_cf (sp_fB s (km : Int) (sp_fA s km) k)).1)), (3, rj_i ((sp_cf (sp_fB s (km : Int) (sp_fA s km) k)).2)), (4, rj_i ((km : Int) + 1)), (5, rj_i (k : Int))]) rfl (by decide) rfl dX11_fair_106 ?_
                      refine go_goto (tgt := 45) dX11_fair_109 (by decide) ?_
                      refine go_sub (lv' := [(0, .ref cb), (1, rj_i w), (2, rj_i ((sp_cf (sp_fB s (km : Int) (sp_fA s km) k)).1)), (3, rj_i ((sp_cf (sp_fB s (km : Int) (sp_fA s km) k)).2)), (4, rj_i ((km : Int) + 1))]) (by intro q hq; simp only [List.mem_cons, List.not_mem_nil, or_false] at hq ⊢; rcases hq with rfl | rfl | rfl | rfl | rfl <;> simp) ?_
                      exact go_eq rfl (lv' := [(0, .ref cb), (1, rj_i w), (2, rj_i ((sp_cf (sp_fA s (km + 1))).1)), (3, rj_i ((sp_cf (sp_fA s (km + 1))).2)), (4, rj_i ((km + 1 : Nat) : Int))]) (rj_lk (rj_lk (rj_lj (by rw [sp_fA, show (s 1).toNat = k by omega]) (rj_lj (by rw [sp_fA, show (s 1).toNat = k by omega]) (rj_lj (by omega) rfl))))) rfl rfl (ihm (km + 1) (by omega))
                    · exact absurd c_69 (by omega)
                  | succ np ihp =>
                    intro k hk
                    have fb := (sp_fB_i hI (m := (km : Int)) (by omega) fi k (by omega)).1
                    have fv := sp_fv_lm hI (m := (km : Int)) (p := (k : Int)) (by omega) (by omega)
                    have fvb := sp_lm_b hI (m := (km : Int)) (p := (k : Int)) (by omega) (by omega) (s 1).toNat (by omega)
                    have cs := sp_cf_s fb (by rw [fv.1]; exact fv.2) (show 0 ≤ (km : Int) by omega)
                    rw [fv.1] at cs
                    have cfb : -1 ≤ (sp_cf (sp_fB s (km : Int) (sp_fA s km) k)).2 ∧ (sp_cf (sp_fB s (km : Int) (sp_fA s km) k)).2 ≤ 864 := by have h1 := sp_fB_b hI (m := (km : Int)) (by omega) (sp_fA_b hI km (by omega)) k (by omega); unfold sp_fi at fb; unfold sp_cf; split; (· dsimp only; omega); (· omega)
                    refine go_iload dX11_fair_60 5 rfl ?_
                    refine go_aload_n dX11_fair_62 rfl 0 rfl ?_
                    refine rc_gx (hR.t hr1).V (k := 0) (by decide) fX11_12 rfl dX11_fair_63 ?_
                    refine rc_gs (hR.t hr1).V (k := 3) (v := rj_i (s 1)) (by decide) fX11_76 (rj_vi (hR.t hr1).n1) dX11_fair_66 ?_
                    refine go_icmp_geI (tgt := 106) (by omega) (by omega) dX11_fair_69 (by decide) (fun c_69 => ?_) (fun c_69 => ?_)
                    · exact absurd c_69 (by omega)
                    · refine go_aload_n dX11_fair_72 rfl 0 rfl ?_
                      refine go_iload dX11_fair_73 4 rfl ?_
                      refine go_iload dX11_fair_75 5 rfl ?_
                      refine go_callV (d1 := d - 1) wVX11_183 kX11 (rc_a0 (hR.t hr1).V) rfl (by omega) (x_least (m := (km : Int)) (p := (k : Int)) (by omega) (hR.t hr1) hI (by omega) (by omega) hcl1) rfl (Nat.le_of_ble_eq_true rfl) dX11_fair_77 (fun w σ1 hP9 => ?_)
                      obtain ⟨rfl, rfl⟩ := hP9
                      refine go_istoreS (lv' := [(0, .ref cb), (1, rj_i w), (2, rj_i ((sp_cf (sp_fB s (km : Int) (sp_fA s km) k)).1)), (3, rj_i ((sp_cf (sp_fB s (km : Int) (sp_fA s km) k)).2)), (4, rj_i (km : Int)), (5, rj_i (k : Int)), (6, rj_i (sp_lm s (km : Int) (k : Int) (s 1).toNat))]) (by decide) rfl dX11_fair_80 ?_
                      refine go_iload dX11_fair_82 6 rfl ?_
                      refine go_iload_n dX11_fair_84 rfl 3 rfl ?_
                      refine go_icmp_leI (tgt := 100) (by omega) (by omega) dX11_fair_85 (by decide) (fun c_85 => ?_) (fun c_85 => ?_)
                      · refine go_iincI (a := (k : Int)) (n := 1) (k0 := 5) (lv' := [(0, .ref cb), (1, rj_i w), (2, rj_i ((sp_cf (sp_fB s (km : Int) (sp_fA s km) k)).1)), (3, rj_i ((sp_cf (sp_fB s (km : Int) (sp_fA s km) k)).2)), (4, rj_i (km : Int)), (5, rj_i ((k : Int) + 1)), (6, rj_i (sp_lm s (km : Int) (k : Int) (s 1).toNat))]) rfl (by decide) rfl dX11_fair_100 ?_
                        refine go_goto (tgt := 60) dX11_fair_103 (by decide) ?_
                        refine go_sub (lv' := [(0, .ref cb), (1, rj_i w), (2, rj_i ((sp_cf (sp_fB s (km : Int) (sp_fA s km) k)).1)), (3, rj_i ((sp_cf (sp_fB s (km : Int) (sp_fA s km) k)).2)), (4, rj_i (km : Int)), (5, rj_i ((k : Int) + 1))]) (by intro q hq; simp only [List.mem_cons, List.not_mem_nil, or_false] at hq ⊢; rcases hq with rfl | rfl | rfl | rfl | rfl | rfl <;> simp) ?_
                        exact go_eq rfl (lv' := [(0, .ref cb), (1, rj_i w), (2, rj_i ((sp_cf (sp_fB s (km : Int) (sp_fA s km) (k + 1))).1)), (3, rj_i ((sp_cf (sp_fB s (km : Int) (sp_fA s km) (k + 1))).2)), (4, rj_i (km : Int)), (5, rj_i ((k + 1 : Nat) : Int))]) (rj_lk (rj_lk (rj_lj (by rw [cs, if_neg (by omega)]) (rj_lj (by rw [cs, if_neg (by omega)]) (rj_lk (rj_lj (by omega) rfl)))))) rfl rfl (ihp (k + 1) (by omega))
                      · refine go_iload dX11_fair_88 6 rfl ?_
                        refine go_istore_nS (lv' := [(0, .ref cb), (1, rj_i w), (2, rj_i ((sp_cf (sp_fB s (km : Int) (sp_fA s km) k)).1)), (3, rj_i (sp_lm s (km : Int) (k : Int) (s 1).toNat)), (4, rj_i (km : Int)), (5, rj_i (k : Int)), (6, rj_i (sp_lm s (km : Int) (k : Int) (s 1).toNat))]) rfl (by decide) rfl dX11_fair_90 ?_
                        refine go_bipush (v := Int32.ofInt 10) dX11_fair_91 (by decide) ?_
                        refine go_iload dX11_fair_93 4 rfl ?_
                        refine go_mulI dX11_fair_95 ?_
                        refine go_iload dX11_fair_96 5 rfl ?_
                        refine go_addI dX11_fair_98 ?_
                        refine go_istore_nS (lv' := [(0, .ref cb), (1, rj_i w), (2, rj_i ((10 * (km : Int)) + (k : Int))), (3, rj_i (sp_lm s (km : Int) (k : Int) (s 1).toNat)), (4, rj_i (km : Int)), (5, rj_i (k : Int)), (6, rj_i (sp_lm s (km : Int) (k : Int) (s 1).toNat))]) rfl (by decide) rfl dX11_fair_99 ?_
                        refine go_iincI (a := (k : Int)) (n := 1) (k0 := 5) (lv' := [(0, .ref cb), (1, rj_i w), (2, rj_i ((10 * (km : Int)) + (k : Int))), (3, rj_i (sp_lm s (km : Int) (k : Int) (s 1).toNat)), (4, rj_i (km : Int)), (5, rj_i ((k : Int) + 1)), (6, rj_i (sp_lm s (km : Int) (k : Int) (s 1).toNat))]) rfl (by decide) rfl dX11_fair_100 ?_
                        refine go_goto (tgt := 60) dX11_fair_103 (by decide) ?_
                        refine go_sub (lv' := [(0, .ref cb), (1, rj_i w), (2, rj_i ((10 * (km : Int)) + (k : Int))), (3, rj_i (sp_lm s (km : Int) (k : Int) (s 1).toNat)), (4, rj_i (km : Int)), (5, rj_i ((k : Int) + 1))]) (by intro q hq; simp only [List.mem_cons, List.not_mem_nil, or_false] at hq ⊢; rcases hq with rfl | rfl | rfl | rfl | rfl | rfl <;> simp) ?_
                        exact go_eq rfl (lv' := [(0, .ref cb), (1, rj_i w), (2, rj_i ((sp_cf (sp_fB s (km : Int) (sp_fA s km) (k + 1))).1)), (3, rj_i ((sp_cf (sp_fB s (km : Int) (sp_fA s km) (k + 1))).2)), (4, rj_i (km : Int)), (5, rj_i ((k + 1 : Nat) : Int))]) (rj_lk (rj_lk (rj_lj (by rw [cs, if_pos (by omega)]) (rj_lj (by rw [cs, if_pos (by omega)]) (rj_lk (rj_lj (by omega) rfl)))))) rfl rfl (ihp (k + 1) (by omega))
                exact go_eq rfl (lv' := [(0, .ref cb), (1, rj_i w), (2, rj_i ((sp_cf (sp_fB s (km : Int) (sp_fA s km) 0)).1)), (3, rj_i ((sp_cf (sp_fB s (km : Int) (sp_fA s km) 0)).2)), (4, rj_i (km : Int)), (5, rj_i ((0 : Nat) : Int))]) (rj_lk (rj_lk (rj_lj (rfl) (rj_lj (rfl) (rj_lk (rj_lj (rfl) rfl)))))) rfl rfl (loopp (s 1).toNat 0 (by omega))
          exact go_eq rfl (lv' := [(0, .ref cb), (1, rj_i w), (2, rj_i ((sp_cf (sp_fA s 0)).1)), (3, rj_i ((sp_cf (sp_fA s 0)).2)), (4, rj_i ((0 : Nat) : Int))]) (rj_lk (rj_lk (rj_lj (rfl) (rj_lj (rfl) (rj_lj (rfl) rfl))))) rfl rfl (loopm (s 0).toNat 0 (by omega))
        · refine go_bipush (v := Int32.ofInt (-5)) dX11_fair_31 (by decide) ?_
          refine go_retI rfl rfl ?_ dX11_fair_33
          exact ⟨rj_vi (by unfold sp_fairF; rw [if_pos (by omega : 0 ≤ w ∧ w ≤ 1)]; rw [sp_fA_0 (by omega)]; split <;> rfl), c, rc_t.rf, rfl⟩
    · refine go_iconst (v := Int32.ofInt (-1)) dX11_fair_9 rfl ?_
      refine go_retI rfl rfl ?_ dX11_fair_10
      exact ⟨rj_vi (by unfold sp_fairF; rw [if_neg (by omega)]), c, rc_t.rf, rfl⟩
