/-! WHAT A TEXT THAT IS RIGHT SAYS: heights, markers -/
def sp_hx (t x : Int) : Int := if 0 ≤ x then t + 1 else if x = -1 then t else if -11 < x then t + (-1) else 0
def sp_q (x : Int) : Prop := 0 ≤ x → x % 8 < 5 ∧ x / 8 % 4 < 3 ∧ x / 32 ≤ 99
/-- steps that may come when t wait; t' wait behind -/
def sp_wl : List Int → Int → Int → Prop
  | [], t, t' => t = t'
  | x :: l, t, t' => (sp_ok t x ∧ sp_q x) ∧ sp_wl l (sp_hx t x) t'
theorem sp_wl_app : ∀ (l m : List Int) {t u v : Int}, sp_wl l t u → sp_wl m u v → sp_wl (l ++ m) t v
  | [], m, t, u, v, h, k => by have e : t = u := h; subst e; exact k
  | x :: l, m, t, u, v, h, k => ⟨h.1, sp_wl_app l m h.2 k⟩
/-- no marker -/
def sp_nk (l : List Int) : Prop := ∀ x ∈ l, -11 < x
theorem sp_nk_app {l m : List Int} (h : sp_nk l) (k : sp_nk m) : sp_nk (l ++ m) := fun x hx => (List.mem_append.mp hx).elim (h x) (k x)
def sp_W (T : Int → Int) (e : Int) (F : Int → sp_R) (h : Int) : Prop := ∀ p : Int, 0 ≤ p → p ≤ e → (F p).1 = true → sp_nk (F p).2.2 ∧ ∀ t : Int, 0 ≤ t → t + h ≤ 13 → sp_wl (F p).2.2 t (t + 1)
theorem sp_W_tt {T : Int → Int} {e : Int} (h : sp_TB T e) : sp_W T e (sp_tt1 T e) 1 := by
  intro p p0 p1 ho
  have a1 := sp_am_b 5 (sp_hr T e p) (by decide)
  have a2 := sp_am_b 6 (sp_hr T e (p + 1)) (by decide)
  have hl5 : rj_sl 5 = 5 := rfl
  have hl6 : rj_sl 6 = 3 := rfl
  have hr1 := sp_hr_b h p0
  have hr2 := sp_hr_b (p := p + 1) h (by omega)
  revert ho
  unfold sp_tt1
  split
  · exact fun q => absurd q (by simp)
  · split
    · exact fun q => absurd q (by simp)
    · have n1 := sp_num_b (p := p + 2) h (by omega)
      split
      · intro _
        obtain ⟨x, hx⟩ : ∃ x_, x_ = sp_am 5 (sp_hr T e p) + 8 * sp_am 6 (sp_hr T e (p + 1)) + 32 * (sp_num T e (p + 2)).2.2 := ⟨_, rfl⟩
        rw [← hx]
        refine ⟨fun y hy => ?_, fun t t0 t1 => ⟨⟨⟨t0, by omega, fun _ => ⟨by omega, by omega, by omega⟩, fun q => by omega, fun q => by omega, fun q => by omega⟩, fun _ => ⟨by omega, by omega, by omega⟩⟩, ?_⟩⟩
        · rw [List.mem_singleton.mp hy]; omega
        · show sp_hx t x = t + 1
          unfold sp_hx
          rw [if_pos (by omega)]
      · exact fun q => absurd q (by simp)
theorem sp_W_lp {T : Int → Int} {e c op h : Int} {F : Int → sp_R} (hT : sp_TB T e) (hF : sp_W T e F h) (hG : sp_G e F) (hh : 1 ≤ h) (hop : op = -2 ∨ op = -3) (hc : 0 ≤ c) {p : Int} (hp : 0 ≤ p) : ∀ (f : Nat) (R : sp_R), sp_G1 p e R → sp_nk R.2.2 → (sp_lp T e c op F f R).1 = true → (∀ t : Int, 0 ≤ t → t + (h + 1) ≤ 13 → sp_wl R.2.2 t (t + 1)) → sp_nk (sp_lp T e c op F f R).2.2 ∧ ∀ t : Int, 0 ≤ t → t + (h + 1) ≤ 13 → sp_wl (sp_lp T e c op F f R).2.2 t (t + 1)
  | 0, R, hg, hn, ho, hw => ⟨hn, hw⟩
  | f + 1, R, hg, hn, ho, hw => by
    revert ho
    rw [sp_lp]
    split
    · rename_i hq
      intro ho
      have hrb := sp_hr_b (p := R.2.1) hT (by obtain ⟨g1, -⟩ := hg; omega)
      obtain ⟨g1, g2, g3⟩ := id hg
      have hX1 : (sp_cat op R (F (R.2.1 + 1))).1 = true := by
        by_cases hx : (F (R.2.1 + 1)).1 = true
        · exact hx
        · rw [sp_lp_no (R := sp_cat op R (F (R.2.1 + 1))) hx] at ho
          exact ho
      have hX : (F (R.2.1 + 1)).1 = true := hX1
      obtain ⟨n2, w2⟩ := hF (R.2.1 + 1) (by omega) (by omega) hX
      have hl : (sp_cat op R (F (R.2.1 + 1))).2.2 = R.2.2 ++ (F (R.2.1 + 1)).2.2 ++ [op] := by unfold sp_cat; rw [if_pos hX]
      refine sp_W_lp hT hF hG hh hop hc hp f _ (sp_G1_cat hT hg (hG _ (by omega) (by omega))) ?_ ho ?_
      · rw [hl]
        refine sp_nk_app (sp_nk_app hn n2) (fun y hy => ?_)
        rw [List.mem_singleton.mp hy]; omega
      · intro t t0 t1
        rw [hl]
        refine sp_wl_app _ _ (sp_wl_app _ _ (hw t t0 t1) (w2 (t + 1) (by omega) (by omega))) ⟨⟨⟨by omega, by omega, fun q => by omega, fun q => by omega, fun _ _ => by omega, fun q => by omega⟩, fun q => by omega⟩, ?_⟩
        show sp_hx (t + 1 + 1) op = t + 1
        unfold sp_hx
        rw [if_neg (by omega), if_neg (by omega), if_pos (by omega)]
        omega
    · intro ho
      exact ⟨hn, hw⟩
theorem sp_W_ev {T : Int → Int} {e h : Int} {F : Int → sp_R} (hT : sp_TB T e) (hF : sp_W T e F h) (hG : sp_G e F) (hh : 1 ≤ h) : sp_W T e (sp_ev T e F) (h + 1) := by
  intro p p0 p1 ho
  have ho1 : (F p).1 = true := by
    by_cases hx : (F p).1 = true
    · exact hx
    · unfold sp_ev at ho; rw [sp_lp_no hx] at ho; exact ho
  obtain ⟨n1, w1⟩ := hF p p0 p1 ho1
  exact sp_W_lp hT hF hG hh (Or.inl rfl) (by decide) p0 121 _ (hG p p0 p1) n1 ho (fun t t0 t1 => w1 t t0 (by omega))
theorem sp_W_an {T : Int → Int} {e h : Int} {F : Int → sp_R} (hT : sp_TB T e) (hF : sp_W T e F h) (hG : sp_G e F) (hh : 1 ≤ h) : sp_W T e (sp_an T e F) (h + 1) := by
  intro p p0 p1 ho
  have ho1 : (F p).1 = true := by
    by_cases hx : (F p).1 = true
    · exact hx
    · unfold sp_an at ho; rw [sp_lp_no hx] at ho; exact ho
  obtain ⟨n1, w1⟩ := hF p p0 p1 ho1
  exact sp_W_lp hT hF hG hh (Or.inr rfl) (by decide) p0 121 _ (hG p p0 p1) n1 ho (fun t t0 t1 => w1 t t0 (by omega))
theorem sp_W_som {T : Int → Int} {e h : Int} {F : Int → sp_R} (hT : sp_TB T e) (hF : sp_W T e F h) (hG : sp_G e F) (hh : 1 ≤ h) : sp_W T e (sp_som T e F) (h + 2) := by
  have := sp_W_an hT (sp_W_ev hT hF hG hh) (sp_ev_G hT hG) (by omega)
  rw [show h + 2 = h + 1 + 1 by omega]
  exact this
theorem sp_W_fac {T : Int → Int} {e : Int} (hT : sp_TB T e) : ∀ n : Nat, sp_W T e (sp_fac T e n) (1 + 2 * (n : Int))
  | 0 => by
    intro p p0 p1 ho
    rw [sp_fac_0] at ho ⊢
    by_cases h : sp_hr T e p = 33 ∨ sp_hr T e p = 40
    · rw [if_pos h] at ho; exact absurd ho (by simp)
    · rw [if_neg h] at ho ⊢
      obtain ⟨a, b⟩ := sp_W_tt hT p p0 p1 ho
      exact ⟨a, fun t t0 t1 => b t t0 (by omega)⟩
  | n + 1 => by
    have ih := sp_W_fac hT n
    have hG := sp_fac_G hT n
    intro p p0 p1 ho
    rw [sp_fac_s] at ho ⊢
    have hr := sp_hr_b hT p0
    by_cases h : sp_hr T e p = 33
    · rw [if_pos h] at ho ⊢
      have hx : (sp_fac T e n (p + 1)).1 = true := ho
      obtain ⟨a, b⟩ := ih (p + 1) (by omega) (by omega) hx
      rw [sp_not_1 hx]
      refine ⟨sp_nk_app a (fun y hy => by rw [List.mem_singleton.mp hy]; omega), fun t t0 t1 => sp_wl_app _ _ (b t t0 (by omega)) ⟨⟨⟨by omega, by omega, fun q => by omega, fun q => by omega, fun q => by omega, fun q => by omega⟩, fun q => by omega⟩, ?_⟩⟩
      show sp_hx (t + 1) (-1) = t + 1
      unfold sp_hx
      rw [if_neg (by omega), if_pos rfl]
    · rw [if_neg h] at ho ⊢
      by_cases h2 : sp_hr T e p = 40
      · rw [if_pos h2] at ho ⊢
        by_cases hx : (sp_som T e (sp_fac T e n) (p + 1)).1 = true
        · obtain ⟨a, b⟩ := sp_W_som hT ih hG (by omega) (p + 1) (by omega) (by omega) hx
          exact ⟨a, fun t t0 t1 => b t t0 (by omega)⟩
        · rw [sp_clo_0 hx] at ho; exact absurd ho (by simp)
      · rw [if_neg h2] at ho ⊢
        obtain ⟨a, b⟩ := sp_W_tt hT p p0 p1 ho
        exact ⟨a, fun t t0 t1 => b t t0 (by omega)⟩
theorem sp_W_5 {T : Int → Int} {e p : Int} (hT : sp_TB T e) (p0 : 0 ≤ p) (p1 : p ≤ e) (ho : (sp_som T e (sp_fac T e 5) p).1 = true) : sp_nk (sp_som T e (sp_fac T e 5) p).2.2 ∧ sp_wl (sp_som T e (sp_fac T e 5) p).2.2 0 1 := by
  obtain ⟨a, b⟩ := sp_W_som hT (sp_W_fac hT 5) (sp_fac_G hT 5) (by omega) p p0 p1 ho
  exact ⟨a, b 0 (by omega) (by show (0 : Int) + (1 + 2 * ((5 : Nat) : Int) + 2) ≤ 13; omega)⟩
/-- a list of steps as the class keeps it: steps, words, ends -/
def lz_s (L : List Int) : List Int := (L.filter (fun x => decide (-11 < x))).map sp_enc
def lz_w (L : List Int) : List Int := (L.filter (fun x => decide (x ≤ -11))).map (fun x => -11 - x)
def lz_e : Int → List Int → List Int
  | _, [] => []
  | n, x :: L => if x ≤ -11 then n :: lz_e n L else lz_e (n + 1) L
theorem lz_s_app (L M : List Int) : lz_s (L ++ M) = lz_s L ++ lz_s M := by unfold lz_s; rw [List.filter_append, List.map_append]
theorem lz_w_app (L M : List Int) : lz_w (L ++ M) = lz_w L ++ lz_w M := by unfold lz_w; rw [List.filter_append, List.map_append]
theorem lz_s_c (x : Int) (L : List Int) : lz_s (x :: L) = if x ≤ -11 then lz_s L else sp_enc x :: lz_s L := by
  unfold lz_s
  rw [List.filter_cons]
  by_cases h : x ≤ -11
  · rw [if_pos h, decide_eq_false (by omega), if_neg (by decide)]
  · rw [if_neg h, decide_eq_true (by omega), if_pos rfl, List.map_cons]
theorem lz_w_c (x : Int) (L : List Int) : lz_w (x :: L) = if x ≤ -11 then (-11 - x) :: lz_w L else lz_w L := by
  unfold lz_w
  rw [List.filter_cons]
  by_cases h : x ≤ -11
  · rw [if_pos h, decide_eq_true h, if_pos rfl, List.map_cons]
  · rw [if_neg h, decide_eq_false h, if_neg (by decide)]
theorem lz_e_app : ∀ (L M : List Int) (n : Int), lz_e n (L ++ M) = lz_e n L ++ lz_e (n + ((lz_s L).length : Int)) M
  | [], M, n => by simp [lz_e, lz_s]
  | x :: L, M, n => by
    rw [List.cons_append, lz_e, lz_e, lz_s_c]
    by_cases h : x ≤ -11
    · rw [if_pos h, if_pos h, if_pos h, lz_e_app L M n, List.cons_append]
    · rw [if_neg h, if_neg h, if_neg h, lz_e_app L M (n + 1), List.length_cons]
      congr 2
      omega
theorem lz_s_nk {L : List Int} (h : sp_nk L) : lz_s L = L.map sp_enc := by
  unfold lz_s
  rw [List.filter_eq_self.mpr (fun x hx => decide_eq_true (h x hx))]
theorem lz_w_nk {L : List Int} (h : sp_nk L) : lz_w L = [] := by
  unfold lz_w
  rw [List.filter_eq_nil_iff.mpr (fun x hx => by have := h x hx; simp; omega)]
  rfl
theorem lz_e_nk : ∀ {L : List Int} (n : Int), sp_nk L → lz_e n L = []
  | [], _, _ => rfl
  | x :: L, n, h => by
    have hx := h x (List.mem_cons_self ..)
    rw [lz_e, if_neg (by omega)]
    exact lz_e_nk (n + 1) (fun y hy => h y (List.mem_cons_of_mem _ hy))
/-- behind a clause, or some: all that the valley's object says of the steps L -/
def pv_k (T : Int → Int) (e : Int) (g g' : rm_R) (p : Int) (L : List Int) (cl tn : Int) : Prop := (g' 0 11 = p ∧ g' 0 12 = sp_hr T e p ∧ g' 0 10 = g 0 10) ∧ g' 0 1 = g 0 1 + ((lz_s L).length : Int) ∧ g' 0 4 = g 0 4 + ((lz_w L).length : Int) ∧ (g' 0 7 = cl ∧ g' 0 8 = tn) ∧ g' 1 = pv_app (g 1) (g 0 1) (lz_s L) ∧ g' 2 = pv_app (g 2) (g 0 4) (lz_w L) ∧ g' 3 = pv_app (g 3) (g 0 4) (lz_e (g 0 1) L)
theorem lz_len : ∀ (L : List Int) (n : Int), (lz_e n L).length = (lz_w L).length
  | [], _ => rfl
  | x :: L, n => by
    rw [lz_e, lz_w_c]
    by_cases h : x ≤ -11
    · rw [if_pos h, if_pos h, List.length_cons, List.length_cons, lz_len L n]
    · rw [if_neg h, if_neg h]; exact lz_len L (n + 1)
theorem pv_k.tr {T : Int → Int} {e p1 p2 cl tn cl2 tn2 : Int} {g g1 g2 : rm_R} {L1 L2 : List Int} (h : pv_k T e g g1 p1 L1 cl tn) (k : pv_k T e g1 g2 p2 L2 cl2 tn2) : pv_k T e g g2 p2 (L1 ++ L2) cl2 tn2 := by
  obtain ⟨⟨-, -, b0⟩, b1, b2, -, b3, b4, b5⟩ := h
  obtain ⟨⟨a1, a2, a0⟩, c1, c2, c3, c4, c5, c6⟩ := k
  refine ⟨⟨a1, a2, a0.trans b0⟩, by rw [c1, b1, lz_s_app, List.length_append]; omega, by rw [c2, b2, lz_w_app, List.length_append]; omega, c3, ?_, ?_, ?_⟩
  · rw [c4, b3, b1, lz_s_app, pv_app_app]
  · rw [c5, b4, b2, lz_w_app, pv_app_app]
  · rw [c6, b5, b1, b2, lz_e_app, pv_app_app, lz_len]
theorem pv_k.rf {T : Int → Int} {e p cl tn : Int} {g : rm_R} (h1 : g 0 11 = p) (h2 : g 0 12 = sp_hr T e p) (h3 : g 0 7 = cl) (h4 : g 0 8 = tn) : pv_k T e g g p [] cl tn := ⟨⟨h1, h2, rfl⟩, by simp [lz_s], by simp [lz_w], ⟨h3, h4⟩, rfl, rfl, rfl⟩
