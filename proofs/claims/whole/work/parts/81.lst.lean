/-! A TEXT THAT IS RIGHT, as the class keeps it -/
theorem pv_app_o : ∀ (l : List Int) (f : Int → Int) (n j : Int), j < n → pv_app f n l j = f j
  | [], f, n, j, _ => rfl
  | x :: l, f, n, j, h => by rw [pv_app, pv_app_o l _ _ _ (by omega), rj_up_ne _ _ (by omega)]
theorem pv_app_m : ∀ (A : List Int) (x : Int) (B : List Int) (f : Int → Int) (n : Int), pv_app f n (A ++ x :: B) (n + (A.length : Int)) = x
  | [], x, B, f, n => by
    rw [List.nil_append, pv_app, List.length_nil, pv_app_o _ _ _ _ (by omega), show n + ((0 : Nat) : Int) = n by omega, rj_up_eq]
  | a :: A, x, B, f, n => by
    rw [List.cons_append, pv_app, List.length_cons, show n + ((A.length + 1 : Nat) : Int) = n + 1 + (A.length : Int) by omega]
    exact pv_app_m A x B _ (n + 1)
theorem sp_wl_mid : ∀ (A : List Int) (x : Int) (B : List Int) (t t' : Int), sp_wl (A ++ x :: B) t t' → sp_ok (A.foldl sp_hx t) x ∧ sp_q x
  | [], x, B, t, t', h => h.1
  | a :: A, x, B, t, t', h => sp_wl_mid A x B _ t' h.2
theorem lz_take {f : Int → Int} {off : Int} {L : List Int} (hL : ∀ (i : Nat) (h : i < L.length), f (off + (i : Int)) = L[i]) : ∀ k : Nat, k ≤ L.length → (sp_cj f off k = (lz_s (L.take k)).length ∧ sp_cm f off k = (lz_w (L.take k)).length) ∧ sp_ht f off k = (L.take k).foldl sp_hx 0
  | 0, _ => ⟨⟨rfl, rfl⟩, rfl⟩
  | k + 1, hk => by
    obtain ⟨⟨h1, h2⟩, h3⟩ := lz_take hL k (by omega)
    have e : L.take (k + 1) = L.take k ++ [L[k]] := by rw [List.take_append_getElem]
    have hx := hL k (by omega)
    rw [e, lz_s_app, lz_w_app, List.length_append, List.length_append, List.foldl_append, sp_cj, sp_cm, sp_ht, hx, ← h1, ← h2, ← h3, lz_s_c, lz_w_c]
    refine ⟨⟨?_, ?_⟩, ?_⟩
    · split <;> simp [lz_s]
    · split <;> simp [lz_w]
    · simp only [List.foldl_cons, List.foldl_nil]; rfl
theorem rc_vr_of {f : Int → Int} {off : Int} {L : List Int} {g1 g2 g3 : Int → Int} (hL : ∀ (i : Nat) (h : i < L.length), f (off + (i : Int)) = L[i]) (hw : sp_lw9 L) (hlen : L.length ≤ 120) (hm : (lz_w L).length ≤ 10) : rc_vr f off L.length (pv_app g1 0 (lz_s L)) (pv_app g2 0 (lz_w L)) (pv_app g3 0 (lz_e 0 L)) ((lz_s L).length : Int) ((lz_w L).length : Int) := by
  obtain ⟨⟨n1, n2⟩, n3⟩ := lz_take hL L.length (Nat.le_refl _)
  rw [List.take_length] at n1 n2 n3
  have hsp : ∀ i : Nat, (h : i < L.length) → L = L.take i ++ L[i] :: L.drop (i + 1) := fun i h => by
    rw [← List.drop_eq_getElem_cons h, List.take_append_drop]
  have hmid : ∀ (i : Nat) (h : i < L.length), sp_ok ((L.take i).foldl sp_hx 0) L[i] ∧ sp_q L[i] := fun i h => sp_wl_mid _ _ (L.drop (i + 1)) 0 0 (by rw [← hsp i h]; exact hw.1)
  refine ⟨by rw [n1], by rw [n2], by rw [n1]; have := lz_s_le L; omega, by rw [n2]; exact hm, fun i hi => ?_, ?_, fun i hi h0 => ?_, fun i hi => ?_⟩
  · obtain ⟨⟨a1, a2⟩, -⟩ := lz_take hL i (by omega)
    rw [hL i hi, a1, a2]
    refine ⟨fun hx => ?_, fun hx => ⟨?_, ?_⟩⟩
    · have e : lz_s L = lz_s (L.take i) ++ sp_enc L[i] :: lz_s (L.drop (i + 1)) := by
        conv => lhs; rw [hsp i hi]
        rw [lz_s_app, lz_s_c, if_neg (by omega)]
      have h := pv_app_m (lz_s (L.take i)) (sp_enc L[i]) (lz_s (L.drop (i + 1))) g1 0
      rw [← e, Int.zero_add] at h
      exact h
    · have e : lz_w L = lz_w (L.take i) ++ (-11 - L[i]) :: lz_w (L.drop (i + 1)) := by
        conv => lhs; rw [hsp i hi]
        rw [lz_w_app, lz_w_c, if_pos hx]
      have h := pv_app_m (lz_w (L.take i)) (-11 - L[i]) (lz_w (L.drop (i + 1))) g2 0
      rw [← e, Int.zero_add] at h
      exact h
    · have e : lz_e 0 L = lz_e 0 (L.take i) ++ (0 + ((lz_s (L.take i)).length : Int)) :: lz_e (0 + ((lz_s (L.take i)).length : Int)) (L.drop (i + 1)) := by
        conv => lhs; rw [hsp i hi]
        rw [lz_e_app, lz_e, if_pos hx]
      have h := pv_app_m (lz_e 0 (L.take i)) (0 + ((lz_s (L.take i)).length : Int)) (lz_e (0 + ((lz_s (L.take i)).length : Int)) (L.drop (i + 1))) g3 0
      rw [← e, Int.zero_add, lz_len] at h
      rw [h, Int.zero_add]
  · rcases hw.2 with e | ⟨Y, k, e, hk⟩
    · exact Or.inl (by rw [e]; rfl)
    · refine Or.inr ?_
      have hl : L.length = Y.length + 1 := by rw [e]; simp
      have h1 := hL Y.length (by omega)
      rw [show off + (L.length : Int) - 1 = off + (Y.length : Int) by omega, h1]
      have : L[Y.length]'(by omega) = k := by simp [e]
      rw [this]; exact hk
  · rw [hL i hi] at h0 ⊢
    exact (hmid i hi).2 h0
  · obtain ⟨-, a3⟩ := lz_take hL i (by omega)
    rw [hL i hi, a3]
    exact (hmid i hi).1
/-- the row behind emits -/
theorem sp_ems_at {a : Int} (ha : 0 ≤ a ∧ a ≤ 4) : ∀ (l : List Int) (s : Int → Int) (c : Int), s (294 + a) = c → 0 ≤ c → c + (l.length : Int) ≤ 140 → (∀ (i : Nat) (h : i < l.length), sp_ems s a l (299 + 140 * a + c + (i : Int)) = l[i]) ∧ ∀ j : Int, j ≠ 294 + a → (j < 299 + 140 * a + c ∨ 299 + 140 * a + c + (l.length : Int) ≤ j) → sp_ems s a l j = s j
  | [], s, c, hc, c0, c1 => ⟨fun i h => absurd h (by simp), fun j _ _ => rfl⟩
  | x :: l, s, c, hc, c0, c1 => by
    rw [List.length_cons] at c1
    have hc2 : sp_em1 a s x (294 + a) = c + 1 := by rw [sp_em1_c, hc]
    obtain ⟨h1, h2⟩ := sp_ems_at ha l (sp_em1 a s x) (c + 1) hc2 (by omega) (by omega)
    have hex : ∀ j : Int, j ≠ 294 + a → j ≠ 299 + 140 * a + c → sp_em1 a s x j = s j := fun j a1 a2 => by
      unfold sp_em1; rw [rj_up_ne _ _ a1, rj_up_ne _ _ (by rw [hc]; exact a2)]
    refine ⟨fun i h => ?_, fun j a1 a2 => ?_⟩
    · cases i with
      | zero =>
        show sp_ems (sp_em1 a s x) a l _ = x
        rw [h2 _ (by omega) (by omega)]
        unfold sp_em1
        rw [rj_up_ne _ _ (by omega), hc, show 299 + 140 * a + c + ((0 : Nat) : Int) = 299 + 140 * a + c by omega, rj_up_eq]
      | succ i =>
        have hi : i < l.length := by rw [List.length_cons] at h; omega
        show sp_ems (sp_em1 a s x) a l _ = l[i]'hi
        rw [← h1 i hi]
        congr 1
        omega
    · show sp_ems (sp_em1 a s x) a l j = _
      rw [List.length_cons] at a2
      rw [h2 j a1 (by omega)]
      exact hex j a1 (by omega)
/-- the row behind a valley's reading -/
theorem sp_vs_at {B : Int → Int} {a cl tn : Int} {L : List Int} (ha : 0 ≤ a ∧ a ≤ 4) (h0 : B (294 + a) = 0) (hl : L.length ≤ 120) : (∀ (i : Nat) (h : i < L.length), sp_vs B a L cl tn (299 + 140 * a + (i : Int)) = L[i]) ∧ sp_vs B a L cl tn (284 + a) = cl ∧ sp_vs B a L cl tn (289 + a) = tn ∧ sp_vs B a L cl tn (294 + a) = (L.length : Int) ∧ ∀ j : Int, j ≠ 284 + a → j ≠ 289 + a → j ≠ 294 + a → (j < 299 + 140 * a ∨ 299 + 140 * a + 140 ≤ j) → sp_vs B a L cl tn j = B j := by
  have hc : (rj_up (rj_up B (284 + a) cl) (289 + a) tn) (294 + a) = 0 := by rw [rj_up_ne _ _ (by omega), rj_up_ne _ _ (by omega), h0]
  obtain ⟨h1, h2⟩ := sp_ems_at ha L _ 0 hc (by omega) (by omega)
  unfold sp_vs
  refine ⟨fun i h => ?_, ?_, ?_, ?_, fun j a1 a2 a3 a4 => ?_⟩
  · rw [← h1 i h]; congr 1; omega
  · rw [h2 _ (by omega) (by omega), rj_up_ne _ _ (by omega), rj_up_eq]
  · rw [h2 _ (by omega) (by omega), rj_up_eq]
  · rw [sp_ems_c, hc]; omega
  · rw [h2 _ a3 (by omega), rj_up_ne _ _ a2, rj_up_ne _ _ a1]
