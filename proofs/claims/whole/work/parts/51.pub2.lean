/-! THE CLASS: of, is, free, can, plan, judged, has, worth, as, count, trace -/
def sp_prt (s : Int → Int) (m k : Int) : Int := if k = 0 then s (130 + m) else if k = 1 then s (136 + m) else if k = 2 then s (142 + m) else if k = 3 then s (148 + m) else if k = 4 then s (154 + m) else if k = 5 then s (160 + m) else s (166 + m)
theorem sp_prt_e {s : Int → Int} {m k : Int} (h : 0 ≤ k ∧ k ≤ 6) : sp_prt s m k = s (130 + 6 * k + m) := by
  unfold sp_prt
  rcases (show k = 0 ∨ k = 1 ∨ k = 2 ∨ k = 3 ∨ k = 4 ∨ k = 5 ∨ k = 6 by omega) with rfl | rfl | rfl | rfl | rfl | rfl | rfl <;> rfl
set_option maxRecDepth 20000 in
/-- x_part -/
theorem x_part {X9 : rj_X} {σ : rj_H} {d cb vv vk : Nat} {c : rm_R} {s : Int → Int} {m k : Int} {a : Nat} (hm : rc_mir cb vv vk σ s m a) (hkd : 0 ≤ s (130 + m) ∧ s (130 + m) ≤ 6) (hk : 0 ≤ k ∧ k ≤ 6) : rj_Cl X9 d yX2_part cX2_part 2 (some .int) [.ref a, rj_i k] (rc_p X9 cb vv vk c σ) (fun w9 τ => w9 = some (rj_i (sp_prt s m k)) ∧ τ = rc_p X9 cb vv vk c σ) := by
  refine go_call (by decide +kernel) (Nat.le_of_ble_eq_true rfl) ?_
  refine go_eq (pc' := 0) (lv' := [(0, .ref a), (1, rj_i k)]) (st' := []) rfl rfl rfl rfl ?_
  refine go_iload_n dX2_part_0 rfl 1 rfl ?_
  rcases (show k = 0 ∨ k = 1 ∨ k = 2 ∨ k = 3 ∨ k = 4 ∨ k = 5 ∨ k = 6 by omega) with rfl | rfl | rfl | rfl | rfl | rfl | rfl
  · refine go_tableIn (off := 43) (tgt := 44) dX2_part_1 (by decide) (by decide) (by decide) (by decide) ?_
    refine go_aload_n dX2_part_44 rfl 0 rfl ?_
    refine rc_gm hm hkd (k := 0) (by decide) fX2_9 rfl dX2_part_45 ?_
    refine go_retI rfl rfl ?_ dX2_part_48
    exact ⟨rj_vi (rfl), rfl⟩
  · refine go_tableIn (off := 48) (tgt := 49) dX2_part_1 (by decide) (by decide) (by decide) (by decide) ?_
    refine go_aload_n dX2_part_49 rfl 0 rfl ?_
    refine rc_gm hm hkd (k := 2) (by decide) fX2_18 rfl dX2_part_50 ?_
    refine go_retI rfl rfl ?_ dX2_part_53
    exact ⟨rj_vi (rfl), rfl⟩
  · refine go_tableIn (off := 53) (tgt := 54) dX2_part_1 (by decide) (by decide) (by decide) (by decide) ?_
    refine go_aload_n dX2_part_54 rfl 0 rfl ?_
    refine rc_gm hm hkd (k := 3) (by decide) fX2_21 rfl dX2_part_55 ?_
    refine go_retI rfl rfl ?_ dX2_part_58
    exact ⟨rj_vi (rfl), rfl⟩
  · refine go_tableIn (off := 58) (tgt := 59) dX2_part_1 (by decide) (by decide) (by decide) (by decide) ?_
    refine go_aload_n dX2_part_59 rfl 0 rfl ?_
    refine rc_gm hm hkd (k := 4) (by decide) fX2_27 rfl dX2_part_60 ?_
    refine go_retI rfl rfl ?_ dX2_part_63
    exact ⟨rj_vi (rfl), rfl⟩
  · refine go_tableIn (off := 63) (tgt := 64) dX2_part_1 (by decide) (by decide) (by decide) (by decide) ?_
    refine go_aload_n dX2_part_64 rfl 0 rfl ?_
    refine rc_gm hm hkd (k := 5) (by decide) fX2_30 rfl dX2_part_65 ?_
    refine go_retI rfl rfl ?_ dX2_part_68
    exact ⟨rj_vi (rfl), rfl⟩
  · refine go_tableIn (off := 68) (tgt := 69) dX2_part_1 (by decide) (by decide) (by decide) (by decide) ?_
    refine go_aload_n dX2_part_69 rfl 0 rfl ?_
    refine rc_gm hm hkd (k := 6) (by decide) fX2_24 rfl dX2_part_70 ?_
    refine go_retI rfl rfl ?_ dX2_part_73
    exact ⟨rj_vi (rfl), rfl⟩
  · refine go_tableIn (off := 73) (tgt := 74) dX2_part_1 (by decide) (by decide) (by decide) (by decide) ?_
    refine go_aload_n dX2_part_74 rfl 0 rfl ?_
    refine rc_gm hm hkd (k := 7) (by decide) fX2_33 rfl dX2_part_75 ?_
    refine go_retI rfl rfl ?_ dX2_part_78
    exact ⟨rj_vi (rfl), rfl⟩
set_option maxRecDepth 20000 in
theorem rv_part {X9 : rj_X} {nL : Nat} {rt9 : Option FieldType} {d9 : Nat} {P9 : Option Value → rj_H → Prop} {pc : Nat} {lv : List (Nat × Value)} {rest : List Value} {σ : rj_H} {cb vv vk : Nat} {c : rm_R} {s : Int → Int} {m : Int} {a : Nat} (hm : rc_mir cb vv vk σ s m a) (hkd : 0 ≤ s (130 + m) ∧ s (130 + m) ≤ 6) (hd : 1 ≤ d9) {k : Int} (hk9 : 0 ≤ k ∧ k ≤ 6) (hcat : (rest.map fun v => v.category).sum ≤ 8) (hdg : decode cX11_of pc = .ok (.invokevirtual 98, 3)) (kk : rj_Go X9 yX11_of cX11_of nL rt9 d9 P9 (pc + 3) lv (rj_i (s (130 + 6 * k + m)) :: rest) (rc_p X9 cb vv vk c σ)) : rj_Go X9 yX11_of cX11_of nL rt9 d9 P9 pc lv (rj_i k :: .ref a :: rest) (rc_p X9 cb vv vk c σ) := by
  have ha := rc_ma (X9 := X9) (c := c) hm
  rcases (show s (130 + m) = 0 ∨ s (130 + m) = 1 ∨ s (130 + m) = 2 ∨ s (130 + m) = 3 ∨ s (130 + m) = 4 ∨ s (130 + m) = 5 ∨ s (130 + m) = 6 by omega) with hk | hk | hk | hk | hk | hk | hk
  · have ha2 : (rc_p X9 cb vv vk c σ).2.2 a = some (.inr (2, rc_mf s m)) := by rw [hk] at ha; exact ha
    refine go_callV (d1 := d9 - 1) wVX11_98 kX2 ha2 rfl (by omega) (x_part (k := k) hm hkd hk9) rfl hcat hdg (fun w σ1 hP9 => ?_)
    obtain ⟨rfl, rfl⟩ := hP9
    exact go_eq rfl rfl (congrArg (fun z => rj_i z :: rest) (sp_prt_e hk9)) rfl kk
  · have ha2 : (rc_p X9 cb vv vk c σ).2.2 a = some (.inr (8, rc_mf s m)) := by rw [hk] at ha; exact ha
    refine go_callU (d1 := d9 - 1) wUX11_98_X8 kX8 ha2 rfl (by omega) (x_part (k := k) hm hkd hk9) rfl hcat hdg (fun w σ1 hP9 => ?_)
    obtain ⟨rfl, rfl⟩ := hP9
    exact go_eq rfl rfl (congrArg (fun z => rj_i z :: rest) (sp_prt_e hk9)) rfl kk
  · have ha2 : (rc_p X9 cb vv vk c σ).2.2 a = some (.inr (0, rc_mf s m)) := by rw [hk] at ha; exact ha
    refine go_callU (d1 := d9 - 1) wUX11_98_X0 kX0 ha2 rfl (by omega) (x_part (k := k) hm hkd hk9) rfl hcat hdg (fun w σ1 hP9 => ?_)
    obtain ⟨rfl, rfl⟩ := hP9
    exact go_eq rfl rfl (congrArg (fun z => rj_i z :: rest) (sp_prt_e hk9)) rfl kk
  · have ha2 : (rc_p X9 cb vv vk c σ).2.2 a = some (.inr (3, rc_mf s m)) := by rw [hk] at ha; exact ha
    refine go_callU (d1 := d9 - 1) wUX11_98_X3 kX3 ha2 rfl (by omega) (x_part (k := k) hm hkd hk9) rfl hcat hdg (fun w σ1 hP9 => ?_)
    obtain ⟨rfl, rfl⟩ := hP9
    exact go_eq rfl rfl (congrArg (fun z => rj_i z :: rest) (sp_prt_e hk9)) rfl kk
  · have ha2 : (rc_p X9 cb vv vk c σ).2.2 a = some (.inr (1, rc_mf s m)) := by rw [hk] at ha; exact ha
    refine go_callU (d1 := d9 - 1) wUX11_98_X1 kX1 ha2 rfl (by omega) (x_part (k := k) hm hkd hk9) rfl hcat hdg (fun w σ1 hP9 => ?_)
    obtain ⟨rfl, rfl⟩ := hP9
    exact go_eq rfl rfl (congrArg (fun z => rj_i z :: rest) (sp_prt_e hk9)) rfl kk
  · have ha2 : (rc_p X9 cb vv vk c σ).2.2 a = some (.inr (4, rc_mf s m)) := by rw [hk] at ha; exact ha
    refine go_callU (d1 := d9 - 1) wUX11_98_X4 kX4 ha2 rfl (by omega) (x_part (k := k) hm hkd hk9) rfl hcat hdg (fun w σ1 hP9 => ?_)
    obtain ⟨rfl, rfl⟩ := hP9
    exact go_eq rfl rfl (congrArg (fun z => rj_i z :: rest) (sp_prt_e hk9)) rfl kk
  · have ha2 : (rc_p X9 cb vv vk c σ).2.2 a = some (.inr (6, rc_mf s m)) := by rw [hk] at ha; exact ha
    refine go_callU (d1 := d9 - 1) wUX11_98_X6 kX6 ha2 rfl (by omega) (x_part (k := k) hm hkd hk9) rfl hcat hdg (fun w σ1 hP9 => ?_)
    obtain ⟨rfl, rfl⟩ := hP9
    exact go_eq rfl rfl (congrArg (fun z => rj_i z :: rest) (sp_prt_e hk9)) rfl kk
set_option maxRecDepth 20000 in
/-- x_of -/
theorem x_of {X9 : rj_X} {σ : rj_H} {d cb vv vk : Nat} {c : rm_R} {m k : Int} (hd : 2 ≤ d) (hm : -2147483648 ≤ m ∧ m < 2147483648) (hk : -2147483648 ≤ k ∧ k < 2147483648) {s : Int → Int} {ad : Nat → Int → Nat} (hR : rc_R X9 cb vv vk c σ s ad) (hI : sp_I s) : rj_Cl X9 d yX11_of cX11_of 4 (some .int) [.ref cb, rj_i m, rj_i k] (rc_p X9 cb vv vk c σ) (fun w9 τ => w9 = some (rj_i (sp_of s m k)) ∧ τ = rc_p X9 cb vv vk c σ) := by
  obtain ⟨⟨h0, h1, h2, h3, h4, h5, h6, h7⟩, hM, hP, hW, hL, hV⟩ := id hI
  obtain ⟨v1, v2, v3, v4⟩ := id hV
  refine go_call (by decide +kernel) (Nat.le_of_ble_eq_true rfl) ?_
  refine go_eq (pc' := 0) (lv' := [(0, .ref cb), (1, rj_i m), (2, rj_i k)]) (st' := []) rfl rfl rfl rfl ?_
  refine go_aload_n dX11_of_0 rfl 0 rfl ?_
  refine rc_gx hR.V (k := 0) (by decide) fX11_12 rfl dX11_of_1 ?_
  refine go_iload_n dX11_of_4 rfl 1 rfl ?_
  by_cases hm : 0 ≤ m ∧ m < s 0
  · refine go_callV (d1 := d - 1) wVX11_94 kX5 (rc_a1 hR.V) rfl (by omega) (x_mirrorAt_y (m := m) (by omega) hR hI hm) rfl (Nat.le_of_ble_eq_true rfl) dX11_of_5 (fun w σ1 hP9 => ?_)
    obtain ⟨rfl, rfl⟩ := hP9
    refine go_astore_nS (lv' := [(0, .ref cb), (1, rj_i m), (2, rj_i k), (3, .ref (ad 0 m))]) rfl (by decide) rfl dX11_of_8 ?_
    refine go_aload_n dX11_of_9 rfl 3 rfl ?_
    refine go_ifnull dX11_of_10 ?_
    refine go_iload_n dX11_of_13 rfl 2 rfl ?_
    refine go_if_ltI (tgt := 23) (by omega) dX11_of_14 (by decide) (fun c_14 => ?_) (fun c_14 => ?_)
    · refine go_iconst (v := Int32.ofInt (-1)) dX11_of_23 rfl ?_
      refine go_retI rfl rfl ?_ dX11_of_24
      exact ⟨rj_vi (by unfold sp_of; rw [if_neg (by omega)]), rfl⟩
    · refine go_iload_n dX11_of_17 rfl 2 rfl ?_
      refine go_bipush (v := Int32.ofInt 7) dX11_of_18 (by decide) ?_
      refine go_icmp_ltI (tgt := 25) (by omega) (by omega) dX11_of_20 (by decide) (fun c_20 => ?_) (fun c_20 => ?_)
      · refine go_aload_n dX11_of_25 rfl 3 rfl ?_
        refine go_iload_n dX11_of_26 rfl 2 rfl ?_
        refine rv_part (m := m) (k := k) (hR.mir m (by omega) (by omega)).2 (hM m (by omega) (by omega)).1 (by omega) (by omega) (Nat.le_of_ble_eq_true rfl) dX11_of_27 ?_
        refine go_retI rfl rfl ?_ dX11_of_30
        exact ⟨rj_vi (by unfold sp_of; rw [if_pos (by omega)]), rfl⟩
      · refine go_iconst (v := Int32.ofInt (-1)) dX11_of_23 rfl ?_
        refine go_retI rfl rfl ?_ dX11_of_24
        exact ⟨rj_vi (by unfold sp_of; rw [if_neg (by omega)]), rfl⟩
  · refine go_callV (d1 := d - 1) wVX11_94 kX5 (rc_a1 hR.V) rfl (by omega) (x_mirrorAt_n0 (m := m) (by omega) (by omega) hR hI hm) rfl (Nat.le_of_ble_eq_true rfl) dX11_of_5 (fun w σ1 hP9 => ?_)
    obtain ⟨rfl, rfl⟩ := hP9
    refine go_astore_nSN (lv' := [(0, .ref cb), (1, rj_i m), (2, rj_i k), (3, .null)]) rfl (by decide) rfl dX11_of_8 ?_
    refine go_aload_nN dX11_of_9 rfl 3 rfl ?_
    refine go_ifnullN (tgt := 23) dX11_of_10 (by decide) ?_
    refine go_iconst (v := Int32.ofInt (-1)) dX11_of_23 rfl ?_
    refine go_retI rfl rfl ?_ dX11_of_24
    exact ⟨rj_vi (by unfold sp_of; rw [if_neg (by omega)]), rfl⟩
set_option maxRecDepth 20000 in
/-- x_is -/
theorem x_is {X9 : rj_X} {σ : rj_H} {d cb vv vk : Nat} {c : rm_R} {p k : Int} (hd : 1 ≤ d) (hp : -2147483648 ≤ p ∧ p < 2147483648) (hk : -2147483648 ≤ k ∧ k < 2147483648) {s : Int → Int} {ad : Nat → Int → Nat} (hR : rc_R X9 cb vv vk c σ s ad) (hI : sp_I s) : rj_Cl X9 d yX11_is cX11_is 3 (some .int) [.ref cb, rj_i p, rj_i k] (rc_p X9 cb vv vk c σ) (fun w9 τ => w9 = some (rj_i (sp_is s p k)) ∧ τ = rc_p X9 cb vv vk c σ) := by
  obtain ⟨⟨h0, h1, h2, h3, h4, h5, h6, h7⟩, hM, hP, hW, hL, hV⟩ := id hI
  obtain ⟨v1, v2, v3, v4⟩ := id hV
  refine go_call (by decide +kernel) (Nat.le_of_ble_eq_true rfl) ?_
  refine go_eq (pc' := 0) (lv' := [(0, .ref cb), (1, rj_i p), (2, rj_i k)]) (st' := []) rfl rfl rfl rfl ?_
  refine go_aload_n dX11_is_0 rfl 0 rfl ?_
  refine rc_gx hR.V (k := 0) (by decide) fX11_12 rfl dX11_is_1 ?_
  refine go_iload_n dX11_is_4 rfl 1 rfl ?_
  refine go_callV (d1 := d - 1) wVX11_104 kX5 (rc_a1 hR.V) rfl (by omega) (x_hasPatch (p := p) (by omega) hR hI) rfl (Nat.le_of_ble_eq_true rfl) dX11_is_5 (fun w σ1 hP9 => ?_)
  obtain ⟨rfl, rfl⟩ := hP9
  refine go_if_eqB (tgt := 20) dX11_is_8 (by decide) (fun c_8 => ?_) (fun c_8 => ?_)
  · refine go_iconst (v := Int32.ofInt (-1)) dX11_is_20 rfl ?_
    refine go_retI rfl rfl ?_ dX11_is_21
    exact ⟨rj_vi (by unfold sp_is; rw [if_neg (by omega)]), rfl⟩
  · refine go_iload_n dX11_is_11 rfl 2 rfl ?_
    refine go_if_ltI (tgt := 20) (by omega) dX11_is_12 (by decide) (fun c_12 => ?_) (fun c_12 => ?_)
    · refine go_iconst (v := Int32.ofInt (-1)) dX11_is_20 rfl ?_
      refine go_retI rfl rfl ?_ dX11_is_21
      exact ⟨rj_vi (by unfold sp_is; rw [if_neg (by omega)]), rfl⟩
    · refine go_iload_n dX11_is_15 rfl 2 rfl ?_
      refine go_iconst (v := Int32.ofInt 4) dX11_is_16 rfl ?_
      refine go_icmp_ltI (tgt := 22) (by omega) (by omega) dX11_is_17 (by decide) (fun c_17 => ?_) (fun c_17 => ?_)
      · refine go_aload_n dX11_is_22 rfl 0 rfl ?_
        refine rc_gx hR.V (k := 0) (by decide) fX11_12 rfl dX11_is_23 ?_
        refine rc_gs hR.V (k := 2) (v := .ref (cb + 3)) (by decide) fX11_79 rfl dX11_is_26 ?_
        refine go_iload_n dX11_is_29 rfl 1 rfl ?_
        refine rc_r4 hR.V (z := p) (by omega) (by omega) dX11_is_30 ?_
        refine go_iload_n dX11_is_31 rfl 2 rfl ?_
        rcases (show k = 0 ∨ k = 1 ∨ k = 2 ∨ k = 3 by omega) with rfl | rfl | rfl | rfl
        · refine rc_ip0 hR (p := p) (by omega) (by omega) h1 dX11_is_32 ?_
          refine go_retI rfl rfl ?_ dX11_is_33
          exact ⟨rj_vi (by unfold sp_is; rw [if_pos (by omega)]; congr 1), rfl⟩
        · refine rc_ip1 hR (p := p) (by omega) (by omega) h1 dX11_is_32 ?_
          refine go_retI rfl rfl ?_ dX11_is_33
          exact ⟨rj_vi (by unfold sp_is; rw [if_pos (by omega)]; congr 1), rfl⟩
        · refine rc_ip2 hR (p := p) (by omega) (by omega) h1 dX11_is_32 ?_
          refine go_retI rfl rfl ?_ dX11_is_33
          exact ⟨rj_vi (by unfold sp_is; rw [if_pos (by omega)]; congr 1), rfl⟩
        · refine rc_ip3 hR (p := p) (by omega) (by omega) h1 dX11_is_32 ?_
          refine go_retI rfl rfl ?_ dX11_is_33
          exact ⟨rj_vi (by unfold sp_is; rw [if_pos (by omega)]; congr 1), rfl⟩
      · refine go_iconst (v := Int32.ofInt (-1)) dX11_is_20 rfl ?_
        refine go_retI rfl rfl ?_ dX11_is_21
        exact ⟨rj_vi (by unfold sp_is; rw [if_neg (by omega)]), rfl⟩
set_option maxRecDepth 20000 in
/-- x_free -/
theorem x_free {X9 : rj_X} {σ : rj_H} {d cb vv vk : Nat} {c : rm_R} {m p : Int} (hd : 3 ≤ d) (hm : -2147483648 ≤ m ∧ m < 2147483648) (hp : -2147483648 ≤ p ∧ p < 2147483648) {s : Int → Int} {ad : Nat → Int → Nat} (hR : rc_R X9 cb vv vk c σ s ad) (hI : sp_I s) : rj_Cl X9 d yX11_free cX11_free 4 (some .int) [.ref cb, rj_i m, rj_i p] (rc_p X9 cb vv vk c σ) (fun w9 τ => w9 = some (rj_i (sp_freeF s m p)) ∧ τ = rc_p X9 cb vv vk c σ) := by
  obtain ⟨⟨h0, h1, h2, h3, h4, h5, h6, h7⟩, hM, hP, hW, hL, hV⟩ := id hI
  obtain ⟨v1, v2, v3, v4⟩ := id hV
  refine go_call (by decide +kernel) (Nat.le_of_ble_eq_true rfl) ?_
  refine go_eq (pc' := 0) (lv' := [(0, .ref cb), (1, rj_i m), (2, rj_i p)]) (st' := []) rfl rfl rfl rfl ?_
  refine go_aload_n dX11_free_0 rfl 0 rfl ?_
  refine rc_gx hR.V (k := 0) (by decide) fX11_12 rfl dX11_free_1 ?_
  refine go_iload_n dX11_free_4 rfl 1 rfl ?_
  by_cases hm : 0 ≤ m ∧ m < s 0
  · refine go_callV (d1 := d - 1) wVX11_94 kX5 (rc_a1 hR.V) rfl (by omega) (x_mirrorAt_y (m := m) (by omega) hR hI hm) rfl (Nat.le_of_ble_eq_true rfl) dX11_free_5 (fun w σ1 hP9 => ?_)
    obtain ⟨rfl, rfl⟩ := hP9
    refine go_astore_nS (lv' := [(0, .ref cb), (1, rj_i m), (2, rj_i p), (3, .ref (ad 0 m))]) rfl (by decide) rfl dX11_free_8 ?_
    refine go_aload_n dX11_free_9 rfl 3 rfl ?_
    refine go_ifnull dX11_free_10 ?_
    refine go_aload_n dX11_free_13 rfl 0 rfl ?_
    refine rc_gx hR.V (k := 0) (by decide) fX11_12 rfl dX11_free_14 ?_
    refine go_iload_n dX11_free_17 rfl 2 rfl ?_
    refine go_callV (d1 := d - 1) wVX11_104 kX5 (rc_a1 hR.V) rfl (by omega) (x_hasPatch (p := p) (by omega) hR hI) rfl (Nat.le_of_ble_eq_true rfl) dX11_free_18 (fun w σ1 hP9 => ?_)
    obtain ⟨rfl, rfl⟩ := hP9
    refine go_if_neB (tgt := 26) dX11_free_21 (by decide) (fun c_21 => ?_) (fun c_21 => ?_)
    · refine go_aload_n dX11_free_26 rfl 0 rfl ?_
      refine rc_gx hR.V (k := 0) (by decide) fX11_12 rfl dX11_free_27 ?_
      refine go_aload_n dX11_free_30 rfl 3 rfl ?_
      refine go_iload_n dX11_free_31 rfl 2 rfl ?_
      refine go_callV (d1 := d - 1) wVX11_128 kX5 (rc_a1 hR.V) rfl (by omega) (x_wayFree (m := m) (p := p) (by omega) hR hI (by omega) (by omega)) rfl (Nat.le_of_ble_eq_true rfl) dX11_free_32 (fun w σ1 hP9 => ?_)
      obtain ⟨rfl, rfl⟩ := hP9
      refine go_if_eqB (tgt := 42) dX11_free_35 (by decide) (fun c_35 => ?_) (fun c_35 => ?_)
      · refine go_iconst (v := Int32.ofInt 0) dX11_free_42 rfl ?_
        refine go_retI rfl rfl ?_ dX11_free_43
        exact ⟨rj_vi (by unfold sp_freeF; rw [if_pos (by omega)]; exact (rj_bf c_35).symm), rfl⟩
      · refine go_iconst (v := Int32.ofInt 1) dX11_free_38 rfl ?_
        refine go_goto (tgt := 43) dX11_free_39 (by decide) ?_
        refine go_retI rfl rfl ?_ dX11_free_43
        exact ⟨rj_vi (by unfold sp_freeF; rw [if_pos (by omega)]; exact (rj_bt c_35).symm), rfl⟩
    · refine go_iconst (v := Int32.ofInt (-1)) dX11_free_24 rfl ?_
      refine go_retI rfl rfl ?_ dX11_free_25
      exact ⟨rj_vi (by unfold sp_freeF; rw [if_neg (by omega)]), rfl⟩
  · refine go_callV (d1 := d - 1) wVX11_94 kX5 (rc_a1 hR.V) rfl (by omega) (x_mirrorAt_n0 (m := m) (by omega) (by omega) hR hI hm) rfl (Nat.le_of_ble_eq_true rfl) dX11_free_5 (fun w σ1 hP9 => ?_)
    obtain ⟨rfl, rfl⟩ := hP9
    refine go_astore_nSN (lv' := [(0, .ref cb), (1, rj_i m), (2, rj_i p), (3, .null)]) rfl (by decide) rfl dX11_free_8 ?_
    refine go_aload_nN dX11_free_9 rfl 3 rfl ?_
    refine go_ifnullN (tgt := 24) dX11_free_10 (by decide) ?_
    refine go_iconst (v := Int32.ofInt (-1)) dX11_free_24 rfl ?_
    refine go_retI rfl rfl ?_ dX11_free_25
    exact ⟨rj_vi (by unfold sp_freeF; rw [if_neg (by omega)]), rfl⟩
set_option maxRecDepth 20000 in
/-- x_canP -/
theorem x_canP {X9 : rj_X} {σ : rj_H} {d cb vv vk : Nat} {c : rm_R} {m p w : Int} (hd : 5 ≤ d) (hm : -2147483648 ≤ m ∧ m < 2147483648) (hp : -2147483648 ≤ p ∧ p < 2147483648) (hw : -2147483648 ≤ w ∧ w < 2147483648) {s : Int → Int} {ad : Nat → Int → Nat} (hR : rc_R X9 cb vv vk c σ s ad) (hI : sp_I s) : rj_Cl X9 d yX11_can cX11_can 5 (some .int) [.ref cb, rj_i m, rj_i p, rj_i w] (rc_p X9 cb vv vk c σ) (fun w9 τ => w9 = some (rj_i (sp_canF s m p w)) ∧ ∃ c0, rc_t 92 c c0 ∧ τ = rc_p X9 cb vv vk c0 σ) := by
  obtain ⟨⟨h0, h1, h2, h3, h4, h5, h6, h7⟩, hM, hP, hW, hL, hV⟩ := id hI
  obtain ⟨v1, v2, v3, v4⟩ := id hV
  refine go_call (by decide +kernel) (Nat.le_of_ble_eq_true rfl) ?_
  refine go_eq (pc' := 0) (lv' := [(0, .ref cb), (1, rj_i m), (2, rj_i p), (3, rj_i w)]) (st' := []) rfl rfl rfl rfl ?_
  refine go_aload_n dX11_can_0 rfl 0 rfl ?_
  refine rc_gx hR.V (k := 0) (by decide) fX11_12 rfl dX11_can_1 ?_
  refine go_iload_n dX11_can_4 rfl 1 rfl ?_
  by_cases hm : 0 ≤ m ∧ m < s 0
  · refine go_callV (d1 := d - 1) wVX11_94 kX5 (rc_a1 hR.V) rfl (by omega) (x_mirrorAt_y (m := m) (by omega) hR hI hm) rfl (Nat.le_of_ble_eq_true rfl) dX11_can_5 (fun w σ1 hP9 => ?_)
    obtain ⟨rfl, rfl⟩ := hP9
    refine go_astoreS (lv' := [(0, .ref cb), (1, rj_i m), (2, rj_i p), (3, rj_i w), (4, .ref (ad 0 m))]) (by decide) rfl dX11_can_8 ?_
    refine go_aload dX11_can_10 4 rfl ?_
    refine go_ifnull dX11_can_12 ?_
    refine go_aload_n dX11_can_15 rfl 0 rfl ?_
    refine rc_gx hR.V (k := 0) (by decide) fX11_12 rfl dX11_can_16 ?_
    refine go_iload_n dX11_can_19 rfl 2 rfl ?_
    refine go_callV (d1 := d - 1) wVX11_104 kX5 (rc_a1 hR.V) rfl (by omega) (x_hasPatch (p := p) (by omega) hR hI) rfl (Nat.le_of_ble_eq_true rfl) dX11_can_20 (fun w σ1 hP9 => ?_)
    obtain ⟨rfl, rfl⟩ := hP9
    refine go_if_eqB (tgt := 35) dX11_can_23 (by decide) (fun c_23 => ?_) (fun c_23 => ?_)
    · refine go_iconst (v := Int32.ofInt (-1)) dX11_can_35 rfl ?_
      refine go_retI rfl rfl ?_ dX11_can_36
      exact ⟨rj_vi (by unfold sp_canF; rw [if_neg (by omega)]), c, rc_t.rf, rfl⟩
    · refine go_iload_n dX11_can_26 rfl 3 rfl ?_
      refine go_if_ltI (tgt := 35) (by omega) dX11_can_27 (by decide) (fun c_27 => ?_) (fun c_27 => ?_)
      · refine go_iconst (v := Int32.ofInt (-1)) dX11_can_35 rfl ?_
        refine go_retI rfl rfl ?_ dX11_can_36
        exact ⟨rj_vi (by unfold sp_canF; rw [if_neg (by omega)]), c, rc_t.rf, rfl⟩
      · refine go_iload_n dX11_can_30 rfl 3 rfl ?_
        refine go_iconst (v := Int32.ofInt 1) dX11_can_31 rfl ?_
        refine go_icmp_leI (tgt := 37) (by omega) (by omega) dX11_can_32 (by decide) (fun c_32 => ?_) (fun c_32 => ?_)
        · refine go_iload_n dX11_can_37 rfl 3 rfl ?_
          refine go_if_neI (tgt := 53) (by omega) dX11_can_38 (by decide) (fun c_38 => ?_) (fun c_38 => ?_)
          · refine go_aload_n dX11_can_53 rfl 0 rfl ?_
            refine rc_gx hR.V (k := 0) (by decide) fX11_12 rfl dX11_can_54 ?_
            refine go_aload dX11_can_57 4 rfl ?_
            refine go_iload_n dX11_can_59 rfl 2 rfl ?_
            refine go_aload_n dX11_can_60 rfl 0 rfl ?_
            refine rc_gx hR.V (k := 0) (by decide) fX11_12 rfl dX11_can_61 ?_
            refine rc_gs hR.V (k := 11) (v := rj_i (s 4)) (by decide) fX11_136 (rj_vi hR.n4) dX11_can_64 ?_
            refine go_callV (d1 := d - 1) wVX11_139 kX5 (rc_a1 hR.V) rfl (by omega) (x_can (m := m) (p := p) (D := s 4) (by omega) hR hI (by omega) (by omega) (by omega)) rfl (Nat.le_of_ble_eq_true rfl) dX11_can_67 (fun w σ1 hP9 => ?_)
            obtain ⟨rfl, c1, hc1, rfl⟩ := hP9
            have hr1 : rc_t 92 c c1 := hc1
            refine go_retI rfl rfl ?_ dX11_can_70
            exact ⟨rj_vi (by unfold sp_canF; rw [if_pos (by omega)]; exact sp_bits_ext (fun q _ _ => by unfold sp_canB; rw [if_neg (by omega)])), c1, hr1, rfl⟩
          · refine go_aload_n dX11_can_41 rfl 0 rfl ?_
            refine rc_gx hR.V (k := 0) (by decide) fX11_12 rfl dX11_can_42 ?_
            refine go_aload dX11_can_45 4 rfl ?_
            refine go_callV (d1 := d - 1) wVX11_132 kX5 (rc_a1 hR.V) rfl (by omega) (x_lit (m := m) (by omega) hR hI (by omega)) rfl (Nat.le_of_ble_eq_true rfl) dX11_can_47 (fun w σ1 hP9 => ?_)
            obtain ⟨rfl, c1, hc1, rfl⟩ := hP9
            have hr1 : rc_t 92 c c1 := hc1
            refine go_goto (tgt := 70) dX11_can_50 (by decide) ?_
            refine go_retI rfl rfl ?_ dX11_can_70
            exact ⟨rj_vi (by unfold sp_canF; rw [if_pos (by omega)]; exact sp_bits_ext (fun q _ _ => by unfold sp_canB; rw [if_pos (by omega)])), c1, hr1, rfl⟩
        · refine go_iconst (v := Int32.ofInt (-1)) dX11_can_35 rfl ?_
          refine go_retI rfl rfl ?_ dX11_can_36
          exact ⟨rj_vi (by unfold sp_canF; rw [if_neg (by omega)]), c, rc_t.rf, rfl⟩
  · refine go_callV (d1 := d - 1) wVX11_94 kX5 (rc_a1 hR.V) rfl (by omega) (x_mirrorAt_n0 (m := m) (by omega) (by omega) hR hI hm) rfl (Nat.le_of_ble_eq_true rfl) dX11_can_5 (fun w σ1 hP9 => ?_)
    obtain ⟨rfl, rfl⟩ := hP9
    refine go_astoreSN (lv' := [(0, .ref cb), (1, rj_i m), (2, rj_i p), (3, rj_i w), (4, .null)]) (by decide) rfl dX11_can_8 ?_
    refine go_aloadN dX11_can_10 4 rfl ?_
    refine go_ifnullN (tgt := 35) dX11_can_12 (by decide) ?_
    refine go_iconst (v := Int32.ofInt (-1)) dX11_can_35 rfl ?_
    refine go_retI rfl rfl ?_ dX11_can_36
    exact ⟨rj_vi (by unfold sp_canF; rw [if_neg (by omega)]), c, rc_t.rf, rfl⟩
set_option maxRecDepth 20000 in
/-- x_far -/
theorem x_far {X9 : rj_X} {σ : rj_H} {d cb vv vk : Nat} {c : rm_R} {p q : Int} (hd : 1 ≤ d) (hp : -1 ≤ p ∧ p ≤ 6) (hq : -1 ≤ q ∧ q ≤ 6) {s : Int → Int} {ad : Nat → Int → Nat} (hR : rc_R X9 cb vv vk c σ s ad) (hI : sp_I s) : rj_Cl X9 d yX11_turnsTooFar cX11_turnsTooFar 3 (some .boolean) [.ref cb, rj_i p, rj_i q] (rc_p X9 cb vv vk c σ) (fun w9 τ => w9 = some (rj_i (rj_b (sp_far s p q = true))) ∧ τ = rc_p X9 cb vv vk c σ) := by
  obtain ⟨⟨h0, h1, h2, h3, h4, h5, h6, h7⟩, hM, hP, hW, hL, hV⟩ := id hI
  obtain ⟨v1, v2, v3, v4⟩ := id hV
  have bz := rj_abs_b (z := p - q) (A := 7) (by omega)
  refine go_call (by decide +kernel) (Nat.le_of_ble_eq_true rfl) ?_
  refine go_eq (pc' := 0) (lv' := [(0, .ref cb), (1, rj_i p), (2, rj_i q)]) (st' := []) rfl rfl rfl rfl ?_
  refine go_iload_n dX11_turnsTooFar_0 rfl 1 rfl ?_
  refine go_if_ltI (tgt := 31) (by omega) dX11_turnsTooFar_1 (by decide) (fun c_1 => ?_) (fun c_1 => ?_)
  · refine go_iconst (v := Int32.ofInt 0) dX11_turnsTooFar_31 rfl ?_
    refine go_retI rfl (rj_n01 (by decide)) ?_ dX11_turnsTooFar_32
    exact ⟨rj_vi (rj_bf (by unfold sp_far; simp; omega)).symm, rfl⟩
  · refine go_iload_n dX11_turnsTooFar_4 rfl 2 rfl ?_
    refine go_if_ltI (tgt := 31) (by omega) dX11_turnsTooFar_5 (by decide) (fun c_5 => ?_) (fun c_5 => ?_)
    · refine go_iconst (v := Int32.ofInt 0) dX11_turnsTooFar_31 rfl ?_
      refine go_retI rfl (rj_n01 (by decide)) ?_ dX11_turnsTooFar_32
      exact ⟨rj_vi (rj_bf (by unfold sp_far; simp; omega)).symm, rfl⟩
    · refine go_iload_n dX11_turnsTooFar_8 rfl 1 rfl ?_
      refine go_iload_n dX11_turnsTooFar_9 rfl 2 rfl ?_
      refine go_subI dX11_turnsTooFar_10 ?_
      refine go_mabs (a := p - q) (by omega) wSX11_323 (by omega) (Nat.le_of_ble_eq_true rfl) dX11_turnsTooFar_11 ?_
      refine go_aload_n dX11_turnsTooFar_14 rfl 0 rfl ?_
      refine rc_gx hR.V (k := 0) (by decide) fX11_12 rfl dX11_turnsTooFar_15 ?_
      refine rc_gs hR.V (k := 8) (v := .ref (ad 2 0)) (by decide) fX11_124 hR.vref dX11_turnsTooFar_18 ?_
      refine rc_gv8 hR fX11_326 dX11_turnsTooFar_21 ?_
      refine go_icmp_leI (tgt := 31) (by omega) (by omega) dX11_turnsTooFar_24 (by decide) (fun c_24 => ?_) (fun c_24 => ?_)
      · refine go_iconst (v := Int32.ofInt 0) dX11_turnsTooFar_31 rfl ?_
        refine go_retI rfl (rj_n01 (by decide)) ?_ dX11_turnsTooFar_32
        exact ⟨rj_vi (rj_bf (by unfold sp_far; simp; omega)).symm, rfl⟩
      · refine go_iconst (v := Int32.ofInt 1) dX11_turnsTooFar_27 rfl ?_
        refine go_goto (tgt := 32) dX11_turnsTooFar_28 (by decide) ?_
        refine go_retI rfl (rj_n01 (by decide)) ?_ dX11_turnsTooFar_32
        exact ⟨rj_vi (rj_bt (by unfold sp_far; simp; omega)).symm, rfl⟩
theorem sp_far_c (s : Int → Int) (p q : Int) : sp_far s p q = sp_far s q p := by
  unfold sp_far
  have e : rj_abs (p - q) = rj_abs (q - p) := by unfold rj_abs; (repeat' split) <;> omega
  rw [e, Bool.and_comm (decide (p ≠ -1))]
set_option maxRecDepth 20000 in
/-- x_canBe -/
theorem x_canBe {X9 : rj_X} {σ : rj_H} {d cb vv vk : Nat} {c : rm_R} {m q : Int} (hd : 5 ≤ d) {s : Int → Int} {ad : Nat → Int → Nat} (hR : rc_R X9 cb vv vk c σ s ad) (hI : sp_I s) (hm : 0 ≤ m ∧ m < s 0) (hq : 0 ≤ q ∧ q < 8) : rj_Cl X9 d yX11_canBe cX11_canBe 5 (some .boolean) [.ref cb, .ref (ad 0 m), rj_i q] (rc_p X9 cb vv vk c σ) (fun w9 τ => w9 = some (rj_i (rj_b (sp_jB s q m = false))) ∧ ∃ c0, rc_t 92 c c0 ∧ τ = rc_p X9 cb vv vk c0 σ) := by
  obtain ⟨⟨h0, h1, h2, h3, h4, h5, h6, h7⟩, hM, hP, hW, hL, hV⟩ := id hI
  obtain ⟨v1, v2, v3, v4⟩ := id hV
  have hl1 := hL m q (by omega) (by omega) (by omega) (by omega)
  have hl2 : 0 < q → -1 ≤ s (236 + 8 * m + (q - 1)) ∧ s (236 + 8 * m + (q - 1)) < s 1 := fun h => hL m (q - 1) (by omega) (by omega) (by omega) (by omega)
  refine go_call (by decide +kernel) (Nat.le_of_ble_eq_true rfl) ?_
  refine go_eq (pc' := 0) (lv' := [(0, .ref cb), (1, .ref (ad 0 m)), (2, rj_i q)]) (st' := []) rfl rfl rfl rfl ?_
  refine go_aload_n dX11_canBe_0 rfl 0 rfl ?_
  refine rc_gx hR.V (k := 0) (by decide) fX11_12 rfl dX11_canBe_1 ?_
  refine rc_gs hR.V (k := 10) (v := .ref (cb + 18)) (by decide) fX11_146 rfl dX11_canBe_4 ?_
  refine go_aload_n dX11_canBe_7 rfl 1 rfl ?_
  refine rc_gm (hR.mir m (by omega) (by omega)).2 ((hM m (by omega) (by omega)).1) (k := 1) (by decide) fX11_317 rfl dX11_canBe_8 ?_
  refine rc_r19 hR.V (z := m) (by omega) (by omega) dX11_canBe_11 ?_
  refine go_astore_nS (lv' := [(0, .ref cb), (1, .ref (ad 0 m)), (2, rj_i q), (3, .ref (cb + (19 + m.toNat)))]) rfl (by decide) rfl dX11_canBe_12 ?_
  refine go_aload_n dX11_canBe_13 rfl 3 rfl ?_
  refine go_iload_n dX11_canBe_14 rfl 2 rfl ?_
  refine rc_il hR (m := m) (q := q) (by omega) (by omega) (by omega) (by omega) dX11_canBe_15 ?_
  refine go_istoreS (lv' := [(0, .ref cb), (1, .ref (ad 0 m)), (2, rj_i q), (3, .ref (cb + (19 + m.toNat))), (4, rj_i (s (236 + 8 * m + q)))]) (by decide) rfl dX11_canBe_16 ?_
  refine go_iload dX11_canBe_18 4 rfl ?_
  refine go_if_geI (tgt := 25) (by omega) dX11_canBe_20 (by decide) (fun c_20 => ?_) (fun c_20 => ?_)
  · refine go_iload_n dX11_canBe_25 rfl 2 rfl ?_
    refine go_if_leI (tgt := 45) (by omega) dX11_canBe_26 (by decide) (fun c_26 => ?_) (fun c_26 => ?_)
    · refine go_aload_n dX11_canBe_45 rfl 0 rfl ?_
      refine rc_gx hR.V (k := 0) (by decide) fX11_12 rfl dX11_canBe_46 ?_
      refine go_aload_n dX11_canBe_49 rfl 1 rfl ?_
      refine go_iload dX11_canBe_50 4 rfl ?_
      refine go_aload_n dX11_canBe_52 rfl 0 rfl ?_
      refine rc_gx hR.V (k := 0) (by decide) fX11_12 rfl dX11_canBe_53 ?_
      refine rc_gs hR.V (k := 11) (v := rj_i (s 4)) (by decide) fX11_136 (rj_vi hR.n4) dX11_canBe_56 ?_
      refine go_callV (d1 := d - 1) wVX11_139 kX5 (rc_a1 hR.V) rfl (by omega) (x_can (m := m) (p := s (236 + 8 * m + q)) (D := s 4) (by omega) hR hI (by omega) (by omega) (by omega)) rfl (Nat.le_of_ble_eq_true rfl) dX11_canBe_59 (fun w σ1 hP9 => ?_)
      obtain ⟨rfl, c1, hc1, rfl⟩ := hP9
      have hr1 : rc_t 92 c c1 := hc1
      refine go_iload_n dX11_canBe_62 rfl 2 rfl ?_
      refine go_callS (d1 := d - 1) wSX11_225 rfl (by omega) (x_isInM (P := (fun q7 => sp_can s (s 4) m (s (236 + 8 * m + q)) q7)) (q := q) (by omega)) rfl (Nat.le_of_ble_eq_true rfl) dX11_canBe_63 (fun w σ1 hP9 => ?_)
      obtain ⟨rfl, rfl⟩ := hP9
      refine go_retI rfl (rj_nb _) ?_ dX11_canBe_66
      exact ⟨rj_vi (rj_bc (by unfold sp_jB; rw [decide_eq_true (show s (236 + 8 * m + q) ≠ -1 by omega), decide_eq_false (show ¬ 0 < q by omega)]; simp)), c1, hr1, rfl⟩
    · refine go_aload_n dX11_canBe_29 rfl 0 rfl ?_
      refine go_aload_n dX11_canBe_30 rfl 3 rfl ?_
      refine go_iload_n dX11_canBe_31 rfl 2 rfl ?_
      refine go_iconst (v := Int32.ofInt 1) dX11_canBe_32 rfl ?_
      refine go_subI dX11_canBe_33 ?_
      refine rc_il hR (m := m) (q := q - 1) (by omega) (by omega) (by omega) (by omega) dX11_canBe_34 ?_
      refine go_iload dX11_canBe_35 4 rfl ?_
      refine go_callV (d1 := d - 1) wVX11_320 kX11 (rc_a0 hR.V) rfl (by omega) (x_far (p := s (236 + 8 * m + (q - 1))) (q := s (236 + 8 * m + q)) (by omega) (by omega) (by omega) hR hI) rfl (Nat.le_of_ble_eq_true rfl) dX11_canBe_37 (fun w σ1 hP9 => ?_)
      obtain ⟨rfl, rfl⟩ := hP9
      refine go_if_eqB (tgt := 45) dX11_canBe_40 (by decide) (fun c_40 => ?_) (fun c_40 => ?_)
      · refine go_aload_n dX11_canBe_45 rfl 0 rfl ?_
        refine rc_gx hR.V (k := 0) (by decide) fX11_12 rfl dX11_canBe_46 ?_
        refine go_aload_n dX11_canBe_49 rfl 1 rfl ?_
        refine go_iload dX11_canBe_50 4 rfl ?_
        refine go_aload_n dX11_canBe_52 rfl 0 rfl ?_
        refine rc_gx hR.V (k := 0) (by decide) fX11_12 rfl dX11_canBe_53 ?_
        refine rc_gs hR.V (k := 11) (v := rj_i (s 4)) (by decide) fX11_136 (rj_vi hR.n4) dX11_canBe_56 ?_
        refine go_callV (d1 := d - 1) wVX11_139 kX5 (rc_a1 hR.V) rfl (by omega) (x_can (m := m) (p := s (236 + 8 * m + q)) (D := s 4) (by omega) hR hI (by omega) (by omega) (by omega)) rfl (Nat.le_of_ble_eq_true rfl) dX11_canBe_59 (fun w σ1 hP9 => ?_)
        obtain ⟨rfl, c1, hc1, rfl⟩ := hP9
        have hr1 : rc_t 92 c c1 := hc1
        refine go_iload_n dX11_canBe_62 rfl 2 rfl ?_
        refine go_callS (d1 := d - 1) wSX11_225 rfl (by omega) (x_isInM (P := (fun q7 => sp_can s (s 4) m (s (236 + 8 * m + q)) q7)) (q := q) (by omega)) rfl (Nat.le_of_ble_eq_true rfl) dX11_canBe_63 (fun w σ1 hP9 => ?_)
        obtain ⟨rfl, rfl⟩ := hP9
        refine go_retI rfl (rj_nb _) ?_ dX11_canBe_66
        exact ⟨rj_vi (rj_bc (by unfold sp_jB; rw [decide_eq_true (show s (236 + 8 * m + q) ≠ -1 by omega), sp_far_c, show 236 + 8 * m + q - 1 = 236 + 8 * m + (q - 1) by omega, Bool.eq_false_iff.mpr c_40]; simp)), c1, hr1, rfl⟩
      · refine go_iconst (v := Int32.ofInt 0) dX11_canBe_43 rfl ?_
        refine go_retI rfl (rj_n01 (by decide)) ?_ dX11_canBe_44
        exact ⟨rj_vi ((rj_bf (by unfold sp_jB; rw [decide_eq_true (show s (236 + 8 * m + q) ≠ -1 by omega), decide_eq_true (show 0 < q by omega), sp_far_c, show 236 + 8 * m + q - 1 = 236 + 8 * m + (q - 1) by omega, c_40]; simp)).symm), c, rc_t.rf, rfl⟩
  · refine go_iconst (v := Int32.ofInt 1) dX11_canBe_23 rfl ?_
    refine go_retI rfl (rj_n01 (by decide)) ?_ dX11_canBe_24
    exact ⟨rj_vi ((rj_bt (by unfold sp_jB; rw [decide_eq_false (by omega)]; rfl)).symm), c, rc_t.rf, rfl⟩
set_option maxRecDepth 20000 in
/-- x_judged -/
theorem x_judged {X9 : rj_X} {σ : rj_H} {d cb vv vk : Nat} {c : rm_R} (hd : 6 ≤ d) {s : Int → Int} {ad : Nat → Int → Nat} (hR : rc_R X9 cb vv vk c σ s ad) (hI : sp_I s) : rj_Cl X9 d yX11_judged cX11_judged 3 (some .int) [.ref cb] (rc_p X9 cb vv vk c σ) (fun w9 τ => w9 = some (rj_i (sp_judF s)) ∧ ∃ c0, rc_t 92 c c0 ∧ τ = rc_p X9 cb vv vk c0 σ) := by
  obtain ⟨⟨h0, h1, h2, h3, h4, h5, h6, h7⟩, hM, hP, hW, hL, hV⟩ := id hI
  obtain ⟨v1, v2, v3, v4⟩ := id hV
  refine go_call (by decide +kernel) (Nat.le_of_ble_eq_true rfl) ?_
  refine go_eq (pc' := 0) (lv' := [(0, .ref cb)]) (st' := []) rfl rfl rfl rfl ?_
  refine go_iconst (v := Int32.ofInt 0) dX11_judged_0 rfl ?_
  refine go_istore_nS (lv' := [(0, .ref cb), (1, rj_i 0)]) rfl (by decide) rfl dX11_judged_1 ?_
  have loopq : ∀ (nq kq : Nat) (clq : rm_R), kq + nq = 8 → rc_t 92 c clq → sp_judF s = sp_j1 s nq kq → rj_Go X9 yX11_judged cX11_judged 3 (some .int) d (fun w9 τ => w9 = some (rj_i (sp_judF s)) ∧ ∃ c0, rc_t 92 c c0 ∧ τ = rc_p X9 cb vv vk c0 σ) 2 [(0, .ref cb), (1, rj_i (kq : Int))] [] (rc_p X9 cb vv vk clq σ) := by
    intro nq
    induction nq with
    | zero =>
      intro kq clq hkq hlq hF
      refine go_iload_n dX11_judged_2 rfl 1 rfl ?_
      refine go_bipush (v := Int32.ofInt 8) dX11_judged_3 (by decide) ?_
      refine go_icmp_geI (tgt := 57) (by omega) (by omega) dX11_judged_5 (by decide) (fun c_5 => ?_) (fun c_5 => ?_)
      · refine go_bipush (v := Int32.ofInt (-5)) dX11_judged_57 (by decide) ?_
        refine go_retI rfl rfl ?_ dX11_judged_59
        exact ⟨rj_vi (by rw [hF]; rfl), clq, hlq, rfl⟩
      · exact absurd c_5 (by omega)
    | succ nq ihq =>
      intro kq clq hkq hlq hF
      rw [sp_j1] at hF
      refine go_iload_n dX11_judged_2 rfl 1 rfl ?_
      refine go_bipush (v := Int32.ofInt 8) dX11_judged_3 (by decide) ?_
      refine go_icmp_geI (tgt := 57) (by omega) (by omega) dX11_judged_5 (by decide) (fun c_5 => ?_) (fun c_5 => ?_)
      · exact absurd c_5 (by omega)
      · refine go_iconst (v := Int32.ofInt 0) dX11_judged_8 rfl ?_
        refine go_istore_nS (lv' := [(0, .ref cb), (1, rj_i (kq : Int)), (2, rj_i 0)]) rfl (by decide) rfl dX11_judged_9 ?_
        have loop : ∀ (n2 k : Nat) (cl : rm_R), k + n2 = (s 0).toNat → rc_t 92 c cl → sp_j2 s kq (sp_j1 s nq (kq + 1)) (s 0).toNat 0 = sp_j2 s kq (sp_j1 s nq (kq + 1)) n2 k → rj_Go X9 yX11_judged cX11_judged 3 (some .int) d (fun w9 τ => w9 = some (rj_i (sp_judF s)) ∧ ∃ c0, rc_t 92 c c0 ∧ τ = rc_p X9 cb vv vk c0 σ) 10 [(0, .ref cb), (1, rj_i (kq : Int)), (2, rj_i (k : Int))] [] (rc_p X9 cb vv vk cl σ) := by
          intro n2
          induction n2 with
          | zero =>
            intro k cl hk hl hG
            rw [sp_j2] at hG
            refine go_iload_n dX11_judged_10 rfl 2 rfl ?_
            refine go_aload_n dX11_judged_11 rfl 0 rfl ?_
            refine rc_gx (hR.t (hl.le (by decide))).V (k := 0) (by decide) fX11_12 rfl dX11_judged_12 ?_
            refine rc_gs (hR.t (hl.le (by decide))).V (k := 1) (v := rj_i (s 0)) (by decide) fX11_60 (rj_vi (hR.t (hl.le (by decide))).n0) dX11_judged_15 ?_
            refine go_icmp_geI (tgt := 51) (by omega) (by omega) dX11_judged_18 (by decide) (fun c_18 => ?_) (fun c_18 => ?_)
            · refine go_iincI (a := (kq : Int)) (n := 1) (k0 := 1) (lv' := [(0, .ref cb), (1, rj_i ((kq : Int) + 1)), (2, rj_i (k : Int))]) rfl (by decide) rfl dX11_judged_51 ?_
              refine go_goto (tgt := 2) dX11_judged_54 (by decide) ?_
              refine go_sub (lv' := [(0, .ref cb), (1, rj_i ((kq : Int) + 1))]) (by intro q hq; simp only [List.mem_cons, List.not_mem_nil, or_false] at hq ⊢; rcases hq with rfl | rfl <;> simp) ?_
              exact go_eq rfl (lv' := [(0, .ref cb), (1, rj_i ((kq + 1 : Nat) : Int))]) (rj_lk (rj_lj (by omega) rfl)) rfl rfl (ihq (kq + 1) cl (by omega) hl (by rw [hF, hG]))
            · exact absurd c_18 (by omega)
          | succ n2 ih =>
            intro k cl hk hl hG
            refine go_iload_n dX11_judged_10 rfl 2 rfl ?_
            refine go_aload_n dX11_judged_11 rfl 0 rfl ?_
            refine rc_gx (hR.t (hl.le (by decide))).V (k := 0) (by decide) fX11_12 rfl dX11_judged_12 ?_
            refine rc_gs (hR.t (hl.le (by decide))).V (k := 1) (v := rj_i (s 0)) (by decide) fX11_60 (rj_vi (hR.t (hl.le (by decide))).n0) dX11_judged_15 ?_
            refine go_icmp_geI (tgt := 51) (by omega) (by omega) dX11_judged_18 (by decide) (fun c_18 => ?_) (fun c_18 => ?_)
            · exact absurd c_18 (by omega)
            · refine go_aload_n dX11_judged_21 rfl 0 rfl ?_
              refine go_aload_n dX11_judged_22 rfl 0 rfl ?_
              refine rc_gx (hR.t (hl.le (by decide))).V (k := 0) (by decide) fX11_12 rfl dX11_judged_23 ?_
              refine rc_gs (hR.t (hl.le (by decide))).V (k := 0) (v := .ref (cb + 2)) (by decide) fX11_64 rfl dX11_judged_26 ?_
              refine go_iload_n dX11_judged_29 rfl 2 rfl ?_
              refine rc_em (hR.t (hl.le (by decide))) (m := (k : Int)) (by omega) (by omega) h0 dX11_judged_30 ?_
              refine go_iload_n dX11_judged_31 rfl 1 rfl ?_
              refine go_callV (d1 := d - 1) wVX11_152 kX11 (rc_a0 (hR.t (hl.le (by decide))).V) rfl (by omega) (x_canBe (m := (k : Int)) (q := (kq : Int)) (by omega) (hR.t (hl.le (by decide))) hI (by omega) (by omega)) rfl (Nat.le_of_ble_eq_true rfl) dX11_judged_32 (fun w σ1 hP9 => ?_)
              obtain ⟨rfl, c81, hc81, rfl⟩ := hP9
              have hr81 : rc_t 92 c c81 := hl.tr hc81
              refine go_if_neB (tgt := 45) dX11_judged_35 (by decide) (fun c_35 => ?_) (fun c_35 => ?_)
              · refine go_iincI (a := (k : Int)) (n := 1) (k0 := 2) (lv' := [(0, .ref cb), (1, rj_i (kq : Int)), (2, rj_i ((k : Int) + 1))]) rfl (by decide) rfl dX11_judged_45 ?_
                refine go_goto (tgt := 10) dX11_judged_48 (by decide) ?_
                exact go_eq rfl (lv' := [(0, .ref cb), (1, rj_i (kq : Int)), (2, rj_i ((k + 1 : Nat) : Int))]) (rj_lk (rj_lk (rj_lj (by omega) rfl))) rfl rfl (ih (k + 1) c81 (by omega) hr81 (by rw [hG, sp_j2, if_neg (by rw [c_35]; decide)]))
              · refine go_bipush (v := Int32.ofInt 10) dX11_judged_38 (by decide) ?_
                refine go_iload_n dX11_judged_40 rfl 1 rfl ?_
                refine go_mulI dX11_judged_41 ?_
                refine go_iload_n dX11_judged_42 rfl 2 rfl ?_
                refine go_addI dX11_judged_43 ?_
                refine go_retI rfl rfl ?_ dX11_judged_44
                exact ⟨rj_vi (by rw [hF, hG, sp_j2, if_pos (by simpa using c_35)]), c81, hr81, rfl⟩
        exact go_eq rfl (lv' := [(0, .ref cb), (1, rj_i (kq : Int)), (2, rj_i ((0 : Nat) : Int))]) (rj_lk (rj_lk (rj_lj (rfl) rfl))) rfl rfl (loop (s 0).toNat 0 clq (by omega) hlq rfl)
  exact go_eq rfl (lv' := [(0, .ref cb), (1, rj_i ((0 : Nat) : Int))]) (rj_lk (rj_lj (rfl) rfl)) rfl rfl (loopq 8 0 c rfl rc_t.rf rfl)
