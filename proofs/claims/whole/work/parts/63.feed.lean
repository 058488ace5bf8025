/-! THE CLASS: feed -/
theorem rj_fbm (w : Int64) (k : Int) : sp_fb w k = ((w >>> ((Int32.ofInt (8 * k)).toInt64 &&& 63)).toBitVec.toNat % 256 : Nat) := by
  unfold sp_fb sp_fr
  generalize w >>> ((Int32.ofInt (8 * k)).toInt64 &&& 63) = y
  have h1 : (y &&& Int64.ofInt 255).toInt32.toInt = ((y.toBitVec &&& 255#64).setWidth 32).toInt := by
    rw [Int32.toInt, Int64.toBitVec_toInt32, Int64.toBitVec_and, BitVec.signExtend_eq_setWidth_of_le _ (by decide)]; rfl
  rw [h1]
  have h2 : ((y.toBitVec &&& 255#64).setWidth 32).toNat = y.toBitVec.toNat % 256 := by
    rw [BitVec.toNat_setWidth, BitVec.toNat_and]
    have h3 : y.toBitVec.toNat &&& (255#64).toNat = y.toBitVec.toNat % 256 := Nat.and_two_pow_sub_one_eq_mod _ 8
    rw [h3]
    omega
  have h4 : ((y.toBitVec &&& 255#64).setWidth 32).toInt = (((y.toBitVec &&& 255#64).setWidth 32).toNat : Int) := BitVec.toInt_eq_toNat_of_lt (by omega)
  rw [h4, h2]
theorem rj_lowb (u : BitVec 64) (n : Nat) (hn : n ≤ 56) : (u.sshiftRight n).toNat % 256 = (u >>> n).toNat % 256 := by
  have h : (u.sshiftRight n).setWidth 8 = (u >>> n).setWidth 8 := by
    apply BitVec.eq_of_getLsbD_eq
    intro i hi
    simp only [BitVec.getLsbD_setWidth, BitVec.getLsbD_sshiftRight, BitVec.getLsbD_ushiftRight]
    rw [if_pos (by omega), decide_eq_false (show ¬ 64 ≤ i by omega)]
    rfl
  have h2 := congrArg BitVec.toNat h
  rw [BitVec.toNat_setWidth, BitVec.toNat_setWidth] at h2
  exact h2
theorem rj_bm8 (x : Int) : x.bmod (2 ^ 8) = if x % 256 < 128 then x % 256 else x % 256 - 256 := rfl
theorem rj_i8 (Y : Int64) : Y.toInt32.toInt8.toInt32 = Int32.ofInt (rc_sb ((Y.toBitVec.toNat % 256 : Nat) : Int)) := by
  apply Int32.toInt_inj.mp
  have hb : -128 ≤ rc_sb ((Y.toBitVec.toNat % 256 : Nat) : Int) ∧ rc_sb ((Y.toBitVec.toNat % 256 : Nat) : Int) ≤ 127 := by unfold rc_sb; split <;> omega
  rw [rj_ti (by omega) (by omega), Int8.toInt_toInt32, Int32.toInt_toInt8, Int64.toInt_toInt32]
  rw [Int.bmod_bmod_of_dvd (by decide)]
  have h : Y.toInt = Y.toBitVec.toInt := rfl
  rw [h, BitVec.toInt_eq_toNat_bmod, Int.bmod_bmod_of_dvd (by decide)]
  rw [rj_bm8]
  unfold rc_sb
  split <;> split <;> omega
theorem rj_fby (w : Int64) {k : Int} (hk : 0 ≤ k ∧ k < 8) : (w.toUInt64 >>> ((Int32.ofInt (8 * k)).toInt64.toUInt64 &&& Int64.toUInt64 63)).toInt64.toInt32.toInt8.toInt32 = Int32.ofInt (rc_sb (sp_fb w k)) := by
  rw [rj_i8, rj_fbm]
  congr 3
  rcases (show k = 0 ∨ k = 1 ∨ k = 2 ∨ k = 3 ∨ k = 4 ∨ k = 5 ∨ k = 6 ∨ k = 7 by omega) with rfl | rfl | rfl | rfl | rfl | rfl | rfl | rfl
  · exact (rj_lowb w.toBitVec 0 (by decide)).symm
  · exact (rj_lowb w.toBitVec 8 (by decide)).symm
  · exact (rj_lowb w.toBitVec 16 (by decide)).symm
  · exact (rj_lowb w.toBitVec 24 (by decide)).symm
  · exact (rj_lowb w.toBitVec 32 (by decide)).symm
  · exact (rj_lowb w.toBitVec 40 (by decide)).symm
  · exact (rj_lowb w.toBitVec 48 (by decide)).symm
  · exact (rj_lowb w.toBitVec 56 (by decide)).symm
theorem rc_sb_b {z : Int} (h : 0 ≤ z ∧ z ≤ 255) : -128 ≤ rc_sb z ∧ rc_sb z ≤ 127 := by unfold rc_sb; split <;> omega
theorem rj_nby {z : Int} (h : -128 ≤ z ∧ z ≤ 127) : narrow .byte (.int (Int32.ofInt z)) = .int (Int32.ofInt z) := by
  show Value.int ((Int32.ofInt z).toInt8.toInt32) = _
  congr 1
  apply Int32.toInt_inj.mp
  rw [Int8.toInt_toInt32, Int32.toInt_toInt8, rj_ti (by omega) (by omega)]
  rw [rj_bm8]
  split <;> omega
theorem rc_b11 {X9 : rj_X} {y9 : MethodName} {cc : ByteArray} {nL : Nat} {rt9 : Option FieldType} {d9 : Nat} {P9 : Option Value → rj_H → Prop} {pc : Nat} {lv : List (Nat × Value)} {rest : List Value} {σ : rj_H} {cb vv vk : Nat} {c : rm_R} {z w : Int} (hV : rc_V cb vv vk) (h0 : 0 ≤ z) (h1 : z < 120) (hw : -128 ≤ w ∧ w ≤ 127) (hdg : decode cc pc = .ok (.bastore, 1)) (kk : rj_Go X9 y9 cc nL rt9 d9 P9 (pc + 1) lv rest (rc_p X9 cb vv vk (rm_u c 11 (rj_up (c 11) z w)) σ)) : rj_Go X9 y9 cc nL rt9 d9 P9 pc lv (rj_i w :: rj_i z :: .ref (cb + 11) :: rest) (rc_p X9 cb vv vk c σ) := go_bast (n := 120) (rc_at hV 11 rfl) h0 h1 (by decide) (rj_nby hw) hdg (go_eq rfl rfl rfl (rc_set hV 11 rfl (g := rj_up (c 11) z w) rfl) kk)
theorem sp_fdS_lo (s : Int → Int) (w : Int64) (c9 : Int) (h6 : 0 ≤ s 6) : ∀ (n : Nat) (j : Int), j ≠ 6 → (j < 10 + s 6 ∨ 10 + s 6 + (n : Int) ≤ j) → sp_fdS s w c9 n j = s j
  | 0, _, _, _ => rfl
  | n + 1, j, a, b => by
    rw [sp_fdS, rj_up_ne _ _ a, sp_fdS_6, rj_up_ne _ _ (by omega)]
    exact sp_fdS_lo s w c9 h6 n j a (by omega)
theorem e_feed {X9 : rj_X} {cb vv vk : Nat} {c c0 : rm_R} {σ : rj_H} {s : Int → Int} {ad : Nat → Int → Nat} {w : Int64} {c9 : Int} {n : Nat} (hR : rc_R X9 cb vv vk c σ s ad) (hI : sp_I s) (hn : s 6 + (n : Int) ≤ 120) (e : ∀ k : Nat, k ≠ 1 → k ≠ 11 → c0 k = c k) (e1 : c0 1 = rj_up (c 1) 7 (s 6 + (n : Int))) (et : ∀ i : Int, 0 ≤ i → i < s 6 + (n : Int) → c0 11 i = rc_sb (sp_fdS s w c9 n (10 + i))) : rc_R X9 cb vv vk c0 σ (sp_fdS s w c9 n) ad := by
  obtain ⟨⟨h0, h1, h2, h3, h4, h5, h6, h7⟩, hM, hP, hW, hL, hV⟩ := id hI
  obtain ⟨v1, v2, v3, v4⟩ := id hV
  obtain ⟨r1, r2, ⟨g1, g2, g3, g4, g5, g6, g7⟩, r4⟩ := hR
  have E : ∀ j : Int, j ≠ 6 → (j < 10 ∨ 130 ≤ j) → sp_fdS s w c9 n j = s j := fun j a b => sp_fdS_lo s w c9 h6.1 n j a (by omega)
  refine ⟨r1, r2, ⟨?_, rg_mir g2 h0.2 (E 0 (by omega) (by omega)) (fun j a b => E j (by omega) (by omega)) (e 2 (by omega) (by omega)), rg_pat g3 (E 1 (by omega) (by omega)) (fun j a b => E j (by omega) (by omega)) (fun k a b => e k (by omega) (by omega)), rg_wal g4 h2.2 (E 2 (by omega) (by omega)) (fun j a b => E j (by omega) (by omega)) (e 10 (by omega) (by omega)), ?_, rg_pln g6 (fun j a b => E j (by omega) (by omega)) (fun k a b => e k (by omega) (by omega)), rg_ahd g7 h5 (E 5 (by omega) (by omega)) (E 8 (by omega) (by omega)) (fun j a b => E j (by omega) (by omega)) (fun k a b => e k (by omega) (by omega))⟩, rg_vy r4 h7 v1 (E 7 (by omega) (by omega)) (fun j a b => E j (by omega) (by omega))⟩
  · rw [e1, E 0 (by omega) (by omega), E 1 (by omega) (by omega), E 2 (by omega) (by omega), sp_fdS_6, E 3 (by omega) (by omega), E 4 (by omega) (by omega), E 5 (by omega) (by omega), E 8 (by omega) (by omega)]
    obtain ⟨b1, b2, b3, b4, b5, b6, b7, b8, b9⟩ := g1
    exact ⟨by rw [rj_up_ne _ _ (by decide)]; exact b1, by rw [rj_up_ne _ _ (by decide)]; exact b2, by rw [rj_up_ne _ _ (by decide)]; exact b3, rj_up_eq _ _ _, by rw [rj_up_ne _ _ (by decide)]; exact b5, by rw [rj_up_ne _ _ (by decide)]; exact b6, by rw [rj_up_ne _ _ (by decide)]; exact b7, by rw [rj_up_ne _ _ (by decide)]; exact b8, by rw [rj_up_ne _ _ (by decide)]; exact b9⟩
  · intro j j0 j1
    rw [sp_fdS_6] at j1
    exact et j j0 j1
set_option maxRecDepth 20000 in
/-- x_feed -/
theorem x_feed {X9 : rj_X} {σ : rj_H} {d cb vv vk : Nat} {c : rm_R} {w : Int64} {c9 : Int} (hd : 1 ≤ d) (hc9 : -2147483648 ≤ c9 ∧ c9 < 2147483648) {s : Int → Int} {ad : Nat → Int → Nat} (hR : rc_R X9 cb vv vk c σ s ad) (hI : sp_I s) : rj_Cl X9 d yX11_feed cX11_feed 5 (some .int) [.ref cb, .long w, rj_i c9] (rc_p X9 cb vv vk c σ) (fun w9 τ => w9 = some (rj_i (sp_feedF s c9)) ∧ rc_E X9 cb vv vk c σ ad (sp_feedS s w c9) τ) := by
  obtain ⟨⟨h0, h1, h2, h3, h4, h5, h6, h7⟩, hM, hP, hW, hL, hV⟩ := id hI
  obtain ⟨v1, v2, v3, v4⟩ := id hV
  refine go_call (by decide +kernel) (Nat.le_of_ble_eq_true rfl) ?_
  refine go_eq (pc' := 0) (lv' := [(0, .ref cb), (1, .long w), (3, rj_i c9)]) (st' := []) rfl rfl rfl rfl ?_
  refine go_iload_n dX11_feed_0 rfl 2 rfl ?_
  refine go_iconst (v := Int32.ofInt 1) dX11_feed_1 rfl ?_
  refine go_icmp_ltI (tgt := 11) (by omega) (by omega) dX11_feed_2 (by decide) (fun c_2 => ?_) (fun c_2 => ?_)
  · refine go_bipush (v := Int32.ofInt (-2)) dX11_feed_11 (by decide) ?_
    refine go_retI rfl rfl ?_ dX11_feed_13
    exact ⟨rj_vi (by unfold sp_feedF; (repeat' split) <;> omega), c, (by unfold sp_feedS; rw [if_neg (by omega)]; exact hR), rc_kp.rf, rfl⟩
  · refine go_iload_n dX11_feed_5 rfl 2 rfl ?_
    refine go_bipush (v := Int32.ofInt 8) dX11_feed_6 (by decide) ?_
    refine go_icmp_leI (tgt := 14) (by omega) (by omega) dX11_feed_8 (by decide) (fun c_8 => ?_) (fun c_8 => ?_)
    · refine go_aload_n dX11_feed_14 rfl 0 rfl ?_
      refine rc_gx hR.V (k := 0) (by decide) fX11_12 rfl dX11_feed_15 ?_
      refine rc_gs hR.V (k := 7) (v := rj_i (s 6)) (by decide) fX11_107 (rj_vi hR.n6) dX11_feed_18 ?_
      refine go_iload_n dX11_feed_21 rfl 2 rfl ?_
      refine go_addI dX11_feed_22 ?_
      refine go_bipush (v := Int32.ofInt 120) dX11_feed_23 (by decide) ?_
      refine go_icmp_leI (tgt := 31) (by omega) (by omega) dX11_feed_25 (by decide) (fun c_25 => ?_) (fun c_25 => ?_)
      · refine go_iload_n dX11_feed_31 rfl 2 rfl ?_
        refine go_iconst (v := Int32.ofInt 1) dX11_feed_32 rfl ?_
        refine go_subI dX11_feed_33 ?_
        refine go_istoreS (lv' := [(0, .ref cb), (1, .long w), (3, rj_i c9), (4, rj_i (c9 - 1))]) (by decide) rfl dX11_feed_34 ?_
        have loopx : ∀ (nx : Nat) (j : Nat) (cl : rm_R), j + nx = c9.toNat → cl 1 = (rj_up (c 1) 7 (s 6 + (j : Int))) → rc_kp c cl → (∀ k : Nat, k ≠ 1 → k ≠ 11 → cl k = c k) → (∀ i : Int, 0 ≤ i → i < s 6 + (j : Int) → cl 11 i = rc_sb (sp_fdS s w c9 j (10 + i))) → rj_Go X9 yX11_feed cX11_feed 5 (some .int) d (fun w9 τ => w9 = some (rj_i (sp_feedF s c9)) ∧ rc_E X9 cb vv vk c σ ad (sp_feedS s w c9) τ) 36 [(0, .ref cb), (1, .long w), (3, rj_i c9), (4, rj_i (c9 - 1 - (j : Int)))] [] (rc_p X9 cb vv vk cl σ) := by
          intro nx
          induction nx with
          | zero =>
            intro j cl hk h1l hkl hol htl
            refine go_iload dX11_feed_36 3 rfl ?_
            refine go_if_ltI (tgt := 84) (by omega) dX11_feed_38 (by decide) (fun c_38 => ?_) (fun c_38 => ?_)
            · refine go_aload_n dX11_feed_84 rfl 0 rfl ?_
              refine rc_gx hR.V (k := 0) (by decide) fX11_12 rfl dX11_feed_85 ?_
              refine rc_gs hR.V (k := 7) (by decide) fX11_107 rfl dX11_feed_88 ?_
              rw [show cl 1 = (rj_up (c 1) 7 (s 6 + (j : Int))) from h1l]
              rw [show (rj_up (c 1) 7 (s 6 + (j : Int))) 7 = s 6 + (j : Int) from rj_up_eq _ _ _]
              refine go_retI rfl rfl ?_ dX11_feed_91
              exact ⟨rj_vi (by unfold sp_feedF; rw [if_neg (by omega), if_neg (by omega)]; omega), cl, (by unfold sp_feedS; rw [if_pos (by omega), show c9.toNat = j by omega]; exact e_feed hR hI (by omega) hol h1l htl), hkl, rfl⟩
            · exact absurd c_38 (by omega)
          | succ nx ihx =>
            intro j cl hk h1l hkl hol htl
            refine go_iload dX11_feed_36 3 rfl ?_
            refine go_if_ltI (tgt := 84) (by omega) dX11_feed_38 (by decide) (fun c_38 => ?_) (fun c_38 => ?_)
            · exact absurd c_38 (by omega)
            · refine go_aload_n dX11_feed_41 rfl 0 rfl ?_
              refine rc_gx hR.V (k := 0) (by decide) fX11_12 rfl dX11_feed_42 ?_
              refine rc_gs hR.V (k := 6) (v := .ref (cb + 11)) (by decide) fX11_110 rfl dX11_feed_45 ?_
              refine go_aload_n dX11_feed_48 rfl 0 rfl ?_
              refine rc_gx hR.V (k := 0) (by decide) fX11_12 rfl dX11_feed_49 ?_
              refine rc_gs hR.V (k := 7) (by decide) fX11_107 rfl dX11_feed_52 ?_
              rw [show cl 1 = (rj_up (c 1) 7 (s 6 + (j : Int))) from h1l]
              rw [show (rj_up (c 1) 7 (s 6 + (j : Int))) 7 = s 6 + (j : Int) from rj_up_eq _ _ _]
              refine go_lload_n dX11_feed_55 rfl 1 rfl ?_
              refine go_bipush (v := Int32.ofInt 8) dX11_feed_56 (by decide) ?_
              refine go_iload dX11_feed_58 3 rfl ?_
              refine go_mulI dX11_feed_60 ?_
              refine go_lushr dX11_feed_61 (v := (w.toUInt64 >>> ((Int32.ofInt (8 * (c9 - 1 - (j : Int)))).toInt64.toUInt64 &&& Int64.toUInt64 63)).toInt64) rfl ?_
              refine go_l2i dX11_feed_62 (v := ((w.toUInt64 >>> ((Int32.ofInt (8 * (c9 - 1 - (j : Int)))).toInt64.toUInt64 &&& Int64.toUInt64 63)).toInt64).toInt32) rfl ?_
              refine go_i2b dX11_feed_63 (rj_fby w (k := c9 - 1 - (j : Int)) (by omega)) ?_
              refine rc_b11 hR.V (by omega) (by omega) (rc_sb_b (sp_fb_b w _)) dX11_feed_64 ?_
              refine go_aload_n dX11_feed_65 rfl 0 rfl ?_
              refine rc_gx hR.V (k := 0) (by decide) fX11_12 rfl dX11_feed_66 ?_
              refine go_dup dX11_feed_69 rfl ?_
              refine rc_gs hR.V (k := 7) (by decide) fX11_107 rfl dX11_feed_70 ?_
              rw [show (rm_u cl 11 (rj_up (cl 11) (s 6 + (j : Int)) (rc_sb (sp_fb w (c9 - 1 - (j : Int)))))) 1 = (rj_up (c 1) 7 (s 6 + (j : Int))) from ((rm_u_ne _ _ (by omega)).trans (show cl 1 = (rj_up (c 1) 7 (s 6 + (j : Int))) from h1l))]
              rw [show (rj_up (c 1) 7 (s 6 + (j : Int))) 7 = s 6 + (j : Int) from rj_up_eq _ _ _]
              refine go_iconst (v := Int32.ofInt 1) dX11_feed_73 rfl ?_
              refine go_addI dX11_feed_74 ?_
              refine rc_ps7 hR.V fX11_107 dX11_feed_75 ?_
              refine go_iincI (a := c9 - 1 - (j : Int)) (n := -1) (k0 := 3) (lv' := [(0, .ref cb), (1, .long w), (3, rj_i c9), (4, rj_i (c9 - 1 - (j : Int) + (-1)))]) rfl (by decide) rfl dX11_feed_78 ?_
              refine go_goto (tgt := 36) dX11_feed_81 (by decide) ?_
              have e6 := sp_fdS_6 s w c9 j
              exact go_eq rfl (lv' := [(0, .ref cb), (1, .long w), (3, rj_i c9), (4, rj_i (c9 - 1 - ((j + 1 : Nat) : Int)))]) (rj_lk (rj_lk (rj_lk (rj_lj (by omega) rfl)))) rfl rfl (ihx (j + 1) (rm_u (rm_u cl 11 (rj_up (cl 11) (s 6 + (j : Int)) (rc_sb (sp_fb w (c9 - 1 - (j : Int)))))) 1 (rj_up ((rm_u cl 11 (rj_up (cl 11) (s 6 + (j : Int)) (rc_sb (sp_fb w (c9 - 1 - (j : Int)))))) 1) 7 ((s 6 + (j : Int)) + 1))) (by omega) ((show (rm_u (rm_u cl 11 (rj_up (cl 11) (s 6 + (j : Int)) (rc_sb (sp_fb w (c9 - 1 - (j : Int)))))) 1 (rj_up ((rm_u cl 11 (rj_up (cl 11) (s 6 + (j : Int)) (rc_sb (sp_fb w (c9 - 1 - (j : Int)))))) 1) 7 ((s 6 + (j : Int)) + 1))) 1 = (rj_up (rj_up (c 1) 7 (s 6 + (j : Int))) 7 ((s 6 + (j : Int)) + 1)) from (congrArg (fun zz => rj_up zz 7 ((s 6 + (j : Int)) + 1)) (show (rm_u cl 11 (rj_up (cl 11) (s 6 + (j : Int)) (rc_sb (sp_fb w (c9 - 1 - (j : Int)))))) 1 = (rj_up (c 1) 7 (s 6 + (j : Int))) from ((rm_u_ne _ _ (by omega)).trans (show cl 1 = (rj_up (c 1) 7 (s 6 + (j : Int))) from h1l))))).trans (by rw [rj_up_up]; congr 1; omega)) ((hkl.tr (rc_kp.b (rc_sb_b (sp_fb_b w _)))).tr (rc_kp.u (by omega))) (fun k a b => by rw [rm_u_ne _ _ a, rm_u_ne _ _ b]; exact hol k a b) (fun i i0 i1 => by rw [rm_u_ne _ _ (show 11 ≠ 1 by decide), rm_u_eq, sp_fdS, rj_up_ne _ _ (show 10 + i ≠ 6 by omega), e6]; by_cases hi : i = s 6 + (j : Int); (· rw [hi, rj_up_eq, rj_up_eq]); (· rw [rj_up_ne _ _ hi, rj_up_ne _ _ (by omega)]; exact htl i i0 (by omega))))
        exact go_eq rfl (lv' := [(0, .ref cb), (1, .long w), (3, rj_i c9), (4, rj_i (c9 - 1 - ((0 : Nat) : Int)))]) (rj_lk (rj_lk (rj_lk (rj_lj (by omega) rfl)))) rfl rfl (loopx c9.toNat 0 c (by omega) (by funext z; unfold rj_up; split; (· rename_i hz; subst hz; rw [hR.n6]; omega); (· rfl)) rc_kp.rf (fun k a b => rfl) (fun i i0 i1 => hR.tape i i0 (by omega)))
      · refine go_bipush (v := Int32.ofInt (-4)) dX11_feed_28 (by decide) ?_
        refine go_retI rfl rfl ?_ dX11_feed_30
        exact ⟨rj_vi (by unfold sp_feedF; (repeat' split) <;> omega), c, (by unfold sp_feedS; rw [if_neg (by omega)]; exact hR), rc_kp.rf, rfl⟩
    · refine go_bipush (v := Int32.ofInt (-2)) dX11_feed_11 (by decide) ?_
      refine go_retI rfl rfl ?_ dX11_feed_13
      exact ⟨rj_vi (by unfold sp_feedF; (repeat' split) <;> omega), c, (by unfold sp_feedS; rw [if_neg (by omega)]; exact hR), rc_kp.rf, rfl⟩
