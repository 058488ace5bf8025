/-! THE CLASS: ways and walls -/
theorem sp_ng1 (a b c d : Int) : 1 * a * b - 1 * c * d = a * b - c * d := by rw [Int.one_mul, Int.one_mul]
theorem sp_ng2 (a b c d : Int) : -1 * a * b - -1 * c * d = -(a * b - c * d) := by simp only [Int.neg_mul, Int.one_mul]; omega
theorem sp_mix (hi lo d t : Int) : hi * d + (lo - hi) * t = hi * (d - t) + lo * t := by simp only [Int.sub_mul, Int.mul_sub]; omega
set_option maxRecDepth 20000 in
set_option maxHeartbeats 1000000 in
/-- x_btw -/
theorem x_btw {X9 : rj_X} {σ : rj_H} {d cb vv vk : Nat} {c : rm_R} {s : Int → Int} {m w u v lo : Int} {a wa : Nat} (hm : rc_mir cb vv vk σ s m a) (hkd : 0 ≤ s (130 + m) ∧ s (130 + m) ≤ 6) (hw : rc_wal cb vv vk σ s w wa) (hx : sp_at (s (136 + m))) (hy : sp_at (s (142 + m))) (hhi : sp_at (s (148 + m))) (hu : sp_at u) (hv : sp_at v) (hlo : sp_at lo) (a1 : sp_at (s (196 + w))) (a2 : sp_at (s (204 + w))) (a3 : sp_at (s (212 + w))) (a4 : sp_at (s (220 + w))) (a5 : sp_at (s (228 + w))) : rj_Cl X9 d yX10_isBetween cX10_isBetween 13 (some .boolean) [.ref wa, .ref a, rj_i u, rj_i v, rj_i lo] (rc_p X9 cb vv vk c σ) (fun w9 τ => w9 = some (rj_i (rj_b (sp_btw s w (s (136 + m)) (s (142 + m)) (s (148 + m)) u v lo))) ∧ τ = rc_p X9 cb vv vk c σ) := by
  refine go_call (by decide +kernel) (Nat.le_of_ble_eq_true rfl) ?_
  refine go_eq (pc' := 0) (lv' := [(0, .ref wa), (1, .ref a), (2, rj_i u), (3, rj_i v), (4, rj_i lo)]) (st' := []) rfl rfl rfl rfl ?_
  refine go_iload_n dX10_isBetween_0 rfl 2 rfl ?_
  refine go_aload_n dX10_isBetween_1 rfl 1 rfl ?_
  refine rc_gm hm hkd (k := 2) (by decide) fX10_25 rfl dX10_isBetween_2 ?_
  refine go_subI dX10_isBetween_5 ?_
  refine go_top (fun dx hdx => ?_)
  refine go_istoreS (lv' := [(0, .ref wa), (1, .ref a), (2, rj_i u), (3, rj_i v), (4, rj_i lo), (5, rj_i dx)]) (by decide) rfl dX10_isBetween_6 ?_
  refine go_iload_n dX10_isBetween_8 rfl 3 rfl ?_
  refine go_aload_n dX10_isBetween_9 rfl 1 rfl ?_
  refine rc_gm hm hkd (k := 3) (by decide) fX10_28 rfl dX10_isBetween_10 ?_
  refine go_subI dX10_isBetween_13 ?_
  refine go_top (fun dy hdy => ?_)
  refine go_istoreS (lv' := [(0, .ref wa), (1, .ref a), (2, rj_i u), (3, rj_i v), (4, rj_i lo), (5, rj_i dx), (6, rj_i dy)]) (by decide) rfl dX10_isBetween_14 ?_
  refine go_iload dX10_isBetween_16 5 rfl ?_
  refine go_aload_n dX10_isBetween_18 rfl 0 rfl ?_
  refine rc_gw hw (k := 3) (by decide) fX10_19 rfl dX10_isBetween_19 ?_
  refine go_mulI dX10_isBetween_22 ?_
  refine go_iload dX10_isBetween_23 6 rfl ?_
  refine go_aload_n dX10_isBetween_25 rfl 0 rfl ?_
  refine rc_gw hw (k := 2) (by decide) fX10_16 rfl dX10_isBetween_26 ?_
  refine go_mulI dX10_isBetween_29 ?_
  refine go_subI dX10_isBetween_30 ?_
  refine go_top (fun dd hdd => ?_)
  refine go_istoreS (lv' := [(0, .ref wa), (1, .ref a), (2, rj_i u), (3, rj_i v), (4, rj_i lo), (5, rj_i dx), (6, rj_i dy), (7, rj_i dd)]) (by decide) rfl dX10_isBetween_31 ?_
  have b1dd := rj_pb (a := dx) (b := (s (220 + w) - s (204 + w))) (A := 40) (B := 40) (by omega) (by omega)
  have b2dd := rj_pb (a := dy) (b := (s (212 + w) - s (196 + w))) (A := 40) (B := 40) (by omega) (by omega)
  have b3dd : -3200 ≤ dd ∧ dd ≤ 3200 := by omega
  clear b1dd b2dd
  refine go_iload dX10_isBetween_33 7 rfl ?_
  refine go_if_neI (tgt := 40) (by omega) dX10_isBetween_35 (by decide) (fun c_35 => ?_) (fun c_35 => ?_)
  · refine go_iload dX10_isBetween_40 7 rfl ?_
    refine go_if_geI (tgt := 49) (by omega) dX10_isBetween_42 (by decide) (fun c_42 => ?_) (fun c_42 => ?_)
    · refine go_iconst (v := Int32.ofInt 1) dX10_isBetween_49 rfl ?_
      refine go_istoreS (lv' := [(0, .ref wa), (1, .ref a), (2, rj_i u), (3, rj_i v), (4, rj_i lo), (5, rj_i dx), (6, rj_i dy), (7, rj_i dd), (8, rj_i 1)]) (by decide) rfl dX10_isBetween_50 ?_
      refine go_iload dX10_isBetween_52 8 rfl ?_
      refine go_aload_n dX10_isBetween_54 rfl 0 rfl ?_
      refine rc_gw hw (k := 0) (by decide) fX10_7 rfl dX10_isBetween_55 ?_
      refine go_aload_n dX10_isBetween_58 rfl 1 rfl ?_
      refine rc_gm hm hkd (k := 2) (by decide) fX10_25 rfl dX10_isBetween_59 ?_
      refine go_subI dX10_isBetween_62 ?_
      refine go_mulI dX10_isBetween_63 ?_
      refine go_top (fun ox hox => ?_)
      refine go_istoreS (lv' := [(0, .ref wa), (1, .ref a), (2, rj_i u), (3, rj_i v), (4, rj_i lo), (5, rj_i dx), (6, rj_i dy), (7, rj_i dd), (8, rj_i 1), (9, rj_i ox)]) (by decide) rfl dX10_isBetween_64 ?_
      refine go_iload dX10_isBetween_66 8 rfl ?_
      refine go_aload_n dX10_isBetween_68 rfl 0 rfl ?_
      refine rc_gw hw (k := 1) (by decide) fX10_13 rfl dX10_isBetween_69 ?_
      refine go_aload_n dX10_isBetween_72 rfl 1 rfl ?_
      refine rc_gm hm hkd (k := 3) (by decide) fX10_28 rfl dX10_isBetween_73 ?_
      refine go_subI dX10_isBetween_76 ?_
      refine go_mulI dX10_isBetween_77 ?_
      refine go_top (fun oy hoy => ?_)
      refine go_istoreS (lv' := [(0, .ref wa), (1, .ref a), (2, rj_i u), (3, rj_i v), (4, rj_i lo), (5, rj_i dx), (6, rj_i dy), (7, rj_i dd), (8, rj_i 1), (9, rj_i ox), (10, rj_i oy)]) (by decide) rfl dX10_isBetween_78 ?_
      refine go_iload dX10_isBetween_80 9 rfl ?_
      refine go_aload_n dX10_isBetween_82 rfl 0 rfl ?_
      refine rc_gw hw (k := 3) (by decide) fX10_19 rfl dX10_isBetween_83 ?_
      refine go_mulI dX10_isBetween_86 ?_
      refine go_iload dX10_isBetween_87 10 rfl ?_
      refine go_aload_n dX10_isBetween_89 rfl 0 rfl ?_
      refine rc_gw hw (k := 2) (by decide) fX10_16 rfl dX10_isBetween_90 ?_
      refine go_mulI dX10_isBetween_93 ?_
      refine go_subI dX10_isBetween_94 ?_
      refine go_top (fun tt htt => ?_)
      refine go_istoreS (lv' := [(0, .ref wa), (1, .ref a), (2, rj_i u), (3, rj_i v), (4, rj_i lo), (5, rj_i dx), (6, rj_i dy), (7, rj_i dd), (8, rj_i 1), (9, rj_i ox), (10, rj_i oy), (11, rj_i tt)]) (by decide) rfl dX10_isBetween_95 ?_
      have b1tt := rj_pb (a := ox) (b := (s (220 + w) - s (204 + w))) (A := 40) (B := 40) (by omega) (by omega)
      have b2tt := rj_pb (a := oy) (b := (s (212 + w) - s (196 + w))) (A := 40) (B := 40) (by omega) (by omega)
      have b3tt : -3200 ≤ tt ∧ tt ≤ 3200 := by omega
      clear b1tt b2tt
      obtain ⟨t0, ht0⟩ : ∃ z, z = (s (196 + w) - s (136 + m)) * (s (220 + w) - s (204 + w)) - (s (204 + w) - s (142 + m)) * (s (212 + w) - s (196 + w)) := ⟨_, rfl⟩
      have ett : tt = t0 := by rw [htt, hox, hoy, ht0]; exact sp_ng1 _ _ _ _
      refine go_iload dX10_isBetween_97 9 rfl ?_
      refine go_iload dX10_isBetween_99 6 rfl ?_
      refine go_mulI dX10_isBetween_101 ?_
      refine go_iload dX10_isBetween_102 10 rfl ?_
      refine go_iload dX10_isBetween_104 5 rfl ?_
      refine go_mulI dX10_isBetween_106 ?_
      refine go_subI dX10_isBetween_107 ?_
      refine go_top (fun rr hrr => ?_)
      refine go_istoreS (lv' := [(0, .ref wa), (1, .ref a), (2, rj_i u), (3, rj_i v), (4, rj_i lo), (5, rj_i dx), (6, rj_i dy), (7, rj_i dd), (8, rj_i 1), (9, rj_i ox), (10, rj_i oy), (11, rj_i tt), (12, rj_i rr)]) (by decide) rfl dX10_isBetween_108 ?_
      have b1rr := rj_pb (a := ox) (b := dy) (A := 40) (B := 40) (by omega) (by omega)
      have b2rr := rj_pb (a := oy) (b := dx) (A := 40) (B := 40) (by omega) (by omega)
      have b3rr : -3200 ≤ rr ∧ rr ≤ 3200 := by omega
      clear b1rr b2rr
      obtain ⟨r0, hr0⟩ : ∃ z, z = (s (196 + w) - s (136 + m)) * dy - (s (204 + w) - s (142 + m)) * dx := ⟨_, rfl⟩
      have err : rr = r0 := by rw [hrr, hox, hoy, hr0]; exact sp_ng1 _ _ _ _
      refine go_iload dX10_isBetween_110 7 rfl ?_
      refine go_iload dX10_isBetween_112 8 rfl ?_
      refine go_mulI dX10_isBetween_114 ?_
      refine go_top (fun ww hww => ?_)
      refine go_istoreS (lv' := [(0, .ref wa), (1, .ref a), (2, rj_i u), (3, rj_i v), (4, rj_i lo), (5, rj_i dx), (6, rj_i dy), (7, rj_i ww), (8, rj_i 1), (9, rj_i ox), (10, rj_i oy), (11, rj_i tt), (12, rj_i rr)]) (by decide) rfl dX10_isBetween_115 ?_
      refine go_iload dX10_isBetween_117 11 rfl ?_
      refine go_if_ltI (tgt := 141) (by omega) dX10_isBetween_119 (by decide) (fun c_119 => ?_) (fun c_119 => ?_)
      · refine go_iconst (v := Int32.ofInt 0) dX10_isBetween_141 rfl ?_
        refine go_retI rfl (rj_n01 (by decide)) ?_ dX10_isBetween_142
        exact ⟨rj_vi (rj_bf (by unfold sp_btw; rw [← hdx, ← hdy, ← hdd, ← ht0, ← hr0]; omega)).symm, rfl⟩
      · refine go_iload dX10_isBetween_122 11 rfl ?_
        refine go_iload dX10_isBetween_124 7 rfl ?_
        refine go_icmp_gtI (tgt := 141) (by omega) (by omega) dX10_isBetween_126 (by decide) (fun c_126 => ?_) (fun c_126 => ?_)
        · refine go_iconst (v := Int32.ofInt 0) dX10_isBetween_141 rfl ?_
          refine go_retI rfl (rj_n01 (by decide)) ?_ dX10_isBetween_142
          exact ⟨rj_vi (rj_bf (by unfold sp_btw; rw [← hdx, ← hdy, ← hdd, ← ht0, ← hr0]; omega)).symm, rfl⟩
        · refine go_iload dX10_isBetween_129 12 rfl ?_
          refine go_if_ltI (tgt := 141) (by omega) dX10_isBetween_131 (by decide) (fun c_131 => ?_) (fun c_131 => ?_)
          · refine go_iconst (v := Int32.ofInt 0) dX10_isBetween_141 rfl ?_
            refine go_retI rfl (rj_n01 (by decide)) ?_ dX10_isBetween_142
            exact ⟨rj_vi (rj_bf (by unfold sp_btw; rw [← hdx, ← hdy, ← hdd, ← ht0, ← hr0]; omega)).symm, rfl⟩
          · refine go_iload dX10_isBetween_134 12 rfl ?_
            refine go_iload dX10_isBetween_136 7 rfl ?_
            refine go_icmp_leI (tgt := 143) (by omega) (by omega) dX10_isBetween_138 (by decide) (fun c_138 => ?_) (fun c_138 => ?_)
            · refine go_aload_n dX10_isBetween_143 rfl 1 rfl ?_
              refine rc_gm hm hkd (k := 4) (by decide) fX10_29 rfl dX10_isBetween_144 ?_
              refine go_iload dX10_isBetween_147 7 rfl ?_
              refine go_mulI dX10_isBetween_149 ?_
              refine go_iload dX10_isBetween_150 4 rfl ?_
              refine go_aload_n dX10_isBetween_152 rfl 1 rfl ?_
              refine rc_gm hm hkd (k := 4) (by decide) fX10_29 rfl dX10_isBetween_153 ?_
              refine go_subI dX10_isBetween_156 ?_
              refine go_iload dX10_isBetween_157 11 rfl ?_
              refine go_mulI dX10_isBetween_159 ?_
              refine go_addI dX10_isBetween_160 ?_
              refine go_aload_n dX10_isBetween_161 rfl 0 rfl ?_
              refine rc_gw hw (k := 4) (by decide) fX10_22 rfl dX10_isBetween_162 ?_
              refine go_iload dX10_isBetween_165 7 rfl ?_
              refine go_mulI dX10_isBetween_167 ?_
              refine go_icmp_geI (tgt := 175) (by have := rj_pb (a := s (148 + m)) (b := ww) (A := 40) (B := 3200) (by omega) (by omega); have := rj_pb (a := lo - s (148 + m)) (b := tt) (A := 40) (B := 3200) (by omega) (by omega); have := rj_pb (a := s (228 + w)) (b := ww) (A := 40) (B := 3200) (by omega) (by omega); omega) (by have := rj_pb (a := s (148 + m)) (b := ww) (A := 40) (B := 3200) (by omega) (by omega); have := rj_pb (a := lo - s (148 + m)) (b := tt) (A := 40) (B := 3200) (by omega) (by omega); have := rj_pb (a := s (228 + w)) (b := ww) (A := 40) (B := 3200) (by omega) (by omega); omega) dX10_isBetween_168 (by decide) (fun c_168 => ?_) (fun c_168 => ?_)
              · refine go_iconst (v := Int32.ofInt 0) dX10_isBetween_175 rfl ?_
                refine go_retI rfl (rj_n01 (by decide)) ?_ dX10_isBetween_176
                exact ⟨rj_vi (rj_bf (by unfold sp_btw; rw [← hdx, ← hdy, ← hdd, ← ht0, ← hr0]; have eww : ww = dd := (by omega); rw [eww, ett, sp_mix] at c_168; omega)).symm, rfl⟩
              · refine go_iconst (v := Int32.ofInt 1) dX10_isBetween_171 rfl ?_
                refine go_goto (tgt := 176) dX10_isBetween_172 (by decide) ?_
                refine go_retI rfl (rj_n01 (by decide)) ?_ dX10_isBetween_176
                exact ⟨rj_vi (rj_bt (by unfold sp_btw; rw [← hdx, ← hdy, ← hdd, ← ht0, ← hr0]; have eww : ww = dd := (by omega); rw [eww, ett, sp_mix] at c_168; omega)).symm, rfl⟩
            · refine go_iconst (v := Int32.ofInt 0) dX10_isBetween_141 rfl ?_
              refine go_retI rfl (rj_n01 (by decide)) ?_ dX10_isBetween_142
              exact ⟨rj_vi (rj_bf (by unfold sp_btw; rw [← hdx, ← hdy, ← hdd, ← ht0, ← hr0]; omega)).symm, rfl⟩
    · refine go_iconst (v := Int32.ofInt (-1)) dX10_isBetween_45 rfl ?_
      refine go_goto (tgt := 50) dX10_isBetween_46 (by decide) ?_
      refine go_istoreS (lv' := [(0, .ref wa), (1, .ref a), (2, rj_i u), (3, rj_i v), (4, rj_i lo), (5, rj_i dx), (6, rj_i dy), (7, rj_i dd), (8, rj_i (-1))]) (by decide) rfl dX10_isBetween_50 ?_
      refine go_iload dX10_isBetween_52 8 rfl ?_
      refine go_aload_n dX10_isBetween_54 rfl 0 rfl ?_
      refine rc_gw hw (k := 0) (by decide) fX10_7 rfl dX10_isBetween_55 ?_
      refine go_aload_n dX10_isBetween_58 rfl 1 rfl ?_
      refine rc_gm hm hkd (k := 2) (by decide) fX10_25 rfl dX10_isBetween_59 ?_
      refine go_subI dX10_isBetween_62 ?_
      refine go_mulI dX10_isBetween_63 ?_
      refine go_top (fun ox hox => ?_)
      refine go_istoreS (lv' := [(0, .ref wa), (1, .ref a), (2, rj_i u), (3, rj_i v), (4, rj_i lo), (5, rj_i dx), (6, rj_i dy), (7, rj_i dd), (8, rj_i (-1)), (9, rj_i ox)]) (by decide) rfl dX10_isBetween_64 ?_
      refine go_iload dX10_isBetween_66 8 rfl ?_
      refine go_aload_n dX10_isBetween_68 rfl 0 rfl ?_
      refine rc_gw hw (k := 1) (by decide) fX10_13 rfl dX10_isBetween_69 ?_
      refine go_aload_n dX10_isBetween_72 rfl 1 rfl ?_
      refine rc_gm hm hkd (k := 3) (by decide) fX10_28 rfl dX10_isBetween_73 ?_
      refine go_subI dX10_isBetween_76 ?_
      refine go_mulI dX10_isBetween_77 ?_
      refine go_top (fun oy hoy => ?_)
      refine go_istoreS (lv' := [(0, .ref wa), (1, .ref a), (2, rj_i u), (3, rj_i v), (4, rj_i lo), (5, rj_i dx), (6, rj_i dy), (7, rj_i dd), (8, rj_i (-1)), (9, rj_i ox), (10, rj_i oy)]) (by decide) rfl dX10_isBetween_78 ?_
      refine go_iload dX10_isBetween_80 9 rfl ?_
      refine go_aload_n dX10_isBetween_82 rfl 0 rfl ?_
      refine rc_gw hw (k := 3) (by decide) fX10_19 rfl dX10_isBetween_83 ?_
      refine go_mulI dX10_isBetween_86 ?_
      refine go_iload dX10_isBetween_87 10 rfl ?_
      refine go_aload_n dX10_isBetween_89 rfl 0 rfl ?_
      refine rc_gw hw (k := 2) (by decide) fX10_16 rfl dX10_isBetween_90 ?_
      refine go_mulI dX10_isBetween_93 ?_
      refine go_subI dX10_isBetween_94 ?_
      refine go_top (fun tt htt => ?_)
      refine go_istoreS (lv' := [(0, .ref wa), (1, .ref a), (2, rj_i u), (3, rj_i v), (4, rj_i lo), (5, rj_i dx), (6, rj_i dy), (7, rj_i dd), (8, rj_i (-1)), (9, rj_i ox), (10, rj_i oy), (11, rj_i tt)]) (by decide) rfl dX10_isBetween_95 ?_
      have b1tt := rj_pb (a := ox) (b := (s (220 + w) - s (204 + w))) (A := 40) (B := 40) (by omega) (by omega)
      have b2tt := rj_pb (a := oy) (b := (s (212 + w) - s (196 + w))) (A := 40) (B := 40) (by omega) (by omega)
      have b3tt : -3200 ≤ tt ∧ tt ≤ 3200 := by omega
      clear b1tt b2tt
      obtain ⟨t0, ht0⟩ : ∃ z, z = (s (196 + w) - s (136 + m)) * (s (220 + w) - s (204 + w)) - (s (204 + w) - s (142 + m)) * (s (212 + w) - s (196 + w)) := ⟨_, rfl⟩
      have ett : tt = -t0 := by rw [htt, hox, hoy, ht0]; exact sp_ng2 _ _ _ _
      refine go_iload dX10_isBetween_97 9 rfl ?_
      refine go_iload dX10_isBetween_99 6 rfl ?_
      refine go_mulI dX10_isBetween_101 ?_
      refine go_iload dX10_isBetween_102 10 rfl ?_
      refine go_iload dX10_isBetween_104 5 rfl ?_
      refine go_mulI dX10_isBetween_106 ?_
      refine go_subI dX10_isBetween_107 ?_
      refine go_top (fun rr hrr => ?_)
      refine go_istoreS (lv' := [(0, .ref wa), (1, .ref a), (2, rj_i u), (3, rj_i v), (4, rj_i lo), (5, rj_i dx), (6, rj_i dy), (7, rj_i dd), (8, rj_i (-1)), (9, rj_i ox), (10, rj_i oy), (11, rj_i tt), (12, rj_i rr)]) (by decide) rfl dX10_isBetween_108 ?_
      have b1rr := rj_pb (a := ox) (b := dy) (A := 40) (B := 40) (by omega) (by omega)
      have b2rr := rj_pb (a := oy) (b := dx) (A := 40) (B := 40) (by omega) (by omega)
      have b3rr : -3200 ≤ rr ∧ rr ≤ 3200 := by omega
      clear b1rr b2rr
      obtain ⟨r0, hr0⟩ : ∃ z, z = (s (196 + w) - s (136 + m)) * dy - (s (204 + w) - s (142 + m)) * dx := ⟨_, rfl⟩
      have err : rr = -r0 := by rw [hrr, hox, hoy, hr0]; exact sp_ng2 _ _ _ _
      refine go_iload dX10_isBetween_110 7 rfl ?_
      refine go_iload dX10_isBetween_112 8 rfl ?_
      refine go_mulI dX10_isBetween_114 ?_
      refine go_top (fun ww hww => ?_)
      refine go_istoreS (lv' := [(0, .ref wa), (1, .ref a), (2, rj_i u), (3, rj_i v), (4, rj_i lo), (5, rj_i dx), (6, rj_i dy), (7, rj_i ww), (8, rj_i (-1)), (9, rj_i ox), (10, rj_i oy), (11, rj_i tt), (12, rj_i rr)]) (by decide) rfl dX10_isBetween_115 ?_
      refine go_iload dX10_isBetween_117 11 rfl ?_
      refine go_if_ltI (tgt := 141) (by omega) dX10_isBetween_119 (by decide) (fun c_119 => ?_) (fun c_119 => ?_)
      · refine go_iconst (v := Int32.ofInt 0) dX10_isBetween_141 rfl ?_
        refine go_retI rfl (rj_n01 (by decide)) ?_ dX10_isBetween_142
        exact ⟨rj_vi (rj_bf (by unfold sp_btw; rw [← hdx, ← hdy, ← hdd, ← ht0, ← hr0]; omega)).symm, rfl⟩
      · refine go_iload dX10_isBetween_122 11 rfl ?_
        refine go_iload dX10_isBetween_124 7 rfl ?_
        refine go_icmp_gtI (tgt := 141) (by omega) (by omega) dX10_isBetween_126 (by decide) (fun c_126 => ?_) (fun c_126 => ?_)
        · refine go_iconst (v := Int32.ofInt 0) dX10_isBetween_141 rfl ?_
          refine go_retI rfl (rj_n01 (by decide)) ?_ dX10_isBetween_142
          exact ⟨rj_vi (rj_bf (by unfold sp_btw; rw [← hdx, ← hdy, ← hdd, ← ht0, ← hr0]; omega)).symm, rfl⟩
        · refine go_iload dX10_isBetween_129 12 rfl ?_
          refine go_if_ltI (tgt := 141) (by omega) dX10_isBetween_131 (by decide) (fun c_131 => ?_) (fun c_131 => ?_)
          · refine go_iconst (v := Int32.ofInt 0) dX10_isBetween_141 rfl ?_
            refine go_retI rfl (rj_n01 (by decide)) ?_ dX10_isBetween_142
            exact ⟨rj_vi (rj_bf (by unfold sp_btw; rw [← hdx, ← hdy, ← hdd, ← ht0, ← hr0]; omega)).symm, rfl⟩
          · refine go_iload dX10_isBetween_134 12 rfl ?_
            refine go_iload dX10_isBetween_136 7 rfl ?_
            refine go_icmp_leI (tgt := 143) (by omega) (by omega) dX10_isBetween_138 (by decide) (fun c_138 => ?_) (fun c_138 => ?_)
            · refine go_aload_n dX10_isBetween_143 rfl 1 rfl ?_
              refine rc_gm hm hkd (k := 4) (by decide) fX10_29 rfl dX10_isBetween_144 ?_
              refine go_iload dX10_isBetween_147 7 rfl ?_
              refine go_mulI dX10_isBetween_149 ?_
              refine go_iload dX10_isBetween_150 4 rfl ?_
              refine go_aload_n dX10_isBetween_152 rfl 1 rfl ?_
              refine rc_gm hm hkd (k := 4) (by decide) fX10_29 rfl dX10_isBetween_153 ?_
              refine go_subI dX10_isBetween_156 ?_
              refine go_iload dX10_isBetween_157 11 rfl ?_
              refine go_mulI dX10_isBetween_159 ?_
              refine go_addI dX10_isBetween_160 ?_
              refine go_aload_n dX10_isBetween_161 rfl 0 rfl ?_
              refine rc_gw hw (k := 4) (by decide) fX10_22 rfl dX10_isBetween_162 ?_
              refine go_iload dX10_isBetween_165 7 rfl ?_
              refine go_mulI dX10_isBetween_167 ?_
              refine go_icmp_geI (tgt := 175) (by have := rj_pb (a := s (148 + m)) (b := ww) (A := 40) (B := 3200) (by omega) (by omega); have := rj_pb (a := lo - s (148 + m)) (b := tt) (A := 40) (B := 3200) (by omega) (by omega); have := rj_pb (a := s (228 + w)) (b := ww) (A := 40) (B := 3200) (by omega) (by omega); omega) (by have := rj_pb (a := s (148 + m)) (b := ww) (A := 40) (B := 3200) (by omega) (by omega); have := rj_pb (a := lo - s (148 + m)) (b := tt) (A := 40) (B := 3200) (by omega) (by omega); have := rj_pb (a := s (228 + w)) (b := ww) (A := 40) (B := 3200) (by omega) (by omega); omega) dX10_isBetween_168 (by decide) (fun c_168 => ?_) (fun c_168 => ?_)
              · refine go_iconst (v := Int32.ofInt 0) dX10_isBetween_175 rfl ?_
                refine go_retI rfl (rj_n01 (by decide)) ?_ dX10_isBetween_176
                exact ⟨rj_vi (rj_bf (by unfold sp_btw; rw [← hdx, ← hdy, ← hdd, ← ht0, ← hr0]; have eww : ww = -dd := (by omega); rw [eww, ett, sp_mix] at c_168; omega)).symm, rfl⟩
              · refine go_iconst (v := Int32.ofInt 1) dX10_isBetween_171 rfl ?_
                refine go_goto (tgt := 176) dX10_isBetween_172 (by decide) ?_
                refine go_retI rfl (rj_n01 (by decide)) ?_ dX10_isBetween_176
                exact ⟨rj_vi (rj_bt (by unfold sp_btw; rw [← hdx, ← hdy, ← hdd, ← ht0, ← hr0]; have eww : ww = -dd := (by omega); rw [eww, ett, sp_mix] at c_168; omega)).symm, rfl⟩
            · refine go_iconst (v := Int32.ofInt 0) dX10_isBetween_141 rfl ?_
              refine go_retI rfl (rj_n01 (by decide)) ?_ dX10_isBetween_142
              exact ⟨rj_vi (rj_bf (by unfold sp_btw; rw [← hdx, ← hdy, ← hdd, ← ht0, ← hr0]; omega)).symm, rfl⟩
  · refine go_iconst (v := Int32.ofInt 0) dX10_isBetween_38 rfl ?_
    refine go_retI rfl (rj_n01 (by decide)) ?_ dX10_isBetween_39
    exact ⟨rj_vi (rj_bf (by unfold sp_btw; rw [← hdx, ← hdy, ← hdd]; omega)).symm, rfl⟩
set_option maxRecDepth 20000 in
/-- x_may2 -/
theorem x_may2 {X9 : rj_X} {σ : rj_H} {d cb vv vk : Nat} {c : rm_R} {s : Int → Int} {m p tx ty : Int} {a : Nat} (hm : rc_mir cb vv vk σ s m a) (hkd : 0 ≤ s (130 + m) ∧ s (130 + m) ≤ 6) (hp : -2147483648 ≤ p ∧ p < 2147483648) (htx : -2147483648 ≤ tx ∧ tx < 2147483648) (hty : -2147483648 ≤ ty ∧ ty < 2147483648) (hx : sp_at (s (136 + m))) (hy : sp_at (s (142 + m))) (hv : 0 ≤ s (166 + m) ∧ s (166 + m) ≤ 9) : rj_Cl X9 d yX2_mayThrowOn cX2_mayThrowOn 4 (some .boolean) [.ref a, rj_i p, rj_i tx, rj_i ty] (rc_p X9 cb vv vk c σ) (fun w9 τ => w9 = some (rj_i (1 : Int)) ∧ τ = rc_p X9 cb vv vk c σ) := by
  refine go_call (by decide +kernel) (Nat.le_of_ble_eq_true rfl) ?_
  refine go_eq (pc' := 0) (lv' := [(0, .ref a), (1, rj_i p), (2, rj_i tx), (3, rj_i ty)]) (st' := []) rfl rfl rfl rfl ?_
  refine go_iconst (v := Int32.ofInt 1) dX2_mayThrowOn_0 rfl ?_
  refine go_retI rfl (rj_n01 (by decide)) ?_ dX2_mayThrowOn_1
  exact ⟨rfl, rfl⟩
set_option maxRecDepth 20000 in
/-- x_may8 -/
theorem x_may8 {X9 : rj_X} {σ : rj_H} {d cb vv vk : Nat} {c : rm_R} {s : Int → Int} {m p tx ty : Int} {a : Nat} (hm : rc_mir cb vv vk σ s m a) (hkd : 0 ≤ s (130 + m) ∧ s (130 + m) ≤ 6) (hp : -2147483648 ≤ p ∧ p < 2147483648) (htx : -2147483648 ≤ tx ∧ tx < 2147483648) (hty : -2147483648 ≤ ty ∧ ty < 2147483648) (hx : sp_at (s (136 + m))) (hy : sp_at (s (142 + m))) (hv : 0 ≤ s (166 + m) ∧ s (166 + m) ≤ 9) : rj_Cl X9 d yX8_mayThrowOn cX8_mayThrowOn 4 (some .boolean) [.ref a, rj_i p, rj_i tx, rj_i ty] (rc_p X9 cb vv vk c σ) (fun w9 τ => w9 = some (rj_i (rj_b (s (136 + m) ≠ tx ∨ s (142 + m) ≠ ty))) ∧ τ = rc_p X9 cb vv vk c σ) := by
  refine go_call (by decide +kernel) (Nat.le_of_ble_eq_true rfl) ?_
  refine go_eq (pc' := 0) (lv' := [(0, .ref a), (1, rj_i p), (2, rj_i tx), (3, rj_i ty)]) (st' := []) rfl rfl rfl rfl ?_
  refine go_aload_n dX8_mayThrowOn_0 rfl 0 rfl ?_
  refine rc_gm hm hkd (k := 2) (by decide) fX8_7 rfl dX8_mayThrowOn_1 ?_
  refine go_iload_n dX8_mayThrowOn_4 rfl 2 rfl ?_
  refine go_icmp_neI (tgt := 16) (by omega) (by omega) dX8_mayThrowOn_5 (by decide) (fun c_5 => ?_) (fun c_5 => ?_)
  · refine go_iconst (v := Int32.ofInt 1) dX8_mayThrowOn_16 rfl ?_
    refine go_goto (tgt := 21) dX8_mayThrowOn_17 (by decide) ?_
    refine go_retI rfl (rj_n01 (by decide)) ?_ dX8_mayThrowOn_21
    exact ⟨rj_vi (rj_bt (by omega)).symm, rfl⟩
  · refine go_aload_n dX8_mayThrowOn_8 rfl 0 rfl ?_
    refine rc_gm hm hkd (k := 3) (by decide) fX8_13 rfl dX8_mayThrowOn_9 ?_
    refine go_iload_n dX8_mayThrowOn_12 rfl 3 rfl ?_
    refine go_icmp_eqI (tgt := 20) (by omega) (by omega) dX8_mayThrowOn_13 (by decide) (fun c_13 => ?_) (fun c_13 => ?_)
    · refine go_iconst (v := Int32.ofInt 0) dX8_mayThrowOn_20 rfl ?_
      refine go_retI rfl (rj_n01 (by decide)) ?_ dX8_mayThrowOn_21
      exact ⟨rj_vi (rj_bf (by omega)).symm, rfl⟩
    · refine go_iconst (v := Int32.ofInt 1) dX8_mayThrowOn_16 rfl ?_
      refine go_goto (tgt := 21) dX8_mayThrowOn_17 (by decide) ?_
      refine go_retI rfl (rj_n01 (by decide)) ?_ dX8_mayThrowOn_21
      exact ⟨rj_vi (rj_bt (by omega)).symm, rfl⟩
set_option maxRecDepth 20000 in
/-- x_may0 -/
theorem x_may0 {X9 : rj_X} {σ : rj_H} {d cb vv vk : Nat} {c : rm_R} {s : Int → Int} {m p tx ty : Int} {a : Nat} (hm : rc_mir cb vv vk σ s m a) (hkd : 0 ≤ s (130 + m) ∧ s (130 + m) ≤ 6) (hp : -2147483648 ≤ p ∧ p < 2147483648) (htx : -2147483648 ≤ tx ∧ tx < 2147483648) (hty : -2147483648 ≤ ty ∧ ty < 2147483648) (hx : sp_at (s (136 + m))) (hy : sp_at (s (142 + m))) (hv : 0 ≤ s (166 + m) ∧ s (166 + m) ≤ 9) : rj_Cl X9 d yX0_mayThrowOn cX0_mayThrowOn 4 (some .boolean) [.ref a, rj_i p, rj_i tx, rj_i ty] (rc_p X9 cb vv vk c σ) (fun w9 τ => w9 = some (rj_i (rj_b (p = s (166 + m)))) ∧ τ = rc_p X9 cb vv vk c σ) := by
  refine go_call (by decide +kernel) (Nat.le_of_ble_eq_true rfl) ?_
  refine go_eq (pc' := 0) (lv' := [(0, .ref a), (1, rj_i p), (2, rj_i tx), (3, rj_i ty)]) (st' := []) rfl rfl rfl rfl ?_
  refine go_iload_n dX0_mayThrowOn_0 rfl 1 rfl ?_
  refine go_aload_n dX0_mayThrowOn_1 rfl 0 rfl ?_
  refine rc_gm hm hkd (k := 7) (by decide) fX0_7 rfl dX0_mayThrowOn_2 ?_
  refine go_icmp_neI (tgt := 12) (by omega) (by omega) dX0_mayThrowOn_5 (by decide) (fun c_5 => ?_) (fun c_5 => ?_)
  · refine go_iconst (v := Int32.ofInt 0) dX0_mayThrowOn_12 rfl ?_
    refine go_retI rfl (rj_n01 (by decide)) ?_ dX0_mayThrowOn_13
    exact ⟨rj_vi (rj_bf (by omega)).symm, rfl⟩
  · refine go_iconst (v := Int32.ofInt 1) dX0_mayThrowOn_8 rfl ?_
    refine go_goto (tgt := 13) dX0_mayThrowOn_9 (by decide) ?_
    refine go_retI rfl (rj_n01 (by decide)) ?_ dX0_mayThrowOn_13
    exact ⟨rj_vi (rj_bt (by omega)).symm, rfl⟩
set_option maxRecDepth 20000 in
/-- x_may6 -/
theorem x_may6 {X9 : rj_X} {σ : rj_H} {d cb vv vk : Nat} {c : rm_R} {s : Int → Int} {m p tx ty : Int} {a : Nat} (hm : rc_mir cb vv vk σ s m a) (hkd : 0 ≤ s (130 + m) ∧ s (130 + m) ≤ 6) (hp : -2147483648 ≤ p ∧ p < 2147483648) (htx : -2147483648 ≤ tx ∧ tx < 2147483648) (hty : -2147483648 ≤ ty ∧ ty < 2147483648) (hx : sp_at (s (136 + m))) (hy : sp_at (s (142 + m))) (hv : 0 ≤ s (166 + m) ∧ s (166 + m) ≤ 9) : rj_Cl X9 d yX6_mayThrowOn cX6_mayThrowOn 4 (some .boolean) [.ref a, rj_i p, rj_i tx, rj_i ty] (rc_p X9 cb vv vk c σ) (fun w9 τ => w9 = some (rj_i (rj_b (p ≠ s (166 + m)))) ∧ τ = rc_p X9 cb vv vk c σ) := by
  refine go_call (by decide +kernel) (Nat.le_of_ble_eq_true rfl) ?_
  refine go_eq (pc' := 0) (lv' := [(0, .ref a), (1, rj_i p), (2, rj_i tx), (3, rj_i ty)]) (st' := []) rfl rfl rfl rfl ?_
  refine go_iload_n dX6_mayThrowOn_0 rfl 1 rfl ?_
  refine go_aload_n dX6_mayThrowOn_1 rfl 0 rfl ?_
  refine rc_gm hm hkd (k := 7) (by decide) fX6_7 rfl dX6_mayThrowOn_2 ?_
  refine go_icmp_eqI (tgt := 12) (by omega) (by omega) dX6_mayThrowOn_5 (by decide) (fun c_5 => ?_) (fun c_5 => ?_)
  · refine go_iconst (v := Int32.ofInt 0) dX6_mayThrowOn_12 rfl ?_
    refine go_retI rfl (rj_n01 (by decide)) ?_ dX6_mayThrowOn_13
    exact ⟨rj_vi (rj_bf (by omega)).symm, rfl⟩
  · refine go_iconst (v := Int32.ofInt 1) dX6_mayThrowOn_8 rfl ?_
    refine go_goto (tgt := 13) dX6_mayThrowOn_9 (by decide) ?_
    refine go_retI rfl (rj_n01 (by decide)) ?_ dX6_mayThrowOn_13
    exact ⟨rj_vi (rj_bt (by omega)).symm, rfl⟩
set_option maxRecDepth 20000 in
/-- x_may3 -/
theorem x_may3 {X9 : rj_X} {σ : rj_H} {d cb vv vk : Nat} {c : rm_R} {s : Int → Int} {m p tx ty : Int} {a : Nat} (hd : 1 ≤ d) (hm : rc_mir cb vv vk σ s m a) (hk3 : s (130 + m) = 3) (hkd : 0 ≤ s (130 + m) ∧ s (130 + m) ≤ 6) (hp : -2147483648 ≤ p ∧ p < 2147483648) (htx : -2147483648 ≤ tx ∧ tx < 2147483648) (hty : -2147483648 ≤ ty ∧ ty < 2147483648) (htx9 : sp_at tx) (hty9 : sp_at ty) (hx : sp_at (s (136 + m))) (hy : sp_at (s (142 + m))) (hv : 0 ≤ s (166 + m) ∧ s (166 + m) ≤ 9) : rj_Cl X9 d yX3_mayThrowOn cX3_mayThrowOn 4 (some .boolean) [.ref a, rj_i p, rj_i tx, rj_i ty] (rc_p X9 cb vv vk c σ) (fun w9 τ => w9 = some (rj_i (rj_b ((s (136 + m) ≠ tx ∨ s (142 + m) ≠ ty) ∧ rj_abs (s (142 + m) - ty) ≤ s (166 + m)))) ∧ τ = rc_p X9 cb vv vk c σ) := by
  have ha2 : (rc_p X9 cb vv vk c σ).2.2 a = some (.inr (3, rc_mf s m)) := by have h := rc_ma (X9 := X9) (c := c) hm; rw [hk3] at h; exact h
  have hab := rj_abs_b (z := s (142 + m) - ty) (A := 40) (by omega)
  refine go_call (by decide +kernel) (Nat.le_of_ble_eq_true rfl) ?_
  refine go_eq (pc' := 0) (lv' := [(0, .ref a), (1, rj_i p), (2, rj_i tx), (3, rj_i ty)]) (st' := []) rfl rfl rfl rfl ?_
  refine go_aload_n dX3_mayThrowOn_0 rfl 0 rfl ?_
  refine go_iload_n dX3_mayThrowOn_1 rfl 1 rfl ?_
  refine go_iload_n dX3_mayThrowOn_2 rfl 2 rfl ?_
  refine go_iload_n dX3_mayThrowOn_3 rfl 3 rfl ?_
  refine go_callP (d1 := d - 1) wPX3_7 kX3 ha2 rfl (by omega) (x_may8 (p := p) (tx := tx) (ty := ty) hm hkd hp htx hty hx hy hv) rfl (Nat.le_of_ble_eq_true rfl) dX3_mayThrowOn_4 (fun w σ1 hP9 => ?_)
  obtain ⟨rfl, rfl⟩ := hP9
  refine go_if_eqB (tgt := 30) dX3_mayThrowOn_7 (by decide) (fun c_7 => ?_) (fun c_7 => ?_)
  · refine go_iconst (v := Int32.ofInt 0) dX3_mayThrowOn_30 rfl ?_
    refine go_retI rfl (rj_n01 (by decide)) ?_ dX3_mayThrowOn_31
    exact ⟨rj_vi (rj_bf (by omega)).symm, rfl⟩
  · refine go_aload_n dX3_mayThrowOn_10 rfl 0 rfl ?_
    refine rc_gm hm hkd (k := 3) (by decide) fX3_11 rfl dX3_mayThrowOn_11 ?_
    refine go_iload_n dX3_mayThrowOn_14 rfl 3 rfl ?_
    refine go_subI dX3_mayThrowOn_15 ?_
    refine go_mabs (a := (s (142 + m)) - ty) (by omega) wSX3_17 (by omega) (Nat.le_of_ble_eq_true rfl) dX3_mayThrowOn_16 ?_
    refine go_aload_n dX3_mayThrowOn_19 rfl 0 rfl ?_
    refine rc_gm hm hkd (k := 7) (by decide) fX3_23 rfl dX3_mayThrowOn_20 ?_
    refine go_icmp_gtI (tgt := 30) (by omega) (by omega) dX3_mayThrowOn_23 (by decide) (fun c_23 => ?_) (fun c_23 => ?_)
    · refine go_iconst (v := Int32.ofInt 0) dX3_mayThrowOn_30 rfl ?_
      refine go_retI rfl (rj_n01 (by decide)) ?_ dX3_mayThrowOn_31
      exact ⟨rj_vi (rj_bf (by omega)).symm, rfl⟩
    · refine go_iconst (v := Int32.ofInt 1) dX3_mayThrowOn_26 rfl ?_
      refine go_goto (tgt := 31) dX3_mayThrowOn_27 (by decide) ?_
      refine go_retI rfl (rj_n01 (by decide)) ?_ dX3_mayThrowOn_31
      exact ⟨rj_vi (rj_bt (by omega)).symm, rfl⟩
set_option maxRecDepth 20000 in
/-- x_may1 -/
theorem x_may1 {X9 : rj_X} {σ : rj_H} {d cb vv vk : Nat} {c : rm_R} {s : Int → Int} {m p tx ty : Int} {a : Nat} (hd : 1 ≤ d) (hm : rc_mir cb vv vk σ s m a) (hk3 : s (130 + m) = 4) (hkd : 0 ≤ s (130 + m) ∧ s (130 + m) ≤ 6) (hp : -2147483648 ≤ p ∧ p < 2147483648) (htx : -2147483648 ≤ tx ∧ tx < 2147483648) (hty : -2147483648 ≤ ty ∧ ty < 2147483648) (htx9 : sp_at tx) (hty9 : sp_at ty) (hx : sp_at (s (136 + m))) (hy : sp_at (s (142 + m))) (hv : 0 ≤ s (166 + m) ∧ s (166 + m) ≤ 9) : rj_Cl X9 d yX1_mayThrowOn cX1_mayThrowOn 4 (some .boolean) [.ref a, rj_i p, rj_i tx, rj_i ty] (rc_p X9 cb vv vk c σ) (fun w9 τ => w9 = some (rj_i (rj_b ((s (136 + m) ≠ tx ∨ s (142 + m) ≠ ty) ∧ s (166 + m) ≤ rj_abs (s (136 + m) - tx)))) ∧ τ = rc_p X9 cb vv vk c σ) := by
  have ha2 : (rc_p X9 cb vv vk c σ).2.2 a = some (.inr (1, rc_mf s m)) := by have h := rc_ma (X9 := X9) (c := c) hm; rw [hk3] at h; exact h
  have hab := rj_abs_b (z := s (136 + m) - tx) (A := 40) (by omega)
  refine go_call (by decide +kernel) (Nat.le_of_ble_eq_true rfl) ?_
  refine go_eq (pc' := 0) (lv' := [(0, .ref a), (1, rj_i p), (2, rj_i tx), (3, rj_i ty)]) (st' := []) rfl rfl rfl rfl ?_
  refine go_aload_n dX1_mayThrowOn_0 rfl 0 rfl ?_
  refine go_iload_n dX1_mayThrowOn_1 rfl 1 rfl ?_
  refine go_iload_n dX1_mayThrowOn_2 rfl 2 rfl ?_
  refine go_iload_n dX1_mayThrowOn_3 rfl 3 rfl ?_
  refine go_callP (d1 := d - 1) wPX1_7 kX1 ha2 rfl (by omega) (x_may8 (p := p) (tx := tx) (ty := ty) hm hkd hp htx hty hx hy hv) rfl (Nat.le_of_ble_eq_true rfl) dX1_mayThrowOn_4 (fun w σ1 hP9 => ?_)
  obtain ⟨rfl, rfl⟩ := hP9
  refine go_if_eqB (tgt := 30) dX1_mayThrowOn_7 (by decide) (fun c_7 => ?_) (fun c_7 => ?_)
  · refine go_iconst (v := Int32.ofInt 0) dX1_mayThrowOn_30 rfl ?_
    refine go_retI rfl (rj_n01 (by decide)) ?_ dX1_mayThrowOn_31
    exact ⟨rj_vi (rj_bf (by omega)).symm, rfl⟩
  · refine go_aload_n dX1_mayThrowOn_10 rfl 0 rfl ?_
    refine rc_gm hm hkd (k := 2) (by decide) fX1_11 rfl dX1_mayThrowOn_11 ?_
    refine go_iload_n dX1_mayThrowOn_14 rfl 2 rfl ?_
    refine go_subI dX1_mayThrowOn_15 ?_
    refine go_mabs (a := (s (136 + m)) - tx) (by omega) wSX1_17 (by omega) (Nat.le_of_ble_eq_true rfl) dX1_mayThrowOn_16 ?_
    refine go_aload_n dX1_mayThrowOn_19 rfl 0 rfl ?_
    refine rc_gm hm hkd (k := 7) (by decide) fX1_23 rfl dX1_mayThrowOn_20 ?_
    refine go_icmp_ltI (tgt := 30) (by omega) (by omega) dX1_mayThrowOn_23 (by decide) (fun c_23 => ?_) (fun c_23 => ?_)
    · refine go_iconst (v := Int32.ofInt 0) dX1_mayThrowOn_30 rfl ?_
      refine go_retI rfl (rj_n01 (by decide)) ?_ dX1_mayThrowOn_31
      exact ⟨rj_vi (rj_bf (by omega)).symm, rfl⟩
    · refine go_iconst (v := Int32.ofInt 1) dX1_mayThrowOn_26 rfl ?_
      refine go_goto (tgt := 31) dX1_mayThrowOn_27 (by decide) ?_
      refine go_retI rfl (rj_n01 (by decide)) ?_ dX1_mayThrowOn_31
      exact ⟨rj_vi (rj_bt (by omega)).symm, rfl⟩
theorem sp_may_k {s : Int → Int} {m p : Int} (hx : sp_at (s (136 + m))) (hy : sp_at (s (142 + m))) (tx : sp_at (s (172 + p))) (ty : sp_at (s (178 + p))) : (0 < rj_abs (s (136 + m) - s (172 + p)) + rj_abs (s (142 + m) - s (178 + p))) ↔ (s (136 + m) ≠ s (172 + p) ∨ s (142 + m) ≠ s (178 + p)) := by
  unfold rj_abs; (repeat' split) <;> omega
set_option maxRecDepth 20000 in
theorem rv_may {X9 : rj_X} {nL : Nat} {rt9 : Option FieldType} {d9 : Nat} {P9 : Option Value → rj_H → Prop} {pc : Nat} {lv : List (Nat × Value)} {rest : List Value} {σ : rj_H} {cb vv vk : Nat} {c : rm_R} {s : Int → Int} {m : Int} {a : Nat} (hm : rc_mir cb vv vk σ s m a) (hkd : 0 ≤ s (130 + m) ∧ s (130 + m) ≤ 6) (hd : 3 ≤ d9) {p : Int} (hp : -2147483648 ≤ p ∧ p < 2147483648) (hx : sp_at (s (136 + m))) (hy : sp_at (s (142 + m))) (hv : 0 ≤ s (166 + m) ∧ s (166 + m) ≤ 9) (htx : sp_at (s (172 + p))) (hty : sp_at (s (178 + p))) (hap : (0 < rj_abs (s (136 + m) - s (172 + p)) + rj_abs (s (142 + m) - s (178 + p))) ↔ (s (136 + m) ≠ s (172 + p) ∨ s (142 + m) ≠ s (178 + p))) (hcat : (rest.map fun v => v.category).sum ≤ 8) (hdg : decode cX5_canQuarters pc = .ok (.invokevirtual 109, 3)) (kk : rj_Go X9 yX5_canQuarters cX5_canQuarters nL rt9 d9 P9 (pc + 3) lv (rj_i (rj_b (sp_may s m p = true)) :: rest) (rc_p X9 cb vv vk c σ)) : rj_Go X9 yX5_canQuarters cX5_canQuarters nL rt9 d9 P9 pc lv (rj_i (s (178 + p)) :: rj_i (s (172 + p)) :: rj_i p :: .ref a :: rest) (rc_p X9 cb vv vk c σ) := by
  have ha := rc_ma (X9 := X9) (c := c) hm
  rcases (show s (130 + m) = 0 ∨ s (130 + m) = 1 ∨ s (130 + m) = 2 ∨ s (130 + m) = 3 ∨ s (130 + m) = 4 ∨ s (130 + m) = 5 ∨ s (130 + m) = 6 by omega) with hk | hk | hk | hk | hk | hk | hk
  · have ha2 : (rc_p X9 cb vv vk c σ).2.2 a = some (.inr (2, rc_mf s m)) := by rw [hk] at ha; exact ha
    refine go_callV (d1 := d9 - 1) wVX5_109 kX2 ha2 rfl (by omega) (x_may2 (p := p) (tx := s (172 + p)) (ty := s (178 + p)) hm hkd (by omega) (by omega) (by omega) hx hy hv) rfl hcat hdg (fun w σ1 hP9 => ?_)
    obtain ⟨rfl, rfl⟩ := hP9
    exact go_eq rfl rfl (congrArg (fun z => rj_i z :: rest) (show (1 : Int) = rj_b (sp_may s m p = true) from (rj_bt (by unfold sp_may; simp [hk])).symm)) rfl kk
  · have ha2 : (rc_p X9 cb vv vk c σ).2.2 a = some (.inr (8, rc_mf s m)) := by rw [hk] at ha; exact ha
    refine go_callU (d1 := d9 - 1) wUX5_109_X8 kX8 ha2 rfl (by omega) (x_may8 (p := p) (tx := s (172 + p)) (ty := s (178 + p)) hm hkd (by omega) (by omega) (by omega) hx hy hv) rfl hcat hdg (fun w σ1 hP9 => ?_)
    obtain ⟨rfl, rfl⟩ := hP9
    exact go_eq rfl rfl (congrArg (fun z => rj_i z :: rest) (show rj_b (s (136 + m) ≠ s (172 + p) ∨ s (142 + m) ≠ s (178 + p)) = rj_b (sp_may s m p = true) from rj_bc (by unfold sp_may; simp [hk, hap, -not_and]; try omega))) rfl kk
  · have ha2 : (rc_p X9 cb vv vk c σ).2.2 a = some (.inr (0, rc_mf s m)) := by rw [hk] at ha; exact ha
    refine go_callU (d1 := d9 - 1) wUX5_109_X0 kX0 ha2 rfl (by omega) (x_may0 (p := p) (tx := s (172 + p)) (ty := s (178 + p)) hm hkd (by omega) (by omega) (by omega) hx hy hv) rfl hcat hdg (fun w σ1 hP9 => ?_)
    obtain ⟨rfl, rfl⟩ := hP9
    exact go_eq rfl rfl (congrArg (fun z => rj_i z :: rest) (show rj_b (p = s (166 + m)) = rj_b (sp_may s m p = true) from rj_bc (by unfold sp_may; simp [hk, hap, -not_and]; try omega))) rfl kk
  · have ha2 : (rc_p X9 cb vv vk c σ).2.2 a = some (.inr (3, rc_mf s m)) := by rw [hk] at ha; exact ha
    refine go_callU (d1 := d9 - 1) wUX5_109_X3 kX3 ha2 rfl (by omega) (x_may3 (p := p) (tx := s (172 + p)) (ty := s (178 + p)) (by omega) hm hk hkd (by omega) (by omega) (by omega) (by omega) (by omega) hx hy hv) rfl hcat hdg (fun w σ1 hP9 => ?_)
    obtain ⟨rfl, rfl⟩ := hP9
    exact go_eq rfl rfl (congrArg (fun z => rj_i z :: rest) (show rj_b ((s (136 + m) ≠ s (172 + p) ∨ s (142 + m) ≠ s (178 + p)) ∧ rj_abs (s (142 + m) - s (178 + p)) ≤ s (166 + m)) = rj_b (sp_may s m p = true) from rj_bc (by unfold sp_may; simp [hk, hap, -not_and]; try omega))) rfl kk
  · have ha2 : (rc_p X9 cb vv vk c σ).2.2 a = some (.inr (1, rc_mf s m)) := by rw [hk] at ha; exact ha
    refine go_callU (d1 := d9 - 1) wUX5_109_X1 kX1 ha2 rfl (by omega) (x_may1 (p := p) (tx := s (172 + p)) (ty := s (178 + p)) (by omega) hm hk hkd (by omega) (by omega) (by omega) (by omega) (by omega) hx hy hv) rfl hcat hdg (fun w σ1 hP9 => ?_)
    obtain ⟨rfl, rfl⟩ := hP9
    exact go_eq rfl rfl (congrArg (fun z => rj_i z :: rest) (show rj_b ((s (136 + m) ≠ s (172 + p) ∨ s (142 + m) ≠ s (178 + p)) ∧ s (166 + m) ≤ rj_abs (s (136 + m) - s (172 + p))) = rj_b (sp_may s m p = true) from rj_bc (by unfold sp_may; simp [hk, hap, -not_and]; try omega))) rfl kk
  · have ha2 : (rc_p X9 cb vv vk c σ).2.2 a = some (.inr (4, rc_mf s m)) := by rw [hk] at ha; exact ha
    refine go_callU (d1 := d9 - 1) wUX5_109_X4 kX4 ha2 rfl (by omega) (x_may0 (p := p) (tx := s (172 + p)) (ty := s (178 + p)) hm hkd (by omega) (by omega) (by omega) hx hy hv) rfl hcat hdg (fun w σ1 hP9 => ?_)
    obtain ⟨rfl, rfl⟩ := hP9
    exact go_eq rfl rfl (congrArg (fun z => rj_i z :: rest) (show rj_b (p = s (166 + m)) = rj_b (sp_may s m p = true) from rj_bc (by unfold sp_may; simp [hk, hap, -not_and]; try omega))) rfl kk
  · have ha2 : (rc_p X9 cb vv vk c σ).2.2 a = some (.inr (6, rc_mf s m)) := by rw [hk] at ha; exact ha
    refine go_callU (d1 := d9 - 1) wUX5_109_X6 kX6 ha2 rfl (by omega) (x_may6 (p := p) (tx := s (172 + p)) (ty := s (178 + p)) hm hkd (by omega) (by omega) (by omega) hx hy hv) rfl hcat hdg (fun w σ1 hP9 => ?_)
    obtain ⟨rfl, rfl⟩ := hP9
    exact go_eq rfl rfl (congrArg (fun z => rj_i z :: rest) (show rj_b (p ≠ s (166 + m)) = rj_b (sp_may s m p = true) from rj_bc (by unfold sp_may; simp [hk, hap, -not_and]; try omega))) rfl kk
set_option maxRecDepth 20000 in
/-- x_light2 -/
theorem x_light2 {X9 : rj_X} {σ : rj_H} {d cb vv vk : Nat} {c : rm_R} {s : Int → Int} {m : Int} {a : Nat} (hm : rc_mir cb vv vk σ s m a) (hkd : 0 ≤ s (130 + m) ∧ s (130 + m) ≤ 6) : rj_Cl X9 d yX2_light cX2_light 1 (some .int) [.ref a] (rc_p X9 cb vv vk c σ) (fun w9 τ => w9 = some (rj_i (s (154 + m))) ∧ τ = rc_p X9 cb vv vk c σ) := by
  refine go_call (by decide +kernel) (Nat.le_of_ble_eq_true rfl) ?_
  refine go_eq (pc' := 0) (lv' := [(0, .ref a)]) (st' := []) rfl rfl rfl rfl ?_
  refine go_aload_n dX2_light_0 rfl 0 rfl ?_
  refine rc_gm hm hkd (k := 5) (by decide) fX2_30 rfl dX2_light_1 ?_
  refine go_retI rfl rfl ?_ dX2_light_4
  exact ⟨rfl, rfl⟩
set_option maxRecDepth 20000 in
/-- x_light1 -/
theorem x_light1 {X9 : rj_X} {σ : rj_H} {d cb vv vk : Nat} {c : rm_R} {s : Int → Int} {m : Int} {a : Nat} (hm : rc_mir cb vv vk σ s m a) (hkd : 0 ≤ s (130 + m) ∧ s (130 + m) ≤ 6) : rj_Cl X9 d yX1_light cX1_light 1 (some .int) [.ref a] (rc_p X9 cb vv vk c σ) (fun w9 τ => w9 = some (rj_i (2 * s (154 + m))) ∧ τ = rc_p X9 cb vv vk c σ) := by
  refine go_call (by decide +kernel) (Nat.le_of_ble_eq_true rfl) ?_
  refine go_eq (pc' := 0) (lv' := [(0, .ref a)]) (st' := []) rfl rfl rfl rfl ?_
  refine go_iconst (v := Int32.ofInt 2) dX1_light_0 rfl ?_
  refine go_aload_n dX1_light_1 rfl 0 rfl ?_
  refine rc_gm hm hkd (k := 5) (by decide) fX1_26 rfl dX1_light_2 ?_
  refine go_mulI dX1_light_5 ?_
  refine go_retI rfl rfl ?_ dX1_light_6
  exact ⟨rfl, rfl⟩
set_option maxRecDepth 20000 in
theorem rv_light5 {X9 : rj_X} {nL : Nat} {rt9 : Option FieldType} {d9 : Nat} {P9 : Option Value → rj_H → Prop} {pc : Nat} {lv : List (Nat × Value)} {rest : List Value} {σ : rj_H} {cb vv vk : Nat} {c : rm_R} {s : Int → Int} {m : Int} {a : Nat} (hm : rc_mir cb vv vk σ s m a) (hkd : 0 ≤ s (130 + m) ∧ s (130 + m) ≤ 6) (hd : 1 ≤ d9)  (hcat : (rest.map fun v => v.category).sum ≤ 8) (hdg : decode cX5_lightOf pc = .ok (.invokevirtual 134, 3)) (kk : rj_Go X9 yX5_lightOf cX5_lightOf nL rt9 d9 P9 (pc + 3) lv (rj_i (sp_light s m) :: rest) (rc_p X9 cb vv vk c σ)) : rj_Go X9 yX5_lightOf cX5_lightOf nL rt9 d9 P9 pc lv (.ref a :: rest) (rc_p X9 cb vv vk c σ) := by
  have ha := rc_ma (X9 := X9) (c := c) hm
  rcases (show s (130 + m) = 0 ∨ s (130 + m) = 1 ∨ s (130 + m) = 2 ∨ s (130 + m) = 3 ∨ s (130 + m) = 4 ∨ s (130 + m) = 5 ∨ s (130 + m) = 6 by omega) with hk | hk | hk | hk | hk | hk | hk
  · have ha2 : (rc_p X9 cb vv vk c σ).2.2 a = some (.inr (2, rc_mf s m)) := by rw [hk] at ha; exact ha
    refine go_callV (d1 := d9 - 1) wVX5_134 kX2 ha2 rfl (by omega) (x_light2 hm hkd) rfl hcat hdg (fun w σ1 hP9 => ?_)
    obtain ⟨rfl, rfl⟩ := hP9
    exact go_eq rfl rfl (congrArg (fun z => rj_i z :: rest) (show s (154 + m) = sp_light s m from by unfold sp_light; rw [if_neg (by omega)])) rfl kk
  · have ha2 : (rc_p X9 cb vv vk c σ).2.2 a = some (.inr (8, rc_mf s m)) := by rw [hk] at ha; exact ha
    refine go_callU (d1 := d9 - 1) wUX5_134_X8 kX8 ha2 rfl (by omega) (x_light2 hm hkd) rfl hcat hdg (fun w σ1 hP9 => ?_)
    obtain ⟨rfl, rfl⟩ := hP9
    exact go_eq rfl rfl (congrArg (fun z => rj_i z :: rest) (show s (154 + m) = sp_light s m from by unfold sp_light; rw [if_neg (by omega)])) rfl kk
  · have ha2 : (rc_p X9 cb vv vk c σ).2.2 a = some (.inr (0, rc_mf s m)) := by rw [hk] at ha; exact ha
    refine go_callU (d1 := d9 - 1) wUX5_134_X0 kX0 ha2 rfl (by omega) (x_light2 hm hkd) rfl hcat hdg (fun w σ1 hP9 => ?_)
    obtain ⟨rfl, rfl⟩ := hP9
    exact go_eq rfl rfl (congrArg (fun z => rj_i z :: rest) (show s (154 + m) = sp_light s m from by unfold sp_light; rw [if_neg (by omega)])) rfl kk
  · have ha2 : (rc_p X9 cb vv vk c σ).2.2 a = some (.inr (3, rc_mf s m)) := by rw [hk] at ha; exact ha
    refine go_callU (d1 := d9 - 1) wUX5_134_X3 kX3 ha2 rfl (by omega) (x_light2 hm hkd) rfl hcat hdg (fun w σ1 hP9 => ?_)
    obtain ⟨rfl, rfl⟩ := hP9
    exact go_eq rfl rfl (congrArg (fun z => rj_i z :: rest) (show s (154 + m) = sp_light s m from by unfold sp_light; rw [if_neg (by omega)])) rfl kk
  · have ha2 : (rc_p X9 cb vv vk c σ).2.2 a = some (.inr (1, rc_mf s m)) := by rw [hk] at ha; exact ha
    refine go_callU (d1 := d9 - 1) wUX5_134_X1 kX1 ha2 rfl (by omega) (x_light1 hm hkd) rfl hcat hdg (fun w σ1 hP9 => ?_)
    obtain ⟨rfl, rfl⟩ := hP9
    exact go_eq rfl rfl (congrArg (fun z => rj_i z :: rest) (show 2 * s (154 + m) = sp_light s m from by unfold sp_light; rw [if_pos hk])) rfl kk
  · have ha2 : (rc_p X9 cb vv vk c σ).2.2 a = some (.inr (4, rc_mf s m)) := by rw [hk] at ha; exact ha
    refine go_callU (d1 := d9 - 1) wUX5_134_X4 kX4 ha2 rfl (by omega) (x_light2 hm hkd) rfl hcat hdg (fun w σ1 hP9 => ?_)
    obtain ⟨rfl, rfl⟩ := hP9
    exact go_eq rfl rfl (congrArg (fun z => rj_i z :: rest) (show s (154 + m) = sp_light s m from by unfold sp_light; rw [if_neg (by omega)])) rfl kk
  · have ha2 : (rc_p X9 cb vv vk c σ).2.2 a = some (.inr (6, rc_mf s m)) := by rw [hk] at ha; exact ha
    refine go_callU (d1 := d9 - 1) wUX5_134_X6 kX6 ha2 rfl (by omega) (x_light2 hm hkd) rfl hcat hdg (fun w σ1 hP9 => ?_)
    obtain ⟨rfl, rfl⟩ := hP9
    exact go_eq rfl rfl (congrArg (fun z => rj_i z :: rest) (show s (154 + m) = sp_light s m from by unfold sp_light; rw [if_neg (by omega)])) rfl kk
set_option maxRecDepth 20000 in
theorem rv_lightS {X9 : rj_X} {nL : Nat} {rt9 : Option FieldType} {d9 : Nat} {P9 : Option Value → rj_H → Prop} {pc : Nat} {lv : List (Nat × Value)} {rest : List Value} {σ : rj_H} {cb vv vk : Nat} {c : rm_R} {s : Int → Int} {m : Int} {a : Nat} (hm : rc_mir cb vv vk σ s m a) (hkd : 0 ≤ s (130 + m) ∧ s (130 + m) ≤ 6) (hd : 1 ≤ d9)  (hcat : (rest.map fun v => v.category).sum ≤ 8) (hdg : decode cX11_sumBy pc = .ok (.invokevirtual 335, 3)) (kk : rj_Go X9 yX11_sumBy cX11_sumBy nL rt9 d9 P9 (pc + 3) lv (rj_i (sp_light s m) :: rest) (rc_p X9 cb vv vk c σ)) : rj_Go X9 yX11_sumBy cX11_sumBy nL rt9 d9 P9 pc lv (.ref a :: rest) (rc_p X9 cb vv vk c σ) := by
  have ha := rc_ma (X9 := X9) (c := c) hm
  rcases (show s (130 + m) = 0 ∨ s (130 + m) = 1 ∨ s (130 + m) = 2 ∨ s (130 + m) = 3 ∨ s (130 + m) = 4 ∨ s (130 + m) = 5 ∨ s (130 + m) = 6 by omega) with hk | hk | hk | hk | hk | hk | hk
  · have ha2 : (rc_p X9 cb vv vk c σ).2.2 a = some (.inr (2, rc_mf s m)) := by rw [hk] at ha; exact ha
    refine go_callV (d1 := d9 - 1) wVX11_335 kX2 ha2 rfl (by omega) (x_light2 hm hkd) rfl hcat hdg (fun w σ1 hP9 => ?_)
    obtain ⟨rfl, rfl⟩ := hP9
    exact go_eq rfl rfl (congrArg (fun z => rj_i z :: rest) (show s (154 + m) = sp_light s m from by unfold sp_light; rw [if_neg (by omega)])) rfl kk
  · have ha2 : (rc_p X9 cb vv vk c σ).2.2 a = some (.inr (8, rc_mf s m)) := by rw [hk] at ha; exact ha
    refine go_callU (d1 := d9 - 1) wUX11_335_X8 kX8 ha2 rfl (by omega) (x_light2 hm hkd) rfl hcat hdg (fun w σ1 hP9 => ?_)
    obtain ⟨rfl, rfl⟩ := hP9
    exact go_eq rfl rfl (congrArg (fun z => rj_i z :: rest) (show s (154 + m) = sp_light s m from by unfold sp_light; rw [if_neg (by omega)])) rfl kk
  · have ha2 : (rc_p X9 cb vv vk c σ).2.2 a = some (.inr (0, rc_mf s m)) := by rw [hk] at ha; exact ha
    refine go_callU (d1 := d9 - 1) wUX11_335_X0 kX0 ha2 rfl (by omega) (x_light2 hm hkd) rfl hcat hdg (fun w σ1 hP9 => ?_)
    obtain ⟨rfl, rfl⟩ := hP9
    exact go_eq rfl rfl (congrArg (fun z => rj_i z :: rest) (show s (154 + m) = sp_light s m from by unfold sp_light; rw [if_neg (by omega)])) rfl kk
  · have ha2 : (rc_p X9 cb vv vk c σ).2.2 a = some (.inr (3, rc_mf s m)) := by rw [hk] at ha; exact ha
    refine go_callU (d1 := d9 - 1) wUX11_335_X3 kX3 ha2 rfl (by omega) (x_light2 hm hkd) rfl hcat hdg (fun w σ1 hP9 => ?_)
    obtain ⟨rfl, rfl⟩ := hP9
    exact go_eq rfl rfl (congrArg (fun z => rj_i z :: rest) (show s (154 + m) = sp_light s m from by unfold sp_light; rw [if_neg (by omega)])) rfl kk
  · have ha2 : (rc_p X9 cb vv vk c σ).2.2 a = some (.inr (1, rc_mf s m)) := by rw [hk] at ha; exact ha
    refine go_callU (d1 := d9 - 1) wUX11_335_X1 kX1 ha2 rfl (by omega) (x_light1 hm hkd) rfl hcat hdg (fun w σ1 hP9 => ?_)
    obtain ⟨rfl, rfl⟩ := hP9
    exact go_eq rfl rfl (congrArg (fun z => rj_i z :: rest) (show 2 * s (154 + m) = sp_light s m from by unfold sp_light; rw [if_pos hk])) rfl kk
  · have ha2 : (rc_p X9 cb vv vk c σ).2.2 a = some (.inr (4, rc_mf s m)) := by rw [hk] at ha; exact ha
    refine go_callU (d1 := d9 - 1) wUX11_335_X4 kX4 ha2 rfl (by omega) (x_light2 hm hkd) rfl hcat hdg (fun w σ1 hP9 => ?_)
    obtain ⟨rfl, rfl⟩ := hP9
    exact go_eq rfl rfl (congrArg (fun z => rj_i z :: rest) (show s (154 + m) = sp_light s m from by unfold sp_light; rw [if_neg (by omega)])) rfl kk
  · have ha2 : (rc_p X9 cb vv vk c σ).2.2 a = some (.inr (6, rc_mf s m)) := by rw [hk] at ha; exact ha
    refine go_callU (d1 := d9 - 1) wUX11_335_X6 kX6 ha2 rfl (by omega) (x_light2 hm hkd) rfl hcat hdg (fun w σ1 hP9 => ?_)
    obtain ⟨rfl, rfl⟩ := hP9
    exact go_eq rfl rfl (congrArg (fun z => rj_i z :: rest) (show s (154 + m) = sp_light s m from by unfold sp_light; rw [if_neg (by omega)])) rfl kk
set_option maxRecDepth 20000 in
theorem rv_lightC {X9 : rj_X} {nL : Nat} {rt9 : Option FieldType} {d9 : Nat} {P9 : Option Value → rj_H → Prop} {pc : Nat} {lv : List (Nat × Value)} {rest : List Value} {σ : rj_H} {cb vv vk : Nat} {c : rm_R} {s : Int → Int} {m : Int} {a : Nat} (hm : rc_mir cb vv vk σ s m a) (hkd : 0 ≤ s (130 + m) ∧ s (130 + m) ≤ 6) (hd : 1 ≤ d9)  (hcat : (rest.map fun v => v.category).sum ≤ 8) (hdg : decode cX11_countLight pc = .ok (.invokevirtual 335, 3)) (kk : rj_Go X9 yX11_countLight cX11_countLight nL rt9 d9 P9 (pc + 3) lv (rj_i (sp_light s m) :: rest) (rc_p X9 cb vv vk c σ)) : rj_Go X9 yX11_countLight cX11_countLight nL rt9 d9 P9 pc lv (.ref a :: rest) (rc_p X9 cb vv vk c σ) := by
  have ha := rc_ma (X9 := X9) (c := c) hm
  rcases (show s (130 + m) = 0 ∨ s (130 + m) = 1 ∨ s (130 + m) = 2 ∨ s (130 + m) = 3 ∨ s (130 + m) = 4 ∨ s (130 + m) = 5 ∨ s (130 + m) = 6 by omega) with hk | hk | hk | hk | hk | hk | hk
  · have ha2 : (rc_p X9 cb vv vk c σ).2.2 a = some (.inr (2, rc_mf s m)) := by rw [hk] at ha; exact ha
    refine go_callV (d1 := d9 - 1) wVX11_335 kX2 ha2 rfl (by omega) (x_light2 hm hkd) rfl hcat hdg (fun w σ1 hP9 => ?_)
    obtain ⟨rfl, rfl⟩ := hP9
    exact go_eq rfl rfl (congrArg (fun z => rj_i z :: rest) (show s (154 + m) = sp_light s m from by unfold sp_light; rw [if_neg (by omega)])) rfl kk
  · have ha2 : (rc_p X9 cb vv vk c σ).2.2 a = some (.inr (8, rc_mf s m)) := by rw [hk] at ha; exact ha
    refine go_callU (d1 := d9 - 1) wUX11_335_X8 kX8 ha2 rfl (by omega) (x_light2 hm hkd) rfl hcat hdg (fun w σ1 hP9 => ?_)
    obtain ⟨rfl, rfl⟩ := hP9
    exact go_eq rfl rfl (congrArg (fun z => rj_i z :: rest) (show s (154 + m) = sp_light s m from by unfold sp_light; rw [if_neg (by omega)])) rfl kk
  · have ha2 : (rc_p X9 cb vv vk c σ).2.2 a = some (.inr (0, rc_mf s m)) := by rw [hk] at ha; exact ha
    refine go_callU (d1 := d9 - 1) wUX11_335_X0 kX0 ha2 rfl (by omega) (x_light2 hm hkd) rfl hcat hdg (fun w σ1 hP9 => ?_)
    obtain ⟨rfl, rfl⟩ := hP9
    exact go_eq rfl rfl (congrArg (fun z => rj_i z :: rest) (show s (154 + m) = sp_light s m from by unfold sp_light; rw [if_neg (by omega)])) rfl kk
  · have ha2 : (rc_p X9 cb vv vk c σ).2.2 a = some (.inr (3, rc_mf s m)) := by rw [hk] at ha; exact ha
    refine go_callU (d1 := d9 - 1) wUX11_335_X3 kX3 ha2 rfl (by omega) (x_light2 hm hkd) rfl hcat hdg (fun w σ1 hP9 => ?_)
    obtain ⟨rfl, rfl⟩ := hP9
    exact go_eq rfl rfl (congrArg (fun z => rj_i z :: rest) (show s (154 + m) = sp_light s m from by unfold sp_light; rw [if_neg (by omega)])) rfl kk
  · have ha2 : (rc_p X9 cb vv vk c σ).2.2 a = some (.inr (1, rc_mf s m)) := by rw [hk] at ha; exact ha
    refine go_callU (d1 := d9 - 1) wUX11_335_X1 kX1 ha2 rfl (by omega) (x_light1 hm hkd) rfl hcat hdg (fun w σ1 hP9 => ?_)
    obtain ⟨rfl, rfl⟩ := hP9
    exact go_eq rfl rfl (congrArg (fun z => rj_i z :: rest) (show 2 * s (154 + m) = sp_light s m from by unfold sp_light; rw [if_pos hk])) rfl kk
  · have ha2 : (rc_p X9 cb vv vk c σ).2.2 a = some (.inr (4, rc_mf s m)) := by rw [hk] at ha; exact ha
    refine go_callU (d1 := d9 - 1) wUX11_335_X4 kX4 ha2 rfl (by omega) (x_light2 hm hkd) rfl hcat hdg (fun w σ1 hP9 => ?_)
    obtain ⟨rfl, rfl⟩ := hP9
    exact go_eq rfl rfl (congrArg (fun z => rj_i z :: rest) (show s (154 + m) = sp_light s m from by unfold sp_light; rw [if_neg (by omega)])) rfl kk
  · have ha2 : (rc_p X9 cb vv vk c σ).2.2 a = some (.inr (6, rc_mf s m)) := by rw [hk] at ha; exact ha
    refine go_callU (d1 := d9 - 1) wUX11_335_X6 kX6 ha2 rfl (by omega) (x_light2 hm hkd) rfl hcat hdg (fun w σ1 hP9 => ?_)
    obtain ⟨rfl, rfl⟩ := hP9
    exact go_eq rfl rfl (congrArg (fun z => rj_i z :: rest) (show s (154 + m) = sp_light s m from by unfold sp_light; rw [if_neg (by omega)])) rfl kk
