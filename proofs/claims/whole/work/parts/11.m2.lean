/-! THE REFERENCE, 2: ways and walls, kinds -/
theorem rj_lk {i : Nat} {v : Value} {t t' : List (Nat × Value)} (h : t = t') : (i, v) :: t = (i, v) :: t' := by rw [h]
theorem rj_lj {i : Nat} {a b : Int} {t t' : List (Nat × Value)} (e : a = b) (h : t = t') : (i, rj_i a) :: t = (i, rj_i b) :: t' := by rw [e, h]
theorem go_top {X9 : rj_X} {y9 : MethodName} {cc : ByteArray} {nL : Nat} {rt9 : Option FieldType} {d9 : Nat} {P9 : Option Value → rj_H → Prop} {pc : Nat} {lv : List (Nat × Value)} {rest : List Value} {σ : rj_H} {a : Int} (k : ∀ b : Int, b = a → rj_Go X9 y9 cc nL rt9 d9 P9 pc lv (rj_i b :: rest) σ) : rj_Go X9 y9 cc nL rt9 d9 P9 pc lv (rj_i a :: rest) σ := k a rfl
theorem rj_pb {a b A B : Int} (ha : -A ≤ a ∧ a ≤ A) (hb : -B ≤ b ∧ b ≤ B) : -(A * B) ≤ a * b ∧ a * b ≤ A * B := by
  have hA : 0 ≤ A := by omega
  have hB : 0 ≤ B := by omega
  have h1 : 0 ≤ (A - a) * (B + b) := Int.mul_nonneg (by omega) (by omega)
  have h2 : 0 ≤ (A + a) * (B - b) := Int.mul_nonneg (by omega) (by omega)
  have h3 : 0 ≤ (A - a) * (B - b) := Int.mul_nonneg (by omega) (by omega)
  have h4 : 0 ≤ (A + a) * (B + b) := Int.mul_nonneg (by omega) (by omega)
  simp only [Int.sub_mul, Int.mul_sub, Int.add_mul, Int.mul_add] at h1 h2 h3 h4
  omega
/-- a way (of d, t, r: what the way and the wall cross) lies below a wall where they meet -/
abbrev sp_bt (d t r hi lo h : Int) : Prop := (0 < d ∧ 0 ≤ t ∧ t ≤ d ∧ 0 ≤ r ∧ r ≤ d ∧ hi * (d - t) + lo * t < h * d) ∨ (d < 0 ∧ 0 ≤ -t ∧ -t ≤ -d ∧ 0 ≤ -r ∧ -r ≤ -d ∧ hi * (-d - -t) + lo * -t < h * -d)
abbrev sp_btw (s : Int → Int) (w x y hi u v lo : Int) : Prop := sp_bt ((u - x) * (s (220 + w) - s (204 + w)) - (v - y) * (s (212 + w) - s (196 + w))) ((s (196 + w) - x) * (s (220 + w) - s (204 + w)) - (s (204 + w) - y) * (s (212 + w) - s (196 + w))) ((s (196 + w) - x) * (v - y) - (s (204 + w) - y) * (u - x)) hi lo (s (228 + w))
/-- a place of the map -/
abbrev sp_at (a : Int) : Prop := 0 ≤ a ∧ a ≤ 40
set_option maxRecDepth 20000 in
set_option maxHeartbeats 1000000 in
/-- m_isBetween -/
theorem m_isBetween {X9 : rj_X} {σ : rj_H} {d : Nat} {mb : Nat} {r : rm_R} {w x y hi u v lo : Int} (hd : 1 ≤ d) (hw : 0 ≤ w ∧ w < 8) (hx : sp_at x) (hy : sp_at y) (hhi : sp_at hi) (hu : sp_at u) (hv : sp_at v) (hlo : sp_at lo) {s : Int → Int} (hs : r 1 = s) (a1 : sp_at (s (196 + w))) (a2 : sp_at (s (204 + w))) (a3 : sp_at (s (212 + w))) (a4 : sp_at (s (220 + w))) (a5 : sp_at (s (228 + w))) : rj_Cl X9 d yX12_isBetween cX12_isBetween 17 (some .boolean) [.ref mb, rj_i w, rj_i x, rj_i y, rj_i hi, rj_i u, rj_i v, rj_i lo] (rm_p X9 mb r σ) (fun w9 τ => w9 = some (rj_i (rj_b (sp_btw s w x y hi u v lo))) ∧ τ = (rm_p X9 mb r σ)) := by
  refine go_call (by decide +kernel) (Nat.le_of_ble_eq_true rfl) ?_
  refine go_eq (pc' := 0) (lv' := [(0, .ref mb), (1, rj_i w), (2, rj_i x), (3, rj_i y), (4, rj_i hi), (5, rj_i u), (6, rj_i v), (7, rj_i lo)]) (st' := []) rfl rfl rfl rfl ?_
  refine go_iload dX12_isBetween_0 5 rfl ?_
  refine go_iload_n dX12_isBetween_2 rfl 2 rfl ?_
  refine go_subI dX12_isBetween_3 ?_
  refine go_top (fun dx hdx => ?_)
  refine go_istoreS (lv' := [(0, .ref mb), (1, rj_i w), (2, rj_i x), (3, rj_i y), (4, rj_i hi), (5, rj_i u), (6, rj_i v), (7, rj_i lo), (8, rj_i dx)]) (by decide) rfl dX12_isBetween_4 ?_
  refine go_iload dX12_isBetween_6 6 rfl ?_
  refine go_iload_n dX12_isBetween_8 rfl 3 rfl ?_
  refine go_subI dX12_isBetween_9 ?_
  refine go_top (fun dy hdy => ?_)
  refine go_istoreS (lv' := [(0, .ref mb), (1, rj_i w), (2, rj_i x), (3, rj_i y), (4, rj_i hi), (5, rj_i u), (6, rj_i v), (7, rj_i lo), (8, rj_i dx), (9, rj_i dy)]) (by decide) rfl dX12_isBetween_10 ?_
  refine go_aload_n dX12_isBetween_12 rfl 0 rfl ?_
  refine grm_g1 rfl dX12_isBetween_13 ?_
  refine go_sipush (v := Int32.ofInt 212) dX12_isBetween_16 (by decide) ?_
  refine go_iload_n dX12_isBetween_19 rfl 1 rfl ?_
  refine go_addI dX12_isBetween_20 ?_
  refine grm_l1 (by omega) (by omega) dX12_isBetween_21 ?_
  rw [show r 1 = s from hs]
  refine go_aload_n dX12_isBetween_22 rfl 0 rfl ?_
  refine grm_g1 rfl dX12_isBetween_23 ?_
  refine go_sipush (v := Int32.ofInt 196) dX12_isBetween_26 (by decide) ?_
  refine go_iload_n dX12_isBetween_29 rfl 1 rfl ?_
  refine go_addI dX12_isBetween_30 ?_
  refine grm_l1 (by omega) (by omega) dX12_isBetween_31 ?_
  rw [show r 1 = s from hs]
  refine go_subI dX12_isBetween_32 ?_
  refine go_top (fun ex hex => ?_)
  refine go_istoreS (lv' := [(0, .ref mb), (1, rj_i w), (2, rj_i x), (3, rj_i y), (4, rj_i hi), (5, rj_i u), (6, rj_i v), (7, rj_i lo), (8, rj_i dx), (9, rj_i dy), (10, rj_i ex)]) (by decide) rfl dX12_isBetween_33 ?_
  refine go_aload_n dX12_isBetween_35 rfl 0 rfl ?_
  refine grm_g1 rfl dX12_isBetween_36 ?_
  refine go_sipush (v := Int32.ofInt 220) dX12_isBetween_39 (by decide) ?_
  refine go_iload_n dX12_isBetween_42 rfl 1 rfl ?_
  refine go_addI dX12_isBetween_43 ?_
  refine grm_l1 (by omega) (by omega) dX12_isBetween_44 ?_
  rw [show r 1 = s from hs]
  refine go_aload_n dX12_isBetween_45 rfl 0 rfl ?_
  refine grm_g1 rfl dX12_isBetween_46 ?_
  refine go_sipush (v := Int32.ofInt 204) dX12_isBetween_49 (by decide) ?_
  refine go_iload_n dX12_isBetween_52 rfl 1 rfl ?_
  refine go_addI dX12_isBetween_53 ?_
  refine grm_l1 (by omega) (by omega) dX12_isBetween_54 ?_
  rw [show r 1 = s from hs]
  refine go_subI dX12_isBetween_55 ?_
  refine go_top (fun ey hey => ?_)
  refine go_istoreS (lv' := [(0, .ref mb), (1, rj_i w), (2, rj_i x), (3, rj_i y), (4, rj_i hi), (5, rj_i u), (6, rj_i v), (7, rj_i lo), (8, rj_i dx), (9, rj_i dy), (10, rj_i ex), (11, rj_i ey)]) (by decide) rfl dX12_isBetween_56 ?_
  refine go_aload_n dX12_isBetween_58 rfl 0 rfl ?_
  refine grm_g1 rfl dX12_isBetween_59 ?_
  refine go_sipush (v := Int32.ofInt 196) dX12_isBetween_62 (by decide) ?_
  refine go_iload_n dX12_isBetween_65 rfl 1 rfl ?_
  refine go_addI dX12_isBetween_66 ?_
  refine grm_l1 (by omega) (by omega) dX12_isBetween_67 ?_
  rw [show r 1 = s from hs]
  refine go_iload_n dX12_isBetween_68 rfl 2 rfl ?_
  refine go_subI dX12_isBetween_69 ?_
  refine go_top (fun fx hfx => ?_)
  refine go_istoreS (lv' := [(0, .ref mb), (1, rj_i w), (2, rj_i x), (3, rj_i y), (4, rj_i hi), (5, rj_i u), (6, rj_i v), (7, rj_i lo), (8, rj_i dx), (9, rj_i dy), (10, rj_i ex), (11, rj_i ey), (12, rj_i fx)]) (by decide) rfl dX12_isBetween_70 ?_
  refine go_aload_n dX12_isBetween_72 rfl 0 rfl ?_
  refine grm_g1 rfl dX12_isBetween_73 ?_
  refine go_sipush (v := Int32.ofInt 204) dX12_isBetween_76 (by decide) ?_
  refine go_iload_n dX12_isBetween_79 rfl 1 rfl ?_
  refine go_addI dX12_isBetween_80 ?_
  refine grm_l1 (by omega) (by omega) dX12_isBetween_81 ?_
  rw [show r 1 = s from hs]
  refine go_iload_n dX12_isBetween_82 rfl 3 rfl ?_
  refine go_subI dX12_isBetween_83 ?_
  refine go_top (fun fy hfy => ?_)
  refine go_istoreS (lv' := [(0, .ref mb), (1, rj_i w), (2, rj_i x), (3, rj_i y), (4, rj_i hi), (5, rj_i u), (6, rj_i v), (7, rj_i lo), (8, rj_i dx), (9, rj_i dy), (10, rj_i ex), (11, rj_i ey), (12, rj_i fx), (13, rj_i fy)]) (by decide) rfl dX12_isBetween_84 ?_
  refine go_iload dX12_isBetween_86 8 rfl ?_
  refine go_iload dX12_isBetween_88 11 rfl ?_
  refine go_mulI dX12_isBetween_90 ?_
  refine go_iload dX12_isBetween_91 9 rfl ?_
  refine go_iload dX12_isBetween_93 10 rfl ?_
  refine go_mulI dX12_isBetween_95 ?_
  refine go_subI dX12_isBetween_96 ?_
  refine go_top (fun dd hdd => ?_)
  refine go_istoreS (lv' := [(0, .ref mb), (1, rj_i w), (2, rj_i x), (3, rj_i y), (4, rj_i hi), (5, rj_i u), (6, rj_i v), (7, rj_i lo), (8, rj_i dx), (9, rj_i dy), (10, rj_i ex), (11, rj_i ey), (12, rj_i fx), (13, rj_i fy), (14, rj_i dd)]) (by decide) rfl dX12_isBetween_97 ?_
  refine go_iload dX12_isBetween_99 12 rfl ?_
  refine go_iload dX12_isBetween_101 11 rfl ?_
  refine go_mulI dX12_isBetween_103 ?_
  refine go_iload dX12_isBetween_104 13 rfl ?_
  refine go_iload dX12_isBetween_106 10 rfl ?_
  refine go_mulI dX12_isBetween_108 ?_
  refine go_subI dX12_isBetween_109 ?_
  refine go_top (fun tt htt => ?_)
  refine go_istoreS (lv' := [(0, .ref mb), (1, rj_i w), (2, rj_i x), (3, rj_i y), (4, rj_i hi), (5, rj_i u), (6, rj_i v), (7, rj_i lo), (8, rj_i dx), (9, rj_i dy), (10, rj_i ex), (11, rj_i ey), (12, rj_i fx), (13, rj_i fy), (14, rj_i dd), (15, rj_i tt)]) (by decide) rfl dX12_isBetween_110 ?_
  refine go_iload dX12_isBetween_112 12 rfl ?_
  refine go_iload dX12_isBetween_114 9 rfl ?_
  refine go_mulI dX12_isBetween_116 ?_
  refine go_iload dX12_isBetween_117 13 rfl ?_
  refine go_iload dX12_isBetween_119 8 rfl ?_
  refine go_mulI dX12_isBetween_121 ?_
  refine go_subI dX12_isBetween_122 ?_
  refine go_top (fun rr hrr => ?_)
  refine go_istoreS (lv' := [(0, .ref mb), (1, rj_i w), (2, rj_i x), (3, rj_i y), (4, rj_i hi), (5, rj_i u), (6, rj_i v), (7, rj_i lo), (8, rj_i dx), (9, rj_i dy), (10, rj_i ex), (11, rj_i ey), (12, rj_i fx), (13, rj_i fy), (14, rj_i dd), (15, rj_i tt), (16, rj_i rr)]) (by decide) rfl dX12_isBetween_123 ?_
  have b1dd := rj_pb (a := dx) (b := ey) (A := 40) (B := 40) (by omega) (by omega)
  have b2dd := rj_pb (a := dy) (b := ex) (A := 40) (B := 40) (by omega) (by omega)
  have b3dd : -3200 ≤ dd ∧ dd ≤ 3200 := by omega
  have b1tt := rj_pb (a := fx) (b := ey) (A := 40) (B := 40) (by omega) (by omega)
  have b2tt := rj_pb (a := fy) (b := ex) (A := 40) (B := 40) (by omega) (by omega)
  have b3tt : -3200 ≤ tt ∧ tt ≤ 3200 := by omega
  have b1rr := rj_pb (a := fx) (b := dy) (A := 40) (B := 40) (by omega) (by omega)
  have b2rr := rj_pb (a := fy) (b := dx) (A := 40) (B := 40) (by omega) (by omega)
  have b3rr : -3200 ≤ rr ∧ rr ≤ 3200 := by omega
  clear b1dd b2dd b1tt b2tt b1rr b2rr
  refine go_iload dX12_isBetween_125 14 rfl ?_
  refine go_if_geI (tgt := 145) (by omega) dX12_isBetween_127 (by decide) (fun c_127 => ?_) (fun c_127 => ?_)
  · refine go_iload dX12_isBetween_145 14 rfl ?_
    refine go_if_eqI (tgt := 206) (by omega) dX12_isBetween_147 (by decide) (fun c_147 => ?_) (fun c_147 => ?_)
    · refine go_iconst (v := Int32.ofInt 0) dX12_isBetween_206 rfl ?_
      refine go_retI rfl (rj_n01 (by decide)) ?_ dX12_isBetween_207
      exact ⟨rj_vi (rj_bf (by unfold sp_btw; rw [← hdx, ← hdy, ← hex, ← hey, ← hfx, ← hfy, ← hdd, ← htt, ← hrr]; omega)).symm, rfl⟩
    · refine go_iload dX12_isBetween_150 15 rfl ?_
      refine go_iconst (v := Int32.ofInt 0) dX12_isBetween_152 rfl ?_
      refine go_iload dX12_isBetween_153 14 rfl ?_
      refine go_callS (d1 := d - 1) wSX12_47 rfl (by omega) (m_in (v := tt) (lo := 0) (hi := dd) (by omega) (by omega) (by omega)) rfl (Nat.le_of_ble_eq_true rfl) dX12_isBetween_155 (fun w σ1 hP => ?_)
      obtain ⟨rfl, rfl⟩ := hP
      refine go_if_eqB (tgt := 206) dX12_isBetween_158 (by decide) (fun c_158 => ?_) (fun c_158 => ?_)
      · refine go_iconst (v := Int32.ofInt 0) dX12_isBetween_206 rfl ?_
        refine go_retI rfl (rj_n01 (by decide)) ?_ dX12_isBetween_207
        exact ⟨rj_vi (rj_bf (by unfold sp_btw; rw [← hdx, ← hdy, ← hex, ← hey, ← hfx, ← hfy, ← hdd, ← htt, ← hrr]; omega)).symm, rfl⟩
      · refine go_iload dX12_isBetween_161 16 rfl ?_
        refine go_iconst (v := Int32.ofInt 0) dX12_isBetween_163 rfl ?_
        refine go_iload dX12_isBetween_164 14 rfl ?_
        refine go_callS (d1 := d - 1) wSX12_47 rfl (by omega) (m_in (v := rr) (lo := 0) (hi := dd) (by omega) (by omega) (by omega)) rfl (Nat.le_of_ble_eq_true rfl) dX12_isBetween_166 (fun w σ1 hP => ?_)
        obtain ⟨rfl, rfl⟩ := hP
        refine go_if_eqB (tgt := 206) dX12_isBetween_169 (by decide) (fun c_169 => ?_) (fun c_169 => ?_)
        · refine go_iconst (v := Int32.ofInt 0) dX12_isBetween_206 rfl ?_
          refine go_retI rfl (rj_n01 (by decide)) ?_ dX12_isBetween_207
          exact ⟨rj_vi (rj_bf (by unfold sp_btw; rw [← hdx, ← hdy, ← hex, ← hey, ← hfx, ← hfy, ← hdd, ← htt, ← hrr]; omega)).symm, rfl⟩
        · refine go_iload dX12_isBetween_172 4 rfl ?_
          refine go_iload dX12_isBetween_174 14 rfl ?_
          refine go_iload dX12_isBetween_176 15 rfl ?_
          refine go_subI dX12_isBetween_178 ?_
          refine go_mulI dX12_isBetween_179 ?_
          refine go_iload dX12_isBetween_180 7 rfl ?_
          refine go_iload dX12_isBetween_182 15 rfl ?_
          refine go_mulI dX12_isBetween_184 ?_
          refine go_addI dX12_isBetween_185 ?_
          refine go_aload_n dX12_isBetween_186 rfl 0 rfl ?_
          refine grm_g1 rfl dX12_isBetween_187 ?_
          refine go_sipush (v := Int32.ofInt 228) dX12_isBetween_190 (by decide) ?_
          refine go_iload_n dX12_isBetween_193 rfl 1 rfl ?_
          refine go_addI dX12_isBetween_194 ?_
          refine grm_l1 (by omega) (by omega) dX12_isBetween_195 ?_
          rw [show r 1 = s from hs]
          refine go_iload dX12_isBetween_196 14 rfl ?_
          refine go_mulI dX12_isBetween_198 ?_
          refine go_icmp_geI (tgt := 206) (by have := rj_pb (a := hi) (b := dd - tt) (A := 40) (B := 6400) (by omega) (by omega); have := rj_pb (a := lo) (b := tt) (A := 40) (B := 3200) (by omega) (by omega); have := rj_pb (a := s (228 + w)) (b := dd) (A := 40) (B := 3200) (by omega) (by omega); omega) (by have := rj_pb (a := hi) (b := dd - tt) (A := 40) (B := 6400) (by omega) (by omega); have := rj_pb (a := lo) (b := tt) (A := 40) (B := 3200) (by omega) (by omega); have := rj_pb (a := s (228 + w)) (b := dd) (A := 40) (B := 3200) (by omega) (by omega); omega) dX12_isBetween_199 (by decide) (fun c_199 => ?_) (fun c_199 => ?_)
          · refine go_iconst (v := Int32.ofInt 0) dX12_isBetween_206 rfl ?_
            refine go_retI rfl (rj_n01 (by decide)) ?_ dX12_isBetween_207
            exact ⟨rj_vi (rj_bf (by unfold sp_btw; rw [← hdx, ← hdy, ← hex, ← hey, ← hfx, ← hfy, ← hdd, ← htt, ← hrr]; omega)).symm, rfl⟩
          · refine go_iconst (v := Int32.ofInt 1) dX12_isBetween_202 rfl ?_
            refine go_goto (tgt := 207) dX12_isBetween_203 (by decide) ?_
            refine go_retI rfl (rj_n01 (by decide)) ?_ dX12_isBetween_207
            exact ⟨rj_vi (rj_bt (by unfold sp_btw; rw [← hdx, ← hdy, ← hex, ← hey, ← hfx, ← hfy, ← hdd, ← htt, ← hrr]; omega)).symm, rfl⟩
  · refine go_iload dX12_isBetween_130 14 rfl ?_
    refine go_negI dX12_isBetween_132 ?_
    refine go_istoreS (lv' := [(0, .ref mb), (1, rj_i w), (2, rj_i x), (3, rj_i y), (4, rj_i hi), (5, rj_i u), (6, rj_i v), (7, rj_i lo), (8, rj_i dx), (9, rj_i dy), (10, rj_i ex), (11, rj_i ey), (12, rj_i fx), (13, rj_i fy), (14, rj_i (-dd)), (15, rj_i tt), (16, rj_i rr)]) (by decide) rfl dX12_isBetween_133 ?_
    refine go_iload dX12_isBetween_135 15 rfl ?_
    refine go_negI dX12_isBetween_137 ?_
    refine go_istoreS (lv' := [(0, .ref mb), (1, rj_i w), (2, rj_i x), (3, rj_i y), (4, rj_i hi), (5, rj_i u), (6, rj_i v), (7, rj_i lo), (8, rj_i dx), (9, rj_i dy), (10, rj_i ex), (11, rj_i ey), (12, rj_i fx), (13, rj_i fy), (14, rj_i (-dd)), (15, rj_i (-tt)), (16, rj_i rr)]) (by decide) rfl dX12_isBetween_138 ?_
    refine go_iload dX12_isBetween_140 16 rfl ?_
    refine go_negI dX12_isBetween_142 ?_
    refine go_istoreS (lv' := [(0, .ref mb), (1, rj_i w), (2, rj_i x), (3, rj_i y), (4, rj_i hi), (5, rj_i u), (6, rj_i v), (7, rj_i lo), (8, rj_i dx), (9, rj_i dy), (10, rj_i ex), (11, rj_i ey), (12, rj_i fx), (13, rj_i fy), (14, rj_i (-dd)), (15, rj_i (-tt)), (16, rj_i (-rr))]) (by decide) rfl dX12_isBetween_143 ?_
    refine go_iload dX12_isBetween_145 14 rfl ?_
    refine go_if_eqI (tgt := 206) (by omega) dX12_isBetween_147 (by decide) (fun c_147 => ?_) (fun c_147 => ?_)
    · refine go_iconst (v := Int32.ofInt 0) dX12_isBetween_206 rfl ?_
      refine go_retI rfl (rj_n01 (by decide)) ?_ dX12_isBetween_207
      exact ⟨rj_vi (rj_bf (by unfold sp_btw; rw [← hdx, ← hdy, ← hex, ← hey, ← hfx, ← hfy, ← hdd, ← htt, ← hrr]; omega)).symm, rfl⟩
    · refine go_iload dX12_isBetween_150 15 rfl ?_
      refine go_iconst (v := Int32.ofInt 0) dX12_isBetween_152 rfl ?_
      refine go_iload dX12_isBetween_153 14 rfl ?_
      refine go_callS (d1 := d - 1) wSX12_47 rfl (by omega) (m_in (v := -tt) (lo := 0) (hi := -dd) (by omega) (by omega) (by omega)) rfl (Nat.le_of_ble_eq_true rfl) dX12_isBetween_155 (fun w σ1 hP => ?_)
      obtain ⟨rfl, rfl⟩ := hP
      refine go_if_eqB (tgt := 206) dX12_isBetween_158 (by decide) (fun c_158 => ?_) (fun c_158 => ?_)
      · refine go_iconst (v := Int32.ofInt 0) dX12_isBetween_206 rfl ?_
        refine go_retI rfl (rj_n01 (by decide)) ?_ dX12_isBetween_207
        exact ⟨rj_vi (rj_bf (by unfold sp_btw; rw [← hdx, ← hdy, ← hex, ← hey, ← hfx, ← hfy, ← hdd, ← htt, ← hrr]; omega)).symm, rfl⟩
      · refine go_iload dX12_isBetween_161 16 rfl ?_
        refine go_iconst (v := Int32.ofInt 0) dX12_isBetween_163 rfl ?_
        refine go_iload dX12_isBetween_164 14 rfl ?_
        refine go_callS (d1 := d - 1) wSX12_47 rfl (by omega) (m_in (v := -rr) (lo := 0) (hi := -dd) (by omega) (by omega) (by omega)) rfl (Nat.le_of_ble_eq_true rfl) dX12_isBetween_166 (fun w σ1 hP => ?_)
        obtain ⟨rfl, rfl⟩ := hP
        refine go_if_eqB (tgt := 206) dX12_isBetween_169 (by decide) (fun c_169 => ?_) (fun c_169 => ?_)
        · refine go_iconst (v := Int32.ofInt 0) dX12_isBetween_206 rfl ?_
          refine go_retI rfl (rj_n01 (by decide)) ?_ dX12_isBetween_207
          exact ⟨rj_vi (rj_bf (by unfold sp_btw; rw [← hdx, ← hdy, ← hex, ← hey, ← hfx, ← hfy, ← hdd, ← htt, ← hrr]; omega)).symm, rfl⟩
        · refine go_iload dX12_isBetween_172 4 rfl ?_
          refine go_iload dX12_isBetween_174 14 rfl ?_
          refine go_iload dX12_isBetween_176 15 rfl ?_
          refine go_subI dX12_isBetween_178 ?_
          refine go_mulI dX12_isBetween_179 ?_
          refine go_iload dX12_isBetween_180 7 rfl ?_
          refine go_iload dX12_isBetween_182 15 rfl ?_
          refine go_mulI dX12_isBetween_184 ?_
          refine go_addI dX12_isBetween_185 ?_
          refine go_aload_n dX12_isBetween_186 rfl 0 rfl ?_
          refine grm_g1 rfl dX12_isBetween_187 ?_
          refine go_sipush (v := Int32.ofInt 228) dX12_isBetween_190 (by decide) ?_
          refine go_iload_n dX12_isBetween_193 rfl 1 rfl ?_
          refine go_addI dX12_isBetween_194 ?_
          refine grm_l1 (by omega) (by omega) dX12_isBetween_195 ?_
          rw [show r 1 = s from hs]
          refine go_iload dX12_isBetween_196 14 rfl ?_
          refine go_mulI dX12_isBetween_198 ?_
          refine go_icmp_geI (tgt := 206) (by have := rj_pb (a := hi) (b := -dd - -tt) (A := 40) (B := 6400) (by omega) (by omega); have := rj_pb (a := lo) (b := -tt) (A := 40) (B := 3200) (by omega) (by omega); have := rj_pb (a := s (228 + w)) (b := -dd) (A := 40) (B := 3200) (by omega) (by omega); omega) (by have := rj_pb (a := hi) (b := -dd - -tt) (A := 40) (B := 6400) (by omega) (by omega); have := rj_pb (a := lo) (b := -tt) (A := 40) (B := 3200) (by omega) (by omega); have := rj_pb (a := s (228 + w)) (b := -dd) (A := 40) (B := 3200) (by omega) (by omega); omega) dX12_isBetween_199 (by decide) (fun c_199 => ?_) (fun c_199 => ?_)
          · refine go_iconst (v := Int32.ofInt 0) dX12_isBetween_206 rfl ?_
            refine go_retI rfl (rj_n01 (by decide)) ?_ dX12_isBetween_207
            exact ⟨rj_vi (rj_bf (by unfold sp_btw; rw [← hdx, ← hdy, ← hex, ← hey, ← hfx, ← hfy, ← hdd, ← htt, ← hrr]; omega)).symm, rfl⟩
          · refine go_iconst (v := Int32.ofInt 1) dX12_isBetween_202 rfl ?_
            refine go_goto (tgt := 207) dX12_isBetween_203 (by decide) ?_
            refine go_retI rfl (rj_n01 (by decide)) ?_ dX12_isBetween_207
            exact ⟨rj_vi (rj_bt (by unfold sp_btw; rw [← hdx, ← hdy, ← hex, ← hey, ← hfx, ← hfy, ← hdd, ← htt, ← hrr]; omega)).symm, rfl⟩
/-- counts; mirrors, patches, walls; plan -/
def sp_IC (s : Int → Int) : Prop := (0 ≤ s 0 ∧ s 0 ≤ 6) ∧ (0 ≤ s 1 ∧ s 1 ≤ 6) ∧ (0 ≤ s 2 ∧ s 2 ≤ 8) ∧ (0 ≤ s 3 ∧ s 3 ≤ 5) ∧ (0 ≤ s 4 ∧ s 4 ≤ 89) ∧ (0 ≤ s 5 ∧ s 5 ≤ 5) ∧ (0 ≤ s 6 ∧ s 6 ≤ 120) ∧ (-1 ≤ s 7 ∧ s 7 ≤ 4)
def sp_IM (s : Int → Int) : Prop := ∀ m : Int, 0 ≤ m → m < s 0 → (0 ≤ s (130 + m) ∧ s (130 + m) ≤ 6) ∧ sp_at (s (136 + m)) ∧ sp_at (s (142 + m)) ∧ (1 ≤ s (148 + m) ∧ s (148 + m) ≤ 40) ∧ (1 ≤ s (154 + m) ∧ s (154 + m) ≤ 9) ∧ (0 ≤ s (160 + m) ∧ s (160 + m) ≤ 99) ∧ (0 ≤ s (166 + m) ∧ s (166 + m) ≤ 9)
def sp_IP (s : Int → Int) : Prop := ∀ p : Int, 0 ≤ p → p < s 1 → sp_at (s (172 + p)) ∧ sp_at (s (178 + p)) ∧ (0 ≤ s (184 + p) ∧ s (184 + p) ≤ 20) ∧ (0 ≤ s (190 + p) ∧ s (190 + p) ≤ 20)
def sp_IW (s : Int → Int) : Prop := ∀ w : Int, 0 ≤ w → w < s 2 → sp_at (s (196 + w)) ∧ sp_at (s (204 + w)) ∧ sp_at (s (212 + w)) ∧ sp_at (s (220 + w)) ∧ (1 ≤ s (228 + w) ∧ s (228 + w) ≤ 40)
def sp_IL (s : Int → Int) : Prop := ∀ m q : Int, 0 ≤ m → m < 6 → 0 ≤ q → q < 8 → -1 ≤ s (236 + 8 * m + q) ∧ s (236 + 8 * m + q) < s 1
/-- no wall is between -/
def sp_opn (s : Int → Int) (x y hi u v lo : Int) : Nat → Bool
  | 0 => true
  | n + 1 => sp_opn s x y hi u v lo n && !decide (sp_btw s (n : Int) x y hi u v lo)
def sp_open (s : Int → Int) (x y hi u v lo : Int) : Bool := sp_opn s x y hi u v lo (s 2).toNat
def sp_free (s : Int → Int) (m p : Int) : Bool := sp_open s (s (136 + m)) (s (142 + m)) (s (148 + m)) (s (172 + p)) (s (178 + p)) 0
theorem rj_bb (b : Bool) : rj_b (b = true) = if b then 1 else 0 := by cases b <;> rfl
set_option maxRecDepth 20000 in
/-- m_areOpen -/
theorem m_areOpen {X9 : rj_X} {σ : rj_H} {d : Nat} {mb : Nat} {r : rm_R} {x y hi u v lo : Int} (hd : 2 ≤ d) (hx : sp_at x) (hy : sp_at y) (hhi : sp_at hi) (hu : sp_at u) (hv : sp_at v) (hlo : sp_at lo) {s : Int → Int} (hs : r 1 = s) (h2 : 0 ≤ s 2 ∧ s 2 ≤ 8) (hW : sp_IW s) : rj_Cl X9 d yX12_areOpen cX12_areOpen 9 (some .boolean) [.ref mb, rj_i x, rj_i y, rj_i hi, rj_i u, rj_i v, rj_i lo] (rm_p X9 mb r σ) (fun w9 τ => w9 = some (rj_i (rj_b (sp_open s x y hi u v lo = true))) ∧ τ = (rm_p X9 mb r σ)) := by
  refine go_call (by decide +kernel) (Nat.le_of_ble_eq_true rfl) ?_
  refine go_eq (pc' := 0) (lv' := [(0, .ref mb), (1, rj_i x), (2, rj_i y), (3, rj_i hi), (4, rj_i u), (5, rj_i v), (6, rj_i lo)]) (st' := []) rfl rfl rfl rfl ?_
  refine go_iconst (v := Int32.ofInt 1) dX12_areOpen_0 rfl ?_
  refine go_istoreS (lv' := [(0, .ref mb), (1, rj_i x), (2, rj_i y), (3, rj_i hi), (4, rj_i u), (5, rj_i v), (6, rj_i lo), (7, rj_i 1)]) (by decide) rfl dX12_areOpen_1 ?_
  refine go_iconst (v := Int32.ofInt 0) dX12_areOpen_3 rfl ?_
  refine go_istoreS (lv' := [(0, .ref mb), (1, rj_i x), (2, rj_i y), (3, rj_i hi), (4, rj_i u), (5, rj_i v), (6, rj_i lo), (7, rj_i 1), (8, rj_i 0)]) (by decide) rfl dX12_areOpen_4 ?_
  have loop : ∀ (n k : Nat) (f : Bool), k + n = (s 2).toNat → f = sp_opn s x y hi u v lo k → rj_Go X9 yX12_areOpen cX12_areOpen 9 (some .boolean) d (fun w9 τ => w9 = some (rj_i (rj_b (sp_open s x y hi u v lo = true))) ∧ τ = (rm_p X9 mb r σ)) 6 [(0, .ref mb), (1, rj_i x), (2, rj_i y), (3, rj_i hi), (4, rj_i u), (5, rj_i v), (6, rj_i lo), (7, rj_i (rj_b (f = true))), (8, rj_i (k : Int))] [] (rm_p X9 mb r σ) := by
    intro n
    induction n with
    | zero =>
      intro k f hk hf
      refine go_iload dX12_areOpen_6 8 rfl ?_
      refine go_aload_n dX12_areOpen_8 rfl 0 rfl ?_
      refine grm_g1 rfl dX12_areOpen_9 ?_
      refine go_iconst (v := Int32.ofInt 2) dX12_areOpen_12 rfl ?_
      refine grm_l1 (by omega) (by omega) dX12_areOpen_13 ?_
      rw [show r 1 = s from hs]
      refine go_icmp_geI (tgt := 53) (by omega) (by omega) dX12_areOpen_14 (by decide) (fun c_14 => ?_) (fun c_14 => ?_)
      · refine go_iload dX12_areOpen_53 7 rfl ?_
        refine go_retI rfl (rj_nb _) ?_ dX12_areOpen_55
        exact ⟨rj_vi (by rw [hf]; unfold sp_open; rw [show k = (s 2).toNat by omega]), rfl⟩
      · exact absurd c_14 (by omega)
    | succ n ih =>
      intro k f hk hf
      obtain ⟨w1, w2, w3, w4, w5⟩ := hW k (by omega) (by omega)
      refine go_iload dX12_areOpen_6 8 rfl ?_
      refine go_aload_n dX12_areOpen_8 rfl 0 rfl ?_
      refine grm_g1 rfl dX12_areOpen_9 ?_
      refine go_iconst (v := Int32.ofInt 2) dX12_areOpen_12 rfl ?_
      refine grm_l1 (by omega) (by omega) dX12_areOpen_13 ?_
      rw [show r 1 = s from hs]
      refine go_icmp_geI (tgt := 53) (by omega) (by omega) dX12_areOpen_14 (by decide) (fun c_14 => ?_) (fun c_14 => ?_)
      · exact absurd c_14 (by omega)
      · refine go_iload dX12_areOpen_17 7 rfl ?_
        refine go_if_eqB (tgt := 44) dX12_areOpen_19 (by decide) (fun c_19 => ?_) (fun c_19 => ?_)
        · refine go_iconst (v := Int32.ofInt 0) dX12_areOpen_44 rfl ?_
          refine go_istoreS (lv' := [(0, .ref mb), (1, rj_i x), (2, rj_i y), (3, rj_i hi), (4, rj_i u), (5, rj_i v), (6, rj_i lo), (7, rj_i 0), (8, rj_i (k : Int))]) (by decide) rfl dX12_areOpen_45 ?_
          refine go_iincI (a := (k : Int)) (n := 1) (k0 := 8) (lv' := [(0, .ref mb), (1, rj_i x), (2, rj_i y), (3, rj_i hi), (4, rj_i u), (5, rj_i v), (6, rj_i lo), (7, rj_i 0), (8, rj_i ((k : Int) + 1))]) rfl (by decide) rfl dX12_areOpen_47 ?_
          refine go_goto (tgt := 6) dX12_areOpen_50 (by decide) ?_
          exact go_eq rfl (lv' := [(0, .ref mb), (1, rj_i x), (2, rj_i y), (3, rj_i hi), (4, rj_i u), (5, rj_i v), (6, rj_i lo), (7, rj_i (rj_b (sp_opn s x y hi u v lo (k + 1) = true))), (8, rj_i ((k + 1 : Nat) : Int))]) (rj_lk (rj_lk (rj_lk (rj_lk (rj_lk (rj_lk (rj_lk (rj_lj (by rw [rj_bb, sp_opn, ← hf]; simp [c_19]) (rj_lj (by omega) rfl))))))))) rfl rfl (ih (k + 1) _ (by omega) rfl)
        · refine go_aload_n dX12_areOpen_22 rfl 0 rfl ?_
          refine go_iload dX12_areOpen_23 8 rfl ?_
          refine go_iload_n dX12_areOpen_25 rfl 1 rfl ?_
          refine go_iload_n dX12_areOpen_26 rfl 2 rfl ?_
          refine go_iload_n dX12_areOpen_27 rfl 3 rfl ?_
          refine go_iload dX12_areOpen_28 4 rfl ?_
          refine go_iload dX12_areOpen_30 5 rfl ?_
          refine go_iload dX12_areOpen_32 6 rfl ?_
          refine go_callV (d1 := d - 1) wVX12_152 kX12 rm_ob rfl (by omega) (m_isBetween (w := (k : Int)) (by omega) (by omega) hx hy hhi hu hv hlo (hs := (show r 1 = s from hs)) w1 w2 w3 w4 (by omega)) rfl (Nat.le_of_ble_eq_true rfl) dX12_areOpen_34 (fun w σ1 hP => ?_)
          obtain ⟨rfl, rfl⟩ := hP
          refine go_if_neB (tgt := 44) dX12_areOpen_37 (by decide) (fun c_37 => ?_) (fun c_37 => ?_)
          · refine go_iconst (v := Int32.ofInt 0) dX12_areOpen_44 rfl ?_
            refine go_istoreS (lv' := [(0, .ref mb), (1, rj_i x), (2, rj_i y), (3, rj_i hi), (4, rj_i u), (5, rj_i v), (6, rj_i lo), (7, rj_i 0), (8, rj_i (k : Int))]) (by decide) rfl dX12_areOpen_45 ?_
            refine go_iincI (a := (k : Int)) (n := 1) (k0 := 8) (lv' := [(0, .ref mb), (1, rj_i x), (2, rj_i y), (3, rj_i hi), (4, rj_i u), (5, rj_i v), (6, rj_i lo), (7, rj_i 0), (8, rj_i ((k : Int) + 1))]) rfl (by decide) rfl dX12_areOpen_47 ?_
            refine go_goto (tgt := 6) dX12_areOpen_50 (by decide) ?_
            exact go_eq rfl (lv' := [(0, .ref mb), (1, rj_i x), (2, rj_i y), (3, rj_i hi), (4, rj_i u), (5, rj_i v), (6, rj_i lo), (7, rj_i (rj_b (sp_opn s x y hi u v lo (k + 1) = true))), (8, rj_i ((k + 1 : Nat) : Int))]) (rj_lk (rj_lk (rj_lk (rj_lk (rj_lk (rj_lk (rj_lk (rj_lj (by rw [rj_bb, sp_opn, ← hf]; simp [c_37, c_19]) (rj_lj (by omega) rfl))))))))) rfl rfl (ih (k + 1) _ (by omega) rfl)
          · refine go_iconst (v := Int32.ofInt 1) dX12_areOpen_40 rfl ?_
            refine go_goto (tgt := 45) dX12_areOpen_41 (by decide) ?_
            refine go_istoreS (lv' := [(0, .ref mb), (1, rj_i x), (2, rj_i y), (3, rj_i hi), (4, rj_i u), (5, rj_i v), (6, rj_i lo), (7, rj_i 1), (8, rj_i (k : Int))]) (by decide) rfl dX12_areOpen_45 ?_
            refine go_iincI (a := (k : Int)) (n := 1) (k0 := 8) (lv' := [(0, .ref mb), (1, rj_i x), (2, rj_i y), (3, rj_i hi), (4, rj_i u), (5, rj_i v), (6, rj_i lo), (7, rj_i 1), (8, rj_i ((k : Int) + 1))]) rfl (by decide) rfl dX12_areOpen_47 ?_
            refine go_goto (tgt := 6) dX12_areOpen_50 (by decide) ?_
            exact go_eq rfl (lv' := [(0, .ref mb), (1, rj_i x), (2, rj_i y), (3, rj_i hi), (4, rj_i u), (5, rj_i v), (6, rj_i lo), (7, rj_i (rj_b (sp_opn s x y hi u v lo (k + 1) = true))), (8, rj_i ((k + 1 : Nat) : Int))]) (rj_lk (rj_lk (rj_lk (rj_lk (rj_lk (rj_lk (rj_lk (rj_lj (by rw [rj_bb, sp_opn, ← hf]; simp [c_37, c_19]) (rj_lj (by omega) rfl))))))))) rfl rfl (ih (k + 1) _ (by omega) rfl)
  exact go_eq rfl (lv' := [(0, .ref mb), (1, rj_i x), (2, rj_i y), (3, rj_i hi), (4, rj_i u), (5, rj_i v), (6, rj_i lo), (7, rj_i (rj_b (true = true))), (8, rj_i ((0 : Nat) : Int))]) (rj_lk (rj_lk (rj_lk (rj_lk (rj_lk (rj_lk (rj_lk (rj_lj (rfl) (rj_lj (rfl) rfl))))))))) rfl rfl (loop (s 2).toNat 0 true (by omega) rfl)
set_option maxRecDepth 20000 in
/-- m_isFree -/
theorem m_isFree {X9 : rj_X} {σ : rj_H} {d : Nat} {mb : Nat} {r : rm_R} {m p : Int} (hd : 3 ≤ d) {s : Int → Int} (hs : r 1 = s) (hm : 0 ≤ m ∧ m < s 0) (hp : 0 ≤ p ∧ p < s 1) (h0 : 0 ≤ s 0 ∧ s 0 ≤ 6) (h1 : 0 ≤ s 1 ∧ s 1 ≤ 6) (h2 : 0 ≤ s 2 ∧ s 2 ≤ 8) (hM : sp_IM s) (hP : sp_IP s) (hW : sp_IW s) : rj_Cl X9 d yX12_isFree cX12_isFree 3 (some .boolean) [.ref mb, rj_i m, rj_i p] (rm_p X9 mb r σ) (fun w9 τ => w9 = some (rj_i (rj_b (sp_free s m p = true))) ∧ τ = (rm_p X9 mb r σ)) := by
  obtain ⟨m1, m2, m3, m4, m5, m6, m7⟩ := hM m (by omega) (by omega)
  obtain ⟨p1, p2, p3, p4⟩ := hP p (by omega) (by omega)
  refine go_call (by decide +kernel) (Nat.le_of_ble_eq_true rfl) ?_
  refine go_eq (pc' := 0) (lv' := [(0, .ref mb), (1, rj_i m), (2, rj_i p)]) (st' := []) rfl rfl rfl rfl ?_
  refine go_aload_n dX12_isFree_0 rfl 0 rfl ?_
  refine go_aload_n dX12_isFree_1 rfl 0 rfl ?_
  refine grm_g1 rfl dX12_isFree_2 ?_
  refine go_sipush (v := Int32.ofInt 136) dX12_isFree_5 (by decide) ?_
  refine go_iload_n dX12_isFree_8 rfl 1 rfl ?_
  refine go_addI dX12_isFree_9 ?_
  refine grm_l1 (by omega) (by omega) dX12_isFree_10 ?_
  rw [show r 1 = s from hs]
  refine go_aload_n dX12_isFree_11 rfl 0 rfl ?_
  refine grm_g1 rfl dX12_isFree_12 ?_
  refine go_sipush (v := Int32.ofInt 142) dX12_isFree_15 (by decide) ?_
  refine go_iload_n dX12_isFree_18 rfl 1 rfl ?_
  refine go_addI dX12_isFree_19 ?_
  refine grm_l1 (by omega) (by omega) dX12_isFree_20 ?_
  rw [show r 1 = s from hs]
  refine go_aload_n dX12_isFree_21 rfl 0 rfl ?_
  refine grm_g1 rfl dX12_isFree_22 ?_
  refine go_sipush (v := Int32.ofInt 148) dX12_isFree_25 (by decide) ?_
  refine go_iload_n dX12_isFree_28 rfl 1 rfl ?_
  refine go_addI dX12_isFree_29 ?_
  refine grm_l1 (by omega) (by omega) dX12_isFree_30 ?_
  rw [show r 1 = s from hs]
  refine go_aload_n dX12_isFree_31 rfl 0 rfl ?_
  refine grm_g1 rfl dX12_isFree_32 ?_
  refine go_sipush (v := Int32.ofInt 172) dX12_isFree_35 (by decide) ?_
  refine go_iload_n dX12_isFree_38 rfl 2 rfl ?_
  refine go_addI dX12_isFree_39 ?_
  refine grm_l1 (by omega) (by omega) dX12_isFree_40 ?_
  rw [show r 1 = s from hs]
  refine go_aload_n dX12_isFree_41 rfl 0 rfl ?_
  refine grm_g1 rfl dX12_isFree_42 ?_
  refine go_sipush (v := Int32.ofInt 178) dX12_isFree_45 (by decide) ?_
  refine go_iload_n dX12_isFree_48 rfl 2 rfl ?_
  refine go_addI dX12_isFree_49 ?_
  refine grm_l1 (by omega) (by omega) dX12_isFree_50 ?_
  rw [show r 1 = s from hs]
  refine go_iconst (v := Int32.ofInt 0) dX12_isFree_51 rfl ?_
  refine go_callV (d1 := d - 1) wVX12_156 kX12 rm_ob rfl (by omega) (m_areOpen (by omega) (x := s (136 + m)) (y := s (142 + m)) (hi := s (148 + m)) (u := s (172 + p)) (v := s (178 + p)) (lo := 0) (by omega) (by omega) (by omega) (by omega) (by omega) (by omega) (hs := (show r 1 = s from hs)) h2 hW) rfl (Nat.le_of_ble_eq_true rfl) dX12_isFree_52 (fun w σ1 hP => ?_)
  obtain ⟨rfl, rfl⟩ := hP
  refine go_retI rfl (rj_nb _) ?_ dX12_isFree_55
  exact ⟨rfl, rfl⟩
/-- whether a mirror may throw on a patch -/
def sp_may (s : Int → Int) (m p : Int) : Bool :=
  let v := s (166 + m)
  let dx := rj_abs (s (136 + m) - s (172 + p))
  let dy := rj_abs (s (142 + m) - s (178 + p))
  let k := s (130 + m)
  if k = 1 then decide (0 < dx + dy) else if k = 2 ∨ k = 5 then decide (p = v) else if k = 3 then decide (0 < dx + dy) && decide (dy ≤ v) else if k = 4 then decide (0 < dx + dy) && decide (v ≤ dx) else if k = 6 then decide (p ≠ v) else true
theorem rj_abs_b {z A : Int} (h : -A ≤ z ∧ z ≤ A) : 0 ≤ rj_abs z ∧ rj_abs z ≤ A := by unfold rj_abs; split <;> omega
theorem rj_tb {P : Prop} [Decidable P] (b : Bool) (h : (b = true) ↔ P) : rj_b P = rj_b (b = true) := rj_bc h.symm
def sp_far (s : Int → Int) (p q : Int) : Bool := decide (p ≠ -1) && decide (q ≠ -1) && decide (sp_tells s 289 9 < rj_abs (p - q))
set_option maxRecDepth 20000 in
set_option maxHeartbeats 2000000 in
/-- m_may -/
theorem m_may {X9 : rj_X} {σ : rj_H} {d : Nat} {mb : Nat} {r : rm_R} {m p : Int} (hd : 1 ≤ d) {s : Int → Int} (hs : r 1 = s) (hm : 0 ≤ m ∧ m < s 0) (hp : 0 ≤ p ∧ p < s 1) (h0 : 0 ≤ s 0 ∧ s 0 ≤ 6) (h1 : 0 ≤ s 1 ∧ s 1 ≤ 6) (hM : sp_IM s) (hP : sp_IP s) : rj_Cl X9 d yX12_may cX12_may 7 (some .boolean) [.ref mb, rj_i m, rj_i p] (rm_p X9 mb r σ) (fun w9 τ => w9 = some (rj_i (rj_b (sp_may s m p = true))) ∧ τ = (rm_p X9 mb r σ)) := by
  obtain ⟨m1, m2, m3, m4, m5, m6, m7⟩ := hM m (by omega) (by omega)
  obtain ⟨p1, p2, p3, p4⟩ := hP p (by omega) (by omega)
  refine go_call (by decide +kernel) (Nat.le_of_ble_eq_true rfl) ?_
  refine go_eq (pc' := 0) (lv' := [(0, .ref mb), (1, rj_i m), (2, rj_i p)]) (st' := []) rfl rfl rfl rfl ?_
  refine go_aload_n dX12_may_0 rfl 0 rfl ?_
  refine grm_g1 rfl dX12_may_1 ?_
  refine go_sipush (v := Int32.ofInt 166) dX12_may_4 (by decide) ?_
  refine go_iload_n dX12_may_7 rfl 1 rfl ?_
  refine go_addI dX12_may_8 ?_
  refine grm_l1 (by omega) (by omega) dX12_may_9 ?_
  rw [show r 1 = s from hs]
  refine go_istore_nS (lv' := [(0, .ref mb), (1, rj_i m), (2, rj_i p), (3, rj_i (s (166 + m)))]) rfl (by decide) rfl dX12_may_10 ?_
  refine go_aload_n dX12_may_11 rfl 0 rfl ?_
  refine grm_g1 rfl dX12_may_12 ?_
  refine go_sipush (v := Int32.ofInt 136) dX12_may_15 (by decide) ?_
  refine go_iload_n dX12_may_18 rfl 1 rfl ?_
  refine go_addI dX12_may_19 ?_
  refine grm_l1 (by omega) (by omega) dX12_may_20 ?_
  rw [show r 1 = s from hs]
  refine go_aload_n dX12_may_21 rfl 0 rfl ?_
  refine grm_g1 rfl dX12_may_22 ?_
  refine go_sipush (v := Int32.ofInt 172) dX12_may_25 (by decide) ?_
  refine go_iload_n dX12_may_28 rfl 2 rfl ?_
  refine go_addI dX12_may_29 ?_
  refine grm_l1 (by omega) (by omega) dX12_may_30 ?_
  rw [show r 1 = s from hs]
  refine go_subI dX12_may_31 ?_
  refine go_callS (d1 := d - 1) wSX12_168 rfl (by omega) (m_size (v := (s (136 + m)) - (s (172 + p))) (by omega)) rfl (Nat.le_of_ble_eq_true rfl) dX12_may_32 (fun w σ1 hP => ?_)
  obtain ⟨rfl, rfl⟩ := hP
  refine go_top (fun dx hdx => ?_)
  refine go_istoreS (lv' := [(0, .ref mb), (1, rj_i m), (2, rj_i p), (3, rj_i (s (166 + m))), (4, rj_i dx)]) (by decide) rfl dX12_may_35 ?_
  refine go_aload_n dX12_may_37 rfl 0 rfl ?_
  refine grm_g1 rfl dX12_may_38 ?_
  refine go_sipush (v := Int32.ofInt 142) dX12_may_41 (by decide) ?_
  refine go_iload_n dX12_may_44 rfl 1 rfl ?_
  refine go_addI dX12_may_45 ?_
  refine grm_l1 (by omega) (by omega) dX12_may_46 ?_
  rw [show r 1 = s from hs]
  refine go_aload_n dX12_may_47 rfl 0 rfl ?_
  refine grm_g1 rfl dX12_may_48 ?_
  refine go_sipush (v := Int32.ofInt 178) dX12_may_51 (by decide) ?_
  refine go_iload_n dX12_may_54 rfl 2 rfl ?_
  refine go_addI dX12_may_55 ?_
  refine grm_l1 (by omega) (by omega) dX12_may_56 ?_
  rw [show r 1 = s from hs]
  refine go_subI dX12_may_57 ?_
  refine go_callS (d1 := d - 1) wSX12_168 rfl (by omega) (m_size (v := (s (142 + m)) - (s (178 + p))) (by omega)) rfl (Nat.le_of_ble_eq_true rfl) dX12_may_58 (fun w σ1 hP => ?_)
  obtain ⟨rfl, rfl⟩ := hP
  refine go_top (fun dy hdy => ?_)
  refine go_istoreS (lv' := [(0, .ref mb), (1, rj_i m), (2, rj_i p), (3, rj_i (s (166 + m))), (4, rj_i dx), (5, rj_i dy)]) (by decide) rfl dX12_may_61 ?_
  have bdx := rj_abs_b (z := s (136 + m) - s (172 + p)) (A := 40) (by omega)
  have bdy := rj_abs_b (z := s (142 + m) - s (178 + p)) (A := 40) (by omega)
  refine go_iload dX12_may_63 4 rfl ?_
  refine go_iload dX12_may_65 5 rfl ?_
  refine go_addI dX12_may_67 ?_
  refine go_if_leI (tgt := 75) (by omega) dX12_may_68 (by decide) (fun c_68 => ?_) (fun c_68 => ?_)
  · refine go_iconst (v := Int32.ofInt 0) dX12_may_75 rfl ?_
    refine go_istoreS (lv' := [(0, .ref mb), (1, rj_i m), (2, rj_i p), (3, rj_i (s (166 + m))), (4, rj_i dx), (5, rj_i dy), (6, rj_i 0)]) (by decide) rfl dX12_may_76 ?_
    refine go_aload_n dX12_may_78 rfl 0 rfl ?_
    refine grm_g1 rfl dX12_may_79 ?_
    refine go_sipush (v := Int32.ofInt 130) dX12_may_82 (by decide) ?_
    refine go_iload_n dX12_may_85 rfl 1 rfl ?_
    refine go_addI dX12_may_86 ?_
    refine grm_l1 (by omega) (by omega) dX12_may_87 ?_
    rw [show r 1 = s from hs]
    obtain ⟨kk, hkk⟩ : ∃ kk, s (130 + m) = kk := ⟨_, rfl⟩
    rw [hkk] at m1 ⊢
    rcases (show kk = 0 ∨ kk = 1 ∨ kk = 2 ∨ kk = 3 ∨ kk = 4 ∨ kk = 5 ∨ kk = 6 by omega) with rfl | rfl | rfl | rfl | rfl | rfl | rfl
    · refine go_tableOut (tgt := 187) dX12_may_88 (by decide) (by decide) ?_
      refine go_iconst (v := Int32.ofInt 1) dX12_may_187 rfl ?_
      refine go_retI rfl (rj_n01 (by decide)) ?_ dX12_may_188
      exact ⟨rj_vi (rj_bt (by unfold sp_may; simp only [hkk, ← hdx, ← hdy]; simp <;> omega)).symm, rfl⟩
    · refine go_tableIn (off := 40) (tgt := 128) dX12_may_88 (by decide) (by decide) (by decide) (by decide) ?_
      refine go_iload dX12_may_128 6 rfl ?_
      refine go_retI rfl (rj_n01 (by decide)) ?_ dX12_may_130
      exact ⟨rj_vi (rj_bf (by unfold sp_may; simp only [hkk, ← hdx, ← hdy]; simp <;> omega)).symm, rfl⟩
    · refine go_tableIn (off := 43) (tgt := 131) dX12_may_88 (by decide) (by decide) (by decide) (by decide) ?_
      refine go_iload_n dX12_may_131 rfl 2 rfl ?_
      refine go_iload_n dX12_may_132 rfl 3 rfl ?_
      refine go_icmp_neI (tgt := 140) (by omega) (by omega) dX12_may_133 (by decide) (fun c_133 => ?_) (fun c_133 => ?_)
      · refine go_iconst (v := Int32.ofInt 0) dX12_may_140 rfl ?_
        refine go_retI rfl (rj_n01 (by decide)) ?_ dX12_may_141
        exact ⟨rj_vi (rj_bf (by unfold sp_may; simp only [hkk, ← hdx, ← hdy]; simp <;> omega)).symm, rfl⟩
      · refine go_iconst (v := Int32.ofInt 1) dX12_may_136 rfl ?_
        refine go_goto (tgt := 141) dX12_may_137 (by decide) ?_
        refine go_retI rfl (rj_n01 (by decide)) ?_ dX12_may_141
        exact ⟨rj_vi (rj_bt (by unfold sp_may; simp only [hkk, ← hdx, ← hdy]; simp <;> omega)).symm, rfl⟩
    · refine go_tableIn (off := 54) (tgt := 142) dX12_may_88 (by decide) (by decide) (by decide) (by decide) ?_
      refine go_iload dX12_may_142 6 rfl ?_
      refine go_if_eqI (tgt := 157) (by omega) dX12_may_144 (by decide) (fun c_144 => ?_) (fun c_144 => ?_)
      · refine go_iconst (v := Int32.ofInt 0) dX12_may_157 rfl ?_
        refine go_retI rfl (rj_n01 (by decide)) ?_ dX12_may_158
        exact ⟨rj_vi (rj_bf (by unfold sp_may; simp only [hkk, ← hdx, ← hdy]; simp <;> omega)).symm, rfl⟩
      · exact absurd c_144 (by omega)
    · refine go_tableIn (off := 71) (tgt := 159) dX12_may_88 (by decide) (by decide) (by decide) (by decide) ?_
      refine go_iload dX12_may_159 6 rfl ?_
      refine go_if_eqI (tgt := 174) (by omega) dX12_may_161 (by decide) (fun c_161 => ?_) (fun c_161 => ?_)
      · refine go_iconst (v := Int32.ofInt 0) dX12_may_174 rfl ?_
        refine go_retI rfl (rj_n01 (by decide)) ?_ dX12_may_175
        exact ⟨rj_vi (rj_bf (by unfold sp_may; simp only [hkk, ← hdx, ← hdy]; simp <;> omega)).symm, rfl⟩
      · exact absurd c_161 (by omega)
    · refine go_tableIn (off := 43) (tgt := 131) dX12_may_88 (by decide) (by decide) (by decide) (by decide) ?_
      refine go_iload_n dX12_may_131 rfl 2 rfl ?_
      refine go_iload_n dX12_may_132 rfl 3 rfl ?_
      refine go_icmp_neI (tgt := 140) (by omega) (by omega) dX12_may_133 (by decide) (fun c_133 => ?_) (fun c_133 => ?_)
      · refine go_iconst (v := Int32.ofInt 0) dX12_may_140 rfl ?_
        refine go_retI rfl (rj_n01 (by decide)) ?_ dX12_may_141
        exact ⟨rj_vi (rj_bf (by unfold sp_may; simp only [hkk, ← hdx, ← hdy]; simp <;> omega)).symm, rfl⟩
      · refine go_iconst (v := Int32.ofInt 1) dX12_may_136 rfl ?_
        refine go_goto (tgt := 141) dX12_may_137 (by decide) ?_
        refine go_retI rfl (rj_n01 (by decide)) ?_ dX12_may_141
        exact ⟨rj_vi (rj_bt (by unfold sp_may; simp only [hkk, ← hdx, ← hdy]; simp <;> omega)).symm, rfl⟩
    · refine go_tableIn (off := 88) (tgt := 176) dX12_may_88 (by decide) (by decide) (by decide) (by decide) ?_
      refine go_iload_n dX12_may_176 rfl 2 rfl ?_
      refine go_iload_n dX12_may_177 rfl 3 rfl ?_
      refine go_icmp_eqI (tgt := 185) (by omega) (by omega) dX12_may_178 (by decide) (fun c_178 => ?_) (fun c_178 => ?_)
      · refine go_iconst (v := Int32.ofInt 0) dX12_may_185 rfl ?_
        refine go_retI rfl (rj_n01 (by decide)) ?_ dX12_may_186
        exact ⟨rj_vi (rj_bf (by unfold sp_may; simp only [hkk, ← hdx, ← hdy]; simp <;> omega)).symm, rfl⟩
      · refine go_iconst (v := Int32.ofInt 1) dX12_may_181 rfl ?_
        refine go_goto (tgt := 186) dX12_may_182 (by decide) ?_
        refine go_retI rfl (rj_n01 (by decide)) ?_ dX12_may_186
        exact ⟨rj_vi (rj_bt (by unfold sp_may; simp only [hkk, ← hdx, ← hdy]; simp <;> omega)).symm, rfl⟩
  · refine go_iconst (v := Int32.ofInt 1) dX12_may_71 rfl ?_
    refine go_goto (tgt := 76) dX12_may_72 (by decide) ?_
    refine go_istoreS (lv' := [(0, .ref mb), (1, rj_i m), (2, rj_i p), (3, rj_i (s (166 + m))), (4, rj_i dx), (5, rj_i dy), (6, rj_i 1)]) (by decide) rfl dX12_may_76 ?_
    refine go_aload_n dX12_may_78 rfl 0 rfl ?_
    refine grm_g1 rfl dX12_may_79 ?_
    refine go_sipush (v := Int32.ofInt 130) dX12_may_82 (by decide) ?_
    refine go_iload_n dX12_may_85 rfl 1 rfl ?_
    refine go_addI dX12_may_86 ?_
    refine grm_l1 (by omega) (by omega) dX12_may_87 ?_
    rw [show r 1 = s from hs]
    obtain ⟨kk, hkk⟩ : ∃ kk, s (130 + m) = kk := ⟨_, rfl⟩
    rw [hkk] at m1 ⊢
    rcases (show kk = 0 ∨ kk = 1 ∨ kk = 2 ∨ kk = 3 ∨ kk = 4 ∨ kk = 5 ∨ kk = 6 by omega) with rfl | rfl | rfl | rfl | rfl | rfl | rfl
    · refine go_tableOut (tgt := 187) dX12_may_88 (by decide) (by decide) ?_
      refine go_iconst (v := Int32.ofInt 1) dX12_may_187 rfl ?_
      refine go_retI rfl (rj_n01 (by decide)) ?_ dX12_may_188
      exact ⟨rj_vi (rj_bt (by unfold sp_may; simp only [hkk, ← hdx, ← hdy]; simp <;> omega)).symm, rfl⟩
    · refine go_tableIn (off := 40) (tgt := 128) dX12_may_88 (by decide) (by decide) (by decide) (by decide) ?_
      refine go_iload dX12_may_128 6 rfl ?_
      refine go_retI rfl (rj_n01 (by decide)) ?_ dX12_may_130
      exact ⟨rj_vi (rj_bt (by unfold sp_may; simp only [hkk, ← hdx, ← hdy]; simp <;> omega)).symm, rfl⟩
    · refine go_tableIn (off := 43) (tgt := 131) dX12_may_88 (by decide) (by decide) (by decide) (by decide) ?_
      refine go_iload_n dX12_may_131 rfl 2 rfl ?_
      refine go_iload_n dX12_may_132 rfl 3 rfl ?_
      refine go_icmp_neI (tgt := 140) (by omega) (by omega) dX12_may_133 (by decide) (fun c_133 => ?_) (fun c_133 => ?_)
      · refine go_iconst (v := Int32.ofInt 0) dX12_may_140 rfl ?_
        refine go_retI rfl (rj_n01 (by decide)) ?_ dX12_may_141
        exact ⟨rj_vi (rj_bf (by unfold sp_may; simp only [hkk, ← hdx, ← hdy]; simp <;> omega)).symm, rfl⟩
      · refine go_iconst (v := Int32.ofInt 1) dX12_may_136 rfl ?_
        refine go_goto (tgt := 141) dX12_may_137 (by decide) ?_
        refine go_retI rfl (rj_n01 (by decide)) ?_ dX12_may_141
        exact ⟨rj_vi (rj_bt (by unfold sp_may; simp only [hkk, ← hdx, ← hdy]; simp <;> omega)).symm, rfl⟩
    · refine go_tableIn (off := 54) (tgt := 142) dX12_may_88 (by decide) (by decide) (by decide) (by decide) ?_
      refine go_iload dX12_may_142 6 rfl ?_
      refine go_if_eqI (tgt := 157) (by omega) dX12_may_144 (by decide) (fun c_144 => ?_) (fun c_144 => ?_)
      · exact absurd c_144 (by omega)
      · refine go_iload dX12_may_147 5 rfl ?_
        refine go_iload_n dX12_may_149 rfl 3 rfl ?_
        refine go_icmp_gtI (tgt := 157) (by omega) (by omega) dX12_may_150 (by decide) (fun c_150 => ?_) (fun c_150 => ?_)
        · refine go_iconst (v := Int32.ofInt 0) dX12_may_157 rfl ?_
          refine go_retI rfl (rj_n01 (by decide)) ?_ dX12_may_158
          exact ⟨rj_vi (rj_bf (by unfold sp_may; simp only [hkk, ← hdx, ← hdy]; simp <;> omega)).symm, rfl⟩
        · refine go_iconst (v := Int32.ofInt 1) dX12_may_153 rfl ?_
          refine go_goto (tgt := 158) dX12_may_154 (by decide) ?_
          refine go_retI rfl (rj_n01 (by decide)) ?_ dX12_may_158
          exact ⟨rj_vi (rj_bt (by unfold sp_may; simp only [hkk, ← hdx, ← hdy]; simp <;> omega)).symm, rfl⟩
    · refine go_tableIn (off := 71) (tgt := 159) dX12_may_88 (by decide) (by decide) (by decide) (by decide) ?_
      refine go_iload dX12_may_159 6 rfl ?_
      refine go_if_eqI (tgt := 174) (by omega) dX12_may_161 (by decide) (fun c_161 => ?_) (fun c_161 => ?_)
      · exact absurd c_161 (by omega)
      · refine go_iload dX12_may_164 4 rfl ?_
        refine go_iload_n dX12_may_166 rfl 3 rfl ?_
        refine go_icmp_ltI (tgt := 174) (by omega) (by omega) dX12_may_167 (by decide) (fun c_167 => ?_) (fun c_167 => ?_)
        · refine go_iconst (v := Int32.ofInt 0) dX12_may_174 rfl ?_
          refine go_retI rfl (rj_n01 (by decide)) ?_ dX12_may_175
          exact ⟨rj_vi (rj_bf (by unfold sp_may; simp only [hkk, ← hdx, ← hdy]; simp <;> omega)).symm, rfl⟩
        · refine go_iconst (v := Int32.ofInt 1) dX12_may_170 rfl ?_
          refine go_goto (tgt := 175) dX12_may_171 (by decide) ?_
          refine go_retI rfl (rj_n01 (by decide)) ?_ dX12_may_175
          exact ⟨rj_vi (rj_bt (by unfold sp_may; simp only [hkk, ← hdx, ← hdy]; simp <;> omega)).symm, rfl⟩
    · refine go_tableIn (off := 43) (tgt := 131) dX12_may_88 (by decide) (by decide) (by decide) (by decide) ?_
      refine go_iload_n dX12_may_131 rfl 2 rfl ?_
      refine go_iload_n dX12_may_132 rfl 3 rfl ?_
      refine go_icmp_neI (tgt := 140) (by omega) (by omega) dX12_may_133 (by decide) (fun c_133 => ?_) (fun c_133 => ?_)
      · refine go_iconst (v := Int32.ofInt 0) dX12_may_140 rfl ?_
        refine go_retI rfl (rj_n01 (by decide)) ?_ dX12_may_141
        exact ⟨rj_vi (rj_bf (by unfold sp_may; simp only [hkk, ← hdx, ← hdy]; simp <;> omega)).symm, rfl⟩
      · refine go_iconst (v := Int32.ofInt 1) dX12_may_136 rfl ?_
        refine go_goto (tgt := 141) dX12_may_137 (by decide) ?_
        refine go_retI rfl (rj_n01 (by decide)) ?_ dX12_may_141
        exact ⟨rj_vi (rj_bt (by unfold sp_may; simp only [hkk, ← hdx, ← hdy]; simp <;> omega)).symm, rfl⟩
    · refine go_tableIn (off := 88) (tgt := 176) dX12_may_88 (by decide) (by decide) (by decide) (by decide) ?_
      refine go_iload_n dX12_may_176 rfl 2 rfl ?_
      refine go_iload_n dX12_may_177 rfl 3 rfl ?_
      refine go_icmp_eqI (tgt := 185) (by omega) (by omega) dX12_may_178 (by decide) (fun c_178 => ?_) (fun c_178 => ?_)
      · refine go_iconst (v := Int32.ofInt 0) dX12_may_185 rfl ?_
        refine go_retI rfl (rj_n01 (by decide)) ?_ dX12_may_186
        exact ⟨rj_vi (rj_bf (by unfold sp_may; simp only [hkk, ← hdx, ← hdy]; simp <;> omega)).symm, rfl⟩
      · refine go_iconst (v := Int32.ofInt 1) dX12_may_181 rfl ?_
        refine go_goto (tgt := 186) dX12_may_182 (by decide) ?_
        refine go_retI rfl (rj_n01 (by decide)) ?_ dX12_may_186
        exact ⟨rj_vi (rj_bt (by unfold sp_may; simp only [hkk, ← hdx, ← hdy]; simp <;> omega)).symm, rfl⟩
set_option maxRecDepth 20000 in
/-- m_turnsTooFar -/
theorem m_turnsTooFar {X9 : rj_X} {σ : rj_H} {d : Nat} {mb : Nat} {r : rm_R} {p q : Int} (hd : 1 ≤ d) (hp : -1 ≤ p ∧ p ≤ 6) (hq : -1 ≤ q ∧ q ≤ 6) {s : Int → Int} (hs : r 1 = s) (h7 : -1 ≤ s 7 ∧ s 7 ≤ 4) (ht : 0 ≤ sp_tells s 289 9 ∧ sp_tells s 289 9 ≤ 99) : rj_Cl X9 d yX12_turnsTooFar cX12_turnsTooFar 3 (some .boolean) [.ref mb, rj_i p, rj_i q] (rm_p X9 mb r σ) (fun w9 τ => w9 = some (rj_i (rj_b (sp_far s p q = true))) ∧ τ = (rm_p X9 mb r σ)) := by
  have bz := rj_abs_b (z := p - q) (A := 7) (by omega)
  refine go_call (by decide +kernel) (Nat.le_of_ble_eq_true rfl) ?_
  refine go_eq (pc' := 0) (lv' := [(0, .ref mb), (1, rj_i p), (2, rj_i q)]) (st' := []) rfl rfl rfl rfl ?_
  refine go_iload_n dX12_turnsTooFar_0 rfl 1 rfl ?_
  refine go_iconst (v := Int32.ofInt (-1)) dX12_turnsTooFar_1 rfl ?_
  refine go_icmp_eqI (tgt := 32) (by omega) (by omega) dX12_turnsTooFar_2 (by decide) (fun c_2 => ?_) (fun c_2 => ?_)
  · refine go_iconst (v := Int32.ofInt 0) dX12_turnsTooFar_32 rfl ?_
    refine go_retI rfl (rj_n01 (by decide)) ?_ dX12_turnsTooFar_33
    exact ⟨rj_vi (rj_bf (by unfold sp_far; simp; omega)).symm, rfl⟩
  · refine go_iload_n dX12_turnsTooFar_5 rfl 2 rfl ?_
    refine go_iconst (v := Int32.ofInt (-1)) dX12_turnsTooFar_6 rfl ?_
    refine go_icmp_eqI (tgt := 32) (by omega) (by omega) dX12_turnsTooFar_7 (by decide) (fun c_7 => ?_) (fun c_7 => ?_)
    · refine go_iconst (v := Int32.ofInt 0) dX12_turnsTooFar_32 rfl ?_
      refine go_retI rfl (rj_n01 (by decide)) ?_ dX12_turnsTooFar_33
      exact ⟨rj_vi (rj_bf (by unfold sp_far; simp; omega)).symm, rfl⟩
    · refine go_iload_n dX12_turnsTooFar_10 rfl 1 rfl ?_
      refine go_iload_n dX12_turnsTooFar_11 rfl 2 rfl ?_
      refine go_subI dX12_turnsTooFar_12 ?_
      refine go_callS (d1 := d - 1) wSX12_168 rfl (by omega) (m_size (v := p - q) (by omega)) rfl (Nat.le_of_ble_eq_true rfl) dX12_turnsTooFar_13 (fun w σ1 hP => ?_)
      obtain ⟨rfl, rfl⟩ := hP
      refine go_aload_n dX12_turnsTooFar_16 rfl 0 rfl ?_
      refine go_sipush (v := Int32.ofInt 289) dX12_turnsTooFar_17 (by decide) ?_
      refine go_bipush (v := Int32.ofInt 9) dX12_turnsTooFar_20 (by decide) ?_
      refine go_callV (d1 := d - 1) wVX12_148 kX12 rm_ob rfl (by omega) (m_tellsOf (w := 289) (n := 9) (by omega) (by omega) (hs := (show r 1 = s from hs)) h7) rfl (Nat.le_of_ble_eq_true rfl) dX12_turnsTooFar_22 (fun w σ1 hP => ?_)
      obtain ⟨rfl, rfl⟩ := hP
      refine go_icmp_leI (tgt := 32) (by omega) (by omega) dX12_turnsTooFar_25 (by decide) (fun c_25 => ?_) (fun c_25 => ?_)
      · refine go_iconst (v := Int32.ofInt 0) dX12_turnsTooFar_32 rfl ?_
        refine go_retI rfl (rj_n01 (by decide)) ?_ dX12_turnsTooFar_33
        exact ⟨rj_vi (rj_bf (by unfold sp_far; simp; omega)).symm, rfl⟩
      · refine go_iconst (v := Int32.ofInt 1) dX12_turnsTooFar_28 rfl ?_
        refine go_goto (tgt := 33) dX12_turnsTooFar_29 (by decide) ?_
        refine go_retI rfl (rj_n01 (by decide)) ?_ dX12_turnsTooFar_33
        exact ⟨rj_vi (rj_bt (by unfold sp_far; simp; omega)).symm, rfl⟩
