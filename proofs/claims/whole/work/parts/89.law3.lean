/-! THE LAW: its cases -/
abbrev rl_b (X9 : rj_X) : Nat := X9.2.2.2.2.1.1
abbrev rl_n (X9 : rj_X) : Nat := X9.2.2.2.2.1.2.1
/-- a word of the script -/
def rl_s (X9 : rj_X) (z : Int) : Int := (X9.2.2.2.2.1.2.2 z.toNat).toInt
theorem rl_sr {X9 : rj_X} (z : Int) : -2147483648 ≤ rl_s X9 z ∧ rl_s X9 z < 2147483648 := ⟨Int32.le_toInt _, Int32.toInt_lt _⟩
section RLR
variable {X9 : rj_X} {y9 : MethodName} {cc : ByteArray} {nL : Nat} {rt9 : Option FieldType} {d9 : Nat} {P9 : Option Value → rj_H → Prop} {pc : Nat} {lv : List (Nat × Value)} {rest : List Value} {σ : rj_H} {z a : Int}
theorem go_sldS (h0 : 0 ≤ z) (h1 : z < rl_n X9) (hn : rl_n X9 < 2147483648) (hdg : decode cc pc = .ok (.iaload, 1)) (kk : rj_Go X9 y9 cc nL rt9 d9 P9 (pc + 1) lv (rj_i (rl_s X9 z) :: rest) σ) : rj_Go X9 y9 cc nL rt9 d9 P9 pc lv (rj_i z :: .ref (rl_b X9) :: rest) σ := by
  obtain ⟨v0, τ0, hp0, g1, g2, g0⟩ := kk
  refine ⟨v0, τ0, hp0, g1, g2, rj_sld h0 h1 hn hdg ?_⟩
  rw [show (Value.int (X9.2.2.2.2.1.2.2 z.toNat)) = rj_i (rl_s X9 z) from by unfold rl_s rj_i; rw [Int32.ofInt_toInt]]
  exact g0
theorem go_slenS (hn : rl_n X9 < 2147483648) (hdg : decode cc pc = .ok (.arraylength, 1)) (kk : rj_Go X9 y9 cc nL rt9 d9 P9 (pc + 1) lv (rj_i (rl_n X9) :: rest) σ) : rj_Go X9 y9 cc nL rt9 d9 P9 pc lv (.ref (rl_b X9) :: rest) σ := by
  obtain ⟨v0, τ0, hp0, g1, g2, g0⟩ := kk
  exact ⟨v0, τ0, hp0, g1, g2, rj_slen hn hdg g0⟩
theorem rj_and31 (x : Int32) : ∃ k : Nat, k < 32 ∧ x &&& Int32.ofInt 31 = Int32.ofInt (k : Int) := by
  have hk : x.toBitVec.toNat &&& 31 ≤ 31 := Nat.and_le_right
  refine ⟨x.toBitVec.toNat &&& 31, by omega, ?_⟩
  apply Int32.toBitVec_inj.1
  apply BitVec.eq_of_toNat_eq
  rw [Int32.toBitVec_and, BitVec.toNat_and]
  show x.toBitVec.toNat &&& (BitVec.ofInt 32 31).toNat = (BitVec.ofInt 32 ((x.toBitVec.toNat &&& 31 : Nat) : Int)).toNat
  rw [show (BitVec.ofInt 32 31).toNat = 31 from rfl, BitVec.toNat_ofInt]
  omega
theorem go_and31 (hdg : decode cc pc = .ok (.iand, 1)) (kk : ∀ k : Nat, k < 32 → rj_Go X9 y9 cc nL rt9 d9 P9 (pc + 1) lv (rj_i (k : Int) :: rest) σ) : rj_Go X9 y9 cc nL rt9 d9 P9 pc lv (rj_i 31 :: rj_i a :: rest) σ := by
  obtain ⟨k, hk, e⟩ := rj_and31 (Int32.ofInt a)
  refine go_iand hdg ?_
  rw [e]
  exact kk k hk
end RLR
theorem lg_cmp_rf (x : Int64) : lg_cmp x x = 0 := by
  unfold lg_cmp
  rw [if_neg (fun h => absurd (Int64.lt_iff_toInt_lt.mp h) (by omega)), if_pos rfl]
theorem rl_H.x {X9 : rj_X} {cb : Nat} {r : rm_R} {S t b : Int → Int} {h9 n : Int} {τ : rj_H} (H : rl_H X9 cb r S t h9 b n τ) : ∃ fs, τ.2.2 cb = some (.inr (11, fs)) := by
  obtain ⟨vv, vk, c, σ, ad, rfl, hm, hR, -⟩ := H
  exact ⟨_, rc_a0 hR.1⟩
theorem rl_H.y {X9 : rj_X} {cb : Nat} {r : rm_R} {S t b : Int → Int} {h9 n : Int} {τ : rj_H} (H : rl_H X9 cb r S t h9 b n τ) : ∃ fs, τ.2.2 (cb + 92) = some (.inr (12, fs)) := by
  obtain ⟨ρ, rfl, -⟩ := H.m
  exact ⟨_, rm_ob⟩
/-- what was taken, and the trace -/
def rl_O (T : Int → Int) (h n : Int) : Prop := sp_IO T ∧ (h = 0 ∨ h = 1) ∧ (h = 1 → sp_J T) ∧ 0 ≤ n ∧ n ≤ 1000
/-- what holds ahead of each step of the script -/
def rl_I (X9 : rj_X) (cb K N : Nat) (τ : rj_H) : Prop := ∃ r : rm_R, rl_H X9 cb r (r 1) (r 2) (r 3 0) (r 17) (r 18 0) τ ∧ sp_J (r 1) ∧ rl_O (r 2) (r 3 0) (r 18 0) ∧ τ.1 ≤ cb + 103 + 6 * N ∧ τ.2.1 ≤ K + 200 * N
theorem rl_fin {X9 : rj_X} {cb K N : Nat} {r0 : rm_R} {S T b : Int → Int} {h n : Int} {τ τ1 τ2 : rj_H} (H2 : rl_H X9 cb r0 S T h b n τ2) (V : r0 1 = S ∧ r0 2 = T ∧ r0 3 0 = h ∧ r0 17 = b ∧ r0 18 0 = n) (J : sp_J S) (O : rl_O T h n) (z : τ.1 ≤ cb + 103 + 6 * N ∧ τ.2.1 ≤ K + 200 * N) (z1 : rl_z τ τ1) (z2 : τ2.1 = τ1.1 ∧ τ2.2.1 = τ1.2.1) : rl_I X9 cb K (N + 1) τ2 := by
  obtain ⟨rfl, rfl, rfl, rfl, rfl⟩ := V
  obtain ⟨a1, a2⟩ := z1
  exact ⟨r0, H2, J, O, by omega, by omega⟩
theorem rl_I.up {X9 : rj_X} {cb K N : Nat} {τ : rj_H} (I : rl_I X9 cb K N τ) : rl_I X9 cb K (N + 1) τ := by
  obtain ⟨r, H, J, O, z1, z2⟩ := I
  exact ⟨r, H, J, O, by omega, by omega⟩
abbrev rl_lv (X9 : rj_X) (cb : Nat) (i : Int) : List (Nat × Value) := [(0, .ref (rl_b X9)), (1, .ref cb), (2, .ref (cb + 92)), (3, rj_i i)]
set_option maxRecDepth 20000 in
theorem cs_mirror {X9 : rj_X} {cb d K N : Nat} {P9 : Option Value → rj_H → Prop} {τ : rj_H} {i : Int} (hd : 40 ≤ d) (hi : 0 ≤ i) (hl : i + 4 ≤ (rl_n X9 : Int)) (hn : rl_n X9 < 2147483648) (I : rl_I X9 cb K N τ) (kk : ∀ τ2 : rj_H, rl_I X9 cb K (N + 1) τ2 → rj_Go X9 yL_law cL_law 4 (some .boolean) d P9 1069 (rl_lv X9 cb i) [] τ2) : rj_Go X9 yL_law cL_law 4 (some .boolean) d P9 168 (rl_lv X9 cb i) [] τ := by
  obtain ⟨r, H, J, O, z⟩ := I
  obtain ⟨fx, hx⟩ := H.x
  refine go_aload_n dL_law_168 rfl 1 rfl ?_
  refine go_aload_n dL_law_169 rfl 0 rfl ?_
  refine go_iload_n dL_law_170 rfl 3 rfl ?_
  refine go_iconst (v := Int32.ofInt 1) dL_law_171 rfl ?_
  refine go_addI dL_law_172 ?_
  refine go_sldS (z := i + 1) (by omega) (by omega) hn dL_law_173 ?_
  refine go_aload_n dL_law_174 rfl 0 rfl ?_
  refine go_iload_n dL_law_175 rfl 3 rfl ?_
  refine go_iconst (v := Int32.ofInt 2) dL_law_176 rfl ?_
  refine go_addI dL_law_177 ?_
  refine go_sldS (z := i + 2) (by omega) (by omega) hn dL_law_178 ?_
  refine go_aload_n dL_law_179 rfl 0 rfl ?_
  refine go_iload_n dL_law_180 rfl 3 rfl ?_
  refine go_iconst (v := Int32.ofInt 3) dL_law_181 rfl ?_
  refine go_addI dL_law_182 ?_
  refine go_sldS (z := i + 3) (by omega) (by omega) hn dL_law_183 ?_
  refine go_callV (d1 := d - 1) wVL_13 kX11 hx rfl (by omega) (lx_mirror (kd := rl_s X9 (i + 1)) (pt := rl_s X9 (i + 2)) (mk := rl_s X9 (i + 3)) (by omega) (rl_sr _) (rl_sr _) (rl_sr _) H J) rfl (Nat.le_of_ble_eq_true rfl) dL_law_184 (fun w9 σ1 hP9 => ?_)
  obtain ⟨rfl, H1, z1⟩ := hP9
  obtain ⟨fy, hy⟩ := H1.y
  refine go_aload_n dL_law_187 rfl 2 rfl ?_
  refine go_aload_n dL_law_188 rfl 0 rfl ?_
  refine go_iload_n dL_law_189 rfl 3 rfl ?_
  refine go_iconst (v := Int32.ofInt 1) dL_law_190 rfl ?_
  refine go_addI dL_law_191 ?_
  refine go_sldS (z := i + 1) (by omega) (by omega) hn dL_law_192 ?_
  refine go_aload_n dL_law_193 rfl 0 rfl ?_
  refine go_iload_n dL_law_194 rfl 3 rfl ?_
  refine go_iconst (v := Int32.ofInt 2) dL_law_195 rfl ?_
  refine go_addI dL_law_196 ?_
  refine go_sldS (z := i + 2) (by omega) (by omega) hn dL_law_197 ?_
  refine go_aload_n dL_law_198 rfl 0 rfl ?_
  refine go_iload_n dL_law_199 rfl 3 rfl ?_
  refine go_iconst (v := Int32.ofInt 3) dL_law_200 rfl ?_
  refine go_addI dL_law_201 ?_
  refine go_sldS (z := i + 3) (by omega) (by omega) hn dL_law_202 ?_
  refine go_callV (d1 := d - 1) wVL_17 kX12 hy rfl (by omega) (lm_mirror (kd := rl_s X9 (i + 1)) (pt := rl_s X9 (i + 2)) (mk := rl_s X9 (i + 3)) (by omega) (rl_sr _) (rl_sr _) (rl_sr _) H1 rfl J) rfl (Nat.le_of_ble_eq_true rfl) dL_law_203 (fun w9 σ2 hP9 => ?_)
  obtain ⟨rfl, r0, V, H2, z2⟩ := hP9
  refine go_icmp_eq (tgt := 1069) dL_law_206 (by decide) (fun _ => ?_) (fun c => absurd rfl c)
  exact kk _ (rl_fin H2 V (J_mir J) O z z1 z2)
set_option maxRecDepth 20000 in
theorem cs_patch {X9 : rj_X} {cb d K N : Nat} {P9 : Option Value → rj_H → Prop} {τ : rj_H} {i : Int} (hd : 40 ≤ d) (hi : 0 ≤ i) (hl : i + 4 ≤ (rl_n X9 : Int)) (hn : rl_n X9 < 2147483648) (I : rl_I X9 cb K N τ) (kk : ∀ τ2 : rj_H, rl_I X9 cb K (N + 1) τ2 → rj_Go X9 yL_law cL_law 4 (some .boolean) d P9 1069 (rl_lv X9 cb i) [] τ2) : rj_Go X9 yL_law cL_law 4 (some .boolean) d P9 211 (rl_lv X9 cb i) [] τ := by
  obtain ⟨r, H, J, O, z⟩ := I
  obtain ⟨fx, hx⟩ := H.x
  refine go_aload_n dL_law_211 rfl 1 rfl ?_
  refine go_aload_n dL_law_212 rfl 0 rfl ?_
  refine go_iload_n dL_law_213 rfl 3 rfl ?_
  refine go_iconst (v := Int32.ofInt 1) dL_law_214 rfl ?_
  refine go_addI dL_law_215 ?_
  refine go_sldS (z := i + 1) (by omega) (by omega) hn dL_law_216 ?_
  refine go_aload_n dL_law_217 rfl 0 rfl ?_
  refine go_iload_n dL_law_218 rfl 3 rfl ?_
  refine go_iconst (v := Int32.ofInt 2) dL_law_219 rfl ?_
  refine go_addI dL_law_220 ?_
  refine go_sldS (z := i + 2) (by omega) (by omega) hn dL_law_221 ?_
  refine go_aload_n dL_law_222 rfl 0 rfl ?_
  refine go_iload_n dL_law_223 rfl 3 rfl ?_
  refine go_iconst (v := Int32.ofInt 3) dL_law_224 rfl ?_
  refine go_addI dL_law_225 ?_
  refine go_sldS (z := i + 3) (by omega) (by omega) hn dL_law_226 ?_
  refine go_callV (d1 := d - 1) wVL_18 kX11 hx rfl (by omega) (lx_patch (pt := rl_s X9 (i + 1)) (w := rl_s X9 (i + 2)) (sn := rl_s X9 (i + 3)) (by omega) (rl_sr _) (rl_sr _) (rl_sr _) H J) rfl (Nat.le_of_ble_eq_true rfl) dL_law_227 (fun w9 σ1 hP9 => ?_)
  obtain ⟨rfl, H1, z1⟩ := hP9
  obtain ⟨fy, hy⟩ := H1.y
  refine go_aload_n dL_law_230 rfl 2 rfl ?_
  refine go_aload_n dL_law_231 rfl 0 rfl ?_
  refine go_iload_n dL_law_232 rfl 3 rfl ?_
  refine go_iconst (v := Int32.ofInt 1) dL_law_233 rfl ?_
  refine go_addI dL_law_234 ?_
  refine go_sldS (z := i + 1) (by omega) (by omega) hn dL_law_235 ?_
  refine go_aload_n dL_law_236 rfl 0 rfl ?_
  refine go_iload_n dL_law_237 rfl 3 rfl ?_
  refine go_iconst (v := Int32.ofInt 2) dL_law_238 rfl ?_
  refine go_addI dL_law_239 ?_
  refine go_sldS (z := i + 2) (by omega) (by omega) hn dL_law_240 ?_
  refine go_aload_n dL_law_241 rfl 0 rfl ?_
  refine go_iload_n dL_law_242 rfl 3 rfl ?_
  refine go_iconst (v := Int32.ofInt 3) dL_law_243 rfl ?_
  refine go_addI dL_law_244 ?_
  refine go_sldS (z := i + 3) (by omega) (by omega) hn dL_law_245 ?_
  refine go_callV (d1 := d - 1) wVL_21 kX12 hy rfl (by omega) (lm_patch (pt := rl_s X9 (i + 1)) (w := rl_s X9 (i + 2)) (sn := rl_s X9 (i + 3)) (by omega) (rl_sr _) (rl_sr _) (rl_sr _) H1 rfl J) rfl (Nat.le_of_ble_eq_true rfl) dL_law_246 (fun w9 σ2 hP9 => ?_)
  obtain ⟨rfl, r0, V, H2, z2⟩ := hP9
  refine go_icmp_eq (tgt := 1069) dL_law_249 (by decide) (fun _ => ?_) (fun c => absurd rfl c)
  exact kk _ (rl_fin H2 V (J_pat J) O z z1 z2)
set_option maxRecDepth 20000 in
theorem cs_wall {X9 : rj_X} {cb d K N : Nat} {P9 : Option Value → rj_H → Prop} {τ : rj_H} {i : Int} (hd : 40 ≤ d) (hi : 0 ≤ i) (hl : i + 4 ≤ (rl_n X9 : Int)) (hn : rl_n X9 < 2147483648) (I : rl_I X9 cb K N τ) (kk : ∀ τ2 : rj_H, rl_I X9 cb K (N + 1) τ2 → rj_Go X9 yL_law cL_law 4 (some .boolean) d P9 1069 (rl_lv X9 cb i) [] τ2) : rj_Go X9 yL_law cL_law 4 (some .boolean) d P9 254 (rl_lv X9 cb i) [] τ := by
  obtain ⟨r, H, J, O, z⟩ := I
  obtain ⟨fx, hx⟩ := H.x
  refine go_aload_n dL_law_254 rfl 1 rfl ?_
  refine go_aload_n dL_law_255 rfl 0 rfl ?_
  refine go_iload_n dL_law_256 rfl 3 rfl ?_
  refine go_iconst (v := Int32.ofInt 1) dL_law_257 rfl ?_
  refine go_addI dL_law_258 ?_
  refine go_sldS (z := i + 1) (by omega) (by omega) hn dL_law_259 ?_
  refine go_aload_n dL_law_260 rfl 0 rfl ?_
  refine go_iload_n dL_law_261 rfl 3 rfl ?_
  refine go_iconst (v := Int32.ofInt 2) dL_law_262 rfl ?_
  refine go_addI dL_law_263 ?_
  refine go_sldS (z := i + 2) (by omega) (by omega) hn dL_law_264 ?_
  refine go_aload_n dL_law_265 rfl 0 rfl ?_
  refine go_iload_n dL_law_266 rfl 3 rfl ?_
  refine go_iconst (v := Int32.ofInt 3) dL_law_267 rfl ?_
  refine go_addI dL_law_268 ?_
  refine go_sldS (z := i + 3) (by omega) (by omega) hn dL_law_269 ?_
  refine go_callV (d1 := d - 1) wVL_22 kX11 hx rfl (by omega) (lx_wall (pt := rl_s X9 (i + 1)) (to := rl_s X9 (i + 2)) (h := rl_s X9 (i + 3)) (by omega) (rl_sr _) (rl_sr _) (rl_sr _) H J) rfl (Nat.le_of_ble_eq_true rfl) dL_law_270 (fun w9 σ1 hP9 => ?_)
  obtain ⟨rfl, H1, z1⟩ := hP9
  obtain ⟨fy, hy⟩ := H1.y
  refine go_aload_n dL_law_273 rfl 2 rfl ?_
  refine go_aload_n dL_law_274 rfl 0 rfl ?_
  refine go_iload_n dL_law_275 rfl 3 rfl ?_
  refine go_iconst (v := Int32.ofInt 1) dL_law_276 rfl ?_
  refine go_addI dL_law_277 ?_
  refine go_sldS (z := i + 1) (by omega) (by omega) hn dL_law_278 ?_
  refine go_aload_n dL_law_279 rfl 0 rfl ?_
  refine go_iload_n dL_law_280 rfl 3 rfl ?_
  refine go_iconst (v := Int32.ofInt 2) dL_law_281 rfl ?_
  refine go_addI dL_law_282 ?_
  refine go_sldS (z := i + 2) (by omega) (by omega) hn dL_law_283 ?_
  refine go_aload_n dL_law_284 rfl 0 rfl ?_
  refine go_iload_n dL_law_285 rfl 3 rfl ?_
  refine go_iconst (v := Int32.ofInt 3) dL_law_286 rfl ?_
  refine go_addI dL_law_287 ?_
  refine go_sldS (z := i + 3) (by omega) (by omega) hn dL_law_288 ?_
  refine go_callV (d1 := d - 1) wVL_25 kX12 hy rfl (by omega) (lm_wall (pt := rl_s X9 (i + 1)) (to := rl_s X9 (i + 2)) (h := rl_s X9 (i + 3)) (by omega) (rl_sr _) (rl_sr _) (rl_sr _) H1 rfl J) rfl (Nat.le_of_ble_eq_true rfl) dL_law_289 (fun w9 σ2 hP9 => ?_)
  obtain ⟨rfl, r0, V, H2, z2⟩ := hP9
  refine go_icmp_eq (tgt := 1069) dL_law_292 (by decide) (fun _ => ?_) (fun c => absurd rfl c)
  exact kk _ (rl_fin H2 V (J_wal J) O z z1 z2)
set_option maxRecDepth 20000 in
theorem cs_of {X9 : rj_X} {cb d K N : Nat} {P9 : Option Value → rj_H → Prop} {τ : rj_H} {i : Int} (hd : 40 ≤ d) (hi : 0 ≤ i) (hl : i + 4 ≤ (rl_n X9 : Int)) (hn : rl_n X9 < 2147483648) (I : rl_I X9 cb K N τ) (kk : ∀ τ2 : rj_H, rl_I X9 cb K (N + 1) τ2 → rj_Go X9 yL_law cL_law 4 (some .boolean) d P9 1069 (rl_lv X9 cb i) [] τ2) : rj_Go X9 yL_law cL_law 4 (some .boolean) d P9 297 (rl_lv X9 cb i) [] τ := by
  obtain ⟨r, H, J, O, z⟩ := I
  obtain ⟨fx, hx⟩ := H.x
  refine go_aload_n dL_law_297 rfl 1 rfl ?_
  refine go_aload_n dL_law_298 rfl 0 rfl ?_
  refine go_iload_n dL_law_299 rfl 3 rfl ?_
  refine go_iconst (v := Int32.ofInt 1) dL_law_300 rfl ?_
  refine go_addI dL_law_301 ?_
  refine go_sldS (z := i + 1) (by omega) (by omega) hn dL_law_302 ?_
  refine go_aload_n dL_law_303 rfl 0 rfl ?_
  refine go_iload_n dL_law_304 rfl 3 rfl ?_
  refine go_iconst (v := Int32.ofInt 2) dL_law_305 rfl ?_
  refine go_addI dL_law_306 ?_
  refine go_sldS (z := i + 2) (by omega) (by omega) hn dL_law_307 ?_
  refine go_callV (d1 := d - 1) wVL_26 kX11 hx rfl (by omega) (lx_of (m := rl_s X9 (i + 1)) (k := rl_s X9 (i + 2)) (by omega) (rl_sr _) (rl_sr _) H J) rfl (Nat.le_of_ble_eq_true rfl) dL_law_308 (fun w9 σ1 hP9 => ?_)
  obtain ⟨rfl, H1, z1⟩ := hP9
  obtain ⟨fy, hy⟩ := H1.y
  refine go_aload_n dL_law_311 rfl 2 rfl ?_
  refine go_aload_n dL_law_312 rfl 0 rfl ?_
  refine go_iload_n dL_law_313 rfl 3 rfl ?_
  refine go_iconst (v := Int32.ofInt 1) dL_law_314 rfl ?_
  refine go_addI dL_law_315 ?_
  refine go_sldS (z := i + 1) (by omega) (by omega) hn dL_law_316 ?_
  refine go_aload_n dL_law_317 rfl 0 rfl ?_
  refine go_iload_n dL_law_318 rfl 3 rfl ?_
  refine go_iconst (v := Int32.ofInt 2) dL_law_319 rfl ?_
  refine go_addI dL_law_320 ?_
  refine go_sldS (z := i + 2) (by omega) (by omega) hn dL_law_321 ?_
  refine go_callV (d1 := d - 1) wVL_30 kX12 hy rfl (by omega) (lm_of (m := rl_s X9 (i + 1)) (k := rl_s X9 (i + 2)) (by omega) (rl_sr _) (rl_sr _) H1 rfl J) rfl (Nat.le_of_ble_eq_true rfl) dL_law_322 (fun w9 σ2 hP9 => ?_)
  obtain ⟨rfl, r0, V, H2, z2⟩ := hP9
  refine go_icmp_eq (tgt := 1069) dL_law_325 (by decide) (fun _ => ?_) (fun c => absurd rfl c)
  exact kk _ (rl_fin H2 V J O z z1 z2)
set_option maxRecDepth 20000 in
theorem cs_is {X9 : rj_X} {cb d K N : Nat} {P9 : Option Value → rj_H → Prop} {τ : rj_H} {i : Int} (hd : 40 ≤ d) (hi : 0 ≤ i) (hl : i + 4 ≤ (rl_n X9 : Int)) (hn : rl_n X9 < 2147483648) (I : rl_I X9 cb K N τ) (kk : ∀ τ2 : rj_H, rl_I X9 cb K (N + 1) τ2 → rj_Go X9 yL_law cL_law 4 (some .boolean) d P9 1069 (rl_lv X9 cb i) [] τ2) : rj_Go X9 yL_law cL_law 4 (some .boolean) d P9 330 (rl_lv X9 cb i) [] τ := by
  obtain ⟨r, H, J, O, z⟩ := I
  obtain ⟨fx, hx⟩ := H.x
  refine go_aload_n dL_law_330 rfl 1 rfl ?_
  refine go_aload_n dL_law_331 rfl 0 rfl ?_
  refine go_iload_n dL_law_332 rfl 3 rfl ?_
  refine go_iconst (v := Int32.ofInt 1) dL_law_333 rfl ?_
  refine go_addI dL_law_334 ?_
  refine go_sldS (z := i + 1) (by omega) (by omega) hn dL_law_335 ?_
  refine go_aload_n dL_law_336 rfl 0 rfl ?_
  refine go_iload_n dL_law_337 rfl 3 rfl ?_
  refine go_iconst (v := Int32.ofInt 2) dL_law_338 rfl ?_
  refine go_addI dL_law_339 ?_
  refine go_sldS (z := i + 2) (by omega) (by omega) hn dL_law_340 ?_
  refine go_callV (d1 := d - 1) wVL_31 kX11 hx rfl (by omega) (lx_is (p := rl_s X9 (i + 1)) (k := rl_s X9 (i + 2)) (by omega) (rl_sr _) (rl_sr _) H J) rfl (Nat.le_of_ble_eq_true rfl) dL_law_341 (fun w9 σ1 hP9 => ?_)
  obtain ⟨rfl, H1, z1⟩ := hP9
  obtain ⟨fy, hy⟩ := H1.y
  refine go_aload_n dL_law_344 rfl 2 rfl ?_
  refine go_aload_n dL_law_345 rfl 0 rfl ?_
  refine go_iload_n dL_law_346 rfl 3 rfl ?_
  refine go_iconst (v := Int32.ofInt 1) dL_law_347 rfl ?_
  refine go_addI dL_law_348 ?_
  refine go_sldS (z := i + 1) (by omega) (by omega) hn dL_law_349 ?_
  refine go_aload_n dL_law_350 rfl 0 rfl ?_
  refine go_iload_n dL_law_351 rfl 3 rfl ?_
  refine go_iconst (v := Int32.ofInt 2) dL_law_352 rfl ?_
  refine go_addI dL_law_353 ?_
  refine go_sldS (z := i + 2) (by omega) (by omega) hn dL_law_354 ?_
  refine go_callV (d1 := d - 1) wVL_34 kX12 hy rfl (by omega) (lm_is (p := rl_s X9 (i + 1)) (k := rl_s X9 (i + 2)) (by omega) (rl_sr _) (rl_sr _) H1 rfl J) rfl (Nat.le_of_ble_eq_true rfl) dL_law_355 (fun w9 σ2 hP9 => ?_)
  obtain ⟨rfl, r0, V, H2, z2⟩ := hP9
  refine go_icmp_eq (tgt := 1069) dL_law_358 (by decide) (fun _ => ?_) (fun c => absurd rfl c)
  exact kk _ (rl_fin H2 V J O z z1 z2)
set_option maxRecDepth 20000 in
theorem cs_feed {X9 : rj_X} {cb d K N : Nat} {P9 : Option Value → rj_H → Prop} {τ : rj_H} {i : Int} (hd : 40 ≤ d) (hi : 0 ≤ i) (hl : i + 4 ≤ (rl_n X9 : Int)) (hn : rl_n X9 < 2147483648) (I : rl_I X9 cb K N τ) (kk : ∀ τ2 : rj_H, rl_I X9 cb K (N + 1) τ2 → rj_Go X9 yL_law cL_law 4 (some .boolean) d P9 1069 (rl_lv X9 cb i) [] τ2) : rj_Go X9 yL_law cL_law 4 (some .boolean) d P9 363 (rl_lv X9 cb i) [] τ := by
  obtain ⟨r, H, J, O, z⟩ := I
  obtain ⟨fx, hx⟩ := H.x
  refine go_aload_n dL_law_363 rfl 1 rfl ?_
  refine go_aload_n dL_law_364 rfl 0 rfl ?_
  refine go_iload_n dL_law_365 rfl 3 rfl ?_
  refine go_iconst (v := Int32.ofInt 1) dL_law_366 rfl ?_
  refine go_addI dL_law_367 ?_
  refine go_sldS (z := i + 1) (by omega) (by omega) hn dL_law_368 ?_
  refine go_i2l dL_law_369 rfl ?_
  refine go_bipush (v := Int32.ofInt 32) dL_law_370 (by decide) ?_
  refine go_lshl dL_law_372 rfl ?_
  refine go_aload_n dL_law_373 rfl 0 rfl ?_
  refine go_iload_n dL_law_374 rfl 3 rfl ?_
  refine go_iconst (v := Int32.ofInt 2) dL_law_375 rfl ?_
  refine go_addI dL_law_376 ?_
  refine go_sldS (z := i + 2) (by omega) (by omega) hn dL_law_377 ?_
  refine go_i2l dL_law_378 rfl ?_
  refine go_ldc2 (z := 4294967295) (rj_inT 1435 (by decide +kernel)) dL_law_379 ?_
  refine go_land dL_law_382 ?_
  refine go_lor dL_law_383 ?_
  refine go_aload_n dL_law_384 rfl 0 rfl ?_
  refine go_iload_n dL_law_385 rfl 3 rfl ?_
  refine go_iconst (v := Int32.ofInt 3) dL_law_386 rfl ?_
  refine go_addI dL_law_387 ?_
  refine go_sldS (z := i + 3) (by omega) (by omega) hn dL_law_388 ?_
  refine go_callV (d1 := d - 1) wVL_37 kX11 hx rfl (by omega) (lx_feed (c9 := rl_s X9 (i + 3)) (by omega) (rl_sr _) H J) rfl (Nat.le_of_ble_eq_true rfl) dL_law_389 (fun w9 σ1 hP9 => ?_)
  obtain ⟨rfl, H1, z1⟩ := hP9
  obtain ⟨fy, hy⟩ := H1.y
  refine go_aload_n dL_law_392 rfl 2 rfl ?_
  refine go_aload_n dL_law_393 rfl 0 rfl ?_
  refine go_iload_n dL_law_394 rfl 3 rfl ?_
  refine go_iconst (v := Int32.ofInt 1) dL_law_395 rfl ?_
  refine go_addI dL_law_396 ?_
  refine go_sldS (z := i + 1) (by omega) (by omega) hn dL_law_397 ?_
  refine go_i2l dL_law_398 rfl ?_
  refine go_bipush (v := Int32.ofInt 32) dL_law_399 (by decide) ?_
  refine go_lshl dL_law_401 rfl ?_
  refine go_aload_n dL_law_402 rfl 0 rfl ?_
  refine go_iload_n dL_law_403 rfl 3 rfl ?_
  refine go_iconst (v := Int32.ofInt 2) dL_law_404 rfl ?_
  refine go_addI dL_law_405 ?_
  refine go_sldS (z := i + 2) (by omega) (by omega) hn dL_law_406 ?_
  refine go_i2l dL_law_407 rfl ?_
  refine go_ldc2 (z := 4294967295) (rj_inT 1435 (by decide +kernel)) dL_law_408 ?_
  refine go_land dL_law_411 ?_
  refine go_lor dL_law_412 ?_
  refine go_aload_n dL_law_413 rfl 0 rfl ?_
  refine go_iload_n dL_law_414 rfl 3 rfl ?_
  refine go_iconst (v := Int32.ofInt 3) dL_law_415 rfl ?_
  refine go_addI dL_law_416 ?_
  refine go_sldS (z := i + 3) (by omega) (by omega) hn dL_law_417 ?_
  refine go_callV (d1 := d - 1) wVL_41 kX12 hy rfl (by omega) (lm_feed (c9 := rl_s X9 (i + 3)) (by omega) (rl_sr _) H1 rfl J) rfl (Nat.le_of_ble_eq_true rfl) dL_law_418 (fun w9 σ2 hP9 => ?_)
  obtain ⟨rfl, r0, V, H2, z2⟩ := hP9
  refine go_icmp_eq (tgt := 1069) dL_law_421 (by decide) (fun _ => ?_) (fun c => absurd rfl c)
  exact kk _ (rl_fin H2 V (J_fed J) O z z1 z2)
set_option maxRecDepth 20000 in
theorem cs_valley {X9 : rj_X} {cb d K N : Nat} {P9 : Option Value → rj_H → Prop} {τ : rj_H} {i : Int} (hd : 40 ≤ d) (hi : 0 ≤ i) (hl : i + 4 ≤ (rl_n X9 : Int)) (hn : rl_n X9 < 2147483648) (I : rl_I X9 cb K N τ) (kk : ∀ τ2 : rj_H, rl_I X9 cb K (N + 1) τ2 → rj_Go X9 yL_law cL_law 4 (some .boolean) d P9 1069 (rl_lv X9 cb i) [] τ2) : rj_Go X9 yL_law cL_law 4 (some .boolean) d P9 426 (rl_lv X9 cb i) [] τ := by
  obtain ⟨r, H, J, O, z⟩ := I
  obtain ⟨fx, hx⟩ := H.x
  refine go_aload_n dL_law_426 rfl 1 rfl ?_
  refine go_callV (d1 := d - 1) wVL_42 kX11 hx rfl (by omega) (lx_valley  (by omega)  H J) rfl (Nat.le_of_ble_eq_true rfl) dL_law_427 (fun w9 σ1 hP9 => ?_)
  obtain ⟨rfl, H1, z1⟩ := hP9
  obtain ⟨fy, hy⟩ := H1.y
  refine go_aload_n dL_law_430 rfl 2 rfl ?_
  refine go_callV (d1 := d - 1) wVL_46 kX12 hy rfl (by omega) (lm_valley  (by omega)  H1 rfl J) rfl (Nat.le_of_ble_eq_true rfl) dL_law_431 (fun w9 σ2 hP9 => ?_)
  obtain ⟨rfl, r0, V, H2, z2⟩ := hP9
  refine go_icmp_eq (tgt := 1069) dL_law_434 (by decide) (fun _ => ?_) (fun c => absurd rfl c)
  exact kk _ (rl_fin H2 V (J_val J) O z z1 z2)
set_option maxRecDepth 20000 in
theorem cs_free {X9 : rj_X} {cb d K N : Nat} {P9 : Option Value → rj_H → Prop} {τ : rj_H} {i : Int} (hd : 40 ≤ d) (hi : 0 ≤ i) (hl : i + 4 ≤ (rl_n X9 : Int)) (hn : rl_n X9 < 2147483648) (I : rl_I X9 cb K N τ) (kk : ∀ τ2 : rj_H, rl_I X9 cb K (N + 1) τ2 → rj_Go X9 yL_law cL_law 4 (some .boolean) d P9 1069 (rl_lv X9 cb i) [] τ2) : rj_Go X9 yL_law cL_law 4 (some .boolean) d P9 439 (rl_lv X9 cb i) [] τ := by
  obtain ⟨r, H, J, O, z⟩ := I
  obtain ⟨fx, hx⟩ := H.x
  refine go_aload_n dL_law_439 rfl 1 rfl ?_
  refine go_aload_n dL_law_440 rfl 0 rfl ?_
  refine go_iload_n dL_law_441 rfl 3 rfl ?_
  refine go_iconst (v := Int32.ofInt 1) dL_law_442 rfl ?_
  refine go_addI dL_law_443 ?_
  refine go_sldS (z := i + 1) (by omega) (by omega) hn dL_law_444 ?_
  refine go_aload_n dL_law_445 rfl 0 rfl ?_
  refine go_iload_n dL_law_446 rfl 3 rfl ?_
  refine go_iconst (v := Int32.ofInt 2) dL_law_447 rfl ?_
  refine go_addI dL_law_448 ?_
  refine go_sldS (z := i + 2) (by omega) (by omega) hn dL_law_449 ?_
  refine go_callV (d1 := d - 1) wVL_47 kX11 hx rfl (by omega) (lx_free (m := rl_s X9 (i + 1)) (p := rl_s X9 (i + 2)) (by omega) (rl_sr _) (rl_sr _) H J) rfl (Nat.le_of_ble_eq_true rfl) dL_law_450 (fun w9 σ1 hP9 => ?_)
  obtain ⟨rfl, H1, z1⟩ := hP9
  obtain ⟨fy, hy⟩ := H1.y
  refine go_aload_n dL_law_453 rfl 2 rfl ?_
  refine go_aload_n dL_law_454 rfl 0 rfl ?_
  refine go_iload_n dL_law_455 rfl 3 rfl ?_
  refine go_iconst (v := Int32.ofInt 1) dL_law_456 rfl ?_
  refine go_addI dL_law_457 ?_
  refine go_sldS (z := i + 1) (by omega) (by omega) hn dL_law_458 ?_
  refine go_aload_n dL_law_459 rfl 0 rfl ?_
  refine go_iload_n dL_law_460 rfl 3 rfl ?_
  refine go_iconst (v := Int32.ofInt 2) dL_law_461 rfl ?_
  refine go_addI dL_law_462 ?_
  refine go_sldS (z := i + 2) (by omega) (by omega) hn dL_law_463 ?_
  refine go_callV (d1 := d - 1) wVL_50 kX12 hy rfl (by omega) (lm_free (m := rl_s X9 (i + 1)) (p := rl_s X9 (i + 2)) (by omega) (rl_sr _) (rl_sr _) H1 rfl J) rfl (Nat.le_of_ble_eq_true rfl) dL_law_464 (fun w9 σ2 hP9 => ?_)
  obtain ⟨rfl, r0, V, H2, z2⟩ := hP9
  refine go_icmp_eq (tgt := 1069) dL_law_467 (by decide) (fun _ => ?_) (fun c => absurd rfl c)
  exact kk _ (rl_fin H2 V J O z z1 z2)
set_option maxRecDepth 20000 in
theorem cs_can {X9 : rj_X} {cb d K N : Nat} {P9 : Option Value → rj_H → Prop} {τ : rj_H} {i : Int} (hd : 40 ≤ d) (hi : 0 ≤ i) (hl : i + 4 ≤ (rl_n X9 : Int)) (hn : rl_n X9 < 2147483648) (I : rl_I X9 cb K N τ) (kk : ∀ τ2 : rj_H, rl_I X9 cb K (N + 1) τ2 → rj_Go X9 yL_law cL_law 4 (some .boolean) d P9 1069 (rl_lv X9 cb i) [] τ2) : rj_Go X9 yL_law cL_law 4 (some .boolean) d P9 472 (rl_lv X9 cb i) [] τ := by
  obtain ⟨r, H, J, O, z⟩ := I
  obtain ⟨fx, hx⟩ := H.x
  refine go_aload_n dL_law_472 rfl 1 rfl ?_
  refine go_aload_n dL_law_473 rfl 0 rfl ?_
  refine go_iload_n dL_law_474 rfl 3 rfl ?_
  refine go_iconst (v := Int32.ofInt 1) dL_law_475 rfl ?_
  refine go_addI dL_law_476 ?_
  refine go_sldS (z := i + 1) (by omega) (by omega) hn dL_law_477 ?_
  refine go_aload_n dL_law_478 rfl 0 rfl ?_
  refine go_iload_n dL_law_479 rfl 3 rfl ?_
  refine go_iconst (v := Int32.ofInt 2) dL_law_480 rfl ?_
  refine go_addI dL_law_481 ?_
  refine go_sldS (z := i + 2) (by omega) (by omega) hn dL_law_482 ?_
  refine go_aload_n dL_law_483 rfl 0 rfl ?_
  refine go_iload_n dL_law_484 rfl 3 rfl ?_
  refine go_iconst (v := Int32.ofInt 3) dL_law_485 rfl ?_
  refine go_addI dL_law_486 ?_
  refine go_sldS (z := i + 3) (by omega) (by omega) hn dL_law_487 ?_
  refine go_callV (d1 := d - 1) wVL_51 kX11 hx rfl (by omega) (lx_can (m := rl_s X9 (i + 1)) (p := rl_s X9 (i + 2)) (w := rl_s X9 (i + 3)) (by omega) (rl_sr _) (rl_sr _) (rl_sr _) H J) rfl (Nat.le_of_ble_eq_true rfl) dL_law_488 (fun w9 σ1 hP9 => ?_)
  obtain ⟨rfl, H1, z1⟩ := hP9
  obtain ⟨fy, hy⟩ := H1.y
  refine go_aload_n dL_law_491 rfl 2 rfl ?_
  refine go_aload_n dL_law_492 rfl 0 rfl ?_
  refine go_iload_n dL_law_493 rfl 3 rfl ?_
  refine go_iconst (v := Int32.ofInt 1) dL_law_494 rfl ?_
  refine go_addI dL_law_495 ?_
  refine go_sldS (z := i + 1) (by omega) (by omega) hn dL_law_496 ?_
  refine go_aload_n dL_law_497 rfl 0 rfl ?_
  refine go_iload_n dL_law_498 rfl 3 rfl ?_
  refine go_iconst (v := Int32.ofInt 2) dL_law_499 rfl ?_
  refine go_addI dL_law_500 ?_
  refine go_sldS (z := i + 2) (by omega) (by omega) hn dL_law_501 ?_
  refine go_aload_n dL_law_502 rfl 0 rfl ?_
  refine go_iload_n dL_law_503 rfl 3 rfl ?_
  refine go_iconst (v := Int32.ofInt 3) dL_law_504 rfl ?_
  refine go_addI dL_law_505 ?_
  refine go_sldS (z := i + 3) (by omega) (by omega) hn dL_law_506 ?_
  refine go_callV (d1 := d - 1) wVL_54 kX12 hy rfl (by omega) (lm_can (m := rl_s X9 (i + 1)) (p := rl_s X9 (i + 2)) (w := rl_s X9 (i + 3)) (by omega) (rl_sr _) (rl_sr _) (rl_sr _) H1 rfl J) rfl (Nat.le_of_ble_eq_true rfl) dL_law_507 (fun w9 σ2 hP9 => ?_)
  obtain ⟨rfl, r0, V, H2, z2⟩ := hP9
  refine go_icmp_eq (tgt := 1069) dL_law_510 (by decide) (fun _ => ?_) (fun c => absurd rfl c)
  exact kk _ (rl_fin H2 V J O z z1 z2)
set_option maxRecDepth 20000 in
theorem cs_plan {X9 : rj_X} {cb d K N : Nat} {P9 : Option Value → rj_H → Prop} {τ : rj_H} {i : Int} (hd : 40 ≤ d) (hi : 0 ≤ i) (hl : i + 4 ≤ (rl_n X9 : Int)) (hn : rl_n X9 < 2147483648) (I : rl_I X9 cb K N τ) (kk : ∀ τ2 : rj_H, rl_I X9 cb K (N + 1) τ2 → rj_Go X9 yL_law cL_law 4 (some .boolean) d P9 1069 (rl_lv X9 cb i) [] τ2) : rj_Go X9 yL_law cL_law 4 (some .boolean) d P9 515 (rl_lv X9 cb i) [] τ := by
  obtain ⟨r, H, J, O, z⟩ := I
  obtain ⟨fx, hx⟩ := H.x
  refine go_aload_n dL_law_515 rfl 1 rfl ?_
  refine go_aload_n dL_law_516 rfl 0 rfl ?_
  refine go_iload_n dL_law_517 rfl 3 rfl ?_
  refine go_iconst (v := Int32.ofInt 1) dL_law_518 rfl ?_
  refine go_addI dL_law_519 ?_
  refine go_sldS (z := i + 1) (by omega) (by omega) hn dL_law_520 ?_
  refine go_aload_n dL_law_521 rfl 0 rfl ?_
  refine go_iload_n dL_law_522 rfl 3 rfl ?_
  refine go_iconst (v := Int32.ofInt 2) dL_law_523 rfl ?_
  refine go_addI dL_law_524 ?_
  refine go_sldS (z := i + 2) (by omega) (by omega) hn dL_law_525 ?_
  refine go_aload_n dL_law_526 rfl 0 rfl ?_
  refine go_iload_n dL_law_527 rfl 3 rfl ?_
  refine go_iconst (v := Int32.ofInt 3) dL_law_528 rfl ?_
  refine go_addI dL_law_529 ?_
  refine go_sldS (z := i + 3) (by omega) (by omega) hn dL_law_530 ?_
  refine go_callV (d1 := d - 1) wVL_55 kX11 hx rfl (by omega) (lx_plan (m := rl_s X9 (i + 1)) (q := rl_s X9 (i + 2)) (p := rl_s X9 (i + 3)) (by omega) (rl_sr _) (rl_sr _) (rl_sr _) H J) rfl (Nat.le_of_ble_eq_true rfl) dL_law_531 (fun w9 σ1 hP9 => ?_)
  obtain ⟨rfl, H1, z1⟩ := hP9
  obtain ⟨fy, hy⟩ := H1.y
  refine go_aload_n dL_law_534 rfl 2 rfl ?_
  refine go_aload_n dL_law_535 rfl 0 rfl ?_
  refine go_iload_n dL_law_536 rfl 3 rfl ?_
  refine go_iconst (v := Int32.ofInt 1) dL_law_537 rfl ?_
  refine go_addI dL_law_538 ?_
  refine go_sldS (z := i + 1) (by omega) (by omega) hn dL_law_539 ?_
  refine go_aload_n dL_law_540 rfl 0 rfl ?_
  refine go_iload_n dL_law_541 rfl 3 rfl ?_
  refine go_iconst (v := Int32.ofInt 2) dL_law_542 rfl ?_
  refine go_addI dL_law_543 ?_
  refine go_sldS (z := i + 2) (by omega) (by omega) hn dL_law_544 ?_
  refine go_aload_n dL_law_545 rfl 0 rfl ?_
  refine go_iload_n dL_law_546 rfl 3 rfl ?_
  refine go_iconst (v := Int32.ofInt 3) dL_law_547 rfl ?_
  refine go_addI dL_law_548 ?_
  refine go_sldS (z := i + 3) (by omega) (by omega) hn dL_law_549 ?_
  refine go_callV (d1 := d - 1) wVL_58 kX12 hy rfl (by omega) (lm_plan (m := rl_s X9 (i + 1)) (q := rl_s X9 (i + 2)) (p := rl_s X9 (i + 3)) (by omega) (rl_sr _) (rl_sr _) (rl_sr _) H1 rfl J) rfl (Nat.le_of_ble_eq_true rfl) dL_law_550 (fun w9 σ2 hP9 => ?_)
  obtain ⟨rfl, r0, V, H2, z2⟩ := hP9
  refine go_icmp_eq (tgt := 1069) dL_law_553 (by decide) (fun _ => ?_) (fun c => absurd rfl c)
  exact kk _ (rl_fin H2 V (J_pln J) O z z1 z2)
set_option maxRecDepth 20000 in
theorem cs_judged {X9 : rj_X} {cb d K N : Nat} {P9 : Option Value → rj_H → Prop} {τ : rj_H} {i : Int} (hd : 40 ≤ d) (hi : 0 ≤ i) (hl : i + 4 ≤ (rl_n X9 : Int)) (hn : rl_n X9 < 2147483648) (I : rl_I X9 cb K N τ) (kk : ∀ τ2 : rj_H, rl_I X9 cb K (N + 1) τ2 → rj_Go X9 yL_law cL_law 4 (some .boolean) d P9 1069 (rl_lv X9 cb i) [] τ2) : rj_Go X9 yL_law cL_law 4 (some .boolean) d P9 558 (rl_lv X9 cb i) [] τ := by
  obtain ⟨r, H, J, O, z⟩ := I
  obtain ⟨fx, hx⟩ := H.x
  refine go_aload_n dL_law_558 rfl 1 rfl ?_
  refine go_callV (d1 := d - 1) wVL_59 kX11 hx rfl (by omega) (lx_judged  (by omega)  H J) rfl (Nat.le_of_ble_eq_true rfl) dL_law_559 (fun w9 σ1 hP9 => ?_)
  obtain ⟨rfl, H1, z1⟩ := hP9
  obtain ⟨fy, hy⟩ := H1.y
  refine go_aload_n dL_law_562 rfl 2 rfl ?_
  refine go_callV (d1 := d - 1) wVL_62 kX12 hy rfl (by omega) (lm_judged  (by omega)  H1 rfl J) rfl (Nat.le_of_ble_eq_true rfl) dL_law_563 (fun w9 σ2 hP9 => ?_)
  obtain ⟨rfl, r0, V, H2, z2⟩ := hP9
  refine go_icmp_eq (tgt := 1069) dL_law_566 (by decide) (fun _ => ?_) (fun c => absurd rfl c)
  exact kk _ (rl_fin H2 V J O z z1 z2)
set_option maxRecDepth 20000 in
theorem cs_has {X9 : rj_X} {cb d K N : Nat} {P9 : Option Value → rj_H → Prop} {τ : rj_H} {i : Int} (hd : 40 ≤ d) (hi : 0 ≤ i) (hl : i + 4 ≤ (rl_n X9 : Int)) (hn : rl_n X9 < 2147483648) (I : rl_I X9 cb K N τ) (kk : ∀ τ2 : rj_H, rl_I X9 cb K (N + 1) τ2 → rj_Go X9 yL_law cL_law 4 (some .boolean) d P9 1069 (rl_lv X9 cb i) [] τ2) : rj_Go X9 yL_law cL_law 4 (some .boolean) d P9 571 (rl_lv X9 cb i) [] τ := by
  obtain ⟨r, H, J, O, z⟩ := I
  obtain ⟨fx, hx⟩ := H.x
  refine go_aload_n dL_law_571 rfl 1 rfl ?_
  refine go_aload_n dL_law_572 rfl 0 rfl ?_
  refine go_iload_n dL_law_573 rfl 3 rfl ?_
  refine go_iconst (v := Int32.ofInt 1) dL_law_574 rfl ?_
  refine go_addI dL_law_575 ?_
  refine go_sldS (z := i + 1) (by omega) (by omega) hn dL_law_576 ?_
  refine go_aload_n dL_law_577 rfl 0 rfl ?_
  refine go_iload_n dL_law_578 rfl 3 rfl ?_
  refine go_iconst (v := Int32.ofInt 2) dL_law_579 rfl ?_
  refine go_addI dL_law_580 ?_
  refine go_sldS (z := i + 2) (by omega) (by omega) hn dL_law_581 ?_
  refine go_callV (d1 := d - 1) wVL_63 kX11 hx rfl (by omega) (lx_has (p := rl_s X9 (i + 1)) (w := rl_s X9 (i + 2)) (by omega) (rl_sr _) (rl_sr _) H J) rfl (Nat.le_of_ble_eq_true rfl) dL_law_582 (fun w9 σ1 hP9 => ?_)
  obtain ⟨rfl, H1, z1⟩ := hP9
  obtain ⟨fy, hy⟩ := H1.y
  refine go_aload_n dL_law_585 rfl 2 rfl ?_
  refine go_aload_n dL_law_586 rfl 0 rfl ?_
  refine go_iload_n dL_law_587 rfl 3 rfl ?_
  refine go_iconst (v := Int32.ofInt 1) dL_law_588 rfl ?_
  refine go_addI dL_law_589 ?_
  refine go_sldS (z := i + 1) (by omega) (by omega) hn dL_law_590 ?_
  refine go_aload_n dL_law_591 rfl 0 rfl ?_
  refine go_iload_n dL_law_592 rfl 3 rfl ?_
  refine go_iconst (v := Int32.ofInt 2) dL_law_593 rfl ?_
  refine go_addI dL_law_594 ?_
  refine go_sldS (z := i + 2) (by omega) (by omega) hn dL_law_595 ?_
  refine go_callV (d1 := d - 1) wVL_66 kX12 hy rfl (by omega) (lm_has (p := rl_s X9 (i + 1)) (w := rl_s X9 (i + 2)) (by omega) (rl_sr _) (rl_sr _) H1 rfl J) rfl (Nat.le_of_ble_eq_true rfl) dL_law_596 (fun w9 σ2 hP9 => ?_)
  obtain ⟨rfl, r0, V, H2, z2⟩ := hP9
  refine go_icmp_eq (tgt := 1069) dL_law_599 (by decide) (fun _ => ?_) (fun c => absurd rfl c)
  exact kk _ (rl_fin H2 V J O z z1 z2)
set_option maxRecDepth 20000 in
theorem cs_worth {X9 : rj_X} {cb d K N : Nat} {P9 : Option Value → rj_H → Prop} {τ : rj_H} {i : Int} (hd : 40 ≤ d) (hi : 0 ≤ i) (hl : i + 4 ≤ (rl_n X9 : Int)) (hn : rl_n X9 < 2147483648) (I : rl_I X9 cb K N τ) (kk : ∀ τ2 : rj_H, rl_I X9 cb K (N + 1) τ2 → rj_Go X9 yL_law cL_law 4 (some .boolean) d P9 1069 (rl_lv X9 cb i) [] τ2) : rj_Go X9 yL_law cL_law 4 (some .boolean) d P9 604 (rl_lv X9 cb i) [] τ := by
  obtain ⟨r, H, J, O, z⟩ := I
  obtain ⟨fx, hx⟩ := H.x
  refine go_aload_n dL_law_604 rfl 1 rfl ?_
  refine go_aload_n dL_law_605 rfl 0 rfl ?_
  refine go_iload_n dL_law_606 rfl 3 rfl ?_
  refine go_iconst (v := Int32.ofInt 1) dL_law_607 rfl ?_
  refine go_addI dL_law_608 ?_
  refine go_sldS (z := i + 1) (by omega) (by omega) hn dL_law_609 ?_
  refine go_callV (d1 := d - 1) wVL_67 kX11 hx rfl (by omega) (lx_worth (w := rl_s X9 (i + 1)) (by omega) (rl_sr _) H J) rfl (Nat.le_of_ble_eq_true rfl) dL_law_610 (fun w9 σ1 hP9 => ?_)
  obtain ⟨rfl, H1, z1⟩ := hP9
  obtain ⟨fy, hy⟩ := H1.y
  refine go_aload_n dL_law_613 rfl 2 rfl ?_
  refine go_aload_n dL_law_614 rfl 0 rfl ?_
  refine go_iload_n dL_law_615 rfl 3 rfl ?_
  refine go_iconst (v := Int32.ofInt 1) dL_law_616 rfl ?_
  refine go_addI dL_law_617 ?_
  refine go_sldS (z := i + 1) (by omega) (by omega) hn dL_law_618 ?_
  refine go_callV (d1 := d - 1) wVL_71 kX12 hy rfl (by omega) (lm_worth (w := rl_s X9 (i + 1)) (by omega) (rl_sr _) H1 rfl J) rfl (Nat.le_of_ble_eq_true rfl) dL_law_619 (fun w9 σ2 hP9 => ?_)
  obtain ⟨rfl, r0, V, H2, z2⟩ := hP9
  refine go_icmp_eq (tgt := 1069) dL_law_622 (by decide) (fun _ => ?_) (fun c => absurd rfl c)
  exact kk _ (rl_fin H2 V J O z z1 z2)
set_option maxRecDepth 20000 in
theorem cs_best {X9 : rj_X} {cb d K N : Nat} {P9 : Option Value → rj_H → Prop} {τ : rj_H} {i : Int} (hd : 40 ≤ d) (hi : 0 ≤ i) (hl : i + 4 ≤ (rl_n X9 : Int)) (hn : rl_n X9 < 2147483648) (I : rl_I X9 cb K N τ) (kk : ∀ τ2 : rj_H, rl_I X9 cb K (N + 1) τ2 → rj_Go X9 yL_law cL_law 4 (some .boolean) d P9 1069 (rl_lv X9 cb i) [] τ2) : rj_Go X9 yL_law cL_law 4 (some .boolean) d P9 627 (rl_lv X9 cb i) [] τ := by
  obtain ⟨r, H, J, O, z⟩ := I
  obtain ⟨fx, hx⟩ := H.x
  refine go_aload_n dL_law_627 rfl 1 rfl ?_
  refine go_aload_n dL_law_628 rfl 0 rfl ?_
  refine go_iload_n dL_law_629 rfl 3 rfl ?_
  refine go_iconst (v := Int32.ofInt 1) dL_law_630 rfl ?_
  refine go_addI dL_law_631 ?_
  refine go_sldS (z := i + 1) (by omega) (by omega) hn dL_law_632 ?_
  refine go_aload_n dL_law_633 rfl 0 rfl ?_
  refine go_iload_n dL_law_634 rfl 3 rfl ?_
  refine go_iconst (v := Int32.ofInt 2) dL_law_635 rfl ?_
  refine go_addI dL_law_636 ?_
  refine go_sldS (z := i + 2) (by omega) (by omega) hn dL_law_637 ?_
  refine go_callV (d1 := d - 1) wVL_72 kX11 hx rfl (by omega) (lx_best (m := rl_s X9 (i + 1)) (i := rl_s X9 (i + 2)) (by omega) (rl_sr _) (rl_sr _) H J) rfl (Nat.le_of_ble_eq_true rfl) dL_law_638 (fun w9 σ1 hP9 => ?_)
  obtain ⟨rfl, H1, z1⟩ := hP9
  obtain ⟨fy, hy⟩ := H1.y
  refine go_aload_n dL_law_641 rfl 2 rfl ?_
  refine go_aload_n dL_law_642 rfl 0 rfl ?_
  refine go_iload_n dL_law_643 rfl 3 rfl ?_
  refine go_iconst (v := Int32.ofInt 1) dL_law_644 rfl ?_
  refine go_addI dL_law_645 ?_
  refine go_sldS (z := i + 1) (by omega) (by omega) hn dL_law_646 ?_
  refine go_aload_n dL_law_647 rfl 0 rfl ?_
  refine go_iload_n dL_law_648 rfl 3 rfl ?_
  refine go_iconst (v := Int32.ofInt 2) dL_law_649 rfl ?_
  refine go_addI dL_law_650 ?_
  refine go_sldS (z := i + 2) (by omega) (by omega) hn dL_law_651 ?_
  refine go_callV (d1 := d - 1) wVL_75 kX12 hy rfl (by omega) (lm_best (m := rl_s X9 (i + 1)) (i := rl_s X9 (i + 2)) (by omega) (rl_sr _) (rl_sr _) H1 rfl J) rfl (Nat.le_of_ble_eq_true rfl) dL_law_652 (fun w9 σ2 hP9 => ?_)
  obtain ⟨rfl, r0, V, H2, z2⟩ := hP9
  refine go_icmp_eq (tgt := 1069) dL_law_655 (by decide) (fun _ => ?_) (fun c => absurd rfl c)
  exact kk _ (rl_fin H2 V J O z z1 z2)
set_option maxRecDepth 20000 in
theorem cs_fair {X9 : rj_X} {cb d K N : Nat} {P9 : Option Value → rj_H → Prop} {τ : rj_H} {i : Int} (hd : 40 ≤ d) (hi : 0 ≤ i) (hl : i + 4 ≤ (rl_n X9 : Int)) (hn : rl_n X9 < 2147483648) (I : rl_I X9 cb K N τ) (kk : ∀ τ2 : rj_H, rl_I X9 cb K (N + 1) τ2 → rj_Go X9 yL_law cL_law 4 (some .boolean) d P9 1069 (rl_lv X9 cb i) [] τ2) : rj_Go X9 yL_law cL_law 4 (some .boolean) d P9 660 (rl_lv X9 cb i) [] τ := by
  obtain ⟨r, H, J, O, z⟩ := I
  obtain ⟨fx, hx⟩ := H.x
  refine go_aload_n dL_law_660 rfl 1 rfl ?_
  refine go_aload_n dL_law_661 rfl 0 rfl ?_
  refine go_iload_n dL_law_662 rfl 3 rfl ?_
  refine go_iconst (v := Int32.ofInt 1) dL_law_663 rfl ?_
  refine go_addI dL_law_664 ?_
  refine go_sldS (z := i + 1) (by omega) (by omega) hn dL_law_665 ?_
  refine go_callV (d1 := d - 1) wVL_76 kX11 hx rfl (by omega) (lx_fair (w := rl_s X9 (i + 1)) (by omega) (rl_sr _) H J) rfl (Nat.le_of_ble_eq_true rfl) dL_law_666 (fun w9 σ1 hP9 => ?_)
  obtain ⟨rfl, H1, z1⟩ := hP9
  obtain ⟨fy, hy⟩ := H1.y
  refine go_aload_n dL_law_669 rfl 2 rfl ?_
  refine go_aload_n dL_law_670 rfl 0 rfl ?_
  refine go_iload_n dL_law_671 rfl 3 rfl ?_
  refine go_iconst (v := Int32.ofInt 1) dL_law_672 rfl ?_
  refine go_addI dL_law_673 ?_
  refine go_sldS (z := i + 1) (by omega) (by omega) hn dL_law_674 ?_
  refine go_callV (d1 := d - 1) wVL_79 kX12 hy rfl (by omega) (lm_fair (w := rl_s X9 (i + 1)) (by omega) (rl_sr _) H1 rfl J) rfl (Nat.le_of_ble_eq_true rfl) dL_law_675 (fun w9 σ2 hP9 => ?_)
  obtain ⟨rfl, r0, V, H2, z2⟩ := hP9
  refine go_icmp_eq (tgt := 1069) dL_law_678 (by decide) (fun _ => ?_) (fun c => absurd rfl c)
  exact kk _ (rl_fin H2 V J O z z1 z2)
set_option maxRecDepth 20000 in
theorem cs_take {X9 : rj_X} {cb d K N : Nat} {P9 : Option Value → rj_H → Prop} {τ : rj_H} {i : Int} (hd : 40 ≤ d) (hi : 0 ≤ i) (hl : i + 4 ≤ (rl_n X9 : Int)) (hn : rl_n X9 < 2147483648) (I : rl_I X9 cb K N τ) (kk : ∀ τ2 : rj_H, rl_I X9 cb K (N + 1) τ2 → rj_Go X9 yL_law cL_law 4 (some .boolean) d P9 1069 (rl_lv X9 cb i) [] τ2) : rj_Go X9 yL_law cL_law 4 (some .boolean) d P9 683 (rl_lv X9 cb i) [] τ := by
  obtain ⟨r, H, J, O, z⟩ := I
  obtain ⟨fx, hx⟩ := H.x
  refine go_aload_n dL_law_683 rfl 1 rfl ?_
  refine go_aload_n dL_law_684 rfl 0 rfl ?_
  refine go_iload_n dL_law_685 rfl 3 rfl ?_
  refine go_iconst (v := Int32.ofInt 1) dL_law_686 rfl ?_
  refine go_addI dL_law_687 ?_
  refine go_sldS (z := i + 1) (by omega) (by omega) hn dL_law_688 ?_
  refine go_aload_n dL_law_689 rfl 0 rfl ?_
  refine go_iload_n dL_law_690 rfl 3 rfl ?_
  refine go_iconst (v := Int32.ofInt 2) dL_law_691 rfl ?_
  refine go_addI dL_law_692 ?_
  refine go_sldS (z := i + 2) (by omega) (by omega) hn dL_law_693 ?_
  refine go_callV (d1 := d - 1) wVL_80 kX11 hx rfl (by omega) (lx_take (coin := rl_s X9 (i + 1)) (w := rl_s X9 (i + 2)) (by omega) (rl_sr _) (rl_sr _) H J) rfl (Nat.le_of_ble_eq_true rfl) dL_law_694 (fun w9 σ1 hP9 => ?_)
  obtain ⟨rfl, H1, z1⟩ := hP9
  obtain ⟨fy, hy⟩ := H1.y
  refine go_aload_n dL_law_697 rfl 2 rfl ?_
  refine go_aload_n dL_law_698 rfl 0 rfl ?_
  refine go_iload_n dL_law_699 rfl 3 rfl ?_
  refine go_iconst (v := Int32.ofInt 1) dL_law_700 rfl ?_
  refine go_addI dL_law_701 ?_
  refine go_sldS (z := i + 1) (by omega) (by omega) hn dL_law_702 ?_
  refine go_aload_n dL_law_703 rfl 0 rfl ?_
  refine go_iload_n dL_law_704 rfl 3 rfl ?_
  refine go_iconst (v := Int32.ofInt 2) dL_law_705 rfl ?_
  refine go_addI dL_law_706 ?_
  refine go_sldS (z := i + 2) (by omega) (by omega) hn dL_law_707 ?_
  refine go_callV (d1 := d - 1) wVL_83 kX12 hy rfl (by omega) (lm_take (coin := rl_s X9 (i + 1)) (w := rl_s X9 (i + 2)) (by omega) (rl_sr _) (rl_sr _) H1 rfl J) rfl (Nat.le_of_ble_eq_true rfl) dL_law_708 (fun w9 σ2 hP9 => ?_)
  obtain ⟨rfl, r0, V, H2, z2⟩ := hP9
  refine go_icmp_eq (tgt := 1069) dL_law_711 (by decide) (fun _ => ?_) (fun c => absurd rfl c)
  exact kk _ (rl_fin H2 V J O z z1 z2)
set_option maxRecDepth 20000 in
theorem cs_coarse {X9 : rj_X} {cb d K N : Nat} {P9 : Option Value → rj_H → Prop} {τ : rj_H} {i : Int} (hd : 40 ≤ d) (hi : 0 ≤ i) (hl : i + 4 ≤ (rl_n X9 : Int)) (hn : rl_n X9 < 2147483648) (I : rl_I X9 cb K N τ) (kk : ∀ τ2 : rj_H, rl_I X9 cb K (N + 1) τ2 → rj_Go X9 yL_law cL_law 4 (some .boolean) d P9 1069 (rl_lv X9 cb i) [] τ2) : rj_Go X9 yL_law cL_law 4 (some .boolean) d P9 716 (rl_lv X9 cb i) [] τ := by
  obtain ⟨r, H, J, O, z⟩ := I
  obtain ⟨fx, hx⟩ := H.x
  refine go_aload_n dL_law_716 rfl 1 rfl ?_
  refine go_aload_n dL_law_717 rfl 0 rfl ?_
  refine go_iload_n dL_law_718 rfl 3 rfl ?_
  refine go_iconst (v := Int32.ofInt 1) dL_law_719 rfl ?_
  refine go_addI dL_law_720 ?_
  refine go_sldS (z := i + 1) (by omega) (by omega) hn dL_law_721 ?_
  refine go_callV (d1 := d - 1) wVL_84 kX11 hx rfl (by omega) (lx_coarse (n9 := rl_s X9 (i + 1)) (by omega) (rl_sr _) H J) rfl (Nat.le_of_ble_eq_true rfl) dL_law_722 (fun w9 σ1 hP9 => ?_)
  obtain ⟨rfl, H1, z1⟩ := hP9
  obtain ⟨fy, hy⟩ := H1.y
  refine go_aload_n dL_law_725 rfl 2 rfl ?_
  refine go_aload_n dL_law_726 rfl 0 rfl ?_
  refine go_iload_n dL_law_727 rfl 3 rfl ?_
  refine go_iconst (v := Int32.ofInt 1) dL_law_728 rfl ?_
  refine go_addI dL_law_729 ?_
  refine go_sldS (z := i + 1) (by omega) (by omega) hn dL_law_730 ?_
  refine go_callV (d1 := d - 1) wVL_87 kX12 hy rfl (by omega) (lm_coarse (n9 := rl_s X9 (i + 1)) (by omega) (rl_sr _) H1 rfl J) rfl (Nat.le_of_ble_eq_true rfl) dL_law_731 (fun w9 σ2 hP9 => ?_)
  obtain ⟨rfl, r0, V, H2, z2⟩ := hP9
  refine go_icmp_eq (tgt := 1069) dL_law_734 (by decide) (fun _ => ?_) (fun c => absurd rfl c)
  exact kk _ (rl_fin H2 V J O z z1 z2)
set_option maxRecDepth 20000 in
theorem cs_kept {X9 : rj_X} {cb d K N : Nat} {P9 : Option Value → rj_H → Prop} {τ : rj_H} {i : Int} (hd : 40 ≤ d) (hi : 0 ≤ i) (hl : i + 4 ≤ (rl_n X9 : Int)) (hn : rl_n X9 < 2147483648) (I : rl_I X9 cb K N τ) (kk : ∀ τ2 : rj_H, rl_I X9 cb K (N + 1) τ2 → rj_Go X9 yL_law cL_law 4 (some .boolean) d P9 1069 (rl_lv X9 cb i) [] τ2) : rj_Go X9 yL_law cL_law 4 (some .boolean) d P9 739 (rl_lv X9 cb i) [] τ := by
  obtain ⟨r, H, J, O, z⟩ := I
  obtain ⟨fx, hx⟩ := H.x
  refine go_aload_n dL_law_739 rfl 1 rfl ?_
  refine go_aload_n dL_law_740 rfl 0 rfl ?_
  refine go_iload_n dL_law_741 rfl 3 rfl ?_
  refine go_iconst (v := Int32.ofInt 1) dL_law_742 rfl ?_
  refine go_addI dL_law_743 ?_
  refine go_sldS (z := i + 1) (by omega) (by omega) hn dL_law_744 ?_
  refine go_aload_n dL_law_745 rfl 0 rfl ?_
  refine go_iload_n dL_law_746 rfl 3 rfl ?_
  refine go_iconst (v := Int32.ofInt 2) dL_law_747 rfl ?_
  refine go_addI dL_law_748 ?_
  refine go_sldS (z := i + 2) (by omega) (by omega) hn dL_law_749 ?_
  refine go_aload_n dL_law_750 rfl 0 rfl ?_
  refine go_iload_n dL_law_751 rfl 3 rfl ?_
  refine go_iconst (v := Int32.ofInt 3) dL_law_752 rfl ?_
  refine go_addI dL_law_753 ?_
  refine go_sldS (z := i + 3) (by omega) (by omega) hn dL_law_754 ?_
  refine go_callV (d1 := d - 1) wVL_88 kX11 hx rfl (by omega) (lx_kept (p := rl_s X9 (i + 1)) (k9 := rl_s X9 (i + 2)) (part := rl_s X9 (i + 3)) (by omega) (rl_sr _) (rl_sr _) (rl_sr _) H J) rfl (Nat.le_of_ble_eq_true rfl) dL_law_755 (fun w9 σ1 hP9 => ?_)
  obtain ⟨rfl, H1, z1⟩ := hP9
  obtain ⟨fy, hy⟩ := H1.y
  refine go_aload_n dL_law_758 rfl 2 rfl ?_
  refine go_aload_n dL_law_759 rfl 0 rfl ?_
  refine go_iload_n dL_law_760 rfl 3 rfl ?_
  refine go_iconst (v := Int32.ofInt 1) dL_law_761 rfl ?_
  refine go_addI dL_law_762 ?_
  refine go_sldS (z := i + 1) (by omega) (by omega) hn dL_law_763 ?_
  refine go_aload_n dL_law_764 rfl 0 rfl ?_
  refine go_iload_n dL_law_765 rfl 3 rfl ?_
  refine go_iconst (v := Int32.ofInt 2) dL_law_766 rfl ?_
  refine go_addI dL_law_767 ?_
  refine go_sldS (z := i + 2) (by omega) (by omega) hn dL_law_768 ?_
  refine go_aload_n dL_law_769 rfl 0 rfl ?_
  refine go_iload_n dL_law_770 rfl 3 rfl ?_
  refine go_iconst (v := Int32.ofInt 3) dL_law_771 rfl ?_
  refine go_addI dL_law_772 ?_
  refine go_sldS (z := i + 3) (by omega) (by omega) hn dL_law_773 ?_
  refine go_callV (d1 := d - 1) wVL_92 kX12 hy rfl (by omega) (lm_kept (p := rl_s X9 (i + 1)) (k9 := rl_s X9 (i + 2)) (part := rl_s X9 (i + 3)) (by omega) (rl_sr _) (rl_sr _) (rl_sr _) H1 rfl J) rfl (Nat.le_of_ble_eq_true rfl) dL_law_774 (fun w9 σ2 hP9 => ?_)
  obtain ⟨rfl, r0, V, H2, z2⟩ := hP9
  refine go_lcmp dL_law_777 ?_
  rw [lg_cmp_rf]
  refine go_if_eq (tgt := 1069) dL_law_778 (by decide) (fun _ => ?_) (fun c => absurd rfl c)
  exact kk _ (rl_fin H2 V J O z z1 z2)
set_option maxRecDepth 20000 in
theorem cs_gone {X9 : rj_X} {cb d K N : Nat} {P9 : Option Value → rj_H → Prop} {τ : rj_H} {i : Int} (hd : 40 ≤ d) (hi : 0 ≤ i) (hl : i + 4 ≤ (rl_n X9 : Int)) (hn : rl_n X9 < 2147483648) (I : rl_I X9 cb K N τ) (kk : ∀ τ2 : rj_H, rl_I X9 cb K (N + 1) τ2 → rj_Go X9 yL_law cL_law 4 (some .boolean) d P9 1069 (rl_lv X9 cb i) [] τ2) : rj_Go X9 yL_law cL_law 4 (some .boolean) d P9 783 (rl_lv X9 cb i) [] τ := by
  obtain ⟨r, H, J, O, z⟩ := I
  obtain ⟨fx, hx⟩ := H.x
  refine go_aload_n dL_law_783 rfl 1 rfl ?_
  refine go_aload_n dL_law_784 rfl 0 rfl ?_
  refine go_iload_n dL_law_785 rfl 3 rfl ?_
  refine go_iconst (v := Int32.ofInt 1) dL_law_786 rfl ?_
  refine go_addI dL_law_787 ?_
  refine go_sldS (z := i + 1) (by omega) (by omega) hn dL_law_788 ?_
  refine go_callV (d1 := d - 1) wVL_93 kX11 hx rfl (by omega) (lx_gone (p := rl_s X9 (i + 1)) (by omega) (rl_sr _) H J) rfl (Nat.le_of_ble_eq_true rfl) dL_law_789 (fun w9 σ1 hP9 => ?_)
  obtain ⟨rfl, H1, z1⟩ := hP9
  obtain ⟨fy, hy⟩ := H1.y
  refine go_aload_n dL_law_792 rfl 2 rfl ?_
  refine go_aload_n dL_law_793 rfl 0 rfl ?_
  refine go_iload_n dL_law_794 rfl 3 rfl ?_
  refine go_iconst (v := Int32.ofInt 1) dL_law_795 rfl ?_
  refine go_addI dL_law_796 ?_
  refine go_sldS (z := i + 1) (by omega) (by omega) hn dL_law_797 ?_
  refine go_callV (d1 := d - 1) wVL_96 kX12 hy rfl (by omega) (lm_gone (p := rl_s X9 (i + 1)) (by omega) (rl_sr _) H1 rfl J) rfl (Nat.le_of_ble_eq_true rfl) dL_law_798 (fun w9 σ2 hP9 => ?_)
  obtain ⟨rfl, r0, V, H2, z2⟩ := hP9
  refine go_icmp_eq (tgt := 1069) dL_law_801 (by decide) (fun _ => ?_) (fun c => absurd rfl c)
  exact kk _ (rl_fin H2 V J O z z1 z2)
set_option maxRecDepth 20000 in
theorem cs_day {X9 : rj_X} {cb d K N : Nat} {P9 : Option Value → rj_H → Prop} {τ : rj_H} {i : Int} (hd : 40 ≤ d) (hi : 0 ≤ i) (hl : i + 4 ≤ (rl_n X9 : Int)) (hn : rl_n X9 < 2147483648) (I : rl_I X9 cb K N τ) (kk : ∀ τ2 : rj_H, rl_I X9 cb K (N + 1) τ2 → rj_Go X9 yL_law cL_law 4 (some .boolean) d P9 1069 (rl_lv X9 cb i) [] τ2) : rj_Go X9 yL_law cL_law 4 (some .boolean) d P9 806 (rl_lv X9 cb i) [] τ := by
  obtain ⟨r, H, J, O, z⟩ := I
  obtain ⟨fx, hx⟩ := H.x
  refine go_aload_n dL_law_806 rfl 1 rfl ?_
  refine go_callV (d1 := d - 1) wVL_97 kX11 hx rfl (by omega) (lx_day  (by omega)  H J) rfl (Nat.le_of_ble_eq_true rfl) dL_law_807 (fun w9 σ1 hP9 => ?_)
  obtain ⟨rfl, H1, z1⟩ := hP9
  obtain ⟨fy, hy⟩ := H1.y
  refine go_aload_n dL_law_810 rfl 2 rfl ?_
  refine go_callV (d1 := d - 1) wVL_100 kX12 hy rfl (by omega) (lm_day  (by omega)  H1 rfl J) rfl (Nat.le_of_ble_eq_true rfl) dL_law_811 (fun w9 σ2 hP9 => ?_)
  obtain ⟨rfl, r0, V, H2, z2⟩ := hP9
  refine go_icmp_eq (tgt := 1069) dL_law_814 (by decide) (fun _ => ?_) (fun c => absurd rfl c)
  exact kk _ (rl_fin H2 V (J_day J) O z z1 z2)
set_option maxRecDepth 20000 in
theorem cs_passed {X9 : rj_X} {cb d K N : Nat} {P9 : Option Value → rj_H → Prop} {τ : rj_H} {i : Int} (hd : 40 ≤ d) (hi : 0 ≤ i) (hl : i + 4 ≤ (rl_n X9 : Int)) (hn : rl_n X9 < 2147483648) (I : rl_I X9 cb K N τ) (kk : ∀ τ2 : rj_H, rl_I X9 cb K (N + 1) τ2 → rj_Go X9 yL_law cL_law 4 (some .boolean) d P9 1069 (rl_lv X9 cb i) [] τ2) : rj_Go X9 yL_law cL_law 4 (some .boolean) d P9 819 (rl_lv X9 cb i) [] τ := by
  obtain ⟨r, H, J, O, z⟩ := I
  obtain ⟨fx, hx⟩ := H.x
  refine go_aload_n dL_law_819 rfl 1 rfl ?_
  refine go_aload_n dL_law_820 rfl 0 rfl ?_
  refine go_iload_n dL_law_821 rfl 3 rfl ?_
  refine go_iconst (v := Int32.ofInt 1) dL_law_822 rfl ?_
  refine go_addI dL_law_823 ?_
  refine go_sldS (z := i + 1) (by omega) (by omega) hn dL_law_824 ?_
  refine go_aload_n dL_law_825 rfl 0 rfl ?_
  refine go_iload_n dL_law_826 rfl 3 rfl ?_
  refine go_iconst (v := Int32.ofInt 2) dL_law_827 rfl ?_
  refine go_addI dL_law_828 ?_
  refine go_sldS (z := i + 2) (by omega) (by omega) hn dL_law_829 ?_
  refine go_aload_n dL_law_830 rfl 0 rfl ?_
  refine go_iload_n dL_law_831 rfl 3 rfl ?_
  refine go_iconst (v := Int32.ofInt 3) dL_law_832 rfl ?_
  refine go_addI dL_law_833 ?_
  refine go_sldS (z := i + 3) (by omega) (by omega) hn dL_law_834 ?_
  refine go_callV (d1 := d - 1) wVL_101 kX11 hx rfl (by omega) (lx_passed (m := rl_s X9 (i + 1)) (p := rl_s X9 (i + 2)) (q := rl_s X9 (i + 3)) (by omega) (rl_sr _) (rl_sr _) (rl_sr _) H J) rfl (Nat.le_of_ble_eq_true rfl) dL_law_835 (fun w9 σ1 hP9 => ?_)
  obtain ⟨rfl, H1, z1⟩ := hP9
  obtain ⟨fy, hy⟩ := H1.y
  refine go_aload_n dL_law_838 rfl 2 rfl ?_
  refine go_aload_n dL_law_839 rfl 0 rfl ?_
  refine go_iload_n dL_law_840 rfl 3 rfl ?_
  refine go_iconst (v := Int32.ofInt 1) dL_law_841 rfl ?_
  refine go_addI dL_law_842 ?_
  refine go_sldS (z := i + 1) (by omega) (by omega) hn dL_law_843 ?_
  refine go_aload_n dL_law_844 rfl 0 rfl ?_
  refine go_iload_n dL_law_845 rfl 3 rfl ?_
  refine go_iconst (v := Int32.ofInt 2) dL_law_846 rfl ?_
  refine go_addI dL_law_847 ?_
  refine go_sldS (z := i + 2) (by omega) (by omega) hn dL_law_848 ?_
  refine go_aload_n dL_law_849 rfl 0 rfl ?_
  refine go_iload_n dL_law_850 rfl 3 rfl ?_
  refine go_iconst (v := Int32.ofInt 3) dL_law_851 rfl ?_
  refine go_addI dL_law_852 ?_
  refine go_sldS (z := i + 3) (by omega) (by omega) hn dL_law_853 ?_
  refine go_callV (d1 := d - 1) wVL_104 kX12 hy rfl (by omega) (lm_passed (m := rl_s X9 (i + 1)) (p := rl_s X9 (i + 2)) (q := rl_s X9 (i + 3)) (by omega) (rl_sr _) (rl_sr _) (rl_sr _) H1 rfl J) rfl (Nat.le_of_ble_eq_true rfl) dL_law_854 (fun w9 σ2 hP9 => ?_)
  obtain ⟨rfl, r0, V, H2, z2⟩ := hP9
  refine go_icmp_eq (tgt := 1069) dL_law_857 (by decide) (fun _ => ?_) (fun c => absurd rfl c)
  exact kk _ (rl_fin H2 V J O z z1 z2)
set_option maxRecDepth 20000 in
theorem cs_vote {X9 : rj_X} {cb d K N : Nat} {P9 : Option Value → rj_H → Prop} {τ : rj_H} {i : Int} (hd : 40 ≤ d) (hi : 0 ≤ i) (hl : i + 4 ≤ (rl_n X9 : Int)) (hn : rl_n X9 < 2147483648) (I : rl_I X9 cb K N τ) (kk : ∀ τ2 : rj_H, rl_I X9 cb K (N + 1) τ2 → rj_Go X9 yL_law cL_law 4 (some .boolean) d P9 1069 (rl_lv X9 cb i) [] τ2) : rj_Go X9 yL_law cL_law 4 (some .boolean) d P9 862 (rl_lv X9 cb i) [] τ := by
  obtain ⟨r, H, J, O, z⟩ := I
  obtain ⟨fx, hx⟩ := H.x
  refine go_aload_n dL_law_862 rfl 1 rfl ?_
  refine go_aload_n dL_law_863 rfl 0 rfl ?_
  refine go_iload_n dL_law_864 rfl 3 rfl ?_
  refine go_iconst (v := Int32.ofInt 1) dL_law_865 rfl ?_
  refine go_addI dL_law_866 ?_
  refine go_sldS (z := i + 1) (by omega) (by omega) hn dL_law_867 ?_
  refine go_callV (d1 := d - 1) wVL_105 kX11 hx rfl (by omega) (lx_vote (x := rl_s X9 (i + 1)) (by omega) (rl_sr _) H J) rfl (Nat.le_of_ble_eq_true rfl) dL_law_868 (fun w9 σ1 hP9 => ?_)
  obtain ⟨rfl, H1, z1⟩ := hP9
  obtain ⟨fy, hy⟩ := H1.y
  refine go_aload_n dL_law_871 rfl 2 rfl ?_
  refine go_aload_n dL_law_872 rfl 0 rfl ?_
  refine go_iload_n dL_law_873 rfl 3 rfl ?_
  refine go_iconst (v := Int32.ofInt 1) dL_law_874 rfl ?_
  refine go_addI dL_law_875 ?_
  refine go_sldS (z := i + 1) (by omega) (by omega) hn dL_law_876 ?_
  refine go_callV (d1 := d - 1) wVL_108 kX12 hy rfl (by omega) (lm_vote (x := rl_s X9 (i + 1)) (by omega) (rl_sr _) H1 rfl J) rfl (Nat.le_of_ble_eq_true rfl) dL_law_877 (fun w9 σ2 hP9 => ?_)
  obtain ⟨rfl, r0, V, H2, z2⟩ := hP9
  refine go_icmp_eq (tgt := 1069) dL_law_880 (by decide) (fun _ => ?_) (fun c => absurd rfl c)
  exact kk _ (rl_fin H2 V (J_vot J) O z z1 z2)
set_option maxRecDepth 20000 in
theorem cs_clear {X9 : rj_X} {cb d K N : Nat} {P9 : Option Value → rj_H → Prop} {τ : rj_H} {i : Int} (hd : 40 ≤ d) (hi : 0 ≤ i) (hl : i + 4 ≤ (rl_n X9 : Int)) (hn : rl_n X9 < 2147483648) (I : rl_I X9 cb K N τ) (kk : ∀ τ2 : rj_H, rl_I X9 cb K (N + 1) τ2 → rj_Go X9 yL_law cL_law 4 (some .boolean) d P9 1069 (rl_lv X9 cb i) [] τ2) : rj_Go X9 yL_law cL_law 4 (some .boolean) d P9 885 (rl_lv X9 cb i) [] τ := by
  obtain ⟨r, H, J, O, z⟩ := I
  obtain ⟨fx, hx⟩ := H.x
  refine go_aload_n dL_law_885 rfl 1 rfl ?_
  refine go_callV (d1 := d - 1) wVL_109 kX11 hx rfl (by omega) (lx_clear  (by omega)  H J) rfl (Nat.le_of_ble_eq_true rfl) dL_law_886 (fun w9 σ1 hP9 => ?_)
  obtain ⟨rfl, H1, z1⟩ := hP9
  obtain ⟨fy, hy⟩ := H1.y
  refine go_aload_n dL_law_889 rfl 2 rfl ?_
  refine go_callV (d1 := d - 1) wVL_112 kX12 hy rfl (by omega) (lm_clear  (by omega)  H1 rfl J) rfl (Nat.le_of_ble_eq_true rfl) dL_law_890 (fun w9 σ2 hP9 => ?_)
  obtain ⟨rfl, r0, V, H2, z2⟩ := hP9
  refine go_icmp_eq (tgt := 1069) dL_law_893 (by decide) (fun _ => ?_) (fun c => absurd rfl c)
  exact kk _ (rl_fin H2 V (J_clr J) O z z1 z2)
set_option maxRecDepth 20000 in
theorem cs_holds {X9 : rj_X} {cb d K N : Nat} {P9 : Option Value → rj_H → Prop} {τ : rj_H} {i : Int} (hd : 40 ≤ d) (hi : 0 ≤ i) (hl : i + 4 ≤ (rl_n X9 : Int)) (hn : rl_n X9 < 2147483648) (I : rl_I X9 cb K N τ) (kk : ∀ τ2 : rj_H, rl_I X9 cb K (N + 1) τ2 → rj_Go X9 yL_law cL_law 4 (some .boolean) d P9 1069 (rl_lv X9 cb i) [] τ2) : rj_Go X9 yL_law cL_law 4 (some .boolean) d P9 898 (rl_lv X9 cb i) [] τ := by
  obtain ⟨r, H, J, O, z⟩ := I
  obtain ⟨fx, hx⟩ := H.x
  refine go_aload_n dL_law_898 rfl 1 rfl ?_
  refine go_aload_n dL_law_899 rfl 0 rfl ?_
  refine go_iload_n dL_law_900 rfl 3 rfl ?_
  refine go_iconst (v := Int32.ofInt 1) dL_law_901 rfl ?_
  refine go_addI dL_law_902 ?_
  refine go_sldS (z := i + 1) (by omega) (by omega) hn dL_law_903 ?_
  refine go_callV (d1 := d - 1) wVL_113 kX11 hx rfl (by omega) (lx_holds (w := rl_s X9 (i + 1)) (by omega) (rl_sr _) H J) rfl (Nat.le_of_ble_eq_true rfl) dL_law_904 (fun w9 σ1 hP9 => ?_)
  obtain ⟨rfl, H1, z1⟩ := hP9
  obtain ⟨fy, hy⟩ := H1.y
  refine go_aload_n dL_law_907 rfl 2 rfl ?_
  refine go_aload_n dL_law_908 rfl 0 rfl ?_
  refine go_iload_n dL_law_909 rfl 3 rfl ?_
  refine go_iconst (v := Int32.ofInt 1) dL_law_910 rfl ?_
  refine go_addI dL_law_911 ?_
  refine go_sldS (z := i + 1) (by omega) (by omega) hn dL_law_912 ?_
  refine go_callV (d1 := d - 1) wVL_116 kX12 hy rfl (by omega) (lm_holds (w := rl_s X9 (i + 1)) (by omega) (rl_sr _) H1 rfl J) rfl (Nat.le_of_ble_eq_true rfl) dL_law_913 (fun w9 σ2 hP9 => ?_)
  obtain ⟨rfl, r0, V, H2, z2⟩ := hP9
  refine go_icmp_eq (tgt := 1069) dL_law_916 (by decide) (fun _ => ?_) (fun c => absurd rfl c)
  exact kk _ (rl_fin H2 V J O z z1 z2)
set_option maxRecDepth 20000 in
theorem cs_act {X9 : rj_X} {cb d K N : Nat} {P9 : Option Value → rj_H → Prop} {τ : rj_H} {i : Int} (hd : 40 ≤ d) (hi : 0 ≤ i) (hl : i + 4 ≤ (rl_n X9 : Int)) (hn : rl_n X9 < 2147483648) (I : rl_I X9 cb K N τ) (kk : ∀ τ2 : rj_H, rl_I X9 cb K (N + 1) τ2 → rj_Go X9 yL_law cL_law 4 (some .boolean) d P9 1069 (rl_lv X9 cb i) [] τ2) : rj_Go X9 yL_law cL_law 4 (some .boolean) d P9 921 (rl_lv X9 cb i) [] τ := by
  obtain ⟨r, H, J, O, z⟩ := I
  obtain ⟨fx, hx⟩ := H.x
  refine go_aload_n dL_law_921 rfl 1 rfl ?_
  refine go_aload_n dL_law_922 rfl 0 rfl ?_
  refine go_iload_n dL_law_923 rfl 3 rfl ?_
  refine go_iconst (v := Int32.ofInt 1) dL_law_924 rfl ?_
  refine go_addI dL_law_925 ?_
  refine go_sldS (z := i + 1) (by omega) (by omega) hn dL_law_926 ?_
  refine go_aload_n dL_law_927 rfl 0 rfl ?_
  refine go_iload_n dL_law_928 rfl 3 rfl ?_
  refine go_iconst (v := Int32.ofInt 2) dL_law_929 rfl ?_
  refine go_addI dL_law_930 ?_
  refine go_sldS (z := i + 2) (by omega) (by omega) hn dL_law_931 ?_
  refine go_aload_n dL_law_932 rfl 0 rfl ?_
  refine go_iload_n dL_law_933 rfl 3 rfl ?_
  refine go_iconst (v := Int32.ofInt 3) dL_law_934 rfl ?_
  refine go_addI dL_law_935 ?_
  refine go_sldS (z := i + 3) (by omega) (by omega) hn dL_law_936 ?_
  refine go_callV (d1 := d - 1) wVL_117 kX11 hx rfl (by omega) (lx_act (m := rl_s X9 (i + 1)) (a := rl_s X9 (i + 2)) (x := rl_s X9 (i + 3)) (by omega) (rl_sr _) (rl_sr _) (rl_sr _) H J) rfl (Nat.le_of_ble_eq_true rfl) dL_law_937 (fun w9 σ1 hP9 => ?_)
  obtain ⟨rfl, H1, z1⟩ := hP9
  obtain ⟨fy, hy⟩ := H1.y
  refine go_aload_n dL_law_940 rfl 2 rfl ?_
  refine go_aload_n dL_law_941 rfl 0 rfl ?_
  refine go_iload_n dL_law_942 rfl 3 rfl ?_
  refine go_iconst (v := Int32.ofInt 1) dL_law_943 rfl ?_
  refine go_addI dL_law_944 ?_
  refine go_sldS (z := i + 1) (by omega) (by omega) hn dL_law_945 ?_
  refine go_aload_n dL_law_946 rfl 0 rfl ?_
  refine go_iload_n dL_law_947 rfl 3 rfl ?_
  refine go_iconst (v := Int32.ofInt 2) dL_law_948 rfl ?_
  refine go_addI dL_law_949 ?_
  refine go_sldS (z := i + 2) (by omega) (by omega) hn dL_law_950 ?_
  refine go_aload_n dL_law_951 rfl 0 rfl ?_
  refine go_iload_n dL_law_952 rfl 3 rfl ?_
  refine go_iconst (v := Int32.ofInt 3) dL_law_953 rfl ?_
  refine go_addI dL_law_954 ?_
  refine go_sldS (z := i + 3) (by omega) (by omega) hn dL_law_955 ?_
  refine go_callV (d1 := d - 1) wVL_120 kX12 hy rfl (by omega) (lm_act (m := rl_s X9 (i + 1)) (a := rl_s X9 (i + 2)) (x := rl_s X9 (i + 3)) (by omega) (rl_sr _) (rl_sr _) (rl_sr _) H1 rfl J) rfl (Nat.le_of_ble_eq_true rfl) dL_law_956 (fun w9 σ2 hP9 => ?_)
  obtain ⟨rfl, r0, V, H2, z2⟩ := hP9
  refine go_icmp_eq (tgt := 1069) dL_law_959 (by decide) (fun _ => ?_) (fun c => absurd rfl c)
  exact kk _ (rl_fin H2 V J ⟨O.1, O.2.1, O.2.2.1, sp_act_n⟩ z z1 z2)
set_option maxRecDepth 20000 in
theorem cs_trace {X9 : rj_X} {cb d K N : Nat} {P9 : Option Value → rj_H → Prop} {τ : rj_H} {i : Int} (hd : 40 ≤ d) (hi : 0 ≤ i) (hl : i + 4 ≤ (rl_n X9 : Int)) (hn : rl_n X9 < 2147483648) (I : rl_I X9 cb K N τ) (kk : ∀ τ2 : rj_H, rl_I X9 cb K (N + 1) τ2 → rj_Go X9 yL_law cL_law 4 (some .boolean) d P9 1069 (rl_lv X9 cb i) [] τ2) : rj_Go X9 yL_law cL_law 4 (some .boolean) d P9 964 (rl_lv X9 cb i) [] τ := by
  obtain ⟨r, H, J, O, z⟩ := I
  obtain ⟨fx, hx⟩ := H.x
  refine go_aload_n dL_law_964 rfl 1 rfl ?_
  refine go_aload_n dL_law_965 rfl 0 rfl ?_
  refine go_iload_n dL_law_966 rfl 3 rfl ?_
  refine go_iconst (v := Int32.ofInt 1) dL_law_967 rfl ?_
  refine go_addI dL_law_968 ?_
  refine go_sldS (z := i + 1) (by omega) (by omega) hn dL_law_969 ?_
  refine go_callV (d1 := d - 1) wVL_121 kX11 hx rfl (by omega) (lx_trace (i := rl_s X9 (i + 1)) (by omega) (rl_sr _) O.2.2.2 H J) rfl (Nat.le_of_ble_eq_true rfl) dL_law_970 (fun w9 σ1 hP9 => ?_)
  obtain ⟨rfl, H1, z1⟩ := hP9
  obtain ⟨fy, hy⟩ := H1.y
  refine go_aload_n dL_law_973 rfl 2 rfl ?_
  refine go_aload_n dL_law_974 rfl 0 rfl ?_
  refine go_iload_n dL_law_975 rfl 3 rfl ?_
  refine go_iconst (v := Int32.ofInt 1) dL_law_976 rfl ?_
  refine go_addI dL_law_977 ?_
  refine go_sldS (z := i + 1) (by omega) (by omega) hn dL_law_978 ?_
  refine go_callV (d1 := d - 1) wVL_124 kX12 hy rfl (by omega) (lm_trace (i := rl_s X9 (i + 1)) (by omega) (rl_sr _) O.2.2.2 H1 rfl J) rfl (Nat.le_of_ble_eq_true rfl) dL_law_979 (fun w9 σ2 hP9 => ?_)
  obtain ⟨rfl, r0, V, H2, z2⟩ := hP9
  refine go_icmp_eq (tgt := 1069) dL_law_982 (by decide) (fun _ => ?_) (fun c => absurd rfl c)
  exact kk _ (rl_fin H2 V J O z z1 z2)
set_option maxRecDepth 20000 in
theorem cs_as {X9 : rj_X} {cb d K N : Nat} {P9 : Option Value → rj_H → Prop} {τ : rj_H} {i : Int} (hd : 40 ≤ d) (hi : 0 ≤ i) (hl : i + 4 ≤ (rl_n X9 : Int)) (hn : rl_n X9 < 2147483648) (I : rl_I X9 cb K N τ) (kk : ∀ τ2 : rj_H, rl_I X9 cb K (N + 1) τ2 → rj_Go X9 yL_law cL_law 4 (some .boolean) d P9 1069 (rl_lv X9 cb i) [] τ2) : rj_Go X9 yL_law cL_law 4 (some .boolean) d P9 987 (rl_lv X9 cb i) [] τ := by
  obtain ⟨r, H, J, O, z⟩ := I
  obtain ⟨fx, hx⟩ := H.x
  refine go_aload_n dL_law_987 rfl 1 rfl ?_
  refine go_aload_n dL_law_988 rfl 0 rfl ?_
  refine go_iload_n dL_law_989 rfl 3 rfl ?_
  refine go_iconst (v := Int32.ofInt 1) dL_law_990 rfl ?_
  refine go_addI dL_law_991 ?_
  refine go_sldS (z := i + 1) (by omega) (by omega) hn dL_law_992 ?_
  refine go_aload_n dL_law_993 rfl 0 rfl ?_
  refine go_iload_n dL_law_994 rfl 3 rfl ?_
  refine go_iconst (v := Int32.ofInt 2) dL_law_995 rfl ?_
  refine go_addI dL_law_996 ?_
  refine go_sldS (z := i + 2) (by omega) (by omega) hn dL_law_997 ?_
  refine go_callV (d1 := d - 1) wVL_125 kX11 hx rfl (by omega) (lx_as (m := rl_s X9 (i + 1)) (k := rl_s X9 (i + 2)) (by omega) (rl_sr _) (rl_sr _) H J) rfl (Nat.le_of_ble_eq_true rfl) dL_law_998 (fun w9 σ1 hP9 => ?_)
  obtain ⟨rfl, H1, z1⟩ := hP9
  obtain ⟨fy, hy⟩ := H1.y
  refine go_aload_n dL_law_1001 rfl 2 rfl ?_
  refine go_aload_n dL_law_1002 rfl 0 rfl ?_
  refine go_iload_n dL_law_1003 rfl 3 rfl ?_
  refine go_iconst (v := Int32.ofInt 1) dL_law_1004 rfl ?_
  refine go_addI dL_law_1005 ?_
  refine go_sldS (z := i + 1) (by omega) (by omega) hn dL_law_1006 ?_
  refine go_aload_n dL_law_1007 rfl 0 rfl ?_
  refine go_iload_n dL_law_1008 rfl 3 rfl ?_
  refine go_iconst (v := Int32.ofInt 2) dL_law_1009 rfl ?_
  refine go_addI dL_law_1010 ?_
  refine go_sldS (z := i + 2) (by omega) (by omega) hn dL_law_1011 ?_
  refine go_callV (d1 := d - 1) wVL_128 kX12 hy rfl (by omega) (lm_as (m := rl_s X9 (i + 1)) (k := rl_s X9 (i + 2)) (by omega) (rl_sr _) (rl_sr _) H1 rfl J) rfl (Nat.le_of_ble_eq_true rfl) dL_law_1012 (fun w9 σ2 hP9 => ?_)
  obtain ⟨rfl, r0, V, H2, z2⟩ := hP9
  refine go_icmp_eq (tgt := 1069) dL_law_1015 (by decide) (fun _ => ?_) (fun c => absurd rfl c)
  exact kk _ (rl_fin H2 V J O z z1 z2)
set_option maxRecDepth 20000 in
theorem cs_image {X9 : rj_X} {cb d K N : Nat} {P9 : Option Value → rj_H → Prop} {τ : rj_H} {i : Int} (hd : 40 ≤ d) (hi : 0 ≤ i) (hl : i + 4 ≤ (rl_n X9 : Int)) (hn : rl_n X9 < 2147483648) (I : rl_I X9 cb K N τ) (kk : ∀ τ2 : rj_H, rl_I X9 cb K (N + 1) τ2 → rj_Go X9 yL_law cL_law 4 (some .boolean) d P9 1069 (rl_lv X9 cb i) [] τ2) : rj_Go X9 yL_law cL_law 4 (some .boolean) d P9 1020 (rl_lv X9 cb i) [] τ := by
  obtain ⟨r, H, J, O, z⟩ := I
  obtain ⟨fx, hx⟩ := H.x
  refine go_aload_n dL_law_1020 rfl 1 rfl ?_
  refine go_callV (d1 := d - 1) wVL_129 kX11 hx rfl (by omega) (lx_image  (by omega)  H J) rfl (Nat.le_of_ble_eq_true rfl) dL_law_1021 (fun w9 σ1 hP9 => ?_)
  obtain ⟨rfl, H1, z1⟩ := hP9
  obtain ⟨fy, hy⟩ := H1.y
  refine go_aload_n dL_law_1024 rfl 2 rfl ?_
  refine go_callV (d1 := d - 1) wVL_132 kX12 hy rfl (by omega) (lm_image (by omega) H1 rfl J O.1) rfl (Nat.le_of_ble_eq_true rfl) dL_law_1025 (fun w9 σ2 hP9 => ?_)
  obtain ⟨rfl, r0, V, H2, z2⟩ := hP9
  refine go_icmp_eq (tgt := 1069) dL_law_1028 (by decide) (fun _ => ?_) (fun c => absurd rfl c)
  exact kk _ (rl_fin H2 V J ⟨J.2.2.2.2.2.2, Or.inr rfl, fun _ => J, O.2.2.2⟩ z z1 z2)
set_option maxRecDepth 20000 in
theorem cs_undo {X9 : rj_X} {cb d K N : Nat} {P9 : Option Value → rj_H → Prop} {τ : rj_H} {i : Int} (hd : 40 ≤ d) (hi : 0 ≤ i) (hl : i + 4 ≤ (rl_n X9 : Int)) (hn : rl_n X9 < 2147483648) (I : rl_I X9 cb K N τ) (kk : ∀ τ2 : rj_H, rl_I X9 cb K (N + 1) τ2 → rj_Go X9 yL_law cL_law 4 (some .boolean) d P9 1069 (rl_lv X9 cb i) [] τ2) : rj_Go X9 yL_law cL_law 4 (some .boolean) d P9 1033 (rl_lv X9 cb i) [] τ := by
  obtain ⟨r, H, J, O, z⟩ := I
  obtain ⟨fx, hx⟩ := H.x
  refine go_aload_n dL_law_1033 rfl 1 rfl ?_
  refine go_callV (d1 := d - 1) wVL_133 kX11 hx rfl (by omega) (lx_undo  (by omega)  H J O.2.1 O.2.2.1) rfl (Nat.le_of_ble_eq_true rfl) dL_law_1034 (fun w9 σ1 hP9 => ?_)
  obtain ⟨rfl, H1, z1⟩ := hP9
  obtain ⟨fy, hy⟩ := H1.y
  refine go_aload_n dL_law_1037 rfl 2 rfl ?_
  refine go_callV (d1 := d - 1) wVL_136 kX12 hy rfl (by omega) (lm_undo (by omega) H1 rfl J O.1 O.2.1) rfl (Nat.le_of_ble_eq_true rfl) dL_law_1038 (fun w9 σ2 hP9 => ?_)
  obtain ⟨rfl, r0, V, H2, z2⟩ := hP9
  refine go_icmp_eq (tgt := 1069) dL_law_1041 (by decide) (fun _ => ?_) (fun c => absurd rfl c)
  refine kk _ (rl_fin H2 V ?_ O z z1 z2)
  split
  · exact J
  · exact O.2.2.1 (by have := O.2.1; omega)
set_option maxRecDepth 20000 in
theorem cs_count {X9 : rj_X} {cb d K N : Nat} {P9 : Option Value → rj_H → Prop} {τ : rj_H} {i : Int} (hd : 40 ≤ d) (hi : 0 ≤ i) (hl : i + 4 ≤ (rl_n X9 : Int)) (hn : rl_n X9 < 2147483648) (I : rl_I X9 cb K N τ) (kk : ∀ τ2 : rj_H, rl_I X9 cb K (N + 1) τ2 → rj_Go X9 yL_law cL_law 4 (some .boolean) d P9 1069 (rl_lv X9 cb i) [] τ2) : rj_Go X9 yL_law cL_law 4 (some .boolean) d P9 1046 (rl_lv X9 cb i) [] τ := by
  obtain ⟨r, H, J, O, z⟩ := I
  obtain ⟨fx, hx⟩ := H.x
  refine go_aload_n dL_law_1046 rfl 1 rfl ?_
  refine go_aload_n dL_law_1047 rfl 0 rfl ?_
  refine go_iload_n dL_law_1048 rfl 3 rfl ?_
  refine go_iconst (v := Int32.ofInt 1) dL_law_1049 rfl ?_
  refine go_addI dL_law_1050 ?_
  refine go_sldS (z := i + 1) (by omega) (by omega) hn dL_law_1051 ?_
  refine go_callV (d1 := d - 1) wVL_137 kX11 hx rfl (by omega) (lx_count (w := rl_s X9 (i + 1)) (by omega) (rl_sr _) H J) rfl (Nat.le_of_ble_eq_true rfl) dL_law_1052 (fun w9 σ1 hP9 => ?_)
  obtain ⟨rfl, H1, z1⟩ := hP9
  obtain ⟨fy, hy⟩ := H1.y
  refine go_aload_n dL_law_1055 rfl 2 rfl ?_
  refine go_aload_n dL_law_1056 rfl 0 rfl ?_
  refine go_iload_n dL_law_1057 rfl 3 rfl ?_
  refine go_iconst (v := Int32.ofInt 1) dL_law_1058 rfl ?_
  refine go_addI dL_law_1059 ?_
  refine go_sldS (z := i + 1) (by omega) (by omega) hn dL_law_1060 ?_
  refine go_callV (d1 := d - 1) wVL_140 kX12 hy rfl (by omega) (lm_count (w := rl_s X9 (i + 1)) (by omega) (rl_sr _) H1 rfl J) rfl (Nat.le_of_ble_eq_true rfl) dL_law_1061 (fun w9 σ2 hP9 => ?_)
  obtain ⟨rfl, r0, V, H2, z2⟩ := hP9
  refine go_icmp_eq (tgt := 1069) dL_law_1064 (by decide) (fun _ => ?_) (fun c => absurd rfl c)
  exact kk _ (rl_fin H2 V J O z z1 z2)
set_option maxRecDepth 20000 in
set_option maxHeartbeats 1000000 in
theorem L_loop {X9 : rj_X} {cb d K : Nat} {P9 : Option Value → rj_H → Prop} (hd : 40 ≤ d) (hn2 : rl_n X9 ≤ 256) (hP : ∀ (N : Nat) (τ : rj_H), 4 * N ≤ rl_n X9 → rl_I X9 cb K N τ → P9 (some (rj_i 1)) τ) : ∀ (n N : Nat) (τ : rj_H), rl_n X9 ≤ 4 * N + 4 * n → 4 * N ≤ rl_n X9 → rl_I X9 cb K N τ → rj_Go X9 yL_law cL_law 4 (some .boolean) d P9 18 (rl_lv X9 cb (4 * (N : Int))) [] τ := by
  have hn : rl_n X9 < 2147483648 := by omega
  intro n
  induction n with
  | zero =>
    intro N τ h1 h2 I
    refine go_iload_n dL_law_18 rfl 3 rfl ?_
    refine go_aload_n dL_law_19 rfl 0 rfl ?_
    refine go_slenS hn dL_law_20 ?_
    refine go_iconst (v := Int32.ofInt 4) dL_law_21 rfl ?_
    refine go_subI dL_law_22 ?_
    refine go_icmp_gtI (tgt := 1075) (by omega) (by omega) dL_law_23 (by decide) (fun c => ?_) (fun c => absurd c (by omega))
    refine go_iconst (v := Int32.ofInt 1) dL_law_1075 rfl ?_
    exact go_retI rfl rfl (hP N τ h2 I) dL_law_1076
  | succ n ih =>
    intro N τ h1 h2 I
    refine go_iload_n dL_law_18 rfl 3 rfl ?_
    refine go_aload_n dL_law_19 rfl 0 rfl ?_
    refine go_slenS hn dL_law_20 ?_
    refine go_iconst (v := Int32.ofInt 4) dL_law_21 rfl ?_
    refine go_subI dL_law_22 ?_
    refine go_icmp_gtI (tgt := 1075) (by omega) (by omega) dL_law_23 (by decide) (fun c => ?_) (fun c => ?_)
    · refine go_iconst (v := Int32.ofInt 1) dL_law_1075 rfl ?_
      exact go_retI rfl rfl (hP N τ h2 I) dL_law_1076
    · have next : ∀ τ2 : rj_H, rl_I X9 cb K (N + 1) τ2 → rj_Go X9 yL_law cL_law 4 (some .boolean) d P9 1069 (rl_lv X9 cb (4 * (N : Int))) [] τ2 := fun τ2 I2 => by
        refine go_iincI (a := 4 * (N : Int)) (n := 4) (k0 := 3) (lv' := rl_lv X9 cb (4 * (N : Int) + 4)) rfl (by decide) rfl dL_law_1069 ?_
        refine go_goto (tgt := 18) dL_law_1072 (by decide) ?_
        have := ih (N + 1) τ2 (by omega) (by omega) I2
        rw [show 4 * ((N + 1 : Nat) : Int) = 4 * (N : Int) + 4 by omega] at this
        exact this
      refine go_aload_n dL_law_26 rfl 0 rfl ?_
      refine go_iload_n dL_law_27 rfl 3 rfl ?_
      refine go_sldS (z := 4 * (N : Int)) (by omega) (by omega) hn dL_law_28 ?_
      refine go_bipush (v := Int32.ofInt 31) dL_law_29 (by decide) ?_
      refine go_and31 dL_law_31 (fun k hk => ?_)
      match k, hk with
      | 0, _ => exact go_tableIn (off := 136) (tgt := 168) dL_law_32 (by decide) (by decide) (by decide) (by decide) (cs_mirror hd (by omega) (by omega) hn I next)
      | 1, _ => exact go_tableIn (off := 179) (tgt := 211) dL_law_32 (by decide) (by decide) (by decide) (by decide) (cs_patch hd (by omega) (by omega) hn I next)
      | 2, _ => exact go_tableIn (off := 222) (tgt := 254) dL_law_32 (by decide) (by decide) (by decide) (by decide) (cs_wall hd (by omega) (by omega) hn I next)
      | 3, _ => exact go_tableIn (off := 265) (tgt := 297) dL_law_32 (by decide) (by decide) (by decide) (by decide) (cs_of hd (by omega) (by omega) hn I next)
      | 4, _ => exact go_tableIn (off := 298) (tgt := 330) dL_law_32 (by decide) (by decide) (by decide) (by decide) (cs_is hd (by omega) (by omega) hn I next)
      | 5, _ => exact go_tableIn (off := 331) (tgt := 363) dL_law_32 (by decide) (by decide) (by decide) (by decide) (cs_feed hd (by omega) (by omega) hn I next)
      | 6, _ => exact go_tableIn (off := 394) (tgt := 426) dL_law_32 (by decide) (by decide) (by decide) (by decide) (cs_valley hd (by omega) (by omega) hn I next)
      | 7, _ => exact go_tableIn (off := 407) (tgt := 439) dL_law_32 (by decide) (by decide) (by decide) (by decide) (cs_free hd (by omega) (by omega) hn I next)
      | 8, _ => exact go_tableIn (off := 440) (tgt := 472) dL_law_32 (by decide) (by decide) (by decide) (by decide) (cs_can hd (by omega) (by omega) hn I next)
      | 9, _ => exact go_tableIn (off := 483) (tgt := 515) dL_law_32 (by decide) (by decide) (by decide) (by decide) (cs_plan hd (by omega) (by omega) hn I next)
      | 10, _ => exact go_tableIn (off := 526) (tgt := 558) dL_law_32 (by decide) (by decide) (by decide) (by decide) (cs_judged hd (by omega) (by omega) hn I next)
      | 11, _ => exact go_tableIn (off := 539) (tgt := 571) dL_law_32 (by decide) (by decide) (by decide) (by decide) (cs_has hd (by omega) (by omega) hn I next)
      | 12, _ => exact go_tableIn (off := 572) (tgt := 604) dL_law_32 (by decide) (by decide) (by decide) (by decide) (cs_worth hd (by omega) (by omega) hn I next)
      | 13, _ => exact go_tableIn (off := 595) (tgt := 627) dL_law_32 (by decide) (by decide) (by decide) (by decide) (cs_best hd (by omega) (by omega) hn I next)
      | 14, _ => exact go_tableIn (off := 628) (tgt := 660) dL_law_32 (by decide) (by decide) (by decide) (by decide) (cs_fair hd (by omega) (by omega) hn I next)
      | 15, _ => exact go_tableIn (off := 651) (tgt := 683) dL_law_32 (by decide) (by decide) (by decide) (by decide) (cs_take hd (by omega) (by omega) hn I next)
      | 16, _ => exact go_tableIn (off := 684) (tgt := 716) dL_law_32 (by decide) (by decide) (by decide) (by decide) (cs_coarse hd (by omega) (by omega) hn I next)
      | 17, _ => exact go_tableIn (off := 707) (tgt := 739) dL_law_32 (by decide) (by decide) (by decide) (by decide) (cs_kept hd (by omega) (by omega) hn I next)
      | 18, _ => exact go_tableIn (off := 751) (tgt := 783) dL_law_32 (by decide) (by decide) (by decide) (by decide) (cs_gone hd (by omega) (by omega) hn I next)
      | 19, _ => exact go_tableIn (off := 774) (tgt := 806) dL_law_32 (by decide) (by decide) (by decide) (by decide) (cs_day hd (by omega) (by omega) hn I next)
      | 20, _ => exact go_tableIn (off := 787) (tgt := 819) dL_law_32 (by decide) (by decide) (by decide) (by decide) (cs_passed hd (by omega) (by omega) hn I next)
      | 21, _ => exact go_tableIn (off := 830) (tgt := 862) dL_law_32 (by decide) (by decide) (by decide) (by decide) (cs_vote hd (by omega) (by omega) hn I next)
      | 22, _ => exact go_tableIn (off := 853) (tgt := 885) dL_law_32 (by decide) (by decide) (by decide) (by decide) (cs_clear hd (by omega) (by omega) hn I next)
      | 23, _ => exact go_tableIn (off := 866) (tgt := 898) dL_law_32 (by decide) (by decide) (by decide) (by decide) (cs_holds hd (by omega) (by omega) hn I next)
      | 24, _ => exact go_tableIn (off := 889) (tgt := 921) dL_law_32 (by decide) (by decide) (by decide) (by decide) (cs_act hd (by omega) (by omega) hn I next)
      | 25, _ => exact go_tableIn (off := 932) (tgt := 964) dL_law_32 (by decide) (by decide) (by decide) (by decide) (cs_trace hd (by omega) (by omega) hn I next)
      | 26, _ => exact go_tableIn (off := 955) (tgt := 987) dL_law_32 (by decide) (by decide) (by decide) (by decide) (cs_as hd (by omega) (by omega) hn I next)
      | 27, _ => exact go_tableIn (off := 988) (tgt := 1020) dL_law_32 (by decide) (by decide) (by decide) (by decide) (cs_image hd (by omega) (by omega) hn I next)
      | 28, _ => exact go_tableIn (off := 1001) (tgt := 1033) dL_law_32 (by decide) (by decide) (by decide) (by decide) (cs_undo hd (by omega) (by omega) hn I next)
      | 29, _ => exact go_tableIn (off := 1014) (tgt := 1046) dL_law_32 (by decide) (by decide) (by decide) (by decide) (cs_count hd (by omega) (by omega) hn I next)
      | 30, _ => exact go_tableOut (tgt := 1069) dL_law_32 (by decide) (by decide) (next _ I.up)
      | 31, _ => exact go_tableOut (tgt := 1069) dL_law_32 (by decide) (by decide) (next _ I.up)
      | k + 32, h => exact absurd h (by omega)
