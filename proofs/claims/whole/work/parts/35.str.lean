/-! STRING CONSTANTS: length, charAt -/
section STR
variable {X9 : rj_X} {y9 : MethodName} {cc : ByteArray} {nL : Nat} {rt9 : Option FieldType} {d9 : Nat} {v9 : Option Value} {τ9 : rj_H} {P9 : Option Value → rj_H → Prop} {pc : Nat} {lv : List (Nat × Value)} {rest : List Value} {σ : rj_H}
/-- String constant i, and its bytes -/
def rj_sk (X9 : rj_X) (i : Nat) : Nat := X9.2.2.2.2.2.1 i
def rj_sv (X9 : rj_X) (i : Nat) : Nat := X9.2.2.2.2.2.2 i
def rj_sl (i : Nat) : Nat := rj_len.getD i 0
def rj_sc (i : Nat) (k : Nat) : Int := ((rj_byt.getD i []).getD k 0).toInt
theorem rj_sc_b : ∀ i : Nat, i < 7 → (rj_sl i < 128) ∧ ∀ k : Nat, k < 8 → 0 ≤ rj_sc i k ∧ rj_sc i k < 128 := by decide +kernel
theorem rj_sco {i idx : Nat} (hi : i < 7) (hw : Cond.fieldLink y9.cls idx "java/lang/String" "coder" "B" ∈ rj_tbl) (hdg : decode cc pc = .ok (.getfield idx, 3)) (kk : rj_Run X9 y9 cc nL rt9 d9 v9 τ9 (pc + 3) lv (rj_i 0 :: rest) σ) : rj_Run X9 y9 cc nL rt9 d9 v9 τ9 pc lv (.ref (rj_sk X9 i) :: rest) σ := by
  intro p e R s m args below meth c H locs cells slots ls Q hC
  exact vk_getf hC.1 hC.2.1 (hC.K.2.2.2.2.1.1 i hi).2.1 hC.S hC.own (hC.ts _ hw) (fun x h => h) hdg (kk p e R s m args below meth c H locs cells slots ls Q hC)
theorem rj_sva {i idx : Nat} (hi : i < 7) (hw : Cond.fieldLink y9.cls idx "java/lang/String" "value" "[B" ∈ rj_tbl) (hdg : decode cc pc = .ok (.getfield idx, 3)) (kk : rj_Run X9 y9 cc nL rt9 d9 v9 τ9 (pc + 3) lv (.ref (rj_sv X9 i) :: rest) σ) : rj_Run X9 y9 cc nL rt9 d9 v9 τ9 pc lv (.ref (rj_sk X9 i) :: rest) σ := by
  intro p e R s m args below meth c H locs cells slots ls Q hC
  exact vk_getf hC.1 hC.2.1 (hC.K.2.2.2.2.1.1 i hi).2.2.1 hC.S hC.own (hC.ts _ hw) (fun x h => h) hdg (kk p e R s m args below meth c H locs cells slots ls Q hC)
theorem rj_sle {i : Nat} (hi : i < 7) (hdg : decode cc pc = .ok (.arraylength, 1)) (kk : rj_Run X9 y9 cc nL rt9 d9 v9 τ9 (pc + 1) lv (rj_i (rj_sl i) :: rest) σ) : rj_Run X9 y9 cc nL rt9 d9 v9 τ9 pc lv (.ref (rj_sv X9 i) :: rest) σ := by
  intro p e R s m args below meth c H locs cells slots ls Q hC
  refine va_tlen hC.1 hC.2.1 (hC.K.2.2.2.2.1.1 i hi).2.2.2 hC.S (v := Int32.ofInt (rj_sl i)) (rj_nI _) hdg (kk p e R s m args below meth c H locs cells slots ls Q hC)
theorem rj_sby {i k : Nat} (hi : i < 7) (hk : k < rj_sl i) (hdg : decode cc pc = .ok (.baload, 1)) (kk : rj_Run X9 y9 cc nL rt9 d9 v9 τ9 (pc + 1) lv (rj_i (rj_sc i k) :: rest) σ) : rj_Run X9 y9 cc nL rt9 d9 v9 τ9 pc lv (rj_i k :: .ref (rj_sv X9 i) :: rest) σ := by
  intro p e R s m args below meth c H locs cells slots ls Q hC
  have hl := (rj_sc_b i hi).1
  refine va_tb hC.1 hC.2.1 (hC.K.2.2.2.2.1.1 i hi).2.2.2 hC.S (rj_vin (z := (k : Int)) (by omega) (by have : rj_sl i = rj_len.getD i 0 := rfl; omega) (by have : rj_sl i = rj_len.getD i 0 := rfl; omega)) (v := rj_i (rj_sc i k)) ?_ hdg (kk p e R s m args below meth c H locs cells slots ls Q hC)
  rw [(rj_cl32 (z := (k : Int)) (by omega) (by omega)).1]
  unfold rj_i rj_sc
  rw [Int32.ofInt_toInt]
  rfl
theorem rj_gsz {idx : Nat} (hw : Cond.fieldLink y9.cls idx "java/lang/String" "COMPACT_STRINGS" "Z" ∈ rj_tbl) (hdg : decode cc pc = .ok (.getstatic idx, 3)) (kk : rj_Run X9 y9 cc nL rt9 d9 v9 τ9 (pc + 3) lv (rj_i 1 :: rest) σ) : rj_Run X9 y9 cc nL rt9 d9 v9 τ9 pc lv rest σ := by
  intro p e R s m args below meth c H locs cells slots ls Q hC
  exact va_gets hC.1 hC.2.1 hC.K.2.2.2.2.2.2.2.1 hC.S hC.own (hC.ts _ hw) (fun x h => h) hdg (kk p e R s m args below meth c H locs cells slots ls Q hC)
theorem rj_gsf {idx : Nat} (hw : Cond.fieldLink y9.cls idx "jdk/internal/util/Preconditions" "SIOOBE_FORMATTER" "Ljava/util/function/BiFunction;" ∈ rj_tbl) (hdg : decode cc pc = .ok (.getstatic idx, 3)) (k0 : rj_Run X9 y9 cc nL rt9 d9 v9 τ9 (pc + 3) lv (.null :: rest) σ) (k1 : ∀ a, rj_Run X9 y9 cc nL rt9 d9 v9 τ9 (pc + 3) lv (.ref a :: rest) σ) : rj_Run X9 y9 cc nL rt9 d9 v9 τ9 pc lv rest σ := by
  intro p e R s m args below meth c H locs cells slots ls Q hC
  obtain ⟨w, hw1, hw2⟩ := hC.K.2.2.2.2.2.2.2.2
  refine va_gets hC.1 hC.2.1 hw1 hC.S hC.own (hC.ts _ hw) (fun x h => h) hdg ?_
  rcases hw2 with rfl | ⟨a, rfl⟩
  · exact k0 p e R s m args below meth c H locs cells slots ls Q hC
  · exact k1 a p e R s m args below meth c H locs cells slots ls Q hC
theorem go_sco {i idx : Nat} (hi : i < 7) (hw : Cond.fieldLink y9.cls idx "java/lang/String" "coder" "B" ∈ rj_tbl) (hdg : decode cc pc = .ok (.getfield idx, 3)) (kk : rj_Go X9 y9 cc nL rt9 d9 P9 (pc + 3) lv (rj_i 0 :: rest) σ) : rj_Go X9 y9 cc nL rt9 d9 P9 pc lv (.ref (rj_sk X9 i) :: rest) σ := by
  obtain ⟨v, τ, hp, h1, h2, h⟩ := kk
  exact ⟨v, τ, hp, h1, h2, rj_sco hi hw hdg h⟩
theorem go_sva {i idx : Nat} (hi : i < 7) (hw : Cond.fieldLink y9.cls idx "java/lang/String" "value" "[B" ∈ rj_tbl) (hdg : decode cc pc = .ok (.getfield idx, 3)) (kk : rj_Go X9 y9 cc nL rt9 d9 P9 (pc + 3) lv (.ref (rj_sv X9 i) :: rest) σ) : rj_Go X9 y9 cc nL rt9 d9 P9 pc lv (.ref (rj_sk X9 i) :: rest) σ := by
  obtain ⟨v, τ, hp, h1, h2, h⟩ := kk
  exact ⟨v, τ, hp, h1, h2, rj_sva hi hw hdg h⟩
theorem go_sle {i : Nat} (hi : i < 7) (hdg : decode cc pc = .ok (.arraylength, 1)) (kk : rj_Go X9 y9 cc nL rt9 d9 P9 (pc + 1) lv (rj_i (rj_sl i) :: rest) σ) : rj_Go X9 y9 cc nL rt9 d9 P9 pc lv (.ref (rj_sv X9 i) :: rest) σ := by
  obtain ⟨v, τ, hp, h1, h2, h⟩ := kk
  exact ⟨v, τ, hp, h1, h2, rj_sle hi hdg h⟩
theorem go_sby {i k : Nat} (hi : i < 7) (hk : k < rj_sl i) (hdg : decode cc pc = .ok (.baload, 1)) (kk : rj_Go X9 y9 cc nL rt9 d9 P9 (pc + 1) lv (rj_i (rj_sc i k) :: rest) σ) : rj_Go X9 y9 cc nL rt9 d9 P9 pc lv (rj_i k :: .ref (rj_sv X9 i) :: rest) σ := by
  obtain ⟨v, τ, hp, h1, h2, h⟩ := kk
  exact ⟨v, τ, hp, h1, h2, rj_sby hi hk hdg h⟩
theorem go_gsz {idx : Nat} (hw : Cond.fieldLink y9.cls idx "java/lang/String" "COMPACT_STRINGS" "Z" ∈ rj_tbl) (hdg : decode cc pc = .ok (.getstatic idx, 3)) (kk : rj_Go X9 y9 cc nL rt9 d9 P9 (pc + 3) lv (rj_i 1 :: rest) σ) : rj_Go X9 y9 cc nL rt9 d9 P9 pc lv rest σ := by
  obtain ⟨v, τ, hp, h1, h2, h⟩ := kk
  exact ⟨v, τ, hp, h1, h2, rj_gsz hw hdg h⟩
/-- a call on a String constant -/
theorem go_callVS {Pc : Option Value → rj_H → Prop} {idx n d1 n1 i : Nat} {x : MethodName} {c1 : ByteArray} {r1 : Option FieldType} {av st : List Value} (hw : rj_wV y9.cls idx x c1 n1 r1 n) (hx : x.cls = "java/lang/String") (hi : i < 7) (hn : av.length = n) (hd : d1 + 1 ≤ d9) (hcall : rj_Cl X9 d1 x c1 n1 r1 (.ref (rj_sk X9 i) :: av) σ Pc) (hst : st = av.reverse ++ .ref (rj_sk X9 i) :: rest) (hcat : (rest.map fun v => v.category).sum ≤ 8) (hdg : decode cc pc = .ok (.invokevirtual idx, 3)) (kk : ∀ (w : Option Value) (σ1 : rj_H), Pc w σ1 → rj_Go X9 y9 cc nL rt9 d9 P9 (pc + 3) lv (w.toList ++ rest) σ1) : rj_Go X9 y9 cc nL rt9 d9 P9 pc lv st σ := by
  obtain ⟨w, σ1, hP, hc⟩ := hcall
  obtain ⟨v0, τ0, hp0, g1, g2, kk⟩ := kk w σ1 hP
  refine ⟨v0, τ0, hp0, Nat.le_trans hc.1 g1, Nat.le_trans hc.2.1 g2, ?_⟩
  intro p e R s m args below meth c H locs cells slots ls Q hC
  obtain ⟨w1, w2, w3, w4, w7, w5, w6⟩ := hw
  obtain ⟨m1, m2, hM⟩ := hc
  subst hst
  have hp := hC.pre (av := .ref (rj_sk X9 i) :: av)
  have hrv := vk_recv hC.K.2.2.2.2.1 hi hC.S
  rw [← hx] at hrv
  refine rj_after hC (va_runV (C := x.cls) (As := av) (n := n) hC.fix hM (cwV n hC.ts (rj_goodIn fun q hq => ?_) rfl rfl rfl ⟨rfl, w5⟩ (hC.fl hd w6)) ⟨hp.1, hrv, hp.2⟩ rfl hn hC.has.1 rfl (lv_room hcat) hdg (hC.room ⟨g1, g2⟩ ⟨m1, m2⟩)) ⟨m1, m2⟩ kk
  rcases List.mem_append.mp hq with h | h
  · simp only [List.mem_cons, List.not_mem_nil, or_false] at h
    rcases h with rfl | rfl | rfl | rfl <;> assumption
  · rcases List.mem_cons.mp h with rfl | h <;> assumption
end STR
theorem rj_fc0 : Cond.fieldLink RJ0 15 "java/lang/String" "coder" "B" ∈ rj_tbl := rj_inT 1449 (by decide +kernel)
theorem rj_fv0 : Cond.fieldLink RJ0 9 "java/lang/String" "value" "[B" ∈ rj_tbl := rj_inT 1448 (by decide +kernel)
theorem rj_fz0 : Cond.fieldLink RJ0 38 "java/lang/String" "COMPACT_STRINGS" "Z" ∈ rj_tbl := rj_inT 58 (by decide +kernel)
theorem rj_ff0 : Cond.fieldLink RJ0 1053 "jdk/internal/util/Preconditions" "SIOOBE_FORMATTER" "Ljava/util/function/BiFunction;" ∈ rj_tbl := rj_inT 484 (by decide +kernel)
set_option maxRecDepth 20000 in
/-- j_coder -/
theorem j_coder {X9 : rj_X} {σ : rj_H} {d : Nat} {i : Nat} (hi : i < 7) : rj_Cl X9 d yJ0_coder_7d493 cJ0_coder_7d493 1 (some .byte) [.ref (rj_sk X9 i)] σ (fun w9 τ => w9 = some (rj_i 0) ∧ τ = σ) := by
  refine go_call (by decide +kernel) (Nat.le_of_ble_eq_true rfl) ?_
  refine go_eq (pc' := 0) (lv' := [(0, .ref (rj_sk X9 i))]) (st' := []) rfl rfl rfl rfl ?_
  refine go_gsz rj_fz0 dJ0_coder_7d493_0 ?_
  refine go_if_eqI (tgt := 13) (by omega) dJ0_coder_7d493_3 (by decide) (fun c_3 => ?_) (fun c_3 => ?_)
  · exact absurd c_3 (by omega)
  · refine go_aload_n dJ0_coder_7d493_6 rfl 0 rfl ?_
    refine go_sco hi rj_fc0 dJ0_coder_7d493_7 ?_
    refine go_goto (tgt := 14) dJ0_coder_7d493_10 (by decide) ?_
    refine go_retI rfl rfl ?_ dJ0_coder_7d493_14
    exact ⟨rj_vi (rfl), rfl⟩
set_option maxRecDepth 20000 in
/-- j_lat -/
theorem j_lat {X9 : rj_X} {σ : rj_H} {d : Nat} {i : Nat} (hi : i < 7) : rj_Cl X9 d yJ0_isLatin1_aae02 cJ0_isLatin1_aae02 1 (some .boolean) [.ref (rj_sk X9 i)] σ (fun w9 τ => w9 = some (rj_i 1) ∧ τ = σ) := by
  refine go_call (by decide +kernel) (Nat.le_of_ble_eq_true rfl) ?_
  refine go_eq (pc' := 0) (lv' := [(0, .ref (rj_sk X9 i))]) (st' := []) rfl rfl rfl rfl ?_
  refine go_gsz rj_fz0 dJ0_isLatin1_aae02_0 ?_
  refine go_if_eqI (tgt := 17) (by omega) dJ0_isLatin1_aae02_3 (by decide) (fun c_3 => ?_) (fun c_3 => ?_)
  · exact absurd c_3 (by omega)
  · refine go_aload_n dJ0_isLatin1_aae02_6 rfl 0 rfl ?_
    refine go_sco hi rj_fc0 dJ0_isLatin1_aae02_7 ?_
    refine go_if_neI (tgt := 17) (by omega) dJ0_isLatin1_aae02_10 (by decide) (fun c_10 => ?_) (fun c_10 => ?_)
    · exact absurd c_10 (by omega)
    · refine go_iconst (v := Int32.ofInt 1) dJ0_isLatin1_aae02_13 rfl ?_
      refine go_goto (tgt := 18) dJ0_isLatin1_aae02_14 (by decide) ?_
      refine go_retI rfl rfl ?_ dJ0_isLatin1_aae02_18
      exact ⟨rj_vi (rfl), rfl⟩
set_option maxRecDepth 20000 in
/-- j_length -/
theorem j_length {X9 : rj_X} {σ : rj_H} {d : Nat} {i : Nat} (hi : i < 7) (hd : 1 ≤ d) : rj_Cl X9 d yJ0_length_8abf5 cJ0_length_8abf5 1 (some .int) [.ref (rj_sk X9 i)] σ (fun w9 τ => w9 = some (rj_i (rj_sl i : Int)) ∧ τ = σ) := by
  have hl := (rj_sc_b i hi).1
  refine go_call (by decide +kernel) (Nat.le_of_ble_eq_true rfl) ?_
  refine go_eq (pc' := 0) (lv' := [(0, .ref (rj_sk X9 i))]) (st' := []) rfl rfl rfl rfl ?_
  refine go_aload_n dJ0_length_8abf5_0 rfl 0 rfl ?_
  refine go_sva hi rj_fv0 dJ0_length_8abf5_1 ?_
  refine go_sle hi dJ0_length_8abf5_4 ?_
  refine go_aload_n dJ0_length_8abf5_5 rfl 0 rfl ?_
  refine go_callVS (d1 := d - 1) wVJ0_335 rfl hi rfl (by omega) (j_coder hi) rfl (Nat.le_of_ble_eq_true rfl) dJ0_length_8abf5_6 (fun w σ1 hP => ?_)
  obtain ⟨rfl, rfl⟩ := hP
  refine go_shrI (a := (rj_sl i : Int)) (b := 0) (by omega) (by omega) dJ0_length_8abf5_9 ?_
  refine go_retI rfl rfl ?_ dJ0_length_8abf5_10
  exact ⟨rj_vi (by simp), rfl⟩
set_option maxRecDepth 20000 in
/-- j_chk0 -/
theorem j_chk0 {X9 : rj_X} {σ : rj_H} {d : Nat} {z n : Int} (hz : 0 ≤ z ∧ z < n) (hn : n < 2147483648) : rj_Cl X9 d yJ3_checkIndex_8e157 cJ3_checkIndex_8e157 3 (some .int) [rj_i z, rj_i n, .null] σ (fun w9 τ => w9 = some (rj_i z) ∧ τ = σ) := by
  refine go_call (by decide +kernel) (Nat.le_of_ble_eq_true rfl) ?_
  refine go_eq (pc' := 0) (lv' := [(0, rj_i z), (1, rj_i n), (2, .null)]) (st' := []) rfl rfl rfl rfl ?_
  refine go_iload_n dJ3_checkIndex_8e157_0 rfl 0 rfl ?_
  refine go_if_ltI (tgt := 9) (by omega) dJ3_checkIndex_8e157_1 (by decide) (fun c_1 => ?_) (fun c_1 => ?_)
  · exact absurd c_1 (by omega)
  · refine go_iload_n dJ3_checkIndex_8e157_4 rfl 0 rfl ?_
    refine go_iload_n dJ3_checkIndex_8e157_5 rfl 1 rfl ?_
    refine go_icmp_ltI (tgt := 16) (by omega) (by omega) dJ3_checkIndex_8e157_6 (by decide) (fun c_6 => ?_) (fun c_6 => ?_)
    · refine go_iload_n dJ3_checkIndex_8e157_16 rfl 0 rfl ?_
      refine go_retI rfl rfl ?_ dJ3_checkIndex_8e157_17
      exact ⟨rj_vi (rfl), rfl⟩
    · exact absurd c_6 (by omega)
set_option maxRecDepth 20000 in
/-- j_chk1 -/
theorem j_chk1 {X9 : rj_X} {σ : rj_H} {d : Nat} {z n : Int} {a9 : Nat} (hz : 0 ≤ z ∧ z < n) (hn : n < 2147483648) : rj_Cl X9 d yJ3_checkIndex_8e157 cJ3_checkIndex_8e157 3 (some .int) [rj_i z, rj_i n, (.ref a9)] σ (fun w9 τ => w9 = some (rj_i z) ∧ τ = σ) := by
  refine go_call (by decide +kernel) (Nat.le_of_ble_eq_true rfl) ?_
  refine go_eq (pc' := 0) (lv' := [(0, rj_i z), (1, rj_i n), (2, (.ref a9))]) (st' := []) rfl rfl rfl rfl ?_
  refine go_iload_n dJ3_checkIndex_8e157_0 rfl 0 rfl ?_
  refine go_if_ltI (tgt := 9) (by omega) dJ3_checkIndex_8e157_1 (by decide) (fun c_1 => ?_) (fun c_1 => ?_)
  · exact absurd c_1 (by omega)
  · refine go_iload_n dJ3_checkIndex_8e157_4 rfl 0 rfl ?_
    refine go_iload_n dJ3_checkIndex_8e157_5 rfl 1 rfl ?_
    refine go_icmp_ltI (tgt := 16) (by omega) (by omega) dJ3_checkIndex_8e157_6 (by decide) (fun c_6 => ?_) (fun c_6 => ?_)
    · refine go_iload_n dJ3_checkIndex_8e157_16 rfl 0 rfl ?_
      refine go_retI rfl rfl ?_ dJ3_checkIndex_8e157_17
      exact ⟨rj_vi (rfl), rfl⟩
    · exact absurd c_6 (by omega)
theorem j_check {X9 : rj_X} {σ : rj_H} {d : Nat} {z n : Int} (hd : 1 ≤ d) (hz : 0 ≤ z ∧ z < n) (hn : n < 2147483648) : rj_Cl X9 d yJ0_checkIndex_df160 cJ0_checkIndex_df160 2 none [rj_i z, rj_i n] σ (fun w τ => w = none ∧ τ = σ) := by
  refine ⟨none, σ, ⟨rfl, rfl⟩, rj_call (by decide +kernel) (Nat.le_of_ble_eq_true rfl) ⟨Nat.le_refl _, Nat.le_refl _⟩ ?_⟩
  refine rj_eq (pc' := 0) (lv' := [(0, rj_i z), (1, rj_i n)]) (st' := []) rfl rfl rfl rfl ?_
  refine rj_iload_n dJ0_checkIndex_df160_0 rfl 0 rfl ?_
  refine rj_iload_n dJ0_checkIndex_df160_1 rfl 1 rfl ?_
  have fin : rj_Run X9 yJ0_checkIndex_df160 cJ0_checkIndex_df160 2 none d none σ 8 [(0, rj_i z), (1, rj_i n)] [rj_i z] σ := by
    refine rj_pop dJ0_checkIndex_df160_8 rfl ?_
    exact rj_retV rfl rfl rfl dJ0_checkIndex_df160_9
  refine rj_gsf rj_ff0 dJ0_checkIndex_df160_2 ?_ (fun a9 => ?_)
  · obtain ⟨w, τ, ⟨rfl, rfl⟩, h⟩ := j_chk0 (X9 := X9) (σ := σ) (d := d - 1) hz hn
    exact rj_callS (d1 := d - 1) wSJ0_1059 rfl (by omega) h ⟨Nat.le_refl _, Nat.le_refl _⟩ rfl (Nat.le_of_ble_eq_true rfl) dJ0_checkIndex_df160_5 fin
  · obtain ⟨w, τ, ⟨rfl, rfl⟩, h⟩ := j_chk1 (X9 := X9) (σ := σ) (d := d - 1) (a9 := a9) hz hn
    exact rj_callS (d1 := d - 1) wSJ0_1059 rfl (by omega) h ⟨Nat.le_refl _, Nat.le_refl _⟩ rfl (Nat.le_of_ble_eq_true rfl) dJ0_checkIndex_df160_5 fin
theorem rj_da255 : ∀ x : Nat, x < 128 → nI x &&& nI 255 = nI x := by decide +kernel
theorem rj_dc : ∀ x : Nat, x < 128 → narrow .char (.int (nI x)) = .int (nI x) := by decide +kernel
section S2
variable {X9 : rj_X} {y9 : MethodName} {cc : ByteArray} {nL : Nat} {rt9 : Option FieldType} {d9 : Nat} {P9 : Option Value → rj_H → Prop} {pc : Nat} {lv : List (Nat × Value)} {rest : List Value} {σ : rj_H} {a : Int}
theorem go_a255 (ha : 0 ≤ a ∧ a < 128) (hdg : decode cc pc = .ok (.iand, 1)) (kk : rj_Go X9 y9 cc nL rt9 d9 P9 (pc + 1) lv (rj_i a :: rest) σ) : rj_Go X9 y9 cc nL rt9 d9 P9 pc lv (rj_i 255 :: rj_i a :: rest) σ := by
  refine go_iand hdg ?_
  obtain ⟨x, rfl⟩ := Int.eq_ofNat_of_zero_le ha.1
  have h := rj_da255 x (by omega)
  rw [rj_nI, rj_nI] at h
  have e : Int32.ofInt (x : Int) &&& Int32.ofInt 255 = Int32.ofInt (x : Int) := h
  rw [e]
  exact kk
theorem rj_nch (ha : 0 ≤ a ∧ a < 128) : narrow .char (rj_i a) = rj_i a := by
  obtain ⟨x, rfl⟩ := Int.eq_ofNat_of_zero_le ha.1
  have h := rj_dc x (by omega)
  rw [rj_nI] at h
  exact h
theorem rj_di2c : ∀ x : Nat, x < 256 → ((nI x).toUInt32 % 65536).toInt32 = nI x := by decide +kernel
theorem go_i2cI (ha : 0 ≤ a ∧ a < 256) (hdg : decode cc pc = .ok (.i2c, 1)) (kk : rj_Go X9 y9 cc nL rt9 d9 P9 (pc + 1) lv (rj_i a :: rest) σ) : rj_Go X9 y9 cc nL rt9 d9 P9 pc lv (rj_i a :: rest) σ := by
  obtain ⟨x, rfl⟩ := Int.eq_ofNat_of_zero_le ha.1
  have h := rj_di2c x (by omega)
  rw [rj_nI] at h
  exact go_i2c hdg h kk
end S2
theorem rj_sl_8 : ∀ i : Nat, i < 7 → rj_sl i < 8 := by decide +kernel
set_option maxRecDepth 20000 in
/-- j_char1 -/
theorem j_char1 {X9 : rj_X} {σ : rj_H} {d : Nat} {i : Nat} (hi : i < 7) {k : Nat} (hk : k < rj_sl i) (hd : 2 ≤ d) : rj_Cl X9 d yJ1_charAt_3b067 cJ1_charAt_3b067 2 (some .char) [.ref (rj_sv X9 i), rj_i (k : Int)] σ (fun w9 τ => w9 = some (rj_i (rj_sc i k)) ∧ τ = σ) := by
  have hl := (rj_sc_b i hi).1
  have hb2 := (rj_sc_b i hi).2 k (by have h8 : rj_sl i < 8 := rj_sl_8 i hi; omega)
  refine go_call (by decide +kernel) (Nat.le_of_ble_eq_true rfl) ?_
  refine go_eq (pc' := 0) (lv' := [(0, .ref (rj_sv X9 i)), (1, rj_i (k : Int))]) (st' := []) rfl rfl rfl rfl ?_
  refine go_iload_n dJ1_charAt_3b067_0 rfl 1 rfl ?_
  refine go_aload_n dJ1_charAt_3b067_1 rfl 0 rfl ?_
  refine go_sle hi dJ1_charAt_3b067_2 ?_
  refine go_callS (d1 := d - 1) wSJ1_9 rfl (by omega) (j_check (z := (k : Int)) (n := (rj_sl i : Int)) (by omega) (by omega) (by omega)) rfl (Nat.le_of_ble_eq_true rfl) dJ1_charAt_3b067_3 (fun w σ1 hP => ?_)
  obtain ⟨rfl, rfl⟩ := hP
  refine go_aload_n dJ1_charAt_3b067_6 rfl 0 rfl ?_
  refine go_iload_n dJ1_charAt_3b067_7 rfl 1 rfl ?_
  refine go_sby hi hk dJ1_charAt_3b067_8 ?_
  refine go_sipush (v := Int32.ofInt 255) dJ1_charAt_3b067_9 (by decide) ?_
  refine go_a255 hb2 dJ1_charAt_3b067_12 ?_
  refine go_i2cI (by omega) dJ1_charAt_3b067_13 ?_
  refine go_retI rfl (rj_nch hb2) ?_ dJ1_charAt_3b067_14
  exact ⟨rj_vi (rfl), rfl⟩
set_option maxRecDepth 20000 in
/-- j_char -/
theorem j_char {X9 : rj_X} {σ : rj_H} {d : Nat} {i : Nat} (hi : i < 7) {k : Nat} (hk : k < rj_sl i) (hd : 3 ≤ d) : rj_Cl X9 d yJ0_charAt_5068e cJ0_charAt_5068e 2 (some .char) [.ref (rj_sk X9 i), rj_i (k : Int)] σ (fun w9 τ => w9 = some (rj_i (rj_sc i k)) ∧ τ = σ) := by
  have hl := (rj_sc_b i hi).1
  have hb2 := (rj_sc_b i hi).2 k (by have h8 : rj_sl i < 8 := rj_sl_8 i hi; omega)
  refine go_call (by decide +kernel) (Nat.le_of_ble_eq_true rfl) ?_
  refine go_eq (pc' := 0) (lv' := [(0, .ref (rj_sk X9 i)), (1, rj_i (k : Int))]) (st' := []) rfl rfl rfl rfl ?_
  refine go_aload_n dJ0_charAt_5068e_0 rfl 0 rfl ?_
  refine go_callVS (d1 := d - 1) wVJ0_492 rfl hi rfl (by omega) (j_lat hi) rfl (Nat.le_of_ble_eq_true rfl) dJ0_charAt_5068e_1 (fun w σ1 hP => ?_)
  obtain ⟨rfl, rfl⟩ := hP
  refine go_if_eqI (tgt := 16) (by omega) dJ0_charAt_5068e_4 (by decide) (fun c_4 => ?_) (fun c_4 => ?_)
  · exact absurd c_4 (by omega)
  · refine go_aload_n dJ0_charAt_5068e_7 rfl 0 rfl ?_
    refine go_sva hi rj_fv0 dJ0_charAt_5068e_8 ?_
    refine go_iload_n dJ0_charAt_5068e_11 rfl 1 rfl ?_
    refine go_callS (d1 := d - 1) wSJ0_495 rfl (by omega) (j_char1 hi hk (by omega)) rfl (Nat.le_of_ble_eq_true rfl) dJ0_charAt_5068e_12 (fun w σ1 hP => ?_)
    obtain ⟨rfl, rfl⟩ := hP
    refine go_retI rfl (rj_nch hb2) ?_ dJ0_charAt_5068e_15
    exact ⟨rj_vi (rfl), rfl⟩
