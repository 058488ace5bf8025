/-! constants out of the pool -/
section LDC
variable {X9 : rj_X} {y9 : MethodName} {cc : ByteArray} {nL : Nat} {rt9 : Option FieldType} {d9 : Nat} {v9 : Option Value} {τ9 : rj_H} {P9 : Option Value → rj_H → Prop} {pc : Nat} {lv : List (Nat × Value)} {rest : List Value} {σ : rj_H}
theorem rj_ldc {idx : Nat} {v : Int32} (hw : Cond.constant y9.cls idx v ∈ rj_tbl) (hdg : decode cc pc = .ok (.ldc idx, 2)) (k : rj_Run X9 y9 cc nL rt9 d9 v9 τ9 (pc + 2) lv (.int v :: rest) σ) : rj_Run X9 y9 cc nL rt9 d9 v9 τ9 pc lv rest σ := fun p e R s m args below meth c H locs cells slots ls Q hC => lv_ldc hC.1 hC.2.1 hC.own (hC.ts _ hw) hdg (k p e R s m args below meth c H locs cells slots ls Q hC)
theorem rj_ldc2 {idx : Nat} {v : Int64} (hw : Cond.constantLong y9.cls idx v ∈ rj_tbl) (hdg : decode cc pc = .ok (.ldc2_w idx, 3)) (k : rj_Run X9 y9 cc nL rt9 d9 v9 τ9 (pc + 3) lv (.long v :: rest) σ) : rj_Run X9 y9 cc nL rt9 d9 v9 τ9 pc lv rest σ := fun p e R s m args below meth c H locs cells slots ls Q hC => lv_ldc2 hC.1 hC.2.1 hC.own (hC.ts _ hw) hdg (k p e R s m args below meth c H locs cells slots ls Q hC)
theorem rj_ldcS {idx i : Nat} {tx : String} (hw : (y9.cls, idx, tx, i) ∈ rj_strs) (hdg : decode cc pc = .ok (.ldc idx, 2)) (k : rj_Run X9 y9 cc nL rt9 d9 v9 τ9 (pc + 2) lv (.ref (X9.2.2.2.2.2.1 i) :: rest) σ) : rj_Run X9 y9 cc nL rt9 d9 v9 τ9 pc lv rest σ := fun p e R s m args below meth c H locs cells slots ls Q hC => va_ldcS hC.1 hC.2.1 hC.own (hC.K.2.2.2.2.2.1 _ hw) hdg (k p e R s m args below meth c H locs cells slots ls Q hC)
theorem go_ldcI {idx : Nat} {z : Int} (hw : Cond.constant y9.cls idx (Int32.ofInt z) ∈ rj_tbl) (hdg : decode cc pc = .ok (.ldc idx, 2)) (k : rj_Go X9 y9 cc nL rt9 d9 P9 (pc + 2) lv (rj_i z :: rest) σ) : rj_Go X9 y9 cc nL rt9 d9 P9 pc lv rest σ := by
  obtain ⟨v, τ, hp, h1, h2, h⟩ := k
  exact ⟨v, τ, hp, h1, h2, rj_ldc hw hdg h⟩
theorem go_ldc2 {idx : Nat} {z : Int64} (hw : Cond.constantLong y9.cls idx z ∈ rj_tbl) (hdg : decode cc pc = .ok (.ldc2_w idx, 3)) (k : rj_Go X9 y9 cc nL rt9 d9 P9 (pc + 3) lv (.long z :: rest) σ) : rj_Go X9 y9 cc nL rt9 d9 P9 pc lv rest σ := by
  obtain ⟨v, τ, hp, h1, h2, h⟩ := k
  exact ⟨v, τ, hp, h1, h2, rj_ldc2 hw hdg h⟩
theorem go_ldcS {idx i : Nat} {tx : String} (hw : (y9.cls, idx, tx, i) ∈ rj_strs) (hdg : decode cc pc = .ok (.ldc idx, 2)) (k : rj_Go X9 y9 cc nL rt9 d9 P9 (pc + 2) lv (.ref (X9.2.2.2.2.2.1 i) :: rest) σ) : rj_Go X9 y9 cc nL rt9 d9 P9 pc lv rest σ := by
  obtain ⟨v, τ, hp, h1, h2, h⟩ := k
  exact ⟨v, τ, hp, h1, h2, rj_ldcS hw hdg h⟩
end LDC
theorem qX11_200 : Cond.constantLong RX11 200 (-9223372036854775808 : Int64) ∈ rj_tbl := rj_inT 829 (by decide +kernel)
theorem qX11_206 : Cond.constantLong RX11 206 (10 : Int64) ∈ rj_tbl := rj_inT 837 (by decide +kernel)
theorem qX12_55 : Cond.constant RX12 55 (Int32.ofInt (999999)) ∈ rj_tbl := rj_inT 1108 (by decide +kernel)
theorem qX12_62 : Cond.constantLong RX12 62 (255 : Int64) ∈ rj_tbl := rj_inT 1137 (by decide +kernel)
theorem qX12_211 : Cond.constantLong RX12 211 (-9223372036854775808 : Int64) ∈ rj_tbl := rj_inT 1317 (by decide +kernel)
theorem qX12_221 : Cond.constantLong RX12 221 (10 : Int64) ∈ rj_tbl := rj_inT 1324 (by decide +kernel)
