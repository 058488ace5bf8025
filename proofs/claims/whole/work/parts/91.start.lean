/-! THE START: what holds at the law's entry -/
def rs_tm (i : Nat) : Term := Term.string "SunMirrors$Valley" ([92, 102, 104, 106, 111, 28, 139].getD i 0)
def rs_F : List Cond := flatC (Jvm.Cond.and given_1 narrow_1)
theorem rs_in {w : Cond} (i : Nat) (h : tables_1[i]? = some w) : w ∈ lw_tbl := List.mem_append_right _ (List.mem_of_getElem? h)
theorem rs_ex : ∀ i : Nat, i < 7 → Cond.exactly (rs_tm i) "java/lang/String" ∈ rs_F := by decide +kernel
theorem rs_co : ∀ i : Nat, i < 7 → Cond.eq (.field (rs_tm i) "java/lang/String" "coder" "B") (.int 0) ∈ rs_F := by decide +kernel
theorem rs_ar : ∀ i : Nat, i < 7 → Cond.arrayOf (.field (rs_tm i) "java/lang/String" "value" "[B") .byte ∈ rs_F := by decide +kernel
theorem rs_le : ∀ i : Nat, i < 7 → Cond.eq (.length (.field (rs_tm i) "java/lang/String" "value" "[B")) (.int (Int32.ofNat (rj_len.getD i 0))) ∈ rs_F := by decide +kernel
theorem rs_el : ∀ i : Nat, i < 7 → ∀ j : Nat, j < rj_len.getD i 0 → Cond.eq (.elem (.field (rs_tm i) "java/lang/String" "value" "[B") (.int (Int32.ofNat j))) (.int ((rj_byt.getD i []).getD j 0)) ∈ rs_F := by decide +kernel
theorem rs_ne : ∀ i : Nat, i < 7 → ∀ j : Nat, j < 7 → i ≠ j → Cond.not (Cond.eq (rs_tm i) (rs_tm j)) ∈ rs_F ∨ Cond.not (Cond.eq (rs_tm j) (rs_tm i)) ∈ rs_F := by decide +kernel
theorem rs_nc : ∀ q ∈ rj_ncs, Cond.not (.castable q.1 q.2) ∈ rs_F := by decide +kernel
theorem rs_hN : ∀ i : Nat, i < 7 → rj_len.getD i 0 < 2 ^ 31 := by decide
theorem rs_arr {U : State} {ty : FieldType} {c : ClassId} {k : Class} {comp : ClassId} (h2 : U.vm.classes[c]? = some k) (h3 : k.kind = .array comp ty) : ArrOfT U c ty := fun n z => ⟨fun k h => (by cases h), k, h2, comp, h3⟩
set_option maxRecDepth 20000 in
theorem rs_K {s : State} {args : Array Value} {b L : Nat} {xs : Nat → Int32} (l : Launch) (hts : ∀ w ∈ lw_tbl, w.before args s = true) (hX : va_X b L xs s s.heap) (hb : b < s.heap.size) (hg : (Jvm.Cond.and given_1 narrow_1).before args s = true) : ∃ (D : va_G) (A : Nat → ClassId) (adK adV : Nat → Nat), rj_K (l, D, A, s.heap.size, (b, L, xs), adK, adV) s := by
  have hs : ∀ c ∈ rs_F, c.before args s = true := flat_of_before _ hg
  have ht : ∀ w ∈ rj_tbl, w.before args s = true := fun w hw => hts w (List.mem_filter.mp hw).1
  have hA : ∀ a : Nat, a < s.heap.size → ¬ (fun q : Nat => s.heap.size ≤ q) a := fun a h => Nat.not_le.mpr h
  have hC : ∀ k : Nat, ∃ d : ClassId × (Nat → Nat), ∀ q : vw_C, vwCl[k]? = some q → u_Kn s q.1 q.2.1 q.2.2 d.1 d.2 := by
    intro k
    match k with
    | 0 =>
      obtain ⟨c, f, h⟩ := u_known (C := RX0) (T := TX0) (N := 8) (n := 8) ht rj_uX0 (hts (.instantiable RX0 8) (rs_in 297 (by decide +kernel)))
      exact ⟨(c, f), fun q hq => by cases hq; exact h⟩
    | 1 =>
      obtain ⟨c, f, h⟩ := u_known (C := RX1) (T := TX1) (N := 8) (n := 8) ht rj_uX1 (hts (.instantiable RX1 8) (rs_in 327 (by decide +kernel)))
      exact ⟨(c, f), fun q hq => by cases hq; exact h⟩
    | 2 =>
      obtain ⟨c, f, h⟩ := u_known (C := RX2) (T := TX2) (N := 8) (n := 8) ht rj_uX2 (hts (.instantiable RX2 8) (rs_in 372 (by decide +kernel)))
      exact ⟨(c, f), fun q hq => by cases hq; exact h⟩
    | 3 =>
      obtain ⟨c, f, h⟩ := u_known (C := RX3) (T := TX3) (N := 8) (n := 8) ht rj_uX3 (hts (.instantiable RX3 8) (rs_in 312 (by decide +kernel)))
      exact ⟨(c, f), fun q hq => by cases hq; exact h⟩
    | 4 =>
      obtain ⟨c, f, h⟩ := u_known (C := RX4) (T := TX4) (N := 8) (n := 8) ht rj_uX4 (hts (.instantiable RX4 8) (rs_in 342 (by decide +kernel)))
      exact ⟨(c, f), fun q hq => by cases hq; exact h⟩
    | 5 =>
      obtain ⟨c, f, h⟩ := u_known (C := RX5) (T := TX5) (N := 15) (n := 15) ht rj_uX5 (hts (.instantiable RX5 15) (rs_in 32 (by decide +kernel)))
      exact ⟨(c, f), fun q hq => by cases hq; exact h⟩
    | 6 =>
      obtain ⟨c, f, h⟩ := u_known (C := RX6) (T := TX6) (N := 8) (n := 8) ht rj_uX6 (hts (.instantiable RX6 8) (rs_in 357 (by decide +kernel)))
      exact ⟨(c, f), fun q hq => by cases hq; exact h⟩
    | 7 =>
      obtain ⟨c, f, h⟩ := u_known (C := RX7) (T := TX7) (N := 2) (n := 2) ht rj_uX7 (hts (.instantiable RX7 2) (rs_in 169 (by decide +kernel)))
      exact ⟨(c, f), fun q hq => by cases hq; exact h⟩
    | 8 =>
      obtain ⟨c, f, h⟩ := u_known (C := RX8) (T := TX8) (N := 8) (n := 8) ht rj_uX8 (hts (.instantiable RX8 8) (rs_in 232 (by decide +kernel)))
      exact ⟨(c, f), fun q hq => by cases hq; exact h⟩
    | 9 =>
      obtain ⟨c, f, h⟩ := u_known (C := RX9) (T := TX9) (N := 13) (n := 13) ht rj_uX9 (hts (.instantiable RX9 13) (rs_in 44 (by decide +kernel)))
      exact ⟨(c, f), fun q hq => by cases hq; exact h⟩
    | 10 =>
      obtain ⟨c, f, h⟩ := u_known (C := RX10) (T := TX10) (N := 5) (n := 5) ht rj_uX10 (hts (.instantiable RX10 5) (rs_in 392 (by decide +kernel)))
      exact ⟨(c, f), fun q hq => by cases hq; exact h⟩
    | 11 =>
      obtain ⟨c, f, h⟩ := u_known (C := RX11) (T := TX11) (N := 10) (n := 10) ht rj_uX11 (hts (.instantiable RX11 10) (rs_in 24 (by decide +kernel)))
      exact ⟨(c, f), fun q hq => by cases hq; exact h⟩
    | 12 =>
      obtain ⟨c, f, h⟩ := u_known (C := RX12) (T := TX12) (N := 22) (n := 22) ht rj_uX12 (hts (.instantiable RX12 22) (rs_in 1026 (by decide +kernel)))
      exact ⟨(c, f), fun q hq => by cases hq; exact h⟩
    | k + 13 => exact ⟨(0, fun _ => 0), fun q hq => by simp [vwCl] at hq⟩
  obtain ⟨D, hD⟩ := Classical.axiomOfChoice hC
  obtain ⟨a0, k0, p0, f0, g0, e0⟩ := Cond.arrayClass_spec (hts (.arrayClass .int) (rs_in 102 (by decide +kernel)))
  obtain ⟨a1, k1, p1, f1, g1, e1⟩ := Cond.arrayClass_spec (hts (.arrayClass .byte) (rs_in 103 (by decide +kernel)))
  obtain ⟨a2, k2, p2, f2, g2, e2⟩ := Cond.arrayClass_spec (hts (.arrayClass .boolean) (rs_in 1097 (by decide +kernel)))
  obtain ⟨p3, a3, k3, j3, g3, e3, f3⟩ := Cond.arrayOver_specA (hts (.arrayOver (.array .int)) (rs_in 40 (by decide +kernel)))
  obtain ⟨p4, a4, k4, j4, -, g4, e4, f4⟩ := Cond.arrayOver_spec (hts (.arrayOver (.object "SunMirrors$Mirror")) (rs_in 38 (by decide +kernel)))
  obtain ⟨p5, a5, k5, j5, -, g5, e5, f5⟩ := Cond.arrayOver_spec (hts (.arrayOver (.object "SunMirrors$Wall")) (rs_in 42 (by decide +kernel)))
  obtain ⟨adK, adV, hS, hE⟩ := vk_Sof (N := 7) (tm := rs_tm) (len := rj_len) (byt := rj_byt) (A := fun q : Nat => s.heap.size ≤ q) rs_hN (fun i hi => hs _ (rs_ex i hi)) (fun i hi => hs _ (rs_co i hi)) (fun i hi => hs _ (rs_ar i hi)) (fun i hi => hs _ (rs_le i hi)) (fun i hi j hj => hs _ (rs_el i hi j hj)) (fun i j hi hj hij => (rs_ne i hi j hj hij).elim (fun h => Or.inl (hs _ h)) (fun h => Or.inr (hs _ h))) hA
  refine ⟨(fun k => (D k).1, fun k => (D k).2), fun k => if k = 0 then a0 else if k = 1 then a1 else if k = 2 then a2 else if k = 3 then a3 else if k = 4 then a4 else a5, adK, adV, ⟨fun c q hq => hD c q hq, fun k q hq => ?_⟩, hX, hb, Nat.le_refl _, hS, ?_, ⟨?_, fun q hq => va_Nc.of (hs _ (rs_nc q hq)), ?_, ?_⟩, ?_⟩
  · match k with
    | 0 => cases hq; exact ⟨rs_arr g0 e0, f0⟩
    | 1 => cases hq; exact ⟨rs_arr g1 e1, f1⟩
    | 2 => cases hq; exact ⟨rs_arr g2 e2, f2⟩
    | 3 => cases hq; exact ⟨rs_arr g3 e3, f3⟩
    | 4 => cases hq; exact ⟨rs_arr g4 e4, k4, p4, g4, e4, j4, f4⟩
    | 5 => cases hq; exact ⟨rs_arr g5 e5, k5, p5, g5, e5, j5, f5⟩
    | k + 6 => simp [rj_tys] at hq
  · exact List.forall_mem_cons.mpr ⟨vk_R.of (hts (.stringRef "SunMirrors$Valley" 28 "mpqdh") (rs_in 49 (by decide +kernel))) (hE 5 (by decide)), List.forall_mem_cons.mpr ⟨vk_R.of (hts (.stringRef "SunMirrors$Valley" 92 "lit ") (rs_in 465 (by decide +kernel))) (hE 0 (by decide)), List.forall_mem_cons.mpr ⟨vk_R.of (hts (.stringRef "SunMirrors$Valley" 139 "<=>") (rs_in 593 (by decide +kernel))) (hE 6 (by decide)), List.forall_mem_cons.mpr ⟨vk_R.of (hts (.stringRef "SunMirrors$Valley" 102 "eyes ") (rs_in 603 (by decide +kernel))) (hE 1 (by decide)), List.forall_mem_cons.mpr ⟨vk_R.of (hts (.stringRef "SunMirrors$Valley" 104 "own ") (rs_in 604 (by decide +kernel))) (hE 2 (by decide)), List.forall_mem_cons.mpr ⟨vk_R.of (hts (.stringRef "SunMirrors$Valley" 106 "cloud ") (rs_in 605 (by decide +kernel))) (hE 3 (by decide)), List.forall_mem_cons.mpr ⟨vk_R.of (hts (.stringRef "SunMirrors$Valley" 111 "turn ") (rs_in 610 (by decide +kernel))) (hE 4 (by decide)), List.forall_mem_cons.mpr ⟨vk_R.of (hts (.stringRef "SunMirrorsModel" 124 "lit ") (rs_in 1150 (by decide +kernel))) (va_eqR (hs (Cond.eq (.string "SunMirrors$Valley" 92) (.string "SunMirrorsModel" 124)) (by decide +kernel)) (hE 0 (by decide))), List.forall_mem_cons.mpr ⟨vk_R.of (hts (.stringRef "SunMirrorsModel" 106 "mpqdh") (rs_in 1181 (by decide +kernel))) (va_eqR (hs (Cond.eq (.string "SunMirrors$Valley" 28) (.string "SunMirrorsModel" 106)) (by decide +kernel)) (hE 5 (by decide))), List.forall_mem_cons.mpr ⟨vk_R.of (hts (.stringRef "SunMirrorsModel" 112 "<=>") (rs_in 1186 (by decide +kernel))) (va_eqR (hs (Cond.eq (.string "SunMirrors$Valley" 139) (.string "SunMirrorsModel" 112)) (by decide +kernel)) (hE 6 (by decide))), List.forall_mem_cons.mpr ⟨vk_R.of (hts (.stringRef "SunMirrorsModel" 130 "eyes ") (rs_in 1191 (by decide +kernel))) (va_eqR (hs (Cond.eq (.string "SunMirrors$Valley" 102) (.string "SunMirrorsModel" 130)) (by decide +kernel)) (hE 1 (by decide))), List.forall_mem_cons.mpr ⟨vk_R.of (hts (.stringRef "SunMirrorsModel" 132 "own ") (rs_in 1192 (by decide +kernel))) (va_eqR (hs (Cond.eq (.string "SunMirrors$Valley" 104) (.string "SunMirrorsModel" 132)) (by decide +kernel)) (hE 2 (by decide))), List.forall_mem_cons.mpr ⟨vk_R.of (hts (.stringRef "SunMirrorsModel" 134 "cloud ") (rs_in 1193 (by decide +kernel))) (va_eqR (hs (Cond.eq (.string "SunMirrors$Valley" 106) (.string "SunMirrorsModel" 134)) (by decide +kernel)) (hE 3 (by decide))), List.forall_mem_cons.mpr ⟨vk_R.of (hts (.stringRef "SunMirrorsModel" 140 "turn ") (rs_in 1198 (by decide +kernel))) (va_eqR (hs (Cond.eq (.string "SunMirrors$Valley" 111) (.string "SunMirrorsModel" 140)) (by decide +kernel)) (hE 4 (by decide))), fun _ h => absurd h List.not_mem_nil⟩⟩⟩⟩⟩⟩⟩⟩⟩⟩⟩⟩⟩⟩
  · exact List.forall_mem_cons.mpr ⟨hts (.castable "SunMirrors$Great" "SunMirrors$Turned") (rs_in 1438 (by decide +kernel)), List.forall_mem_cons.mpr ⟨hts (.castable "SunMirrors$One" "SunMirrors$Turned") (rs_in 1439 (by decide +kernel)), List.forall_mem_cons.mpr ⟨hts (.castable "SunMirrors$Passing" "SunMirrors$Fixed") (rs_in 1440 (by decide +kernel)), List.forall_mem_cons.mpr ⟨hts (.castable "SunMirrors$Told" "SunMirrors$Fixed") (rs_in 1441 (by decide +kernel)), List.forall_mem_cons.mpr ⟨hts (.castable "SunMirrors$Turned" "SunMirrors$Mirror") (rs_in 1442 (by decide +kernel)), List.forall_mem_cons.mpr ⟨hts (.castable "SunMirrors$Fixed" "SunMirrors$Mirror") (rs_in 1443 (by decide +kernel)), List.forall_mem_cons.mpr ⟨hts (.castable "SunMirrors$One" "SunMirrors$Mirror") (rs_in 1444 (by decide +kernel)), List.forall_mem_cons.mpr ⟨hts (.castable "SunMirrors$Great" "SunMirrors$Mirror") (rs_in 1445 (by decide +kernel)), List.forall_mem_cons.mpr ⟨hts (.castable "SunMirrors$Passing" "SunMirrors$Mirror") (rs_in 1446 (by decide +kernel)), List.forall_mem_cons.mpr ⟨hts (.castable "SunMirrors$Told" "SunMirrors$Mirror") (rs_in 1447 (by decide +kernel)), fun _ h => absurd h List.not_mem_nil⟩⟩⟩⟩⟩⟩⟩⟩⟩⟩
  · exact List.forall_mem_cons.mpr ⟨hts (.arrayOver (.array .int)) (rs_in 40 (by decide +kernel)), List.forall_mem_cons.mpr ⟨hts (.arrayOver (.object "SunMirrors$Mirror")) (rs_in 38 (by decide +kernel)), List.forall_mem_cons.mpr ⟨hts (.arrayOver (.object "SunMirrors$Wall")) (rs_in 42 (by decide +kernel)), fun _ h => absurd h List.not_mem_nil⟩⟩⟩
  · exact List.forall_mem_cons.mpr ⟨hts (.methodLinkNest "SunMirrors$Scene" 47 ⟨"SunMirrors$Valley", "<init>", "()V"⟩ "SunMirrors") (rs_in 45 (by decide +kernel)), List.forall_mem_cons.mpr ⟨hts (.methodLinkNest "SunMirrors" 27 ⟨"SunMirrors$Trace", "<init>", "()V"⟩ "SunMirrors") (rs_in 170 (by decide +kernel)), List.forall_mem_cons.mpr ⟨hts (.methodLinkNest "SunMirrors" 119 ⟨"SunMirrors$Valley", "<init>", "()V"⟩ "SunMirrors") (rs_in 449 (by decide +kernel)), fun _ h => absurd h List.not_mem_nil⟩⟩⟩
  · refine ⟨va_Zof (hts (.laysStatic "java/lang/String" "COMPACT_STRINGS" "Z") (rs_in 59 (by decide +kernel))) (hts (.initialized "java/lang/String") (rs_in 4 (by decide +kernel))) (va_eqi (hs _ (by decide +kernel))) hA, ?_⟩
    rcases va_Zqof (A := fun q : Nat => s.heap.size ≤ q) (hts (.laysStatic "jdk/internal/util/Preconditions" "SIOOBE_FORMATTER" "Ljava/util/function/BiFunction;") (rs_in 485 (by decide +kernel))) (hts (.initialized "jdk/internal/util/Preconditions") (rs_in 18 (by decide +kernel))) (hs _ (by decide +kernel)) hA with h | ⟨t, h⟩
    · exact ⟨_, h, Or.inl rfl⟩
    · exact ⟨_, h, Or.inr ⟨t, rfl⟩⟩
