/-! THE CLASS: super.m(..) of a method that the class above inherits -/
theorem rj_sub1 {vm : Vm} {a b : ClassId} {k : Class} (hk : vm.classes[a]? = some k) (hs : k.super = some b) : vm.isSubclass a b = true := by
  have hl : a < vm.classes.size := (Array.getElem?_eq_some_iff.mp hk).1
  obtain ⟨n, hn⟩ := Nat.exists_eq_add_one_of_ne_zero (Nat.ne_of_gt (Nat.lt_of_le_of_lt (Nat.zero_le a) hl))
  unfold Vm.isSubclass
  rw [Vm.isSubclassAux, hk]
  simp only [hs]
  rw [hn, Vm.isSubclassAux]
  simp
section RJQ
variable {p : Program} {l : Launch} {e : Env} {R : Room} {s : State} {m : MethodId} {args : Array Value} {below : List Frame} {meth : Method} {c : Code} {H : Heap} {locs : List Loc} {cells slots : Nat}
theorem rj_runQ {y x0 : MethodName} {bytes cc : ByteArray} {maxL nL mc ms n index : Nat} {ret : Option FieldType} {ws : List Cond} {rm : Room} {Pc : Array Value → State → Prop} {Qc : Array Value → State → Outcome → State → Prop} {free : Addr → Prop} {Ts : List Cond} {own C : String} {cC : ClassId} {b : Addr} {As rest : List Value} {g : JFrame}
    (hat : ClassAt s C cC) (S : CallFix p m c cc nL s args Ts own) (hM : Met l y ws rm Pc Qc mc ms free)
    (hy : y = ⟨y.cls, x0.name, x0.desc⟩) (hrc : rm.cells = mc) (hrs : rm.slots = ms) (hfr : rm.frames + 1 ≤ R.frames) (hlo : 8 + (maxL + 11) + rm.locals ≤ R.locals) (hws : ∀ w ∈ ws, ∀ (a' : Array Value) (U : State), s.WarmedH U.vm → w.before a' U = true) (hcw : Cond.code y bytes maxL ret ∈ ws)
    (hl1 : (Cond.methodLink own index x0).before args s = true) (hl2 : (Cond.sameMethod x0.cls y.cls x0.name x0.desc).before args s = true) (hl3 : (Cond.superclass own x0.cls).before args s = true) (hl4 : (Cond.superclass x0.cls y.cls).before args s = true) (hl5 : (Cond.instanceMethod y).before args s = true) (hini : (Cond.initialized y.cls).before args s = true) (hcode : (Cond.code y bytes maxL ret).before args s = true) (hno : x0.name ≠ "<init>")
    (hlen : ∀ sig, parseMethodDescriptor y.desc = some sig → n = sig.parameters.length) (hp : PreV s H C b Pc As)
    (hg : g.method = m) (hn : As.length = n) (hsize : g.locals.size = nL) (hstack : g.stack = As.reverse ++ .ref b :: rest) (hW : 2 * g.monitorRoom + (rest.map fun v => v.category).sum ≤ 8) (hdg : decode cc g.pc = .ok (.invokespecial index, 3)) (hf : cells + mc ≤ R.cells ∧ slots + ms ≤ R.slots) :
    va_Run p l e R s m args below meth c H locs cells slots mc ms g rest (Qc (Value.ref b :: As).toArray) (free) := by
  have hK : Back l R p e below s args y 3 8 (PreOf R mc ms Pc) (PostOf Qc mc ms free) := back_of (bytes := bytes) (maxL := maxL) (ret := ret) hM hp.1 hrc hrs hfr hlo hws hcw (fun a' U hW => word_at hW (Or.inl (by first | rfl | simp [Cond.onTables, Cond.keeps, Cond.steady])) hini)
  obtain ⟨hx, hb, hml, ho, -⟩ := S
  obtain ⟨-, ⟨cellB, hcB, hoB, hclB⟩, hPc⟩ := hp
  obtain ⟨hfc, kB, hkB, -⟩ := hat
  cases hfc.symm.trans hclB
  intro T hT X
  obtain ⟨mk, methM, hnamed, hmethM, hstM, habM⟩ := Cond.instanceMethod_spec hl5
  obtain ⟨methM', cM, hmethM', -, -, -, -, -, -, hsigM⟩ := Cond.code_spec hnamed hcode
  cases hmethM.symm.trans hmethM'
  obtain ⟨ps, dk, kp, hps, hdk, hkp, hsuper, -, -, hnid⟩ := Cond.superclass_spec ho hl3
  obtain ⟨ps2, dk2, kp2, hps2, hdk2, hkp2, hsuper2, -, -, -⟩ := Cond.superclass_spec hps hl4
  have hn' : s.methodNamed? ⟨y.cls, x0.name, x0.desc⟩ = some mk := hy ▸ hnamed
  have hpm : ps2 = mk.cls := Option.some.inj (hps2.symm.trans (findClass_of_methodNamed hnamed))
  have hsub : s.vm.isSubclass ps mk.cls = true := by rw [← hpm]; exact rj_sub1 hdk2 hsuper2
  obtain ⟨vm₁, X₁, hstep₁⟩ := X.invokespecialUp hx ho hl1 hl2 hn' hmethM hstM habM hno hdk hnid hps hsuper hsub (a := b) (cell := cellB) (by rw [hT]; exact hcB)
    (fun z h => by rw [h] at hoB; cases hoB) hkB (g := g) hg (argsL := As) (rest := rest) (hn.trans (hlen _ hsigM)) hstack (by rw [hb]; exact hdg)
  obtain ⟨v, ⟨U', l2, c2, s2⟩, X', ⟨g', mk2, t, L, e1, e2, hq, h1, hL, h2, h3⟩, st⟩ := hK m meth c ⟨T.setVm vm₁, locs, cells, slots⟩ { g with stack := rest } (.invokespecial index) mk (Value.ref b :: As).toArray X₁ hg (hsize.trans hml.symm) (by rw [hb]; exact hdg) hW (X₁.named hnamed) ⟨hf.1, hf.2, hPc (T.setVm vm₁) hT X₁.warmed⟩
  dsimp only [Pt.U, Pt.locs, Pt.cells, Pt.slots] at X' e1 e2 h1 h2 h3 st
  subst h1; subst h2; subst h3
  exact ⟨v, (T.setVm vm₁).calling g' mk2 (Value.ref b :: As).toArray, t, U', L, hT, X', hL, e1, e2, hq, fun target h => hstep₁ _ (by rw [doInvoke_state]; exact st.trans h)⟩
end RJQ
def rj_wQ (own : String) (idx : Nat) (x0 x : MethodName) (c1 : ByteArray) (n1 : Nat) (r1 : Option FieldType) (n : Nat) : Prop := Cond.methodLink own idx x0 ∈ rj_tbl ∧ Cond.sameMethod x0.cls x.cls x0.name x0.desc ∈ rj_tbl ∧ Cond.superclass own x0.cls ∈ rj_tbl ∧ Cond.superclass x0.cls x.cls ∈ rj_tbl ∧ Cond.instanceMethod x ∈ rj_tbl ∧ Cond.initialized x.cls ∈ rj_tbl ∧ Cond.code x c1 n1 r1 ∈ rj_tbl ∧ (x = ⟨x.cls, x0.name, x0.desc⟩ ∧ x0.name ≠ "<init>" ∧ (parseMethodDescriptor x.desc).map (fun d => d.parameters.length) = some n) ∧ n1 ≤ 29
section RJQ2
variable {X9 : rj_X} {y9 : MethodName} {cc : ByteArray} {nL : Nat} {rt9 : Option FieldType} {d9 : Nat} {v9 : Option Value} {τ9 : rj_H} {P9 : Option Value → rj_H → Prop} {pc : Nat} {lv : List (Nat × Value)} {rest : List Value} {σ σ1 : rj_H}
theorem rj_callQ {idx n d1 n1 a ci : Nat} {C : String} {x0 x : MethodName} {c1 : ByteArray} {r1 : Option FieldType} {av st : List Value} {w : Option Value} {T : u_T} {N : Nat} {ty : Nat → FieldType} {fs : List Value} (hw : rj_wQ y9.cls idx x0 x c1 n1 r1 n) (hcl : rj_cl ci C T N ty) (ha : σ.2.2 a = some (.inr (ci, fs))) (hn : av.length = n) (hd : d1 + 1 ≤ d9) (hcall : rj_Call X9 d1 x c1 n1 r1 (.ref a :: av) σ w σ1) (hr : σ1.1 ≤ τ9.1 ∧ σ1.2.1 ≤ τ9.2.1) (hst : st = av.reverse ++ .ref a :: rest) (hcat : (rest.map fun v => v.category).sum ≤ 8) (hdg : decode cc pc = .ok (.invokespecial idx, 3)) (kk : rj_Run X9 y9 cc nL rt9 d9 v9 τ9 (pc + 3) lv (w.toList ++ rest) σ1) : rj_Run X9 y9 cc nL rt9 d9 v9 τ9 pc lv st σ := by
  intro p e R s m args below meth c H locs cells slots ls Q hC
  obtain ⟨w1, w2, w3, w4, w7, w8, w9, ⟨w5, w10, w11⟩, w6⟩ := hw
  obtain ⟨m1, m2, hM⟩ := hcall
  subst hst
  have hp := hC.pre (av := .ref a :: av)
  have hfl := hC.fl hd w6
  have hG : GoodIn rj_tbl (.code x c1 n1 r1 :: rj_tbl) := rj_goodIn (fun q hq => by rcases List.mem_cons.mp hq with rfl | h <;> assumption)
  refine rj_after hC (rj_runQ (C := C) (As := av) (n := n) (hC.K.1.1 ci _ hcl.1).2 hC.fix hM w5 rfl rfl hfl.1 hfl.2 (pay_in hC.ts hG) List.mem_cons_self (hC.ts _ w1) (hC.ts _ w2) (hC.ts _ w3) (hC.ts _ w4) (hC.ts _ w7) (hC.ts _ w8) (hC.ts _ w9) w10 (fun sig h => ?_) ⟨hp.1, hC.recv hcl ha, hp.2⟩ rfl hn hC.has.1 rfl (lv_room hcat) hdg (hC.room hr ⟨m1, m2⟩)) ⟨m1, m2⟩ kk
  rw [h] at w11
  exact (Option.some.inj w11).symm
theorem go_callQ {Pc : Option Value → rj_H → Prop} {idx n d1 n1 a ci : Nat} {C : String} {x0 x : MethodName} {c1 : ByteArray} {r1 : Option FieldType} {av st : List Value}  {T : u_T} {N : Nat} {ty : Nat → FieldType} {fs : List Value} (hw : rj_wQ y9.cls idx x0 x c1 n1 r1 n) (hcl : rj_cl ci C T N ty) (ha : σ.2.2 a = some (.inr (ci, fs))) (hn : av.length = n) (hd : d1 + 1 ≤ d9) (hcall : rj_Cl X9 d1 x c1 n1 r1 (.ref a :: av) σ Pc) (hst : st = av.reverse ++ .ref a :: rest) (hcat : (rest.map fun v => v.category).sum ≤ 8) (hdg : decode cc pc = .ok (.invokespecial idx, 3)) (kk : ∀ (w : Option Value) (σ1 : rj_H), Pc w σ1 → rj_Go X9 y9 cc nL rt9 d9 P9 (pc + 3) lv (w.toList ++ rest) σ1)  : rj_Go X9 y9 cc nL rt9 d9 P9 pc lv st σ := by
  obtain ⟨w, σ1, hP, hc⟩ := hcall
  obtain ⟨v0, τ0, hp0, g1, g2, g0⟩ := kk w σ1 hP
  exact ⟨v0, τ0, hp0, Nat.le_trans hc.1 g1, Nat.le_trans hc.2.1 g2, rj_callQ hw hcl ha hn hd hc ⟨g1, g2⟩ hst hcat hdg g0⟩
end RJQ2
theorem wQX4_13 : rj_wQ RX4 13 ⟨"SunMirrors$Fixed", "casts", "(ILSunMirrors$Trace;)I"⟩ yX2_casts cX2_casts 3 (some .int) 2 := ⟨rj_inT 938 (by decide +kernel), rj_inT 939 (by decide +kernel), rj_inT 355 (by decide +kernel), rj_inT 310 (by decide +kernel), rj_inT 921 (by decide +kernel), rj_inT 8 (by decide +kernel), rj_inT 943 (by decide +kernel), ⟨rfl, by decide +kernel, by decide +kernel⟩, by decide⟩
theorem wQX1_35 : rj_wQ RX1 35 ⟨"SunMirrors$Turned", "tells", "(ILSunMirrors$Trace;)I"⟩ yX2_tells cX2_tells 3 (some .int) 2 := ⟨rj_inT 974 (by decide +kernel), rj_inT 975 (by decide +kernel), rj_inT 340 (by decide +kernel), rj_inT 295 (by decide +kernel), rj_inT 966 (by decide +kernel), rj_inT 8 (by decide +kernel), rj_inT 989 (by decide +kernel), ⟨rfl, by decide +kernel, by decide +kernel⟩, by decide⟩
theorem wQX3_32 : rj_wQ RX3 32 ⟨"SunMirrors$Turned", "tells", "(ILSunMirrors$Trace;)I"⟩ yX2_tells cX2_tells 3 (some .int) 2 := ⟨rj_inT 985 (by decide +kernel), rj_inT 975 (by decide +kernel), rj_inT 325 (by decide +kernel), rj_inT 295 (by decide +kernel), rj_inT 966 (by decide +kernel), rj_inT 8 (by decide +kernel), rj_inT 989 (by decide +kernel), ⟨rfl, by decide +kernel, by decide +kernel⟩, by decide⟩
