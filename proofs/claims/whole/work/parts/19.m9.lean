/-! THE REFERENCE, 9: acts -/
/-- a body runs: the trace's bodies and how many ran -/
def sp_run (b : Int → Int) (n c : Int) : Int → Int := if n < 20 then rj_up b n c else b
def sp_xor (a b : Int) : Int := (Int32.ofInt a ^^^ Int32.ofInt b).toInt
abbrev sp_A : Type := Int × (Int → Int) × Int
def sp_pc (i x : Int) (b : Int → Int) (n : Int) : sp_A := (x + i, sp_run b n 1, n + 1)
def sp_ca (kd i x : Int) (b : Int → Int) (n : Int) : sp_A :=
  if sp_und kd 1 then sp_pc i (x * 3) (sp_run b n 11) (n + 1)
  else if kd = 5 then (sp_xor (sp_pc i x (sp_run b n 51) (n + 1)).1 i, (sp_pc i x (sp_run b n 51) (n + 1)).2)
  else sp_pc i x b n
def sp_pt (kd i v x : Int) (b : Int → Int) (n : Int) : sp_A := ((sp_ca kd i x (sp_run b n 2) (n + 1)).1 - v, (sp_ca kd i x (sp_run b n 2) (n + 1)).2)
def sp_ft (kd i v x : Int) (b : Int → Int) (n : Int) : sp_A := (-(sp_pt kd i v x (sp_run b n 21) (n + 1)).1, (sp_pt kd i v x (sp_run b n 21) (n + 1)).2)
def sp_tu (kd i v x : Int) (b : Int → Int) (n : Int) : sp_A :=
  if kd = 6 then ((sp_ft kd i v x (sp_run b n 61) (n + 1)).1 + v, (sp_ft kd i v x (sp_run b n 61) (n + 1)).2)
  else if sp_und kd 2 then sp_ft kd i v x b n else sp_pt kd i v x b n
def sp_pl (kd i v x : Int) (b : Int → Int) (n : Int) : sp_A := ((sp_tu kd i v x (sp_run b n 3) (n + 1)).1 * 2, (sp_tu kd i v x (sp_run b n 3) (n + 1)).2)
def sp_te (kd i v x : Int) (b : Int → Int) (n : Int) : sp_A :=
  if kd = 3 then (sp_xor (sp_pl kd i v x (sp_run b n 31) (n + 1)).1 7, (sp_pl kd i v x (sp_run b n 31) (n + 1)).2)
  else if kd = 4 then ((sp_pl kd i v (x - 1) (sp_run b n 41) (n + 1)).1 + (sp_ca kd i 2 (sp_pl kd i v (x - 1) (sp_run b n 41) (n + 1)).2.1 (sp_pl kd i v (x - 1) (sp_run b n 41) (n + 1)).2.2).1, (sp_ca kd i 2 (sp_pl kd i v (x - 1) (sp_run b n 41) (n + 1)).2.1 (sp_pl kd i v (x - 1) (sp_run b n 41) (n + 1)).2.2).2)
  else sp_pl kd i v x b n
/-- the trace alone changes -/
def rm_W (r r' : rm_R) (b : Int → Int) (n : Int) : Prop := (∀ k : Nat, k ≠ 17 → k ≠ 18 → r' k = r k) ∧ r' 17 = b ∧ r' 18 0 = n
theorem sp_ca_n (kd i x : Int) (b : Int → Int) (n : Int) : n ≤ (sp_ca kd i x b n).2.2 ∧ (sp_ca kd i x b n).2.2 ≤ n + 2 := by unfold sp_ca sp_pc; (repeat' split) <;> simp <;> omega
theorem sp_pt_n (kd i v x : Int) (b : Int → Int) (n : Int) : n ≤ (sp_pt kd i v x b n).2.2 ∧ (sp_pt kd i v x b n).2.2 ≤ n + 3 := by have := sp_ca_n kd i x (sp_run b n 2) (n + 1); unfold sp_pt; simp only; omega
theorem sp_ft_n (kd i v x : Int) (b : Int → Int) (n : Int) : n ≤ (sp_ft kd i v x b n).2.2 ∧ (sp_ft kd i v x b n).2.2 ≤ n + 4 := by have := sp_pt_n kd i v x (sp_run b n 21) (n + 1); unfold sp_ft; simp only; omega
theorem sp_tu_n (kd i v x : Int) (b : Int → Int) (n : Int) : n ≤ (sp_tu kd i v x b n).2.2 ∧ (sp_tu kd i v x b n).2.2 ≤ n + 5 := by
  have h1 := sp_ft_n kd i v x (sp_run b n 61) (n + 1)
  have h2 := sp_ft_n kd i v x b n
  have h3 := sp_pt_n kd i v x b n
  unfold sp_tu; (repeat' split) <;> (try simp only) <;> omega
theorem sp_pl_n (kd i v x : Int) (b : Int → Int) (n : Int) : n ≤ (sp_pl kd i v x b n).2.2 ∧ (sp_pl kd i v x b n).2.2 ≤ n + 6 := by have := sp_tu_n kd i v x (sp_run b n 3) (n + 1); unfold sp_pl; simp only; omega
theorem go_xorI {X9 : rj_X} {y9 : MethodName} {cc : ByteArray} {nL : Nat} {rt9 : Option FieldType} {d9 : Nat} {P9 : Option Value → rj_H → Prop} {pc : Nat} {lv : List (Nat × Value)} {rest : List Value} {σ : rj_H} {a b : Int} (hdg : decode cc pc = .ok (.ixor, 1)) (k : rj_Go X9 y9 cc nL rt9 d9 P9 (pc + 1) lv (rj_i (sp_xor a b) :: rest) σ) : rj_Go X9 y9 cc nL rt9 d9 P9 pc lv (rj_i b :: rj_i a :: rest) σ := go_ixor hdg (by
  unfold sp_xor at k
  rw [show rj_i (Int32.ofInt a ^^^ Int32.ofInt b).toInt = .int (Int32.ofInt a ^^^ Int32.ofInt b) from by unfold rj_i; rw [Int32.ofInt_toInt]] at k
  exact k)
set_option maxRecDepth 20000 in
/-- m_runs -/
theorem m_runs {X9 : rj_X} {σ : rj_H} {d : Nat} {mb : Nat} {r : rm_R} {c : Int} (hc : -2147483648 ≤ c ∧ c < 2147483648) {b : Int → Int} {n : Int} (hb : r 17 = b) (hn : r 18 0 = n) (hn2 : 0 ≤ n ∧ n ≤ 110) : rj_Cl X9 d yX12_runs cX12_runs 2 none [.ref mb, rj_i c] (rm_p X9 mb r σ) (fun w9 τ => w9 = none ∧ ∃ r0, rm_W r r0 (sp_run b n c) (n + 1) ∧ τ = rm_p X9 mb r0 σ) := by
  refine go_call (by decide +kernel) (Nat.le_of_ble_eq_true rfl) ?_
  refine go_eq (pc' := 0) (lv' := [(0, .ref mb), (1, rj_i c)]) (st' := []) rfl rfl rfl rfl ?_
  refine go_aload_n dX12_runs_0 rfl 0 rfl ?_
  refine grm_g18 rfl dX12_runs_1 ?_
  rw [show r 18 0 = n from hn]
  refine go_bipush (v := Int32.ofInt 20) dX12_runs_4 (by decide) ?_
  refine go_icmp_geI (tgt := 19) (by omega) (by omega) dX12_runs_6 (by decide) (fun c_6 => ?_) (fun c_6 => ?_)
  · refine go_aload_n dX12_runs_19 rfl 0 rfl ?_
    refine go_dup dX12_runs_20 rfl ?_
    refine grm_g18 rfl dX12_runs_21 ?_
    rw [show r 18 0 = n from hn]
    refine go_iconst (v := Int32.ofInt 1) dX12_runs_24 rfl ?_
    refine go_addI dX12_runs_25 ?_
    refine grm_w18 rfl dX12_runs_26 ?_
    refine go_retV rfl ?_ dX12_runs_29
    exact ⟨rfl, (rm_u r 18 (fun _ => n + 1)), ⟨fun k h1 h2 => by simp [rm_u, h1, h2], by unfold sp_run; rw [if_neg (by omega)]; exact (show (rm_u r 18 (fun _ => n + 1)) 17 = b from hb), (show (rm_u r 18 (fun _ => n + 1)) 18 0 = n + 1 from rfl)⟩, rfl⟩
  · refine go_aload_n dX12_runs_9 rfl 0 rfl ?_
    refine grm_g17 rfl dX12_runs_10 ?_
    refine go_aload_n dX12_runs_13 rfl 0 rfl ?_
    refine grm_g18 rfl dX12_runs_14 ?_
    rw [show r 18 0 = n from hn]
    refine go_iload_n dX12_runs_17 rfl 1 rfl ?_
    refine grm_s17 (by omega) (by omega) dX12_runs_18 ?_
    refine go_aload_n dX12_runs_19 rfl 0 rfl ?_
    refine go_dup dX12_runs_20 rfl ?_
    refine grm_g18 rfl dX12_runs_21 ?_
    rw [show (rm_u r 17 (rj_up (r 17) n c)) 18 0 = n from hn]
    refine go_iconst (v := Int32.ofInt 1) dX12_runs_24 rfl ?_
    refine go_addI dX12_runs_25 ?_
    refine grm_w18 rfl dX12_runs_26 ?_
    refine go_retV rfl ?_ dX12_runs_29
    exact ⟨rfl, (rm_u (rm_u r 17 (rj_up (r 17) n c)) 18 (fun _ => n + 1)), ⟨fun k h1 h2 => by simp [rm_u, h1, h2], by unfold sp_run; rw [if_pos (by omega)]; exact (show (rm_u (rm_u r 17 (rj_up (r 17) n c)) 18 (fun _ => n + 1)) 17 = (rj_up b n c) from (congrArg (fun zz => rj_up zz n c) (show r 17 = b from hb))), (show (rm_u (rm_u r 17 (rj_up (r 17) n c)) 18 (fun _ => n + 1)) 18 0 = n + 1 from rfl)⟩, rfl⟩
set_option maxRecDepth 20000 in
/-- m_plainCasts -/
theorem m_plainCasts {X9 : rj_X} {σ : rj_H} {d : Nat} {mb : Nat} {r : rm_R} {x : Int} (hd : 1 ≤ d) {b : Int → Int} {n kd i v : Int} (hb : r 17 = b) (hn : r 18 0 = n) (hkd : r 19 0 = kd) (hi : r 20 0 = i) (hv : r 21 0 = v) (hn2 : 0 ≤ n ∧ n ≤ 109) (hk2 : 0 ≤ kd ∧ kd ≤ 6) : rj_Cl X9 d yX12_plainCasts cX12_plainCasts 2 (some .int) [.ref mb, rj_i x] (rm_p X9 mb r σ) (fun w9 τ => w9 = some (rj_i (sp_pc i x b n).1) ∧ ∃ r0, rm_W r r0 (sp_pc i x b n).2.1 (sp_pc i x b n).2.2 ∧ τ = rm_p X9 mb r0 σ) := by
  refine go_call (by decide +kernel) (Nat.le_of_ble_eq_true rfl) ?_
  refine go_eq (pc' := 0) (lv' := [(0, .ref mb), (1, rj_i x)]) (st' := []) rfl rfl rfl rfl ?_
  refine go_aload_n dX12_plainCasts_0 rfl 0 rfl ?_
  refine go_iconst (v := Int32.ofInt 1) dX12_plainCasts_1 rfl ?_
  refine go_callV (d1 := d - 1) wVX12_248 kX12 rm_ob rfl (by omega) (m_runs (c := 1) (by omega) (hb := (show r 17 = b from hb)) (hn := (show r 18 0 = n from hn)) (by omega)) rfl (Nat.le_of_ble_eq_true rfl) dX12_plainCasts_2 (fun w σ1 hP => ?_)
  obtain ⟨rfl, r1, ⟨hr1, hb1, hn1⟩, rfl⟩ := hP
  have q1_19 : r1 19 0 = kd := (congrFun (hr1 19 (by decide) (by decide)) 0).trans (show r 19 0 = kd from hkd)
  have q1_20 : r1 20 0 = i := (congrFun (hr1 20 (by decide) (by decide)) 0).trans (show r 20 0 = i from hi)
  have q1_21 : r1 21 0 = v := (congrFun (hr1 21 (by decide) (by decide)) 0).trans (show r 21 0 = v from hv)
  refine go_iload_n dX12_plainCasts_5 rfl 1 rfl ?_
  refine go_aload_n dX12_plainCasts_6 rfl 0 rfl ?_
  refine grm_g20 rfl dX12_plainCasts_7 ?_
  rw [show r1 20 0 = i from q1_20]
  refine go_addI dX12_plainCasts_10 ?_
  refine go_retI rfl rfl ?_ dX12_plainCasts_11
  exact ⟨rfl, r1, ⟨fun k h1 h2 => hr1 k h1 h2, hb1, hn1⟩, rfl⟩
set_option maxRecDepth 20000 in
/-- m_castsActs -/
theorem m_castsActs {X9 : rj_X} {σ : rj_H} {d : Nat} {mb : Nat} {r : rm_R} {x : Int} (hd : 2 ≤ d) {b : Int → Int} {n kd i v : Int} (hb : r 17 = b) (hn : r 18 0 = n) (hkd : r 19 0 = kd) (hi : r 20 0 = i) (hv : r 21 0 = v) (hn2 : 0 ≤ n ∧ n ≤ 108) (hk2 : 0 ≤ kd ∧ kd ≤ 6) : rj_Cl X9 d yX12_castsActs cX12_castsActs 2 (some .int) [.ref mb, rj_i x] (rm_p X9 mb r σ) (fun w9 τ => w9 = some (rj_i (sp_ca kd i x b n).1) ∧ ∃ r0, rm_W r r0 (sp_ca kd i x b n).2.1 (sp_ca kd i x b n).2.2 ∧ τ = rm_p X9 mb r0 σ) := by
  refine go_call (by decide +kernel) (Nat.le_of_ble_eq_true rfl) ?_
  refine go_eq (pc' := 0) (lv' := [(0, .ref mb), (1, rj_i x)]) (st' := []) rfl rfl rfl rfl ?_
  refine go_aload_n dX12_castsActs_0 rfl 0 rfl ?_
  refine grm_g19 rfl dX12_castsActs_1 ?_
  rw [show r 19 0 = kd from hkd]
  refine go_iconst (v := Int32.ofInt 1) dX12_castsActs_4 rfl ?_
  refine go_callS (d1 := d - 1) wSX12_257 rfl (by omega) (m_isUnder (kd := kd) (k := 1) (by omega) (by omega)) rfl (Nat.le_of_ble_eq_true rfl) dX12_castsActs_5 (fun w σ1 hP => ?_)
  obtain ⟨rfl, rfl⟩ := hP
  refine go_if_eqB (tgt := 25) dX12_castsActs_8 (by decide) (fun c_8 => ?_) (fun c_8 => ?_)
  · refine go_aload_n dX12_castsActs_25 rfl 0 rfl ?_
    refine grm_g19 rfl dX12_castsActs_26 ?_
    rw [show r 19 0 = kd from hkd]
    refine go_iconst (v := Int32.ofInt 5) dX12_castsActs_29 rfl ?_
    refine go_icmp_neI (tgt := 50) (by omega) (by omega) dX12_castsActs_30 (by decide) (fun c_30 => ?_) (fun c_30 => ?_)
    · refine go_aload_n dX12_castsActs_50 rfl 0 rfl ?_
      refine go_iload_n dX12_castsActs_51 rfl 1 rfl ?_
      refine go_callV (d1 := d - 1) wVX12_260 kX12 rm_ob rfl (by omega) (m_plainCasts (by omega) (x := x) (hb := (show r 17 = b from hb)) (hn := (show r 18 0 = n from hn)) (hkd := (show r 19 0 = kd from hkd)) (hi := (show r 20 0 = i from hi)) (hv := (show r 21 0 = v from hv)) (by omega) hk2) rfl (Nat.le_of_ble_eq_true rfl) dX12_castsActs_52 (fun w σ1 hP => ?_)
      obtain ⟨rfl, r1, ⟨hr1, hb1, hn1⟩, rfl⟩ := hP
      have q1_19 : r1 19 0 = kd := (congrFun (hr1 19 (by decide) (by decide)) 0).trans (show r 19 0 = kd from hkd)
      have q1_20 : r1 20 0 = i := (congrFun (hr1 20 (by decide) (by decide)) 0).trans (show r 20 0 = i from hi)
      have q1_21 : r1 21 0 = v := (congrFun (hr1 21 (by decide) (by decide)) 0).trans (show r 21 0 = v from hv)
      refine go_retI rfl rfl ?_ dX12_castsActs_55
      exact ⟨by unfold sp_ca; rw [if_neg (by omega), if_neg (by omega)], r1, ⟨fun k h1 h2 => (hr1 k h1 h2).trans (rfl), (by unfold sp_ca; rw [if_neg (by omega), if_neg (by omega)]; exact (show r1 17 = (sp_pc i x b n).2.1 from hb1)), (by unfold sp_ca; rw [if_neg (by omega), if_neg (by omega)]; exact (show r1 18 0 = (sp_pc i x b n).2.2 from hn1))⟩, rfl⟩
    · refine go_aload_n dX12_castsActs_33 rfl 0 rfl ?_
      refine go_bipush (v := Int32.ofInt 51) dX12_castsActs_34 (by decide) ?_
      refine go_callV (d1 := d - 1) wVX12_248 kX12 rm_ob rfl (by omega) (m_runs (c := 51) (by omega) (hb := (show r 17 = b from hb)) (hn := (show r 18 0 = n from hn)) (by omega)) rfl (Nat.le_of_ble_eq_true rfl) dX12_castsActs_36 (fun w σ1 hP => ?_)
      obtain ⟨rfl, r1, ⟨hr1, hb1, hn1⟩, rfl⟩ := hP
      have q1_19 : r1 19 0 = kd := (congrFun (hr1 19 (by decide) (by decide)) 0).trans (show r 19 0 = kd from hkd)
      have q1_20 : r1 20 0 = i := (congrFun (hr1 20 (by decide) (by decide)) 0).trans (show r 20 0 = i from hi)
      have q1_21 : r1 21 0 = v := (congrFun (hr1 21 (by decide) (by decide)) 0).trans (show r 21 0 = v from hv)
      refine go_aload_n dX12_castsActs_39 rfl 0 rfl ?_
      refine go_iload_n dX12_castsActs_40 rfl 1 rfl ?_
      refine go_callV (d1 := d - 1) wVX12_260 kX12 rm_ob rfl (by omega) (m_plainCasts (by omega) (x := x) (hb := (show r1 17 = (sp_run b n 51) from hb1)) (hn := (show r1 18 0 = n + 1 from hn1)) (hkd := (show r1 19 0 = kd from q1_19)) (hi := (show r1 20 0 = i from q1_20)) (hv := (show r1 21 0 = v from q1_21)) (by omega) hk2) rfl (Nat.le_of_ble_eq_true rfl) dX12_castsActs_41 (fun w σ1 hP => ?_)
      obtain ⟨rfl, r2, ⟨hr2, hb2, hn2⟩, rfl⟩ := hP
      have q2_19 : r2 19 0 = kd := (congrFun (hr2 19 (by decide) (by decide)) 0).trans (show r1 19 0 = kd from q1_19)
      have q2_20 : r2 20 0 = i := (congrFun (hr2 20 (by decide) (by decide)) 0).trans (show r1 20 0 = i from q1_20)
      have q2_21 : r2 21 0 = v := (congrFun (hr2 21 (by decide) (by decide)) 0).trans (show r1 21 0 = v from q1_21)
      refine go_aload_n dX12_castsActs_44 rfl 0 rfl ?_
      refine grm_g20 rfl dX12_castsActs_45 ?_
      rw [show r2 20 0 = i from q2_20]
      refine go_xorI dX12_castsActs_48 ?_
      refine go_retI rfl rfl ?_ dX12_castsActs_49
      exact ⟨by unfold sp_ca; rw [if_neg (by omega), if_pos (by omega)], r2, ⟨fun k h1 h2 => (hr2 k h1 h2).trans ( (hr1 k h1 h2).trans (rfl)), (by unfold sp_ca; rw [if_neg (by omega), if_pos (by omega)]; exact (show r2 17 = (sp_pc i x (sp_run b n 51) (n + 1)).2.1 from hb2)), (by unfold sp_ca; rw [if_neg (by omega), if_pos (by omega)]; exact (show r2 18 0 = (sp_pc i x (sp_run b n 51) (n + 1)).2.2 from hn2))⟩, rfl⟩
  · refine go_aload_n dX12_castsActs_11 rfl 0 rfl ?_
    refine go_bipush (v := Int32.ofInt 11) dX12_castsActs_12 (by decide) ?_
    refine go_callV (d1 := d - 1) wVX12_248 kX12 rm_ob rfl (by omega) (m_runs (c := 11) (by omega) (hb := (show r 17 = b from hb)) (hn := (show r 18 0 = n from hn)) (by omega)) rfl (Nat.le_of_ble_eq_true rfl) dX12_castsActs_14 (fun w σ1 hP => ?_)
    obtain ⟨rfl, r1, ⟨hr1, hb1, hn1⟩, rfl⟩ := hP
    have q1_19 : r1 19 0 = kd := (congrFun (hr1 19 (by decide) (by decide)) 0).trans (show r 19 0 = kd from hkd)
    have q1_20 : r1 20 0 = i := (congrFun (hr1 20 (by decide) (by decide)) 0).trans (show r 20 0 = i from hi)
    have q1_21 : r1 21 0 = v := (congrFun (hr1 21 (by decide) (by decide)) 0).trans (show r 21 0 = v from hv)
    refine go_aload_n dX12_castsActs_17 rfl 0 rfl ?_
    refine go_iload_n dX12_castsActs_18 rfl 1 rfl ?_
    refine go_iconst (v := Int32.ofInt 3) dX12_castsActs_19 rfl ?_
    refine go_mulI dX12_castsActs_20 ?_
    refine go_callV (d1 := d - 1) wVX12_260 kX12 rm_ob rfl (by omega) (m_plainCasts (by omega) (x := x * 3) (hb := (show r1 17 = (sp_run b n 11) from hb1)) (hn := (show r1 18 0 = n + 1 from hn1)) (hkd := (show r1 19 0 = kd from q1_19)) (hi := (show r1 20 0 = i from q1_20)) (hv := (show r1 21 0 = v from q1_21)) (by omega) hk2) rfl (Nat.le_of_ble_eq_true rfl) dX12_castsActs_21 (fun w σ1 hP => ?_)
    obtain ⟨rfl, r2, ⟨hr2, hb2, hn2⟩, rfl⟩ := hP
    have q2_19 : r2 19 0 = kd := (congrFun (hr2 19 (by decide) (by decide)) 0).trans (show r1 19 0 = kd from q1_19)
    have q2_20 : r2 20 0 = i := (congrFun (hr2 20 (by decide) (by decide)) 0).trans (show r1 20 0 = i from q1_20)
    have q2_21 : r2 21 0 = v := (congrFun (hr2 21 (by decide) (by decide)) 0).trans (show r1 21 0 = v from q1_21)
    refine go_retI rfl rfl ?_ dX12_castsActs_24
    exact ⟨by unfold sp_ca; rw [if_pos (by omega)], r2, ⟨fun k h1 h2 => (hr2 k h1 h2).trans ( (hr1 k h1 h2).trans (rfl)), (by unfold sp_ca; rw [if_pos (by omega)]; exact (show r2 17 = (sp_pc i (x * 3) (sp_run b n 11) (n + 1)).2.1 from hb2)), (by unfold sp_ca; rw [if_pos (by omega)]; exact (show r2 18 0 = (sp_pc i (x * 3) (sp_run b n 11) (n + 1)).2.2 from hn2))⟩, rfl⟩
set_option maxRecDepth 20000 in
/-- m_plainTurns -/
theorem m_plainTurns {X9 : rj_X} {σ : rj_H} {d : Nat} {mb : Nat} {r : rm_R} {x : Int} (hd : 3 ≤ d) {b : Int → Int} {n kd i v : Int} (hb : r 17 = b) (hn : r 18 0 = n) (hkd : r 19 0 = kd) (hi : r 20 0 = i) (hv : r 21 0 = v) (hn2 : 0 ≤ n ∧ n ≤ 107) (hk2 : 0 ≤ kd ∧ kd ≤ 6) : rj_Cl X9 d yX12_plainTurns cX12_plainTurns 2 (some .int) [.ref mb, rj_i x] (rm_p X9 mb r σ) (fun w9 τ => w9 = some (rj_i (sp_pt kd i v x b n).1) ∧ ∃ r0, rm_W r r0 (sp_pt kd i v x b n).2.1 (sp_pt kd i v x b n).2.2 ∧ τ = rm_p X9 mb r0 σ) := by
  refine go_call (by decide +kernel) (Nat.le_of_ble_eq_true rfl) ?_
  refine go_eq (pc' := 0) (lv' := [(0, .ref mb), (1, rj_i x)]) (st' := []) rfl rfl rfl rfl ?_
  refine go_aload_n dX12_plainTurns_0 rfl 0 rfl ?_
  refine go_iconst (v := Int32.ofInt 2) dX12_plainTurns_1 rfl ?_
  refine go_callV (d1 := d - 1) wVX12_248 kX12 rm_ob rfl (by omega) (m_runs (c := 2) (by omega) (hb := (show r 17 = b from hb)) (hn := (show r 18 0 = n from hn)) (by omega)) rfl (Nat.le_of_ble_eq_true rfl) dX12_plainTurns_2 (fun w σ1 hP => ?_)
  obtain ⟨rfl, r1, ⟨hr1, hb1, hn1⟩, rfl⟩ := hP
  have q1_19 : r1 19 0 = kd := (congrFun (hr1 19 (by decide) (by decide)) 0).trans (show r 19 0 = kd from hkd)
  have q1_20 : r1 20 0 = i := (congrFun (hr1 20 (by decide) (by decide)) 0).trans (show r 20 0 = i from hi)
  have q1_21 : r1 21 0 = v := (congrFun (hr1 21 (by decide) (by decide)) 0).trans (show r 21 0 = v from hv)
  refine go_aload_n dX12_plainTurns_5 rfl 0 rfl ?_
  refine go_iload_n dX12_plainTurns_6 rfl 1 rfl ?_
  refine go_callV (d1 := d - 1) wVX12_263 kX12 rm_ob rfl (by omega) (m_castsActs (by omega) (x := x) (hb := (show r1 17 = (sp_run b n 2) from hb1)) (hn := (show r1 18 0 = n + 1 from hn1)) (hkd := (show r1 19 0 = kd from q1_19)) (hi := (show r1 20 0 = i from q1_20)) (hv := (show r1 21 0 = v from q1_21)) (by omega) hk2) rfl (Nat.le_of_ble_eq_true rfl) dX12_plainTurns_7 (fun w σ1 hP => ?_)
  obtain ⟨rfl, r2, ⟨hr2, hb2, hn2⟩, rfl⟩ := hP
  have q2_19 : r2 19 0 = kd := (congrFun (hr2 19 (by decide) (by decide)) 0).trans (show r1 19 0 = kd from q1_19)
  have q2_20 : r2 20 0 = i := (congrFun (hr2 20 (by decide) (by decide)) 0).trans (show r1 20 0 = i from q1_20)
  have q2_21 : r2 21 0 = v := (congrFun (hr2 21 (by decide) (by decide)) 0).trans (show r1 21 0 = v from q1_21)
  have bn2 := sp_ca_n kd i x (sp_run b n 2) (n + 1)
  refine go_aload_n dX12_plainTurns_10 rfl 0 rfl ?_
  refine grm_g21 rfl dX12_plainTurns_11 ?_
  rw [show r2 21 0 = v from q2_21]
  refine go_subI dX12_plainTurns_14 ?_
  refine go_retI rfl rfl ?_ dX12_plainTurns_15
  exact ⟨by unfold sp_pt; rfl, r2, ⟨fun k h1 h2 => (hr2 k h1 h2).trans ( (hr1 k h1 h2).trans (rfl)), (by unfold sp_pt; exact (show r2 17 = (sp_ca kd i x (sp_run b n 2) (n + 1)).2.1 from hb2)), (by unfold sp_pt; exact (show r2 18 0 = (sp_ca kd i x (sp_run b n 2) (n + 1)).2.2 from hn2))⟩, rfl⟩
set_option maxRecDepth 20000 in
/-- m_fixedTurns -/
theorem m_fixedTurns {X9 : rj_X} {σ : rj_H} {d : Nat} {mb : Nat} {r : rm_R} {x : Int} (hd : 4 ≤ d) {b : Int → Int} {n kd i v : Int} (hb : r 17 = b) (hn : r 18 0 = n) (hkd : r 19 0 = kd) (hi : r 20 0 = i) (hv : r 21 0 = v) (hn2 : 0 ≤ n ∧ n ≤ 106) (hk2 : 0 ≤ kd ∧ kd ≤ 6) : rj_Cl X9 d yX12_fixedTurns cX12_fixedTurns 2 (some .int) [.ref mb, rj_i x] (rm_p X9 mb r σ) (fun w9 τ => w9 = some (rj_i (sp_ft kd i v x b n).1) ∧ ∃ r0, rm_W r r0 (sp_ft kd i v x b n).2.1 (sp_ft kd i v x b n).2.2 ∧ τ = rm_p X9 mb r0 σ) := by
  refine go_call (by decide +kernel) (Nat.le_of_ble_eq_true rfl) ?_
  refine go_eq (pc' := 0) (lv' := [(0, .ref mb), (1, rj_i x)]) (st' := []) rfl rfl rfl rfl ?_
  refine go_aload_n dX12_fixedTurns_0 rfl 0 rfl ?_
  refine go_bipush (v := Int32.ofInt 21) dX12_fixedTurns_1 (by decide) ?_
  refine go_callV (d1 := d - 1) wVX12_248 kX12 rm_ob rfl (by omega) (m_runs (c := 21) (by omega) (hb := (show r 17 = b from hb)) (hn := (show r 18 0 = n from hn)) (by omega)) rfl (Nat.le_of_ble_eq_true rfl) dX12_fixedTurns_3 (fun w σ1 hP => ?_)
  obtain ⟨rfl, r1, ⟨hr1, hb1, hn1⟩, rfl⟩ := hP
  have q1_19 : r1 19 0 = kd := (congrFun (hr1 19 (by decide) (by decide)) 0).trans (show r 19 0 = kd from hkd)
  have q1_20 : r1 20 0 = i := (congrFun (hr1 20 (by decide) (by decide)) 0).trans (show r 20 0 = i from hi)
  have q1_21 : r1 21 0 = v := (congrFun (hr1 21 (by decide) (by decide)) 0).trans (show r 21 0 = v from hv)
  refine go_aload_n dX12_fixedTurns_6 rfl 0 rfl ?_
  refine go_iload_n dX12_fixedTurns_7 rfl 1 rfl ?_
  refine go_callV (d1 := d - 1) wVX12_269 kX12 rm_ob rfl (by omega) (m_plainTurns (by omega) (x := x) (hb := (show r1 17 = (sp_run b n 21) from hb1)) (hn := (show r1 18 0 = n + 1 from hn1)) (hkd := (show r1 19 0 = kd from q1_19)) (hi := (show r1 20 0 = i from q1_20)) (hv := (show r1 21 0 = v from q1_21)) (by omega) hk2) rfl (Nat.le_of_ble_eq_true rfl) dX12_fixedTurns_8 (fun w σ1 hP => ?_)
  obtain ⟨rfl, r2, ⟨hr2, hb2, hn2⟩, rfl⟩ := hP
  have q2_19 : r2 19 0 = kd := (congrFun (hr2 19 (by decide) (by decide)) 0).trans (show r1 19 0 = kd from q1_19)
  have q2_20 : r2 20 0 = i := (congrFun (hr2 20 (by decide) (by decide)) 0).trans (show r1 20 0 = i from q1_20)
  have q2_21 : r2 21 0 = v := (congrFun (hr2 21 (by decide) (by decide)) 0).trans (show r1 21 0 = v from q1_21)
  have bn2 := sp_pt_n kd i v x (sp_run b n 21) (n + 1)
  refine go_negI dX12_fixedTurns_11 ?_
  refine go_retI rfl rfl ?_ dX12_fixedTurns_12
  exact ⟨by unfold sp_ft; rfl, r2, ⟨fun k h1 h2 => (hr2 k h1 h2).trans ( (hr1 k h1 h2).trans (rfl)), (by unfold sp_ft; exact (show r2 17 = (sp_pt kd i v x (sp_run b n 21) (n + 1)).2.1 from hb2)), (by unfold sp_ft; exact (show r2 18 0 = (sp_pt kd i v x (sp_run b n 21) (n + 1)).2.2 from hn2))⟩, rfl⟩
set_option maxRecDepth 20000 in
/-- m_turnsActs -/
theorem m_turnsActs {X9 : rj_X} {σ : rj_H} {d : Nat} {mb : Nat} {r : rm_R} {x : Int} (hd : 5 ≤ d) {b : Int → Int} {n kd i v : Int} (hb : r 17 = b) (hn : r 18 0 = n) (hkd : r 19 0 = kd) (hi : r 20 0 = i) (hv : r 21 0 = v) (hn2 : 0 ≤ n ∧ n ≤ 105) (hk2 : 0 ≤ kd ∧ kd ≤ 6) : rj_Cl X9 d yX12_turnsActs cX12_turnsActs 2 (some .int) [.ref mb, rj_i x] (rm_p X9 mb r σ) (fun w9 τ => w9 = some (rj_i (sp_tu kd i v x b n).1) ∧ ∃ r0, rm_W r r0 (sp_tu kd i v x b n).2.1 (sp_tu kd i v x b n).2.2 ∧ τ = rm_p X9 mb r0 σ) := by
  refine go_call (by decide +kernel) (Nat.le_of_ble_eq_true rfl) ?_
  refine go_eq (pc' := 0) (lv' := [(0, .ref mb), (1, rj_i x)]) (st' := []) rfl rfl rfl rfl ?_
  refine go_aload_n dX12_turnsActs_0 rfl 0 rfl ?_
  refine grm_g19 rfl dX12_turnsActs_1 ?_
  rw [show r 19 0 = kd from hkd]
  refine go_bipush (v := Int32.ofInt 6) dX12_turnsActs_4 (by decide) ?_
  refine go_icmp_neI (tgt := 26) (by omega) (by omega) dX12_turnsActs_6 (by decide) (fun c_6 => ?_) (fun c_6 => ?_)
  · refine go_aload_n dX12_turnsActs_26 rfl 0 rfl ?_
    refine grm_g19 rfl dX12_turnsActs_27 ?_
    rw [show r 19 0 = kd from hkd]
    refine go_iconst (v := Int32.ofInt 2) dX12_turnsActs_30 rfl ?_
    refine go_callS (d1 := d - 1) wSX12_257 rfl (by omega) (m_isUnder (kd := kd) (k := 2) (by omega) (by omega)) rfl (Nat.le_of_ble_eq_true rfl) dX12_turnsActs_31 (fun w σ1 hP => ?_)
    obtain ⟨rfl, rfl⟩ := hP
    refine go_if_eqB (tgt := 45) dX12_turnsActs_34 (by decide) (fun c_34 => ?_) (fun c_34 => ?_)
    · refine go_aload_n dX12_turnsActs_45 rfl 0 rfl ?_
      refine go_iload_n dX12_turnsActs_46 rfl 1 rfl ?_
      refine go_callV (d1 := d - 1) wVX12_269 kX12 rm_ob rfl (by omega) (m_plainTurns (by omega) (x := x) (hb := (show r 17 = b from hb)) (hn := (show r 18 0 = n from hn)) (hkd := (show r 19 0 = kd from hkd)) (hi := (show r 20 0 = i from hi)) (hv := (show r 21 0 = v from hv)) (by omega) hk2) rfl (Nat.le_of_ble_eq_true rfl) dX12_turnsActs_47 (fun w σ1 hP => ?_)
      obtain ⟨rfl, r1, ⟨hr1, hb1, hn1⟩, rfl⟩ := hP
      have q1_19 : r1 19 0 = kd := (congrFun (hr1 19 (by decide) (by decide)) 0).trans (show r 19 0 = kd from hkd)
      have q1_20 : r1 20 0 = i := (congrFun (hr1 20 (by decide) (by decide)) 0).trans (show r 20 0 = i from hi)
      have q1_21 : r1 21 0 = v := (congrFun (hr1 21 (by decide) (by decide)) 0).trans (show r 21 0 = v from hv)
      have bn1 := sp_pt_n kd i v x b n
      refine go_retI rfl rfl ?_ dX12_turnsActs_50
      exact ⟨by unfold sp_tu; rw [if_neg (by omega), if_neg (by omega)], r1, ⟨fun k h1 h2 => (hr1 k h1 h2).trans (rfl), (by unfold sp_tu; rw [if_neg (by omega), if_neg (by omega)]; exact (show r1 17 = (sp_pt kd i v x b n).2.1 from hb1)), (by unfold sp_tu; rw [if_neg (by omega), if_neg (by omega)]; exact (show r1 18 0 = (sp_pt kd i v x b n).2.2 from hn1))⟩, rfl⟩
    · refine go_aload_n dX12_turnsActs_37 rfl 0 rfl ?_
      refine go_iload_n dX12_turnsActs_38 rfl 1 rfl ?_
      refine go_callV (d1 := d - 1) wVX12_272 kX12 rm_ob rfl (by omega) (m_fixedTurns (by omega) (x := x) (hb := (show r 17 = b from hb)) (hn := (show r 18 0 = n from hn)) (hkd := (show r 19 0 = kd from hkd)) (hi := (show r 20 0 = i from hi)) (hv := (show r 21 0 = v from hv)) (by omega) hk2) rfl (Nat.le_of_ble_eq_true rfl) dX12_turnsActs_39 (fun w σ1 hP => ?_)
      obtain ⟨rfl, r1, ⟨hr1, hb1, hn1⟩, rfl⟩ := hP
      have q1_19 : r1 19 0 = kd := (congrFun (hr1 19 (by decide) (by decide)) 0).trans (show r 19 0 = kd from hkd)
      have q1_20 : r1 20 0 = i := (congrFun (hr1 20 (by decide) (by decide)) 0).trans (show r 20 0 = i from hi)
      have q1_21 : r1 21 0 = v := (congrFun (hr1 21 (by decide) (by decide)) 0).trans (show r 21 0 = v from hv)
      have bn1 := sp_ft_n kd i v x b n
      refine go_goto (tgt := 50) dX12_turnsActs_42 (by decide) ?_
      refine go_retI rfl rfl ?_ dX12_turnsActs_50
      exact ⟨by unfold sp_tu; rw [if_neg (by omega), if_pos (by omega)], r1, ⟨fun k h1 h2 => (hr1 k h1 h2).trans (rfl), (by unfold sp_tu; rw [if_neg (by omega), if_pos (by omega)]; exact (show r1 17 = (sp_ft kd i v x b n).2.1 from hb1)), (by unfold sp_tu; rw [if_neg (by omega), if_pos (by omega)]; exact (show r1 18 0 = (sp_ft kd i v x b n).2.2 from hn1))⟩, rfl⟩
  · refine go_aload_n dX12_turnsActs_9 rfl 0 rfl ?_
    refine go_bipush (v := Int32.ofInt 61) dX12_turnsActs_10 (by decide) ?_
    refine go_callV (d1 := d - 1) wVX12_248 kX12 rm_ob rfl (by omega) (m_runs (c := 61) (by omega) (hb := (show r 17 = b from hb)) (hn := (show r 18 0 = n from hn)) (by omega)) rfl (Nat.le_of_ble_eq_true rfl) dX12_turnsActs_12 (fun w σ1 hP => ?_)
    obtain ⟨rfl, r1, ⟨hr1, hb1, hn1⟩, rfl⟩ := hP
    have q1_19 : r1 19 0 = kd := (congrFun (hr1 19 (by decide) (by decide)) 0).trans (show r 19 0 = kd from hkd)
    have q1_20 : r1 20 0 = i := (congrFun (hr1 20 (by decide) (by decide)) 0).trans (show r 20 0 = i from hi)
    have q1_21 : r1 21 0 = v := (congrFun (hr1 21 (by decide) (by decide)) 0).trans (show r 21 0 = v from hv)
    refine go_aload_n dX12_turnsActs_15 rfl 0 rfl ?_
    refine go_iload_n dX12_turnsActs_16 rfl 1 rfl ?_
    refine go_callV (d1 := d - 1) wVX12_272 kX12 rm_ob rfl (by omega) (m_fixedTurns (by omega) (x := x) (hb := (show r1 17 = (sp_run b n 61) from hb1)) (hn := (show r1 18 0 = n + 1 from hn1)) (hkd := (show r1 19 0 = kd from q1_19)) (hi := (show r1 20 0 = i from q1_20)) (hv := (show r1 21 0 = v from q1_21)) (by omega) hk2) rfl (Nat.le_of_ble_eq_true rfl) dX12_turnsActs_17 (fun w σ1 hP => ?_)
    obtain ⟨rfl, r2, ⟨hr2, hb2, hn2⟩, rfl⟩ := hP
    have q2_19 : r2 19 0 = kd := (congrFun (hr2 19 (by decide) (by decide)) 0).trans (show r1 19 0 = kd from q1_19)
    have q2_20 : r2 20 0 = i := (congrFun (hr2 20 (by decide) (by decide)) 0).trans (show r1 20 0 = i from q1_20)
    have q2_21 : r2 21 0 = v := (congrFun (hr2 21 (by decide) (by decide)) 0).trans (show r1 21 0 = v from q1_21)
    have bn2 := sp_ft_n kd i v x (sp_run b n 61) (n + 1)
    refine go_aload_n dX12_turnsActs_20 rfl 0 rfl ?_
    refine grm_g21 rfl dX12_turnsActs_21 ?_
    rw [show r2 21 0 = v from q2_21]
    refine go_addI dX12_turnsActs_24 ?_
    refine go_retI rfl rfl ?_ dX12_turnsActs_25
    exact ⟨by unfold sp_tu; rw [if_pos (by omega)], r2, ⟨fun k h1 h2 => (hr2 k h1 h2).trans ( (hr1 k h1 h2).trans (rfl)), (by unfold sp_tu; rw [if_pos (by omega)]; exact (show r2 17 = (sp_ft kd i v x (sp_run b n 61) (n + 1)).2.1 from hb2)), (by unfold sp_tu; rw [if_pos (by omega)]; exact (show r2 18 0 = (sp_ft kd i v x (sp_run b n 61) (n + 1)).2.2 from hn2))⟩, rfl⟩
set_option maxRecDepth 20000 in
/-- m_plainTells -/
theorem m_plainTells {X9 : rj_X} {σ : rj_H} {d : Nat} {mb : Nat} {r : rm_R} {x : Int} (hd : 6 ≤ d) {b : Int → Int} {n kd i v : Int} (hb : r 17 = b) (hn : r 18 0 = n) (hkd : r 19 0 = kd) (hi : r 20 0 = i) (hv : r 21 0 = v) (hn2 : 0 ≤ n ∧ n ≤ 104) (hk2 : 0 ≤ kd ∧ kd ≤ 6) : rj_Cl X9 d yX12_plainTells cX12_plainTells 2 (some .int) [.ref mb, rj_i x] (rm_p X9 mb r σ) (fun w9 τ => w9 = some (rj_i (sp_pl kd i v x b n).1) ∧ ∃ r0, rm_W r r0 (sp_pl kd i v x b n).2.1 (sp_pl kd i v x b n).2.2 ∧ τ = rm_p X9 mb r0 σ) := by
  refine go_call (by decide +kernel) (Nat.le_of_ble_eq_true rfl) ?_
  refine go_eq (pc' := 0) (lv' := [(0, .ref mb), (1, rj_i x)]) (st' := []) rfl rfl rfl rfl ?_
  refine go_aload_n dX12_plainTells_0 rfl 0 rfl ?_
  refine go_iconst (v := Int32.ofInt 3) dX12_plainTells_1 rfl ?_
  refine go_callV (d1 := d - 1) wVX12_248 kX12 rm_ob rfl (by omega) (m_runs (c := 3) (by omega) (hb := (show r 17 = b from hb)) (hn := (show r 18 0 = n from hn)) (by omega)) rfl (Nat.le_of_ble_eq_true rfl) dX12_plainTells_2 (fun w σ1 hP => ?_)
  obtain ⟨rfl, r1, ⟨hr1, hb1, hn1⟩, rfl⟩ := hP
  have q1_19 : r1 19 0 = kd := (congrFun (hr1 19 (by decide) (by decide)) 0).trans (show r 19 0 = kd from hkd)
  have q1_20 : r1 20 0 = i := (congrFun (hr1 20 (by decide) (by decide)) 0).trans (show r 20 0 = i from hi)
  have q1_21 : r1 21 0 = v := (congrFun (hr1 21 (by decide) (by decide)) 0).trans (show r 21 0 = v from hv)
  refine go_aload_n dX12_plainTells_5 rfl 0 rfl ?_
  refine go_iload_n dX12_plainTells_6 rfl 1 rfl ?_
  refine go_callV (d1 := d - 1) wVX12_275 kX12 rm_ob rfl (by omega) (m_turnsActs (by omega) (x := x) (hb := (show r1 17 = (sp_run b n 3) from hb1)) (hn := (show r1 18 0 = n + 1 from hn1)) (hkd := (show r1 19 0 = kd from q1_19)) (hi := (show r1 20 0 = i from q1_20)) (hv := (show r1 21 0 = v from q1_21)) (by omega) hk2) rfl (Nat.le_of_ble_eq_true rfl) dX12_plainTells_7 (fun w σ1 hP => ?_)
  obtain ⟨rfl, r2, ⟨hr2, hb2, hn2⟩, rfl⟩ := hP
  have q2_19 : r2 19 0 = kd := (congrFun (hr2 19 (by decide) (by decide)) 0).trans (show r1 19 0 = kd from q1_19)
  have q2_20 : r2 20 0 = i := (congrFun (hr2 20 (by decide) (by decide)) 0).trans (show r1 20 0 = i from q1_20)
  have q2_21 : r2 21 0 = v := (congrFun (hr2 21 (by decide) (by decide)) 0).trans (show r1 21 0 = v from q1_21)
  have bn2 := sp_tu_n kd i v x (sp_run b n 3) (n + 1)
  refine go_iconst (v := Int32.ofInt 2) dX12_plainTells_10 rfl ?_
  refine go_mulI dX12_plainTells_11 ?_
  refine go_retI rfl rfl ?_ dX12_plainTells_12
  exact ⟨by unfold sp_pl; rfl, r2, ⟨fun k h1 h2 => (hr2 k h1 h2).trans ( (hr1 k h1 h2).trans (rfl)), (by unfold sp_pl; exact (show r2 17 = (sp_tu kd i v x (sp_run b n 3) (n + 1)).2.1 from hb2)), (by unfold sp_pl; exact (show r2 18 0 = (sp_tu kd i v x (sp_run b n 3) (n + 1)).2.2 from hn2))⟩, rfl⟩
set_option maxRecDepth 20000 in
/-- m_tellsActs -/
theorem m_tellsActs {X9 : rj_X} {σ : rj_H} {d : Nat} {mb : Nat} {r : rm_R} {x : Int} (hd : 7 ≤ d) {b : Int → Int} {n kd i v : Int} (hb : r 17 = b) (hn : r 18 0 = n) (hkd : r 19 0 = kd) (hi : r 20 0 = i) (hv : r 21 0 = v) (hn2 : 0 ≤ n ∧ n ≤ 90) (hk2 : 0 ≤ kd ∧ kd ≤ 6) : rj_Cl X9 d yX12_tellsActs cX12_tellsActs 3 (some .int) [.ref mb, rj_i x] (rm_p X9 mb r σ) (fun w9 τ => w9 = some (rj_i (sp_te kd i v x b n).1) ∧ ∃ r0, rm_W r r0 (sp_te kd i v x b n).2.1 (sp_te kd i v x b n).2.2 ∧ τ = rm_p X9 mb r0 σ) := by
  refine go_call (by decide +kernel) (Nat.le_of_ble_eq_true rfl) ?_
  refine go_eq (pc' := 0) (lv' := [(0, .ref mb), (1, rj_i x)]) (st' := []) rfl rfl rfl rfl ?_
  refine go_aload_n dX12_tellsActs_0 rfl 0 rfl ?_
  refine grm_g19 rfl dX12_tellsActs_1 ?_
  rw [show r 19 0 = kd from hkd]
  refine go_iconst (v := Int32.ofInt 3) dX12_tellsActs_4 rfl ?_
  refine go_icmp_neI (tgt := 23) (by omega) (by omega) dX12_tellsActs_5 (by decide) (fun c_5 => ?_) (fun c_5 => ?_)
  · refine go_aload_n dX12_tellsActs_23 rfl 0 rfl ?_
    refine grm_g19 rfl dX12_tellsActs_24 ?_
    rw [show r 19 0 = kd from hkd]
    refine go_iconst (v := Int32.ofInt 4) dX12_tellsActs_27 rfl ?_
    refine go_icmp_neI (tgt := 53) (by omega) (by omega) dX12_tellsActs_28 (by decide) (fun c_28 => ?_) (fun c_28 => ?_)
    · refine go_aload_n dX12_tellsActs_53 rfl 0 rfl ?_
      refine go_iload_n dX12_tellsActs_54 rfl 1 rfl ?_
      refine go_callV (d1 := d - 1) wVX12_278 kX12 rm_ob rfl (by omega) (m_plainTells (by omega) (x := x) (hb := (show r 17 = b from hb)) (hn := (show r 18 0 = n from hn)) (hkd := (show r 19 0 = kd from hkd)) (hi := (show r 20 0 = i from hi)) (hv := (show r 21 0 = v from hv)) (by omega) hk2) rfl (Nat.le_of_ble_eq_true rfl) dX12_tellsActs_55 (fun w σ1 hP => ?_)
      obtain ⟨rfl, r1, ⟨hr1, hb1, hn1⟩, rfl⟩ := hP
      have q1_19 : r1 19 0 = kd := (congrFun (hr1 19 (by decide) (by decide)) 0).trans (show r 19 0 = kd from hkd)
      have q1_20 : r1 20 0 = i := (congrFun (hr1 20 (by decide) (by decide)) 0).trans (show r 20 0 = i from hi)
      have q1_21 : r1 21 0 = v := (congrFun (hr1 21 (by decide) (by decide)) 0).trans (show r 21 0 = v from hv)
      have bn1 := sp_pl_n kd i v x b n
      refine go_retI rfl rfl ?_ dX12_tellsActs_58
      exact ⟨by unfold sp_te; rw [if_neg (by omega), if_neg (by omega)], r1, ⟨fun k h1 h2 => (hr1 k h1 h2).trans (rfl), (by unfold sp_te; rw [if_neg (by omega), if_neg (by omega)]; exact (show r1 17 = (sp_pl kd i v x b n).2.1 from hb1)), (by unfold sp_te; rw [if_neg (by omega), if_neg (by omega)]; exact (show r1 18 0 = (sp_pl kd i v x b n).2.2 from hn1))⟩, rfl⟩
    · refine go_aload_n dX12_tellsActs_31 rfl 0 rfl ?_
      refine go_bipush (v := Int32.ofInt 41) dX12_tellsActs_32 (by decide) ?_
      refine go_callV (d1 := d - 1) wVX12_248 kX12 rm_ob rfl (by omega) (m_runs (c := 41) (by omega) (hb := (show r 17 = b from hb)) (hn := (show r 18 0 = n from hn)) (by omega)) rfl (Nat.le_of_ble_eq_true rfl) dX12_tellsActs_34 (fun w σ1 hP => ?_)
      obtain ⟨rfl, r1, ⟨hr1, hb1, hn1⟩, rfl⟩ := hP
      have q1_19 : r1 19 0 = kd := (congrFun (hr1 19 (by decide) (by decide)) 0).trans (show r 19 0 = kd from hkd)
      have q1_20 : r1 20 0 = i := (congrFun (hr1 20 (by decide) (by decide)) 0).trans (show r 20 0 = i from hi)
      have q1_21 : r1 21 0 = v := (congrFun (hr1 21 (by decide) (by decide)) 0).trans (show r 21 0 = v from hv)
      refine go_aload_n dX12_tellsActs_37 rfl 0 rfl ?_
      refine go_iload_n dX12_tellsActs_38 rfl 1 rfl ?_
      refine go_iconst (v := Int32.ofInt 1) dX12_tellsActs_39 rfl ?_
      refine go_subI dX12_tellsActs_40 ?_
      refine go_callV (d1 := d - 1) wVX12_278 kX12 rm_ob rfl (by omega) (m_plainTells (by omega) (x := x - 1) (hb := (show r1 17 = (sp_run b n 41) from hb1)) (hn := (show r1 18 0 = n + 1 from hn1)) (hkd := (show r1 19 0 = kd from q1_19)) (hi := (show r1 20 0 = i from q1_20)) (hv := (show r1 21 0 = v from q1_21)) (by omega) hk2) rfl (Nat.le_of_ble_eq_true rfl) dX12_tellsActs_41 (fun w σ1 hP => ?_)
      obtain ⟨rfl, r2, ⟨hr2, hb2, hn2⟩, rfl⟩ := hP
      have q2_19 : r2 19 0 = kd := (congrFun (hr2 19 (by decide) (by decide)) 0).trans (show r1 19 0 = kd from q1_19)
      have q2_20 : r2 20 0 = i := (congrFun (hr2 20 (by decide) (by decide)) 0).trans (show r1 20 0 = i from q1_20)
      have q2_21 : r2 21 0 = v := (congrFun (hr2 21 (by decide) (by decide)) 0).trans (show r1 21 0 = v from q1_21)
      have bn2 := sp_pl_n kd i v (x - 1) (sp_run b n 41) (n + 1)
      refine go_istore_nS (lv' := [(0, .ref mb), (1, rj_i x), (2, rj_i ((sp_pl kd i v (x - 1) (sp_run b n 41) (n + 1)).1))]) rfl (by decide) rfl dX12_tellsActs_44 ?_
      refine go_iload_n dX12_tellsActs_45 rfl 2 rfl ?_
      refine go_aload_n dX12_tellsActs_46 rfl 0 rfl ?_
      refine go_iconst (v := Int32.ofInt 2) dX12_tellsActs_47 rfl ?_
      refine go_callV (d1 := d - 1) wVX12_263 kX12 rm_ob rfl (by omega) (m_castsActs (by omega) (x := 2) (hb := (show r2 17 = (sp_pl kd i v (x - 1) (sp_run b n 41) (n + 1)).2.1 from hb2)) (hn := (show r2 18 0 = (sp_pl kd i v (x - 1) (sp_run b n 41) (n + 1)).2.2 from hn2)) (hkd := (show r2 19 0 = kd from q2_19)) (hi := (show r2 20 0 = i from q2_20)) (hv := (show r2 21 0 = v from q2_21)) (by omega) hk2) rfl (Nat.le_of_ble_eq_true rfl) dX12_tellsActs_48 (fun w σ1 hP => ?_)
      obtain ⟨rfl, r3, ⟨hr3, hb3, hn3⟩, rfl⟩ := hP
      have q3_19 : r3 19 0 = kd := (congrFun (hr3 19 (by decide) (by decide)) 0).trans (show r2 19 0 = kd from q2_19)
      have q3_20 : r3 20 0 = i := (congrFun (hr3 20 (by decide) (by decide)) 0).trans (show r2 20 0 = i from q2_20)
      have q3_21 : r3 21 0 = v := (congrFun (hr3 21 (by decide) (by decide)) 0).trans (show r2 21 0 = v from q2_21)
      have bn3 := sp_ca_n kd i 2 ((sp_pl kd i v (x - 1) (sp_run b n 41) (n + 1)).2.1) ((sp_pl kd i v (x - 1) (sp_run b n 41) (n + 1)).2.2)
      refine go_addI dX12_tellsActs_51 ?_
      refine go_retI rfl rfl ?_ dX12_tellsActs_52
      exact ⟨by unfold sp_te; rw [if_neg (by omega), if_pos (by omega)], r3, ⟨fun k h1 h2 => (hr3 k h1 h2).trans ( (hr2 k h1 h2).trans ( (hr1 k h1 h2).trans (rfl))), (by unfold sp_te; rw [if_neg (by omega), if_pos (by omega)]; exact (show r3 17 = (sp_ca kd i 2 ((sp_pl kd i v (x - 1) (sp_run b n 41) (n + 1)).2.1) ((sp_pl kd i v (x - 1) (sp_run b n 41) (n + 1)).2.2)).2.1 from hb3)), (by unfold sp_te; rw [if_neg (by omega), if_pos (by omega)]; exact (show r3 18 0 = (sp_ca kd i 2 ((sp_pl kd i v (x - 1) (sp_run b n 41) (n + 1)).2.1) ((sp_pl kd i v (x - 1) (sp_run b n 41) (n + 1)).2.2)).2.2 from hn3))⟩, rfl⟩
  · refine go_aload_n dX12_tellsActs_8 rfl 0 rfl ?_
    refine go_bipush (v := Int32.ofInt 31) dX12_tellsActs_9 (by decide) ?_
    refine go_callV (d1 := d - 1) wVX12_248 kX12 rm_ob rfl (by omega) (m_runs (c := 31) (by omega) (hb := (show r 17 = b from hb)) (hn := (show r 18 0 = n from hn)) (by omega)) rfl (Nat.le_of_ble_eq_true rfl) dX12_tellsActs_11 (fun w σ1 hP => ?_)
    obtain ⟨rfl, r1, ⟨hr1, hb1, hn1⟩, rfl⟩ := hP
    have q1_19 : r1 19 0 = kd := (congrFun (hr1 19 (by decide) (by decide)) 0).trans (show r 19 0 = kd from hkd)
    have q1_20 : r1 20 0 = i := (congrFun (hr1 20 (by decide) (by decide)) 0).trans (show r 20 0 = i from hi)
    have q1_21 : r1 21 0 = v := (congrFun (hr1 21 (by decide) (by decide)) 0).trans (show r 21 0 = v from hv)
    refine go_aload_n dX12_tellsActs_14 rfl 0 rfl ?_
    refine go_iload_n dX12_tellsActs_15 rfl 1 rfl ?_
    refine go_callV (d1 := d - 1) wVX12_278 kX12 rm_ob rfl (by omega) (m_plainTells (by omega) (x := x) (hb := (show r1 17 = (sp_run b n 31) from hb1)) (hn := (show r1 18 0 = n + 1 from hn1)) (hkd := (show r1 19 0 = kd from q1_19)) (hi := (show r1 20 0 = i from q1_20)) (hv := (show r1 21 0 = v from q1_21)) (by omega) hk2) rfl (Nat.le_of_ble_eq_true rfl) dX12_tellsActs_16 (fun w σ1 hP => ?_)
    obtain ⟨rfl, r2, ⟨hr2, hb2, hn2⟩, rfl⟩ := hP
    have q2_19 : r2 19 0 = kd := (congrFun (hr2 19 (by decide) (by decide)) 0).trans (show r1 19 0 = kd from q1_19)
    have q2_20 : r2 20 0 = i := (congrFun (hr2 20 (by decide) (by decide)) 0).trans (show r1 20 0 = i from q1_20)
    have q2_21 : r2 21 0 = v := (congrFun (hr2 21 (by decide) (by decide)) 0).trans (show r1 21 0 = v from q1_21)
    have bn2 := sp_pl_n kd i v x (sp_run b n 31) (n + 1)
    refine go_bipush (v := Int32.ofInt 7) dX12_tellsActs_19 (by decide) ?_
    refine go_xorI dX12_tellsActs_21 ?_
    refine go_retI rfl rfl ?_ dX12_tellsActs_22
    exact ⟨by unfold sp_te; rw [if_pos (by omega)], r2, ⟨fun k h1 h2 => (hr2 k h1 h2).trans ( (hr1 k h1 h2).trans (rfl)), (by unfold sp_te; rw [if_pos (by omega)]; exact (show r2 17 = (sp_pl kd i v x (sp_run b n 31) (n + 1)).2.1 from hb2)), (by unfold sp_te; rw [if_pos (by omega)]; exact (show r2 18 0 = (sp_pl kd i v x (sp_run b n 31) (n + 1)).2.2 from hn2))⟩, rfl⟩
