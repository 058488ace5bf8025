-- ===== PART A: goes FIRST, ahead of the names: the tables' words, and 'selects' of the private methods out of them =====
/-- a private method of a class that the tables say can be made, by its rows of tables_1 -/
def lw_okq (q : MethodName × Nat) : Prop := (q.1.cls ≠ "java/lang/invoke/MethodHandle" ∧ q.1.cls ≠ "java/lang/invoke/VarHandle") ∧ Cond.instantiable q.1.cls q.2 ∈ tables_1 ∧ Cond.privateMethod q.1 ∈ tables_1 ∧ Cond.instanceMethod q.1 ∈ tables_1
theorem lw_p0 : lw_okq (⟨"SunMirrors$Valley", "move", "()V"⟩, 13) := ⟨⟨by decide +kernel, by decide +kernel⟩, List.mem_of_getElem? (i := 44) (by decide +kernel), List.mem_of_getElem? (i := 458) (by decide +kernel), List.mem_of_getElem? (i := 459) (by decide +kernel)⟩
theorem lw_p1 : lw_okq (⟨"SunMirrors$Valley", "readClause", "()Z"⟩, 13) := ⟨⟨by decide +kernel, by decide +kernel⟩, List.mem_of_getElem? (i := 44) (by decide +kernel), List.mem_of_getElem? (i := 462) (by decide +kernel), List.mem_of_getElem? (i := 463) (by decide +kernel)⟩
theorem lw_p2 : lw_okq (⟨"SunMirrors$Valley", "readWord", "(Ljava/lang/String;)Z"⟩, 13) := ⟨⟨by decide +kernel, by decide +kernel⟩, List.mem_of_getElem? (i := 44) (by decide +kernel), List.mem_of_getElem? (i := 467) (by decide +kernel), List.mem_of_getElem? (i := 468) (by decide +kernel)⟩
theorem lw_p3 : lw_okq (⟨"SunMirrors$Valley", "reads", "(C)Z"⟩, 13) := ⟨⟨by decide +kernel, by decide +kernel⟩, List.mem_of_getElem? (i := 44) (by decide +kernel), List.mem_of_getElem? (i := 509) (by decide +kernel), List.mem_of_getElem? (i := 510) (by decide +kernel)⟩
theorem lw_p4 : lw_okq (⟨"SunMirrors$Valley", "readRule", "(I)Z"⟩, 13) := ⟨⟨by decide +kernel, by decide +kernel⟩, List.mem_of_getElem? (i := 44) (by decide +kernel), List.mem_of_getElem? (i := 513) (by decide +kernel), List.mem_of_getElem? (i := 514) (by decide +kernel)⟩
theorem lw_p5 : lw_okq (⟨"SunMirrors$Valley", "readAny", "(I)Z"⟩, 13) := ⟨⟨by decide +kernel, by decide +kernel⟩, List.mem_of_getElem? (i := 44) (by decide +kernel), List.mem_of_getElem? (i := 517) (by decide +kernel), List.mem_of_getElem? (i := 518) (by decide +kernel)⟩
theorem lw_p6 : lw_okq (⟨"SunMirrors$Valley", "readAll", "(I)Z"⟩, 13) := ⟨⟨by decide +kernel, by decide +kernel⟩, List.mem_of_getElem? (i := 44) (by decide +kernel), List.mem_of_getElem? (i := 521) (by decide +kernel), List.mem_of_getElem? (i := 522) (by decide +kernel)⟩
theorem lw_p7 : lw_okq (⟨"SunMirrors$Valley", "readFactor", "(I)Z"⟩, 13) := ⟨⟨by decide +kernel, by decide +kernel⟩, List.mem_of_getElem? (i := 44) (by decide +kernel), List.mem_of_getElem? (i := 525) (by decide +kernel), List.mem_of_getElem? (i := 526) (by decide +kernel)⟩
theorem lw_p8 : lw_okq (⟨"SunMirrors$Valley", "readTest", "()Z"⟩, 13) := ⟨⟨by decide +kernel, by decide +kernel⟩, List.mem_of_getElem? (i := 44) (by decide +kernel), List.mem_of_getElem? (i := 529) (by decide +kernel), List.mem_of_getElem? (i := 530) (by decide +kernel)⟩
theorem lw_p9 : lw_okq (⟨"SunMirrors$Valley", "readOneOf", "(Ljava/lang/String;)I"⟩, 13) := ⟨⟨by decide +kernel, by decide +kernel⟩, List.mem_of_getElem? (i := 44) (by decide +kernel), List.mem_of_getElem? (i := 533) (by decide +kernel), List.mem_of_getElem? (i := 534) (by decide +kernel)⟩
theorem lw_p10 : lw_okq (⟨"SunMirrors$Valley", "readNumber", "()I"⟩, 13) := ⟨⟨by decide +kernel, by decide +kernel⟩, List.mem_of_getElem? (i := 44) (by decide +kernel), List.mem_of_getElem? (i := 595) (by decide +kernel), List.mem_of_getElem? (i := 596) (by decide +kernel)⟩
theorem lw_p11 : lw_okq (⟨"SunMirrors$Valley", "addStep", "(I)V"⟩, 13) := ⟨⟨by decide +kernel, by decide +kernel⟩, List.mem_of_getElem? (i := 44) (by decide +kernel), List.mem_of_getElem? (i := 600) (by decide +kernel), List.mem_of_getElem? (i := 601) (by decide +kernel)⟩
theorem lw_p12 : lw_okq (⟨"SunMirrors$Valley", "readCloud", "()Z"⟩, 13) := ⟨⟨by decide +kernel, by decide +kernel⟩, List.mem_of_getElem? (i := 44) (by decide +kernel), List.mem_of_getElem? (i := 607) (by decide +kernel), List.mem_of_getElem? (i := 608) (by decide +kernel)⟩
theorem lw_p13 : lw_okq (⟨"SunMirrors$Valley", "readTurn", "()Z"⟩, 13) := ⟨⟨by decide +kernel, by decide +kernel⟩, List.mem_of_getElem? (i := 44) (by decide +kernel), List.mem_of_getElem? (i := 612) (by decide +kernel), List.mem_of_getElem? (i := 613) (by decide +kernel)⟩
theorem lw_p14 : lw_okq (⟨"SunMirrors$Valley", "run", "(II)I"⟩, 13) := ⟨⟨by decide +kernel, by decide +kernel⟩, List.mem_of_getElem? (i := 44) (by decide +kernel), List.mem_of_getElem? (i := 644) (by decide +kernel), List.mem_of_getElem? (i := 645) (by decide +kernel)⟩
theorem lw_p15 : lw_okq (⟨"SunMirrors$Valley", "quartersOfTest", "(I)I"⟩, 13) := ⟨⟨by decide +kernel, by decide +kernel⟩, List.mem_of_getElem? (i := 44) (by decide +kernel), List.mem_of_getElem? (i := 651) (by decide +kernel), List.mem_of_getElem? (i := 652) (by decide +kernel)⟩
def lw_privs_1 : List (MethodName × Nat) := [(⟨"SunMirrors$Valley", "move", "()V"⟩, 13), (⟨"SunMirrors$Valley", "readClause", "()Z"⟩, 13), (⟨"SunMirrors$Valley", "readWord", "(Ljava/lang/String;)Z"⟩, 13), (⟨"SunMirrors$Valley", "reads", "(C)Z"⟩, 13), (⟨"SunMirrors$Valley", "readRule", "(I)Z"⟩, 13), (⟨"SunMirrors$Valley", "readAny", "(I)Z"⟩, 13), (⟨"SunMirrors$Valley", "readAll", "(I)Z"⟩, 13), (⟨"SunMirrors$Valley", "readFactor", "(I)Z"⟩, 13), (⟨"SunMirrors$Valley", "readTest", "()Z"⟩, 13), (⟨"SunMirrors$Valley", "readOneOf", "(Ljava/lang/String;)I"⟩, 13), (⟨"SunMirrors$Valley", "readNumber", "()I"⟩, 13), (⟨"SunMirrors$Valley", "addStep", "(I)V"⟩, 13), (⟨"SunMirrors$Valley", "readCloud", "()Z"⟩, 13), (⟨"SunMirrors$Valley", "readTurn", "()Z"⟩, 13), (⟨"SunMirrors$Valley", "run", "(II)I"⟩, 13), (⟨"SunMirrors$Valley", "quartersOfTest", "(I)I"⟩, 13)]
theorem lw_r1 : ∀ q ∈ lw_privs_1, lw_okq q := List.forall_mem_cons.mpr ⟨lw_p0, List.forall_mem_cons.mpr ⟨lw_p1, List.forall_mem_cons.mpr ⟨lw_p2, List.forall_mem_cons.mpr ⟨lw_p3, List.forall_mem_cons.mpr ⟨lw_p4, List.forall_mem_cons.mpr ⟨lw_p5, List.forall_mem_cons.mpr ⟨lw_p6, List.forall_mem_cons.mpr ⟨lw_p7, List.forall_mem_cons.mpr ⟨lw_p8, List.forall_mem_cons.mpr ⟨lw_p9, List.forall_mem_cons.mpr ⟨lw_p10, List.forall_mem_cons.mpr ⟨lw_p11, List.forall_mem_cons.mpr ⟨lw_p12, List.forall_mem_cons.mpr ⟨lw_p13, List.forall_mem_cons.mpr ⟨lw_p14, List.forall_mem_cons.mpr ⟨lw_p15, fun _ h => absurd h List.not_mem_nil⟩⟩⟩⟩⟩⟩⟩⟩⟩⟩⟩⟩⟩⟩⟩⟩
theorem lw_p16 : lw_okq (⟨"SunMirrors", "canBe", "(LSunMirrors$Mirror;I)Z"⟩, 10) := ⟨⟨by decide +kernel, by decide +kernel⟩, List.mem_of_getElem? (i := 24) (by decide +kernel), List.mem_of_getElem? (i := 701) (by decide +kernel), List.mem_of_getElem? (i := 702) (by decide +kernel)⟩
theorem lw_p17 : lw_okq (⟨"SunMirrors", "turnsTooFar", "(II)Z"⟩, 10) := ⟨⟨by decide +kernel, by decide +kernel⟩, List.mem_of_getElem? (i := 24) (by decide +kernel), List.mem_of_getElem? (i := 705) (by decide +kernel), List.mem_of_getElem? (i := 706) (by decide +kernel)⟩
theorem lw_p18 : lw_okq (⟨"SunMirrors$Scene", "thrownQuarters", "(III)I"⟩, 15) := ⟨⟨by decide +kernel, by decide +kernel⟩, List.mem_of_getElem? (i := 32) (by decide +kernel), List.mem_of_getElem? (i := 721) (by decide +kernel), List.mem_of_getElem? (i := 722) (by decide +kernel)⟩
theorem lw_p19 : lw_okq (⟨"SunMirrors", "planWorth", "()I"⟩, 10) := ⟨⟨by decide +kernel, by decide +kernel⟩, List.mem_of_getElem? (i := 24) (by decide +kernel), List.mem_of_getElem? (i := 761) (by decide +kernel), List.mem_of_getElem? (i := 762) (by decide +kernel)⟩
theorem lw_p20 : lw_okq (⟨"SunMirrors", "worstOff", "()I"⟩, 10) := ⟨⟨by decide +kernel, by decide +kernel⟩, List.mem_of_getElem? (i := 24) (by decide +kernel), List.mem_of_getElem? (i := 765) (by decide +kernel), List.mem_of_getElem? (i := 766) (by decide +kernel)⟩
theorem lw_p21 : lw_okq (⟨"SunMirrors", "sumFromBehind", "(LSunMirrors$Mirror;)V"⟩, 10) := ⟨⟨by decide +kernel, by decide +kernel⟩, List.mem_of_getElem? (i := 24) (by decide +kernel), List.mem_of_getElem? (i := 773) (by decide +kernel), List.mem_of_getElem? (i := 774) (by decide +kernel)⟩
theorem lw_p22 : lw_okq (⟨"SunMirrors", "sumBy", "(LSunMirrors$Mirror;III)I"⟩, 10) := ⟨⟨by decide +kernel, by decide +kernel⟩, List.mem_of_getElem? (i := 24) (by decide +kernel), List.mem_of_getElem? (i := 778) (by decide +kernel), List.mem_of_getElem? (i := 779) (by decide +kernel)⟩
theorem lw_p23 : lw_okq (⟨"SunMirrors", "bestAt", "(LSunMirrors$Mirror;I)I"⟩, 10) := ⟨⟨by decide +kernel, by decide +kernel⟩, List.mem_of_getElem? (i := 24) (by decide +kernel), List.mem_of_getElem? (i := 784) (by decide +kernel), List.mem_of_getElem? (i := 785) (by decide +kernel)⟩
theorem lw_p24 : lw_okq (⟨"SunMirrors", "firstBest", "(LSunMirrors$Mirror;II)I"⟩, 10) := ⟨⟨by decide +kernel, by decide +kernel⟩, List.mem_of_getElem? (i := 24) (by decide +kernel), List.mem_of_getElem? (i := 788) (by decide +kernel), List.mem_of_getElem? (i := 789) (by decide +kernel)⟩
theorem lw_p25 : lw_okq (⟨"SunMirrors", "countLight", "()V"⟩, 10) := ⟨⟨by decide +kernel, by decide +kernel⟩, List.mem_of_getElem? (i := 24) (by decide +kernel), List.mem_of_getElem? (i := 796) (by decide +kernel), List.mem_of_getElem? (i := 797) (by decide +kernel)⟩
theorem lw_p26 : lw_okq (⟨"SunMirrors", "leastIfAlways", "(II)I"⟩, 10) := ⟨⟨by decide +kernel, by decide +kernel⟩, List.mem_of_getElem? (i := 24) (by decide +kernel), List.mem_of_getElem? (i := 802) (by decide +kernel), List.mem_of_getElem? (i := 803) (by decide +kernel)⟩
theorem lw_p27 : lw_okq (⟨"SunMirrors", "bestSet", "(I)I"⟩, 10) := ⟨⟨by decide +kernel, by decide +kernel⟩, List.mem_of_getElem? (i := 24) (by decide +kernel), List.mem_of_getElem? (i := 810) (by decide +kernel), List.mem_of_getElem? (i := 811) (by decide +kernel)⟩
theorem lw_p28 : lw_okq (⟨"SunMirrors", "litOf", "(I)I"⟩, 10) := ⟨⟨by decide +kernel, by decide +kernel⟩, List.mem_of_getElem? (i := 24) (by decide +kernel), List.mem_of_getElem? (i := 814) (by decide +kernel), List.mem_of_getElem? (i := 815) (by decide +kernel)⟩
theorem lw_p29 : lw_okq (⟨"SunMirrors", "costOf", "(I)I"⟩, 10) := ⟨⟨by decide +kernel, by decide +kernel⟩, List.mem_of_getElem? (i := 24) (by decide +kernel), List.mem_of_getElem? (i := 818) (by decide +kernel), List.mem_of_getElem? (i := 819) (by decide +kernel)⟩
theorem lw_p30 : lw_okq (⟨"SunMirrors", "oddsOfClear", "(II)J"⟩, 10) := ⟨⟨by decide +kernel, by decide +kernel⟩, List.mem_of_getElem? (i := 24) (by decide +kernel), List.mem_of_getElem? (i := 831) (by decide +kernel), List.mem_of_getElem? (i := 832) (by decide +kernel)⟩
theorem lw_p31 : lw_okq (⟨"SunMirrors", "passesOn", "(LSunMirrors$Mirror;LSunMirrors$Mirror;I)Z"⟩, 10) := ⟨⟨by decide +kernel, by decide +kernel⟩, List.mem_of_getElem? (i := 24) (by decide +kernel), List.mem_of_getElem? (i := 864) (by decide +kernel), List.mem_of_getElem? (i := 865) (by decide +kernel)⟩
def lw_privs_2 : List (MethodName × Nat) := [(⟨"SunMirrors", "canBe", "(LSunMirrors$Mirror;I)Z"⟩, 10), (⟨"SunMirrors", "turnsTooFar", "(II)Z"⟩, 10), (⟨"SunMirrors$Scene", "thrownQuarters", "(III)I"⟩, 15), (⟨"SunMirrors", "planWorth", "()I"⟩, 10), (⟨"SunMirrors", "worstOff", "()I"⟩, 10), (⟨"SunMirrors", "sumFromBehind", "(LSunMirrors$Mirror;)V"⟩, 10), (⟨"SunMirrors", "sumBy", "(LSunMirrors$Mirror;III)I"⟩, 10), (⟨"SunMirrors", "bestAt", "(LSunMirrors$Mirror;I)I"⟩, 10), (⟨"SunMirrors", "firstBest", "(LSunMirrors$Mirror;II)I"⟩, 10), (⟨"SunMirrors", "countLight", "()V"⟩, 10), (⟨"SunMirrors", "leastIfAlways", "(II)I"⟩, 10), (⟨"SunMirrors", "bestSet", "(I)I"⟩, 10), (⟨"SunMirrors", "litOf", "(I)I"⟩, 10), (⟨"SunMirrors", "costOf", "(I)I"⟩, 10), (⟨"SunMirrors", "oddsOfClear", "(II)J"⟩, 10), (⟨"SunMirrors", "passesOn", "(LSunMirrors$Mirror;LSunMirrors$Mirror;I)Z"⟩, 10)]
theorem lw_r2 : ∀ q ∈ lw_privs_2, lw_okq q := List.forall_mem_cons.mpr ⟨lw_p16, List.forall_mem_cons.mpr ⟨lw_p17, List.forall_mem_cons.mpr ⟨lw_p18, List.forall_mem_cons.mpr ⟨lw_p19, List.forall_mem_cons.mpr ⟨lw_p20, List.forall_mem_cons.mpr ⟨lw_p21, List.forall_mem_cons.mpr ⟨lw_p22, List.forall_mem_cons.mpr ⟨lw_p23, List.forall_mem_cons.mpr ⟨lw_p24, List.forall_mem_cons.mpr ⟨lw_p25, List.forall_mem_cons.mpr ⟨lw_p26, List.forall_mem_cons.mpr ⟨lw_p27, List.forall_mem_cons.mpr ⟨lw_p28, List.forall_mem_cons.mpr ⟨lw_p29, List.forall_mem_cons.mpr ⟨lw_p30, List.forall_mem_cons.mpr ⟨lw_p31, fun _ h => absurd h List.not_mem_nil⟩⟩⟩⟩⟩⟩⟩⟩⟩⟩⟩⟩⟩⟩⟩⟩
theorem lw_p32 : lw_okq (⟨"SunMirrors", "readBallot", "(I)Z"⟩, 10) := ⟨⟨by decide +kernel, by decide +kernel⟩, List.mem_of_getElem? (i := 24) (by decide +kernel), List.mem_of_getElem? (i := 877) (by decide +kernel), List.mem_of_getElem? (i := 878) (by decide +kernel)⟩
theorem lw_p33 : lw_okq (⟨"SunMirrors", "patchInOrder", "(I)I"⟩, 10) := ⟨⟨by decide +kernel, by decide +kernel⟩, List.mem_of_getElem? (i := 24) (by decide +kernel), List.mem_of_getElem? (i := 889) (by decide +kernel), List.mem_of_getElem? (i := 890) (by decide +kernel)⟩
theorem lw_p34 : lw_okq (⟨"SunMirrors", "aheadInOrder", "(I)I"⟩, 10) := ⟨⟨by decide +kernel, by decide +kernel⟩, List.mem_of_getElem? (i := 24) (by decide +kernel), List.mem_of_getElem? (i := 893) (by decide +kernel), List.mem_of_getElem? (i := 894) (by decide +kernel)⟩
theorem lw_p35 : lw_okq (⟨"SunMirrors", "beatenBy", "(I)I"⟩, 10) := ⟨⟨by decide +kernel, by decide +kernel⟩, List.mem_of_getElem? (i := 24) (by decide +kernel), List.mem_of_getElem? (i := 897) (by decide +kernel), List.mem_of_getElem? (i := 898) (by decide +kernel)⟩
theorem lw_p36 : lw_okq (⟨"SunMirrors", "beats", "(II)Z"⟩, 10) := ⟨⟨by decide +kernel, by decide +kernel⟩, List.mem_of_getElem? (i := 24) (by decide +kernel), List.mem_of_getElem? (i := 901) (by decide +kernel), List.mem_of_getElem? (i := 902) (by decide +kernel)⟩
theorem lw_p37 : lw_okq (⟨"SunMirrors", "winner", "()I"⟩, 10) := ⟨⟨by decide +kernel, by decide +kernel⟩, List.mem_of_getElem? (i := 24) (by decide +kernel), List.mem_of_getElem? (i := 905) (by decide +kernel), List.mem_of_getElem? (i := 906) (by decide +kernel)⟩
theorem lw_p38 : lw_okq (⟨"SunMirrors", "ring", "()I"⟩, 10) := ⟨⟨by decide +kernel, by decide +kernel⟩, List.mem_of_getElem? (i := 24) (by decide +kernel), List.mem_of_getElem? (i := 909) (by decide +kernel), List.mem_of_getElem? (i := 910) (by decide +kernel)⟩
theorem lw_p39 : lw_okq (⟨"SunMirrorsModel", "isMirror", "(I)Z"⟩, 22) := ⟨⟨by decide +kernel, by decide +kernel⟩, List.mem_of_getElem? (i := 1026) (by decide +kernel), List.mem_of_getElem? (i := 1122) (by decide +kernel), List.mem_of_getElem? (i := 1123) (by decide +kernel)⟩
theorem lw_p40 : lw_okq (⟨"SunMirrorsModel", "isPatch", "(I)Z"⟩, 22) := ⟨⟨by decide +kernel, by decide +kernel⟩, List.mem_of_getElem? (i := 1026) (by decide +kernel), List.mem_of_getElem? (i := 1130) (by decide +kernel), List.mem_of_getElem? (i := 1131) (by decide +kernel)⟩
theorem lw_p41 : lw_okq (⟨"SunMirrorsModel", "clauseHere", "()V"⟩, 22) := ⟨⟨by decide +kernel, by decide +kernel⟩, List.mem_of_getElem? (i := 1026) (by decide +kernel), List.mem_of_getElem? (i := 1143) (by decide +kernel), List.mem_of_getElem? (i := 1144) (by decide +kernel)⟩
theorem lw_p42 : lw_okq (⟨"SunMirrorsModel", "here", "()I"⟩, 22) := ⟨⟨by decide +kernel, by decide +kernel⟩, List.mem_of_getElem? (i := 1026) (by decide +kernel), List.mem_of_getElem? (i := 1147) (by decide +kernel), List.mem_of_getElem? (i := 1148) (by decide +kernel)⟩
theorem lw_p43 : lw_okq (⟨"SunMirrorsModel", "when", "(ILjava/lang/String;)V"⟩, 22) := ⟨⟨by decide +kernel, by decide +kernel⟩, List.mem_of_getElem? (i := 1026) (by decide +kernel), List.mem_of_getElem? (i := 1152) (by decide +kernel), List.mem_of_getElem? (i := 1153) (by decide +kernel)⟩
theorem lw_p44 : lw_okq (⟨"SunMirrorsModel", "spells", "(Ljava/lang/String;)V"⟩, 22) := ⟨⟨by decide +kernel, by decide +kernel⟩, List.mem_of_getElem? (i := 1026) (by decide +kernel), List.mem_of_getElem? (i := 1156) (by decide +kernel), List.mem_of_getElem? (i := 1157) (by decide +kernel)⟩
theorem lw_p45 : lw_okq (⟨"SunMirrorsModel", "must", "(I)V"⟩, 22) := ⟨⟨by decide +kernel, by decide +kernel⟩, List.mem_of_getElem? (i := 1026) (by decide +kernel), List.mem_of_getElem? (i := 1162) (by decide +kernel), List.mem_of_getElem? (i := 1163) (by decide +kernel)⟩
theorem lw_p46 : lw_okq (⟨"SunMirrorsModel", "some", "()V"⟩, 22) := ⟨⟨by decide +kernel, by decide +kernel⟩, List.mem_of_getElem? (i := 1026) (by decide +kernel), List.mem_of_getElem? (i := 1166) (by decide +kernel), List.mem_of_getElem? (i := 1167) (by decide +kernel)⟩
theorem lw_p47 : lw_okq (⟨"SunMirrorsModel", "every", "()V"⟩, 22) := ⟨⟨by decide +kernel, by decide +kernel⟩, List.mem_of_getElem? (i := 1026) (by decide +kernel), List.mem_of_getElem? (i := 1170) (by decide +kernel), List.mem_of_getElem? (i := 1171) (by decide +kernel)⟩
def lw_privs_3 : List (MethodName × Nat) := [(⟨"SunMirrors", "readBallot", "(I)Z"⟩, 10), (⟨"SunMirrors", "patchInOrder", "(I)I"⟩, 10), (⟨"SunMirrors", "aheadInOrder", "(I)I"⟩, 10), (⟨"SunMirrors", "beatenBy", "(I)I"⟩, 10), (⟨"SunMirrors", "beats", "(II)Z"⟩, 10), (⟨"SunMirrors", "winner", "()I"⟩, 10), (⟨"SunMirrors", "ring", "()I"⟩, 10), (⟨"SunMirrorsModel", "isMirror", "(I)Z"⟩, 22), (⟨"SunMirrorsModel", "isPatch", "(I)Z"⟩, 22), (⟨"SunMirrorsModel", "clauseHere", "()V"⟩, 22), (⟨"SunMirrorsModel", "here", "()I"⟩, 22), (⟨"SunMirrorsModel", "when", "(ILjava/lang/String;)V"⟩, 22), (⟨"SunMirrorsModel", "spells", "(Ljava/lang/String;)V"⟩, 22), (⟨"SunMirrorsModel", "must", "(I)V"⟩, 22), (⟨"SunMirrorsModel", "some", "()V"⟩, 22), (⟨"SunMirrorsModel", "every", "()V"⟩, 22)]
theorem lw_r3 : ∀ q ∈ lw_privs_3, lw_okq q := List.forall_mem_cons.mpr ⟨lw_p32, List.forall_mem_cons.mpr ⟨lw_p33, List.forall_mem_cons.mpr ⟨lw_p34, List.forall_mem_cons.mpr ⟨lw_p35, List.forall_mem_cons.mpr ⟨lw_p36, List.forall_mem_cons.mpr ⟨lw_p37, List.forall_mem_cons.mpr ⟨lw_p38, List.forall_mem_cons.mpr ⟨lw_p39, List.forall_mem_cons.mpr ⟨lw_p40, List.forall_mem_cons.mpr ⟨lw_p41, List.forall_mem_cons.mpr ⟨lw_p42, List.forall_mem_cons.mpr ⟨lw_p43, List.forall_mem_cons.mpr ⟨lw_p44, List.forall_mem_cons.mpr ⟨lw_p45, List.forall_mem_cons.mpr ⟨lw_p46, List.forall_mem_cons.mpr ⟨lw_p47, fun _ h => absurd h List.not_mem_nil⟩⟩⟩⟩⟩⟩⟩⟩⟩⟩⟩⟩⟩⟩⟩⟩
theorem lw_p48 : lw_okq (⟨"SunMirrorsModel", "factor", "()V"⟩, 22) := ⟨⟨by decide +kernel, by decide +kernel⟩, List.mem_of_getElem? (i := 1026) (by decide +kernel), List.mem_of_getElem? (i := 1174) (by decide +kernel), List.mem_of_getElem? (i := 1175) (by decide +kernel)⟩
theorem lw_p49 : lw_okq (⟨"SunMirrorsModel", "emits", "(I)V"⟩, 22) := ⟨⟨by decide +kernel, by decide +kernel⟩, List.mem_of_getElem? (i := 1026) (by decide +kernel), List.mem_of_getElem? (i := 1178) (by decide +kernel), List.mem_of_getElem? (i := 1179) (by decide +kernel)⟩
theorem lw_p50 : lw_okq (⟨"SunMirrorsModel", "among", "(Ljava/lang/String;)I"⟩, 22) := ⟨⟨by decide +kernel, by decide +kernel⟩, List.mem_of_getElem? (i := 1026) (by decide +kernel), List.mem_of_getElem? (i := 1183) (by decide +kernel), List.mem_of_getElem? (i := 1184) (by decide +kernel)⟩
theorem lw_p51 : lw_okq (⟨"SunMirrorsModel", "figures", "()I"⟩, 22) := ⟨⟨by decide +kernel, by decide +kernel⟩, List.mem_of_getElem? (i := 1026) (by decide +kernel), List.mem_of_getElem? (i := 1188) (by decide +kernel), List.mem_of_getElem? (i := 1189) (by decide +kernel)⟩
theorem lw_p52 : lw_okq (⟨"SunMirrorsModel", "tellsHere", "(ILjava/lang/String;I)V"⟩, 22) := ⟨⟨by decide +kernel, by decide +kernel⟩, List.mem_of_getElem? (i := 1026) (by decide +kernel), List.mem_of_getElem? (i := 1195) (by decide +kernel), List.mem_of_getElem? (i := 1196) (by decide +kernel)⟩
theorem lw_p53 : lw_okq (⟨"SunMirrorsModel", "isFree", "(II)Z"⟩, 22) := ⟨⟨by decide +kernel, by decide +kernel⟩, List.mem_of_getElem? (i := 1026) (by decide +kernel), List.mem_of_getElem? (i := 1204) (by decide +kernel), List.mem_of_getElem? (i := 1205) (by decide +kernel)⟩
theorem lw_p54 : lw_okq (⟨"SunMirrorsModel", "areOpen", "(IIIIII)Z"⟩, 22) := ⟨⟨by decide +kernel, by decide +kernel⟩, List.mem_of_getElem? (i := 1026) (by decide +kernel), List.mem_of_getElem? (i := 1208) (by decide +kernel), List.mem_of_getElem? (i := 1209) (by decide +kernel)⟩
theorem lw_p55 : lw_okq (⟨"SunMirrorsModel", "isBetween", "(IIIIIII)Z"⟩, 22) := ⟨⟨by decide +kernel, by decide +kernel⟩, List.mem_of_getElem? (i := 1026) (by decide +kernel), List.mem_of_getElem? (i := 1212) (by decide +kernel), List.mem_of_getElem? (i := 1213) (by decide +kernel)⟩
theorem lw_p56 : lw_okq (⟨"SunMirrorsModel", "isLit", "(II)Z"⟩, 22) := ⟨⟨by decide +kernel, by decide +kernel⟩, List.mem_of_getElem? (i := 1026) (by decide +kernel), List.mem_of_getElem? (i := 1220) (by decide +kernel), List.mem_of_getElem? (i := 1221) (by decide +kernel)⟩
theorem lw_p57 : lw_okq (⟨"SunMirrorsModel", "isSo", "(IIII)Z"⟩, 22) := ⟨⟨by decide +kernel, by decide +kernel⟩, List.mem_of_getElem? (i := 1026) (by decide +kernel), List.mem_of_getElem? (i := 1224) (by decide +kernel), List.mem_of_getElem? (i := 1225) (by decide +kernel)⟩
theorem lw_p58 : lw_okq (⟨"SunMirrorsModel", "tellsOf", "(II)I"⟩, 22) := ⟨⟨by decide +kernel, by decide +kernel⟩, List.mem_of_getElem? (i := 1026) (by decide +kernel), List.mem_of_getElem? (i := 1228) (by decide +kernel), List.mem_of_getElem? (i := 1229) (by decide +kernel)⟩
theorem lw_p59 : lw_okq (⟨"SunMirrorsModel", "canThrow", "(III)Z"⟩, 22) := ⟨⟨by decide +kernel, by decide +kernel⟩, List.mem_of_getElem? (i := 1026) (by decide +kernel), List.mem_of_getElem? (i := 1232) (by decide +kernel), List.mem_of_getElem? (i := 1233) (by decide +kernel)⟩
theorem lw_p60 : lw_okq (⟨"SunMirrorsModel", "may", "(II)Z"⟩, 22) := ⟨⟨by decide +kernel, by decide +kernel⟩, List.mem_of_getElem? (i := 1026) (by decide +kernel), List.mem_of_getElem? (i := 1236) (by decide +kernel), List.mem_of_getElem? (i := 1237) (by decide +kernel)⟩
theorem lw_p61 : lw_okq (⟨"SunMirrorsModel", "turnsTooFar", "(II)Z"⟩, 22) := ⟨⟨by decide +kernel, by decide +kernel⟩, List.mem_of_getElem? (i := 1026) (by decide +kernel), List.mem_of_getElem? (i := 1254) (by decide +kernel), List.mem_of_getElem? (i := 1255) (by decide +kernel)⟩
theorem lw_p62 : lw_okq (⟨"SunMirrorsModel", "hasOf", "(I)I"⟩, 22) := ⟨⟨by decide +kernel, by decide +kernel⟩, List.mem_of_getElem? (i := 1026) (by decide +kernel), List.mem_of_getElem? (i := 1262) (by decide +kernel), List.mem_of_getElem? (i := 1263) (by decide +kernel)⟩
theorem lw_p63 : lw_okq (⟨"SunMirrorsModel", "lightAt", "(II)I"⟩, 22) := ⟨⟨by decide +kernel, by decide +kernel⟩, List.mem_of_getElem? (i := 1026) (by decide +kernel), List.mem_of_getElem? (i := 1266) (by decide +kernel), List.mem_of_getElem? (i := 1267) (by decide +kernel)⟩
def lw_privs_4 : List (MethodName × Nat) := [(⟨"SunMirrorsModel", "factor", "()V"⟩, 22), (⟨"SunMirrorsModel", "emits", "(I)V"⟩, 22), (⟨"SunMirrorsModel", "among", "(Ljava/lang/String;)I"⟩, 22), (⟨"SunMirrorsModel", "figures", "()I"⟩, 22), (⟨"SunMirrorsModel", "tellsHere", "(ILjava/lang/String;I)V"⟩, 22), (⟨"SunMirrorsModel", "isFree", "(II)Z"⟩, 22), (⟨"SunMirrorsModel", "areOpen", "(IIIIII)Z"⟩, 22), (⟨"SunMirrorsModel", "isBetween", "(IIIIIII)Z"⟩, 22), (⟨"SunMirrorsModel", "isLit", "(II)Z"⟩, 22), (⟨"SunMirrorsModel", "isSo", "(IIII)Z"⟩, 22), (⟨"SunMirrorsModel", "tellsOf", "(II)I"⟩, 22), (⟨"SunMirrorsModel", "canThrow", "(III)Z"⟩, 22), (⟨"SunMirrorsModel", "may", "(II)Z"⟩, 22), (⟨"SunMirrorsModel", "turnsTooFar", "(II)Z"⟩, 22), (⟨"SunMirrorsModel", "hasOf", "(I)I"⟩, 22), (⟨"SunMirrorsModel", "lightAt", "(II)I"⟩, 22)]
theorem lw_r4 : ∀ q ∈ lw_privs_4, lw_okq q := List.forall_mem_cons.mpr ⟨lw_p48, List.forall_mem_cons.mpr ⟨lw_p49, List.forall_mem_cons.mpr ⟨lw_p50, List.forall_mem_cons.mpr ⟨lw_p51, List.forall_mem_cons.mpr ⟨lw_p52, List.forall_mem_cons.mpr ⟨lw_p53, List.forall_mem_cons.mpr ⟨lw_p54, List.forall_mem_cons.mpr ⟨lw_p55, List.forall_mem_cons.mpr ⟨lw_p56, List.forall_mem_cons.mpr ⟨lw_p57, List.forall_mem_cons.mpr ⟨lw_p58, List.forall_mem_cons.mpr ⟨lw_p59, List.forall_mem_cons.mpr ⟨lw_p60, List.forall_mem_cons.mpr ⟨lw_p61, List.forall_mem_cons.mpr ⟨lw_p62, List.forall_mem_cons.mpr ⟨lw_p63, fun _ h => absurd h List.not_mem_nil⟩⟩⟩⟩⟩⟩⟩⟩⟩⟩⟩⟩⟩⟩⟩⟩
theorem lw_p64 : lw_okq (⟨"SunMirrorsModel", "lightOf", "(I)I"⟩, 22) := ⟨⟨by decide +kernel, by decide +kernel⟩, List.mem_of_getElem? (i := 1026) (by decide +kernel), List.mem_of_getElem? (i := 1270) (by decide +kernel), List.mem_of_getElem? (i := 1271) (by decide +kernel)⟩
theorem lw_p65 : lw_okq (⟨"SunMirrorsModel", "hasOwn", "(II)Z"⟩, 22) := ⟨⟨by decide +kernel, by decide +kernel⟩, List.mem_of_getElem? (i := 1026) (by decide +kernel), List.mem_of_getElem? (i := 1274) (by decide +kernel), List.mem_of_getElem? (i := 1275) (by decide +kernel)⟩
theorem lw_p66 : lw_okq (⟨"SunMirrorsModel", "worstOff", "()I"⟩, 22) := ⟨⟨by decide +kernel, by decide +kernel⟩, List.mem_of_getElem? (i := 1026) (by decide +kernel), List.mem_of_getElem? (i := 1282) (by decide +kernel), List.mem_of_getElem? (i := 1283) (by decide +kernel)⟩
theorem lw_p67 : lw_okq (⟨"SunMirrorsModel", "isNext", "(III)Z"⟩, 22) := ⟨⟨by decide +kernel, by decide +kernel⟩, List.mem_of_getElem? (i := 1026) (by decide +kernel), List.mem_of_getElem? (i := 1290) (by decide +kernel), List.mem_of_getElem? (i := 1291) (by decide +kernel)⟩
theorem lw_p68 : lw_okq (⟨"SunMirrorsModel", "worthThere", "(II)I"⟩, 22) := ⟨⟨by decide +kernel, by decide +kernel⟩, List.mem_of_getElem? (i := 1026) (by decide +kernel), List.mem_of_getElem? (i := 1294) (by decide +kernel), List.mem_of_getElem? (i := 1295) (by decide +kernel)⟩
theorem lw_p69 : lw_okq (⟨"SunMirrorsModel", "canThrowOnSome", "(II)Z"⟩, 22) := ⟨⟨by decide +kernel, by decide +kernel⟩, List.mem_of_getElem? (i := 1026) (by decide +kernel), List.mem_of_getElem? (i := 1310) (by decide +kernel), List.mem_of_getElem? (i := 1311) (by decide +kernel)⟩
theorem lw_p70 : lw_okq (⟨"SunMirrorsModel", "sunny", "(I)I"⟩, 22) := ⟨⟨by decide +kernel, by decide +kernel⟩, List.mem_of_getElem? (i := 1026) (by decide +kernel), List.mem_of_getElem? (i := 1333) (by decide +kernel), List.mem_of_getElem? (i := 1334) (by decide +kernel)⟩
theorem lw_p71 : lw_okq (⟨"SunMirrorsModel", "inOrder", "(I)I"⟩, 22) := ⟨⟨by decide +kernel, by decide +kernel⟩, List.mem_of_getElem? (i := 1026) (by decide +kernel), List.mem_of_getElem? (i := 1357) (by decide +kernel), List.mem_of_getElem? (i := 1358) (by decide +kernel)⟩
theorem lw_p72 : lw_okq (⟨"SunMirrorsModel", "placeOf", "(I)I"⟩, 22) := ⟨⟨by decide +kernel, by decide +kernel⟩, List.mem_of_getElem? (i := 1026) (by decide +kernel), List.mem_of_getElem? (i := 1361) (by decide +kernel), List.mem_of_getElem? (i := 1362) (by decide +kernel)⟩
theorem lw_p73 : lw_okq (⟨"SunMirrorsModel", "beaten", "(I)I"⟩, 22) := ⟨⟨by decide +kernel, by decide +kernel⟩, List.mem_of_getElem? (i := 1026) (by decide +kernel), List.mem_of_getElem? (i := 1365) (by decide +kernel), List.mem_of_getElem? (i := 1366) (by decide +kernel)⟩
theorem lw_p74 : lw_okq (⟨"SunMirrorsModel", "doesBeat", "(II)Z"⟩, 22) := ⟨⟨by decide +kernel, by decide +kernel⟩, List.mem_of_getElem? (i := 1026) (by decide +kernel), List.mem_of_getElem? (i := 1369) (by decide +kernel), List.mem_of_getElem? (i := 1370) (by decide +kernel)⟩
theorem lw_p75 : lw_okq (⟨"SunMirrorsModel", "ring", "()I"⟩, 22) := ⟨⟨by decide +kernel, by decide +kernel⟩, List.mem_of_getElem? (i := 1026) (by decide +kernel), List.mem_of_getElem? (i := 1373) (by decide +kernel), List.mem_of_getElem? (i := 1374) (by decide +kernel)⟩
theorem lw_p76 : lw_okq (⟨"SunMirrorsModel", "castsActs", "(I)I"⟩, 22) := ⟨⟨by decide +kernel, by decide +kernel⟩, List.mem_of_getElem? (i := 1026) (by decide +kernel), List.mem_of_getElem? (i := 1381) (by decide +kernel), List.mem_of_getElem? (i := 1382) (by decide +kernel)⟩
theorem lw_p77 : lw_okq (⟨"SunMirrorsModel", "runs", "(I)V"⟩, 22) := ⟨⟨by decide +kernel, by decide +kernel⟩, List.mem_of_getElem? (i := 1026) (by decide +kernel), List.mem_of_getElem? (i := 1388) (by decide +kernel), List.mem_of_getElem? (i := 1389) (by decide +kernel)⟩
theorem lw_p78 : lw_okq (⟨"SunMirrorsModel", "plainCasts", "(I)I"⟩, 22) := ⟨⟨by decide +kernel, by decide +kernel⟩, List.mem_of_getElem? (i := 1026) (by decide +kernel), List.mem_of_getElem? (i := 1392) (by decide +kernel), List.mem_of_getElem? (i := 1393) (by decide +kernel)⟩
theorem lw_p79 : lw_okq (⟨"SunMirrorsModel", "turnsActs", "(I)I"⟩, 22) := ⟨⟨by decide +kernel, by decide +kernel⟩, List.mem_of_getElem? (i := 1026) (by decide +kernel), List.mem_of_getElem? (i := 1396) (by decide +kernel), List.mem_of_getElem? (i := 1397) (by decide +kernel)⟩
def lw_privs_5 : List (MethodName × Nat) := [(⟨"SunMirrorsModel", "lightOf", "(I)I"⟩, 22), (⟨"SunMirrorsModel", "hasOwn", "(II)Z"⟩, 22), (⟨"SunMirrorsModel", "worstOff", "()I"⟩, 22), (⟨"SunMirrorsModel", "isNext", "(III)Z"⟩, 22), (⟨"SunMirrorsModel", "worthThere", "(II)I"⟩, 22), (⟨"SunMirrorsModel", "canThrowOnSome", "(II)Z"⟩, 22), (⟨"SunMirrorsModel", "sunny", "(I)I"⟩, 22), (⟨"SunMirrorsModel", "inOrder", "(I)I"⟩, 22), (⟨"SunMirrorsModel", "placeOf", "(I)I"⟩, 22), (⟨"SunMirrorsModel", "beaten", "(I)I"⟩, 22), (⟨"SunMirrorsModel", "doesBeat", "(II)Z"⟩, 22), (⟨"SunMirrorsModel", "ring", "()I"⟩, 22), (⟨"SunMirrorsModel", "castsActs", "(I)I"⟩, 22), (⟨"SunMirrorsModel", "runs", "(I)V"⟩, 22), (⟨"SunMirrorsModel", "plainCasts", "(I)I"⟩, 22), (⟨"SunMirrorsModel", "turnsActs", "(I)I"⟩, 22)]
theorem lw_r5 : ∀ q ∈ lw_privs_5, lw_okq q := List.forall_mem_cons.mpr ⟨lw_p64, List.forall_mem_cons.mpr ⟨lw_p65, List.forall_mem_cons.mpr ⟨lw_p66, List.forall_mem_cons.mpr ⟨lw_p67, List.forall_mem_cons.mpr ⟨lw_p68, List.forall_mem_cons.mpr ⟨lw_p69, List.forall_mem_cons.mpr ⟨lw_p70, List.forall_mem_cons.mpr ⟨lw_p71, List.forall_mem_cons.mpr ⟨lw_p72, List.forall_mem_cons.mpr ⟨lw_p73, List.forall_mem_cons.mpr ⟨lw_p74, List.forall_mem_cons.mpr ⟨lw_p75, List.forall_mem_cons.mpr ⟨lw_p76, List.forall_mem_cons.mpr ⟨lw_p77, List.forall_mem_cons.mpr ⟨lw_p78, List.forall_mem_cons.mpr ⟨lw_p79, fun _ h => absurd h List.not_mem_nil⟩⟩⟩⟩⟩⟩⟩⟩⟩⟩⟩⟩⟩⟩⟩⟩
theorem lw_p80 : lw_okq (⟨"SunMirrorsModel", "fixedTurns", "(I)I"⟩, 22) := ⟨⟨by decide +kernel, by decide +kernel⟩, List.mem_of_getElem? (i := 1026) (by decide +kernel), List.mem_of_getElem? (i := 1400) (by decide +kernel), List.mem_of_getElem? (i := 1401) (by decide +kernel)⟩
theorem lw_p81 : lw_okq (⟨"SunMirrorsModel", "plainTurns", "(I)I"⟩, 22) := ⟨⟨by decide +kernel, by decide +kernel⟩, List.mem_of_getElem? (i := 1026) (by decide +kernel), List.mem_of_getElem? (i := 1404) (by decide +kernel), List.mem_of_getElem? (i := 1405) (by decide +kernel)⟩
theorem lw_p82 : lw_okq (⟨"SunMirrorsModel", "tellsActs", "(I)I"⟩, 22) := ⟨⟨by decide +kernel, by decide +kernel⟩, List.mem_of_getElem? (i := 1026) (by decide +kernel), List.mem_of_getElem? (i := 1408) (by decide +kernel), List.mem_of_getElem? (i := 1409) (by decide +kernel)⟩
theorem lw_p83 : lw_okq (⟨"SunMirrorsModel", "plainTells", "(I)I"⟩, 22) := ⟨⟨by decide +kernel, by decide +kernel⟩, List.mem_of_getElem? (i := 1026) (by decide +kernel), List.mem_of_getElem? (i := 1412) (by decide +kernel), List.mem_of_getElem? (i := 1413) (by decide +kernel)⟩
def lw_privs_6 : List (MethodName × Nat) := [(⟨"SunMirrorsModel", "fixedTurns", "(I)I"⟩, 22), (⟨"SunMirrorsModel", "plainTurns", "(I)I"⟩, 22), (⟨"SunMirrorsModel", "tellsActs", "(I)I"⟩, 22), (⟨"SunMirrorsModel", "plainTells", "(I)I"⟩, 22)]
theorem lw_r6 : ∀ q ∈ lw_privs_6, lw_okq q := List.forall_mem_cons.mpr ⟨lw_p80, List.forall_mem_cons.mpr ⟨lw_p81, List.forall_mem_cons.mpr ⟨lw_p82, List.forall_mem_cons.mpr ⟨lw_p83, fun _ h => absurd h List.not_mem_nil⟩⟩⟩⟩
def lw_privs : List (MethodName × Nat) := lw_privs_1 ++ (lw_privs_2 ++ (lw_privs_3 ++ (lw_privs_4 ++ (lw_privs_5 ++ (lw_privs_6)))))
def lw_tbl : List Cond := k2_sels lw_privs ++ tables_1
theorem lw_privs_ok : ∀ q ∈ lw_privs, lw_okq q := by
  show ∀ q ∈ lw_privs_1 ++ (lw_privs_2 ++ (lw_privs_3 ++ (lw_privs_4 ++ (lw_privs_5 ++ (lw_privs_6))))), lw_okq q
  exact List.forall_mem_append.mpr ⟨lw_r1, List.forall_mem_append.mpr ⟨lw_r2, List.forall_mem_append.mpr ⟨lw_r3, List.forall_mem_append.mpr ⟨lw_r4, List.forall_mem_append.mpr ⟨lw_r5, lw_r6⟩⟩⟩⟩⟩

/-! ===== BEGIN words of one list among another's, by their places ===== -/
theorem goodIn_r {big : List Cond} (ws : List Cond) (ps : List Nat) (hp : ws = ps.filterMap (fun i => big[i]?)) (h : ws.all goodWord = true) : GoodIn big ws := by
  intro w hw
  have h1 := List.all_eq_true.mp h w hw
  rw [hp] at hw
  obtain ⟨i, -, hi⟩ := List.mem_filterMap.mp hw
  have hm : w ∈ big := by first | exact List.mem_of_getElem? hi | exact List.getElem?_mem hi
  exact ⟨hm, good_of_word h1⟩
theorem goodIn_app {big a b : List Cond} (ha : GoodIn big a) (hb : GoodIn big b) : GoodIn big (a ++ b) := fun w h => (List.mem_append.mp h).elim (ha w) (hb w)
theorem goodIn_ca {big a b : List Cond} {c : Cond} (ha : GoodIn big (c :: a)) (hb : GoodIn big b) : GoodIn big (c :: (a ++ b)) := fun w h => (List.mem_cons.mp h).elim (fun e => ha w (List.mem_cons.mpr (Or.inl e))) (fun h => (List.mem_append.mp h).elim (fun h => ha w (List.mem_cons.mpr (Or.inr h))) (hb w))
theorem goodIn_sub {big ws : List Cond} (hm : ∀ w ∈ ws, w ∈ big) (h : ws.all goodWord = true) : GoodIn big ws := fun w hw => ⟨hm w hw, good_of_word (List.all_eq_true.mp h w hw)⟩
/-! ===== END ===== -/
def RX0 : String := "SunMirrors$Fixed"
def TX0 : u_T := fun k => match k with
  | 0 => ("SunMirrors$Mirror", "kind", "I", true)
  | 1 => ("SunMirrors$Mirror", "number", "I", true)
  | 2 => ("SunMirrors$Mirror", "x", "I", true)
  | 3 => ("SunMirrors$Mirror", "y", "I", true)
  | 4 => ("SunMirrors$Mirror", "height", "I", true)
  | 5 => ("SunMirrors$Mirror", "size", "I", true)
  | 6 => ("SunMirrors$Mirror", "cost", "I", true)
  | _ => ("SunMirrors$Mirror", "v", "I", true)
def tyX0 : Nat → FieldType := fun k => match k with
  | 0 => .int
  | 1 => .int
  | 2 => .int
  | 3 => .int
  | 4 => .int
  | 5 => .int
  | 6 => .int
  | _ => .int
abbrev wsX00 : List Cond := u_ws RX0 TX0 8
theorem nmX0 : ∀ a, a < 8 → ∀ b, b < 8 → a ≠ b → (TX0 a).2.1 ≠ (TX0 b).2.1 := by decide +kernel
theorem tyX0_ok : ∀ k, k < 8 → parseFieldDescriptor (TX0 k).2.2.1 = some (tyX0 k) := by decide +kernel
abbrev cX0_init : ByteArray := prog_2_method_1_code
def yX0_init : MethodName := ⟨RX0, "<init>", "(IIII)V"⟩
abbrev cX0_mayThrowOn : ByteArray := prog_2_method_2_code
def yX0_mayThrowOn : MethodName := ⟨RX0, "mayThrowOn", "(III)Z"⟩
abbrev cX0_turns : ByteArray := prog_2_method_3_code
def yX0_turns : MethodName := ⟨RX0, "turns", "(ILSunMirrors$Trace;)I"⟩
def RX1 : String := "SunMirrors$Great"
def TX1 : u_T := fun k => match k with
  | 0 => ("SunMirrors$Mirror", "kind", "I", true)
  | 1 => ("SunMirrors$Mirror", "number", "I", true)
  | 2 => ("SunMirrors$Mirror", "x", "I", true)
  | 3 => ("SunMirrors$Mirror", "y", "I", true)
  | 4 => ("SunMirrors$Mirror", "height", "I", true)
  | 5 => ("SunMirrors$Mirror", "size", "I", true)
  | 6 => ("SunMirrors$Mirror", "cost", "I", true)
  | _ => ("SunMirrors$Mirror", "v", "I", true)
def tyX1 : Nat → FieldType := fun k => match k with
  | 0 => .int
  | 1 => .int
  | 2 => .int
  | 3 => .int
  | 4 => .int
  | 5 => .int
  | 6 => .int
  | _ => .int
abbrev wsX10 : List Cond := u_ws RX1 TX1 8
theorem nmX1 : ∀ a, a < 8 → ∀ b, b < 8 → a ≠ b → (TX1 a).2.1 ≠ (TX1 b).2.1 := by decide +kernel
theorem tyX1_ok : ∀ k, k < 8 → parseFieldDescriptor (TX1 k).2.2.1 = some (tyX1 k) := by decide +kernel
abbrev cX1_init : ByteArray := prog_3_method_1_code
def yX1_init : MethodName := ⟨RX1, "<init>", "(IIII)V"⟩
abbrev cX1_mayThrowOn : ByteArray := prog_3_method_2_code
def yX1_mayThrowOn : MethodName := ⟨RX1, "mayThrowOn", "(III)Z"⟩
abbrev cX1_light : ByteArray := prog_3_method_3_code
def yX1_light : MethodName := ⟨RX1, "light", "()I"⟩
abbrev cX1_tells : ByteArray := prog_3_method_4_code
def yX1_tells : MethodName := ⟨RX1, "tells", "(ILSunMirrors$Trace;)I"⟩
def RX2 : String := "SunMirrors$Mirror"
def TX2 : u_T := fun k => match k with
  | 0 => ("SunMirrors$Mirror", "kind", "I", true)
  | 1 => ("SunMirrors$Mirror", "number", "I", true)
  | 2 => ("SunMirrors$Mirror", "x", "I", true)
  | 3 => ("SunMirrors$Mirror", "y", "I", true)
  | 4 => ("SunMirrors$Mirror", "height", "I", true)
  | 5 => ("SunMirrors$Mirror", "size", "I", true)
  | 6 => ("SunMirrors$Mirror", "cost", "I", true)
  | _ => ("SunMirrors$Mirror", "v", "I", true)
def tyX2 : Nat → FieldType := fun k => match k with
  | 0 => .int
  | 1 => .int
  | 2 => .int
  | 3 => .int
  | 4 => .int
  | 5 => .int
  | 6 => .int
  | _ => .int
abbrev wsX20 : List Cond := u_ws RX2 TX2 8
theorem nmX2 : ∀ a, a < 8 → ∀ b, b < 8 → a ≠ b → (TX2 a).2.1 ≠ (TX2 b).2.1 := by decide +kernel
theorem tyX2_ok : ∀ k, k < 8 → parseFieldDescriptor (TX2 k).2.2.1 = some (tyX2 k) := by decide +kernel
abbrev cX2_init : ByteArray := prog_4_method_1_code
def yX2_init : MethodName := ⟨RX2, "<init>", "(IIII)V"⟩
abbrev cX2_part : ByteArray := prog_4_method_2_code
def yX2_part : MethodName := ⟨RX2, "part", "(I)I"⟩
abbrev cX2_mayThrowOn : ByteArray := prog_4_method_3_code
def yX2_mayThrowOn : MethodName := ⟨RX2, "mayThrowOn", "(III)Z"⟩
abbrev cX2_light : ByteArray := prog_4_method_4_code
def yX2_light : MethodName := ⟨RX2, "light", "()I"⟩
abbrev cX2_casts : ByteArray := prog_4_method_5_code
def yX2_casts : MethodName := ⟨RX2, "casts", "(ILSunMirrors$Trace;)I"⟩
abbrev cX2_turns : ByteArray := prog_4_method_6_code
def yX2_turns : MethodName := ⟨RX2, "turns", "(ILSunMirrors$Trace;)I"⟩
abbrev cX2_tells : ByteArray := prog_4_method_7_code
def yX2_tells : MethodName := ⟨RX2, "tells", "(ILSunMirrors$Trace;)I"⟩
def RX3 : String := "SunMirrors$One"
def TX3 : u_T := fun k => match k with
  | 0 => ("SunMirrors$Mirror", "kind", "I", true)
  | 1 => ("SunMirrors$Mirror", "number", "I", true)
  | 2 => ("SunMirrors$Mirror", "x", "I", true)
  | 3 => ("SunMirrors$Mirror", "y", "I", true)
  | 4 => ("SunMirrors$Mirror", "height", "I", true)
  | 5 => ("SunMirrors$Mirror", "size", "I", true)
  | 6 => ("SunMirrors$Mirror", "cost", "I", true)
  | _ => ("SunMirrors$Mirror", "v", "I", true)
def tyX3 : Nat → FieldType := fun k => match k with
  | 0 => .int
  | 1 => .int
  | 2 => .int
  | 3 => .int
  | 4 => .int
  | 5 => .int
  | 6 => .int
  | _ => .int
abbrev wsX30 : List Cond := u_ws RX3 TX3 8
theorem nmX3 : ∀ a, a < 8 → ∀ b, b < 8 → a ≠ b → (TX3 a).2.1 ≠ (TX3 b).2.1 := by decide +kernel
theorem tyX3_ok : ∀ k, k < 8 → parseFieldDescriptor (TX3 k).2.2.1 = some (tyX3 k) := by decide +kernel
abbrev cX3_init : ByteArray := prog_5_method_1_code
def yX3_init : MethodName := ⟨RX3, "<init>", "(IIII)V"⟩
abbrev cX3_mayThrowOn : ByteArray := prog_5_method_2_code
def yX3_mayThrowOn : MethodName := ⟨RX3, "mayThrowOn", "(III)Z"⟩
abbrev cX3_tells : ByteArray := prog_5_method_3_code
def yX3_tells : MethodName := ⟨RX3, "tells", "(ILSunMirrors$Trace;)I"⟩
def RX4 : String := "SunMirrors$Passing"
def TX4 : u_T := fun k => match k with
  | 0 => ("SunMirrors$Mirror", "kind", "I", true)
  | 1 => ("SunMirrors$Mirror", "number", "I", true)
  | 2 => ("SunMirrors$Mirror", "x", "I", true)
  | 3 => ("SunMirrors$Mirror", "y", "I", true)
  | 4 => ("SunMirrors$Mirror", "height", "I", true)
  | 5 => ("SunMirrors$Mirror", "size", "I", true)
  | 6 => ("SunMirrors$Mirror", "cost", "I", true)
  | _ => ("SunMirrors$Mirror", "v", "I", true)
def tyX4 : Nat → FieldType := fun k => match k with
  | 0 => .int
  | 1 => .int
  | 2 => .int
  | 3 => .int
  | 4 => .int
  | 5 => .int
  | 6 => .int
  | _ => .int
abbrev wsX40 : List Cond := u_ws RX4 TX4 8
theorem nmX4 : ∀ a, a < 8 → ∀ b, b < 8 → a ≠ b → (TX4 a).2.1 ≠ (TX4 b).2.1 := by decide +kernel
theorem tyX4_ok : ∀ k, k < 8 → parseFieldDescriptor (TX4 k).2.2.1 = some (tyX4 k) := by decide +kernel
abbrev cX4_init : ByteArray := prog_6_method_1_code
def yX4_init : MethodName := ⟨RX4, "<init>", "(IIII)V"⟩
abbrev cX4_casts : ByteArray := prog_6_method_2_code
def yX4_casts : MethodName := ⟨RX4, "casts", "(ILSunMirrors$Trace;)I"⟩
def RX5 : String := "SunMirrors$Scene"
def TX5 : u_T := fun k => match k with
  | 0 => ("SunMirrors$Scene", "mirrors", "[LSunMirrors$Mirror;", true)
  | 1 => ("SunMirrors$Scene", "mirrorCount", "I", false)
  | 2 => ("SunMirrors$Scene", "patches", "[[I", true)
  | 3 => ("SunMirrors$Scene", "patchCount", "I", false)
  | 4 => ("SunMirrors$Scene", "walls", "[LSunMirrors$Wall;", true)
  | 5 => ("SunMirrors$Scene", "wallCount", "I", false)
  | 6 => ("SunMirrors$Scene", "tape", "[B", true)
  | 7 => ("SunMirrors$Scene", "tapeSize", "I", false)
  | 8 => ("SunMirrors$Scene", "valley", "LSunMirrors$Valley;", false)
  | 9 => ("SunMirrors$Scene", "valleyCount", "I", false)
  | 10 => ("SunMirrors$Scene", "plan", "[[I", true)
  | 11 => ("SunMirrors$Scene", "today", "I", false)
  | 12 => ("SunMirrors$Scene", "ahead", "[[I", true)
  | 13 => ("SunMirrors$Scene", "rowCount", "I", false)
  | _ => ("SunMirrors$Scene", "votedPatches", "I", false)
def tyX5 : Nat → FieldType := fun k => match k with
  | 0 => .array (.object "SunMirrors$Mirror")
  | 1 => .int
  | 2 => .array (.array .int)
  | 3 => .int
  | 4 => .array (.object "SunMirrors$Wall")
  | 5 => .int
  | 6 => .array .byte
  | 7 => .int
  | 8 => .object "SunMirrors$Valley"
  | 9 => .int
  | 10 => .array (.array .int)
  | 11 => .int
  | 12 => .array (.array .int)
  | 13 => .int
  | _ => .int
abbrev wsX50 : List Cond := u_ws RX5 TX5 15
theorem nmX5 : ∀ a, a < 15 → ∀ b, b < 15 → a ≠ b → (TX5 a).2.1 ≠ (TX5 b).2.1 := by decide +kernel
theorem tyX5_ok : ∀ k, k < 15 → parseFieldDescriptor (TX5 k).2.2.1 = some (tyX5 k) := by decide +kernel
abbrev cX5_init : ByteArray := prog_7_method_1_code
def yX5_init : MethodName := ⟨RX5, "<init>", "()V"⟩
abbrev cX5_copyFrom : ByteArray := prog_7_method_2_code
def yX5_copyFrom : MethodName := ⟨RX5, "copyFrom", "(LSunMirrors$Scene;)V"⟩
abbrev cX5_copyRows : ByteArray := prog_7_method_3_code
def yX5_copyRows : MethodName := ⟨RX5, "copyRows", "([[I[[I)V"⟩
abbrev cX5_mirrorAt : ByteArray := prog_7_method_4_code
def yX5_mirrorAt : MethodName := ⟨RX5, "mirrorAt", "(I)LSunMirrors$Mirror;"⟩
abbrev cX5_hasPatch : ByteArray := prog_7_method_5_code
def yX5_hasPatch : MethodName := ⟨RX5, "hasPatch", "(I)Z"⟩
abbrev cX5_hasNewPatch : ByteArray := prog_7_method_6_code
def yX5_hasNewPatch : MethodName := ⟨RX5, "hasNewPatch", "()Z"⟩
abbrev cX5_isWallBetween : ByteArray := prog_7_method_7_code
def yX5_isWallBetween : MethodName := ⟨RX5, "isWallBetween", "(LSunMirrors$Mirror;III)Z"⟩
abbrev cX5_isWayFree : ByteArray := prog_7_method_8_code
def yX5_isWayFree : MethodName := ⟨RX5, "isWayFree", "(LSunMirrors$Mirror;I)Z"⟩
abbrev cX5_litQuarters : ByteArray := prog_7_method_9_code
def yX5_litQuarters : MethodName := ⟨RX5, "litQuarters", "(LSunMirrors$Mirror;)I"⟩
abbrev cX5_ownQuarters : ByteArray := prog_7_method_10_code
def yX5_ownQuarters : MethodName := ⟨RX5, "ownQuarters", "(II)I"⟩
abbrev cX5_canQuarters : ByteArray := prog_7_method_11_code
def yX5_canQuarters : MethodName := ⟨RX5, "canQuarters", "(LSunMirrors$Mirror;II)I"⟩
abbrev cX5_planQuarters : ByteArray := prog_7_method_12_code
def yX5_planQuarters : MethodName := ⟨RX5, "planQuarters", "(II)I"⟩
abbrev cX5_thrownQuarters : ByteArray := prog_7_method_13_code
def yX5_thrownQuarters : MethodName := ⟨RX5, "thrownQuarters", "(III)I"⟩
abbrev cX5_lightQuarters : ByteArray := prog_7_method_14_code
def yX5_lightQuarters : MethodName := ⟨RX5, "lightQuarters", "(II)I"⟩
abbrev cX5_lightOf : ByteArray := prog_7_method_15_code
def yX5_lightOf : MethodName := ⟨RX5, "lightOf", "(I)I"⟩
abbrev cX5_snowBehind : ByteArray := prog_7_method_16_code
def yX5_snowBehind : MethodName := ⟨RX5, "snowBehind", "(III)I"⟩
def RX6 : String := "SunMirrors$Told"
def TX6 : u_T := fun k => match k with
  | 0 => ("SunMirrors$Mirror", "kind", "I", true)
  | 1 => ("SunMirrors$Mirror", "number", "I", true)
  | 2 => ("SunMirrors$Mirror", "x", "I", true)
  | 3 => ("SunMirrors$Mirror", "y", "I", true)
  | 4 => ("SunMirrors$Mirror", "height", "I", true)
  | 5 => ("SunMirrors$Mirror", "size", "I", true)
  | 6 => ("SunMirrors$Mirror", "cost", "I", true)
  | _ => ("SunMirrors$Mirror", "v", "I", true)
def tyX6 : Nat → FieldType := fun k => match k with
  | 0 => .int
  | 1 => .int
  | 2 => .int
  | 3 => .int
  | 4 => .int
  | 5 => .int
  | 6 => .int
  | _ => .int
abbrev wsX60 : List Cond := u_ws RX6 TX6 8
theorem nmX6 : ∀ a, a < 8 → ∀ b, b < 8 → a ≠ b → (TX6 a).2.1 ≠ (TX6 b).2.1 := by decide +kernel
theorem tyX6_ok : ∀ k, k < 8 → parseFieldDescriptor (TX6 k).2.2.1 = some (tyX6 k) := by decide +kernel
abbrev cX6_init : ByteArray := prog_8_method_1_code
def yX6_init : MethodName := ⟨RX6, "<init>", "(IIII)V"⟩
abbrev cX6_mayThrowOn : ByteArray := prog_8_method_2_code
def yX6_mayThrowOn : MethodName := ⟨RX6, "mayThrowOn", "(III)Z"⟩
abbrev cX6_turns : ByteArray := prog_8_method_3_code
def yX6_turns : MethodName := ⟨RX6, "turns", "(ILSunMirrors$Trace;)I"⟩
def RX7 : String := "SunMirrors$Trace"
def TX7 : u_T := fun k => match k with
  | 0 => ("SunMirrors$Trace", "bodies", "[I", true)
  | _ => ("SunMirrors$Trace", "ran", "I", false)
def tyX7 : Nat → FieldType := fun k => match k with
  | 0 => .array .int
  | _ => .int
abbrev wsX70 : List Cond := u_ws RX7 TX7 2
theorem nmX7 : ∀ a, a < 2 → ∀ b, b < 2 → a ≠ b → (TX7 a).2.1 ≠ (TX7 b).2.1 := by decide +kernel
theorem tyX7_ok : ∀ k, k < 2 → parseFieldDescriptor (TX7 k).2.2.1 = some (tyX7 k) := by decide +kernel
abbrev cX7_init : ByteArray := prog_9_method_1_code
def yX7_init : MethodName := ⟨RX7, "<init>", "()V"⟩
abbrev cX7_begin : ByteArray := prog_9_method_2_code
def yX7_begin : MethodName := ⟨RX7, "begin", "()V"⟩
abbrev cX7_add : ByteArray := prog_9_method_3_code
def yX7_add : MethodName := ⟨RX7, "add", "(I)V"⟩
def RX8 : String := "SunMirrors$Turned"
def TX8 : u_T := fun k => match k with
  | 0 => ("SunMirrors$Mirror", "kind", "I", true)
  | 1 => ("SunMirrors$Mirror", "number", "I", true)
  | 2 => ("SunMirrors$Mirror", "x", "I", true)
  | 3 => ("SunMirrors$Mirror", "y", "I", true)
  | 4 => ("SunMirrors$Mirror", "height", "I", true)
  | 5 => ("SunMirrors$Mirror", "size", "I", true)
  | 6 => ("SunMirrors$Mirror", "cost", "I", true)
  | _ => ("SunMirrors$Mirror", "v", "I", true)
def tyX8 : Nat → FieldType := fun k => match k with
  | 0 => .int
  | 1 => .int
  | 2 => .int
  | 3 => .int
  | 4 => .int
  | 5 => .int
  | 6 => .int
  | _ => .int
abbrev wsX80 : List Cond := u_ws RX8 TX8 8
theorem nmX8 : ∀ a, a < 8 → ∀ b, b < 8 → a ≠ b → (TX8 a).2.1 ≠ (TX8 b).2.1 := by decide +kernel
theorem tyX8_ok : ∀ k, k < 8 → parseFieldDescriptor (TX8 k).2.2.1 = some (tyX8 k) := by decide +kernel
abbrev cX8_init : ByteArray := prog_10_method_1_code
def yX8_init : MethodName := ⟨RX8, "<init>", "(IIII)V"⟩
abbrev cX8_mayThrowOn : ByteArray := prog_10_method_2_code
def yX8_mayThrowOn : MethodName := ⟨RX8, "mayThrowOn", "(III)Z"⟩
abbrev cX8_casts : ByteArray := prog_10_method_3_code
def yX8_casts : MethodName := ⟨RX8, "casts", "(ILSunMirrors$Trace;)I"⟩
def RX9 : String := "SunMirrors$Valley"
def TX9 : u_T := fun k => match k with
  | 0 => ("SunMirrors$Valley", "steps", "[I", true)
  | 1 => ("SunMirrors$Valley", "stepCount", "I", false)
  | 2 => ("SunMirrors$Valley", "words", "[I", true)
  | 3 => ("SunMirrors$Valley", "ends", "[I", true)
  | 4 => ("SunMirrors$Valley", "clauseCount", "I", false)
  | 5 => ("SunMirrors$Valley", "values", "[I", true)
  | 6 => ("SunMirrors$Valley", "stack", "[I", true)
  | 7 => ("SunMirrors$Valley", "cloud", "I", false)
  | 8 => ("SunMirrors$Valley", "turn", "I", false)
  | 9 => ("SunMirrors$Valley", "text", "[B", false)
  | 10 => ("SunMirrors$Valley", "size", "I", false)
  | 11 => ("SunMirrors$Valley", "at", "I", false)
  | _ => ("SunMirrors$Valley", "sign", "I", false)
def tyX9 : Nat → FieldType := fun k => match k with
  | 0 => .array .int
  | 1 => .int
  | 2 => .array .int
  | 3 => .array .int
  | 4 => .int
  | 5 => .array .int
  | 6 => .array .int
  | 7 => .int
  | 8 => .int
  | 9 => .array .byte
  | 10 => .int
  | 11 => .int
  | _ => .int
abbrev wsX90 : List Cond := u_ws RX9 TX9 13
theorem nmX9 : ∀ a, a < 13 → ∀ b, b < 13 → a ≠ b → (TX9 a).2.1 ≠ (TX9 b).2.1 := by decide +kernel
theorem tyX9_ok : ∀ k, k < 13 → parseFieldDescriptor (TX9 k).2.2.1 = some (tyX9 k) := by decide +kernel
abbrev cX9_init : ByteArray := prog_11_method_1_code
def yX9_init : MethodName := ⟨RX9, "<init>", "()V"⟩
abbrev cX9_quartersOf : ByteArray := prog_11_method_2_code
def yX9_quartersOf : MethodName := ⟨RX9, "quartersOf", "(IIIII)I"⟩
abbrev cX9_run : ByteArray := prog_11_method_3_code
def yX9_run : MethodName := ⟨RX9, "run", "(II)I"⟩
abbrev cX9_partsOf : ByteArray := prog_11_method_4_code
def yX9_partsOf : MethodName := ⟨RX9, "partsOf", "(I)I"⟩
abbrev cX9_quartersOfTest : ByteArray := prog_11_method_5_code
def yX9_quartersOfTest : MethodName := ⟨RX9, "quartersOfTest", "(I)I"⟩
abbrev cX9_faultOf : ByteArray := prog_11_method_6_code
def yX9_faultOf : MethodName := ⟨RX9, "faultOf", "([BI)I"⟩
abbrev cX9_move : ByteArray := prog_11_method_7_code
def yX9_move : MethodName := ⟨RX9, "move", "()V"⟩
abbrev cX9_reads : ByteArray := prog_11_method_8_code
def yX9_reads : MethodName := ⟨RX9, "reads", "(C)Z"⟩
abbrev cX9_readWord : ByteArray := prog_11_method_9_code
def yX9_readWord : MethodName := ⟨RX9, "readWord", "(Ljava/lang/String;)Z"⟩
abbrev cX9_readClause : ByteArray := prog_11_method_10_code
def yX9_readClause : MethodName := ⟨RX9, "readClause", "()Z"⟩
abbrev cX9_readCloud : ByteArray := prog_11_method_11_code
def yX9_readCloud : MethodName := ⟨RX9, "readCloud", "()Z"⟩
abbrev cX9_readTurn : ByteArray := prog_11_method_12_code
def yX9_readTurn : MethodName := ⟨RX9, "readTurn", "()Z"⟩
abbrev cX9_readRule : ByteArray := prog_11_method_13_code
def yX9_readRule : MethodName := ⟨RX9, "readRule", "(I)Z"⟩
abbrev cX9_readAny : ByteArray := prog_11_method_14_code
def yX9_readAny : MethodName := ⟨RX9, "readAny", "(I)Z"⟩
abbrev cX9_readAll : ByteArray := prog_11_method_15_code
def yX9_readAll : MethodName := ⟨RX9, "readAll", "(I)Z"⟩
abbrev cX9_readFactor : ByteArray := prog_11_method_16_code
def yX9_readFactor : MethodName := ⟨RX9, "readFactor", "(I)Z"⟩
abbrev cX9_readTest : ByteArray := prog_11_method_17_code
def yX9_readTest : MethodName := ⟨RX9, "readTest", "()Z"⟩
abbrev cX9_readOneOf : ByteArray := prog_11_method_18_code
def yX9_readOneOf : MethodName := ⟨RX9, "readOneOf", "(Ljava/lang/String;)I"⟩
abbrev cX9_readNumber : ByteArray := prog_11_method_19_code
def yX9_readNumber : MethodName := ⟨RX9, "readNumber", "()I"⟩
abbrev cX9_addStep : ByteArray := prog_11_method_20_code
def yX9_addStep : MethodName := ⟨RX9, "addStep", "(I)V"⟩
def RX10 : String := "SunMirrors$Wall"
def TX10 : u_T := fun k => match k with
  | 0 => ("SunMirrors$Wall", "x", "I", true)
  | 1 => ("SunMirrors$Wall", "y", "I", true)
  | 2 => ("SunMirrors$Wall", "alongX", "I", true)
  | 3 => ("SunMirrors$Wall", "alongY", "I", true)
  | _ => ("SunMirrors$Wall", "height", "I", true)
def tyX10 : Nat → FieldType := fun k => match k with
  | 0 => .int
  | 1 => .int
  | 2 => .int
  | 3 => .int
  | _ => .int
abbrev wsX100 : List Cond := u_ws RX10 TX10 5
theorem nmX10 : ∀ a, a < 5 → ∀ b, b < 5 → a ≠ b → (TX10 a).2.1 ≠ (TX10 b).2.1 := by decide +kernel
theorem tyX10_ok : ∀ k, k < 5 → parseFieldDescriptor (TX10 k).2.2.1 = some (tyX10 k) := by decide +kernel
abbrev cX10_init : ByteArray := prog_12_method_1_code
def yX10_init : MethodName := ⟨RX10, "<init>", "(III)V"⟩
abbrev cX10_isBetween : ByteArray := prog_12_method_2_code
def yX10_isBetween : MethodName := ⟨RX10, "isBetween", "(LSunMirrors$Mirror;III)Z"⟩
def RX11 : String := "SunMirrors"
def TX11 : u_T := fun k => match k with
  | 0 => ("SunMirrors", "now", "LSunMirrors$Scene;", true)
  | 1 => ("SunMirrors", "taken", "LSunMirrors$Scene;", true)
  | 2 => ("SunMirrors", "isTaken", "Z", false)
  | 3 => ("SunMirrors", "latest", "LSunMirrors$Trace;", true)
  | 4 => ("SunMirrors", "cans", "[I", true)
  | 5 => ("SunMirrors", "sums", "[[I", true)
  | 6 => ("SunMirrors", "planned", "[[I", true)
  | 7 => ("SunMirrors", "always", "[[I", true)
  | 8 => ("SunMirrors", "lits", "[I", true)
  | _ => ("SunMirrors", "ballot", "[I", true)
def tyX11 : Nat → FieldType := fun k => match k with
  | 0 => .object "SunMirrors$Scene"
  | 1 => .object "SunMirrors$Scene"
  | 2 => .boolean
  | 3 => .object "SunMirrors$Trace"
  | 4 => .array .int
  | 5 => .array (.array .int)
  | 6 => .array (.array .int)
  | 7 => .array (.array .int)
  | 8 => .array .int
  | _ => .array .int
abbrev wsX110 : List Cond := u_ws RX11 TX11 10
theorem nmX11 : ∀ a, a < 10 → ∀ b, b < 10 → a ≠ b → (TX11 a).2.1 ≠ (TX11 b).2.1 := by decide +kernel
theorem tyX11_ok : ∀ k, k < 10 → parseFieldDescriptor (TX11 k).2.2.1 = some (tyX11 k) := by decide +kernel
abbrev cX11_init : ByteArray := prog_1_method_1_code
def yX11_init : MethodName := ⟨RX11, "<init>", "()V"⟩
abbrev cX11_mirror : ByteArray := prog_1_method_2_code
def yX11_mirror : MethodName := ⟨RX11, "mirror", "(III)I"⟩
abbrev cX11_patch : ByteArray := prog_1_method_3_code
def yX11_patch : MethodName := ⟨RX11, "patch", "(III)I"⟩
abbrev cX11_wall : ByteArray := prog_1_method_4_code
def yX11_wall : MethodName := ⟨RX11, "wall", "(III)I"⟩
abbrev cX11_of : ByteArray := prog_1_method_5_code
def yX11_of : MethodName := ⟨RX11, "of", "(II)I"⟩
abbrev cX11_is : ByteArray := prog_1_method_6_code
def yX11_is : MethodName := ⟨RX11, "is", "(II)I"⟩
abbrev cX11_feed : ByteArray := prog_1_method_7_code
def yX11_feed : MethodName := ⟨RX11, "feed", "(JI)I"⟩
abbrev cX11_valley : ByteArray := prog_1_method_8_code
def yX11_valley : MethodName := ⟨RX11, "valley", "()I"⟩
abbrev cX11_free : ByteArray := prog_1_method_9_code
def yX11_free : MethodName := ⟨RX11, "free", "(II)I"⟩
abbrev cX11_can : ByteArray := prog_1_method_10_code
def yX11_can : MethodName := ⟨RX11, "can", "(III)I"⟩
abbrev cX11_plan : ByteArray := prog_1_method_11_code
def yX11_plan : MethodName := ⟨RX11, "plan", "(III)I"⟩
abbrev cX11_judged : ByteArray := prog_1_method_12_code
def yX11_judged : MethodName := ⟨RX11, "judged", "()I"⟩
abbrev cX11_has : ByteArray := prog_1_method_13_code
def yX11_has : MethodName := ⟨RX11, "has", "(II)I"⟩
abbrev cX11_worth : ByteArray := prog_1_method_14_code
def yX11_worth : MethodName := ⟨RX11, "worth", "(I)I"⟩
abbrev cX11_best : ByteArray := prog_1_method_15_code
def yX11_best : MethodName := ⟨RX11, "best", "(II)I"⟩
abbrev cX11_fair : ByteArray := prog_1_method_16_code
def yX11_fair : MethodName := ⟨RX11, "fair", "(I)I"⟩
abbrev cX11_take : ByteArray := prog_1_method_17_code
def yX11_take : MethodName := ⟨RX11, "take", "(II)I"⟩
abbrev cX11_coarse : ByteArray := prog_1_method_18_code
def yX11_coarse : MethodName := ⟨RX11, "coarse", "(I)I"⟩
abbrev cX11_kept : ByteArray := prog_1_method_19_code
def yX11_kept : MethodName := ⟨RX11, "kept", "(III)J"⟩
abbrev cX11_gone : ByteArray := prog_1_method_20_code
def yX11_gone : MethodName := ⟨RX11, "gone", "(I)I"⟩
abbrev cX11_day : ByteArray := prog_1_method_21_code
def yX11_day : MethodName := ⟨RX11, "day", "()I"⟩
abbrev cX11_passed : ByteArray := prog_1_method_22_code
def yX11_passed : MethodName := ⟨RX11, "passed", "(III)I"⟩
abbrev cX11_vote : ByteArray := prog_1_method_23_code
def yX11_vote : MethodName := ⟨RX11, "vote", "(I)I"⟩
abbrev cX11_clear : ByteArray := prog_1_method_24_code
def yX11_clear : MethodName := ⟨RX11, "clear", "()I"⟩
abbrev cX11_holds : ByteArray := prog_1_method_25_code
def yX11_holds : MethodName := ⟨RX11, "holds", "(I)I"⟩
abbrev cX11_act : ByteArray := prog_1_method_26_code
def yX11_act : MethodName := ⟨RX11, "act", "(III)I"⟩
abbrev cX11_trace : ByteArray := prog_1_method_27_code
def yX11_trace : MethodName := ⟨RX11, "trace", "(I)I"⟩
abbrev cX11_as : ByteArray := prog_1_method_28_code
def yX11_as : MethodName := ⟨RX11, "as", "(II)I"⟩
abbrev cX11_image : ByteArray := prog_1_method_29_code
def yX11_image : MethodName := ⟨RX11, "image", "()I"⟩
abbrev cX11_undo : ByteArray := prog_1_method_30_code
def yX11_undo : MethodName := ⟨RX11, "undo", "()I"⟩
abbrev cX11_count : ByteArray := prog_1_method_31_code
def yX11_count : MethodName := ⟨RX11, "count", "(I)I"⟩
abbrev cX11_isWithin : ByteArray := prog_1_method_32_code
def yX11_isWithin : MethodName := ⟨RX11, "isWithin", "(III)Z"⟩
abbrev cX11_isPoint : ByteArray := prog_1_method_33_code
def yX11_isPoint : MethodName := ⟨RX11, "isPoint", "(I)Z"⟩
abbrev cX11_isMake : ByteArray := prog_1_method_34_code
def yX11_isMake : MethodName := ⟨RX11, "isMake", "(I)Z"⟩
abbrev cX11_isQuarter : ByteArray := prog_1_method_35_code
def yX11_isQuarter : MethodName := ⟨RX11, "isQuarter", "(I)Z"⟩
abbrev cX11_isIn : ByteArray := prog_1_method_36_code
def yX11_isIn : MethodName := ⟨RX11, "isIn", "(II)Z"⟩
abbrev cX11_orNothing : ByteArray := prog_1_method_37_code
def yX11_orNothing : MethodName := ⟨RX11, "orNothing", "(I)I"⟩
abbrev cX11_power : ByteArray := prog_1_method_38_code
def yX11_power : MethodName := ⟨RX11, "power", "(JI)J"⟩
abbrev cX11_commonDivisor : ByteArray := prog_1_method_39_code
def yX11_commonDivisor : MethodName := ⟨RX11, "commonDivisor", "(JJ)J"⟩
abbrev cX11_newMirror : ByteArray := prog_1_method_40_code
def yX11_newMirror : MethodName := ⟨RX11, "newMirror", "(IIII)LSunMirrors$Mirror;"⟩
abbrev cX11_isUnder : ByteArray := prog_1_method_41_code
def yX11_isUnder : MethodName := ⟨RX11, "isUnder", "(LSunMirrors$Mirror;I)Z"⟩
abbrev cX11_canBe : ByteArray := prog_1_method_42_code
def yX11_canBe : MethodName := ⟨RX11, "canBe", "(LSunMirrors$Mirror;I)Z"⟩
abbrev cX11_turnsTooFar : ByteArray := prog_1_method_43_code
def yX11_turnsTooFar : MethodName := ⟨RX11, "turnsTooFar", "(II)Z"⟩
abbrev cX11_planWorth : ByteArray := prog_1_method_44_code
def yX11_planWorth : MethodName := ⟨RX11, "planWorth", "()I"⟩
abbrev cX11_worstOff : ByteArray := prog_1_method_45_code
def yX11_worstOff : MethodName := ⟨RX11, "worstOff", "()I"⟩
abbrev cX11_sumFromBehind : ByteArray := prog_1_method_46_code
def yX11_sumFromBehind : MethodName := ⟨RX11, "sumFromBehind", "(LSunMirrors$Mirror;)V"⟩
abbrev cX11_sumBy : ByteArray := prog_1_method_47_code
def yX11_sumBy : MethodName := ⟨RX11, "sumBy", "(LSunMirrors$Mirror;III)I"⟩
abbrev cX11_bestAt : ByteArray := prog_1_method_48_code
def yX11_bestAt : MethodName := ⟨RX11, "bestAt", "(LSunMirrors$Mirror;I)I"⟩
abbrev cX11_firstBest : ByteArray := prog_1_method_49_code
def yX11_firstBest : MethodName := ⟨RX11, "firstBest", "(LSunMirrors$Mirror;II)I"⟩
abbrev cX11_countLight : ByteArray := prog_1_method_50_code
def yX11_countLight : MethodName := ⟨RX11, "countLight", "()V"⟩
abbrev cX11_leastIfAlways : ByteArray := prog_1_method_51_code
def yX11_leastIfAlways : MethodName := ⟨RX11, "leastIfAlways", "(II)I"⟩
abbrev cX11_bestSet : ByteArray := prog_1_method_52_code
def yX11_bestSet : MethodName := ⟨RX11, "bestSet", "(I)I"⟩
abbrev cX11_litOf : ByteArray := prog_1_method_53_code
def yX11_litOf : MethodName := ⟨RX11, "litOf", "(I)I"⟩
abbrev cX11_costOf : ByteArray := prog_1_method_54_code
def yX11_costOf : MethodName := ⟨RX11, "costOf", "(I)I"⟩
abbrev cX11_oddsOfClear : ByteArray := prog_1_method_55_code
def yX11_oddsOfClear : MethodName := ⟨RX11, "oddsOfClear", "(II)J"⟩
abbrev cX11_passesOn : ByteArray := prog_1_method_56_code
def yX11_passesOn : MethodName := ⟨RX11, "passesOn", "(LSunMirrors$Mirror;LSunMirrors$Mirror;I)Z"⟩
abbrev cX11_readBallot : ByteArray := prog_1_method_57_code
def yX11_readBallot : MethodName := ⟨RX11, "readBallot", "(I)Z"⟩
abbrev cX11_beats : ByteArray := prog_1_method_58_code
def yX11_beats : MethodName := ⟨RX11, "beats", "(II)Z"⟩
abbrev cX11_beatenBy : ByteArray := prog_1_method_59_code
def yX11_beatenBy : MethodName := ⟨RX11, "beatenBy", "(I)I"⟩
abbrev cX11_winner : ByteArray := prog_1_method_60_code
def yX11_winner : MethodName := ⟨RX11, "winner", "()I"⟩
abbrev cX11_patchInOrder : ByteArray := prog_1_method_61_code
def yX11_patchInOrder : MethodName := ⟨RX11, "patchInOrder", "(I)I"⟩
abbrev cX11_aheadInOrder : ByteArray := prog_1_method_62_code
def yX11_aheadInOrder : MethodName := ⟨RX11, "aheadInOrder", "(I)I"⟩
abbrev cX11_ring : ByteArray := prog_1_method_63_code
def yX11_ring : MethodName := ⟨RX11, "ring", "()I"⟩
def RX12 : String := "SunMirrorsModel"
def TX12 : u_T := fun k => match k with
  | 0 => ("SunMirrorsModel", "thrown", "I", false)
  | 1 => ("SunMirrorsModel", "s", "[I", true)
  | 2 => ("SunMirrorsModel", "image", "[I", true)
  | 3 => ("SunMirrorsModel", "hasImage", "Z", false)
  | 4 => ("SunMirrorsModel", "act", "I", false)
  | 5 => ("SunMirrorsModel", "spot", "I", false)
  | 6 => ("SunMirrorsModel", "end", "I", false)
  | 7 => ("SunMirrorsModel", "isWrong", "Z", false)
  | 8 => ("SunMirrorsModel", "open", "I", false)
  | 9 => ("SunMirrorsModel", "by", "[I", true)
  | 10 => ("SunMirrorsModel", "truths", "[Z", true)
  | 11 => ("SunMirrorsModel", "dayNow", "I", false)
  | 12 => ("SunMirrorsModel", "follows", "[I", true)
  | 13 => ("SunMirrorsModel", "rowOf", "[I", true)
  | 14 => ("SunMirrorsModel", "cans", "[Z", true)
  | 15 => ("SunMirrorsModel", "keptPlan", "[I", true)
  | 16 => ("SunMirrorsModel", "litFor", "[I", true)
  | 17 => ("SunMirrorsModel", "bodies", "[I", true)
  | 18 => ("SunMirrorsModel", "ran", "I", false)
  | 19 => ("SunMirrorsModel", "kind", "I", false)
  | 20 => ("SunMirrorsModel", "number", "I", false)
  | _ => ("SunMirrorsModel", "tellsV", "I", false)
def tyX12 : Nat → FieldType := fun k => match k with
  | 0 => .int
  | 1 => .array .int
  | 2 => .array .int
  | 3 => .boolean
  | 4 => .int
  | 5 => .int
  | 6 => .int
  | 7 => .boolean
  | 8 => .int
  | 9 => .array .int
  | 10 => .array .boolean
  | 11 => .int
  | 12 => .array .int
  | 13 => .array .int
  | 14 => .array .boolean
  | 15 => .array .int
  | 16 => .array .int
  | 17 => .array .int
  | 18 => .int
  | 19 => .int
  | 20 => .int
  | _ => .int
abbrev wsX120 : List Cond := u_ws RX12 TX12 22
theorem nmX12 : ∀ a, a < 22 → ∀ b, b < 22 → a ≠ b → (TX12 a).2.1 ≠ (TX12 b).2.1 := by decide +kernel
theorem tyX12_ok : ∀ k, k < 22 → parseFieldDescriptor (TX12 k).2.2.1 = some (tyX12 k) := by decide +kernel
abbrev cX12_init : ByteArray := prog_14_method_1_code
def yX12_init : MethodName := ⟨RX12, "<init>", "()V"⟩
abbrev cX12_in : ByteArray := prog_14_method_3_code
def yX12_in : MethodName := ⟨RX12, "in", "(III)Z"⟩
abbrev cX12_size : ByteArray := prog_14_method_4_code
def yX12_size : MethodName := ⟨RX12, "size", "(I)I"⟩
abbrev cX12_isMirror : ByteArray := prog_14_method_5_code
def yX12_isMirror : MethodName := ⟨RX12, "isMirror", "(I)Z"⟩
abbrev cX12_isPatch : ByteArray := prog_14_method_6_code
def yX12_isPatch : MethodName := ⟨RX12, "isPatch", "(I)Z"⟩
abbrev cX12_isQuarter : ByteArray := prog_14_method_7_code
def yX12_isQuarter : MethodName := ⟨RX12, "isQuarter", "(I)Z"⟩
abbrev cX12_isAt : ByteArray := prog_14_method_8_code
def yX12_isAt : MethodName := ⟨RX12, "isAt", "(I)Z"⟩
abbrev cX12_mirror : ByteArray := prog_14_method_9_code
def yX12_mirror : MethodName := ⟨RX12, "mirror", "(III)I"⟩
abbrev cX12_patch : ByteArray := prog_14_method_10_code
def yX12_patch : MethodName := ⟨RX12, "patch", "(III)I"⟩
abbrev cX12_wall : ByteArray := prog_14_method_11_code
def yX12_wall : MethodName := ⟨RX12, "wall", "(III)I"⟩
abbrev cX12_of : ByteArray := prog_14_method_12_code
def yX12_of : MethodName := ⟨RX12, "of", "(II)I"⟩
abbrev cX12_is : ByteArray := prog_14_method_13_code
def yX12_is : MethodName := ⟨RX12, "is", "(II)I"⟩
abbrev cX12_feed : ByteArray := prog_14_method_14_code
def yX12_feed : MethodName := ⟨RX12, "feed", "(JI)I"⟩
abbrev cX12_here : ByteArray := prog_14_method_15_code
def yX12_here : MethodName := ⟨RX12, "here", "()I"⟩
abbrev cX12_must : ByteArray := prog_14_method_16_code
def yX12_must : MethodName := ⟨RX12, "must", "(I)V"⟩
abbrev cX12_spells : ByteArray := prog_14_method_17_code
def yX12_spells : MethodName := ⟨RX12, "spells", "(Ljava/lang/String;)V"⟩
abbrev cX12_figures : ByteArray := prog_14_method_18_code
def yX12_figures : MethodName := ⟨RX12, "figures", "()I"⟩
abbrev cX12_among : ByteArray := prog_14_method_19_code
def yX12_among : MethodName := ⟨RX12, "among", "(Ljava/lang/String;)I"⟩
abbrev cX12_emits : ByteArray := prog_14_method_20_code
def yX12_emits : MethodName := ⟨RX12, "emits", "(I)V"⟩
abbrev cX12_factor : ByteArray := prog_14_method_21_code
def yX12_factor : MethodName := ⟨RX12, "factor", "()V"⟩
abbrev cX12_every : ByteArray := prog_14_method_22_code
def yX12_every : MethodName := ⟨RX12, "every", "()V"⟩
abbrev cX12_some : ByteArray := prog_14_method_23_code
def yX12_some : MethodName := ⟨RX12, "some", "()V"⟩
abbrev cX12_when : ByteArray := prog_14_method_24_code
def yX12_when : MethodName := ⟨RX12, "when", "(ILjava/lang/String;)V"⟩
abbrev cX12_tellsHere : ByteArray := prog_14_method_25_code
def yX12_tellsHere : MethodName := ⟨RX12, "tellsHere", "(ILjava/lang/String;I)V"⟩
abbrev cX12_clauseHere : ByteArray := prog_14_method_26_code
def yX12_clauseHere : MethodName := ⟨RX12, "clauseHere", "()V"⟩
abbrev cX12_valley : ByteArray := prog_14_method_27_code
def yX12_valley : MethodName := ⟨RX12, "valley", "()I"⟩
abbrev cX12_tellsOf : ByteArray := prog_14_method_28_code
def yX12_tellsOf : MethodName := ⟨RX12, "tellsOf", "(II)I"⟩
abbrev cX12_isSo : ByteArray := prog_14_method_29_code
def yX12_isSo : MethodName := ⟨RX12, "isSo", "(IIII)Z"⟩
abbrev cX12_isBetween : ByteArray := prog_14_method_30_code
def yX12_isBetween : MethodName := ⟨RX12, "isBetween", "(IIIIIII)Z"⟩
abbrev cX12_areOpen : ByteArray := prog_14_method_31_code
def yX12_areOpen : MethodName := ⟨RX12, "areOpen", "(IIIIII)Z"⟩
abbrev cX12_isFree : ByteArray := prog_14_method_32_code
def yX12_isFree : MethodName := ⟨RX12, "isFree", "(II)Z"⟩
abbrev cX12_free : ByteArray := prog_14_method_33_code
def yX12_free : MethodName := ⟨RX12, "free", "(II)I"⟩
abbrev cX12_isLit : ByteArray := prog_14_method_34_code
def yX12_isLit : MethodName := ⟨RX12, "isLit", "(II)Z"⟩
abbrev cX12_may : ByteArray := prog_14_method_35_code
def yX12_may : MethodName := ⟨RX12, "may", "(II)Z"⟩
abbrev cX12_canThrow : ByteArray := prog_14_method_36_code
def yX12_canThrow : MethodName := ⟨RX12, "canThrow", "(III)Z"⟩
abbrev cX12_can : ByteArray := prog_14_method_37_code
def yX12_can : MethodName := ⟨RX12, "can", "(III)I"⟩
abbrev cX12_plan : ByteArray := prog_14_method_38_code
def yX12_plan : MethodName := ⟨RX12, "plan", "(III)I"⟩
abbrev cX12_turnsTooFar : ByteArray := prog_14_method_39_code
def yX12_turnsTooFar : MethodName := ⟨RX12, "turnsTooFar", "(II)Z"⟩
abbrev cX12_judged : ByteArray := prog_14_method_40_code
def yX12_judged : MethodName := ⟨RX12, "judged", "()I"⟩
abbrev cX12_lightOf : ByteArray := prog_14_method_41_code
def yX12_lightOf : MethodName := ⟨RX12, "lightOf", "(I)I"⟩
abbrev cX12_lightAt : ByteArray := prog_14_method_42_code
def yX12_lightAt : MethodName := ⟨RX12, "lightAt", "(II)I"⟩
abbrev cX12_hasOf : ByteArray := prog_14_method_43_code
def yX12_hasOf : MethodName := ⟨RX12, "hasOf", "(I)I"⟩
abbrev cX12_hasOwn : ByteArray := prog_14_method_44_code
def yX12_hasOwn : MethodName := ⟨RX12, "hasOwn", "(II)Z"⟩
abbrev cX12_has : ByteArray := prog_14_method_45_code
def yX12_has : MethodName := ⟨RX12, "has", "(II)I"⟩
abbrev cX12_worstOff : ByteArray := prog_14_method_46_code
def yX12_worstOff : MethodName := ⟨RX12, "worstOff", "()I"⟩
abbrev cX12_worth : ByteArray := prog_14_method_47_code
def yX12_worth : MethodName := ⟨RX12, "worth", "(I)I"⟩
abbrev cX12_worthThere : ByteArray := prog_14_method_48_code
def yX12_worthThere : MethodName := ⟨RX12, "worthThere", "(II)I"⟩
abbrev cX12_isNext : ByteArray := prog_14_method_49_code
def yX12_isNext : MethodName := ⟨RX12, "isNext", "(III)Z"⟩
abbrev cX12_best : ByteArray := prog_14_method_50_code
def yX12_best : MethodName := ⟨RX12, "best", "(II)I"⟩
abbrev cX12_fair : ByteArray := prog_14_method_51_code
def yX12_fair : MethodName := ⟨RX12, "fair", "(I)I"⟩
abbrev cX12_take : ByteArray := prog_14_method_52_code
def yX12_take : MethodName := ⟨RX12, "take", "(II)I"⟩
abbrev cX12_canThrowOnSome : ByteArray := prog_14_method_53_code
def yX12_canThrowOnSome : MethodName := ⟨RX12, "canThrowOnSome", "(II)Z"⟩
abbrev cX12_coarse : ByteArray := prog_14_method_54_code
def yX12_coarse : MethodName := ⟨RX12, "coarse", "(I)I"⟩
abbrev cX12_divisor : ByteArray := prog_14_method_55_code
def yX12_divisor : MethodName := ⟨RX12, "divisor", "(JJ)J"⟩
abbrev cX12_power : ByteArray := prog_14_method_56_code
def yX12_power : MethodName := ⟨RX12, "power", "(JI)J"⟩
abbrev cX12_choose : ByteArray := prog_14_method_57_code
def yX12_choose : MethodName := ⟨RX12, "choose", "(II)J"⟩
abbrev cX12_kept : ByteArray := prog_14_method_58_code
def yX12_kept : MethodName := ⟨RX12, "kept", "(III)J"⟩
abbrev cX12_sunny : ByteArray := prog_14_method_59_code
def yX12_sunny : MethodName := ⟨RX12, "sunny", "(I)I"⟩
abbrev cX12_gone : ByteArray := prog_14_method_60_code
def yX12_gone : MethodName := ⟨RX12, "gone", "(I)I"⟩
abbrev cX12_day : ByteArray := prog_14_method_61_code
def yX12_day : MethodName := ⟨RX12, "day", "()I"⟩
abbrev cX12_passed : ByteArray := prog_14_method_62_code
def yX12_passed : MethodName := ⟨RX12, "passed", "(III)I"⟩
abbrev cX12_vote : ByteArray := prog_14_method_63_code
def yX12_vote : MethodName := ⟨RX12, "vote", "(I)I"⟩
abbrev cX12_clear : ByteArray := prog_14_method_64_code
def yX12_clear : MethodName := ⟨RX12, "clear", "()I"⟩
abbrev cX12_doesBeat : ByteArray := prog_14_method_65_code
def yX12_doesBeat : MethodName := ⟨RX12, "doesBeat", "(II)Z"⟩
abbrev cX12_beaten : ByteArray := prog_14_method_66_code
def yX12_beaten : MethodName := ⟨RX12, "beaten", "(I)I"⟩
abbrev cX12_ring : ByteArray := prog_14_method_67_code
def yX12_ring : MethodName := ⟨RX12, "ring", "()I"⟩
abbrev cX12_placeOf : ByteArray := prog_14_method_68_code
def yX12_placeOf : MethodName := ⟨RX12, "placeOf", "(I)I"⟩
abbrev cX12_inOrder : ByteArray := prog_14_method_69_code
def yX12_inOrder : MethodName := ⟨RX12, "inOrder", "(I)I"⟩
abbrev cX12_holds : ByteArray := prog_14_method_70_code
def yX12_holds : MethodName := ⟨RX12, "holds", "(I)I"⟩
abbrev cX12_runs : ByteArray := prog_14_method_71_code
def yX12_runs : MethodName := ⟨RX12, "runs", "(I)V"⟩
abbrev cX12_isUnder : ByteArray := prog_14_method_72_code
def yX12_isUnder : MethodName := ⟨RX12, "isUnder", "(II)Z"⟩
abbrev cX12_plainCasts : ByteArray := prog_14_method_73_code
def yX12_plainCasts : MethodName := ⟨RX12, "plainCasts", "(I)I"⟩
abbrev cX12_castsActs : ByteArray := prog_14_method_74_code
def yX12_castsActs : MethodName := ⟨RX12, "castsActs", "(I)I"⟩
abbrev cX12_plainTurns : ByteArray := prog_14_method_75_code
def yX12_plainTurns : MethodName := ⟨RX12, "plainTurns", "(I)I"⟩
abbrev cX12_fixedTurns : ByteArray := prog_14_method_76_code
def yX12_fixedTurns : MethodName := ⟨RX12, "fixedTurns", "(I)I"⟩
abbrev cX12_turnsActs : ByteArray := prog_14_method_77_code
def yX12_turnsActs : MethodName := ⟨RX12, "turnsActs", "(I)I"⟩
abbrev cX12_plainTells : ByteArray := prog_14_method_78_code
def yX12_plainTells : MethodName := ⟨RX12, "plainTells", "(I)I"⟩
abbrev cX12_tellsActs : ByteArray := prog_14_method_79_code
def yX12_tellsActs : MethodName := ⟨RX12, "tellsActs", "(I)I"⟩
abbrev cX12_act : ByteArray := prog_14_method_80_code
def yX12_act : MethodName := ⟨RX12, "act", "(III)I"⟩
abbrev cX12_trace : ByteArray := prog_14_method_81_code
def yX12_trace : MethodName := ⟨RX12, "trace", "(I)I"⟩
abbrev cX12_as : ByteArray := prog_14_method_82_code
def yX12_as : MethodName := ⟨RX12, "as", "(II)I"⟩
abbrev cX12_image : ByteArray := prog_14_method_83_code
def yX12_image : MethodName := ⟨RX12, "image", "()I"⟩
abbrev cX12_undo : ByteArray := prog_14_method_84_code
def yX12_undo : MethodName := ⟨RX12, "undo", "()I"⟩
abbrev cX12_count : ByteArray := prog_14_method_85_code
def yX12_count : MethodName := ⟨RX12, "count", "(I)I"⟩
def RJx145de : String := "java/io/Serializable"
def TJx145de : u_T := fun k => match k with
  | _ => ("", "", "", false)
def tyJx145de : Nat → FieldType := fun k => match k with
  | _ => .int
abbrev wsJx145de0 : List Cond := u_ws RJx145de TJx145de 0
theorem nmJx145de : ∀ a, a < 0 → ∀ b, b < 0 → a ≠ b → (TJx145de a).2.1 ≠ (TJx145de b).2.1 := by decide +kernel
theorem tyJx145de_ok : ∀ k, k < 0 → parseFieldDescriptor (TJx145de k).2.2.1 = some (tyJx145de k) := by decide +kernel
def RJx9f9b0 : String := "java/lang/CharSequence"
def TJx9f9b0 : u_T := fun k => match k with
  | _ => ("", "", "", false)
def tyJx9f9b0 : Nat → FieldType := fun k => match k with
  | _ => .int
abbrev wsJx9f9b00 : List Cond := u_ws RJx9f9b0 TJx9f9b0 0
theorem nmJx9f9b0 : ∀ a, a < 0 → ∀ b, b < 0 → a ≠ b → (TJx9f9b0 a).2.1 ≠ (TJx9f9b0 b).2.1 := by decide +kernel
theorem tyJx9f9b0_ok : ∀ k, k < 0 → parseFieldDescriptor (TJx9f9b0 k).2.2.1 = some (tyJx9f9b0 k) := by decide +kernel
def RJ11 : String := "java/lang/Character"
def TJ11 : u_T := fun k => match k with
  | _ => ("", "", "", false)
def tyJ11 : Nat → FieldType := fun k => match k with
  | _ => .int
abbrev wsJ110 : List Cond := u_ws RJ11 TJ11 0
theorem nmJ11 : ∀ a, a < 0 → ∀ b, b < 0 → a ≠ b → (TJ11 a).2.1 ≠ (TJ11 b).2.1 := by decide +kernel
theorem tyJ11_ok : ∀ k, k < 0 → parseFieldDescriptor (TJ11 k).2.2.1 = some (tyJ11 k) := by decide +kernel
abbrev cJ11_isValidCodePoint_9a6ad : ByteArray := prog_15_method_11_code
def yJ11_isValidCodePoint_9a6ad : MethodName := ⟨RJ11, "isValidCodePoint", "(I)Z"⟩
abbrev cJ11_highSurrogate_5068e : ByteArray := prog_15_method_28_code
def yJ11_highSurrogate_5068e : MethodName := ⟨RJ11, "highSurrogate", "(I)C"⟩
abbrev cJ11_lowSurrogate_5068e : ByteArray := prog_15_method_29_code
def yJ11_lowSurrogate_5068e : MethodName := ⟨RJ11, "lowSurrogate", "(I)C"⟩
def RJxb160c : String := "java/lang/Comparable"
def TJxb160c : u_T := fun k => match k with
  | _ => ("", "", "", false)
def tyJxb160c : Nat → FieldType := fun k => match k with
  | _ => .int
abbrev wsJxb160c0 : List Cond := u_ws RJxb160c TJxb160c 0
theorem nmJxb160c : ∀ a, a < 0 → ∀ b, b < 0 → a ≠ b → (TJxb160c a).2.1 ≠ (TJxb160c b).2.1 := by decide +kernel
theorem tyJxb160c_ok : ∀ k, k < 0 → parseFieldDescriptor (TJxb160c k).2.2.1 = some (tyJxb160c k) := by decide +kernel
def RJ6 : String := "java/lang/Integer"
def TJ6 : u_T := fun k => match k with
  | _ => ("", "", "", false)
def tyJ6 : Nat → FieldType := fun k => match k with
  | _ => .int
abbrev wsJ60 : List Cond := u_ws RJ6 TJ6 0
theorem nmJ6 : ∀ a, a < 0 → ∀ b, b < 0 → a ≠ b → (TJ6 a).2.1 ≠ (TJ6 b).2.1 := by decide +kernel
theorem tyJ6_ok : ∀ k, k < 0 → parseFieldDescriptor (TJ6 k).2.2.1 = some (tyJ6 k) := by decide +kernel
abbrev cJ6_bitCount_0f7a4 : ByteArray := prog_16_method_49_code
def yJ6_bitCount_0f7a4 : MethodName := ⟨RJ6, "bitCount", "(I)I"⟩
def RJ9 : String := "java/lang/Math"
def TJ9 : u_T := fun k => match k with
  | _ => ("", "", "", false)
def tyJ9 : Nat → FieldType := fun k => match k with
  | _ => .int
abbrev wsJ90 : List Cond := u_ws RJ9 TJ9 0
theorem nmJ9 : ∀ a, a < 0 → ∀ b, b < 0 → a ≠ b → (TJ9 a).2.1 ≠ (TJ9 b).2.1 := by decide +kernel
theorem tyJ9_ok : ∀ k, k < 0 → parseFieldDescriptor (TJ9 k).2.2.1 = some (tyJ9 k) := by decide +kernel
abbrev cJ9_abs_0f7a4 : ByteArray := prog_17_method_59_code
def yJ9_abs_0f7a4 : MethodName := ⟨RJ9, "abs", "(I)I"⟩
abbrev cJ9_max_7cf53 : ByteArray := prog_17_method_65_code
def yJ9_max_7cf53 : MethodName := ⟨RJ9, "max", "(II)I"⟩
abbrev cJ9_max_f86c9 : ByteArray := prog_17_method_66_code
def yJ9_max_f86c9 : MethodName := ⟨RJ9, "max", "(JJ)J"⟩
abbrev cJ9_min_7cf53 : ByteArray := prog_17_method_69_code
def yJ9_min_7cf53 : MethodName := ⟨RJ9, "min", "(II)I"⟩
def RJ0 : String := "java/lang/String"
def TJ0 : u_T := fun k => match k with
  | _ => ("", "", "", false)
def tyJ0 : Nat → FieldType := fun k => match k with
  | _ => .int
abbrev wsJ00 : List Cond := u_ws RJ0 TJ0 0
theorem nmJ0 : ∀ a, a < 0 → ∀ b, b < 0 → a ≠ b → (TJ0 a).2.1 ≠ (TJ0 b).2.1 := by decide +kernel
theorem tyJ0_ok : ∀ k, k < 0 → parseFieldDescriptor (TJ0 k).2.2.1 = some (tyJ0 k) := by decide +kernel
abbrev cJ0_length_8abf5 : ByteArray := prog_18_method_54_code
def yJ0_length_8abf5 : MethodName := ⟨RJ0, "length", "()I"⟩
abbrev cJ0_charAt_5068e : ByteArray := prog_18_method_56_code
def yJ0_charAt_5068e : MethodName := ⟨RJ0, "charAt", "(I)C"⟩
abbrev cJ0_indexOf_0f7a4 : ByteArray := prog_18_method_79_code
def yJ0_indexOf_0f7a4 : MethodName := ⟨RJ0, "indexOf", "(I)I"⟩
abbrev cJ0_indexOf_7cf53 : ByteArray := prog_18_method_80_code
def yJ0_indexOf_7cf53 : MethodName := ⟨RJ0, "indexOf", "(II)I"⟩
abbrev cJ0_coder_7d493 : ByteArray := prog_18_method_152_code
def yJ0_coder_7d493 : MethodName := ⟨RJ0, "coder", "()B"⟩
abbrev cJ0_isLatin1_aae02 : ByteArray := prog_18_method_154_code
def yJ0_isLatin1_aae02 : MethodName := ⟨RJ0, "isLatin1", "()Z"⟩
abbrev cJ0_checkIndex_df160 : ByteArray := prog_18_method_155_code
def yJ0_checkIndex_df160 : MethodName := ⟨RJ0, "checkIndex", "(II)V"⟩
abbrev cJ0_checkBoundsBeginEnd_23922 : ByteArray := prog_18_method_158_code
def yJ0_checkBoundsBeginEnd_23922 : MethodName := ⟨RJ0, "checkBoundsBeginEnd", "(III)V"⟩
def RJ1 : String := "java/lang/StringLatin1"
def TJ1 : u_T := fun k => match k with
  | _ => ("", "", "", false)
def tyJ1 : Nat → FieldType := fun k => match k with
  | _ => .int
abbrev wsJ10 : List Cond := u_ws RJ1 TJ1 0
theorem nmJ1 : ∀ a, a < 0 → ∀ b, b < 0 → a ≠ b → (TJ1 a).2.1 ≠ (TJ1 b).2.1 := by decide +kernel
theorem tyJ1_ok : ∀ k, k < 0 → parseFieldDescriptor (TJ1 k).2.2.1 = some (tyJ1 k) := by decide +kernel
abbrev cJ1_charAt_3b067 : ByteArray := prog_19_method_2_code
def yJ1_charAt_3b067 : MethodName := ⟨RJ1, "charAt", "([BI)C"⟩
abbrev cJ1_canEncode_9a6ad : ByteArray := prog_19_method_4_code
def yJ1_canEncode_9a6ad : MethodName := ⟨RJ1, "canEncode", "(I)Z"⟩
abbrev cJ1_indexOf_4cfef : ByteArray := prog_19_method_22_code
def yJ1_indexOf_4cfef : MethodName := ⟨RJ1, "indexOf", "([BIII)I"⟩
abbrev cJ1_indexOfChar_4cfef : ByteArray := prog_19_method_23_code
def yJ1_indexOfChar_4cfef : MethodName := ⟨RJ1, "indexOfChar", "([BIII)I"⟩
def RJ2 : String := "java/lang/StringUTF16"
def TJ2 : u_T := fun k => match k with
  | _ => ("", "", "", false)
def tyJ2 : Nat → FieldType := fun k => match k with
  | _ => .int
abbrev wsJ20 : List Cond := u_ws RJ2 TJ2 0
theorem nmJ2 : ∀ a, a < 0 → ∀ b, b < 0 → a ≠ b → (TJ2 a).2.1 ≠ (TJ2 b).2.1 := by decide +kernel
theorem tyJ2_ok : ∀ k, k < 0 → parseFieldDescriptor (TJ2 k).2.2.1 = some (tyJ2 k) := by decide +kernel
abbrev cJ2_getChar_3b067 : ByteArray := prog_20_method_5_code
def yJ2_getChar_3b067 : MethodName := ⟨RJ2, "getChar", "([BI)C"⟩
abbrev cJ2_length_9d52b : ByteArray := prog_20_method_6_code
def yJ2_length_9d52b : MethodName := ⟨RJ2, "length", "([B)I"⟩
abbrev cJ2_indexOf_4cfef : ByteArray := prog_20_method_40_code
def yJ2_indexOf_4cfef : MethodName := ⟨RJ2, "indexOf", "([BIII)I"⟩
abbrev cJ2_indexOfChar_4cfef : ByteArray := prog_20_method_47_code
def yJ2_indexOfChar_4cfef : MethodName := ⟨RJ2, "indexOfChar", "([BIII)I"⟩
abbrev cJ2_indexOfCharUnsafe_4cfef : ByteArray := prog_20_method_48_code
def yJ2_indexOfCharUnsafe_4cfef : MethodName := ⟨RJ2, "indexOfCharUnsafe", "([BIII)I"⟩
abbrev cJ2_indexOfSupplementary_4cfef : ByteArray := prog_20_method_49_code
def yJ2_indexOfSupplementary_4cfef : MethodName := ⟨RJ2, "indexOfSupplementary", "([BIII)I"⟩
abbrev cJ2_charAt_3b067 : ByteArray := prog_20_method_83_code
def yJ2_charAt_3b067 : MethodName := ⟨RJ2, "charAt", "([BI)C"⟩
abbrev cJ2_checkIndex_2214a : ByteArray := prog_20_method_91_code
def yJ2_checkIndex_2214a : MethodName := ⟨RJ2, "checkIndex", "(I[B)V"⟩
abbrev cJ2_checkBoundsBeginEnd_d044e : ByteArray := prog_20_method_93_code
def yJ2_checkBoundsBeginEnd_d044e : MethodName := ⟨RJ2, "checkBoundsBeginEnd", "(II[B)V"⟩
def RJ10 : String := "java/lang/System"
def TJ10 : u_T := fun k => match k with
  | _ => ("", "", "", false)
def tyJ10 : Nat → FieldType := fun k => match k with
  | _ => .int
abbrev wsJ100 : List Cond := u_ws RJ10 TJ10 0
theorem nmJ10 : ∀ a, a < 0 → ∀ b, b < 0 → a ≠ b → (TJ10 a).2.1 ≠ (TJ10 b).2.1 := by decide +kernel
theorem tyJ10_ok : ∀ k, k < 0 → parseFieldDescriptor (TJ10 k).2.2.1 = some (tyJ10 k) := by decide +kernel
def RJxfd54e : String := "java/lang/constant/Constable"
def TJxfd54e : u_T := fun k => match k with
  | _ => ("", "", "", false)
def tyJxfd54e : Nat → FieldType := fun k => match k with
  | _ => .int
abbrev wsJxfd54e0 : List Cond := u_ws RJxfd54e TJxfd54e 0
theorem nmJxfd54e : ∀ a, a < 0 → ∀ b, b < 0 → a ≠ b → (TJxfd54e a).2.1 ≠ (TJxfd54e b).2.1 := by decide +kernel
theorem tyJxfd54e_ok : ∀ k, k < 0 → parseFieldDescriptor (TJxfd54e k).2.2.1 = some (tyJxfd54e k) := by decide +kernel
def RJx3cf43 : String := "java/lang/constant/ConstantDesc"
def TJx3cf43 : u_T := fun k => match k with
  | _ => ("", "", "", false)
def tyJx3cf43 : Nat → FieldType := fun k => match k with
  | _ => .int
abbrev wsJx3cf430 : List Cond := u_ws RJx3cf43 TJx3cf43 0
theorem nmJx3cf43 : ∀ a, a < 0 → ∀ b, b < 0 → a ≠ b → (TJx3cf43 a).2.1 ≠ (TJx3cf43 b).2.1 := by decide +kernel
theorem tyJx3cf43_ok : ∀ k, k < 0 → parseFieldDescriptor (TJx3cf43 k).2.2.1 = some (tyJx3cf43 k) := by decide +kernel
def RJ7 : String := "java/util/Arrays"
def TJ7 : u_T := fun k => match k with
  | _ => ("", "", "", false)
def tyJ7 : Nat → FieldType := fun k => match k with
  | _ => .int
abbrev wsJ70 : List Cond := u_ws RJ7 TJ7 0
theorem nmJ7 : ∀ a, a < 0 → ∀ b, b < 0 → a ≠ b → (TJ7 a).2.1 ≠ (TJ7 b).2.1 := by decide +kernel
theorem tyJ7_ok : ∀ k, k < 0 → parseFieldDescriptor (TJ7 k).2.2.1 = some (tyJ7 k) := by decide +kernel
abbrev cJ7_fill_53178 : ByteArray := prog_22_method_103_code
def yJ7_fill_53178 : MethodName := ⟨RJ7, "fill", "([II)V"⟩
def RJ3 : String := "jdk/internal/util/Preconditions"
def TJ3 : u_T := fun k => match k with
  | _ => ("", "", "", false)
def tyJ3 : Nat → FieldType := fun k => match k with
  | _ => .int
abbrev wsJ30 : List Cond := u_ws RJ3 TJ3 0
theorem nmJ3 : ∀ a, a < 0 → ∀ b, b < 0 → a ≠ b → (TJ3 a).2.1 ≠ (TJ3 b).2.1 := by decide +kernel
theorem tyJ3_ok : ∀ k, k < 0 → parseFieldDescriptor (TJ3 k).2.2.1 = some (tyJ3 k) := by decide +kernel
abbrev cJ3_checkIndex_8e157 : ByteArray := prog_23_method_11_code
def yJ3_checkIndex_8e157 : MethodName := ⟨RJ3, "checkIndex", "(IILjava/util/function/BiFunction;)I"⟩
abbrev cJ3_checkFromToIndex_8c36e : ByteArray := prog_23_method_12_code
def yJ3_checkFromToIndex_8c36e : MethodName := ⟨RJ3, "checkFromToIndex", "(IIILjava/util/function/BiFunction;)I"⟩
def RL : String := "SunMirrorsLaw"
abbrev cL_law : ByteArray := code
def yL_law : MethodName := ⟨RL, "law", "([I)Z"⟩
abbrev vwCl : List vw_C := [(RX0, TX0, 8), (RX1, TX1, 8), (RX2, TX2, 8), (RX3, TX3, 8), (RX4, TX4, 8), (RX5, TX5, 15), (RX6, TX6, 8), (RX7, TX7, 2), (RX8, TX8, 8), (RX9, TX9, 13), (RX10, TX10, 5), (RX11, TX11, 10), (RX12, TX12, 22)]
