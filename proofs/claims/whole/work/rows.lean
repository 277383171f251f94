section
-- ===== PART A: goes FIRST, ahead of the names: the tables' words, and 'selects' of the private methods out of them =====
/-- a private method of a class that the tables say can be made, by its rows of tables_1 -/
def lw_okq (q : MethodName × Nat) : Prop := (q.1.cls ≠ "java/lang/invoke/MethodHandle" ∧ q.1.cls ≠ "java/lang/invoke/VarHandle") ∧ Cond.instantiable q.1.cls q.2 ∈ tables_1 ∧ Cond.privateMethod q.1 ∈ tables_1 ∧ Cond.instanceMethod q.1 ∈ tables_1
theorem lw_p0 : lw_okq (⟨"QueryFleet", "canChangeQuery", "()Z"⟩, 5) := ⟨⟨by decide +kernel, by decide +kernel⟩, List.mem_of_getElem? (i := 16) (by decide +kernel), List.mem_of_getElem? (i := 412) (by decide +kernel), List.mem_of_getElem? (i := 413) (by decide +kernel)⟩
theorem lw_p1 : lw_okq (⟨"QueryFleet$Query", "moveOffStack", "([LQueryFleet$Expression;I)V"⟩, 17) := ⟨⟨by decide +kernel, by decide +kernel⟩, List.mem_of_getElem? (i := 32) (by decide +kernel), List.mem_of_getElem? (i := 461) (by decide +kernel), List.mem_of_getElem? (i := 462) (by decide +kernel)⟩
theorem lw_p2 : lw_okq (⟨"QueryFleet$Plan", "arePair", "(LQueryFleet$Table;ILQueryFleet$Table;I)Z"⟩, 11) := ⟨⟨by decide +kernel, by decide +kernel⟩, List.mem_of_getElem? (i := 24) (by decide +kernel), List.mem_of_getElem? (i := 502) (by decide +kernel), List.mem_of_getElem? (i := 503) (by decide +kernel)⟩
theorem lw_p3 : lw_okq (⟨"QueryFleet$Plan", "keepIfAllTrue", "(II)V"⟩, 11) := ⟨⟨by decide +kernel, by decide +kernel⟩, List.mem_of_getElem? (i := 24) (by decide +kernel), List.mem_of_getElem? (i := 514) (by decide +kernel), List.mem_of_getElem? (i := 515) (by decide +kernel)⟩
theorem lw_p4 : lw_okq (⟨"QueryFleet$Plan", "loadJoined", "(II)V"⟩, 11) := ⟨⟨by decide +kernel, by decide +kernel⟩, List.mem_of_getElem? (i := 24) (by decide +kernel), List.mem_of_getElem? (i := 518) (by decide +kernel), List.mem_of_getElem? (i := 519) (by decide +kernel)⟩
theorem lw_p5 : lw_okq (⟨"QueryFleet$Machine", "set", "(IJZ)V"⟩, 4) := ⟨⟨by decide +kernel, by decide +kernel⟩, List.mem_of_getElem? (i := 142) (by decide +kernel), List.mem_of_getElem? (i := 532) (by decide +kernel), List.mem_of_getElem? (i := 533) (by decide +kernel)⟩
theorem lw_p6 : lw_okq (⟨"QueryFleet$Machine", "combine", "(III)V"⟩, 4) := ⟨⟨by decide +kernel, by decide +kernel⟩, List.mem_of_getElem? (i := 142) (by decide +kernel), List.mem_of_getElem? (i := 536) (by decide +kernel), List.mem_of_getElem? (i := 537) (by decide +kernel)⟩
theorem lw_p7 : lw_okq (⟨"QueryFleet$Machine", "decide", "(IIJ)V"⟩, 4) := ⟨⟨by decide +kernel, by decide +kernel⟩, List.mem_of_getElem? (i := 142) (by decide +kernel), List.mem_of_getElem? (i := 540) (by decide +kernel), List.mem_of_getElem? (i := 541) (by decide +kernel)⟩
theorem lw_p8 : lw_okq (⟨"QueryFleet$Plan", "findGroup", "(I)I"⟩, 11) := ⟨⟨by decide +kernel, by decide +kernel⟩, List.mem_of_getElem? (i := 24) (by decide +kernel), List.mem_of_getElem? (i := 561) (by decide +kernel), List.mem_of_getElem? (i := 562) (by decide +kernel)⟩
theorem lw_p9 : lw_okq (⟨"QueryFleet$Plan", "fillGroup", "(LQueryFleet$Result;I)V"⟩, 11) := ⟨⟨by decide +kernel, by decide +kernel⟩, List.mem_of_getElem? (i := 24) (by decide +kernel), List.mem_of_getElem? (i := 574) (by decide +kernel), List.mem_of_getElem? (i := 575) (by decide +kernel)⟩
theorem lw_p10 : lw_okq (⟨"QueryFleet$Plan", "addUp", "(LQueryFleet$Expression;I)V"⟩, 11) := ⟨⟨by decide +kernel, by decide +kernel⟩, List.mem_of_getElem? (i := 24) (by decide +kernel), List.mem_of_getElem? (i := 582) (by decide +kernel), List.mem_of_getElem? (i := 583) (by decide +kernel)⟩
theorem lw_p11 : lw_okq (⟨"QueryFleet$Aggregate", "hasSum", "()Z"⟩, 6) := ⟨⟨by decide +kernel, by decide +kernel⟩, List.mem_of_getElem? (i := 165) (by decide +kernel), List.mem_of_getElem? (i := 619) (by decide +kernel), List.mem_of_getElem? (i := 620) (by decide +kernel)⟩
theorem lw_p12 : lw_okq (⟨"QueryFleet$Plan", "fillPlain", "(LQueryFleet$Result;I)V"⟩, 11) := ⟨⟨by decide +kernel, by decide +kernel⟩, List.mem_of_getElem? (i := 24) (by decide +kernel), List.mem_of_getElem? (i := 623) (by decide +kernel), List.mem_of_getElem? (i := 624) (by decide +kernel)⟩
theorem lw_p13 : lw_okq (⟨"QueryFleet$Result", "compare", "(IIIZ)I"⟩, 7) := ⟨⟨by decide +kernel, by decide +kernel⟩, List.mem_of_getElem? (i := 242) (by decide +kernel), List.mem_of_getElem? (i := 631) (by decide +kernel), List.mem_of_getElem? (i := 632) (by decide +kernel)⟩
theorem lw_p14 : lw_okq (⟨"QueryFleet$Result", "compareAt", "(III)I"⟩, 7) := ⟨⟨by decide +kernel, by decide +kernel⟩, List.mem_of_getElem? (i := 242) (by decide +kernel), List.mem_of_getElem? (i := 635) (by decide +kernel), List.mem_of_getElem? (i := 636) (by decide +kernel)⟩
theorem lw_p15 : lw_okq (⟨"QueryFleet$Job", "forgetMessages", "()V"⟩, 9) := ⟨⟨by decide +kernel, by decide +kernel⟩, List.mem_of_getElem? (i := 275) (by decide +kernel), List.mem_of_getElem? (i := 653) (by decide +kernel), List.mem_of_getElem? (i := 654) (by decide +kernel)⟩
def lw_privs_1 : List (MethodName × Nat) := [(⟨"QueryFleet", "canChangeQuery", "()Z"⟩, 5), (⟨"QueryFleet$Query", "moveOffStack", "([LQueryFleet$Expression;I)V"⟩, 17), (⟨"QueryFleet$Plan", "arePair", "(LQueryFleet$Table;ILQueryFleet$Table;I)Z"⟩, 11), (⟨"QueryFleet$Plan", "keepIfAllTrue", "(II)V"⟩, 11), (⟨"QueryFleet$Plan", "loadJoined", "(II)V"⟩, 11), (⟨"QueryFleet$Machine", "set", "(IJZ)V"⟩, 4), (⟨"QueryFleet$Machine", "combine", "(III)V"⟩, 4), (⟨"QueryFleet$Machine", "decide", "(IIJ)V"⟩, 4), (⟨"QueryFleet$Plan", "findGroup", "(I)I"⟩, 11), (⟨"QueryFleet$Plan", "fillGroup", "(LQueryFleet$Result;I)V"⟩, 11), (⟨"QueryFleet$Plan", "addUp", "(LQueryFleet$Expression;I)V"⟩, 11), (⟨"QueryFleet$Aggregate", "hasSum", "()Z"⟩, 6), (⟨"QueryFleet$Plan", "fillPlain", "(LQueryFleet$Result;I)V"⟩, 11), (⟨"QueryFleet$Result", "compare", "(IIIZ)I"⟩, 7), (⟨"QueryFleet$Result", "compareAt", "(III)I"⟩, 7), (⟨"QueryFleet$Job", "forgetMessages", "()V"⟩, 9)]
theorem lw_r1 : ∀ q ∈ lw_privs_1, lw_okq q := List.forall_mem_cons.mpr ⟨lw_p0, List.forall_mem_cons.mpr ⟨lw_p1, List.forall_mem_cons.mpr ⟨lw_p2, List.forall_mem_cons.mpr ⟨lw_p3, List.forall_mem_cons.mpr ⟨lw_p4, List.forall_mem_cons.mpr ⟨lw_p5, List.forall_mem_cons.mpr ⟨lw_p6, List.forall_mem_cons.mpr ⟨lw_p7, List.forall_mem_cons.mpr ⟨lw_p8, List.forall_mem_cons.mpr ⟨lw_p9, List.forall_mem_cons.mpr ⟨lw_p10, List.forall_mem_cons.mpr ⟨lw_p11, List.forall_mem_cons.mpr ⟨lw_p12, List.forall_mem_cons.mpr ⟨lw_p13, List.forall_mem_cons.mpr ⟨lw_p14, List.forall_mem_cons.mpr ⟨lw_p15, fun _ h => absurd h List.not_mem_nil⟩⟩⟩⟩⟩⟩⟩⟩⟩⟩⟩⟩⟩⟩⟩⟩
theorem lw_p16 : lw_okq (⟨"QueryFleet$Plan", "scannedRows", "(IIII)I"⟩, 11) := ⟨⟨by decide +kernel, by decide +kernel⟩, List.mem_of_getElem? (i := 24) (by decide +kernel), List.mem_of_getElem? (i := 665) (by decide +kernel), List.mem_of_getElem? (i := 666) (by decide +kernel)⟩
theorem lw_p17 : lw_okq (⟨"QueryFleet$Plan", "passesPushed", "(I)Z"⟩, 11) := ⟨⟨by decide +kernel, by decide +kernel⟩, List.mem_of_getElem? (i := 24) (by decide +kernel), List.mem_of_getElem? (i := 675) (by decide +kernel), List.mem_of_getElem? (i := 676) (by decide +kernel)⟩
theorem lw_p18 : lw_okq (⟨"QueryFleet$Plan", "joinedRows", "(II)I"⟩, 11) := ⟨⟨by decide +kernel, by decide +kernel⟩, List.mem_of_getElem? (i := 24) (by decide +kernel), List.mem_of_getElem? (i := 691) (by decide +kernel), List.mem_of_getElem? (i := 692) (by decide +kernel)⟩
theorem lw_p19 : lw_okq (⟨"QueryFleet$Plan", "groupsOfPart", "(II)I"⟩, 11) := ⟨⟨by decide +kernel, by decide +kernel⟩, List.mem_of_getElem? (i := 24) (by decide +kernel), List.mem_of_getElem? (i := 695) (by decide +kernel), List.mem_of_getElem? (i := 696) (by decide +kernel)⟩
theorem lw_p20 : lw_okq (⟨"QueryFleet$Job", "isReady", "(I)Z"⟩, 9) := ⟨⟨by decide +kernel, by decide +kernel⟩, List.mem_of_getElem? (i := 275) (by decide +kernel), List.mem_of_getElem? (i := 711) (by decide +kernel), List.mem_of_getElem? (i := 712) (by decide +kernel)⟩
theorem lw_p21 : lw_okq (⟨"QueryFleet$Job", "sendRun", "(I)V"⟩, 9) := ⟨⟨by decide +kernel, by decide +kernel⟩, List.mem_of_getElem? (i := 275) (by decide +kernel), List.mem_of_getElem? (i := 715) (by decide +kernel), List.mem_of_getElem? (i := 716) (by decide +kernel)⟩
theorem lw_p22 : lw_okq (⟨"QueryFleet$Job", "workerOf", "(II)I"⟩, 9) := ⟨⟨by decide +kernel, by decide +kernel⟩, List.mem_of_getElem? (i := 275) (by decide +kernel), List.mem_of_getElem? (i := 735) (by decide +kernel), List.mem_of_getElem? (i := 736) (by decide +kernel)⟩
theorem lw_p23 : lw_okq (⟨"QueryFleet$Job", "finish", "(I)V"⟩, 9) := ⟨⟨by decide +kernel, by decide +kernel⟩, List.mem_of_getElem? (i := 275) (by decide +kernel), List.mem_of_getElem? (i := 742) (by decide +kernel), List.mem_of_getElem? (i := 743) (by decide +kernel)⟩
theorem lw_p24 : lw_okq (⟨"QueryFleet", "isWorker", "(I)Z"⟩, 5) := ⟨⟨by decide +kernel, by decide +kernel⟩, List.mem_of_getElem? (i := 16) (by decide +kernel), List.mem_of_getElem? (i := 756) (by decide +kernel), List.mem_of_getElem? (i := 757) (by decide +kernel)⟩
theorem lw_p25 : lw_okq (⟨"QueryFleet", "hasResult", "()Z"⟩, 5) := ⟨⟨by decide +kernel, by decide +kernel⟩, List.mem_of_getElem? (i := 16) (by decide +kernel), List.mem_of_getElem? (i := 796) (by decide +kernel), List.mem_of_getElem? (i := 797) (by decide +kernel)⟩
theorem lw_p26 : lw_okq (⟨"QueryFleet", "hasCell", "(II)Z"⟩, 5) := ⟨⟨by decide +kernel, by decide +kernel⟩, List.mem_of_getElem? (i := 16) (by decide +kernel), List.mem_of_getElem? (i := 804) (by decide +kernel), List.mem_of_getElem? (i := 805) (by decide +kernel)⟩
theorem lw_p27 : lw_okq (⟨"QueryFleetModel", "open", "()Z"⟩, 56) := ⟨⟨by decide +kernel, by decide +kernel⟩, List.mem_of_getElem? (i := 820) (by decide +kernel), List.mem_of_getElem? (i := 1010) (by decide +kernel), List.mem_of_getElem? (i := 1011) (by decide +kernel)⟩
theorem lw_p28 : lw_okq (⟨"QueryFleetModel", "isColumn", "(I)Z"⟩, 56) := ⟨⟨by decide +kernel, by decide +kernel⟩, List.mem_of_getElem? (i := 820) (by decide +kernel), List.mem_of_getElem? (i := 1014) (by decide +kernel), List.mem_of_getElem? (i := 1015) (by decide +kernel)⟩
theorem lw_p29 : lw_okq (⟨"QueryFleetModel", "push", "(IJ)V"⟩, 56) := ⟨⟨by decide +kernel, by decide +kernel⟩, List.mem_of_getElem? (i := 820) (by decide +kernel), List.mem_of_getElem? (i := 1018) (by decide +kernel), List.mem_of_getElem? (i := 1019) (by decide +kernel)⟩
theorem lw_p30 : lw_okq (⟨"QueryFleetModel", "copy", "(III)V"⟩, 56) := ⟨⟨by decide +kernel, by decide +kernel⟩, List.mem_of_getElem? (i := 820) (by decide +kernel), List.mem_of_getElem? (i := 1030) (by decide +kernel), List.mem_of_getElem? (i := 1031) (by decide +kernel)⟩
theorem lw_p31 : lw_okq (⟨"QueryFleetModel", "form", "()I"⟩, 56) := ⟨⟨by decide +kernel, by decide +kernel⟩, List.mem_of_getElem? (i := 820) (by decide +kernel), List.mem_of_getElem? (i := 1054) (by decide +kernel), List.mem_of_getElem? (i := 1055) (by decide +kernel)⟩
def lw_privs_2 : List (MethodName × Nat) := [(⟨"QueryFleet$Plan", "scannedRows", "(IIII)I"⟩, 11), (⟨"QueryFleet$Plan", "passesPushed", "(I)Z"⟩, 11), (⟨"QueryFleet$Plan", "joinedRows", "(II)I"⟩, 11), (⟨"QueryFleet$Plan", "groupsOfPart", "(II)I"⟩, 11), (⟨"QueryFleet$Job", "isReady", "(I)Z"⟩, 9), (⟨"QueryFleet$Job", "sendRun", "(I)V"⟩, 9), (⟨"QueryFleet$Job", "workerOf", "(II)I"⟩, 9), (⟨"QueryFleet$Job", "finish", "(I)V"⟩, 9), (⟨"QueryFleet", "isWorker", "(I)Z"⟩, 5), (⟨"QueryFleet", "hasResult", "()Z"⟩, 5), (⟨"QueryFleet", "hasCell", "(II)Z"⟩, 5), (⟨"QueryFleetModel", "open", "()Z"⟩, 56), (⟨"QueryFleetModel", "isColumn", "(I)Z"⟩, 56), (⟨"QueryFleetModel", "push", "(IJ)V"⟩, 56), (⟨"QueryFleetModel", "copy", "(III)V"⟩, 56), (⟨"QueryFleetModel", "form", "()I"⟩, 56)]
theorem lw_r2 : ∀ q ∈ lw_privs_2, lw_okq q := List.forall_mem_cons.mpr ⟨lw_p16, List.forall_mem_cons.mpr ⟨lw_p17, List.forall_mem_cons.mpr ⟨lw_p18, List.forall_mem_cons.mpr ⟨lw_p19, List.forall_mem_cons.mpr ⟨lw_p20, List.forall_mem_cons.mpr ⟨lw_p21, List.forall_mem_cons.mpr ⟨lw_p22, List.forall_mem_cons.mpr ⟨lw_p23, List.forall_mem_cons.mpr ⟨lw_p24, List.forall_mem_cons.mpr ⟨lw_p25, List.forall_mem_cons.mpr ⟨lw_p26, List.forall_mem_cons.mpr ⟨lw_p27, List.forall_mem_cons.mpr ⟨lw_p28, List.forall_mem_cons.mpr ⟨lw_p29, List.forall_mem_cons.mpr ⟨lw_p30, List.forall_mem_cons.mpr ⟨lw_p31, fun _ h => absurd h List.not_mem_nil⟩⟩⟩⟩⟩⟩⟩⟩⟩⟩⟩⟩⟩⟩⟩⟩
theorem lw_p32 : lw_okq (⟨"QueryFleetModel", "joinAll", "()V"⟩, 56) := ⟨⟨by decide +kernel, by decide +kernel⟩, List.mem_of_getElem? (i := 820) (by decide +kernel), List.mem_of_getElem? (i := 1058) (by decide +kernel), List.mem_of_getElem? (i := 1059) (by decide +kernel)⟩
theorem lw_p33 : lw_okq (⟨"QueryFleetModel", "bring", "(II)V"⟩, 56) := ⟨⟨by decide +kernel, by decide +kernel⟩, List.mem_of_getElem? (i := 820) (by decide +kernel), List.mem_of_getElem? (i := 1062) (by decide +kernel), List.mem_of_getElem? (i := 1063) (by decide +kernel)⟩
theorem lw_p34 : lw_okq (⟨"QueryFleetModel", "second0", "()I"⟩, 56) := ⟨⟨by decide +kernel, by decide +kernel⟩, List.mem_of_getElem? (i := 820) (by decide +kernel), List.mem_of_getElem? (i := 1066) (by decide +kernel), List.mem_of_getElem? (i := 1067) (by decide +kernel)⟩
theorem lw_p35 : lw_okq (⟨"QueryFleetModel", "matches", "()Z"⟩, 56) := ⟨⟨by decide +kernel, by decide +kernel⟩, List.mem_of_getElem? (i := 820) (by decide +kernel), List.mem_of_getElem? (i := 1070) (by decide +kernel), List.mem_of_getElem? (i := 1071) (by decide +kernel)⟩
theorem lw_p36 : lw_okq (⟨"QueryFleetModel", "keep", "()V"⟩, 56) := ⟨⟨by decide +kernel, by decide +kernel⟩, List.mem_of_getElem? (i := 820) (by decide +kernel), List.mem_of_getElem? (i := 1074) (by decide +kernel), List.mem_of_getElem? (i := 1075) (by decide +kernel)⟩
theorem lw_p37 : lw_okq (⟨"QueryFleetModel", "passesAll", "()Z"⟩, 56) := ⟨⟨by decide +kernel, by decide +kernel⟩, List.mem_of_getElem? (i := 820) (by decide +kernel), List.mem_of_getElem? (i := 1078) (by decide +kernel), List.mem_of_getElem? (i := 1079) (by decide +kernel)⟩
theorem lw_p38 : lw_okq (⟨"QueryFleetModel", "isTrue", "(I)Z"⟩, 56) := ⟨⟨by decide +kernel, by decide +kernel⟩, List.mem_of_getElem? (i := 820) (by decide +kernel), List.mem_of_getElem? (i := 1082) (by decide +kernel), List.mem_of_getElem? (i := 1083) (by decide +kernel)⟩
theorem lw_p39 : lw_okq (⟨"QueryFleetModel", "evaluate", "(I)V"⟩, 56) := ⟨⟨by decide +kernel, by decide +kernel⟩, List.mem_of_getElem? (i := 820) (by decide +kernel), List.mem_of_getElem? (i := 1086) (by decide +kernel), List.mem_of_getElem? (i := 1087) (by decide +kernel)⟩
theorem lw_p40 : lw_okq (⟨"QueryFleetModel", "set", "(IJZ)V"⟩, 56) := ⟨⟨by decide +kernel, by decide +kernel⟩, List.mem_of_getElem? (i := 820) (by decide +kernel), List.mem_of_getElem? (i := 1090) (by decide +kernel), List.mem_of_getElem? (i := 1091) (by decide +kernel)⟩
theorem lw_p41 : lw_okq (⟨"QueryFleetModel", "calculate", "(II)V"⟩, 56) := ⟨⟨by decide +kernel, by decide +kernel⟩, List.mem_of_getElem? (i := 820) (by decide +kernel), List.mem_of_getElem? (i := 1095) (by decide +kernel), List.mem_of_getElem? (i := 1096) (by decide +kernel)⟩
theorem lw_p42 : lw_okq (⟨"QueryFleetModel", "makeResults", "()V"⟩, 56) := ⟨⟨by decide +kernel, by decide +kernel⟩, List.mem_of_getElem? (i := 820) (by decide +kernel), List.mem_of_getElem? (i := 1104) (by decide +kernel), List.mem_of_getElem? (i := 1105) (by decide +kernel)⟩
theorem lw_p43 : lw_okq (⟨"QueryFleetModel", "groupRow", "(I)V"⟩, 56) := ⟨⟨by decide +kernel, by decide +kernel⟩, List.mem_of_getElem? (i := 820) (by decide +kernel), List.mem_of_getElem? (i := 1108) (by decide +kernel), List.mem_of_getElem? (i := 1109) (by decide +kernel)⟩
theorem lw_p44 : lw_okq (⟨"QueryFleetModel", "give", "(IJZ)V"⟩, 56) := ⟨⟨by decide +kernel, by decide +kernel⟩, List.mem_of_getElem? (i := 820) (by decide +kernel), List.mem_of_getElem? (i := 1112) (by decide +kernel), List.mem_of_getElem? (i := 1113) (by decide +kernel)⟩
theorem lw_p45 : lw_okq (⟨"QueryFleetModel", "aggregate", "(III)V"⟩, 56) := ⟨⟨by decide +kernel, by decide +kernel⟩, List.mem_of_getElem? (i := 820) (by decide +kernel), List.mem_of_getElem? (i := 1116) (by decide +kernel), List.mem_of_getElem? (i := 1117) (by decide +kernel)⟩
theorem lw_p46 : lw_okq (⟨"QueryFleetModel", "together", "(II)Z"⟩, 56) := ⟨⟨by decide +kernel, by decide +kernel⟩, List.mem_of_getElem? (i := 820) (by decide +kernel), List.mem_of_getElem? (i := 1120) (by decide +kernel), List.mem_of_getElem? (i := 1121) (by decide +kernel)⟩
theorem lw_p47 : lw_okq (⟨"QueryFleetModel", "bringKept", "(I)V"⟩, 56) := ⟨⟨by decide +kernel, by decide +kernel⟩, List.mem_of_getElem? (i := 820) (by decide +kernel), List.mem_of_getElem? (i := 1124) (by decide +kernel), List.mem_of_getElem? (i := 1125) (by decide +kernel)⟩
def lw_privs_3 : List (MethodName × Nat) := [(⟨"QueryFleetModel", "joinAll", "()V"⟩, 56), (⟨"QueryFleetModel", "bring", "(II)V"⟩, 56), (⟨"QueryFleetModel", "second0", "()I"⟩, 56), (⟨"QueryFleetModel", "matches", "()Z"⟩, 56), (⟨"QueryFleetModel", "keep", "()V"⟩, 56), (⟨"QueryFleetModel", "passesAll", "()Z"⟩, 56), (⟨"QueryFleetModel", "isTrue", "(I)Z"⟩, 56), (⟨"QueryFleetModel", "evaluate", "(I)V"⟩, 56), (⟨"QueryFleetModel", "set", "(IJZ)V"⟩, 56), (⟨"QueryFleetModel", "calculate", "(II)V"⟩, 56), (⟨"QueryFleetModel", "makeResults", "()V"⟩, 56), (⟨"QueryFleetModel", "groupRow", "(I)V"⟩, 56), (⟨"QueryFleetModel", "give", "(IJZ)V"⟩, 56), (⟨"QueryFleetModel", "aggregate", "(III)V"⟩, 56), (⟨"QueryFleetModel", "together", "(II)Z"⟩, 56), (⟨"QueryFleetModel", "bringKept", "(I)V"⟩, 56)]
theorem lw_r3 : ∀ q ∈ lw_privs_3, lw_okq q := List.forall_mem_cons.mpr ⟨lw_p32, List.forall_mem_cons.mpr ⟨lw_p33, List.forall_mem_cons.mpr ⟨lw_p34, List.forall_mem_cons.mpr ⟨lw_p35, List.forall_mem_cons.mpr ⟨lw_p36, List.forall_mem_cons.mpr ⟨lw_p37, List.forall_mem_cons.mpr ⟨lw_p38, List.forall_mem_cons.mpr ⟨lw_p39, List.forall_mem_cons.mpr ⟨lw_p40, List.forall_mem_cons.mpr ⟨lw_p41, List.forall_mem_cons.mpr ⟨lw_p42, List.forall_mem_cons.mpr ⟨lw_p43, List.forall_mem_cons.mpr ⟨lw_p44, List.forall_mem_cons.mpr ⟨lw_p45, List.forall_mem_cons.mpr ⟨lw_p46, List.forall_mem_cons.mpr ⟨lw_p47, fun _ h => absurd h List.not_mem_nil⟩⟩⟩⟩⟩⟩⟩⟩⟩⟩⟩⟩⟩⟩⟩⟩
theorem lw_p48 : lw_okq (⟨"QueryFleetModel", "firstOfGroup", "(I)Z"⟩, 56) := ⟨⟨by decide +kernel, by decide +kernel⟩, List.mem_of_getElem? (i := 820) (by decide +kernel), List.mem_of_getElem? (i := 1131) (by decide +kernel), List.mem_of_getElem? (i := 1132) (by decide +kernel)⟩
theorem lw_p49 : lw_okq (⟨"QueryFleetModel", "sort", "()V"⟩, 56) := ⟨⟨by decide +kernel, by decide +kernel⟩, List.mem_of_getElem? (i := 820) (by decide +kernel), List.mem_of_getElem? (i := 1135) (by decide +kernel), List.mem_of_getElem? (i := 1136) (by decide +kernel)⟩
theorem lw_p50 : lw_okq (⟨"QueryFleetModel", "before", "(II)Z"⟩, 56) := ⟨⟨by decide +kernel, by decide +kernel⟩, List.mem_of_getElem? (i := 820) (by decide +kernel), List.mem_of_getElem? (i := 1139) (by decide +kernel), List.mem_of_getElem? (i := 1140) (by decide +kernel)⟩
theorem lw_p51 : lw_okq (⟨"QueryFleetModel", "compare", "(III)I"⟩, 56) := ⟨⟨by decide +kernel, by decide +kernel⟩, List.mem_of_getElem? (i := 820) (by decide +kernel), List.mem_of_getElem? (i := 1143) (by decide +kernel), List.mem_of_getElem? (i := 1144) (by decide +kernel)⟩
theorem lw_p52 : lw_okq (⟨"QueryFleetModel", "shown", "()I"⟩, 56) := ⟨⟨by decide +kernel, by decide +kernel⟩, List.mem_of_getElem? (i := 820) (by decide +kernel), List.mem_of_getElem? (i := 1147) (by decide +kernel), List.mem_of_getElem? (i := 1148) (by decide +kernel)⟩
theorem lw_p53 : lw_okq (⟨"QueryFleetModel", "passes", "()I"⟩, 56) := ⟨⟨by decide +kernel, by decide +kernel⟩, List.mem_of_getElem? (i := 820) (by decide +kernel), List.mem_of_getElem? (i := 1151) (by decide +kernel), List.mem_of_getElem? (i := 1152) (by decide +kernel)⟩
theorem lw_p54 : lw_okq (⟨"QueryFleetModel", "addTasks", "(I)V"⟩, 56) := ⟨⟨by decide +kernel, by decide +kernel⟩, List.mem_of_getElem? (i := 820) (by decide +kernel), List.mem_of_getElem? (i := 1155) (by decide +kernel), List.mem_of_getElem? (i := 1156) (by decide +kernel)⟩
theorem lw_p55 : lw_okq (⟨"QueryFleetModel", "scanRows", "(II)I"⟩, 56) := ⟨⟨by decide +kernel, by decide +kernel⟩, List.mem_of_getElem? (i := 820) (by decide +kernel), List.mem_of_getElem? (i := 1159) (by decide +kernel), List.mem_of_getElem? (i := 1160) (by decide +kernel)⟩
theorem lw_p56 : lw_okq (⟨"QueryFleetModel", "names", "(II)Z"⟩, 56) := ⟨⟨by decide +kernel, by decide +kernel⟩, List.mem_of_getElem? (i := 820) (by decide +kernel), List.mem_of_getElem? (i := 1163) (by decide +kernel), List.mem_of_getElem? (i := 1164) (by decide +kernel)⟩
theorem lw_p57 : lw_okq (⟨"QueryFleetModel", "joinRows", "(I)I"⟩, 56) := ⟨⟨by decide +kernel, by decide +kernel⟩, List.mem_of_getElem? (i := 820) (by decide +kernel), List.mem_of_getElem? (i := 1167) (by decide +kernel), List.mem_of_getElem? (i := 1168) (by decide +kernel)⟩
theorem lw_p58 : lw_okq (⟨"QueryFleetModel", "partOf", "(JZ)I"⟩, 56) := ⟨⟨by decide +kernel, by decide +kernel⟩, List.mem_of_getElem? (i := 820) (by decide +kernel), List.mem_of_getElem? (i := 1171) (by decide +kernel), List.mem_of_getElem? (i := 1172) (by decide +kernel)⟩
theorem lw_p59 : lw_okq (⟨"QueryFleetModel", "groupRows", "(I)I"⟩, 56) := ⟨⟨by decide +kernel, by decide +kernel⟩, List.mem_of_getElem? (i := 820) (by decide +kernel), List.mem_of_getElem? (i := 1175) (by decide +kernel), List.mem_of_getElem? (i := 1176) (by decide +kernel)⟩
theorem lw_p60 : lw_okq (⟨"QueryFleetModel", "sendReady", "()V"⟩, 56) := ⟨⟨by decide +kernel, by decide +kernel⟩, List.mem_of_getElem? (i := 820) (by decide +kernel), List.mem_of_getElem? (i := 1179) (by decide +kernel), List.mem_of_getElem? (i := 1180) (by decide +kernel)⟩
theorem lw_p61 : lw_okq (⟨"QueryFleetModel", "allDone", "(I)Z"⟩, 56) := ⟨⟨by decide +kernel, by decide +kernel⟩, List.mem_of_getElem? (i := 820) (by decide +kernel), List.mem_of_getElem? (i := 1183) (by decide +kernel), List.mem_of_getElem? (i := 1184) (by decide +kernel)⟩
theorem lw_p62 : lw_okq (⟨"QueryFleetModel", "sendRun", "(I)V"⟩, 56) := ⟨⟨by decide +kernel, by decide +kernel⟩, List.mem_of_getElem? (i := 820) (by decide +kernel), List.mem_of_getElem? (i := 1187) (by decide +kernel), List.mem_of_getElem? (i := 1188) (by decide +kernel)⟩
theorem lw_p63 : lw_okq (⟨"QueryFleetModel", "send", "(III)V"⟩, 56) := ⟨⟨by decide +kernel, by decide +kernel⟩, List.mem_of_getElem? (i := 820) (by decide +kernel), List.mem_of_getElem? (i := 1191) (by decide +kernel), List.mem_of_getElem? (i := 1192) (by decide +kernel)⟩
def lw_privs_4 : List (MethodName × Nat) := [(⟨"QueryFleetModel", "firstOfGroup", "(I)Z"⟩, 56), (⟨"QueryFleetModel", "sort", "()V"⟩, 56), (⟨"QueryFleetModel", "before", "(II)Z"⟩, 56), (⟨"QueryFleetModel", "compare", "(III)I"⟩, 56), (⟨"QueryFleetModel", "shown", "()I"⟩, 56), (⟨"QueryFleetModel", "passes", "()I"⟩, 56), (⟨"QueryFleetModel", "addTasks", "(I)V"⟩, 56), (⟨"QueryFleetModel", "scanRows", "(II)I"⟩, 56), (⟨"QueryFleetModel", "names", "(II)Z"⟩, 56), (⟨"QueryFleetModel", "joinRows", "(I)I"⟩, 56), (⟨"QueryFleetModel", "partOf", "(JZ)I"⟩, 56), (⟨"QueryFleetModel", "groupRows", "(I)I"⟩, 56), (⟨"QueryFleetModel", "sendReady", "()V"⟩, 56), (⟨"QueryFleetModel", "allDone", "(I)Z"⟩, 56), (⟨"QueryFleetModel", "sendRun", "(I)V"⟩, 56), (⟨"QueryFleetModel", "send", "(III)V"⟩, 56)]
theorem lw_r4 : ∀ q ∈ lw_privs_4, lw_okq q := List.forall_mem_cons.mpr ⟨lw_p48, List.forall_mem_cons.mpr ⟨lw_p49, List.forall_mem_cons.mpr ⟨lw_p50, List.forall_mem_cons.mpr ⟨lw_p51, List.forall_mem_cons.mpr ⟨lw_p52, List.forall_mem_cons.mpr ⟨lw_p53, List.forall_mem_cons.mpr ⟨lw_p54, List.forall_mem_cons.mpr ⟨lw_p55, List.forall_mem_cons.mpr ⟨lw_p56, List.forall_mem_cons.mpr ⟨lw_p57, List.forall_mem_cons.mpr ⟨lw_p58, List.forall_mem_cons.mpr ⟨lw_p59, List.forall_mem_cons.mpr ⟨lw_p60, List.forall_mem_cons.mpr ⟨lw_p61, List.forall_mem_cons.mpr ⟨lw_p62, List.forall_mem_cons.mpr ⟨lw_p63, fun _ h => absurd h List.not_mem_nil⟩⟩⟩⟩⟩⟩⟩⟩⟩⟩⟩⟩⟩⟩⟩⟩
theorem lw_p64 : lw_okq (⟨"QueryFleetModel", "strike", "(I)V"⟩, 56) := ⟨⟨by decide +kernel, by decide +kernel⟩, List.mem_of_getElem? (i := 820) (by decide +kernel), List.mem_of_getElem? (i := 1199) (by decide +kernel), List.mem_of_getElem? (i := 1200) (by decide +kernel)⟩
theorem lw_p65 : lw_okq (⟨"QueryFleetModel", "deliver", "(III)I"⟩, 56) := ⟨⟨by decide +kernel, by decide +kernel⟩, List.mem_of_getElem? (i := 820) (by decide +kernel), List.mem_of_getElem? (i := 1203) (by decide +kernel), List.mem_of_getElem? (i := 1204) (by decide +kernel)⟩
theorem lw_p66 : lw_okq (⟨"QueryFleetModel", "workerOf", "(II)I"⟩, 56) := ⟨⟨by decide +kernel, by decide +kernel⟩, List.mem_of_getElem? (i := 820) (by decide +kernel), List.mem_of_getElem? (i := 1207) (by decide +kernel), List.mem_of_getElem? (i := 1208) (by decide +kernel)⟩
theorem lw_p67 : lw_okq (⟨"QueryFleetModel", "isWorker", "(I)Z"⟩, 56) := ⟨⟨by decide +kernel, by decide +kernel⟩, List.mem_of_getElem? (i := 820) (by decide +kernel), List.mem_of_getElem? (i := 1215) (by decide +kernel), List.mem_of_getElem? (i := 1216) (by decide +kernel)⟩
theorem lw_p68 : lw_okq (⟨"QueryFleetModel", "isCell", "(II)Z"⟩, 56) := ⟨⟨by decide +kernel, by decide +kernel⟩, List.mem_of_getElem? (i := 820) (by decide +kernel), List.mem_of_getElem? (i := 1243) (by decide +kernel), List.mem_of_getElem? (i := 1244) (by decide +kernel)⟩
def lw_privs_5 : List (MethodName × Nat) := [(⟨"QueryFleetModel", "strike", "(I)V"⟩, 56), (⟨"QueryFleetModel", "deliver", "(III)I"⟩, 56), (⟨"QueryFleetModel", "workerOf", "(II)I"⟩, 56), (⟨"QueryFleetModel", "isWorker", "(I)Z"⟩, 56), (⟨"QueryFleetModel", "isCell", "(II)Z"⟩, 56)]
theorem lw_r5 : ∀ q ∈ lw_privs_5, lw_okq q := List.forall_mem_cons.mpr ⟨lw_p64, List.forall_mem_cons.mpr ⟨lw_p65, List.forall_mem_cons.mpr ⟨lw_p66, List.forall_mem_cons.mpr ⟨lw_p67, List.forall_mem_cons.mpr ⟨lw_p68, fun _ h => absurd h List.not_mem_nil⟩⟩⟩⟩⟩
def lw_privs : List (MethodName × Nat) := lw_privs_1 ++ (lw_privs_2 ++ (lw_privs_3 ++ (lw_privs_4 ++ (lw_privs_5))))
def lw_tbl : List Cond := k2_sels lw_privs ++ tables_1
theorem lw_privs_ok : ∀ q ∈ lw_privs, lw_okq q := by
  show ∀ q ∈ lw_privs_1 ++ (lw_privs_2 ++ (lw_privs_3 ++ (lw_privs_4 ++ (lw_privs_5)))), lw_okq q
  exact List.forall_mem_append.mpr ⟨lw_r1, List.forall_mem_append.mpr ⟨lw_r2, List.forall_mem_append.mpr ⟨lw_r3, List.forall_mem_append.mpr ⟨lw_r4, lw_r5⟩⟩⟩⟩
end
section
def R_QF : String := "QueryFleet"
def F_QF : u_T := fun k => match k with
  | 0 => ("QueryFleet", "plan", "LQueryFleet$Plan;", true)
  | 1 => ("QueryFleet", "tables", "[LQueryFleet$Table;", true)
  | 2 => ("QueryFleet", "query", "LQueryFleet$Query;", true)
  | 3 => ("QueryFleet", "result", "LQueryFleet$Result;", true)
  | _ => ("QueryFleet", "job", "LQueryFleet$Job;", true)
def t_QF : Nat → FieldType := fun k => match k with
  | 0 => .object "QueryFleet$Plan"
  | 1 => .array (.object "QueryFleet$Table")
  | 2 => .object "QueryFleet$Query"
  | 3 => .object "QueryFleet$Result"
  | _ => .object "QueryFleet$Job"
def R_Pl : String := "QueryFleet$Plan"
def F_Pl : u_T := fun k => match k with
  | 0 => ("QueryFleet$Plan", "tables", "[LQueryFleet$Table;", true)
  | 1 => ("QueryFleet$Plan", "query", "LQueryFleet$Query;", true)
  | 2 => ("QueryFleet$Plan", "machine", "LQueryFleet$Machine;", true)
  | 3 => ("QueryFleet$Plan", "aggregate", "LQueryFleet$Aggregate;", true)
  | 4 => ("QueryFleet$Plan", "firsts", "[I", true)
  | 5 => ("QueryFleet$Plan", "seconds", "[I", true)
  | 6 => ("QueryFleet$Plan", "kept", "I", false)
  | 7 => ("QueryFleet$Plan", "groupOf", "[I", true)
  | 8 => ("QueryFleet$Plan", "groupValues", "[J", true)
  | 9 => ("QueryFleet$Plan", "groupNulls", "[Z", true)
  | _ => ("QueryFleet$Plan", "groups", "I", false)
def t_Pl : Nat → FieldType := fun k => match k with
  | 0 => .array (.object "QueryFleet$Table")
  | 1 => .object "QueryFleet$Query"
  | 2 => .object "QueryFleet$Machine"
  | 3 => .object "QueryFleet$Aggregate"
  | 4 => .array .int
  | 5 => .array .int
  | 6 => .int
  | 7 => .array .int
  | 8 => .array .long
  | 9 => .array .boolean
  | _ => .int
def R_Qu : String := "QueryFleet$Query"
def F_Qu : u_T := fun k => match k with
  | 0 => ("QueryFleet$Query", "begun", "Z", false)
  | 1 => ("QueryFleet$Query", "kind", "I", false)
  | 2 => ("QueryFleet$Query", "first", "I", false)
  | 3 => ("QueryFleet$Query", "second", "I", false)
  | 4 => ("QueryFleet$Query", "left", "I", false)
  | 5 => ("QueryFleet$Query", "right", "I", false)
  | 6 => ("QueryFleet$Query", "stack", "[LQueryFleet$Expression;", true)
  | 7 => ("QueryFleet$Query", "depth", "I", false)
  | 8 => ("QueryFleet$Query", "conditions", "[LQueryFleet$Expression;", true)
  | 9 => ("QueryFleet$Query", "conditionCount", "I", false)
  | 10 => ("QueryFleet$Query", "outputs", "[LQueryFleet$Expression;", true)
  | 11 => ("QueryFleet$Query", "outputKinds", "[I", true)
  | 12 => ("QueryFleet$Query", "outputCount", "I", false)
  | 13 => ("QueryFleet$Query", "groupColumn", "I", false)
  | 14 => ("QueryFleet$Query", "orderColumn", "I", false)
  | 15 => ("QueryFleet$Query", "down", "Z", false)
  | _ => ("QueryFleet$Query", "limit", "I", false)
def t_Qu : Nat → FieldType := fun k => match k with
  | 0 => .boolean
  | 1 => .int
  | 2 => .int
  | 3 => .int
  | 4 => .int
  | 5 => .int
  | 6 => .array (.object "QueryFleet$Expression")
  | 7 => .int
  | 8 => .array (.object "QueryFleet$Expression")
  | 9 => .int
  | 10 => .array (.object "QueryFleet$Expression")
  | 11 => .array .int
  | 12 => .int
  | 13 => .int
  | 14 => .int
  | 15 => .boolean
  | _ => .int
def R_Ex : String := "QueryFleet$Expression"
def F_Ex : u_T := fun k => match k with
  | 0 => ("QueryFleet$Expression", "codes", "[I", true)
  | 1 => ("QueryFleet$Expression", "operands", "[I", true)
  | 2 => ("QueryFleet$Expression", "length", "I", false)
  | 3 => ("QueryFleet$Expression", "truth", "Z", false)
  | _ => ("QueryFleet$Expression", "named", "I", false)
def t_Ex : Nat → FieldType := fun k => match k with
  | 0 => .array .int
  | 1 => .array .int
  | 2 => .int
  | 3 => .boolean
  | _ => .int
def R_Ma : String := "QueryFleet$Machine"
def F_Ma : u_T := fun k => match k with
  | 0 => ("QueryFleet$Machine", "cells", "[J", true)
  | 1 => ("QueryFleet$Machine", "cellNulls", "[Z", true)
  | 2 => ("QueryFleet$Machine", "values", "[J", true)
  | _ => ("QueryFleet$Machine", "nulls", "[Z", true)
def t_Ma : Nat → FieldType := fun k => match k with
  | 0 => .array .long
  | 1 => .array .boolean
  | 2 => .array .long
  | _ => .array .boolean
def R_Ag : String := "QueryFleet$Aggregate"
def F_Ag : u_T := fun k => match k with
  | 0 => ("QueryFleet$Aggregate", "rows", "J", false)
  | 1 => ("QueryFleet$Aggregate", "numbers", "J", false)
  | 2 => ("QueryFleet$Aggregate", "high", "J", false)
  | 3 => ("QueryFleet$Aggregate", "low", "J", false)
  | 4 => ("QueryFleet$Aggregate", "least", "J", false)
  | _ => ("QueryFleet$Aggregate", "greatest", "J", false)
def t_Ag : Nat → FieldType := fun k => match k with
  | 0 => .long
  | 1 => .long
  | 2 => .long
  | 3 => .long
  | 4 => .long
  | _ => .long
def R_Tb : String := "QueryFleet$Table"
def F_Tb : u_T := fun k => match k with
  | 0 => ("QueryFleet$Table", "values", "[I", true)
  | 1 => ("QueryFleet$Table", "nulls", "[Z", true)
  | _ => ("QueryFleet$Table", "size", "I", false)
def t_Tb : Nat → FieldType := fun k => match k with
  | 0 => .array .int
  | 1 => .array .boolean
  | _ => .int
def R_Re : String := "QueryFleet$Result"
def F_Re : u_T := fun k => match k with
  | 0 => ("QueryFleet$Result", "values", "[J", true)
  | 1 => ("QueryFleet$Result", "nulls", "[Z", true)
  | 2 => ("QueryFleet$Result", "places", "[I", true)
  | 3 => ("QueryFleet$Result", "rows", "I", false)
  | 4 => ("QueryFleet$Result", "columns", "I", false)
  | 5 => ("QueryFleet$Result", "counting", "I", false)
  | _ => ("QueryFleet$Result", "passes", "I", false)
def t_Re : Nat → FieldType := fun k => match k with
  | 0 => .array .long
  | 1 => .array .boolean
  | 2 => .array .int
  | 3 => .int
  | 4 => .int
  | 5 => .int
  | _ => .int
def R_Jo : String := "QueryFleet$Job"
def F_Jo : u_T := fun k => match k with
  | 0 => ("QueryFleet$Job", "on", "Z", false)
  | 1 => ("QueryFleet$Job", "workers", "I", false)
  | 2 => ("QueryFleet$Job", "tasks", "[LQueryFleet$Task;", true)
  | 3 => ("QueryFleet$Job", "taskCount", "I", false)
  | 4 => ("QueryFleet$Job", "undone", "I", false)
  | 5 => ("QueryFleet$Job", "ignored", "I", false)
  | 6 => ("QueryFleet$Job", "time", "I", false)
  | 7 => ("QueryFleet$Job", "waiting", "LQueryFleet$Line;", true)
  | _ => ("QueryFleet$Job", "queues", "[LQueryFleet$Line;", true)
def t_Jo : Nat → FieldType := fun k => match k with
  | 0 => .boolean
  | 1 => .int
  | 2 => .array (.object "QueryFleet$Task")
  | 3 => .int
  | 4 => .int
  | 5 => .int
  | 6 => .int
  | 7 => .object "QueryFleet$Line"
  | _ => .array (.object "QueryFleet$Line")
def R_Li : String := "QueryFleet$Line"
def F_Li : u_T := fun k => match k with
  | 0 => ("QueryFleet$Line", "kinds", "[I", true)
  | 1 => ("QueryFleet$Line", "tasks", "[I", true)
  | 2 => ("QueryFleet$Line", "attempts", "[I", true)
  | _ => ("QueryFleet$Line", "size", "I", false)
def t_Li : Nat → FieldType := fun k => match k with
  | 0 => .array .int
  | 1 => .array .int
  | 2 => .array .int
  | _ => .int
def R_Ta : String := "QueryFleet$Task"
def F_Ta : u_T := fun k => match k with
  | 0 => ("QueryFleet$Task", "kind", "I", false)
  | 1 => ("QueryFleet$Task", "part", "I", false)
  | 2 => ("QueryFleet$Task", "rows", "I", false)
  | 3 => ("QueryFleet$Task", "attempts", "I", false)
  | 4 => ("QueryFleet$Task", "sentAt", "I", false)
  | _ => ("QueryFleet$Task", "done", "Z", false)
def t_Ta : Nat → FieldType := fun k => match k with
  | 0 => .int
  | 1 => .int
  | 2 => .int
  | 3 => .int
  | 4 => .int
  | _ => .boolean
def R_QM : String := "QueryFleetModel"
def F_QM : u_T := fun k => match k with
  | 0 => ("QueryFleetModel", "rows", "[I", false)
  | 1 => ("QueryFleetModel", "table", "[J", false)
  | 2 => ("QueryFleetModel", "tableNull", "[Z", false)
  | 3 => ("QueryFleetModel", "begun", "Z", false)
  | 4 => ("QueryFleetModel", "kind", "I", false)
  | 5 => ("QueryFleetModel", "first", "I", false)
  | 6 => ("QueryFleetModel", "second", "I", false)
  | 7 => ("QueryFleetModel", "left", "I", false)
  | 8 => ("QueryFleetModel", "right", "I", false)
  | 9 => ("QueryFleetModel", "grouped", "I", false)
  | 10 => ("QueryFleetModel", "orderBy", "I", false)
  | 11 => ("QueryFleetModel", "downwards", "Z", false)
  | 12 => ("QueryFleetModel", "limit", "I", false)
  | 13 => ("QueryFleetModel", "depth", "I", false)
  | 14 => ("QueryFleetModel", "conditions", "I", false)
  | 15 => ("QueryFleetModel", "outputs", "I", false)
  | 16 => ("QueryFleetModel", "part", "[I", false)
  | 17 => ("QueryFleetModel", "partValue", "[J", false)
  | 18 => ("QueryFleetModel", "size", "[I", false)
  | 19 => ("QueryFleetModel", "truth", "[Z", false)
  | 20 => ("QueryFleetModel", "outputKind", "[I", false)
  | 21 => ("QueryFleetModel", "work", "[J", false)
  | 22 => ("QueryFleetModel", "workNull", "[Z", false)
  | 23 => ("QueryFleetModel", "here", "[J", false)
  | 24 => ("QueryFleetModel", "hereNull", "[Z", false)
  | 25 => ("QueryFleetModel", "kept", "I", false)
  | 26 => ("QueryFleetModel", "keptValue", "[J", false)
  | 27 => ("QueryFleetModel", "keptNull", "[Z", false)
  | 28 => ("QueryFleetModel", "results", "I", false)
  | 29 => ("QueryFleetModel", "width", "I", false)
  | 30 => ("QueryFleetModel", "value", "[J", false)
  | 31 => ("QueryFleetModel", "isNull", "[Z", false)
  | 32 => ("QueryFleetModel", "place", "[I", false)
  | 33 => ("QueryFleetModel", "counted", "I", false)
  | 34 => ("QueryFleetModel", "columns", "I", false)
  | 35 => ("QueryFleetModel", "sorting", "I", false)
  | 36 => ("QueryFleetModel", "was", "Z", false)
  | 37 => ("QueryFleetModel", "on", "Z", false)
  | 38 => ("QueryFleetModel", "workers", "I", false)
  | 39 => ("QueryFleetModel", "memory", "I", false)
  | 40 => ("QueryFleetModel", "tasks", "I", false)
  | 41 => ("QueryFleetModel", "taskKind", "[I", false)
  | 42 => ("QueryFleetModel", "taskPart", "[I", false)
  | 43 => ("QueryFleetModel", "attempts", "[I", false)
  | 44 => ("QueryFleetModel", "sentAt", "[I", false)
  | 45 => ("QueryFleetModel", "finished", "[Z", false)
  | 46 => ("QueryFleetModel", "taskRows", "[I", false)
  | 47 => ("QueryFleetModel", "time", "I", false)
  | 48 => ("QueryFleetModel", "ignored", "I", false)
  | 49 => ("QueryFleetModel", "waiting", "I", false)
  | 50 => ("QueryFleetModel", "mKind", "[I", false)
  | 51 => ("QueryFleetModel", "mTask", "[I", false)
  | 52 => ("QueryFleetModel", "mAttempt", "[I", false)
  | 53 => ("QueryFleetModel", "queued", "[I", false)
  | 54 => ("QueryFleetModel", "qTask", "[I", false)
  | _ => ("QueryFleetModel", "qAttempt", "[I", false)
def t_QM : Nat → FieldType := fun k => match k with
  | 0 => .array .int
  | 1 => .array .long
  | 2 => .array .boolean
  | 3 => .boolean
  | 4 => .int
  | 5 => .int
  | 6 => .int
  | 7 => .int
  | 8 => .int
  | 9 => .int
  | 10 => .int
  | 11 => .boolean
  | 12 => .int
  | 13 => .int
  | 14 => .int
  | 15 => .int
  | 16 => .array .int
  | 17 => .array .long
  | 18 => .array .int
  | 19 => .array .boolean
  | 20 => .array .int
  | 21 => .array .long
  | 22 => .array .boolean
  | 23 => .array .long
  | 24 => .array .boolean
  | 25 => .int
  | 26 => .array .long
  | 27 => .array .boolean
  | 28 => .int
  | 29 => .int
  | 30 => .array .long
  | 31 => .array .boolean
  | 32 => .array .int
  | 33 => .int
  | 34 => .int
  | 35 => .int
  | 36 => .boolean
  | 37 => .boolean
  | 38 => .int
  | 39 => .int
  | 40 => .int
  | 41 => .array .int
  | 42 => .array .int
  | 43 => .array .int
  | 44 => .array .int
  | 45 => .array .boolean
  | 46 => .array .int
  | 47 => .int
  | 48 => .int
  | 49 => .int
  | 50 => .array .int
  | 51 => .array .int
  | 52 => .array .int
  | 53 => .array .int
  | 54 => .array .int
  | _ => .array .int
abbrev vwCl : List vw_C := [(R_QF, F_QF, 5), (R_Pl, F_Pl, 11), (R_Qu, F_Qu, 17), (R_Ex, F_Ex, 5), (R_Ma, F_Ma, 4), (R_Ag, F_Ag, 6), (R_Tb, F_Tb, 3), (R_Re, F_Re, 7), (R_Jo, F_Jo, 9), (R_Li, F_Li, 4), (R_Ta, F_Ta, 6), (R_QM, F_QM, 56)]
/-- how many fields class number c has, and their types -/
def qN (c : Nat) : Nat := match c with
  | 0 => 5
  | 1 => 11
  | 2 => 17
  | 3 => 5
  | 4 => 4
  | 5 => 6
  | 6 => 3
  | 7 => 7
  | 8 => 9
  | 9 => 4
  | 10 => 6
  | 11 => 56
  | _ => 0
def qFT (c : Nat) : Nat → FieldType := match c with
  | 0 => t_QF
  | 1 => t_Pl
  | 2 => t_Qu
  | 3 => t_Ex
  | 4 => t_Ma
  | 5 => t_Ag
  | 6 => t_Tb
  | 7 => t_Re
  | 8 => t_Jo
  | 9 => t_Li
  | 10 => t_Ta
  | 11 => t_QM
  | _ => fun _ => .int
/-- what each cell is: 152 cells, the class's 122 first, then the reference's -/
def qPT : List (List (Nat × Nat)) := [[(0, 0), (1, 0), (23, 3), (2, 0), (24, 8), (3, 0), (20, 24), (20, 24), (3, 0), (20, 24), (20, 24), (3, 0), (20, 24), (20, 24), (3, 0), (20, 24)],
  [(20, 24), (3, 0), (20, 24), (20, 24), (3, 0), (20, 24), (20, 24), (3, 0), (20, 24), (20, 24), (3, 0), (20, 24), (20, 24), (24, 6), (3, 0), (20, 24)],
  [(20, 24), (3, 0), (20, 24), (20, 24), (3, 0), (20, 24), (20, 24), (3, 0), (20, 24), (20, 24), (3, 0), (20, 24), (20, 24), (3, 0), (20, 24), (20, 24)],
  [(24, 3), (3, 0), (20, 24), (20, 24), (3, 0), (20, 24), (20, 24), (3, 0), (20, 24), (20, 24), (20, 3), (4, 0), (21, 4), (22, 4), (21, 8), (22, 8)],
  [(5, 0), (20, 144), (20, 144), (20, 144), (21, 13), (22, 13), (6, 0), (20, 24), (22, 24), (6, 0), (20, 24), (22, 24), (6, 0), (20, 24), (22, 24), (7, 0)],
  [(21, 576), (22, 576), (20, 144), (8, 0), (25, 16), (9, 0), (20, 68), (20, 68), (20, 68), (26, 4), (10, 0), (10, 0), (10, 0), (10, 0), (10, 0), (10, 0)],
  [(10, 0), (10, 0), (10, 0), (10, 0), (10, 0), (10, 0), (10, 0), (10, 0), (10, 0), (10, 0), (9, 0), (20, 12), (20, 12), (20, 12), (9, 0), (20, 12)],
  [(20, 12), (20, 12), (9, 0), (20, 12), (20, 12), (20, 12), (9, 0), (20, 12), (20, 12), (20, 12), (11, 0), (20, 3), (21, 72), (22, 72), (20, 408), (21, 408)],
  [(20, 17), (22, 17), (20, 3), (21, 24), (22, 24), (21, 4), (22, 4), (21, 576), (22, 576), (21, 576), (22, 576), (20, 144), (20, 16), (20, 16), (20, 16), (20, 16)],
  [(22, 16), (20, 16), (20, 100), (20, 100), (20, 100), (20, 4), (20, 48), (20, 48)]]
def qPl (k : Nat) : Nat × Nat := (((qPT[k / 16]?).getD [])[k % 16]?).getD (0, 0)
abbrev NN : Nat := 152
abbrev NX : Nat := 122
def qGW : List Cond := lw_tbl.filter goodWord
theorem qGW_good : ∀ w ∈ qGW, (w.onTables && w.keeps) = true ∨ ∃ ty, w = .arrayClass ty := fun w hw => good_of_word (List.mem_filter.mp hw).2
theorem qw_in {w : Cond} (h : w ∈ tables_1) (hg : goodWord w = true) : w ∈ qGW := List.mem_filter.mpr ⟨List.mem_append_right _ h, hg⟩
theorem qw1 {w : Cond} (i : Nat) (hi : tables_1_1[i]? = some w) (hg : goodWord w = true) : w ∈ qGW := qw_in (by show w ∈ tables_1_1 ++ (tables_1_2 ++ (tables_1_3 ++ (tables_1_4 ++ (tables_1_5 ++ tables_1_6)))); exact List.mem_append_left _ (List.mem_of_getElem? hi)) hg
theorem qw2 {w : Cond} (i : Nat) (hi : tables_1_2[i]? = some w) (hg : goodWord w = true) : w ∈ qGW := qw_in (by show w ∈ tables_1_1 ++ (tables_1_2 ++ (tables_1_3 ++ (tables_1_4 ++ (tables_1_5 ++ tables_1_6)))); exact List.mem_append_right _ (List.mem_append_left _ (List.mem_of_getElem? hi))) hg
theorem qw3 {w : Cond} (i : Nat) (hi : tables_1_3[i]? = some w) (hg : goodWord w = true) : w ∈ qGW := qw_in (by show w ∈ tables_1_1 ++ (tables_1_2 ++ (tables_1_3 ++ (tables_1_4 ++ (tables_1_5 ++ tables_1_6)))); exact List.mem_append_right _ (List.mem_append_right _ (List.mem_append_left _ (List.mem_of_getElem? hi)))) hg
theorem qw4 {w : Cond} (i : Nat) (hi : tables_1_4[i]? = some w) (hg : goodWord w = true) : w ∈ qGW := qw_in (by show w ∈ tables_1_1 ++ (tables_1_2 ++ (tables_1_3 ++ (tables_1_4 ++ (tables_1_5 ++ tables_1_6)))); exact List.mem_append_right _ (List.mem_append_right _ (List.mem_append_right _ (List.mem_append_left _ (List.mem_of_getElem? hi))))) hg
theorem qw5 {w : Cond} (i : Nat) (hi : tables_1_5[i]? = some w) (hg : goodWord w = true) : w ∈ qGW := qw_in (by show w ∈ tables_1_1 ++ (tables_1_2 ++ (tables_1_3 ++ (tables_1_4 ++ (tables_1_5 ++ tables_1_6)))); exact List.mem_append_right _ (List.mem_append_right _ (List.mem_append_right _ (List.mem_append_right _ (List.mem_append_left _ (List.mem_of_getElem? hi)))))) hg
theorem qw6 {w : Cond} (i : Nat) (hi : tables_1_6[i]? = some w) (hg : goodWord w = true) : w ∈ qGW := qw_in (by show w ∈ tables_1_1 ++ (tables_1_2 ++ (tables_1_3 ++ (tables_1_4 ++ (tables_1_5 ++ tables_1_6)))); exact List.mem_append_right _ (List.mem_append_right _ (List.mem_append_right _ (List.mem_append_right _ (List.mem_append_right _ (List.mem_of_getElem? hi)))))) hg
theorem qw_s {q : MethodName × Nat} (h : q ∈ lw_privs) : Cond.selects q.1.cls q.1 q.1 ∈ qGW := List.mem_filter.mpr ⟨List.mem_append_left _ (List.mem_map.mpr ⟨q, h, rfl⟩), rfl⟩
def qNF : List (String × Nat × String × String × String × String) := [("QueryFleet$Machine", 45, "QueryFleet$Expression", "codes", "[I", "QueryFleet"),
  ("QueryFleet$Machine", 49, "QueryFleet$Expression", "operands", "[I", "QueryFleet"),
  ("QueryFleet$Machine", 39, "QueryFleet$Expression", "length", "I", "QueryFleet"),
  ("QueryFleet$Query", 99, "QueryFleet$Expression", "length", "I", "QueryFleet"),
  ("QueryFleet$Query", 96, "QueryFleet$Expression", "truth", "Z", "QueryFleet"),
  ("QueryFleet", 206, "QueryFleet$Query", "begun", "Z", "QueryFleet"),
  ("QueryFleet$Plan", 82, "QueryFleet$Query", "kind", "I", "QueryFleet"),
  ("QueryFleet$Plan", 57, "QueryFleet$Query", "first", "I", "QueryFleet"),
  ("QueryFleet$Plan", 61, "QueryFleet$Query", "second", "I", "QueryFleet"),
  ("QueryFleet$Plan", 85, "QueryFleet$Query", "left", "I", "QueryFleet"),
  ("QueryFleet$Plan", 92, "QueryFleet$Query", "right", "I", "QueryFleet"),
  ("QueryFleet", 94, "QueryFleet$Query", "depth", "I", "QueryFleet"),
  ("QueryFleet$Plan", 105, "QueryFleet$Query", "conditions", "[LQueryFleet$Expression;", "QueryFleet"),
  ("QueryFleet$Plan", 102, "QueryFleet$Query", "conditionCount", "I", "QueryFleet"),
  ("QueryFleet$Plan", 164, "QueryFleet$Query", "outputs", "[LQueryFleet$Expression;", "QueryFleet"),
  ("QueryFleet$Plan", 180, "QueryFleet$Query", "outputKinds", "[I", "QueryFleet"),
  ("QueryFleet$Plan", 161, "QueryFleet$Query", "outputCount", "I", "QueryFleet"),
  ("QueryFleet$Plan", 133, "QueryFleet$Query", "groupColumn", "I", "QueryFleet"),
  ("QueryFleet", 81, "QueryFleet$Query", "groupColumn", "I", "QueryFleet"),
  ("QueryFleet$Result", 23, "QueryFleet$Query", "orderColumn", "I", "QueryFleet"),
  ("QueryFleet", 85, "QueryFleet$Query", "orderColumn", "I", "QueryFleet"),
  ("QueryFleet$Result", 35, "QueryFleet$Query", "down", "Z", "QueryFleet"),
  ("QueryFleet", 88, "QueryFleet$Query", "down", "Z", "QueryFleet"),
  ("QueryFleet$Result", 43, "QueryFleet$Query", "limit", "I", "QueryFleet"),
  ("QueryFleet", 91, "QueryFleet$Query", "limit", "I", "QueryFleet"),
  ("QueryFleet$Plan", 130, "QueryFleet$Machine", "cells", "[J", "QueryFleet"),
  ("QueryFleet$Plan", 136, "QueryFleet$Machine", "cellNulls", "[Z", "QueryFleet"),
  ("QueryFleet$Plan", 68, "QueryFleet$Table", "size", "I", "QueryFleet"),
  ("QueryFleet", 16, "QueryFleet$Plan", "tables", "[LQueryFleet$Table;", "QueryFleet"),
  ("QueryFleet", 21, "QueryFleet$Plan", "query", "LQueryFleet$Query;", "QueryFleet"),
  ("QueryFleet$Plan", 151, "QueryFleet$Result", "rows", "I", "QueryFleet"),
  ("QueryFleet$Plan", 143, "QueryFleet$Result", "columns", "I", "QueryFleet"),
  ("QueryFleet", 188, "QueryFleet$Result", "columns", "I", "QueryFleet"),
  ("QueryFleet", 185, "QueryFleet$Result", "counting", "I", "QueryFleet"),
  ("QueryFleet", 190, "QueryFleet$Result", "passes", "I", "QueryFleet"),
  ("QueryFleet$Job", 93, "QueryFleet$Line", "kinds", "[I", "QueryFleet"),
  ("QueryFleet$Job", 97, "QueryFleet$Line", "tasks", "[I", "QueryFleet"),
  ("QueryFleet$Job", 99, "QueryFleet$Line", "attempts", "[I", "QueryFleet"),
  ("QueryFleet$Job", 51, "QueryFleet$Line", "size", "I", "QueryFleet"),
  ("QueryFleet", 141, "QueryFleet$Line", "size", "I", "QueryFleet"),
  ("QueryFleet$Job", 61, "QueryFleet$Task", "kind", "I", "QueryFleet"),
  ("QueryFleet$Job", 84, "QueryFleet$Task", "part", "I", "QueryFleet"),
  ("QueryFleet$Job", 113, "QueryFleet$Task", "rows", "I", "QueryFleet"),
  ("QueryFleet$Job", 58, "QueryFleet$Task", "attempts", "I", "QueryFleet"),
  ("QueryFleet$Job", 81, "QueryFleet$Task", "sentAt", "I", "QueryFleet"),
  ("QueryFleet$Job", 71, "QueryFleet$Task", "done", "Z", "QueryFleet"),
  ("QueryFleet", 40, "QueryFleet$Job", "on", "Z", "QueryFleet"),
  ("QueryFleet", 209, "QueryFleet$Job", "workers", "I", "QueryFleet"),
  ("QueryFleet", 174, "QueryFleet$Job", "tasks", "[LQueryFleet$Task;", "QueryFleet"),
  ("QueryFleet", 134, "QueryFleet$Job", "taskCount", "I", "QueryFleet"),
  ("QueryFleet", 193, "QueryFleet$Job", "ignored", "I", "QueryFleet"),
  ("QueryFleet", 137, "QueryFleet$Job", "waiting", "LQueryFleet$Line;", "QueryFleet"),
  ("QueryFleet", 159, "QueryFleet$Job", "queues", "[LQueryFleet$Line;", "QueryFleet")]
def qNM : List (String × Nat × MethodName × String) := [("QueryFleet$Plan", 19, ⟨"QueryFleet$Query", "<init>", "()V"⟩, "QueryFleet"),
  ("QueryFleet$Query", 38, ⟨"QueryFleet$Expression", "<init>", "()V"⟩, "QueryFleet"),
  ("QueryFleet$Plan", 26, ⟨"QueryFleet$Machine", "<init>", "()V"⟩, "QueryFleet"),
  ("QueryFleet$Plan", 33, ⟨"QueryFleet$Aggregate", "<init>", "()V"⟩, "QueryFleet"),
  ("QueryFleet$Plan", 56, ⟨"QueryFleet$Table", "<init>", "()V"⟩, "QueryFleet"),
  ("QueryFleet", 28, ⟨"QueryFleet$Result", "<init>", "()V"⟩, "QueryFleet"),
  ("QueryFleet$Job", 30, ⟨"QueryFleet$Task", "<init>", "()V"⟩, "QueryFleet")]
def qAO : List String := ["QueryFleet$Table", "QueryFleet$Expression", "QueryFleet$Task", "QueryFleet$Line"]
def qTys (dA : Nat → ClassId) : List (ClassId × FieldType) := [(dA 0, .int), (dA 1, .long), (dA 2, .boolean), (dA 3, .object "QueryFleet$Table"), (dA 4, .object "QueryFleet$Expression"), (dA 5, .object "QueryFleet$Task"), (dA 6, .object "QueryFleet$Line")]
abbrev b_QF_init : ByteArray := prog_1_method_1_code
abbrev mi_QF_init : MethodName × ByteArray × Nat × Option FieldType := (⟨"QueryFleet", "<init>", "()V"⟩, b_QF_init, 1, (Option.none : Option Jvm.ClassFile.FieldType))
abbrev b_QF_row : ByteArray := prog_1_method_2_code
abbrev mi_QF_row : MethodName × ByteArray × Nat × Option FieldType := (⟨"QueryFleet", "row", "(IIII)I"⟩, b_QF_row, 5, (Option.some Jvm.ClassFile.FieldType.int))
abbrev b_QF_from : ByteArray := prog_1_method_3_code
abbrev mi_QF_from : MethodName × ByteArray × Nat × Option FieldType := (⟨"QueryFleet", "from", "(IIIII)Z"⟩, b_QF_from, 6, (Option.some Jvm.ClassFile.FieldType.boolean))
abbrev b_QF_column : ByteArray := prog_1_method_4_code
abbrev mi_QF_column : MethodName × ByteArray × Nat × Option FieldType := (⟨"QueryFleet", "column", "(I)Z"⟩, b_QF_column, 2, (Option.some Jvm.ClassFile.FieldType.boolean))
abbrev b_QF_number : ByteArray := prog_1_method_5_code
abbrev mi_QF_number : MethodName × ByteArray × Nat × Option FieldType := (⟨"QueryFleet", "number", "(I)Z"⟩, b_QF_number, 2, (Option.some Jvm.ClassFile.FieldType.boolean))
abbrev b_QF_operate : ByteArray := prog_1_method_6_code
abbrev mi_QF_operate : MethodName × ByteArray × Nat × Option FieldType := (⟨"QueryFleet", "operate", "(I)Z"⟩, b_QF_operate, 2, (Option.some Jvm.ClassFile.FieldType.boolean))
abbrev b_QF_where : ByteArray := prog_1_method_7_code
abbrev mi_QF_where : MethodName × ByteArray × Nat × Option FieldType := (⟨"QueryFleet", "where", "()Z"⟩, b_QF_where, 1, (Option.some Jvm.ClassFile.FieldType.boolean))
abbrev b_QF_output : ByteArray := prog_1_method_8_code
abbrev mi_QF_output : MethodName × ByteArray × Nat × Option FieldType := (⟨"QueryFleet", "output", "(I)Z"⟩, b_QF_output, 2, (Option.some Jvm.ClassFile.FieldType.boolean))
abbrev b_QF_group : ByteArray := prog_1_method_9_code
abbrev mi_QF_group : MethodName × ByteArray × Nat × Option FieldType := (⟨"QueryFleet", "group", "(I)Z"⟩, b_QF_group, 2, (Option.some Jvm.ClassFile.FieldType.boolean))
abbrev b_QF_order : ByteArray := prog_1_method_10_code
abbrev mi_QF_order : MethodName × ByteArray × Nat × Option FieldType := (⟨"QueryFleet", "order", "(IZI)Z"⟩, b_QF_order, 4, (Option.some Jvm.ClassFile.FieldType.boolean))
abbrev b_QF_start : ByteArray := prog_1_method_11_code
abbrev mi_QF_start : MethodName × ByteArray × Nat × Option FieldType := (⟨"QueryFleet", "start", "(II)I"⟩, b_QF_start, 6, (Option.some Jvm.ClassFile.FieldType.int))
abbrev b_QF_pass : ByteArray := prog_1_method_12_code
abbrev mi_QF_pass : MethodName × ByteArray × Nat × Option FieldType := (⟨"QueryFleet", "pass", "(II)I"⟩, b_QF_pass, 3, (Option.some Jvm.ClassFile.FieldType.int))
abbrev b_QF_work : ByteArray := prog_1_method_13_code
abbrev mi_QF_work : MethodName × ByteArray × Nat × Option FieldType := (⟨"QueryFleet", "work", "(I)I"⟩, b_QF_work, 2, (Option.some Jvm.ClassFile.FieldType.int))
abbrev b_QF_crash : ByteArray := prog_1_method_14_code
abbrev mi_QF_crash : MethodName × ByteArray × Nat × Option FieldType := (⟨"QueryFleet", "crash", "(I)I"⟩, b_QF_crash, 3, (Option.some Jvm.ClassFile.FieldType.int))
abbrev b_QF_tick : ByteArray := prog_1_method_15_code
abbrev mi_QF_tick : MethodName × ByteArray × Nat × Option FieldType := (⟨"QueryFleet", "tick", "()I"⟩, b_QF_tick, 1, (Option.some Jvm.ClassFile.FieldType.int))
abbrev b_QF_message : ByteArray := prog_1_method_16_code
abbrev mi_QF_message : MethodName × ByteArray × Nat × Option FieldType := (⟨"QueryFleet", "message", "(II)I"⟩, b_QF_message, 3, (Option.some Jvm.ClassFile.FieldType.int))
abbrev b_QF_task : ByteArray := prog_1_method_17_code
abbrev mi_QF_task : MethodName × ByteArray × Nat × Option FieldType := (⟨"QueryFleet", "task", "(II)I"⟩, b_QF_task, 3, (Option.some Jvm.ClassFile.FieldType.int))
abbrev b_QF_ended : ByteArray := prog_1_method_18_code
abbrev mi_QF_ended : MethodName × ByteArray × Nat × Option FieldType := (⟨"QueryFleet", "ended", "(I)I"⟩, b_QF_ended, 2, (Option.some Jvm.ClassFile.FieldType.int))
abbrev b_QF_cell : ByteArray := prog_1_method_19_code
abbrev mi_QF_cell : MethodName × ByteArray × Nat × Option FieldType := (⟨"QueryFleet", "cell", "(II)J"⟩, b_QF_cell, 3, (Option.some Jvm.ClassFile.FieldType.long))
abbrev b_QF_missing : ByteArray := prog_1_method_20_code
abbrev mi_QF_missing : MethodName × ByteArray × Nat × Option FieldType := (⟨"QueryFleet", "missing", "(II)Z"⟩, b_QF_missing, 3, (Option.some Jvm.ClassFile.FieldType.boolean))
abbrev b_QF_isIn : ByteArray := prog_1_method_21_code
abbrev mi_QF_isIn : MethodName × ByteArray × Nat × Option FieldType := (⟨"QueryFleet", "isIn", "(II)Z"⟩, b_QF_isIn, 2, (Option.some Jvm.ClassFile.FieldType.boolean))
abbrev b_QF_canChangeQuery : ByteArray := prog_1_method_22_code
abbrev mi_QF_canChangeQuery : MethodName × ByteArray × Nat × Option FieldType := (⟨"QueryFleet", "canChangeQuery", "()Z"⟩, b_QF_canChangeQuery, 1, (Option.some Jvm.ClassFile.FieldType.boolean))
abbrev b_QF_isWorker : ByteArray := prog_1_method_23_code
abbrev mi_QF_isWorker : MethodName × ByteArray × Nat × Option FieldType := (⟨"QueryFleet", "isWorker", "(I)Z"⟩, b_QF_isWorker, 2, (Option.some Jvm.ClassFile.FieldType.boolean))
abbrev b_QF_hasResult : ByteArray := prog_1_method_24_code
abbrev mi_QF_hasResult : MethodName × ByteArray × Nat × Option FieldType := (⟨"QueryFleet", "hasResult", "()Z"⟩, b_QF_hasResult, 1, (Option.some Jvm.ClassFile.FieldType.boolean))
abbrev b_QF_hasCell : ByteArray := prog_1_method_25_code
abbrev mi_QF_hasCell : MethodName × ByteArray × Nat × Option FieldType := (⟨"QueryFleet", "hasCell", "(II)Z"⟩, b_QF_hasCell, 3, (Option.some Jvm.ClassFile.FieldType.boolean))
abbrev b_QM_init : ByteArray := prog_13_method_1_code
abbrev mi_QM_init : MethodName × ByteArray × Nat × Option FieldType := (⟨"QueryFleetModel", "<init>", "()V"⟩, b_QM_init, 1, (Option.none : Option Jvm.ClassFile.FieldType))
abbrev b_QM_within : ByteArray := prog_13_method_2_code
abbrev mi_QM_within : MethodName × ByteArray × Nat × Option FieldType := (⟨"QueryFleetModel", "within", "(III)Z"⟩, b_QM_within, 3, (Option.some Jvm.ClassFile.FieldType.boolean))
abbrev b_QM_row : ByteArray := prog_13_method_3_code
abbrev mi_QM_row : MethodName × ByteArray × Nat × Option FieldType := (⟨"QueryFleetModel", "row", "(IIII)I"⟩, b_QM_row, 6, (Option.some Jvm.ClassFile.FieldType.int))
abbrev b_QM_from : ByteArray := prog_13_method_4_code
abbrev mi_QM_from : MethodName × ByteArray × Nat × Option FieldType := (⟨"QueryFleetModel", "from", "(IIIII)Z"⟩, b_QM_from, 6, (Option.some Jvm.ClassFile.FieldType.boolean))
abbrev b_QM_open : ByteArray := prog_13_method_5_code
abbrev mi_QM_open : MethodName × ByteArray × Nat × Option FieldType := (⟨"QueryFleetModel", "open", "()Z"⟩, b_QM_open, 1, (Option.some Jvm.ClassFile.FieldType.boolean))
abbrev b_QM_isColumn : ByteArray := prog_13_method_6_code
abbrev mi_QM_isColumn : MethodName × ByteArray × Nat × Option FieldType := (⟨"QueryFleetModel", "isColumn", "(I)Z"⟩, b_QM_isColumn, 2, (Option.some Jvm.ClassFile.FieldType.boolean))
abbrev b_QM_push : ByteArray := prog_13_method_7_code
abbrev mi_QM_push : MethodName × ByteArray × Nat × Option FieldType := (⟨"QueryFleetModel", "push", "(IJ)V"⟩, b_QM_push, 4, (Option.none : Option Jvm.ClassFile.FieldType))
abbrev b_QM_column : ByteArray := prog_13_method_8_code
abbrev mi_QM_column : MethodName × ByteArray × Nat × Option FieldType := (⟨"QueryFleetModel", "column", "(I)Z"⟩, b_QM_column, 2, (Option.some Jvm.ClassFile.FieldType.boolean))
abbrev b_QM_number : ByteArray := prog_13_method_9_code
abbrev mi_QM_number : MethodName × ByteArray × Nat × Option FieldType := (⟨"QueryFleetModel", "number", "(I)Z"⟩, b_QM_number, 2, (Option.some Jvm.ClassFile.FieldType.boolean))
abbrev b_QM_operate : ByteArray := prog_13_method_10_code
abbrev mi_QM_operate : MethodName × ByteArray × Nat × Option FieldType := (⟨"QueryFleetModel", "operate", "(I)Z"⟩, b_QM_operate, 7, (Option.some Jvm.ClassFile.FieldType.boolean))
abbrev b_QM_copy : ByteArray := prog_13_method_11_code
abbrev mi_QM_copy : MethodName × ByteArray × Nat × Option FieldType := (⟨"QueryFleetModel", "copy", "(III)V"⟩, b_QM_copy, 5, (Option.none : Option Jvm.ClassFile.FieldType))
abbrev b_QM_where : ByteArray := prog_13_method_12_code
abbrev mi_QM_where : MethodName × ByteArray × Nat × Option FieldType := (⟨"QueryFleetModel", "where", "()Z"⟩, b_QM_where, 1, (Option.some Jvm.ClassFile.FieldType.boolean))
abbrev b_QM_output : ByteArray := prog_13_method_13_code
abbrev mi_QM_output : MethodName × ByteArray × Nat × Option FieldType := (⟨"QueryFleetModel", "output", "(I)Z"⟩, b_QM_output, 2, (Option.some Jvm.ClassFile.FieldType.boolean))
abbrev b_QM_group : ByteArray := prog_13_method_14_code
abbrev mi_QM_group : MethodName × ByteArray × Nat × Option FieldType := (⟨"QueryFleetModel", "group", "(I)Z"⟩, b_QM_group, 2, (Option.some Jvm.ClassFile.FieldType.boolean))
abbrev b_QM_order : ByteArray := prog_13_method_15_code
abbrev mi_QM_order : MethodName × ByteArray × Nat × Option FieldType := (⟨"QueryFleetModel", "order", "(IZI)Z"⟩, b_QM_order, 4, (Option.some Jvm.ClassFile.FieldType.boolean))
abbrev b_QM_form : ByteArray := prog_13_method_16_code
abbrev mi_QM_form : MethodName × ByteArray × Nat × Option FieldType := (⟨"QueryFleetModel", "form", "()I"⟩, b_QM_form, 3, (Option.some Jvm.ClassFile.FieldType.int))
abbrev b_QM_set : ByteArray := prog_13_method_17_code
abbrev mi_QM_set : MethodName × ByteArray × Nat × Option FieldType := (⟨"QueryFleetModel", "set", "(IJZ)V"⟩, b_QM_set, 5, (Option.none : Option Jvm.ClassFile.FieldType))
abbrev b_QM_overflows : ByteArray := prog_13_method_18_code
abbrev mi_QM_overflows : MethodName × ByteArray × Nat × Option FieldType := (⟨"QueryFleetModel", "overflows", "(IJJ)Z"⟩, b_QM_overflows, 7, (Option.some Jvm.ClassFile.FieldType.boolean))
abbrev b_QM_calculate : ByteArray := prog_13_method_19_code
abbrev mi_QM_calculate : MethodName × ByteArray × Nat × Option FieldType := (⟨"QueryFleetModel", "calculate", "(II)V"⟩, b_QM_calculate, 10, (Option.none : Option Jvm.ClassFile.FieldType))
abbrev b_QM_evaluate : ByteArray := prog_13_method_20_code
abbrev mi_QM_evaluate : MethodName × ByteArray × Nat × Option FieldType := (⟨"QueryFleetModel", "evaluate", "(I)V"⟩, b_QM_evaluate, 5, (Option.none : Option Jvm.ClassFile.FieldType))
abbrev b_QM_names : ByteArray := prog_13_method_21_code
abbrev mi_QM_names : MethodName × ByteArray × Nat × Option FieldType := (⟨"QueryFleetModel", "names", "(II)Z"⟩, b_QM_names, 6, (Option.some Jvm.ClassFile.FieldType.boolean))
abbrev b_QM_isTrue : ByteArray := prog_13_method_22_code
abbrev mi_QM_isTrue : MethodName × ByteArray × Nat × Option FieldType := (⟨"QueryFleetModel", "isTrue", "(I)Z"⟩, b_QM_isTrue, 2, (Option.some Jvm.ClassFile.FieldType.boolean))
abbrev b_QM_passesAll : ByteArray := prog_13_method_23_code
abbrev mi_QM_passesAll : MethodName × ByteArray × Nat × Option FieldType := (⟨"QueryFleetModel", "passesAll", "()Z"⟩, b_QM_passesAll, 3, (Option.some Jvm.ClassFile.FieldType.boolean))
abbrev b_QM_bring : ByteArray := prog_13_method_24_code
abbrev mi_QM_bring : MethodName × ByteArray × Nat × Option FieldType := (⟨"QueryFleetModel", "bring", "(II)V"⟩, b_QM_bring, 5, (Option.none : Option Jvm.ClassFile.FieldType))
abbrev b_QM_matches : ByteArray := prog_13_method_25_code
abbrev mi_QM_matches : MethodName × ByteArray × Nat × Option FieldType := (⟨"QueryFleetModel", "matches", "()Z"⟩, b_QM_matches, 1, (Option.some Jvm.ClassFile.FieldType.boolean))
abbrev b_QM_keep : ByteArray := prog_13_method_26_code
abbrev mi_QM_keep : MethodName × ByteArray × Nat × Option FieldType := (⟨"QueryFleetModel", "keep", "()V"⟩, b_QM_keep, 2, (Option.none : Option Jvm.ClassFile.FieldType))
abbrev b_QM_joinAll : ByteArray := prog_13_method_27_code
abbrev mi_QM_joinAll : MethodName × ByteArray × Nat × Option FieldType := (⟨"QueryFleetModel", "joinAll", "()V"⟩, b_QM_joinAll, 4, (Option.none : Option Jvm.ClassFile.FieldType))
abbrev b_QM_second0 : ByteArray := prog_13_method_28_code
abbrev mi_QM_second0 : MethodName × ByteArray × Nat × Option FieldType := (⟨"QueryFleetModel", "second0", "()I"⟩, b_QM_second0, 1, (Option.some Jvm.ClassFile.FieldType.int))
abbrev b_QM_bringKept : ByteArray := prog_13_method_29_code
abbrev mi_QM_bringKept : MethodName × ByteArray × Nat × Option FieldType := (⟨"QueryFleetModel", "bringKept", "(I)V"⟩, b_QM_bringKept, 3, (Option.none : Option Jvm.ClassFile.FieldType))
abbrev b_QM_give : ByteArray := prog_13_method_30_code
abbrev mi_QM_give : MethodName × ByteArray × Nat × Option FieldType := (⟨"QueryFleetModel", "give", "(IJZ)V"⟩, b_QM_give, 5, (Option.none : Option Jvm.ClassFile.FieldType))
abbrev b_QM_together : ByteArray := prog_13_method_31_code
abbrev mi_QM_together : MethodName × ByteArray × Nat × Option FieldType := (⟨"QueryFleetModel", "together", "(II)Z"⟩, b_QM_together, 5, (Option.some Jvm.ClassFile.FieldType.boolean))
abbrev b_QM_aggregate : ByteArray := prog_13_method_32_code
abbrev mi_QM_aggregate : MethodName × ByteArray × Nat × Option FieldType := (⟨"QueryFleetModel", "aggregate", "(III)V"⟩, b_QM_aggregate, 16, (Option.none : Option Jvm.ClassFile.FieldType))
abbrev b_QM_groupRow : ByteArray := prog_13_method_33_code
abbrev mi_QM_groupRow : MethodName × ByteArray × Nat × Option FieldType := (⟨"QueryFleetModel", "groupRow", "(I)V"⟩, b_QM_groupRow, 4, (Option.none : Option Jvm.ClassFile.FieldType))
abbrev b_QM_firstOfGroup : ByteArray := prog_13_method_34_code
abbrev mi_QM_firstOfGroup : MethodName × ByteArray × Nat × Option FieldType := (⟨"QueryFleetModel", "firstOfGroup", "(I)Z"⟩, b_QM_firstOfGroup, 4, (Option.some Jvm.ClassFile.FieldType.boolean))
abbrev b_QM_makeResults : ByteArray := prog_13_method_35_code
abbrev mi_QM_makeResults : MethodName × ByteArray × Nat × Option FieldType := (⟨"QueryFleetModel", "makeResults", "()V"⟩, b_QM_makeResults, 4, (Option.none : Option Jvm.ClassFile.FieldType))
abbrev b_QM_compare : ByteArray := prog_13_method_36_code
abbrev mi_QM_compare : MethodName × ByteArray × Nat × Option FieldType := (⟨"QueryFleetModel", "compare", "(III)I"⟩, b_QM_compare, 6, (Option.some Jvm.ClassFile.FieldType.int))
abbrev b_QM_before : ByteArray := prog_13_method_37_code
abbrev mi_QM_before : MethodName × ByteArray × Nat × Option FieldType := (⟨"QueryFleetModel", "before", "(II)Z"⟩, b_QM_before, 6, (Option.some Jvm.ClassFile.FieldType.boolean))
abbrev b_QM_sort : ByteArray := prog_13_method_38_code
abbrev mi_QM_sort : MethodName × ByteArray × Nat × Option FieldType := (⟨"QueryFleetModel", "sort", "()V"⟩, b_QM_sort, 3, (Option.none : Option Jvm.ClassFile.FieldType))
abbrev b_QM_partOf : ByteArray := prog_13_method_39_code
abbrev mi_QM_partOf : MethodName × ByteArray × Nat × Option FieldType := (⟨"QueryFleetModel", "partOf", "(JZ)I"⟩, b_QM_partOf, 6, (Option.some Jvm.ClassFile.FieldType.int))
abbrev b_QM_scanRows : ByteArray := prog_13_method_40_code
abbrev mi_QM_scanRows : MethodName × ByteArray × Nat × Option FieldType := (⟨"QueryFleetModel", "scanRows", "(II)I"⟩, b_QM_scanRows, 9, (Option.some Jvm.ClassFile.FieldType.int))
abbrev b_QM_joinRows : ByteArray := prog_13_method_41_code
abbrev mi_QM_joinRows : MethodName × ByteArray × Nat × Option FieldType := (⟨"QueryFleetModel", "joinRows", "(I)I"⟩, b_QM_joinRows, 4, (Option.some Jvm.ClassFile.FieldType.int))
abbrev b_QM_groupRows : ByteArray := prog_13_method_42_code
abbrev mi_QM_groupRows : MethodName × ByteArray × Nat × Option FieldType := (⟨"QueryFleetModel", "groupRows", "(I)I"⟩, b_QM_groupRows, 4, (Option.some Jvm.ClassFile.FieldType.int))
abbrev b_QM_addTasks : ByteArray := prog_13_method_43_code
abbrev mi_QM_addTasks : MethodName × ByteArray × Nat × Option FieldType := (⟨"QueryFleetModel", "addTasks", "(I)V"⟩, b_QM_addTasks, 3, (Option.none : Option Jvm.ClassFile.FieldType))
abbrev b_QM_start : ByteArray := prog_13_method_44_code
abbrev mi_QM_start : MethodName × ByteArray × Nat × Option FieldType := (⟨"QueryFleetModel", "start", "(II)I"⟩, b_QM_start, 4, (Option.some Jvm.ClassFile.FieldType.int))
abbrev b_QM_allDone : ByteArray := prog_13_method_45_code
abbrev mi_QM_allDone : MethodName × ByteArray × Nat × Option FieldType := (⟨"QueryFleetModel", "allDone", "(I)Z"⟩, b_QM_allDone, 4, (Option.some Jvm.ClassFile.FieldType.boolean))
abbrev b_QM_sendReady : ByteArray := prog_13_method_46_code
abbrev mi_QM_sendReady : MethodName × ByteArray × Nat × Option FieldType := (⟨"QueryFleetModel", "sendReady", "()V"⟩, b_QM_sendReady, 4, (Option.none : Option Jvm.ClassFile.FieldType))
abbrev b_QM_send : ByteArray := prog_13_method_47_code
abbrev mi_QM_send : MethodName × ByteArray × Nat × Option FieldType := (⟨"QueryFleetModel", "send", "(III)V"⟩, b_QM_send, 4, (Option.none : Option Jvm.ClassFile.FieldType))
abbrev b_QM_sendRun : ByteArray := prog_13_method_48_code
abbrev mi_QM_sendRun : MethodName × ByteArray × Nat × Option FieldType := (⟨"QueryFleetModel", "sendRun", "(I)V"⟩, b_QM_sendRun, 2, (Option.none : Option Jvm.ClassFile.FieldType))
abbrev b_QM_strike : ByteArray := prog_13_method_49_code
abbrev mi_QM_strike : MethodName × ByteArray × Nat × Option FieldType := (⟨"QueryFleetModel", "strike", "(I)V"⟩, b_QM_strike, 3, (Option.none : Option Jvm.ClassFile.FieldType))
abbrev b_QM_workerOf : ByteArray := prog_13_method_50_code
abbrev mi_QM_workerOf : MethodName × ByteArray × Nat × Option FieldType := (⟨"QueryFleetModel", "workerOf", "(II)I"⟩, b_QM_workerOf, 3, (Option.some Jvm.ClassFile.FieldType.int))
abbrev b_QM_deliver : ByteArray := prog_13_method_51_code
abbrev mi_QM_deliver : MethodName × ByteArray × Nat × Option FieldType := (⟨"QueryFleetModel", "deliver", "(III)I"⟩, b_QM_deliver, 5, (Option.some Jvm.ClassFile.FieldType.int))
abbrev b_QM_pass : ByteArray := prog_13_method_52_code
abbrev mi_QM_pass : MethodName × ByteArray × Nat × Option FieldType := (⟨"QueryFleetModel", "pass", "(II)I"⟩, b_QM_pass, 6, (Option.some Jvm.ClassFile.FieldType.int))
abbrev b_QM_isWorker : ByteArray := prog_13_method_53_code
abbrev mi_QM_isWorker : MethodName × ByteArray × Nat × Option FieldType := (⟨"QueryFleetModel", "isWorker", "(I)Z"⟩, b_QM_isWorker, 2, (Option.some Jvm.ClassFile.FieldType.boolean))
abbrev b_QM_work : ByteArray := prog_13_method_54_code
abbrev mi_QM_work : MethodName × ByteArray × Nat × Option FieldType := (⟨"QueryFleetModel", "work", "(I)I"⟩, b_QM_work, 5, (Option.some Jvm.ClassFile.FieldType.int))
abbrev b_QM_crash : ByteArray := prog_13_method_55_code
abbrev mi_QM_crash : MethodName × ByteArray × Nat × Option FieldType := (⟨"QueryFleetModel", "crash", "(I)I"⟩, b_QM_crash, 3, (Option.some Jvm.ClassFile.FieldType.int))
abbrev b_QM_tick : ByteArray := prog_13_method_56_code
abbrev mi_QM_tick : MethodName × ByteArray × Nat × Option FieldType := (⟨"QueryFleetModel", "tick", "()I"⟩, b_QM_tick, 3, (Option.some Jvm.ClassFile.FieldType.int))
abbrev b_QM_message : ByteArray := prog_13_method_57_code
abbrev mi_QM_message : MethodName × ByteArray × Nat × Option FieldType := (⟨"QueryFleetModel", "message", "(II)I"⟩, b_QM_message, 4, (Option.some Jvm.ClassFile.FieldType.int))
abbrev b_QM_task : ByteArray := prog_13_method_58_code
abbrev mi_QM_task : MethodName × ByteArray × Nat × Option FieldType := (⟨"QueryFleetModel", "task", "(II)I"⟩, b_QM_task, 3, (Option.some Jvm.ClassFile.FieldType.int))
abbrev b_QM_shown : ByteArray := prog_13_method_59_code
abbrev mi_QM_shown : MethodName × ByteArray × Nat × Option FieldType := (⟨"QueryFleetModel", "shown", "()I"⟩, b_QM_shown, 1, (Option.some Jvm.ClassFile.FieldType.int))
abbrev b_QM_passes : ByteArray := prog_13_method_60_code
abbrev mi_QM_passes : MethodName × ByteArray × Nat × Option FieldType := (⟨"QueryFleetModel", "passes", "()I"⟩, b_QM_passes, 3, (Option.some Jvm.ClassFile.FieldType.int))
abbrev b_QM_ended : ByteArray := prog_13_method_61_code
abbrev mi_QM_ended : MethodName × ByteArray × Nat × Option FieldType := (⟨"QueryFleetModel", "ended", "(I)I"⟩, b_QM_ended, 2, (Option.some Jvm.ClassFile.FieldType.int))
abbrev b_QM_isCell : ByteArray := prog_13_method_62_code
abbrev mi_QM_isCell : MethodName × ByteArray × Nat × Option FieldType := (⟨"QueryFleetModel", "isCell", "(II)Z"⟩, b_QM_isCell, 3, (Option.some Jvm.ClassFile.FieldType.boolean))
abbrev b_QM_cell : ByteArray := prog_13_method_63_code
abbrev mi_QM_cell : MethodName × ByteArray × Nat × Option FieldType := (⟨"QueryFleetModel", "cell", "(II)J"⟩, b_QM_cell, 3, (Option.some Jvm.ClassFile.FieldType.long))
abbrev b_QM_missing : ByteArray := prog_13_method_64_code
abbrev mi_QM_missing : MethodName × ByteArray × Nat × Option FieldType := (⟨"QueryFleetModel", "missing", "(II)Z"⟩, b_QM_missing, 3, (Option.some Jvm.ClassFile.FieldType.boolean))
abbrev b_Ag_init : ByteArray := prog_2_method_1_code
abbrev mi_Ag_init : MethodName × ByteArray × Nat × Option FieldType := (⟨"QueryFleet$Aggregate", "<init>", "()V"⟩, b_Ag_init, 1, (Option.none : Option Jvm.ClassFile.FieldType))
abbrev b_Ag_clear : ByteArray := prog_2_method_2_code
abbrev mi_Ag_clear : MethodName × ByteArray × Nat × Option FieldType := (⟨"QueryFleet$Aggregate", "clear", "()V"⟩, b_Ag_clear, 1, (Option.none : Option Jvm.ClassFile.FieldType))
abbrev b_Ag_add : ByteArray := prog_2_method_3_code
abbrev mi_Ag_add : MethodName × ByteArray × Nat × Option FieldType := (⟨"QueryFleet$Aggregate", "add", "(JZ)V"⟩, b_Ag_add, 4, (Option.none : Option Jvm.ClassFile.FieldType))
abbrev b_Ag_isNull : ByteArray := prog_2_method_4_code
abbrev mi_Ag_isNull : MethodName × ByteArray × Nat × Option FieldType := (⟨"QueryFleet$Aggregate", "isNull", "(I)Z"⟩, b_Ag_isNull, 2, (Option.some Jvm.ClassFile.FieldType.boolean))
abbrev b_Ag_value : ByteArray := prog_2_method_5_code
abbrev mi_Ag_value : MethodName × ByteArray × Nat × Option FieldType := (⟨"QueryFleet$Aggregate", "value", "(I)J"⟩, b_Ag_value, 2, (Option.some Jvm.ClassFile.FieldType.long))
abbrev b_Ag_hasSum : ByteArray := prog_2_method_6_code
abbrev mi_Ag_hasSum : MethodName × ByteArray × Nat × Option FieldType := (⟨"QueryFleet$Aggregate", "hasSum", "()Z"⟩, b_Ag_hasSum, 3, (Option.some Jvm.ClassFile.FieldType.boolean))
abbrev b_Ex_init : ByteArray := prog_3_method_1_code
abbrev mi_Ex_init : MethodName × ByteArray × Nat × Option FieldType := (⟨"QueryFleet$Expression", "<init>", "()V"⟩, b_Ex_init, 1, (Option.none : Option Jvm.ClassFile.FieldType))
abbrev b_Ex_clear : ByteArray := prog_3_method_2_code
abbrev mi_Ex_clear : MethodName × ByteArray × Nat × Option FieldType := (⟨"QueryFleet$Expression", "clear", "()V"⟩, b_Ex_clear, 1, (Option.none : Option Jvm.ClassFile.FieldType))
abbrev b_Ex_addPart : ByteArray := prog_3_method_3_code
abbrev mi_Ex_addPart : MethodName × ByteArray × Nat × Option FieldType := (⟨"QueryFleet$Expression", "addPart", "(II)V"⟩, b_Ex_addPart, 3, (Option.none : Option Jvm.ClassFile.FieldType))
abbrev b_Ex_addAll : ByteArray := prog_3_method_4_code
abbrev mi_Ex_addAll : MethodName × ByteArray × Nat × Option FieldType := (⟨"QueryFleet$Expression", "addAll", "(LQueryFleet$Expression;)V"⟩, b_Ex_addAll, 3, (Option.none : Option Jvm.ClassFile.FieldType))
abbrev b_Ex_namesFirst : ByteArray := prog_3_method_5_code
abbrev mi_Ex_namesFirst : MethodName × ByteArray × Nat × Option FieldType := (⟨"QueryFleet$Expression", "namesFirst", "()Z"⟩, b_Ex_namesFirst, 1, (Option.some Jvm.ClassFile.FieldType.boolean))
abbrev b_Ex_namesSecond : ByteArray := prog_3_method_6_code
abbrev mi_Ex_namesSecond : MethodName × ByteArray × Nat × Option FieldType := (⟨"QueryFleet$Expression", "namesSecond", "()Z"⟩, b_Ex_namesSecond, 1, (Option.some Jvm.ClassFile.FieldType.boolean))
abbrev b_Jo_init : ByteArray := prog_4_method_1_code
abbrev mi_Jo_init : MethodName × ByteArray × Nat × Option FieldType := (⟨"QueryFleet$Job", "<init>", "()V"⟩, b_Jo_init, 2, (Option.none : Option Jvm.ClassFile.FieldType))
abbrev b_Jo_clear : ByteArray := prog_4_method_2_code
abbrev mi_Jo_clear : MethodName × ByteArray × Nat × Option FieldType := (⟨"QueryFleet$Job", "clear", "(I)V"⟩, b_Jo_clear, 2, (Option.none : Option Jvm.ClassFile.FieldType))
abbrev b_Jo_forgetMessages : ByteArray := prog_4_method_3_code
abbrev mi_Jo_forgetMessages : MethodName × ByteArray × Nat × Option FieldType := (⟨"QueryFleet$Job", "forgetMessages", "()V"⟩, b_Jo_forgetMessages, 2, (Option.none : Option Jvm.ClassFile.FieldType))
abbrev b_Jo_addTask : ByteArray := prog_4_method_4_code
abbrev mi_Jo_addTask : MethodName × ByteArray × Nat × Option FieldType := (⟨"QueryFleet$Job", "addTask", "(III)V"⟩, b_Jo_addTask, 4, (Option.none : Option Jvm.ClassFile.FieldType))
abbrev b_Jo_sendReady : ByteArray := prog_4_method_5_code
abbrev mi_Jo_sendReady : MethodName × ByteArray × Nat × Option FieldType := (⟨"QueryFleet$Job", "sendReady", "()V"⟩, b_Jo_sendReady, 2, (Option.none : Option Jvm.ClassFile.FieldType))
abbrev b_Jo_isReady : ByteArray := prog_4_method_6_code
abbrev mi_Jo_isReady : MethodName × ByteArray × Nat × Option FieldType := (⟨"QueryFleet$Job", "isReady", "(I)Z"⟩, b_Jo_isReady, 3, (Option.some Jvm.ClassFile.FieldType.boolean))
abbrev b_Jo_sendRun : ByteArray := prog_4_method_7_code
abbrev mi_Jo_sendRun : MethodName × ByteArray × Nat × Option FieldType := (⟨"QueryFleet$Job", "sendRun", "(I)V"⟩, b_Jo_sendRun, 2, (Option.none : Option Jvm.ClassFile.FieldType))
abbrev b_Jo_workerOf : ByteArray := prog_4_method_8_code
abbrev mi_Jo_workerOf : MethodName × ByteArray × Nat × Option FieldType := (⟨"QueryFleet$Job", "workerOf", "(II)I"⟩, b_Jo_workerOf, 3, (Option.some Jvm.ClassFile.FieldType.int))
abbrev b_Jo_deliver : ByteArray := prog_4_method_9_code
abbrev mi_Jo_deliver : MethodName × ByteArray × Nat × Option FieldType := (⟨"QueryFleet$Job", "deliver", "(I)I"⟩, b_Jo_deliver, 5, (Option.some Jvm.ClassFile.FieldType.int))
abbrev b_Jo_finish : ByteArray := prog_4_method_10_code
abbrev mi_Jo_finish : MethodName × ByteArray × Nat × Option FieldType := (⟨"QueryFleet$Job", "finish", "(I)V"⟩, b_Jo_finish, 2, (Option.none : Option Jvm.ClassFile.FieldType))
abbrev b_Jo_repeat : ByteArray := prog_4_method_11_code
abbrev mi_Jo_repeat : MethodName × ByteArray × Nat × Option FieldType := (⟨"QueryFleet$Job", "repeat", "(I)I"⟩, b_Jo_repeat, 2, (Option.some Jvm.ClassFile.FieldType.int))
abbrev b_Jo_workOff : ByteArray := prog_4_method_12_code
abbrev mi_Jo_workOff : MethodName × ByteArray × Nat × Option FieldType := (⟨"QueryFleet$Job", "workOff", "(LQueryFleet$Line;)I"⟩, b_Jo_workOff, 3, (Option.some Jvm.ClassFile.FieldType.int))
abbrev b_Jo_sendAgain : ByteArray := prog_4_method_13_code
abbrev mi_Jo_sendAgain : MethodName × ByteArray × Nat × Option FieldType := (⟨"QueryFleet$Job", "sendAgain", "()I"⟩, b_Jo_sendAgain, 5, (Option.some Jvm.ClassFile.FieldType.int))
abbrev b_Jo_tell : ByteArray := prog_4_method_14_code
abbrev mi_Jo_tell : MethodName × ByteArray × Nat × Option FieldType := (⟨"QueryFleet$Job", "tell", "(II)I"⟩, b_Jo_tell, 4, (Option.some Jvm.ClassFile.FieldType.int))
abbrev b_Li_init : ByteArray := prog_5_method_1_code
abbrev mi_Li_init : MethodName × ByteArray × Nat × Option FieldType := (⟨"QueryFleet$Line", "<init>", "(I)V"⟩, b_Li_init, 2, (Option.none : Option Jvm.ClassFile.FieldType))
abbrev b_Li_add : ByteArray := prog_5_method_2_code
abbrev mi_Li_add : MethodName × ByteArray × Nat × Option FieldType := (⟨"QueryFleet$Line", "add", "(III)Z"⟩, b_Li_add, 4, (Option.some Jvm.ClassFile.FieldType.boolean))
abbrev b_Li_removeAt : ByteArray := prog_5_method_3_code
abbrev mi_Li_removeAt : MethodName × ByteArray × Nat × Option FieldType := (⟨"QueryFleet$Line", "removeAt", "(I)V"⟩, b_Li_removeAt, 3, (Option.none : Option Jvm.ClassFile.FieldType))
abbrev b_Ma_init : ByteArray := prog_6_method_1_code
abbrev mi_Ma_init : MethodName × ByteArray × Nat × Option FieldType := (⟨"QueryFleet$Machine", "<init>", "()V"⟩, b_Ma_init, 1, (Option.none : Option Jvm.ClassFile.FieldType))
abbrev b_Ma_load : ByteArray := prog_6_method_2_code
abbrev mi_Ma_load : MethodName × ByteArray × Nat × Option FieldType := (⟨"QueryFleet$Machine", "load", "(ILQueryFleet$Table;I)V"⟩, b_Ma_load, 6, (Option.none : Option Jvm.ClassFile.FieldType))
abbrev b_Ma_evaluate : ByteArray := prog_6_method_3_code
abbrev mi_Ma_evaluate : MethodName × ByteArray × Nat × Option FieldType := (⟨"QueryFleet$Machine", "evaluate", "(LQueryFleet$Expression;)V"⟩, b_Ma_evaluate, 6, (Option.none : Option Jvm.ClassFile.FieldType))
abbrev b_Ma_value : ByteArray := prog_6_method_4_code
abbrev mi_Ma_value : MethodName × ByteArray × Nat × Option FieldType := (⟨"QueryFleet$Machine", "value", "()J"⟩, b_Ma_value, 1, (Option.some Jvm.ClassFile.FieldType.long))
abbrev b_Ma_isNull : ByteArray := prog_6_method_5_code
abbrev mi_Ma_isNull : MethodName × ByteArray × Nat × Option FieldType := (⟨"QueryFleet$Machine", "isNull", "()Z"⟩, b_Ma_isNull, 1, (Option.some Jvm.ClassFile.FieldType.boolean))
abbrev b_Ma_isTrue : ByteArray := prog_6_method_6_code
abbrev mi_Ma_isTrue : MethodName × ByteArray × Nat × Option FieldType := (⟨"QueryFleet$Machine", "isTrue", "()Z"⟩, b_Ma_isTrue, 1, (Option.some Jvm.ClassFile.FieldType.boolean))
abbrev b_Ma_set : ByteArray := prog_6_method_7_code
abbrev mi_Ma_set : MethodName × ByteArray × Nat × Option FieldType := (⟨"QueryFleet$Machine", "set", "(IJZ)V"⟩, b_Ma_set, 5, (Option.none : Option Jvm.ClassFile.FieldType))
abbrev b_Ma_combine : ByteArray := prog_6_method_8_code
abbrev mi_Ma_combine : MethodName × ByteArray × Nat × Option FieldType := (⟨"QueryFleet$Machine", "combine", "(III)V"⟩, b_Ma_combine, 5, (Option.none : Option Jvm.ClassFile.FieldType))
abbrev b_Ma_decide : ByteArray := prog_6_method_9_code
abbrev mi_Ma_decide : MethodName × ByteArray × Nat × Option FieldType := (⟨"QueryFleet$Machine", "decide", "(IIJ)V"⟩, b_Ma_decide, 6, (Option.none : Option Jvm.ClassFile.FieldType))
abbrev b_Ma_isLong : ByteArray := prog_6_method_10_code
abbrev mi_Ma_isLong : MethodName × ByteArray × Nat × Option FieldType := (⟨"QueryFleet$Machine", "isLong", "(IJJ)Z"⟩, b_Ma_isLong, 5, (Option.some Jvm.ClassFile.FieldType.boolean))
abbrev b_Ma_calculate : ByteArray := prog_6_method_11_code
abbrev mi_Ma_calculate : MethodName × ByteArray × Nat × Option FieldType := (⟨"QueryFleet$Machine", "calculate", "(IJJ)J"⟩, b_Ma_calculate, 5, (Option.some Jvm.ClassFile.FieldType.long))
abbrev b_Pl_init : ByteArray := prog_7_method_1_code
abbrev mi_Pl_init : MethodName × ByteArray × Nat × Option FieldType := (⟨"QueryFleet$Plan", "<init>", "()V"⟩, b_Pl_init, 2, (Option.none : Option Jvm.ClassFile.FieldType))
abbrev b_Pl_keepRows : ByteArray := prog_7_method_2_code
abbrev mi_Pl_keepRows : MethodName × ByteArray × Nat × Option FieldType := (⟨"QueryFleet$Plan", "keepRows", "()V"⟩, b_Pl_keepRows, 7, (Option.none : Option Jvm.ClassFile.FieldType))
abbrev b_Pl_arePair : ByteArray := prog_7_method_3_code
abbrev mi_Pl_arePair : MethodName × ByteArray × Nat × Option FieldType := (⟨"QueryFleet$Plan", "arePair", "(LQueryFleet$Table;ILQueryFleet$Table;I)Z"⟩, b_Pl_arePair, 5, (Option.some Jvm.ClassFile.FieldType.boolean))
abbrev b_Pl_keepIfAllTrue : ByteArray := prog_7_method_4_code
abbrev mi_Pl_keepIfAllTrue : MethodName × ByteArray × Nat × Option FieldType := (⟨"QueryFleet$Plan", "keepIfAllTrue", "(II)V"⟩, b_Pl_keepIfAllTrue, 4, (Option.none : Option Jvm.ClassFile.FieldType))
abbrev b_Pl_loadJoined : ByteArray := prog_7_method_5_code
abbrev mi_Pl_loadJoined : MethodName × ByteArray × Nat × Option FieldType := (⟨"QueryFleet$Plan", "loadJoined", "(II)V"⟩, b_Pl_loadJoined, 3, (Option.none : Option Jvm.ClassFile.FieldType))
abbrev b_Pl_makeGroups : ByteArray := prog_7_method_6_code
abbrev mi_Pl_makeGroups : MethodName × ByteArray × Nat × Option FieldType := (⟨"QueryFleet$Plan", "makeGroups", "()V"⟩, b_Pl_makeGroups, 2, (Option.none : Option Jvm.ClassFile.FieldType))
abbrev b_Pl_findGroup : ByteArray := prog_7_method_7_code
abbrev mi_Pl_findGroup : MethodName × ByteArray × Nat × Option FieldType := (⟨"QueryFleet$Plan", "findGroup", "(I)I"⟩, b_Pl_findGroup, 6, (Option.some Jvm.ClassFile.FieldType.int))
abbrev b_Pl_fillResult : ByteArray := prog_7_method_8_code
abbrev mi_Pl_fillResult : MethodName × ByteArray × Nat × Option FieldType := (⟨"QueryFleet$Plan", "fillResult", "(LQueryFleet$Result;)V"⟩, b_Pl_fillResult, 3, (Option.none : Option Jvm.ClassFile.FieldType))
abbrev b_Pl_fillPlain : ByteArray := prog_7_method_9_code
abbrev mi_Pl_fillPlain : MethodName × ByteArray × Nat × Option FieldType := (⟨"QueryFleet$Plan", "fillPlain", "(LQueryFleet$Result;I)V"⟩, b_Pl_fillPlain, 4, (Option.none : Option Jvm.ClassFile.FieldType))
abbrev b_Pl_fillGroup : ByteArray := prog_7_method_10_code
abbrev mi_Pl_fillGroup : MethodName × ByteArray × Nat × Option FieldType := (⟨"QueryFleet$Plan", "fillGroup", "(LQueryFleet$Result;I)V"⟩, b_Pl_fillGroup, 6, (Option.none : Option Jvm.ClassFile.FieldType))
abbrev b_Pl_addUp : ByteArray := prog_7_method_11_code
abbrev mi_Pl_addUp : MethodName × ByteArray × Nat × Option FieldType := (⟨"QueryFleet$Plan", "addUp", "(LQueryFleet$Expression;I)V"⟩, b_Pl_addUp, 4, (Option.none : Option Jvm.ClassFile.FieldType))
abbrev b_Pl_rowsOf : ByteArray := prog_7_method_12_code
abbrev mi_Pl_rowsOf : MethodName × ByteArray × Nat × Option FieldType := (⟨"QueryFleet$Plan", "rowsOf", "(III)I"⟩, b_Pl_rowsOf, 4, (Option.some Jvm.ClassFile.FieldType.int))
abbrev b_Pl_scannedRows : ByteArray := prog_7_method_13_code
abbrev mi_Pl_scannedRows : MethodName × ByteArray × Nat × Option FieldType := (⟨"QueryFleet$Plan", "scannedRows", "(IIII)I"⟩, b_Pl_scannedRows, 7, (Option.some Jvm.ClassFile.FieldType.int))
abbrev b_Pl_passesPushed : ByteArray := prog_7_method_14_code
abbrev mi_Pl_passesPushed : MethodName × ByteArray × Nat × Option FieldType := (⟨"QueryFleet$Plan", "passesPushed", "(I)Z"⟩, b_Pl_passesPushed, 3, (Option.some Jvm.ClassFile.FieldType.boolean))
abbrev b_Pl_joinedRows : ByteArray := prog_7_method_15_code
abbrev mi_Pl_joinedRows : MethodName × ByteArray × Nat × Option FieldType := (⟨"QueryFleet$Plan", "joinedRows", "(II)I"⟩, b_Pl_joinedRows, 7, (Option.some Jvm.ClassFile.FieldType.int))
abbrev b_Pl_groupsOfPart : ByteArray := prog_7_method_16_code
abbrev mi_Pl_groupsOfPart : MethodName × ByteArray × Nat × Option FieldType := (⟨"QueryFleet$Plan", "groupsOfPart", "(II)I"⟩, b_Pl_groupsOfPart, 5, (Option.some Jvm.ClassFile.FieldType.int))
abbrev b_Pl_partOf : ByteArray := prog_7_method_17_code
abbrev mi_Pl_partOf : MethodName × ByteArray × Nat × Option FieldType := (⟨"QueryFleet$Plan", "partOf", "(JZI)I"⟩, b_Pl_partOf, 4, (Option.some Jvm.ClassFile.FieldType.int))
abbrev b_Qu_init : ByteArray := prog_8_method_1_code
abbrev mi_Qu_init : MethodName × ByteArray × Nat × Option FieldType := (⟨"QueryFleet$Query", "<init>", "()V"⟩, b_Qu_init, 1, (Option.none : Option Jvm.ClassFile.FieldType))
abbrev b_Qu_makeExpressions : ByteArray := prog_8_method_2_code
abbrev mi_Qu_makeExpressions : MethodName × ByteArray × Nat × Option FieldType := (⟨"QueryFleet$Query", "makeExpressions", "(I)[LQueryFleet$Expression;"⟩, b_Qu_makeExpressions, 3, (Option.some (Jvm.ClassFile.FieldType.array (Jvm.ClassFile.FieldType.object "QueryFleet$Expression"))))
abbrev b_Qu_begin : ByteArray := prog_8_method_3_code
abbrev mi_Qu_begin : MethodName × ByteArray × Nat × Option FieldType := (⟨"QueryFleet$Query", "begin", "(IIIII)V"⟩, b_Qu_begin, 6, (Option.none : Option Jvm.ClassFile.FieldType))
abbrev b_Qu_isJoin : ByteArray := prog_8_method_4_code
abbrev mi_Qu_isJoin : MethodName × ByteArray × Nat × Option FieldType := (⟨"QueryFleet$Query", "isJoin", "()Z"⟩, b_Qu_isJoin, 1, (Option.some Jvm.ClassFile.FieldType.boolean))
abbrev b_Qu_columns : ByteArray := prog_8_method_5_code
abbrev mi_Qu_columns : MethodName × ByteArray × Nat × Option FieldType := (⟨"QueryFleet$Query", "columns", "()I"⟩, b_Qu_columns, 1, (Option.some Jvm.ClassFile.FieldType.int))
abbrev b_Qu_isGrouped : ByteArray := prog_8_method_6_code
abbrev mi_Qu_isGrouped : MethodName × ByteArray × Nat × Option FieldType := (⟨"QueryFleet$Query", "isGrouped", "()Z"⟩, b_Qu_isGrouped, 1, (Option.some Jvm.ClassFile.FieldType.boolean))
abbrev b_Qu_isAggregate : ByteArray := prog_8_method_7_code
abbrev mi_Qu_isAggregate : MethodName × ByteArray × Nat × Option FieldType := (⟨"QueryFleet$Query", "isAggregate", "()Z"⟩, b_Qu_isAggregate, 1, (Option.some Jvm.ClassFile.FieldType.boolean))
abbrev b_Qu_isWhole : ByteArray := prog_8_method_8_code
abbrev mi_Qu_isWhole : MethodName × ByteArray × Nat × Option FieldType := (⟨"QueryFleet$Query", "isWhole", "()Z"⟩, b_Qu_isWhole, 3, (Option.some Jvm.ClassFile.FieldType.boolean))
abbrev b_Qu_resultColumns : ByteArray := prog_8_method_9_code
abbrev mi_Qu_resultColumns : MethodName × ByteArray × Nat × Option FieldType := (⟨"QueryFleet$Query", "resultColumns", "()I"⟩, b_Qu_resultColumns, 1, (Option.some Jvm.ClassFile.FieldType.int))
abbrev b_Qu_needs : ByteArray := prog_8_method_10_code
abbrev mi_Qu_needs : MethodName × ByteArray × Nat × Option FieldType := (⟨"QueryFleet$Query", "needs", "(I)Z"⟩, b_Qu_needs, 2, (Option.some Jvm.ClassFile.FieldType.boolean))
abbrev b_Qu_isPushed : ByteArray := prog_8_method_11_code
abbrev mi_Qu_isPushed : MethodName × ByteArray × Nat × Option FieldType := (⟨"QueryFleet$Query", "isPushed", "(LQueryFleet$Expression;I)Z"⟩, b_Qu_isPushed, 3, (Option.some Jvm.ClassFile.FieldType.boolean))
abbrev b_Qu_push : ByteArray := prog_8_method_12_code
abbrev mi_Qu_push : MethodName × ByteArray × Nat × Option FieldType := (⟨"QueryFleet$Query", "push", "(II)Z"⟩, b_Qu_push, 3, (Option.some Jvm.ClassFile.FieldType.boolean))
abbrev b_Qu_apply : ByteArray := prog_8_method_13_code
abbrev mi_Qu_apply : MethodName × ByteArray × Nat × Option FieldType := (⟨"QueryFleet$Query", "apply", "(I)Z"⟩, b_Qu_apply, 6, (Option.some Jvm.ClassFile.FieldType.boolean))
abbrev b_Qu_takeCondition : ByteArray := prog_8_method_14_code
abbrev mi_Qu_takeCondition : MethodName × ByteArray × Nat × Option FieldType := (⟨"QueryFleet$Query", "takeCondition", "()Z"⟩, b_Qu_takeCondition, 1, (Option.some Jvm.ClassFile.FieldType.boolean))
abbrev b_Qu_takeOutput : ByteArray := prog_8_method_15_code
abbrev mi_Qu_takeOutput : MethodName × ByteArray × Nat × Option FieldType := (⟨"QueryFleet$Query", "takeOutput", "(I)Z"⟩, b_Qu_takeOutput, 2, (Option.some Jvm.ClassFile.FieldType.boolean))
abbrev b_Qu_moveOffStack : ByteArray := prog_8_method_16_code
abbrev mi_Qu_moveOffStack : MethodName × ByteArray × Nat × Option FieldType := (⟨"QueryFleet$Query", "moveOffStack", "([LQueryFleet$Expression;I)V"⟩, b_Qu_moveOffStack, 4, (Option.none : Option Jvm.ClassFile.FieldType))
abbrev b_Re_init : ByteArray := prog_9_method_1_code
abbrev mi_Re_init : MethodName × ByteArray × Nat × Option FieldType := (⟨"QueryFleet$Result", "<init>", "()V"⟩, b_Re_init, 1, (Option.none : Option Jvm.ClassFile.FieldType))
abbrev b_Re_set : ByteArray := prog_9_method_2_code
abbrev mi_Re_set : MethodName × ByteArray × Nat × Option FieldType := (⟨"QueryFleet$Result", "set", "(IIJZ)V"⟩, b_Re_set, 6, (Option.none : Option Jvm.ClassFile.FieldType))
abbrev b_Re_value : ByteArray := prog_9_method_3_code
abbrev mi_Re_value : MethodName × ByteArray × Nat × Option FieldType := (⟨"QueryFleet$Result", "value", "(II)J"⟩, b_Re_value, 3, (Option.some Jvm.ClassFile.FieldType.long))
abbrev b_Re_isNull : ByteArray := prog_9_method_4_code
abbrev mi_Re_isNull : MethodName × ByteArray × Nat × Option FieldType := (⟨"QueryFleet$Result", "isNull", "(II)Z"⟩, b_Re_isNull, 3, (Option.some Jvm.ClassFile.FieldType.boolean))
abbrev b_Re_sort : ByteArray := prog_9_method_5_code
abbrev mi_Re_sort : MethodName × ByteArray × Nat × Option FieldType := (⟨"QueryFleet$Result", "sort", "(LQueryFleet$Query;)V"⟩, b_Re_sort, 5, (Option.none : Option Jvm.ClassFile.FieldType))
abbrev b_Re_compare : ByteArray := prog_9_method_6_code
abbrev mi_Re_compare : MethodName × ByteArray × Nat × Option FieldType := (⟨"QueryFleet$Result", "compare", "(IIIZ)I"⟩, b_Re_compare, 7, (Option.some Jvm.ClassFile.FieldType.int))
abbrev b_Re_compareAt : ByteArray := prog_9_method_7_code
abbrev mi_Re_compareAt : MethodName × ByteArray × Nat × Option FieldType := (⟨"QueryFleet$Result", "compareAt", "(III)I"⟩, b_Re_compareAt, 6, (Option.some Jvm.ClassFile.FieldType.int))
abbrev b_Re_countPasses : ByteArray := prog_9_method_8_code
abbrev mi_Re_countPasses : MethodName × ByteArray × Nat × Option FieldType := (⟨"QueryFleet$Result", "countPasses", "(I)V"⟩, b_Re_countPasses, 3, (Option.none : Option Jvm.ClassFile.FieldType))
abbrev b_Tb_init : ByteArray := prog_10_method_1_code
abbrev mi_Tb_init : MethodName × ByteArray × Nat × Option FieldType := (⟨"QueryFleet$Table", "<init>", "()V"⟩, b_Tb_init, 1, (Option.none : Option Jvm.ClassFile.FieldType))
abbrev b_Tb_add : ByteArray := prog_10_method_2_code
abbrev mi_Tb_add : MethodName × ByteArray × Nat × Option FieldType := (⟨"QueryFleet$Table", "add", "(III)I"⟩, b_Tb_add, 5, (Option.some Jvm.ClassFile.FieldType.int))
abbrev b_Tb_value : ByteArray := prog_10_method_3_code
abbrev mi_Tb_value : MethodName × ByteArray × Nat × Option FieldType := (⟨"QueryFleet$Table", "value", "(II)I"⟩, b_Tb_value, 3, (Option.some Jvm.ClassFile.FieldType.int))
abbrev b_Tb_isNull : ByteArray := prog_10_method_4_code
abbrev mi_Tb_isNull : MethodName × ByteArray × Nat × Option FieldType := (⟨"QueryFleet$Table", "isNull", "(II)Z"⟩, b_Tb_isNull, 3, (Option.some Jvm.ClassFile.FieldType.boolean))
abbrev b_Ta_init : ByteArray := prog_11_method_1_code
abbrev mi_Ta_init : MethodName × ByteArray × Nat × Option FieldType := (⟨"QueryFleet$Task", "<init>", "()V"⟩, b_Ta_init, 1, (Option.none : Option Jvm.ClassFile.FieldType))
abbrev b_Ta_clear : ByteArray := prog_11_method_2_code
abbrev mi_Ta_clear : MethodName × ByteArray × Nat × Option FieldType := (⟨"QueryFleet$Task", "clear", "(III)V"⟩, b_Ta_clear, 4, (Option.none : Option Jvm.ClassFile.FieldType))
abbrev b_Ta_tell : ByteArray := prog_11_method_3_code
abbrev mi_Ta_tell : MethodName × ByteArray × Nat × Option FieldType := (⟨"QueryFleet$Task", "tell", "(I)I"⟩, b_Ta_tell, 2, (Option.some Jvm.ClassFile.FieldType.int))
abbrev b_La_law : ByteArray := code
abbrev mi_La_law : MethodName × ByteArray × Nat × Option FieldType := (⟨"QueryFleetLaw", "law", "([I)Z"⟩, b_La_law, 4, (Option.some Jvm.ClassFile.FieldType.boolean : Option Jvm.ClassFile.FieldType))
abbrev b_JL_compare : ByteArray := prog_14_method_42_code
abbrev mi_JL_compare : MethodName × ByteArray × Nat × Option FieldType := (⟨"java/lang/Long", "compare", "(JJ)I"⟩, b_JL_compare, 4, (Option.some Jvm.ClassFile.FieldType.int))
abbrev b_JM_floorModI : ByteArray := prog_15_method_50_code
abbrev mi_JM_floorModI : MethodName × ByteArray × Nat × Option FieldType := (⟨"java/lang/Math", "floorMod", "(II)I"⟩, b_JM_floorModI, 3, (Option.some Jvm.ClassFile.FieldType.int))
abbrev b_JM_floorModJ : ByteArray := prog_15_method_52_code
abbrev mi_JM_floorModJ : MethodName × ByteArray × Nat × Option FieldType := (⟨"java/lang/Math", "floorMod", "(JJ)J"⟩, b_JM_floorModJ, 6, (Option.some Jvm.ClassFile.FieldType.long))
abbrev b_JM_maxJ : ByteArray := prog_15_method_66_code
abbrev mi_JM_maxJ : MethodName × ByteArray × Nat × Option FieldType := (⟨"java/lang/Math", "max", "(JJ)J"⟩, b_JM_maxJ, 4, (Option.some Jvm.ClassFile.FieldType.long))
abbrev b_JM_minI : ByteArray := prog_15_method_69_code
abbrev mi_JM_minI : MethodName × ByteArray × Nat × Option FieldType := (⟨"java/lang/Math", "min", "(II)I"⟩, b_JM_minI, 2, (Option.some Jvm.ClassFile.FieldType.int))
abbrev b_JM_minJ : ByteArray := prog_15_method_70_code
abbrev mi_JM_minJ : MethodName × ByteArray × Nat × Option FieldType := (⟨"java/lang/Math", "min", "(JJ)J"⟩, b_JM_minJ, 4, (Option.some Jvm.ClassFile.FieldType.long))
end
section
/-! THE CLEAN MACHINE (my own layer over the kit's W). A heap is three functions (ints and booleans, longs, references), by a cell's number (0 is the first cell that the law makes) and a slot's; which cell is what is fixed ahead (qPl: class number, or 20 + array type, and length). -/
abbrev qH : Type := (Nat → Nat → Int32) × (Nat → Nat → Int64) × (Nat → Nat → Option Nat)
abbrev qMi : Type := MethodName × ByteArray × Nat × Option FieldType
def qpI (h : qH) (a i : Nat) (v : Int32) : qH := (va_up h.1 a (va_up (h.1 a) i v), h.2.1, h.2.2)
def qpL (h : qH) (a i : Nat) (v : Int64) : qH := (h.1, va_up h.2.1 a (va_up (h.2.1 a) i v), h.2.2)
def qpR (h : qH) (a i : Nat) (v : Option Nat) : qH := (h.1, h.2.1, va_up h.2.2 a (va_up (h.2.2 a) i v))
theorem qus {α : Type} {f : Nat → α} {k : Nat} {v : α} : va_up f k v k = v := va_up_self f k v
theorem qun {α : Type} {f : Nat → α} {k j : Nat} {v : α} (h : j ≠ k) : va_up f k v j = f j := by simp [va_up, h]
def qrel (b0 b : Nat) : Value → Value
  | .ref r => .ref (b0 + r)
  | .retAddr _ => .ref b
  | v => v
theorem qrel_cat (b0 b : Nat) (v : Value) : (qrel b0 b v).category = v.category := by cases v <;> rfl
abbrev qdead : Value := .retAddr 1
def qV (b0 : Nat) (ty : FieldType) (i : Int32) (l : Int64) (r : Option Nat) : Value := match ty with
  | .long => .long l
  | .object _ => va_rf (r.map (fun x => b0 + x))
  | .array _ => va_rf (r.map (fun x => b0 + x))
  | _ => .int i
def qCE (b0 : Nat) (dA : Nat → ClassId) (i : Nat → Int32) (l : Nat → Int64) (r : Nat → Option Nat) (q : Nat × Nat) : va_E :=
  if q.1 < 20 then .inr (q.1, (List.range (qN q.1)).map (fun f => qV b0 (qFT q.1 f) (i f) (l f) (r f)))
  else .inl (dA (q.1 - 20), q.2, if q.1 = 21 then .inr (.inl l) else if q.1 < 23 then .inl i else .inr (.inr (.inr (.inr (fun j => (r j).map (fun x => b0 + x))))))
def qE (b0 : Nat) (dA : Nat → ClassId) (h : qH) (k : Nat) : va_E := qCE b0 dA (h.1 k) (h.2.1 k) (h.2.2 k) (qPl k)
def qW (b0 : Nat) (dA : Nat → ClassId) (h : qH) (n : Nat) : va_W := (List.range n).map (fun k => (b0 + k, qE b0 dA h k))
theorem qW_at {b0 : Nat} {dA : Nat → ClassId} {h : qH} {n k : Nat} (hk : k < n) : (qW b0 dA h n)[k]? = some (b0 + k, qE b0 dA h k) := by
  simp [qW, List.getElem?_map, List.getElem?_range hk]
theorem qW_of {b0 : Nat} {dA : Nat → ClassId} {h : qH} {n k : Nat} {q : Nat × va_E} (hq : (qW b0 dA h n)[k]? = some q) : k < n ∧ q = (b0 + k, qE b0 dA h k) := by
  by_cases hk : k < n
  · rw [qW_at hk] at hq
    exact ⟨hk, (Option.some.inj hq).symm⟩
  · have : (qW b0 dA h n).length = n := by simp [qW]
    rw [List.getElem?_eq_none (by omega)] at hq
    cases hq
theorem qW_D {b0 : Nat} {dA : Nat → ClassId} {h : qH} {n : Nat} : va_D (fun q => b0 ≤ q) (qW b0 dA h n) := by
  refine ⟨fun i j p q hi hj hpq => ?_, fun k q hk => ?_⟩
  · obtain ⟨-, rfl⟩ := qW_of hi
    obtain ⟨-, rfl⟩ := qW_of hj
    dsimp only at hpq
    omega
  · obtain ⟨-, rfl⟩ := qW_of hk
    dsimp only
    omega
theorem qW_set {b0 : Nat} {dA : Nat → ClassId} {h h' : qH} {n k : Nat} {x : Nat × va_E} (hx : x = (b0 + k, qE b0 dA h' k)) (ho : ∀ j, j ≠ k → h'.1 j = h.1 j ∧ h'.2.1 j = h.2.1 j ∧ h'.2.2 j = h.2.2 j) : (qW b0 dA h n).set k x = qW b0 dA h' n := by
  subst hx
  apply List.ext_getElem?
  intro j
  by_cases hj : j < n
  · by_cases hjk : j = k
    · subst hjk
      rw [List.getElem?_set_self (by simp [qW]; exact hj), qW_at hj]
    · rw [List.getElem?_set_ne (fun q => hjk q.symm), qW_at hj, qW_at hj]
      obtain ⟨a, b, c⟩ := ho j hjk
      simp only [qE, a, b, c]
  · rw [List.getElem?_eq_none (by simp [qW]; omega), List.getElem?_eq_none (by simp [qW]; omega)]
theorem qpI_o (h : qH) (a i : Nat) (v : Int32) : ∀ j, j ≠ a → (qpI h a i v).1 j = h.1 j ∧ (qpI h a i v).2.1 j = h.2.1 j ∧ (qpI h a i v).2.2 j = h.2.2 j := fun j hj => ⟨qun hj, rfl, rfl⟩
theorem qpL_o (h : qH) (a i : Nat) (v : Int64) : ∀ j, j ≠ a → (qpL h a i v).1 j = h.1 j ∧ (qpL h a i v).2.1 j = h.2.1 j ∧ (qpL h a i v).2.2 j = h.2.2 j := fun j hj => ⟨rfl, qun hj, rfl⟩
theorem qpR_o (h : qH) (a i : Nat) (v : Option Nat) : ∀ j, j ≠ a → (qpR h a i v).1 j = h.1 j ∧ (qpR h a i v).2.1 j = h.2.1 j ∧ (qpR h a i v).2.2 j = h.2.2 j := fun j hj => ⟨rfl, rfl, qun hj⟩
theorem qpI_1 (h : qH) (a i : Nat) (v : Int32) : (qpI h a i v).1 a = va_up (h.1 a) i v := qus
theorem qpL_1 (h : qH) (a i : Nat) (v : Int64) : (qpL h a i v).2.1 a = va_up (h.2.1 a) i v := qus
theorem qpR_1 (h : qH) (a i : Nat) (v : Option Nat) : (qpR h a i v).2.2 a = va_up (h.2.2 a) i v := qus
/-- the cell's picture, by its plan -/
theorem qE_obj {b0 : Nat} {dA : Nat → ClassId} {h : qH} {k ci x : Nat} (hp : qPl k = (ci, x)) (hc : ci < 20) : qE b0 dA h k = .inr (ci, (List.range (qN ci)).map (fun f => qV b0 (qFT ci f) (h.1 k f) (h.2.1 k f) (h.2.2 k f))) := by
  simp [qE, qCE, hp, hc]
theorem qE_int {b0 : Nat} {dA : Nat → ClassId} {h : qH} {k n : Nat} (hp : qPl k = (20, n)) : qE b0 dA h k = .inl (dA 0, n, .inl (h.1 k)) := by
  simp [qE, qCE, hp]
theorem qE_long {b0 : Nat} {dA : Nat → ClassId} {h : qH} {k n : Nat} (hp : qPl k = (21, n)) : qE b0 dA h k = .inl (dA 1, n, .inr (.inl (h.2.1 k))) := by
  simp [qE, qCE, hp]
theorem qE_bool {b0 : Nat} {dA : Nat → ClassId} {h : qH} {k n : Nat} (hp : qPl k = (22, n)) : qE b0 dA h k = .inl (dA 2, n, .inl (h.1 k)) := by
  simp [qE, qCE, hp]
theorem qE_ref {b0 : Nat} {dA : Nat → ClassId} {h : qH} {k n t : Nat} (hp : qPl k = (23 + t, n)) : qE b0 dA h k = .inl (dA (3 + t), n, .inr (.inr (.inr (.inr (fun j => (h.2.2 k j).map (fun x => b0 + x)))))) := by
  have h1 : ¬ 23 + t < 20 := by omega
  have h2 : ¬ 23 + t = 21 := by omega
  have h3 : ¬ 23 + t < 23 := by omega
  have h4 : 23 + t - 20 = 3 + t := by omega
  simp [qE, qCE, hp, h1, h2, h3, h4]
/-- the locals: a value a place; qdead: nothing is known -/
def qlvs (b0 b : Nat) (lv : List Value) : List (Nat × Value) := (List.range lv.length).filterMap (fun i => match lv[i]? with
  | some v => if v = qdead then none else some (i, qrel b0 b v)
  | none => none)
theorem qlvs_of {b0 b : Nat} {lv : List Value} {q : Nat × Value} (h : q ∈ qlvs b0 b lv) : ∃ v, lv[q.1]? = some v ∧ v ≠ qdead ∧ q.2 = qrel b0 b v := by
  obtain ⟨i, -, hi⟩ := List.mem_filterMap.mp h
  cases hv : lv[i]? with
  | none => rw [hv] at hi; cases hi
  | some v =>
    rw [hv] at hi
    dsimp only at hi
    by_cases hd : v = qdead
    · rw [if_pos hd] at hi; cases hi
    · rw [if_neg hd] at hi
      cases hi
      exact ⟨v, hv, hd, rfl⟩
theorem qlvs_in {b0 b : Nat} {lv : List Value} {i : Nat} {v : Value} (h : lv[i]? = some v) (hd : v ≠ qdead) : (i, qrel b0 b v) ∈ qlvs b0 b lv := by
  refine List.mem_filterMap.mpr ⟨i, List.mem_range.mpr (List.getElem?_eq_some_iff.mp h).1, ?_⟩
  rw [h]
  dsimp only
  rw [if_neg hd]
def qL (b0 b nL : Nat) (lv : List Value) (ls : Array Slot) : Prop := lv_has ls nL (qlvs b0 b lv)
theorem qL.at {b0 b nL : Nat} {lv : List Value} {ls : Array Slot} (h : qL b0 b nL lv ls) {i : Nat} {v : Value} (hv : lv[i]? = some v) (hd : v ≠ qdead) : ls[i]? = some (.val (qrel b0 b v)) := h.2.2 _ (qlvs_in hv hd)
theorem qL.mono {b0 b nL : Nat} {lv : List Value} {ls : Array Slot} {l : List (Nat × Value)} (h : lv_has ls nL l) (hs : ∀ q ∈ qlvs b0 b lv, q ∈ l) : qL b0 b nL lv ls := ⟨h.1, h.2.1, fun q hq => h.2.2 q (hs q hq)⟩
def qkl (lv : List Value) : Nat → List Value
  | 0 => lv
  | i + 1 => match lv[i]? with
    | some v => if v.category == 2 then lv.set i qdead else lv
    | none => lv
def qst (lv : List Value) (i : Nat) (v : Value) : List Value := (qkl lv i).set i v
def qst2 (lv : List Value) (i : Nat) (v : Value) : List Value := ((qkl lv i).set i v).set (i + 1) qdead
theorem qkl_at {lv : List Value} {i j : Nat} {w : Value} (h : (qkl lv i)[j]? = some w) (hd : w ≠ qdead) (hj : j ≠ i) : lv[j]? = some w ∧ ¬ (j + 1 = i ∧ w.category = 2) := by
  cases i with
  | zero => exact ⟨h, fun q => by omega⟩
  | succ i =>
    replace h : (match lv[i]? with
      | some v => if v.category == 2 then lv.set i qdead else lv
      | none => lv)[j]? = some w := h
    cases hv : lv[i]? with
    | none =>
      rw [hv] at h
      refine ⟨h, fun q => ?_⟩
      have : j = i := by omega
      subst this
      dsimp only at h
      rw [hv] at h
      cases h
    | some v =>
      rw [hv] at h
      dsimp only at h
      by_cases hc : (v.category == 2) = true
      · rw [if_pos hc] at h
        by_cases hji : j = i
        · subst hji
          rw [List.getElem?_set_self (List.getElem?_eq_some_iff.mp hv).1] at h
          exact absurd (Option.some.inj h).symm hd
        · rw [List.getElem?_set_ne (fun q => hji q.symm)] at h
          exact ⟨h, fun q => by omega⟩
      · rw [if_neg hc] at h
        refine ⟨h, fun q => ?_⟩
        have : j = i := by omega
        subst this
        rw [hv] at h
        cases h
        exact hc (by simp [q.2])
theorem qL.st1 {b0 b nL : Nat} {lv : List Value} {ls' : Array Slot} {i : Nat} {v : Value} (h : lv_has ls' nL ((i, qrel b0 b v) :: (qlvs b0 b lv).filter (fun q => !(q.1 == i) && !(q.1 + 1 == i && q.2.category == 2)))) : qL b0 b nL (qst lv i v) ls' := by
  refine qL.mono h fun q hq => ?_
  obtain ⟨w, h1, h2, h3⟩ := qlvs_of hq
  obtain ⟨j, x⟩ := q
  dsimp only at h1 h3
  by_cases hj : j = i
  · subst hj
    unfold qst at h1
    have hl : j < ((qkl lv j).set j v).length := (List.getElem?_eq_some_iff.mp h1).1
    rw [List.getElem?_set_self (by simpa using hl)] at h1
    cases h1
    rw [h3]
    exact List.mem_cons_self
  · unfold qst at h1
    rw [List.getElem?_set_ne (fun q => hj q.symm)] at h1
    obtain ⟨a1, a2⟩ := qkl_at h1 h2 hj
    refine List.mem_cons_of_mem _ (List.mem_filter.mpr ⟨by rw [h3]; exact qlvs_in a1 h2, ?_⟩)
    rw [h3, qrel_cat]
    simp only [Bool.and_eq_true, Bool.not_eq_true', beq_eq_false_iff_ne, ne_eq, Bool.and_eq_false_iff]
    refine ⟨hj, ?_⟩
    by_cases hji : j + 1 = i
    · exact Or.inr (fun q => a2 ⟨hji, q⟩)
    · exact Or.inl hji
theorem qL.st2 {b0 b nL : Nat} {lv : List Value} {ls' : Array Slot} {i : Nat} {v : Value} (h : lv_has ls' nL ((i, qrel b0 b v) :: (qlvs b0 b lv).filter (fun q => !(q.1 == i) && (!(q.1 == i + 1) && !(q.1 + 1 == i && q.2.category == 2))))) : qL b0 b nL (qst2 lv i v) ls' := by
  refine qL.mono h fun q hq => ?_
  obtain ⟨w, h1, h2, h3⟩ := qlvs_of hq
  obtain ⟨j, x⟩ := q
  dsimp only at h1 h3
  unfold qst2 at h1
  by_cases hj1 : j = i + 1
  · subst hj1
    have hl := (List.getElem?_eq_some_iff.mp h1).1
    rw [List.getElem?_set_self (by simpa using hl)] at h1
    exact absurd (Option.some.inj h1).symm h2
  · rw [List.getElem?_set_ne (fun q => hj1 q.symm)] at h1
    by_cases hj : j = i
    · subst hj
      have hl : j < ((qkl lv j).set j v).length := (List.getElem?_eq_some_iff.mp h1).1
      rw [List.getElem?_set_self (by simpa using hl)] at h1
      cases h1
      rw [h3]
      exact List.mem_cons_self
    · rw [List.getElem?_set_ne (fun q => hj q.symm)] at h1
      obtain ⟨a1, a2⟩ := qkl_at h1 h2 hj
      refine List.mem_cons_of_mem _ (List.mem_filter.mpr ⟨by rw [h3]; exact qlvs_in a1 h2, ?_⟩)
      rw [h3, qrel_cat]
      simp only [Bool.and_eq_true, Bool.not_eq_true', beq_eq_false_iff_ne, ne_eq, Bool.and_eq_false_iff]
      refine ⟨hj, hj1, ?_⟩
      by_cases hji : j + 1 = i
      · exact Or.inr (fun q => a2 ⟨hji, q⟩)
      · exact Or.inl hji
/-- what the tables say, at a state -/
def qK (D : va_G) (dA : Nat → ClassId) (U : State) : Prop := va_K D vwCl (qTys dA) U ∧ (∀ q ∈ qNF, va_Nw (.fieldLinkNest q.1 q.2.1 q.2.2.1 q.2.2.2.1 q.2.2.2.2.1 q.2.2.2.2.2) U) ∧ (∀ q ∈ qNM, va_Nw (.methodLinkNest q.1 q.2.1 q.2.2.1 q.2.2.2) U) ∧ ∀ C ∈ qAO, va_AO C U
theorem qK.warm {D : va_G} {dA : Nat → ClassId} {s U : State} (h : qK D dA s) (hW : s.WarmedH U.vm) : qK D dA U := ⟨va_K.moved hW.alike h.1, fun q hq => va_Nw.warmF hW (h.2.1 q hq), fun q hq => va_Nw.warmM hW (h.2.2.1 q hq), fun C hC => va_AO.moved hW.alike (h.2.2.2 C hC)⟩
theorem qK.calling {D : va_G} {dA : Nat → ClassId} {U : State} (h : qK D dA U) (g : JFrame) (mk : MethodId) (a : Array Value) : qK D dA (U.calling g mk a) := ⟨va_K.moved (u := U) (U := U.calling g mk a) (Vm.Alike.refl U.vm) h.1, fun q hq => va_Nw.same rfl (rfl : U.vm = (U.calling g mk a).vm) (h.2.1 q hq), fun q hq => va_Nw.same rfl (rfl : U.vm = (U.calling g mk a).vm) (h.2.2.1 q hq), fun C hC => va_AO.moved (u := U) (U := U.calling g mk a) (Vm.Alike.refl U.vm) (h.2.2.2 C hC)⟩
/-- the method's own surroundings -/
def qC (y : qMi) (d : Nat) (z : Option (Nat × (Nat → Int32))) (cT sT : Nat) (p : Program) (R : Room) (s : State) (m : MethodId) (args : Array Value) (meth : Method) (c : Code) (b0 b : Nat) (D : va_G) (dA : Nat → ClassId) : Prop :=
  p.tables.exec = Jvm.exec ∧ c.code = y.2.1 ∧ c.maxLocals = y.2.2.1 ∧ s.vm.findClass y.1.cls = some m.cls ∧ (∀ w ∈ qGW, w.before args s = true) ∧ qK D dA s ∧ (d ≤ R.frames ∧ 39 * d ≤ R.locals ∧ cT ≤ R.cells ∧ sT ≤ R.slots) ∧ b0 ≤ s.heap.size ∧ meth.name = y.1.name ∧ (match z with
    | none => True
    | some q => va_X b q.1 q.2 s s.heap ∧ b < b0)
def qA (b0 : Nat) (D : va_G) (dA : Nat → ClassId) (h : qH) (n : Nat) (s : State) (H : Heap) (locs : List Loc) : Prop := va_P D vwCl (qW b0 dA h n) H ∧ H.size = b0 + n ∧ va_S (fun q => b0 ≤ q) s.heap H locs
def qRet (y : qMi) (pc : Nat) (v : Option Value) : Prop :=
  (y.2.2.2 = none ∧ decode y.2.1 pc = .ok (.return_, 1) ∧ v = none) ∨ (∃ (r : Int32) (ty : FieldType), y.2.2.2 = some ty ∧ decode y.2.1 pc = .ok (.ireturn, 1) ∧ narrow ty (.int r) = .int r ∧ v = some (.int r)) ∨
  (∃ r : Int64, y.2.2.2 = some .long ∧ decode y.2.1 pc = .ok (.lreturn, 1) ∧ v = some (.long r)) ∨ ∃ (r : Nat) (ty : FieldType), y.2.2.2 = some ty ∧ ((∃ n, ty = .object n) ∨ ∃ t, ty = .array t) ∧ decode y.2.1 pc = .ok (.areturn, 1) ∧ v = some (.ref r)
/-- THE JUDGEMENT: from pc, with these locals, this stack, this heap (n cells made in all, ce of them here, with sl slots), the method comes to its end, and answer, heap and number of cells satisfy Rp -/
def qX (y : qMi) (d : Nat) (z : Option (Nat × (Nat → Int32))) (cT sT : Nat) (pc : Nat) (lv st : List Value) (h : qH) (n ce sl : Nat) (Rp : Option Value → qH → Nat → Prop) : Prop :=
  ∀ (p : Program) (l : Launch) (e : Env) (R : Room) (s : State) (m : MethodId) (args : Array Value) (below : List Frame) (meth : Method) (c : Code) (Q : State → Prop) (b0 b : Nat) (D : va_G) (dA : Nat → ClassId),
    qC y d z cT sT p R s m args meth c b0 b D dA →
    (∀ (H : Heap) (locs : List Loc) (ls : Array Slot) (pc : Nat) (v : Option Value) (h : qH) (n : Nat), Rp v h n → qA b0 D dA h n s H locs → qRet y pc v → W p l e R s m args below meth c H locs cT sT Q (F0 m pc ls (v.toList.map (qrel b0 b)))) →
    ∀ (H : Heap) (locs : List Loc) (ls : Array Slot), qA b0 D dA h n s H locs → qL b0 b y.2.2.1 lv ls → W p l e R s m args below meth c H locs ce sl Q (F0 m pc ls (st.map (qrel b0 b)))
section QX
variable {y : qMi} {d : Nat} {z : Option (Nat × (Nat → Int32))} {cT sT pc : Nat} {lv st : List Value} {h : qH} {n ce sl : Nat} {Rp : Option Value → qH → Nat → Prop}
theorem qx_iconst {i : Int} {v : Int32} (hd : decode y.2.1 pc = .ok (.iconst i, 1)) (hv : Int32.ofInt i = v) (k : qX y d z cT sT (pc + 1) lv (.int v :: st) h n ce sl Rp) : qX y d z cT sT pc lv st h n ce sl Rp := fun p l e R s m args below meth c Q b0 b D dA C hr H locs ls hA hl => lv_iconst C.1 C.2.1 hd hv (k p l e R s m args below meth c Q b0 b D dA C hr H locs ls hA hl)
theorem qx_bipush {i : Int} {v : Int32} (hd : decode y.2.1 pc = .ok (.bipush i, 2)) (hv : (Int8.ofInt i).toInt32 = v) (k : qX y d z cT sT (pc + 2) lv (.int v :: st) h n ce sl Rp) : qX y d z cT sT pc lv st h n ce sl Rp := fun p l e R s m args below meth c Q b0 b D dA C hr H locs ls hA hl => lv_bipush C.1 C.2.1 hd hv (k p l e R s m args below meth c Q b0 b D dA C hr H locs ls hA hl)
theorem qx_sipush {i : Int} {v : Int32} (hd : decode y.2.1 pc = .ok (.sipush i, 3)) (hv : (Int16.ofInt i).toInt32 = v) (k : qX y d z cT sT (pc + 3) lv (.int v :: st) h n ce sl Rp) : qX y d z cT sT pc lv st h n ce sl Rp := fun p l e R s m args below meth c Q b0 b D dA C hr H locs ls hA hl => lv_sipush C.1 C.2.1 hd hv (k p l e R s m args below meth c Q b0 b D dA C hr H locs ls hA hl)
theorem qx_lconst {i : Fin 2} {v : Int64} (hd : decode y.2.1 pc = .ok (.lconst i, 1)) (hv : Int64.ofNat (i : Nat) = v) (k : qX y d z cT sT (pc + 1) lv (.long v :: st) h n ce sl Rp) : qX y d z cT sT pc lv st h n ce sl Rp := fun p l e R s m args below meth c Q b0 b D dA C hr H locs ls hA hl => lv_lconst C.1 C.2.1 hd hv (k p l e R s m args below meth c Q b0 b D dA C hr H locs ls hA hl)
theorem qx_ldc2 {i : Nat} {v : Int64} (hd : decode y.2.1 pc = .ok (.ldc2_w i, 3)) (hw : Jvm.Cond.constantLong y.1.cls i v ∈ qGW) (k : qX y d z cT sT (pc + 3) lv (.long v :: st) h n ce sl Rp) : qX y d z cT sT pc lv st h n ce sl Rp := fun p l e R s m args below meth c Q b0 b D dA C hr H locs ls hA hl => lv_ldc2 C.1 C.2.1 C.2.2.2.1 (C.2.2.2.2.1 _ hw) hd (k p l e R s m args below meth c Q b0 b D dA C hr H locs ls hA hl)
theorem qx_ldc {i : Nat} {v : Int32} (hd : decode y.2.1 pc = .ok (.ldc i, 2)) (hw : Jvm.Cond.constant y.1.cls i v ∈ qGW) (k : qX y d z cT sT (pc + 2) lv (.int v :: st) h n ce sl Rp) : qX y d z cT sT pc lv st h n ce sl Rp := fun p l e R s m args below meth c Q b0 b D dA C hr H locs ls hA hl => lv_ldc C.1 C.2.1 C.2.2.2.1 (C.2.2.2.2.1 _ hw) hd (k p l e R s m args below meth c Q b0 b D dA C hr H locs ls hA hl)
theorem qx_iload_n {i : Fin 4} {j : Nat} {x : Int32} (hd : decode y.2.1 pc = .ok (.iload_n i, 1)) (hi : (i : Nat) = j) (hv : lv[j]? = some (.int x)) (k : qX y d z cT sT (pc + 1) lv (.int x :: st) h n ce sl Rp) : qX y d z cT sT pc lv st h n ce sl Rp := fun p l e R s m args below meth c Q b0 b D dA C hr H locs ls hA hl => lv_iload_n C.1 C.2.1 hd hi (hl.at hv (fun q => by cases q)) (k p l e R s m args below meth c Q b0 b D dA C hr H locs ls hA hl)
theorem qx_iload {i : Nat} {x : Int32} (hd : decode y.2.1 pc = .ok (.iload i, 2)) (hv : lv[i]? = some (.int x)) (k : qX y d z cT sT (pc + 2) lv (.int x :: st) h n ce sl Rp) : qX y d z cT sT pc lv st h n ce sl Rp := fun p l e R s m args below meth c Q b0 b D dA C hr H locs ls hA hl => lv_iload C.1 C.2.1 hd (hl.at hv (fun q => by cases q)) (k p l e R s m args below meth c Q b0 b D dA C hr H locs ls hA hl)
theorem qx_istore_n {i : Nat} {x : Int32} {lv1 : List Value} {j : Fin 4} (hd : decode y.2.1 pc = .ok (.istore_n j, 1)) (hi : (j : Nat) = i) (hn : i < y.2.2.1) (he : qst lv i (.int x) = lv1) (k : qX y d z cT sT (pc + 1) lv1 st h n ce sl Rp) : qX y d z cT sT pc lv (.int x :: st) h n ce sl Rp := fun p l e R s m args below meth c Q b0 b D dA C hr H locs ls hA hl => lv_istore_n C.1 C.2.1 hd hi hl hn rfl (fun ls1 hl1 => k p l e R s m args below meth c Q b0 b D dA C hr H locs ls1 hA (he ▸ qL.st1 (v := .int x) hl1))
theorem qx_istore {i : Nat} {x : Int32} {lv1 : List Value} (hd : decode y.2.1 pc = .ok (.istore i, 2))  (hn : i < y.2.2.1) (he : qst lv i (.int x) = lv1) (k : qX y d z cT sT (pc + 2) lv1 st h n ce sl Rp) : qX y d z cT sT pc lv (.int x :: st) h n ce sl Rp := fun p l e R s m args below meth c Q b0 b D dA C hr H locs ls hA hl => lv_istore C.1 C.2.1 hd hl hn rfl (fun ls1 hl1 => k p l e R s m args below meth c Q b0 b D dA C hr H locs ls1 hA (he ▸ qL.st1 (v := .int x) hl1))
theorem qx_lload_n {i : Fin 4} {j : Nat} {x : Int64} (hd : decode y.2.1 pc = .ok (.lload_n i, 1)) (hi : (i : Nat) = j) (hv : lv[j]? = some (.long x)) (k : qX y d z cT sT (pc + 1) lv (.long x :: st) h n ce sl Rp) : qX y d z cT sT pc lv st h n ce sl Rp := fun p l e R s m args below meth c Q b0 b D dA C hr H locs ls hA hl => lv_lload_n C.1 C.2.1 hd hi (hl.at hv (fun q => by cases q)) (k p l e R s m args below meth c Q b0 b D dA C hr H locs ls hA hl)
theorem qx_lload {i : Nat} {x : Int64} (hd : decode y.2.1 pc = .ok (.lload i, 2)) (hv : lv[i]? = some (.long x)) (k : qX y d z cT sT (pc + 2) lv (.long x :: st) h n ce sl Rp) : qX y d z cT sT pc lv st h n ce sl Rp := fun p l e R s m args below meth c Q b0 b D dA C hr H locs ls hA hl => lv_lload C.1 C.2.1 hd (hl.at hv (fun q => by cases q)) (k p l e R s m args below meth c Q b0 b D dA C hr H locs ls hA hl)
theorem qx_lstore_n {i : Nat} {x : Int64} {lv1 : List Value} {j : Fin 4} (hd : decode y.2.1 pc = .ok (.lstore_n j, 1)) (hi : (j : Nat) = i) (hn : i + 1 < y.2.2.1) (he : qst2 lv i (.long x) = lv1) (k : qX y d z cT sT (pc + 1) lv1 st h n ce sl Rp) : qX y d z cT sT pc lv (.long x :: st) h n ce sl Rp := fun p l e R s m args below meth c Q b0 b D dA C hr H locs ls hA hl => lv_lstore_n C.1 C.2.1 hd hi hl hn rfl (fun ls1 hl1 => k p l e R s m args below meth c Q b0 b D dA C hr H locs ls1 hA (he ▸ qL.st2 (v := .long x) hl1))
theorem qx_lstore {i : Nat} {x : Int64} {lv1 : List Value} (hd : decode y.2.1 pc = .ok (.lstore i, 2))  (hn : i + 1 < y.2.2.1) (he : qst2 lv i (.long x) = lv1) (k : qX y d z cT sT (pc + 2) lv1 st h n ce sl Rp) : qX y d z cT sT pc lv (.long x :: st) h n ce sl Rp := fun p l e R s m args below meth c Q b0 b D dA C hr H locs ls hA hl => lv_lstore C.1 C.2.1 hd hl hn rfl (fun ls1 hl1 => k p l e R s m args below meth c Q b0 b D dA C hr H locs ls1 hA (he ▸ qL.st2 (v := .long x) hl1))
theorem qx_aload_n {i : Fin 4} {j : Nat} {x : Nat} (hd : decode y.2.1 pc = .ok (.aload_n i, 1)) (hi : (i : Nat) = j) (hv : lv[j]? = some (.ref x)) (k : qX y d z cT sT (pc + 1) lv (.ref x :: st) h n ce sl Rp) : qX y d z cT sT pc lv st h n ce sl Rp := fun p l e R s m args below meth c Q b0 b D dA C hr H locs ls hA hl => lv_aload_n C.1 C.2.1 hd hi (hl.at hv (fun q => by cases q)) (k p l e R s m args below meth c Q b0 b D dA C hr H locs ls hA hl)
theorem qx_aload {i : Nat} {x : Nat} (hd : decode y.2.1 pc = .ok (.aload i, 2)) (hv : lv[i]? = some (.ref x)) (k : qX y d z cT sT (pc + 2) lv (.ref x :: st) h n ce sl Rp) : qX y d z cT sT pc lv st h n ce sl Rp := fun p l e R s m args below meth c Q b0 b D dA C hr H locs ls hA hl => lv_aload C.1 C.2.1 hd (hl.at hv (fun q => by cases q)) (k p l e R s m args below meth c Q b0 b D dA C hr H locs ls hA hl)
theorem qx_astore_n {i : Nat} {x : Nat} {lv1 : List Value} {j : Fin 4} (hd : decode y.2.1 pc = .ok (.astore_n j, 1)) (hi : (j : Nat) = i) (hn : i < y.2.2.1) (he : qst lv i (.ref x) = lv1) (k : qX y d z cT sT (pc + 1) lv1 st h n ce sl Rp) : qX y d z cT sT pc lv (.ref x :: st) h n ce sl Rp := fun p l e R s m args below meth c Q b0 b D dA C hr H locs ls hA hl => lv_astore_n C.1 C.2.1 hd hi hl hn rfl (fun ls1 hl1 => k p l e R s m args below meth c Q b0 b D dA C hr H locs ls1 hA (he ▸ qL.st1 (v := .ref x) hl1))
theorem qx_astore {i : Nat} {x : Nat} {lv1 : List Value} (hd : decode y.2.1 pc = .ok (.astore i, 2))  (hn : i < y.2.2.1) (he : qst lv i (.ref x) = lv1) (k : qX y d z cT sT (pc + 2) lv1 st h n ce sl Rp) : qX y d z cT sT pc lv (.ref x :: st) h n ce sl Rp := fun p l e R s m args below meth c Q b0 b D dA C hr H locs ls hA hl => lv_astore C.1 C.2.1 hd hl hn rfl (fun ls1 hl1 => k p l e R s m args below meth c Q b0 b D dA C hr H locs ls1 hA (he ▸ qL.st1 (v := .ref x) hl1))
theorem qx_aload_s {i : Fin 4} {j : Nat} {x : Nat} (hd : decode y.2.1 pc = .ok (.aload_n i, 1)) (hi : (i : Nat) = j) (hv : lv[j]? = some (.retAddr 0)) (k : qX y d z cT sT (pc + 1) lv (.retAddr 0 :: st) h n ce sl Rp) : qX y d z cT sT pc lv st h n ce sl Rp := fun p l e R s m args below meth c Q b0 b D dA C hr H locs ls hA hl => lv_aload_n C.1 C.2.1 hd hi (hl.at hv (fun q => by cases q)) (k p l e R s m args below meth c Q b0 b D dA C hr H locs ls hA hl)
theorem qx_iinc {i j : Nat} {a : Int} {x v : Int32} {lv1 : List Value} (hd : decode y.2.1 pc = .ok (.iinc i a, 3)) (hv : lv[i]? = some (.int x)) (ha : x + Int32.ofInt a = v) (hn : i < y.2.2.1) (he : qst lv i (.int v) = lv1) (k : qX y d z cT sT (pc + 3) lv1 st h n ce sl Rp) : qX y d z cT sT pc lv st h n ce sl Rp := by
  intro p l e R s m args below meth c Q b0 b D dA C hr H locs ls hA hl
  obtain ⟨j, hj⟩ := List.getElem?_of_mem (qlvs_in (b0 := b0) (b := b) hv (fun q => by cases q))
  exact lv_iinc C.1 C.2.1 hd hl hj ha hn rfl (fun ls1 hl1 => k p l e R s m args below meth c Q b0 b D dA C hr H locs ls1 hA (he ▸ qL.st1 (v := .int v) hl1))
theorem qx_iadd {a x : Int32} (hd : decode y.2.1 pc = .ok (.iadd, 1))  (k : qX y d z cT sT (pc + 1) lv (.int (a + x) :: st) h n ce sl Rp) : qX y d z cT sT pc lv (.int x :: .int a :: st) h n ce sl Rp := fun p l e R s m args below meth c Q b0 b D dA C hr H locs ls hA hl => lv_iadd C.1 C.2.1 hd (k p l e R s m args below meth c Q b0 b D dA C hr H locs ls hA hl)
theorem qx_isub {a x : Int32} (hd : decode y.2.1 pc = .ok (.isub, 1))  (k : qX y d z cT sT (pc + 1) lv (.int (a - x) :: st) h n ce sl Rp) : qX y d z cT sT pc lv (.int x :: .int a :: st) h n ce sl Rp := fun p l e R s m args below meth c Q b0 b D dA C hr H locs ls hA hl => lv_isub C.1 C.2.1 hd (k p l e R s m args below meth c Q b0 b D dA C hr H locs ls hA hl)
theorem qx_imul {a x : Int32} (hd : decode y.2.1 pc = .ok (.imul, 1))  (k : qX y d z cT sT (pc + 1) lv (.int (a * x) :: st) h n ce sl Rp) : qX y d z cT sT pc lv (.int x :: .int a :: st) h n ce sl Rp := fun p l e R s m args below meth c Q b0 b D dA C hr H locs ls hA hl => lv_imul C.1 C.2.1 hd (k p l e R s m args below meth c Q b0 b D dA C hr H locs ls hA hl)
theorem qx_iand {a x : Int32} (hd : decode y.2.1 pc = .ok (.iand, 1))  (k : qX y d z cT sT (pc + 1) lv (.int (a &&& x) :: st) h n ce sl Rp) : qX y d z cT sT pc lv (.int x :: .int a :: st) h n ce sl Rp := fun p l e R s m args below meth c Q b0 b D dA C hr H locs ls hA hl => lv_iand C.1 C.2.1 hd (k p l e R s m args below meth c Q b0 b D dA C hr H locs ls hA hl)
theorem qx_ior {a x : Int32} (hd : decode y.2.1 pc = .ok (.ior, 1))  (k : qX y d z cT sT (pc + 1) lv (.int (a ||| x) :: st) h n ce sl Rp) : qX y d z cT sT pc lv (.int x :: .int a :: st) h n ce sl Rp := fun p l e R s m args below meth c Q b0 b D dA C hr H locs ls hA hl => lv_ior C.1 C.2.1 hd (k p l e R s m args below meth c Q b0 b D dA C hr H locs ls hA hl)
theorem qx_ixor {a x : Int32} (hd : decode y.2.1 pc = .ok (.ixor, 1))  (k : qX y d z cT sT (pc + 1) lv (.int (a ^^^ x) :: st) h n ce sl Rp) : qX y d z cT sT pc lv (.int x :: .int a :: st) h n ce sl Rp := fun p l e R s m args below meth c Q b0 b D dA C hr H locs ls hA hl => lv_ixor C.1 C.2.1 hd (k p l e R s m args below meth c Q b0 b D dA C hr H locs ls hA hl)
theorem qx_ishl {a x : Int32} (hd : decode y.2.1 pc = .ok (.ishl, 1))  (k : qX y d z cT sT (pc + 1) lv (.int (a <<< (x &&& 31)) :: st) h n ce sl Rp) : qX y d z cT sT pc lv (.int x :: .int a :: st) h n ce sl Rp := fun p l e R s m args below meth c Q b0 b D dA C hr H locs ls hA hl => lv_ishl C.1 C.2.1 hd (k p l e R s m args below meth c Q b0 b D dA C hr H locs ls hA hl)
theorem qx_ishr {a x : Int32} (hd : decode y.2.1 pc = .ok (.ishr, 1))  (k : qX y d z cT sT (pc + 1) lv (.int (a >>> (x &&& 31)) :: st) h n ce sl Rp) : qX y d z cT sT pc lv (.int x :: .int a :: st) h n ce sl Rp := fun p l e R s m args below meth c Q b0 b D dA C hr H locs ls hA hl => lv_ishr C.1 C.2.1 hd (k p l e R s m args below meth c Q b0 b D dA C hr H locs ls hA hl)
theorem qx_idiv {a x : Int32} (hd : decode y.2.1 pc = .ok (.idiv, 1)) (h0 : ¬ x = 0) (k : qX y d z cT sT (pc + 1) lv (.int (a / x) :: st) h n ce sl Rp) : qX y d z cT sT pc lv (.int x :: .int a :: st) h n ce sl Rp := fun p l e R s m args below meth c Q b0 b D dA C hr H locs ls hA hl => lv_idiv C.1 C.2.1 hd h0 (k p l e R s m args below meth c Q b0 b D dA C hr H locs ls hA hl)
theorem qx_irem {a x : Int32} (hd : decode y.2.1 pc = .ok (.irem, 1)) (h0 : ¬ x = 0) (k : qX y d z cT sT (pc + 1) lv (.int (a - a / x * x) :: st) h n ce sl Rp) : qX y d z cT sT pc lv (.int x :: .int a :: st) h n ce sl Rp := fun p l e R s m args below meth c Q b0 b D dA C hr H locs ls hA hl => lv_irem C.1 C.2.1 hd h0 (k p l e R s m args below meth c Q b0 b D dA C hr H locs ls hA hl)
theorem qx_ladd {a x : Int64} (hd : decode y.2.1 pc = .ok (.ladd, 1))  (k : qX y d z cT sT (pc + 1) lv (.long (a + x) :: st) h n ce sl Rp) : qX y d z cT sT pc lv (.long x :: .long a :: st) h n ce sl Rp := fun p l e R s m args below meth c Q b0 b D dA C hr H locs ls hA hl => lv_ladd C.1 C.2.1 hd (k p l e R s m args below meth c Q b0 b D dA C hr H locs ls hA hl)
theorem qx_lsub {a x : Int64} (hd : decode y.2.1 pc = .ok (.lsub, 1))  (k : qX y d z cT sT (pc + 1) lv (.long (a - x) :: st) h n ce sl Rp) : qX y d z cT sT pc lv (.long x :: .long a :: st) h n ce sl Rp := fun p l e R s m args below meth c Q b0 b D dA C hr H locs ls hA hl => lv_lsub C.1 C.2.1 hd (k p l e R s m args below meth c Q b0 b D dA C hr H locs ls hA hl)
theorem qx_lmul {a x : Int64} (hd : decode y.2.1 pc = .ok (.lmul, 1))  (k : qX y d z cT sT (pc + 1) lv (.long (a * x) :: st) h n ce sl Rp) : qX y d z cT sT pc lv (.long x :: .long a :: st) h n ce sl Rp := fun p l e R s m args below meth c Q b0 b D dA C hr H locs ls hA hl => lv_lmul C.1 C.2.1 hd (k p l e R s m args below meth c Q b0 b D dA C hr H locs ls hA hl)
theorem qx_land {a x : Int64} (hd : decode y.2.1 pc = .ok (.land, 1))  (k : qX y d z cT sT (pc + 1) lv (.long (a &&& x) :: st) h n ce sl Rp) : qX y d z cT sT pc lv (.long x :: .long a :: st) h n ce sl Rp := fun p l e R s m args below meth c Q b0 b D dA C hr H locs ls hA hl => lv_land C.1 C.2.1 hd (k p l e R s m args below meth c Q b0 b D dA C hr H locs ls hA hl)
theorem qx_lor {a x : Int64} (hd : decode y.2.1 pc = .ok (.lor, 1))  (k : qX y d z cT sT (pc + 1) lv (.long (a ||| x) :: st) h n ce sl Rp) : qX y d z cT sT pc lv (.long x :: .long a :: st) h n ce sl Rp := fun p l e R s m args below meth c Q b0 b D dA C hr H locs ls hA hl => lv_lor C.1 C.2.1 hd (k p l e R s m args below meth c Q b0 b D dA C hr H locs ls hA hl)
theorem qx_lxor {a x : Int64} (hd : decode y.2.1 pc = .ok (.lxor, 1))  (k : qX y d z cT sT (pc + 1) lv (.long (a ^^^ x) :: st) h n ce sl Rp) : qX y d z cT sT pc lv (.long x :: .long a :: st) h n ce sl Rp := fun p l e R s m args below meth c Q b0 b D dA C hr H locs ls hA hl => lv_lxor C.1 C.2.1 hd (k p l e R s m args below meth c Q b0 b D dA C hr H locs ls hA hl)
theorem qx_ldiv {a x : Int64} (hd : decode y.2.1 pc = .ok (.ldiv, 1)) (h0 : ¬ x = 0) (k : qX y d z cT sT (pc + 1) lv (.long (a / x) :: st) h n ce sl Rp) : qX y d z cT sT pc lv (.long x :: .long a :: st) h n ce sl Rp := fun p l e R s m args below meth c Q b0 b D dA C hr H locs ls hA hl => lv_ldiv C.1 C.2.1 hd h0 (k p l e R s m args below meth c Q b0 b D dA C hr H locs ls hA hl)
theorem qx_lrem {a x : Int64} (hd : decode y.2.1 pc = .ok (.lrem, 1)) (h0 : ¬ x = 0) (k : qX y d z cT sT (pc + 1) lv (.long (a - a / x * x) :: st) h n ce sl Rp) : qX y d z cT sT pc lv (.long x :: .long a :: st) h n ce sl Rp := fun p l e R s m args below meth c Q b0 b D dA C hr H locs ls hA hl => lv_lrem C.1 C.2.1 hd h0 (k p l e R s m args below meth c Q b0 b D dA C hr H locs ls hA hl)
theorem qx_ineg {x : Int32} (hd : decode y.2.1 pc = .ok (.ineg, 1))  (k : qX y d z cT sT (pc + 1) lv (.int (-x) :: st) h n ce sl Rp) : qX y d z cT sT pc lv (.int x :: st) h n ce sl Rp := fun p l e R s m args below meth c Q b0 b D dA C hr H locs ls hA hl => lv_ineg C.1 C.2.1 hd (k p l e R s m args below meth c Q b0 b D dA C hr H locs ls hA hl)
theorem qx_lneg {x : Int64} (hd : decode y.2.1 pc = .ok (.lneg, 1))  (k : qX y d z cT sT (pc + 1) lv (.long (-x) :: st) h n ce sl Rp) : qX y d z cT sT pc lv (.long x :: st) h n ce sl Rp := fun p l e R s m args below meth c Q b0 b D dA C hr H locs ls hA hl => lv_lneg C.1 C.2.1 hd (k p l e R s m args below meth c Q b0 b D dA C hr H locs ls hA hl)
theorem qx_lshl {a : Int64} {x : Int32} (hd : decode y.2.1 pc = .ok (.lshl, 1))  (k : qX y d z cT sT (pc + 1) lv (.long (a <<< (x.toInt64 &&& 63)) :: st) h n ce sl Rp) : qX y d z cT sT pc lv (.int x :: .long a :: st) h n ce sl Rp := fun p l e R s m args below meth c Q b0 b D dA C hr H locs ls hA hl => lv_lshl C.1 C.2.1 hd rfl (k p l e R s m args below meth c Q b0 b D dA C hr H locs ls hA hl)
theorem qx_lshr {a : Int64} {x : Int32} (hd : decode y.2.1 pc = .ok (.lshr, 1))  (k : qX y d z cT sT (pc + 1) lv (.long (a >>> (x.toInt64 &&& 63)) :: st) h n ce sl Rp) : qX y d z cT sT pc lv (.int x :: .long a :: st) h n ce sl Rp := fun p l e R s m args below meth c Q b0 b D dA C hr H locs ls hA hl => lv_lshr C.1 C.2.1 hd rfl (k p l e R s m args below meth c Q b0 b D dA C hr H locs ls hA hl)
theorem qx_i2l {x : Int32} (hd : decode y.2.1 pc = .ok (.i2l, 1))  (k : qX y d z cT sT (pc + 1) lv (.long x.toInt64 :: st) h n ce sl Rp) : qX y d z cT sT pc lv (.int x :: st) h n ce sl Rp := fun p l e R s m args below meth c Q b0 b D dA C hr H locs ls hA hl => lv_i2l C.1 C.2.1 hd rfl (k p l e R s m args below meth c Q b0 b D dA C hr H locs ls hA hl)
theorem qx_l2i {x : Int64} (hd : decode y.2.1 pc = .ok (.l2i, 1))  (k : qX y d z cT sT (pc + 1) lv (.int x.toInt32 :: st) h n ce sl Rp) : qX y d z cT sT pc lv (.long x :: st) h n ce sl Rp := fun p l e R s m args below meth c Q b0 b D dA C hr H locs ls hA hl => lv_l2i C.1 C.2.1 hd rfl (k p l e R s m args below meth c Q b0 b D dA C hr H locs ls hA hl)
theorem qx_lcmp {a x : Int64} (hd : decode y.2.1 pc = .ok (.lcmp, 1))  (k : qX y d z cT sT (pc + 1) lv (.int (lg_cmp a x) :: st) h n ce sl Rp) : qX y d z cT sT pc lv (.long x :: .long a :: st) h n ce sl Rp := fun p l e R s m args below meth c Q b0 b D dA C hr H locs ls hA hl => W.lcmp C.1 C.2.1 hd (k p l e R s m args below meth c Q b0 b D dA C hr H locs ls hA hl)
theorem qx_dup {v : Value} (hd : decode y.2.1 pc = .ok (.dup, 1)) (hv : v.category = 1) (k : qX y d z cT sT (pc + 1) lv (v :: v :: st) h n ce sl Rp) : qX y d z cT sT pc lv (v :: st) h n ce sl Rp := fun p l e R s m args below meth c Q b0 b D dA C hr H locs ls hA hl => lv_dup C.1 C.2.1 hd ((qrel_cat b0 b v).trans hv) (k p l e R s m args below meth c Q b0 b D dA C hr H locs ls hA hl)
theorem qx_pop {v : Value} (hd : decode y.2.1 pc = .ok (.pop, 1)) (hv : v.category = 1) (k : qX y d z cT sT (pc + 1) lv st h n ce sl Rp) : qX y d z cT sT pc lv (v :: st) h n ce sl Rp := fun p l e R s m args below meth c Q b0 b D dA C hr H locs ls hA hl => lv_pop C.1 C.2.1 hd ((qrel_cat b0 b v).trans hv) (k p l e R s m args below meth c Q b0 b D dA C hr H locs ls hA hl)
theorem qx_dup_x1 {v w : Value} (hd : decode y.2.1 pc = .ok (.dup_x1, 1)) (hv : v.category = 1) (hw : w.category = 1) (k : qX y d z cT sT (pc + 1) lv (v :: w :: v :: st) h n ce sl Rp) : qX y d z cT sT pc lv (v :: w :: st) h n ce sl Rp := fun p l e R s m args below meth c Q b0 b D dA C hr H locs ls hA hl => lv_dup_x1 C.1 C.2.1 hd ((qrel_cat b0 b v).trans hv) ((qrel_cat b0 b w).trans hw) (k p l e R s m args below meth c Q b0 b D dA C hr H locs ls hA hl)
theorem qx_dup_x2 {v w u : Value} (hd : decode y.2.1 pc = .ok (.dup_x2, 1)) (hv : v.category = 1) (hw : w.category = 1) (hu : u.category = 1) (k : qX y d z cT sT (pc + 1) lv (v :: w :: u :: v :: st) h n ce sl Rp) : qX y d z cT sT pc lv (v :: w :: u :: st) h n ce sl Rp := fun p l e R s m args below meth c Q b0 b D dA C hr H locs ls hA hl => lv_dup_x2 C.1 C.2.1 hd ((qrel_cat b0 b v).trans hv) ((qrel_cat b0 b w).trans hw) ((qrel_cat b0 b u).trans hu) (k p l e R s m args below meth c Q b0 b D dA C hr H locs ls hA hl)
theorem qx_dup2 {v w : Value} (hd : decode y.2.1 pc = .ok (.dup2, 1)) (hv : v.category = 1) (hw : w.category = 1) (k : qX y d z cT sT (pc + 1) lv (v :: w :: v :: w :: st) h n ce sl Rp) : qX y d z cT sT pc lv (v :: w :: st) h n ce sl Rp := fun p l e R s m args below meth c Q b0 b D dA C hr H locs ls hA hl => lv_dup2_11 C.1 C.2.1 hd ((qrel_cat b0 b v).trans hv) ((qrel_cat b0 b w).trans hw) (k p l e R s m args below meth c Q b0 b D dA C hr H locs ls hA hl)
theorem qx_dup2L {v : Value} (hd : decode y.2.1 pc = .ok (.dup2, 1)) (hv : v.category = 2) (k : qX y d z cT sT (pc + 1) lv (v :: v :: st) h n ce sl Rp) : qX y d z cT sT pc lv (v :: st) h n ce sl Rp := fun p l e R s m args below meth c Q b0 b D dA C hr H locs ls hA hl => lv_dup2_2 C.1 C.2.1 hd ((qrel_cat b0 b v).trans hv) (k p l e R s m args below meth c Q b0 b D dA C hr H locs ls hA hl)
theorem qx_pop2L {v : Value} (hd : decode y.2.1 pc = .ok (.pop2, 1)) (hv : v.category = 2) (k : qX y d z cT sT (pc + 1) lv st h n ce sl Rp) : qX y d z cT sT pc lv (v :: st) h n ce sl Rp := fun p l e R s m args below meth c Q b0 b D dA C hr H locs ls hA hl => lv_pop2_2 C.1 C.2.1 hd ((qrel_cat b0 b v).trans hv) (k p l e R s m args below meth c Q b0 b D dA C hr H locs ls hA hl)
theorem qx_dup2_x1L {v w : Value} (hd : decode y.2.1 pc = .ok (.dup2_x1, 1)) (hv : v.category = 2) (hw : w.category = 1) (k : qX y d z cT sT (pc + 1) lv (v :: w :: v :: st) h n ce sl Rp) : qX y d z cT sT pc lv (v :: w :: st) h n ce sl Rp := fun p l e R s m args below meth c Q b0 b D dA C hr H locs ls hA hl => lv_dup2_x1_2 C.1 C.2.1 hd ((qrel_cat b0 b v).trans hv) ((qrel_cat b0 b w).trans hw) (k p l e R s m args below meth c Q b0 b D dA C hr H locs ls hA hl)
theorem qx_dup2_x2L {v w u : Value} (hd : decode y.2.1 pc = .ok (.dup2_x2, 1)) (hv : v.category = 2) (hw : w.category = 1) (hu : u.category = 1) (k : qX y d z cT sT (pc + 1) lv (v :: w :: u :: v :: st) h n ce sl Rp) : qX y d z cT sT pc lv (v :: w :: u :: st) h n ce sl Rp := fun p l e R s m args below meth c Q b0 b D dA C hr H locs ls hA hl => lv_dup2_x2_2 C.1 C.2.1 hd ((qrel_cat b0 b v).trans hv) ((qrel_cat b0 b w).trans hw) ((qrel_cat b0 b u).trans hu) (k p l e R s m args below meth c Q b0 b D dA C hr H locs ls hA hl)
theorem qx_if_eq {x : Int32} {off : Int} {t : Nat} (hd : decode y.2.1 pc = .ok (.ifCond .eq off, 3)) (ht : (pc : Int) + off = (t : Int)) (kt : x = 0 → qX y d z cT sT t lv st h n ce sl Rp) (kf : ¬ x = 0 → qX y d z cT sT (pc + 3) lv st h n ce sl Rp) : qX y d z cT sT pc lv (.int x :: st) h n ce sl Rp := fun p l e R s m args below meth c Q b0 b D dA C hr H locs ls hA hl => lv_if_eq C.1 C.2.1 hd ht (fun q => kt q p l e R s m args below meth c Q b0 b D dA C hr H locs ls hA hl) (fun q => kf q p l e R s m args below meth c Q b0 b D dA C hr H locs ls hA hl)
theorem qx_icmp_eq {a x : Int32} {off : Int} {t : Nat} (hd : decode y.2.1 pc = .ok (.if_icmp .eq off, 3)) (ht : (pc : Int) + off = (t : Int)) (kt : a = x → qX y d z cT sT t lv st h n ce sl Rp) (kf : ¬ a = x → qX y d z cT sT (pc + 3) lv st h n ce sl Rp) : qX y d z cT sT pc lv (.int x :: .int a :: st) h n ce sl Rp := fun p l e R s m args below meth c Q b0 b D dA C hr H locs ls hA hl => lv_icmp_eq C.1 C.2.1 hd ht (fun q => kt q p l e R s m args below meth c Q b0 b D dA C hr H locs ls hA hl) (fun q => kf q p l e R s m args below meth c Q b0 b D dA C hr H locs ls hA hl)
theorem qx_if_ne {x : Int32} {off : Int} {t : Nat} (hd : decode y.2.1 pc = .ok (.ifCond .ne off, 3)) (ht : (pc : Int) + off = (t : Int)) (kt : ¬ x = 0 → qX y d z cT sT t lv st h n ce sl Rp) (kf : x = 0 → qX y d z cT sT (pc + 3) lv st h n ce sl Rp) : qX y d z cT sT pc lv (.int x :: st) h n ce sl Rp := fun p l e R s m args below meth c Q b0 b D dA C hr H locs ls hA hl => lv_if_ne C.1 C.2.1 hd ht (fun q => kt q p l e R s m args below meth c Q b0 b D dA C hr H locs ls hA hl) (fun q => kf q p l e R s m args below meth c Q b0 b D dA C hr H locs ls hA hl)
theorem qx_icmp_ne {a x : Int32} {off : Int} {t : Nat} (hd : decode y.2.1 pc = .ok (.if_icmp .ne off, 3)) (ht : (pc : Int) + off = (t : Int)) (kt : ¬ a = x → qX y d z cT sT t lv st h n ce sl Rp) (kf : a = x → qX y d z cT sT (pc + 3) lv st h n ce sl Rp) : qX y d z cT sT pc lv (.int x :: .int a :: st) h n ce sl Rp := fun p l e R s m args below meth c Q b0 b D dA C hr H locs ls hA hl => lv_icmp_ne C.1 C.2.1 hd ht (fun q => kt q p l e R s m args below meth c Q b0 b D dA C hr H locs ls hA hl) (fun q => kf q p l e R s m args below meth c Q b0 b D dA C hr H locs ls hA hl)
theorem qx_if_lt {x : Int32} {off : Int} {t : Nat} (hd : decode y.2.1 pc = .ok (.ifCond .lt off, 3)) (ht : (pc : Int) + off = (t : Int)) (kt : x < 0 → qX y d z cT sT t lv st h n ce sl Rp) (kf : ¬ x < 0 → qX y d z cT sT (pc + 3) lv st h n ce sl Rp) : qX y d z cT sT pc lv (.int x :: st) h n ce sl Rp := fun p l e R s m args below meth c Q b0 b D dA C hr H locs ls hA hl => lv_if_lt C.1 C.2.1 hd ht (fun q => kt q p l e R s m args below meth c Q b0 b D dA C hr H locs ls hA hl) (fun q => kf q p l e R s m args below meth c Q b0 b D dA C hr H locs ls hA hl)
theorem qx_icmp_lt {a x : Int32} {off : Int} {t : Nat} (hd : decode y.2.1 pc = .ok (.if_icmp .lt off, 3)) (ht : (pc : Int) + off = (t : Int)) (kt : a < x → qX y d z cT sT t lv st h n ce sl Rp) (kf : ¬ a < x → qX y d z cT sT (pc + 3) lv st h n ce sl Rp) : qX y d z cT sT pc lv (.int x :: .int a :: st) h n ce sl Rp := fun p l e R s m args below meth c Q b0 b D dA C hr H locs ls hA hl => lv_icmp_lt C.1 C.2.1 hd ht (fun q => kt q p l e R s m args below meth c Q b0 b D dA C hr H locs ls hA hl) (fun q => kf q p l e R s m args below meth c Q b0 b D dA C hr H locs ls hA hl)
theorem qx_if_ge {x : Int32} {off : Int} {t : Nat} (hd : decode y.2.1 pc = .ok (.ifCond .ge off, 3)) (ht : (pc : Int) + off = (t : Int)) (kt : 0 ≤ x → qX y d z cT sT t lv st h n ce sl Rp) (kf : ¬ 0 ≤ x → qX y d z cT sT (pc + 3) lv st h n ce sl Rp) : qX y d z cT sT pc lv (.int x :: st) h n ce sl Rp := fun p l e R s m args below meth c Q b0 b D dA C hr H locs ls hA hl => lv_if_ge C.1 C.2.1 hd ht (fun q => kt q p l e R s m args below meth c Q b0 b D dA C hr H locs ls hA hl) (fun q => kf q p l e R s m args below meth c Q b0 b D dA C hr H locs ls hA hl)
theorem qx_icmp_ge {a x : Int32} {off : Int} {t : Nat} (hd : decode y.2.1 pc = .ok (.if_icmp .ge off, 3)) (ht : (pc : Int) + off = (t : Int)) (kt : x ≤ a → qX y d z cT sT t lv st h n ce sl Rp) (kf : ¬ x ≤ a → qX y d z cT sT (pc + 3) lv st h n ce sl Rp) : qX y d z cT sT pc lv (.int x :: .int a :: st) h n ce sl Rp := fun p l e R s m args below meth c Q b0 b D dA C hr H locs ls hA hl => lv_icmp_ge C.1 C.2.1 hd ht (fun q => kt q p l e R s m args below meth c Q b0 b D dA C hr H locs ls hA hl) (fun q => kf q p l e R s m args below meth c Q b0 b D dA C hr H locs ls hA hl)
theorem qx_if_gt {x : Int32} {off : Int} {t : Nat} (hd : decode y.2.1 pc = .ok (.ifCond .gt off, 3)) (ht : (pc : Int) + off = (t : Int)) (kt : 0 < x → qX y d z cT sT t lv st h n ce sl Rp) (kf : ¬ 0 < x → qX y d z cT sT (pc + 3) lv st h n ce sl Rp) : qX y d z cT sT pc lv (.int x :: st) h n ce sl Rp := fun p l e R s m args below meth c Q b0 b D dA C hr H locs ls hA hl => lv_if_gt C.1 C.2.1 hd ht (fun q => kt q p l e R s m args below meth c Q b0 b D dA C hr H locs ls hA hl) (fun q => kf q p l e R s m args below meth c Q b0 b D dA C hr H locs ls hA hl)
theorem qx_icmp_gt {a x : Int32} {off : Int} {t : Nat} (hd : decode y.2.1 pc = .ok (.if_icmp .gt off, 3)) (ht : (pc : Int) + off = (t : Int)) (kt : x < a → qX y d z cT sT t lv st h n ce sl Rp) (kf : ¬ x < a → qX y d z cT sT (pc + 3) lv st h n ce sl Rp) : qX y d z cT sT pc lv (.int x :: .int a :: st) h n ce sl Rp := fun p l e R s m args below meth c Q b0 b D dA C hr H locs ls hA hl => lv_icmp_gt C.1 C.2.1 hd ht (fun q => kt q p l e R s m args below meth c Q b0 b D dA C hr H locs ls hA hl) (fun q => kf q p l e R s m args below meth c Q b0 b D dA C hr H locs ls hA hl)
theorem qx_if_le {x : Int32} {off : Int} {t : Nat} (hd : decode y.2.1 pc = .ok (.ifCond .le off, 3)) (ht : (pc : Int) + off = (t : Int)) (kt : x ≤ 0 → qX y d z cT sT t lv st h n ce sl Rp) (kf : ¬ x ≤ 0 → qX y d z cT sT (pc + 3) lv st h n ce sl Rp) : qX y d z cT sT pc lv (.int x :: st) h n ce sl Rp := fun p l e R s m args below meth c Q b0 b D dA C hr H locs ls hA hl => lv_if_le C.1 C.2.1 hd ht (fun q => kt q p l e R s m args below meth c Q b0 b D dA C hr H locs ls hA hl) (fun q => kf q p l e R s m args below meth c Q b0 b D dA C hr H locs ls hA hl)
theorem qx_icmp_le {a x : Int32} {off : Int} {t : Nat} (hd : decode y.2.1 pc = .ok (.if_icmp .le off, 3)) (ht : (pc : Int) + off = (t : Int)) (kt : a ≤ x → qX y d z cT sT t lv st h n ce sl Rp) (kf : ¬ a ≤ x → qX y d z cT sT (pc + 3) lv st h n ce sl Rp) : qX y d z cT sT pc lv (.int x :: .int a :: st) h n ce sl Rp := fun p l e R s m args below meth c Q b0 b D dA C hr H locs ls hA hl => lv_icmp_le C.1 C.2.1 hd ht (fun q => kt q p l e R s m args below meth c Q b0 b D dA C hr H locs ls hA hl) (fun q => kf q p l e R s m args below meth c Q b0 b D dA C hr H locs ls hA hl)
theorem qx_goto {off : Int} {t : Nat} (hd : decode y.2.1 pc = .ok (.goto off, 3)) (ht : (pc : Int) + off = (t : Int)) (k : qX y d z cT sT t lv st h n ce sl Rp) : qX y d z cT sT pc lv st h n ce sl Rp := fun p l e R s m args below meth c Q b0 b D dA C hr H locs ls hA hl => lv_goto C.1 C.2.1 hd ht (k p l e R s m args below meth c Q b0 b D dA C hr H locs ls hA hl)
theorem qx_tabIn {df lo hi : Int} {offs : Array Int} {len : Nat} {x : Int32} {off : Int} {t : Nat} (hd : decode y.2.1 pc = .ok (.tableswitch df lo hi offs, len)) (h1 : ¬ x.toInt < lo) (h2 : ¬ hi < x.toInt) (ho : offs[(x.toInt - lo).toNat]? = some off) (ht : (pc : Int) + off = (t : Int)) (k : qX y d z cT sT t lv st h n ce sl Rp) : qX y d z cT sT pc lv (.int x :: st) h n ce sl Rp := fun p l e R s m args below meth c Q b0 b D dA C hr H locs ls hA hl => lv_tableIn C.1 C.2.1 hd h1 h2 ho ht (k p l e R s m args below meth c Q b0 b D dA C hr H locs ls hA hl)
theorem qx_tabOut {df lo hi : Int} {offs : Array Int} {len : Nat} {x : Int32} {t : Nat} (hd : decode y.2.1 pc = .ok (.tableswitch df lo hi offs, len)) (h1 : x.toInt < lo ∨ hi < x.toInt) (ht : (pc : Int) + df = (t : Int)) (k : qX y d z cT sT t lv st h n ce sl Rp) : qX y d z cT sT pc lv (.int x :: st) h n ce sl Rp := fun p l e R s m args below meth c Q b0 b D dA C hr H locs ls hA hl => lv_tableOut C.1 C.2.1 hd h1 ht (k p l e R s m args below meth c Q b0 b D dA C hr H locs ls hA hl)
theorem qx_look {df : Int} {ps : Array (Int × Int)} {len : Nat} {x : Int32} {off : Int} {t : Nat} (hd : decode y.2.1 pc = .ok (.lookupswitch df ps, len)) (hp : (ps.toList.zip (ps.toList.drop 1)).all (fun (a, next) => a.1 < next.1) = true) (ho : Op.lookupswitch.offset ps.toList df x.toInt = off) (ht : (pc : Int) + off = (t : Int)) (k : qX y d z cT sT t lv st h n ce sl Rp) : qX y d z cT sT pc lv (.int x :: st) h n ce sl Rp := fun p l e R s m args below meth c Q b0 b D dA C hr H locs ls hA hl => lv_lookup C.1 C.2.1 hd hp ho ht (k p l e R s m args below meth c Q b0 b D dA C hr H locs ls hA hl)
theorem qx_lv {lv1 : List Value} (hs : ∀ (i : Nat) (v : Value), lv1[i]? = some v → v ≠ qdead → lv[i]? = some v) (k : qX y d z cT sT pc lv1 st h n ce sl Rp) : qX y d z cT sT pc lv st h n ce sl Rp := by
  intro p l e R s m args below meth c Q b0 b D dA C hr H locs ls hA hl
  refine k p l e R s m args below meth c Q b0 b D dA C hr H locs ls hA (qL.mono hl fun q hq => ?_)
  obtain ⟨v, h1, h2, h3⟩ := qlvs_of hq
  obtain ⟨j, x⟩ := q
  dsimp only at h3
  subst h3
  exact qlvs_in (hs j v h1 h2) h2
def qless : List Value → List Value → Prop
  | [], _ => True
  | a :: l, b :: m => (a = qdead ∨ a = b) ∧ qless l m
  | a :: l, [] => a = qdead ∧ qless l []
theorem qless_at : ∀ (l m : List Value), qless l m → ∀ (i : Nat) (v : Value), l[i]? = some v → v ≠ qdead → m[i]? = some v
  | [], _, _, i, v, h, _ => by simp at h
  | a :: l, b :: m, hq, i, v, h, hd => by
    cases i with
    | zero =>
      simp only [List.getElem?_cons_zero] at h ⊢
      cases h
      rcases hq.1 with q | q
      · exact absurd q hd
      · rw [q]
    | succ i =>
      simp only [List.getElem?_cons_succ] at h ⊢
      exact qless_at l m hq.2 i v h hd
  | a :: l, [], hq, i, v, h, hd => by
    cases i with
    | zero =>
      simp only [List.getElem?_cons_zero] at h
      cases h
      exact absurd hq.1 hd
    | succ i =>
      simp only [List.getElem?_cons_succ] at h
      have := qless_at l [] hq.2 i v h hd
      simp at this
theorem qx_less {lv1 : List Value} (hs : qless lv1 lv) (k : qX y d z cT sT pc lv1 st h n ce sl Rp) : qX y d z cT sT pc lv st h n ce sl Rp := qx_lv (qless_at _ _ hs) k
theorem qx_eq {pc1 : Nat} {lv1 st1 : List Value} {h1 : qH} (e1 : pc1 = pc) (e2 : lv1 = lv) (e3 : st1 = st) (e4 : h1 = h) (k : qX y d z cT sT pc1 lv1 st1 h1 n ce sl Rp) : qX y d z cT sT pc lv st h n ce sl Rp := by subst e1; subst e2; subst e3; subst e4; exact k
theorem qx_imp {Rp1 : Option Value → qH → Nat → Prop} (hi : ∀ v h n, Rp1 v h n → Rp v h n) (k : qX y d z cT sT pc lv st h n ce sl Rp1) : qX y d z cT sT pc lv st h n ce sl Rp := fun p l e R s m args below meth c Q b0 b D dA C hr H locs ls hA hl => k p l e R s m args below meth c Q b0 b D dA C (fun H locs ls pc v h n q => hr H locs ls pc v h n (hi v h n q)) H locs ls hA hl
theorem qx_ret (hd : decode y.2.1 pc = .ok (.return_, 1)) (hy : y.2.2.2 = none) (hc : ce ≤ cT) (hs : sl ≤ sT) (hR : Rp none h n) : qX y d z cT sT pc lv [] h n ce sl Rp := fun p l e R s m args below meth c Q b0 b D dA C hr H locs ls hA hl => W.widen hc hs (hr H locs ls pc none h n hR hA (Or.inl ⟨hy, hd, rfl⟩))
theorem qx_iret {v : Int32} {ty : FieldType} (hd : decode y.2.1 pc = .ok (.ireturn, 1)) (hy : y.2.2.2 = some ty) (hv : narrow ty (.int v) = .int v) (hc : ce ≤ cT) (hs : sl ≤ sT) (hR : Rp (some (.int v)) h n) : qX y d z cT sT pc lv [.int v] h n ce sl Rp := fun p l e R s m args below meth c Q b0 b D dA C hr H locs ls hA hl => W.widen hc hs (hr H locs ls pc (some (.int v)) h n hR hA (Or.inr (Or.inl ⟨v, ty, hy, hd, hv, rfl⟩)))
theorem qx_lret {v : Int64} (hd : decode y.2.1 pc = .ok (.lreturn, 1)) (hy : y.2.2.2 = some .long) (hc : ce ≤ cT) (hs : sl ≤ sT) (hR : Rp (some (.long v)) h n) : qX y d z cT sT pc lv [.long v] h n ce sl Rp := fun p l e R s m args below meth c Q b0 b D dA C hr H locs ls hA hl => W.widen hc hs (hr H locs ls pc (some (.long v)) h n hR hA (Or.inr (Or.inr (Or.inl ⟨v, hy, hd, rfl⟩))))
theorem qx_aret {v : Nat} {ty : FieldType} (hd : decode y.2.1 pc = .ok (.areturn, 1)) (hy : y.2.2.2 = some ty) (ht : (∃ n, ty = .object n) ∨ ∃ t, ty = .array t) (hc : ce ≤ cT) (hs : sl ≤ sT) (hR : Rp (some (.ref v)) h n) : qX y d z cT sT pc lv [.ref v] h n ce sl Rp := fun p l e R s m args below meth c Q b0 b D dA C hr H locs ls hA hl => W.widen hc hs (hr H locs ls pc (some (.ref v)) h n hR hA (Or.inr (Or.inr (Or.inr ⟨v, ty, hy, ht, hd, rfl⟩))))
end QX
/-! heap: fields, arrays, new cells -/
theorem q_vpV {g : Nat → Value} {N j : Nat} (hj : j < N) : vp_V ((List.range N).map g) j = g j := by
  unfold vp_V
  rw [List.getD_eq_getElem?_getD, List.getElem?_map, List.getElem?_range hj]
  rfl
theorem q_fat {g : Nat → Value} {N j : Nat} (hj : j < N) : ((List.range N).map g)[j]? = some (g j) := by
  rw [List.getElem?_map, List.getElem?_range hj]
  rfl
theorem qA.put {b0 : Nat} {D : va_G} {dA : Nat → ClassId} {h h' : qH} {n a k : Nat} {s : State} {H H' : Heap} {locs : List Loc} (hA : qA b0 D dA h n s H locs) (ha : a < n) (hc : va_at D vwCl (b0 + a, qE b0 dA h' a) H') (ho : ∀ j, j ≠ a → h'.1 j = h.1 j ∧ h'.2.1 j = h.2.1 j ∧ h'.2.2 j = h.2.2 j) (hz : H'.size = H.size) (hq : ∀ q : Nat, q ≠ b0 + a → H'[q]? = H[q]?) : qA b0 D dA h' n s H' (locs ++ [⟨b0 + a, k⟩]) := by
  refine ⟨?_, hz.trans hA.2.1, va_S.put hA.2.2 hz hq (Nat.le_add_right _ _)⟩
  rw [← qW_set (h := h) rfl ho]
  exact va_P.set hA.1 qW_D (qW_at ha) hc hq
/-- a field's name in a class file: own's pool entry idx is field f of class number ci; fin: it is final -/
def qFl (own : String) (idx ci f : Nat) (fin : Bool) : Prop := f < qN ci ∧ ci < 20 ∧ ∃ (C : String) (T : u_T), vwCl[ci]? = some (C, T, qN ci) ∧ (∀ w ∈ u_ws C T (qN ci), w ∈ qGW) ∧ (∀ k, k < qN ci → parseFieldDescriptor (T k).2.2.1 = some (qFT ci k)) ∧ (∀ a, a < qN ci → ∀ b, b < qN ci → a ≠ b → (T a).2.1 ≠ (T b).2.1) ∧ (T f).1 = C ∧ (T f).2.2.2 = fin ∧ (Cond.fieldLink own idx C (T f).2.1 (T f).2.2.1 ∈ qGW ∨ ∃ host, (own, idx, C, (T f).2.1, (T f).2.2.1, host) ∈ qNF)
def qFlI (own : String) (idx ci f : Nat) (fin : Bool) : Prop := qFl own idx ci f fin ∧ ∀ b0 i l r, qV b0 (qFT ci f) i l r = .int i
def qFlL (own : String) (idx ci f : Nat) (fin : Bool) : Prop := qFl own idx ci f fin ∧ qFT ci f = .long
def qFlR (own : String) (idx ci f : Nat) (fin : Bool) : Prop := qFl own idx ci f fin ∧ (∀ b0 i l r, qV b0 (qFT ci f) i l r = va_rf (r.map (fun x => b0 + x))) ∧ ∀ x, narrow (qFT ci f) (.ref x) = .ref x ∧ fits (qFT ci f) (.ref x) = true
/-- a final field, put by its own class's constructor -/
def qFlF (own : String) (idx ci f : Nat) : Prop := f < qN ci ∧ ci < 20 ∧ ∃ (T : u_T), vwCl[ci]? = some (own, T, qN ci) ∧ (∀ w ∈ u_ws own T (qN ci), w ∈ qGW) ∧ (∀ k, k < qN ci → parseFieldDescriptor (T k).2.2.1 = some (qFT ci k)) ∧ (∀ a, a < qN ci → ∀ b, b < qN ci → a ≠ b → (T a).2.1 ≠ (T b).2.1) ∧ (T f).1 = own ∧ (T f).2.2.2 = true ∧ Cond.fieldLink own idx own (T f).2.1 (T f).2.2.1 ∈ qGW
def qFlRF (own : String) (idx ci f : Nat) : Prop := qFlF own idx ci f ∧ (∀ b0 i l r, qV b0 (qFT ci f) i l r = va_rf (r.map (fun x => b0 + x))) ∧ ∀ x, narrow (qFT ci f) (.ref x) = .ref x ∧ fits (qFT ci f) (.ref x) = true
section QY
variable {y : qMi} {d : Nat} {z : Option (Nat × (Nat → Int32))} {cT sT pc : Nat} {lv st : List Value} {h : qH} {n ce sl : Nat} {Rp : Option Value → qH → Nat → Prop}
theorem qx_get {a ci f x idx : Nat} {fin : Bool} {v : Value} (hd : decode y.2.1 pc = .ok (.getfield idx, 3)) (hf : qFl y.1.cls idx ci f fin) (hp : qPl a = (ci, x)) (ha : Nat.blt a n = true) (hv : ∀ b0 b, qV b0 (qFT ci f) (h.1 a f) (h.2.1 a f) (h.2.2 a f) = qrel b0 b v)
    (k : qX y d z cT sT (pc + 3) lv (v :: st) h n ce sl Rp) : qX y d z cT sT pc lv (.ref a :: st) h n ce sl Rp := by
  intro p l e R s m args below meth c Q b0 b D dA C hr H locs ls hA hl
  obtain ⟨hfN, hc20, C0, T, hc, hin, hty, hnm, hC, hfi, hlk⟩ := hf
  have he := qW_at (b0 := b0) (dA := dA) (h := h) (Nat.blt_eq.mp ha)
  rw [qE_obj hp hc20] at he
  have hfs := (q_fat (g := fun f => qV b0 (qFT ci f) (h.1 a f) (h.2.1 a f) (h.2.2 a f)) hfN).trans (congrArg some (hv b0 b))
  have hsame : ∀ x, s.fieldFound? (T f).1 (T f).2.1 (T f).2.2.1 = some x → s.fieldFound? C0 (T f).2.1 (T f).2.2.1 = some x := fun x q => by rw [hC] at q; exact q
  have kk := k p l e R s m args below meth c Q b0 b D dA C hr H locs ls hA hl
  rcases hlk with hlk | ⟨host, hlk⟩
  · exact va_get C.1 C.2.1 C.2.2.2.2.1 hin C.2.2.2.1 C.2.2.2.2.2.1.1 hA.1 a he hc f hfN (C.2.2.2.2.1 _ hlk) hsame hfs hd kk
  · exact va_getN C.1 C.2.1 C.2.2.2.2.1 hin C.2.2.2.1 C.2.2.2.2.2.1.1 hA.1 a he hc f hfN (va_Nw.use rfl (C.2.2.2.2.2.1.2.1 _ hlk)) hsame hfs hd kk
theorem qx_getI {a ci f x idx : Nat} {fin : Bool} {v : Int32} (hd : decode y.2.1 pc = .ok (.getfield idx, 3)) (hf : qFlI y.1.cls idx ci f fin) (hp : qPl a = (ci, x)) (ha : Nat.blt a n = true) (hv : h.1 a f = v)
    (k : qX y d z cT sT (pc + 3) lv (.int v :: st) h n ce sl Rp) : qX y d z cT sT pc lv (.ref a :: st) h n ce sl Rp := qx_get hd hf.1 hp ha (fun b0 b => by rw [hf.2, hv]; rfl) k
theorem qx_getL {a ci f x idx : Nat} {fin : Bool} {v : Int64} (hd : decode y.2.1 pc = .ok (.getfield idx, 3)) (hf : qFlL y.1.cls idx ci f fin) (hp : qPl a = (ci, x)) (ha : Nat.blt a n = true) (hv : h.2.1 a f = v)
    (k : qX y d z cT sT (pc + 3) lv (.long v :: st) h n ce sl Rp) : qX y d z cT sT pc lv (.ref a :: st) h n ce sl Rp := qx_get hd hf.1 hp ha (fun b0 b => by rw [hf.2, hv]; rfl) k
theorem qx_getR {a ci f x idx r : Nat} {fin : Bool} (hd : decode y.2.1 pc = .ok (.getfield idx, 3)) (hf : qFlR y.1.cls idx ci f fin) (hp : qPl a = (ci, x)) (ha : Nat.blt a n = true) (hv : h.2.2 a f = some r)
    (k : qX y d z cT sT (pc + 3) lv (.ref r :: st) h n ce sl Rp) : qX y d z cT sT pc lv (.ref a :: st) h n ce sl Rp := qx_get hd hf.1 hp ha (fun b0 b => by rw [hf.2.1, hv]; rfl) k
/-- a field is written -/
theorem qx_put {a ci f x idx : Nat} {h' : qH} {v : Value} (hd : decode y.2.1 pc = .ok (.putfield idx, 3)) (hf : qFl y.1.cls idx ci f false) (hp : qPl a = (ci, x)) (ha : Nat.blt a n = true)
    (hn : ∀ b0 b, narrow (qFT ci f) (qrel b0 b v) = qrel b0 b v ∧ fits (qFT ci f) (qrel b0 b v) = true) (ho : ∀ j, j ≠ a → h'.1 j = h.1 j ∧ h'.2.1 j = h.2.1 j ∧ h'.2.2 j = h.2.2 j)
    (hv : ∀ b0 b, qV b0 (qFT ci f) (h'.1 a f) (h'.2.1 a f) (h'.2.2 a f) = qrel b0 b v) (hw : ∀ j, j ≠ f → h'.1 a j = h.1 a j ∧ h'.2.1 a j = h.2.1 a j ∧ h'.2.2 a j = h.2.2 a j)
    (k : qX y d z cT sT (pc + 3) lv st h' n ce sl Rp) : qX y d z cT sT pc lv (v :: .ref a :: st) h n ce sl Rp := by
  intro p l e R s m args below meth c Q b0 b D dA C hr H locs ls hA hl
  obtain ⟨hfN, hc20, C0, T, hc, hin, hty, hnm, hC, hfi, hlk⟩ := hf
  have ha' := Nat.blt_eq.mp ha
  have he := qW_at (b0 := b0) (dA := dA) (h := h) ha'
  rw [qE_obj hp hc20] at he
  have hts := C.2.2.2.2.1
  have hap := va_apart (own := y.1.cls) hts hin (qFT ci) hty hnm C.2.2.2.2.2.1.1 hc
  have hsame : ∀ x, s.fieldFound? (T f).1 (T f).2.1 (T f).2.2.1 = some x → s.fieldFound? C0 (T f).2.1 (T f).2.2.1 = some x := fun x q => by rw [hC] at q; exact q
  obtain ⟨r, h1, cell, q1, q2, q3, q4⟩ := hA.1 a _ he
  have hr' : r = (C0, T, qN ci) := Option.some.inj (h1.symm.trans hc)
  subst hr'
  obtain ⟨hSl, hfc, kC, hkC, hkind⟩ := C.2.2.2.2.2.1.1.1 ci _ hc
  obtain ⟨cf, kf, fi, fd, hi, hsl⟩ := hSl f hfN
  have hlay := hts _ (hin _ (u_in_lay hfN))
  unfold u_lay at hlay
  rw [if_neg (by rw [hfi]; decide)] at hlay
  have hst := (u_facts hfc hkC (u_lays hts hin hfN) hi).1
  have h6 := u_store hfc hkC hkind hlay hi (hty f hfN) (hn b0 b).1 (hn b0 b).2
  have fin : ∀ H' : Heap, H'[b0 + a]? = some (cell.setSlot fd.slot (qrel b0 b v)) → H'.size = H.size → (∀ q : Nat, q ≠ b0 + a → H'[q]? = H[q]?) → qA b0 D dA h' n s H' (locs ++ [⟨b0 + a, fd.slot⟩]) := by
    intro H' e1 e2 e3
    refine hA.put ha' ?_ ho e2 e3
    rw [qE_obj hp hc20]
    rw [hsl] at e1
    refine ⟨_, hc, t_OB.to (V := updV (vp_V ((List.range (qN ci)).map (fun f => qV b0 (qFT ci f) (h.1 a f) (h.2.1 a f) (h.2.2 a f)))) f (qrel b0 b v)) ⟨_, e1, q2, q3, t_set q4 hap hfN (qrel b0 b v)⟩ (fun j hj => ?_)⟩
    rw [q_vpV hj]
    by_cases hjf : j = f
    · subst hjf
      simp only [updV, if_true]
      exact (hv b0 b).symm
    · simp only [updV, if_neg hjf]
      rw [q_vpV hj]
      obtain ⟨w1, w2, w3⟩ := hw j hjf
      rw [w1, w2, w3]
  rcases hlk with hlk | ⟨host, hlk⟩
  · exact W.putK C.1 C.2.1 (f := fd) ⟨C.2.2.2.1, hts _ hlk, ⟨_, _, _, hsame _ hi⟩, hst⟩ (by rw [q2]; exact h6) q1 q3 (by rw [hsl]; exact k2_hasslot (q4 f hfN)) rfl rfl hd fun H' e1 e2 e3 => k p l e R s m args below meth c Q b0 b D dA C hr H' _ ls (fin H' e1 e2 e3) hl
  · exact va_WputK C.1 C.2.1 (f := fd) C.2.2.2.1 (va_Nw.use rfl (C.2.2.2.2.2.1.2.1 _ hlk)) (hsame _ hi) hst (by rw [q2]; exact h6) q1 q3 (by rw [hsl]; exact k2_hasslot (q4 f hfN)) rfl rfl hd fun H' e1 e2 e3 => k p l e R s m args below meth c Q b0 b D dA C hr H' _ ls (fin H' e1 e2 e3) hl
theorem qx_putF {a ci f x idx : Nat} {h' : qH} {v : Value} (hd : decode y.2.1 pc = .ok (.putfield idx, 3)) (hf : qFlF y.1.cls idx ci f) (hy : y.1.name = "<init>") (hp : qPl a = (ci, x)) (ha : Nat.blt a n = true)
    (hn : ∀ b0 b, narrow (qFT ci f) (qrel b0 b v) = qrel b0 b v ∧ fits (qFT ci f) (qrel b0 b v) = true) (ho : ∀ j, j ≠ a → h'.1 j = h.1 j ∧ h'.2.1 j = h.2.1 j ∧ h'.2.2 j = h.2.2 j)
    (hv : ∀ b0 b, qV b0 (qFT ci f) (h'.1 a f) (h'.2.1 a f) (h'.2.2 a f) = qrel b0 b v) (hw : ∀ j, j ≠ f → h'.1 a j = h.1 a j ∧ h'.2.1 a j = h.2.1 a j ∧ h'.2.2 a j = h.2.2 a j)
    (k : qX y d z cT sT (pc + 3) lv st h' n ce sl Rp) : qX y d z cT sT pc lv (v :: .ref a :: st) h n ce sl Rp := by
  intro p l e R s m args below meth c Q b0 b D dA C hr H locs ls hA hl
  obtain ⟨hfN, hc20, T, hc, hin, hty, hnm, hC, hfi, hlk⟩ := hf
  have ha' := Nat.blt_eq.mp ha
  have he := qW_at (b0 := b0) (dA := dA) (h := h) ha'
  rw [qE_obj hp hc20] at he
  have hts := C.2.2.2.2.1
  have hap := va_apart (own := y.1.cls) hts hin (qFT ci) hty hnm C.2.2.2.2.2.1.1 hc
  have hsame : ∀ x, s.fieldFound? (T f).1 (T f).2.1 (T f).2.2.1 = some x → s.fieldFound? y.1.cls (T f).2.1 (T f).2.2.1 = some x := fun x q => by rw [hC] at q; exact q
  obtain ⟨r, h1, cell, q1, q2, q3, q4⟩ := hA.1 a _ he
  have hr' : r = (y.1.cls, T, qN ci) := Option.some.inj (h1.symm.trans hc)
  subst hr'
  obtain ⟨hSl, hfc, kC, hkC, hkind⟩ := C.2.2.2.2.2.1.1.1 ci _ hc
  obtain ⟨cf, kf, fi, fd, hi, hsl⟩ := hSl f hfN
  have hlay := hts _ (hin _ (u_in_lay hfN))
  unfold u_lay at hlay
  rw [if_pos hfi] at hlay
  have hst := (u_facts hfc hkC (u_lays hts hin hfN) hi).1
  have hcf : m.cls = cf := by
    obtain ⟨_, _, c', _, _, _, -, -, hf', -, -, -, hown2, -⟩ := Cond.laysFinal_spec hlay
    have e1 : c' = cf := by have := hi.symm.trans hf'; simp at this; exact this.1.symm
    rw [hC] at hown2
    rw [← e1]; exact Option.some.inj (C.2.2.2.1.symm.trans hown2)
  have h6 := u_fits hfc hkC hkind (Or.inr hlay) hi (hty f hfN) (hn b0 b).1 (hn b0 b).2
  have fin : ∀ H' : Heap, H'[b0 + a]? = some (cell.setSlot fd.slot (qrel b0 b v)) → H'.size = H.size → (∀ q : Nat, q ≠ b0 + a → H'[q]? = H[q]?) → qA b0 D dA h' n s H' (locs ++ [⟨b0 + a, fd.slot⟩]) := by
    intro H' e1 e2 e3
    refine hA.put ha' ?_ ho e2 e3
    rw [qE_obj hp hc20]
    rw [hsl] at e1
    refine ⟨_, hc, t_OB.to (V := updV (vp_V ((List.range (qN ci)).map (fun f => qV b0 (qFT ci f) (h.1 a f) (h.2.1 a f) (h.2.2 a f)))) f (qrel b0 b v)) ⟨_, e1, q2, q3, t_set q4 hap hfN (qrel b0 b v)⟩ (fun j hj => ?_)⟩
    rw [q_vpV hj]
    by_cases hjf : j = f
    · subst hjf
      simp only [updV, if_true]
      exact (hv b0 b).symm
    · simp only [updV, if_neg hjf]
      rw [q_vpV hj]
      obtain ⟨w1, w2, w3⟩ := hw j hjf
      rw [w1, w2, w3]
  exact W.putFinK C.1 C.2.1 C.2.2.2.1 (hts _ hlk) (hsame _ hi) hst hcf (C.2.2.2.2.2.2.2.2.1.trans hy) (by rw [q2]; exact h6) q1 q3 (by rw [hsl]; exact k2_hasslot (q4 f hfN)) rfl rfl hd fun H' e1 e2 e3 => k p l e R s m args below meth c Q b0 b D dA C hr H' _ ls (fin H' e1 e2 e3) hl
theorem qx_putI {a ci f x idx : Nat} {v : Int32} (hd : decode y.2.1 pc = .ok (.putfield idx, 3)) (hf : qFlI y.1.cls idx ci f false) (hp : qPl a = (ci, x)) (ha : Nat.blt a n = true) (hn : narrow (qFT ci f) (.int v) = .int v ∧ fits (qFT ci f) (.int v) = true)
    (k : qX y d z cT sT (pc + 3) lv st (qpI h a f v) n ce sl Rp) : qX y d z cT sT pc lv (.int v :: .ref a :: st) h n ce sl Rp :=
  qx_put (h' := qpI h a f v) hd hf.1 hp ha (fun _ _ => hn) (qpI_o h a f v) (fun b0 b => by rw [hf.2, qpI_1, qus]; rfl) (fun j hj => ⟨by rw [qpI_1, qun hj], rfl, rfl⟩) k
theorem qx_putL {a ci f x idx : Nat} {v : Int64} (hd : decode y.2.1 pc = .ok (.putfield idx, 3)) (hf : qFlL y.1.cls idx ci f false) (hp : qPl a = (ci, x)) (ha : Nat.blt a n = true)
    (k : qX y d z cT sT (pc + 3) lv st (qpL h a f v) n ce sl Rp) : qX y d z cT sT pc lv (.long v :: .ref a :: st) h n ce sl Rp :=
  qx_put (h' := qpL h a f v) hd hf.1 hp ha (fun _ _ => by rw [hf.2]; exact ⟨rfl, rfl⟩) (qpL_o h a f v) (fun b0 b => by rw [hf.2, qpL_1, qus]; rfl) (fun j hj => ⟨rfl, by rw [qpL_1, qun hj], rfl⟩) k
theorem qx_putR {a ci f x idx r : Nat} (hd : decode y.2.1 pc = .ok (.putfield idx, 3)) (hf : qFlR y.1.cls idx ci f false) (hp : qPl a = (ci, x)) (ha : Nat.blt a n = true)
    (k : qX y d z cT sT (pc + 3) lv st (qpR h a f (some r)) n ce sl Rp) : qX y d z cT sT pc lv (.ref r :: .ref a :: st) h n ce sl Rp :=
  qx_put (h' := qpR h a f (some r)) hd hf.1 hp ha (fun b0 _ => hf.2.2 (b0 + r)) (qpR_o h a f (some r)) (fun b0 b => by rw [hf.2.1, qpR_1, qus]; rfl) (fun j hj => ⟨rfl, rfl, by rw [qpR_1, qun hj]⟩) k
theorem qx_putRF {a ci f x idx r : Nat} (hd : decode y.2.1 pc = .ok (.putfield idx, 3)) (hf : qFlRF y.1.cls idx ci f) (hy : y.1.name = "<init>") (hp : qPl a = (ci, x)) (ha : Nat.blt a n = true)
    (k : qX y d z cT sT (pc + 3) lv st (qpR h a f (some r)) n ce sl Rp) : qX y d z cT sT pc lv (.ref r :: .ref a :: st) h n ce sl Rp :=
  qx_putF (h' := qpR h a f (some r)) hd hf.1 hy hp ha (fun b0 _ => hf.2.2 (b0 + r)) (qpR_o h a f (some r)) (fun b0 b => by rw [hf.2.1, qpR_1, qus]; rfl) (fun j hj => ⟨rfl, rfl, by rw [qpR_1, qun hj]⟩) k
end QY
/-! arrays -/
section QZ
variable {y : qMi} {d : Nat} {z : Option (Nat × (Nat → Int32))} {cT sT pc : Nat} {lv st : List Value} {h : qH} {n ce sl : Nat} {Rp : Option Value → qH → Nat → Prop}
theorem q_in {i : Int32} {j N : Nat} (hi : i = nI j) (hj : j < N) (hN : N < 2 ^ 31) : vp_in i N ∧ i.toNatClampNeg = j := by
  subst hi
  exact ⟨vp_in_nI hj hN, nI_clamp (Nat.lt_trans hj hN)⟩
theorem qx_iald {a N j : Nat} {i v : Int32} (hd : decode y.2.1 pc = .ok (.iaload, 1)) (hp : qPl a = (20, N)) (ha : Nat.blt a n = true) (hN : Nat.blt N 1000 = true) (hi : i = nI j) (hj : j < N) (hv : h.1 a j = v)
    (k : qX y d z cT sT (pc + 1) lv (.int v :: st) h n ce sl Rp) : qX y d z cT sT pc lv (.int i :: .ref a :: st) h n ce sl Rp := by
  intro p l e R s m args below meth c Q b0 b D dA C hr H locs ls hA hl
  have hN' := Nat.blt_eq.mp hN
  obtain ⟨h1, h2⟩ := q_in hi hj (by omega)
  have he := qW_at (b0 := b0) (dA := dA) (h := h) (Nat.blt_eq.mp ha)
  rw [qE_int hp] at he
  subst hv
  refine va_iald C.1 C.2.1 C.2.2.2.2.2.1.1 hA.1 a 0 he rfl h1 hd ?_
  rw [h2]
  exact k p l e R s m args below meth c Q b0 b D dA C hr H locs ls hA hl
theorem qx_zald {a N j : Nat} {i v : Int32} (hd : decode y.2.1 pc = .ok (.baload, 1)) (hp : qPl a = (22, N)) (ha : Nat.blt a n = true) (hN : Nat.blt N 1000 = true) (hi : i = nI j) (hj : j < N) (hv : h.1 a j = v)
    (k : qX y d z cT sT (pc + 1) lv (.int v :: st) h n ce sl Rp) : qX y d z cT sT pc lv (.int i :: .ref a :: st) h n ce sl Rp := by
  intro p l e R s m args below meth c Q b0 b D dA C hr H locs ls hA hl
  have hN' := Nat.blt_eq.mp hN
  obtain ⟨h1, h2⟩ := q_in hi hj (by omega)
  have he := qW_at (b0 := b0) (dA := dA) (h := h) (Nat.blt_eq.mp ha)
  rw [qE_bool hp] at he
  subst hv
  refine va_zald C.1 C.2.1 C.2.2.2.2.2.1.1 hA.1 a 2 he rfl h1 hd ?_
  rw [h2]
  exact k p l e R s m args below meth c Q b0 b D dA C hr H locs ls hA hl
theorem qx_lald {a N j : Nat} {i : Int32} {v : Int64} (hd : decode y.2.1 pc = .ok (.laload, 1)) (hp : qPl a = (21, N)) (ha : Nat.blt a n = true) (hN : Nat.blt N 1000 = true) (hi : i = nI j) (hj : j < N) (hv : h.2.1 a j = v)
    (k : qX y d z cT sT (pc + 1) lv (.long v :: st) h n ce sl Rp) : qX y d z cT sT pc lv (.int i :: .ref a :: st) h n ce sl Rp := by
  intro p l e R s m args below meth c Q b0 b D dA C hr H locs ls hA hl
  have hN' := Nat.blt_eq.mp hN
  obtain ⟨h1, h2⟩ := q_in hi hj (by omega)
  have he := qW_at (b0 := b0) (dA := dA) (h := h) (Nat.blt_eq.mp ha)
  rw [qE_long hp] at he
  subst hv
  refine va_lald C.1 C.2.1 C.2.2.2.2.2.1.1 hA.1 a 1 he rfl h1 hd ?_
  rw [h2]
  exact k p l e R s m args below meth c Q b0 b D dA C hr H locs ls hA hl
theorem qx_aald {a N j t r : Nat} {C0 : String} {i : Int32} (hd : decode y.2.1 pc = .ok (.aaload, 1)) (hp : qPl a = (23 + t, N)) (ht : ∀ dA : Nat → ClassId, (qTys dA)[3 + t]? = some (dA (3 + t), .object C0)) (ha : Nat.blt a n = true) (hN : Nat.blt N 1000 = true) (hi : i = nI j) (hj : j < N) (hv : h.2.2 a j = some r)
    (k : qX y d z cT sT (pc + 1) lv (.ref r :: st) h n ce sl Rp) : qX y d z cT sT pc lv (.int i :: .ref a :: st) h n ce sl Rp := by
  intro p l e R s m args below meth c Q b0 b D dA C hr H locs ls hA hl
  have hN' := Nat.blt_eq.mp hN
  obtain ⟨h1, h2⟩ := q_in hi hj (by omega)
  have he := qW_at (b0 := b0) (dA := dA) (h := h) (Nat.blt_eq.mp ha)
  rw [qE_ref hp] at he
  refine va_aldq C.1 C.2.1 C.2.2.2.2.2.1.1 hA.1 a (3 + t) he (ht dA) h1 hd ?_
  rw [h2, hv]
  exact k p l e R s m args below meth c Q b0 b D dA C hr H locs ls hA hl
theorem qx_alenI {a N : Nat} {v : Int32} (hd : decode y.2.1 pc = .ok (.arraylength, 1)) (hp : qPl a = (20, N)) (ha : Nat.blt a n = true) (hv : Int32.ofNat N = v)
    (k : qX y d z cT sT (pc + 1) lv (.int v :: st) h n ce sl Rp) : qX y d z cT sT pc lv (.ref a :: st) h n ce sl Rp := by
  intro p l e R s m args below meth c Q b0 b D dA C hr H locs ls hA hl
  have he := qW_at (b0 := b0) (dA := dA) (h := h) (Nat.blt_eq.mp ha)
  rw [qE_int hp] at he
  exact va_alen C.1 C.2.1 C.2.2.2.2.2.1.1 hA.1 a 0 he rfl hv hd (k p l e R s m args below meth c Q b0 b D dA C hr H locs ls hA hl)
theorem qx_alenR {a N t : Nat} {C0 : String} {v : Int32} (hd : decode y.2.1 pc = .ok (.arraylength, 1)) (hp : qPl a = (23 + t, N)) (ht : ∀ dA : Nat → ClassId, (qTys dA)[3 + t]? = some (dA (3 + t), .object C0)) (ha : Nat.blt a n = true) (hv : Int32.ofNat N = v)
    (k : qX y d z cT sT (pc + 1) lv (.int v :: st) h n ce sl Rp) : qX y d z cT sT pc lv (.ref a :: st) h n ce sl Rp := by
  intro p l e R s m args below meth c Q b0 b D dA C hr H locs ls hA hl
  have he := qW_at (b0 := b0) (dA := dA) (h := h) (Nat.blt_eq.mp ha)
  rw [qE_ref hp] at he
  exact va_alen C.1 C.2.1 C.2.2.2.2.2.1.1 hA.1 a (3 + t) he (ht dA) hv hd (k p l e R s m args below meth c Q b0 b D dA C hr H locs ls hA hl)
theorem qx_iast {a N j : Nat} {i v : Int32} (hd : decode y.2.1 pc = .ok (.iastore, 1)) (hp : qPl a = (20, N)) (ha : Nat.blt a n = true) (hN : Nat.blt N 1000 = true) (hi : i = nI j) (hj : j < N)
    (k : qX y d z cT sT (pc + 1) lv st (qpI h a j v) n ce sl Rp) : qX y d z cT sT pc lv (.int v :: .int i :: .ref a :: st) h n ce sl Rp := by
  intro p l e R s m args below meth c Q b0 b D dA C hr H locs ls hA hl
  have hN' := Nat.blt_eq.mp hN
  have ha' := Nat.blt_eq.mp ha
  obtain ⟨h1, h2⟩ := q_in hi hj (by omega)
  have he := qW_at (b0 := b0) (dA := dA) (h := h) ha'
  rw [qE_int hp] at he
  refine W.iast C.1 C.2.1 (hA.1 a _ he) ((C.2.2.2.2.2.1.1.2 0 _ rfl).1 N (fun j => .int (h.1 a j))) (fun q => by cases q) (by show ¬ (i < 0 ∨ (arrV _ _ _).slots.size ≤ _); rw [arrV_size]; exact h1) rfl rfl hd fun H1 e1 e2 e3 => ?_
  rw [h2] at e1 ⊢
  refine k p l e R s m args below meth c Q b0 b D dA C hr H1 _ ls (hA.put (h' := qpI h a j v) ha' ?_ (qpI_o h a j v) e2 e3) hl
  rw [qE_int hp, qpI_1]
  show H1[b0 + a]? = some (vp_cell _ _)
  rw [e1]
  rw [vp_cell_i, vp_cell_i, arrV_store]
  congr 2
  funext q
  by_cases hq : q = j
  · subst hq
    simp [updV, va_up]
  · simp [updV, va_up, hq]
theorem qx_zast {a N j : Nat} {i v : Int32} (hd : decode y.2.1 pc = .ok (.bastore, 1)) (hp : qPl a = (22, N)) (ha : Nat.blt a n = true) (hN : Nat.blt N 1000 = true) (hi : i = nI j) (hj : j < N) (hv : narrow .boolean (.int v) = .int v)
    (k : qX y d z cT sT (pc + 1) lv st (qpI h a j v) n ce sl Rp) : qX y d z cT sT pc lv (.int v :: .int i :: .ref a :: st) h n ce sl Rp := by
  intro p l e R s m args below meth c Q b0 b D dA C hr H locs ls hA hl
  have hN' := Nat.blt_eq.mp hN
  have ha' := Nat.blt_eq.mp ha
  obtain ⟨h1, h2⟩ := q_in hi hj (by omega)
  have he := qW_at (b0 := b0) (dA := dA) (h := h) ha'
  rw [qE_bool hp] at he
  refine W.zast C.1 C.2.1 (hA.1 a _ he) ((C.2.2.2.2.2.1.1.2 2 _ rfl).1 N (fun j => .int (h.1 a j))) (fun q => by cases q) (by show ¬ (i < 0 ∨ (arrV _ _ _).slots.size ≤ _); rw [arrV_size]; exact h1) rfl rfl hd fun H1 e1 e2 e3 => ?_
  rw [h2] at e1 ⊢
  rw [hv] at e1
  refine k p l e R s m args below meth c Q b0 b D dA C hr H1 _ ls (hA.put (h' := qpI h a j v) ha' ?_ (qpI_o h a j v) e2 e3) hl
  rw [qE_bool hp, qpI_1]
  show H1[b0 + a]? = some (vp_cell _ _)
  rw [e1]
  rw [vp_cell_i, vp_cell_i, arrV_store]
  congr 2
  funext q
  by_cases hq : q = j
  · subst hq
    simp [updV, va_up]
  · simp [updV, va_up, hq]
theorem qx_last {a N j : Nat} {i : Int32} {v : Int64} (hd : decode y.2.1 pc = .ok (.lastore, 1)) (hp : qPl a = (21, N)) (ha : Nat.blt a n = true) (hN : Nat.blt N 1000 = true) (hi : i = nI j) (hj : j < N)
    (k : qX y d z cT sT (pc + 1) lv st (qpL h a j v) n ce sl Rp) : qX y d z cT sT pc lv (.long v :: .int i :: .ref a :: st) h n ce sl Rp := by
  intro p l e R s m args below meth c Q b0 b D dA C hr H locs ls hA hl
  have hN' := Nat.blt_eq.mp hN
  have ha' := Nat.blt_eq.mp ha
  obtain ⟨h1, h2⟩ := q_in hi hj (by omega)
  have he := qW_at (b0 := b0) (dA := dA) (h := h) ha'
  rw [qE_long hp] at he
  refine W.last C.1 C.2.1 (hA.1 a _ he) ((C.2.2.2.2.2.1.1.2 1 _ rfl).1 N (fun j => .long (h.2.1 a j))) (fun q => by cases q) (by show ¬ (i < 0 ∨ (arrV _ _ _).slots.size ≤ _); rw [arrV_size]; exact h1) rfl rfl hd fun H1 e1 e2 e3 => ?_
  rw [h2] at e1 ⊢
  refine k p l e R s m args below meth c Q b0 b D dA C hr H1 _ ls (hA.put (h' := qpL h a j v) ha' ?_ (qpL_o h a j v) e2 e3) hl
  rw [qE_long hp, qpL_1]
  show H1[b0 + a]? = some (vp_cell _ _)
  rw [e1]
  rw [vp_cell_l, vp_cell_l, arrV_store]
  congr 2
  funext q
  by_cases hq : q = j
  · subst hq
    simp [updV, va_up]
  · simp [updV, va_up, hq]
/-- a reference into an array of them: the array's component is the class of the object -/
theorem qx_aast {a N j t r ci x : Nat} {C0 : String} {T0 : u_T} {N0 : Nat} {i : Int32} (hd : decode y.2.1 pc = .ok (.aastore, 1)) (hp : qPl a = (23 + t, N)) (ht : ∀ dA : Nat → ClassId, (qTys dA)[3 + t]? = some (dA (3 + t), .object C0)) (ha : Nat.blt a n = true) (hN : Nat.blt N 1000 = true) (hi : i = nI j) (hj : j < N)
    (hr0 : qPl r = (ci, x)) (hci : ci < 20) (hc : vwCl[ci]? = some (C0, T0, N0)) (hrn : Nat.blt r n = true)
    (k : qX y d z cT sT (pc + 1) lv st (qpR h a j (some r)) n ce sl Rp) : qX y d z cT sT pc lv (.ref r :: .int i :: .ref a :: st) h n ce sl Rp := by
  intro p l e R s m args below meth c Q b0 b D dA C hr H locs ls hA hl
  have hN' := Nat.blt_eq.mp hN
  have ha' := Nat.blt_eq.mp ha
  obtain ⟨h1, h2⟩ := q_in hi hj (by omega)
  have he := qW_at (b0 := b0) (dA := dA) (h := h) ha'
  rw [qE_ref hp] at he
  have hv := qW_at (b0 := b0) (dA := dA) (h := h) (Nat.blt_eq.mp hrn)
  rw [qE_obj hr0 hci] at hv
  have hlt : i.toNatClampNeg < N := Nat.not_le.mp fun q => h1 (Or.inr q)
  have h0 : ¬ i < 0 := fun q => h1 (Or.inl q)
  obtain ⟨r', hr', cellV, g1, g2, g3, -⟩ := hA.1 r _ hv
  have hcls := (C.2.2.2.2.2.1.1.1 ci _ hc).2
  obtain ⟨kA, comp, k1, k2, k3, -⟩ := (C.2.2.2.2.2.1.1.2 (3 + t) _ (ht dA)).2
  have hcomp : comp = D.1 ci := Option.some.inj (k3.symm.trans hcls.1)
  subst hcomp
  obtain ⟨kC, hkC, -⟩ := hcls.2
  refine W.aast C.1 C.2.1 (hA.1 a _ he) (fun q h => by cases h) (fun h => by cases h) k1 k2 rfl hkC ⟨h0, by show _ < (arrV _ _ _).slots.size; rw [arrV_size]; exact hlt⟩ g1 (fun q h => by rw [g3] at h; cases h) (by rw [g2]; exact hkC) (by rw [g2]; exact va_assign hcls) rfl rfl hd fun H1 e1 e2 e3 => ?_
  rw [h2] at e1 ⊢
  refine k p l e R s m args below meth c Q b0 b D dA C hr H1 _ ls (hA.put (h' := qpR h a j (some r)) ha' ?_ (qpR_o h a j (some r)) e2 e3) hl
  rw [qE_ref hp, qpR_1]
  show H1[b0 + a]? = some (vp_cell _ _)
  rw [e1]
  rw [vp_cell_q, vp_cell_q, arrV_store]
  congr 2
  funext q
  by_cases hq : q = j
  · subst hq
    simp [updV, va_up, va_rf]
  · simp [updV, va_up, hq]
/-- the law's script -/
theorem qx_sld {L j : Nat} {xs : Nat → Int32} {i : Int32} {w : Nat} (hz : z = some (L, xs)) (hd : decode y.2.1 pc = .ok (.iaload, 1)) (hL : L < 2 ^ 31) (hi : i = nI j) (hj : j < L)
    (k : qX y d z cT sT (pc + 1) lv (.int (xs j) :: st) h n ce sl Rp) : qX y d z cT sT pc lv (.int i :: .retAddr w :: st) h n ce sl Rp := by
  intro p l e R s m args below meth c Q b0 b D dA C hr H locs ls hA hl
  obtain ⟨h1, h2⟩ := q_in hi hj hL
  subst hz
  obtain ⟨hX, hb⟩ := C.2.2.2.2.2.2.2.2.2
  refine va_sld (A := fun q => b0 ≤ q) C.1 C.2.1 hX (Nat.lt_of_lt_of_le hb C.2.2.2.2.2.2.2.1) (Nat.not_le.mpr hb) hA.2.2 h1 hd ?_
  rw [h2]
  exact k p l e R s m args below meth c Q b0 b D dA C hr H locs ls hA hl
theorem qx_slen {L : Nat} {xs : Nat → Int32} {w : Nat} (hz : z = some (L, xs)) (hd : decode y.2.1 pc = .ok (.arraylength, 1))
    (k : qX y d z cT sT (pc + 1) lv (.int (nI L) :: st) h n ce sl Rp) : qX y d z cT sT pc lv (.retAddr w :: st) h n ce sl Rp := by
  intro p l e R s m args below meth c Q b0 b D dA C hr H locs ls hA hl
  subst hz
  obtain ⟨hX, hb⟩ := C.2.2.2.2.2.2.2.2.2
  exact va_slen (A := fun q => b0 ≤ q) C.1 C.2.1 hX (Nat.lt_of_lt_of_le hb C.2.2.2.2.2.2.2.1) (Nat.not_le.mpr hb) hA.2.2 hd (k p l e R s m args below meth c Q b0 b D dA C hr H locs ls hA hl)
end QZ
/-! new cells -/
theorem qW_succ {b0 : Nat} {dA : Nat → ClassId} {h : qH} {n : Nat} : qW b0 dA h (n + 1) = qW b0 dA h n ++ [(b0 + n, qE b0 dA h n)] := by
  simp [qW, List.range_succ]
theorem qA.push {b0 : Nat} {D : va_G} {dA : Nat → ClassId} {h : qH} {n : Nat} {s : State} {H H' : Heap} {locs : List Loc} (hA : qA b0 D dA h n s H locs) (hc : va_at D vwCl (b0 + n, qE b0 dA h n) H') (hz : H'.size = b0 + n + 1) (hq : ∀ q : Nat, q < b0 + n → H'[q]? = H[q]?) : qA b0 D dA h (n + 1) s H' locs := by
  have hs := hA.2.1
  have hS := hA.2.2
  refine ⟨?_, hz, ⟨Nat.le_trans hS.1 (by omega), fun q h1 h2 => ?_, hS.2.2⟩⟩
  · rw [qW_succ]
    refine va_P.app (va_P.kept hA.1 (fun k q hk => hq _ ?_)) (fun k q hk => ?_)
    · rw [← hs]
      exact (hA.1 k q hk).lt
    · have hk1 : k < 1 := (List.getElem?_eq_some_iff.mp hk).1
      have hk0 : k = 0 := by omega
      subst hk0
      cases hk
      exact hc
  · rw [hq q (by rw [← hs]; exact Nat.lt_of_lt_of_le h1 hS.1)]
    exact hS.2.1 q h1 h2
theorem q_dv {b0 : Nat} {ty : FieldType} (h1 : ty ≠ .float) (h2 : ty ≠ .double) : defaultValue ty = qV b0 ty 0 0 none := by
  cases ty <;> first | rfl | exact absurd rfl h1 | exact absurd rfl h2
/-- a class that is made: own's pool entry idx is class number ci -/
def qNw (own : String) (idx ci : Nat) : Prop := ci < 20 ∧ ∃ (C : String) (T : u_T), vwCl[ci]? = some (C, T, qN ci) ∧ (∀ w ∈ u_ws C T (qN ci), w ∈ qGW) ∧ (∀ k, k < qN ci → parseFieldDescriptor (T k).2.2.1 = some (qFT ci k)) ∧ (∀ k, k < qN ci → qFT ci k ≠ .float ∧ qFT ci k ≠ .double) ∧ Cond.classLink own idx C ∈ qGW ∧ Cond.instantiable C (qN ci) ∈ qGW ∧ Cond.initialized C ∈ qGW
section QN
variable {y : qMi} {d : Nat} {z : Option (Nat × (Nat → Int32))} {cT sT pc : Nat} {lv st : List Value} {h : qH} {n ce sl : Nat} {Rp : Option Value → qH → Nat → Prop}
theorem qx_new {ci x idx : Nat} (hd : decode y.2.1 pc = .ok (.new idx, 3)) (hw : qNw y.1.cls idx ci) (hp : qPl n = (ci, x)) (hz : ∀ j, h.1 n j = 0 ∧ h.2.1 n j = 0 ∧ h.2.2 n j = none) (hce : ce + 1 ≤ cT) (hsl : sl + qN ci ≤ sT)
    (k : qX y d z cT sT (pc + 3) lv (.ref n :: st) h (n + 1) (ce + 1) (sl + qN ci) Rp) : qX y d z cT sT pc lv st h n ce sl Rp := by
  intro p l e R s m args below meth c Q b0 b D dA C hr H locs ls hA hl
  obtain ⟨hc20, C0, T, hc, hin, hty, hnf, hcl, hins, hini⟩ := hw
  have hts := C.2.2.2.2.1
  obtain ⟨-, -, hRc, hRs⟩ := C.2.2.2.2.2.2.1
  have hKn := C.2.2.2.2.2.1.1.1 ci _ hc
  refine W.newcK C.1 C.2.1 C.2.2.2.1 (hts _ hcl) (hts _ hins) (hts _ hini) rfl hd (by omega) (by omega) hKn.2.1 hA.2.1 fun H1 kC hkC e1 z1 o1 => ?_
  refine k p l e R s m args below meth c Q b0 b D dA C hr H1 locs ls (hA.push ?_ z1 o1) hl
  rw [qE_obj hp hc20]
  refine ⟨_, hc, (u_born (qFT ci) hts hin hKn hkC e1 hty).to (fun j hj => ?_)⟩
  rw [q_vpV hj, (hz j).1, (hz j).2.1, (hz j).2.2]
  exact q_dv (hnf j hj).1 (hnf j hj).2
theorem qx_newI {N : Nat} {i : Int32} (hd : decode y.2.1 pc = .ok (.newarray .int, 2)) (hw : Cond.arrayClass .int ∈ qGW) (hp : qPl n = (20, N)) (hN : Nat.blt N 1000 = true) (hi : i = nI N) (hz : ∀ j, h.1 n j = 0) (hce : ce + 1 ≤ cT) (hsl : sl + N ≤ sT)
    (k : qX y d z cT sT (pc + 2) lv (.ref n :: st) h (n + 1) (ce + 1) (sl + N) Rp) : qX y d z cT sT pc lv (.int i :: st) h n ce sl Rp := by
  intro p l e R s m args below meth c Q b0 b D dA C hr H locs ls hA hl
  have hN' := Nat.blt_eq.mp hN
  obtain ⟨-, -, hRc, hRs⟩ := C.2.2.2.2.2.2.1
  subst hi
  refine va_newaK C.1 C.2.1 (atype := .int) (C.2.2.2.2.1 _ hw) rfl hd rfl (nI_pos (by omega)) (nI_clamp (by omega)) (by show N * 4 ≤ _; omega) (by omega) (by omega) hA.2.1 fun H1 cA e1 z1 o1 hAr hNm => ?_
  refine k p l e R s m args below meth c Q b0 b D dA C hr H1 locs ls (hA.push ?_ z1 o1) hl
  have hcA : cA = dA 0 := Option.some.inj (hNm.symm.trans (C.2.2.2.2.2.1.1.2 0 _ rfl).2)
  subst hcA
  rw [qE_int hp]
  show H1[b0 + n]? = some (vp_cell _ _)
  rw [e1, vp_cell_i]
  congr 2
  funext j
  rw [hz j]
  rfl
theorem qx_newL {N : Nat} {i : Int32} (hd : decode y.2.1 pc = .ok (.newarray .long, 2)) (hw : Cond.arrayClass .long ∈ qGW) (hp : qPl n = (21, N)) (hN : Nat.blt N 1000 = true) (hi : i = nI N) (hz : ∀ j, h.2.1 n j = 0) (hce : ce + 1 ≤ cT) (hsl : sl + N ≤ sT)
    (k : qX y d z cT sT (pc + 2) lv (.ref n :: st) h (n + 1) (ce + 1) (sl + N) Rp) : qX y d z cT sT pc lv (.int i :: st) h n ce sl Rp := by
  intro p l e R s m args below meth c Q b0 b D dA C hr H locs ls hA hl
  have hN' := Nat.blt_eq.mp hN
  obtain ⟨-, -, hRc, hRs⟩ := C.2.2.2.2.2.2.1
  subst hi
  refine va_newaK C.1 C.2.1 (atype := .long) (C.2.2.2.2.1 _ hw) rfl hd rfl (nI_pos (by omega)) (nI_clamp (by omega)) (by show N * 8 ≤ _; omega) (by omega) (by omega) hA.2.1 fun H1 cA e1 z1 o1 hAr hNm => ?_
  refine k p l e R s m args below meth c Q b0 b D dA C hr H1 locs ls (hA.push ?_ z1 o1) hl
  have hcA : cA = dA 1 := Option.some.inj (hNm.symm.trans (C.2.2.2.2.2.1.1.2 1 _ rfl).2)
  subst hcA
  rw [qE_long hp]
  show H1[b0 + n]? = some (vp_cell _ _)
  rw [e1, vp_cell_l]
  congr 2
  funext j
  rw [hz j]
  rfl
theorem qx_newZ {N : Nat} {i : Int32} (hd : decode y.2.1 pc = .ok (.newarray .boolean, 2)) (hw : Cond.arrayClass .boolean ∈ qGW) (hp : qPl n = (22, N)) (hN : Nat.blt N 1000 = true) (hi : i = nI N) (hz : ∀ j, h.1 n j = 0) (hce : ce + 1 ≤ cT) (hsl : sl + N ≤ sT)
    (k : qX y d z cT sT (pc + 2) lv (.ref n :: st) h (n + 1) (ce + 1) (sl + N) Rp) : qX y d z cT sT pc lv (.int i :: st) h n ce sl Rp := by
  intro p l e R s m args below meth c Q b0 b D dA C hr H locs ls hA hl
  have hN' := Nat.blt_eq.mp hN
  obtain ⟨-, -, hRc, hRs⟩ := C.2.2.2.2.2.2.1
  subst hi
  refine va_newaK C.1 C.2.1 (atype := .boolean) (C.2.2.2.2.1 _ hw) rfl hd rfl (nI_pos (by omega)) (nI_clamp (by omega)) (by show N * 1 ≤ _; omega) (by omega) (by omega) hA.2.1 fun H1 cA e1 z1 o1 hAr hNm => ?_
  refine k p l e R s m args below meth c Q b0 b D dA C hr H1 locs ls (hA.push ?_ z1 o1) hl
  have hcA : cA = dA 2 := Option.some.inj (hNm.symm.trans (C.2.2.2.2.2.1.1.2 2 _ rfl).2)
  subst hcA
  rw [qE_bool hp]
  show H1[b0 + n]? = some (vp_cell _ _)
  rw [e1, vp_cell_i]
  congr 2
  funext j
  rw [hz j]
  rfl
theorem qx_newR {N t idx : Nat} {C0 : String} {i : Int32} (hd : decode y.2.1 pc = .ok (.anewarray idx, 3)) (hw : Cond.classLink y.1.cls idx C0 ∈ qGW) (hO : C0 ∈ qAO) (ht : ∀ dA : Nat → ClassId, (qTys dA)[3 + t]? = some (dA (3 + t), .object C0)) (hp : qPl n = (23 + t, N)) (hN : Nat.blt N 1000 = true) (hi : i = nI N) (hz : ∀ j, h.2.2 n j = none) (hce : ce + 1 ≤ cT) (hsl : sl + N ≤ sT)
    (k : qX y d z cT sT (pc + 3) lv (.ref n :: st) h (n + 1) (ce + 1) (sl + N) Rp) : qX y d z cT sT pc lv (.int i :: st) h n ce sl Rp := by
  intro p l e R s m args below meth c Q b0 b D dA C hr H locs ls hA hl
  have hN' := Nat.blt_eq.mp hN
  obtain ⟨-, -, hRc, hRs⟩ := C.2.2.2.2.2.2.1
  subst hi
  have hcl : (nI N).toNatClampNeg = N := nI_clamp (by omega)
  refine W.anew C.1 C.2.1 C.2.2.2.1 (C.2.2.2.2.1 _ hw) (va_AO.use (C.2.2.2.2.2.1.2.2.2 _ hO)) rfl hd rfl (nI_pos (by omega)) (by rw [hcl]; omega) (by omega) (by rw [hcl]; omega) fun cA kA comp f1 f2 f3 f4 => ?_
  rw [hcl]
  obtain ⟨-, -, -, -, -, hNm⟩ := (C.2.2.2.2.2.1.1.2 (3 + t) _ (ht dA)).2
  have hcA : cA = dA (3 + t) := Option.some.inj (f1.symm.trans hNm)
  subst hcA
  generalize hH1 : H.push ({ cls := dA (3 + t), slots := Array.replicate N .null, vm := .none } : Cell) = H1
  have hsz := hA.2.1
  have z1 : H1.size = b0 + n + 1 := by rw [← hH1, Array.size_push, hsz]
  have e1 : H1[b0 + n]? = some (arrV (dA (3 + t)) N (fun _ => .null)) := by rw [← hH1, ← hsz, Array.getElem?_push_size, ← arrV_new]
  have o1 : ∀ q : Nat, q < b0 + n → H1[q]? = H[q]? := fun q hq => by rw [← hH1, Array.getElem?_push, if_neg (by omega)]
  rw [hsz]
  refine k p l e R s m args below meth c Q b0 b D dA C hr H1 locs ls (hA.push ?_ z1 o1) hl
  rw [qE_ref hp]
  show H1[b0 + n]? = some (vp_cell _ _)
  rw [e1, vp_cell_q]
  congr 2
  funext j
  rw [hz j]
  rfl
theorem qx_objInit {idx r : Nat} (hd : decode y.2.1 pc = .ok (.invokespecial idx, 3)) (hw : Cond.methodLink y.1.cls idx Lib.objectInit ∈ qGW ∧ Cond.instanceMethod Lib.objectInit ∈ qGW ∧ Cond.code Lib.objectInit ⟨#[0xb1]⟩ 1 none ∈ qGW) (hrest : Nat.ble ((st.map Value.category).sum) 8 = true) (hd1 : 1 ≤ d)
    (k : qX y d z cT sT (pc + 3) lv st h n ce sl Rp) : qX y d z cT sT pc lv (.ref r :: st) h n ce sl Rp := by
  intro p l e R s m args below meth c Q b0 b D dA C hr H locs ls hA hl
  have hts := C.2.2.2.2.1
  obtain ⟨hRf, hRl, -, -⟩ := C.2.2.2.2.2.2.1
  have hcat : ((st.map (qrel b0 b)).map fun v => v.category).sum ≤ 8 := by
    rw [List.map_map]
    have e : ((fun v : Value => v.category) ∘ qrel b0 b) = Value.category := by funext v; exact qrel_cat b0 b v
    rw [e]
    exact Nat.ble_eq.mp hrest
  refine W.objInit C.1 C.2.1 C.2.2.2.1 (hts _ hw.1) (hts _ hw.2.1) (hts _ hw.2.2) rfl (by rw [C.2.2.1]; exact hl.1) rfl hd (by omega) (by show 2 * 0 + _ + 12 ≤ _; omega) ?_
  exact k p l e R s m args below meth c Q b0 b D dA C hr H locs ls hA hl
end QN
/-! contracts and calls -/
def qP (av : List Value) (h : qH) (n b0 b : Nat) (D : va_G) (dA : Nat → ClassId) : Array Value → State → Prop := fun v U => v = (av.map (qrel b0 b)).toArray ∧ va_P D vwCl (qW b0 dA h n) U.heap ∧ U.heap.size = b0 + n ∧ qK D dA U
def qQ (Rp : Option Value → qH → Nat → Prop) (b0 b : Nat) (D : va_G) (dA : Nat → ClassId) : Array Value → State → Outcome → State → Prop := fun _ st o t => ∃ (v : Option Value) (h : qH) (n : Nat), o = .returned (v.map (qrel b0 b)) ∧ Rp v h n ∧ va_P D vwCl (qW b0 dA h n) t.heap ∧ t.heap.size = b0 + n ∧ va_F (fun q => b0 ≤ q) st t
abbrev qws (y : qMi) : List Cond := Cond.code y.1 y.2.1 y.2.2.1 y.2.2.2 :: qGW
abbrev qrm (d cT sT : Nat) : Room := { frames := d, cells := cT, slots := sT, locals := 39 * d }
/-- A CONTRACT: called with these arguments on this heap of n cells, the method returns, and answer, heap and number of cells satisfy Rp; it nests at most d deep, makes at most cT cells of sT slots -/
def qT (y : qMi) (d cT sT : Nat) (av : List Value) (h : qH) (n : Nat) (Rp : Option Value → qH → Nat → Prop) : Prop := ∀ (l : Launch) (b0 b : Nat) (D : va_G) (dA : Nat → ClassId), Met l y.1 (qws y) (qrm d cT sT) (qP av h n b0 b D dA) (qQ Rp b0 b D dA) cT sT (fun q => b0 ≤ q)
theorem qP_blind {av : List Value} {h : qH} {n b0 b : Nat} {D : va_G} {dA : Nat → ClassId} : FrameBlind (qP av h n b0 b D dA) := fun a U g mk q => ⟨q.1, q.2.1, q.2.2.1, qK.calling q.2.2.2 g mk a⟩
def qsl (av : List Value) : List Value := av.flatMap fun v => if v.category = 2 then [v, qdead] else [v]
def qent (av : List Value) (nL : Nat) : List Value := qsl av ++ List.replicate (nL - (qsl av).length) qdead
theorem qsl_in {b0 b : Nat} : ∀ (av : List Value) (off j : Nat) (v : Value), (qsl av)[j]? = some v → v ≠ qdead → (off + j, qrel b0 b v) ∈ lv_args off (av.map (qrel b0 b))
  | [], off, j, v, h, _ => by simp [qsl] at h
  | a :: l, off, j, v, h, hd => by
    have e : qsl (a :: l) = (if a.category = 2 then [a, qdead] else [a]) ++ qsl l := by simp [qsl]
    rw [e] at h
    rw [List.map_cons]
    unfold lv_args
    rw [qrel_cat]
    by_cases hc : a.category = 2
    · rw [if_pos hc] at h ⊢
      match j, h with
      | 0, h =>
        simp at h
        subst h
        exact List.mem_cons_self
      | 1, h =>
        simp at h
        exact absurd h.symm hd
      | j + 2, h =>
        simp at h
        have := qsl_in (b0 := b0) (b := b) l (off + 2) j v h hd
        rw [show off + (j + 2) = off + 2 + j by omega]
        exact List.mem_cons_of_mem _ this
    · rw [if_neg hc] at h ⊢
      match j, h with
      | 0, h =>
        simp at h
        subst h
        exact List.mem_cons_self
      | j + 1, h =>
        simp at h
        have := qsl_in (b0 := b0) (b := b) l (off + 1) j v h hd
        rw [show off + (j + 1) = off + 1 + j by omega]
        exact List.mem_cons_of_mem _ this
theorem qL.entry {b0 b nL : Nat} {av : List Value} (hk : (lg_sl (av.map (qrel b0 b))).length ≤ nL) : qL b0 b nL (qent av nL) ((lg_sl (av.map (qrel b0 b)) ++ List.replicate (nL - (lg_sl (av.map (qrel b0 b))).length) Slot.unset).toArray) := by
  refine qL.mono (lv_entry (av.map (qrel b0 b)) hk) fun q hq => ?_
  obtain ⟨v, h1, h2, h3⟩ := qlvs_of hq
  obtain ⟨j, x⟩ := q
  dsimp only at h1 h3
  subst h3
  unfold qent at h1
  by_cases hj : j < (qsl av).length
  · rw [List.getElem?_append_left hj] at h1
    have := qsl_in (b0 := b0) (b := b) av 0 j v h1 h2
    rwa [Nat.zero_add] at this
  · rw [List.getElem?_append_right (by omega), List.getElem?_replicate] at h1
    split at h1
    · exact absurd (Option.some.inj h1).symm h2
    · cases h1
theorem qT.of {y : qMi} {d cT sT : Nat} {av lv0 : List Value} {h : qH} {n : Nat} {Rp : Option Value → qH → Nat → Prop} (hy : plainName y.1.cls = true) (hk : ∀ b0 b, (lg_sl (av.map (qrel b0 b))).length ≤ y.2.2.1) (he : qent av y.2.2.1 = lv0)
    (k : qX y d none cT sT 0 lv0 [] h n 0 0 Rp) : qT y d cT sT av h n Rp := by
  intro l b0 b D dA
  subst he
  refine Met.ofW (cc := y.2.1) (maxL := y.2.2.1) (ret := y.2.2.2) hy rfl ?_
  intro p e s m args below meth c s₁ B hml hv
  obtain ⟨rfl, hP, hz, hK⟩ := hv
  have hts : ∀ w ∈ qGW, w.before _ s = true := fun w hw => atoms_spec (ws := qws y) B.pre w (List.mem_cons_of_mem _ hw)
  rw [lg_entry_eq]
  refine k p l e _ s m _ below meth c _ b0 b D dA ⟨B.exec, B.bytes, hml, findClass_of_methodNamed B.named, hts, hK, ⟨Nat.le_refl _, Nat.le_refl _, Nat.le_refl _, Nat.le_refl _⟩, by rw [hz]; exact Nat.le_add_right _ _, (name_of_methodNamed B.named B.method).1, trivial⟩ ?_ s.heap [] _ ⟨hP, hz, va_S.rf⟩ (qL.entry (hk b0 b))
  intro H locs ls pc v h n hR hA hq
  have hf : ∀ q ∈ locs, b0 ≤ q.base := hA.2.2.2.2
  rcases hq with ⟨h1, h2, rfl⟩ | ⟨r, ty, h1, h2, h3, rfl⟩ | ⟨r, h1, h2, rfl⟩ | ⟨r, ty, h1, h2, h3, rfl⟩
  · exact W.vret B.exec B.bytes (B.returns.trans h1) (fun t ht hW => ⟨none, h, n, rfl, hR, by rw [ht]; exact hA.1, by rw [ht]; exact hA.2.1, hA.2.2.F ht⟩) hf h2 B.notSynchronized
  · exact W.zret B.exec B.bytes (B.returns.trans h1) h3 (fun t ht hW => ⟨some (.int r), h, n, rfl, hR, by rw [ht]; exact hA.1, by rw [ht]; exact hA.2.1, hA.2.2.F ht⟩) hf h2 B.notSynchronized
  · exact W.lret B.exec B.bytes (B.returns.trans h1) (fun t ht hW => ⟨some (.long r), h, n, rfl, hR, by rw [ht]; exact hA.1, by rw [ht]; exact hA.2.1, hA.2.2.F ht⟩) hf h2 B.notSynchronized
  · exact W.aret B.exec B.bytes (B.returns.trans h1) h2 (Or.inr ⟨_, rfl⟩) (fun t ht hW => ⟨some (.ref r), h, n, rfl, hR, by rw [ht]; exact hA.1, by rw [ht]; exact hA.2.1, hA.2.2.F ht⟩) hf h3 B.notSynchronized
/-- a method that is called: its code and words -/
def qY (y : qMi) (k : Nat) : Prop := Cond.code y.1 y.2.1 y.2.2.1 y.2.2.2 ∈ qGW ∧ Cond.initialized y.1.cls ∈ qGW ∧ (y.1.cls ≠ "java/lang/invoke/MethodHandle" ∧ y.1.cls ≠ "java/lang/invoke/VarHandle" ∧ (parseMethodDescriptor y.1.desc).map (fun d => d.parameters.length) = some k) ∧ y.2.2.1 ≤ 20
def qLk (own : String) (idx : Nat) (y : qMi) : Prop := Cond.methodLink own idx y.1 ∈ qGW ∨ ∃ host, (own, idx, y.1, host) ∈ qNM
theorem qG {y : qMi} {k : Nat} (h : qY y k) : GoodIn qGW (qws y) := by
  intro w hw
  rcases List.mem_cons.mp hw with rfl | hw
  · exact ⟨h.1, Or.inl rfl⟩
  · exact ⟨hw, qGW_good w hw⟩
section QR
variable {p : Program} {l : Launch} {e : Env} {R : Room} {s : State} {m : MethodId} {args : Array Value} {below : List Frame} {meth : Method} {c : Code} {H : Heap} {locs : List Loc} {cells slots : Nat} {Q : State → Prop}
theorem q_call {pc b0 b mc ms : Nat} {D : va_G} {dA : Nat → ClassId} {ls : Array Slot} {rest st0 : List Value} {a : Array Value} {Rq : Option Value → qH → Nat → Prop} (hr : va_Run p l e R s m args below meth c H locs cells slots mc ms (F0 m pc ls st0) (rest.map (qrel b0 b)) (qQ Rq b0 b D dA a) (fun q => b0 ≤ q)) (hS : va_S (fun q => b0 ≤ q) s.heap H locs)
    (kk : ∀ (v : Option Value) (h : qH) (n : Nat) (H1 : Heap) (locs1 : List Loc), Rq v h n → qA b0 D dA h n s H1 locs1 → W p l e R s m args below meth c H1 locs1 (cells + mc) (slots + ms) Q (F0 m (pc + 3) ls ((v.toList ++ rest).map (qrel b0 b)))) : W p l e R s m args below meth c H locs cells slots Q (F0 m pc ls st0) := by
  intro T hT X
  obtain ⟨v, st₀, t, T', L, h0, X', hL, e1, e2, ⟨v1, h, n, hv, hR, hP, hz, hF1, hF2⟩, st⟩ := hr T hT X
  cases hv
  rw [h0] at hF1 hF2
  obtain ⟨t2, a1, b1⟩ := kk v1 h n T'.heap (locs ++ L) hR ⟨by rw [e1]; exact hP, by rw [e1]; exact hz, ⟨Nat.le_trans hS.1 (by rw [e1]; exact hF1), fun q h1 h2 => by rw [e1, hF2 q (Nat.lt_of_lt_of_le h1 hS.1) h2]; exact hS.2.1 q h1 h2, fun q hq => by
      rcases List.mem_append.mp hq with h | h
      · exact hS.2.2 q h
      · exact hL q h⟩⟩ T' rfl X'
  have ee : (v1.toList ++ rest).map (qrel b0 b) = (v1.map (qrel b0 b)).toList ++ rest.map (qrel b0 b) := by cases v1 <;> simp
  rw [ee] at a1
  exact ⟨t2, st t2 a1, b1⟩
end QR
theorem q_room {b0 b : Nat} {rest : List Value} {m : MethodId} {pc : Nat} {ls : Array Slot} {st : List Value} (h : Nat.ble ((rest.map Value.category).sum) 8 = true) : 2 * (F0 m pc ls st).monitorRoom + ((rest.map (qrel b0 b)).map fun v => v.category).sum ≤ 8 := by
  rw [List.map_map]
  have e : ((fun v : Value => v.category) ∘ qrel b0 b) = Value.category := by funext v; exact qrel_cat b0 b v
  rw [e]
  have := Nat.ble_eq.mp h
  show 2 * 0 + _ ≤ 8
  omega
section QCALL
variable {y : qMi} {d : Nat} {z : Option (Nat × (Nat → Int32))} {cT sT pc : Nat} {lv st : List Value} {h : qH} {n ce sl : Nat} {Rp Rq : Option Value → qH → Nat → Prop}
theorem qx_callV {w : qMi} {dc mc ms r ci x idx na N0 : Nat} {T0 : u_T} {As rest : List Value} (hd : decode y.2.1 pc = .ok (.invokevirtual idx, 3)) (hlk : qLk y.1.cls idx w) (hw : qY w na) (hv : Cond.instanceMethod w.1 ∈ qGW ∧ Cond.selects w.1.cls w.1 w.1 ∈ qGW) (hst : st = As.reverse ++ .ref r :: rest) (hna : As.length = na)
    (hp : qPl r = (ci, x)) (hci : ci < 20) (hc : vwCl[ci]? = some (w.1.cls, T0, N0)) (hrn : Nat.blt r n = true) (hrest : Nat.ble ((rest.map Value.category).sum) 8 = true) (hdd : Nat.ble (dc + 1) d = true) (hcc : ce + mc ≤ cT) (hss : sl + ms ≤ sT)
    (hT : qT w dc mc ms (.ref r :: As) h n Rq) (k : ∀ v h1 n1, Rq v h1 n1 → qX y d z cT sT (pc + 3) lv (v.toList ++ rest) h1 n1 (ce + mc) (sl + ms) Rp) : qX y d z cT sT pc lv st h n ce sl Rp := by
  intro p l e R s m args below meth c Q b0 b D dA C hr H locs ls hA hl
  subst hst
  have hts := C.2.2.2.2.1
  obtain ⟨hRf, hRl, hRc, hRs⟩ := C.2.2.2.2.2.2.1
  have hdd' := Nat.ble_eq.mp hdd
  obtain ⟨-, hini, hdn, h45⟩ := id hw
  have hR : (qrm dc mc ms).frames + 1 ≤ R.frames ∧ 8 + (w.2.2.1 + 11) + (qrm dc mc ms).locals ≤ R.locals := ⟨by show dc + 1 ≤ _; omega, by show 8 + (w.2.2.1 + 11) + 39 * dc ≤ _; omega⟩
  have he := qW_at (b0 := b0) (dA := dA) (h := h) (Nat.blt_eq.mp hrn)
  rw [qE_obj hp hci] at he
  have hpre : PreV s H w.1.cls (b0 + r) (qP (.ref r :: As) h n b0 b D dA) (As.map (qrel b0 b)) := ⟨qP_blind, va_recv C.2.2.2.2.2.1.1 hA.1 hc he, fun U hU hW => ⟨rfl, by rw [hU]; exact hA.1, by rw [hU]; exact hA.2.1, qK.warm C.2.2.2.2.2.1 hW⟩⟩
  have hrun : va_Run p l e R s m args below meth c H locs ce sl mc ms (F0 m pc ls ((As.reverse ++ .ref r :: rest).map (qrel b0 b))) (rest.map (qrel b0 b)) (qQ Rq b0 b D dA (Value.ref (b0 + r) :: As.map (qrel b0 b)).toArray) (fun q => b0 ≤ q) := by
    have hsx : (F0 m pc ls ((As.reverse ++ .ref r :: rest).map (qrel b0 b))).stack = (As.map (qrel b0 b)).reverse ++ .ref (b0 + r) :: rest.map (qrel b0 b) := by
      show (As.reverse ++ .ref r :: rest).map (qrel b0 b) = _
      rw [List.map_append, List.map_reverse, List.map_cons]
      rfl
    rcases hlk with hlk | ⟨host, hlk⟩
    · exact va_runV (bytes := w.2.1) (maxL := w.2.2.1) (ret := w.2.2.2) (ws := qws w) (rm := qrm dc mc ms) (n := na) (nL := y.2.2.1) ⟨C.1, C.2.1, C.2.2.1, C.2.2.2.1, hts⟩ (hT l b0 b D dA) ⟨callB_of na hts (qG hw) rfl rfl rfl (hts _ hini) (hts _ hlk) hdn hR, hts _ hv.1, hts _ hv.2⟩ hpre rfl (by rw [List.length_map]; exact hna) hl.1 hsx (q_room hrest) hd ⟨by omega, by omega⟩
    · exact va_runVN (bytes := w.2.1) (maxL := w.2.2.1) (ret := w.2.2.2) (ws := qws w) (rm := qrm dc mc ms) (n := na) (nL := y.2.2.1) ⟨C.1, C.2.1, C.2.2.1, C.2.2.2.1, hts⟩ (hT l b0 b D dA) ⟨va_cnB na hts (qG hw) rfl rfl rfl (C.2.2.2.2.2.1.2.2.1 _ hlk) (hts _ hini) hdn hR, hts _ hv.1, hts _ hv.2⟩ hpre rfl (by rw [List.length_map]; exact hna) hl.1 hsx (q_room hrest) hd ⟨by omega, by omega⟩
  exact q_call hrun hA.2.2 (fun v h1 n1 H1 locs1 hq hA1 => k v h1 n1 hq p l e R s m args below meth c Q b0 b D dA C hr H1 locs1 ls hA1 hl)
theorem qx_callS {w : qMi} {dc mc ms idx na : Nat} {As rest : List Value} (hd : decode y.2.1 pc = .ok (.invokestatic idx, 3)) (hlk : qLk y.1.cls idx w) (hw : qY w na) (hv : Cond.static w.1 ∈ qGW) (hst : st = As.reverse ++ rest) (hna : As.length = na)
    (hrest : Nat.ble ((rest.map Value.category).sum) 8 = true) (hdd : Nat.ble (dc + 1) d = true) (hcc : ce + mc ≤ cT) (hss : sl + ms ≤ sT)
    (hT : qT w dc mc ms As h n Rq) (k : ∀ v h1 n1, Rq v h1 n1 → qX y d z cT sT (pc + 3) lv (v.toList ++ rest) h1 n1 (ce + mc) (sl + ms) Rp) : qX y d z cT sT pc lv st h n ce sl Rp := by
  intro p l e R s m args below meth c Q b0 b D dA C hr H locs ls hA hl
  subst hst
  have hts := C.2.2.2.2.1
  obtain ⟨hRf, hRl, hRc, hRs⟩ := C.2.2.2.2.2.2.1
  have hdd' := Nat.ble_eq.mp hdd
  obtain ⟨-, hini, hdn, h45⟩ := id hw
  have hR : (qrm dc mc ms).frames + 1 ≤ R.frames ∧ 8 + (w.2.2.1 + 11) + (qrm dc mc ms).locals ≤ R.locals := ⟨by show dc + 1 ≤ _; omega, by show 8 + (w.2.2.1 + 11) + 39 * dc ≤ _; omega⟩
  have hpre : PreS s H (qP As h n b0 b D dA) (As.map (qrel b0 b)) := ⟨qP_blind, fun U hU hW => ⟨rfl, by rw [hU]; exact hA.1, by rw [hU]; exact hA.2.1, qK.warm C.2.2.2.2.2.1 hW⟩⟩
  have hrun : va_Run p l e R s m args below meth c H locs ce sl mc ms (F0 m pc ls ((As.reverse ++ rest).map (qrel b0 b))) (rest.map (qrel b0 b)) (qQ Rq b0 b D dA (As.map (qrel b0 b)).toArray) (fun q => b0 ≤ q) := by
    have hsx : (F0 m pc ls ((As.reverse ++ rest).map (qrel b0 b))).stack = (As.map (qrel b0 b)).reverse ++ rest.map (qrel b0 b) := by
      show (As.reverse ++ rest).map (qrel b0 b) = _
      rw [List.map_append, List.map_reverse]
    rcases hlk with hlk | ⟨host, hlk⟩
    · exact va_runS (bytes := w.2.1) (maxL := w.2.2.1) (ret := w.2.2.2) (ws := qws w) (rm := qrm dc mc ms) (n := na) (nL := y.2.2.1) ⟨C.1, C.2.1, C.2.2.1, C.2.2.2.1, hts⟩ (hT l b0 b D dA) ⟨callB_of na hts (qG hw) rfl rfl rfl (hts _ hini) (hts _ hlk) hdn hR, hts _ hv⟩ hpre rfl (by rw [List.length_map]; exact hna) hl.1 hsx (q_room hrest) hd ⟨by omega, by omega⟩
    · exact va_runSN (bytes := w.2.1) (maxL := w.2.2.1) (ret := w.2.2.2) (ws := qws w) (rm := qrm dc mc ms) (n := na) (nL := y.2.2.1) ⟨C.1, C.2.1, C.2.2.1, C.2.2.2.1, hts⟩ (hT l b0 b D dA) ⟨va_cnB na hts (qG hw) rfl rfl rfl (C.2.2.2.2.2.1.2.2.1 _ hlk) (hts _ hini) hdn hR, hts _ hv, trivial⟩ hpre rfl (by rw [List.length_map]; exact hna) hl.1 hsx (q_room hrest) hd ⟨by omega, by omega⟩
  exact q_call hrun hA.2.2 (fun v h1 n1 H1 locs1 hq hA1 => k v h1 n1 hq p l e R s m args below meth c Q b0 b D dA C hr H1 locs1 ls hA1 hl)
theorem qx_callI {w : qMi} {dc mc ms r idx na : Nat} {As rest : List Value} (hd : decode y.2.1 pc = .ok (.invokespecial idx, 3)) (hlk : qLk y.1.cls idx w) (hw : qY w na) (hv : w.1.name = "<init>" ∧ w.2.2.2 = none ∧ Cond.instanceMethod w.1 ∈ qGW) (hst : st = As.reverse ++ .ref r :: rest) (hna : As.length = na)
    (hrest : Nat.ble ((rest.map Value.category).sum) 8 = true) (hdd : Nat.ble (dc + 1) d = true) (hcc : ce + mc ≤ cT) (hss : sl + ms ≤ sT)
    (hT : qT w dc mc ms (.ref r :: As) h n Rq) (k : ∀ v h1 n1, Rq v h1 n1 → qX y d z cT sT (pc + 3) lv (v.toList ++ rest) h1 n1 (ce + mc) (sl + ms) Rp) : qX y d z cT sT pc lv st h n ce sl Rp := by
  intro p l e R s m args below meth c Q b0 b D dA C hr H locs ls hA hl
  subst hst
  obtain ⟨wn, wb, wl, wr⟩ := w
  dsimp only at hv
  obtain ⟨hv1, rfl, hv2⟩ := hv
  have hts := C.2.2.2.2.1
  obtain ⟨hRf, hRl, hRc, hRs⟩ := C.2.2.2.2.2.2.1
  have hdd' := Nat.ble_eq.mp hdd
  obtain ⟨-, hini, hdn, h45⟩ := id hw
  dsimp only at h45 hini hdn
  have hR : (qrm dc mc ms).frames + 1 ≤ R.frames ∧ 8 + (wl + 11) + (qrm dc mc ms).locals ≤ R.locals := ⟨by show dc + 1 ≤ _; omega, by show 8 + (wl + 11) + 39 * dc ≤ _; omega⟩
  have hpre : PreS s H (qP (.ref r :: As) h n b0 b D dA) (.ref (b0 + r) :: As.map (qrel b0 b)) := ⟨qP_blind, fun U hU hW => ⟨rfl, by rw [hU]; exact hA.1, by rw [hU]; exact hA.2.1, qK.warm C.2.2.2.2.2.1 hW⟩⟩
  have hrun : va_Run p l e R s m args below meth c H locs ce sl mc ms (F0 m pc ls ((As.reverse ++ .ref r :: rest).map (qrel b0 b))) (rest.map (qrel b0 b)) (qQ Rq b0 b D dA (Value.ref (b0 + r) :: As.map (qrel b0 b)).toArray) (fun q => b0 ≤ q) := by
    have hsx : (F0 m pc ls ((As.reverse ++ .ref r :: rest).map (qrel b0 b))).stack = (As.map (qrel b0 b)).reverse ++ .ref (b0 + r) :: rest.map (qrel b0 b) := by
      show (As.reverse ++ .ref r :: rest).map (qrel b0 b) = _
      rw [List.map_append, List.map_reverse, List.map_cons]
      rfl
    rcases hlk with hlk | ⟨host, hlk⟩
    · exact va_runI (bytes := wb) (maxL := wl) (ws := qws (wn, wb, wl, none)) (rm := qrm dc mc ms) (n := na) (nL := y.2.2.1) ⟨C.1, C.2.1, C.2.2.1, C.2.2.2.1, hts⟩ (hT l b0 b D dA) ⟨callB_of na hts (qG hw) rfl rfl rfl (hts _ hini) (hts _ hlk) hdn hR, hv1, hts _ hv2⟩ hpre rfl (by rw [List.length_map]; exact hna) hl.1 hsx (q_room hrest) hd ⟨by omega, by omega⟩
    · exact va_runIN (bytes := wb) (maxL := wl) (ws := qws (wn, wb, wl, none)) (rm := qrm dc mc ms) (n := na) (nL := y.2.2.1) ⟨C.1, C.2.1, C.2.2.1, C.2.2.2.1, hts⟩ (hT l b0 b D dA) ⟨va_cnB na hts (qG hw) rfl rfl rfl (C.2.2.2.2.2.1.2.2.1 _ hlk) (hts _ hini) hdn hR, hv1, hts _ hv2⟩ hpre rfl (by rw [List.length_map]; exact hna) hl.1 hsx (q_room hrest) hd ⟨by omega, by omega⟩
  exact q_call hrun hA.2.2 (fun v h1 n1 H1 locs1 hq hA1 => k v h1 n1 hq p l e R s m args below meth c Q b0 b D dA C hr H1 locs1 ls hA1 hl)
end QCALL
section QNAT
variable {y : qMi} {d : Nat} {z : Option (Nat × (Nat → Int32))} {cT sT pc : Nat} {lv st : List Value} {h : qH} {n ce sl : Nat} {Rp : Option Value → qH → Nat → Prop}
theorem q_cI {i : Int} {k : Nat} (h : (k : Int) = i) : Int32.ofInt i = nI k := by subst h; rfl
theorem qx_iconstN {i : Int} {v : Nat} (hd : decode y.2.1 pc = .ok (.iconst i, 1)) (hv : Int32.ofInt i = nI v) (k : qX y d z cT sT (pc + 1) lv (.int (nI v) :: st) h n ce sl Rp) : qX y d z cT sT pc lv st h n ce sl Rp := qx_iconst hd hv k
theorem qx_bipushN {i : Int} {v : Nat} (hd : decode y.2.1 pc = .ok (.bipush i, 2)) (hv : (Int8.ofInt i).toInt32 = nI v) (k : qX y d z cT sT (pc + 2) lv (.int (nI v) :: st) h n ce sl Rp) : qX y d z cT sT pc lv st h n ce sl Rp := qx_bipush hd hv k
theorem qx_sipushN {i : Int} {v : Nat} (hd : decode y.2.1 pc = .ok (.sipush i, 3)) (hv : (Int16.ofInt i).toInt32 = nI v) (k : qX y d z cT sT (pc + 3) lv (.int (nI v) :: st) h n ce sl Rp) : qX y d z cT sT pc lv st h n ce sl Rp := qx_sipush hd hv k
theorem qx_iaddN {a x : Nat} (hd : decode y.2.1 pc = .ok (.iadd, 1)) (k : qX y d z cT sT (pc + 1) lv (.int (nI (a + x)) :: st) h n ce sl Rp) : qX y d z cT sT pc lv (.int (nI x) :: .int (nI a) :: st) h n ce sl Rp := qx_iadd hd (by rw [nI_add]; exact k)
theorem qx_isubN {a x : Nat} (hd : decode y.2.1 pc = .ok (.isub, 1)) (hx : x ≤ a) (k : qX y d z cT sT (pc + 1) lv (.int (nI (a - x)) :: st) h n ce sl Rp) : qX y d z cT sT pc lv (.int (nI x) :: .int (nI a) :: st) h n ce sl Rp := qx_isub hd (by rw [pk_sub hx]; exact k)
theorem qx_imulN {a x : Nat} (hd : decode y.2.1 pc = .ok (.imul, 1)) (k : qX y d z cT sT (pc + 1) lv (.int (nI (a * x)) :: st) h n ce sl Rp) : qX y d z cT sT pc lv (.int (nI x) :: .int (nI a) :: st) h n ce sl Rp := qx_imul hd (by rw [pk_mul]; exact k)
theorem qx_idivN {a x : Nat} (hd : decode y.2.1 pc = .ok (.idiv, 1)) (ha : a < 2 ^ 31) (h0 : 0 < x) (hx : x < 2 ^ 31) (k : qX y d z cT sT (pc + 1) lv (.int (nI (a / x)) :: st) h n ce sl Rp) : qX y d z cT sT pc lv (.int (nI x) :: .int (nI a) :: st) h n ce sl Rp := qx_idiv hd (nI_ne0 h0 hx) (by rw [pk_div ha h0 hx]; exact k)
theorem qx_iremN {a x : Nat} (hd : decode y.2.1 pc = .ok (.irem, 1)) (ha : a < 2 ^ 31) (h0 : 0 < x) (hx : x < 2 ^ 31) (k : qX y d z cT sT (pc + 1) lv (.int (nI (a % x)) :: st) h n ce sl Rp) : qX y d z cT sT pc lv (.int (nI x) :: .int (nI a) :: st) h n ce sl Rp := qx_irem hd (nI_ne0 h0 hx) (by rw [pk_rem ha h0 hx]; exact k)
theorem qx_iincN {i x w : Nat} {a : Int} {lv1 : List Value} (hd : decode y.2.1 pc = .ok (.iinc i a, 3)) (hv : lv[i]? = some (.int (nI x))) (ha : (w : Int) = a) (hn : i < y.2.2.1) (he : qst lv i (.int (nI (x + w))) = lv1) (k : qX y d z cT sT (pc + 3) lv1 st h n ce sl Rp) : qX y d z cT sT pc lv st h n ce sl Rp := qx_iinc (j := 0) hd hv (by rw [← ha]; exact nI_add x w) hn he k
theorem qx_idecN {i x : Nat} {lv1 : List Value} (hd : decode y.2.1 pc = .ok (.iinc i (-1), 3)) (hv : lv[i]? = some (.int (nI (x + 1)))) (hn : i < y.2.2.1) (he : qst lv i (.int (nI x)) = lv1) (k : qX y d z cT sT (pc + 3) lv1 st h n ce sl Rp) : qX y d z cT sT pc lv st h n ce sl Rp := qx_iinc (j := 0) hd hv (pk_m1 x) hn he k
theorem qx_i2lN {a : Nat} (hd : decode y.2.1 pc = .ok (.i2l, 1)) (ha : a < 2 ^ 31) (k : qX y d z cT sT (pc + 1) lv (.long (lN a) :: st) h n ce sl Rp) : qX y d z cT sT pc lv (.int (nI a) :: st) h n ce sl Rp := qx_i2l hd (by rw [nI_l ha]; exact k)
theorem qx_icmp_eqN {a x : Nat} {off : Int} {t : Nat} (hd : decode y.2.1 pc = .ok (.if_icmp .eq off, 3)) (ht : (pc : Int) + off = (t : Int)) (ha : a < 2 ^ 31) (hx : x < 2 ^ 31) (kt : a = x → qX y d z cT sT t lv st h n ce sl Rp) (kf : a ≠ x → qX y d z cT sT (pc + 3) lv st h n ce sl Rp) : qX y d z cT sT pc lv (.int (nI x) :: .int (nI a) :: st) h n ce sl Rp := qx_icmp_eq hd ht (fun q => kt ((nI_eq ha hx).mp q)) (fun q => kf (fun e => q ((nI_eq ha hx).mpr e)))
theorem qx_icmp_neN {a x : Nat} {off : Int} {t : Nat} (hd : decode y.2.1 pc = .ok (.if_icmp .ne off, 3)) (ht : (pc : Int) + off = (t : Int)) (ha : a < 2 ^ 31) (hx : x < 2 ^ 31) (kt : a ≠ x → qX y d z cT sT t lv st h n ce sl Rp) (kf : a = x → qX y d z cT sT (pc + 3) lv st h n ce sl Rp) : qX y d z cT sT pc lv (.int (nI x) :: .int (nI a) :: st) h n ce sl Rp := qx_icmp_ne hd ht (fun q => kt (fun e => q ((nI_eq ha hx).mpr e))) (fun q => kf ((nI_eq ha hx).mp q))
theorem qx_icmp_ltN {a x : Nat} {off : Int} {t : Nat} (hd : decode y.2.1 pc = .ok (.if_icmp .lt off, 3)) (ht : (pc : Int) + off = (t : Int)) (ha : a < 2 ^ 31) (hx : x < 2 ^ 31) (kt : a < x → qX y d z cT sT t lv st h n ce sl Rp) (kf : x ≤ a → qX y d z cT sT (pc + 3) lv st h n ce sl Rp) : qX y d z cT sT pc lv (.int (nI x) :: .int (nI a) :: st) h n ce sl Rp := qx_icmp_lt hd ht (fun q => kt ((nI_ltI ha hx).mp q)) (fun q => kf (Nat.not_lt.mp (fun e => q ((nI_ltI ha hx).mpr e))))
theorem qx_icmp_geN {a x : Nat} {off : Int} {t : Nat} (hd : decode y.2.1 pc = .ok (.if_icmp .ge off, 3)) (ht : (pc : Int) + off = (t : Int)) (ha : a < 2 ^ 31) (hx : x < 2 ^ 31) (kt : x ≤ a → qX y d z cT sT t lv st h n ce sl Rp) (kf : a < x → qX y d z cT sT (pc + 3) lv st h n ce sl Rp) : qX y d z cT sT pc lv (.int (nI x) :: .int (nI a) :: st) h n ce sl Rp := qx_icmp_ge hd ht (fun q => kt ((nI_leI hx ha).mp q)) (fun q => kf (Nat.not_le.mp (fun e => q ((nI_leI hx ha).mpr e))))
theorem qx_icmp_gtN {a x : Nat} {off : Int} {t : Nat} (hd : decode y.2.1 pc = .ok (.if_icmp .gt off, 3)) (ht : (pc : Int) + off = (t : Int)) (ha : a < 2 ^ 31) (hx : x < 2 ^ 31) (kt : x < a → qX y d z cT sT t lv st h n ce sl Rp) (kf : a ≤ x → qX y d z cT sT (pc + 3) lv st h n ce sl Rp) : qX y d z cT sT pc lv (.int (nI x) :: .int (nI a) :: st) h n ce sl Rp := qx_icmp_gt hd ht (fun q => kt ((nI_ltI hx ha).mp q)) (fun q => kf (Nat.not_lt.mp (fun e => q ((nI_ltI hx ha).mpr e))))
theorem qx_icmp_leN {a x : Nat} {off : Int} {t : Nat} (hd : decode y.2.1 pc = .ok (.if_icmp .le off, 3)) (ht : (pc : Int) + off = (t : Int)) (ha : a < 2 ^ 31) (hx : x < 2 ^ 31) (kt : a ≤ x → qX y d z cT sT t lv st h n ce sl Rp) (kf : x < a → qX y d z cT sT (pc + 3) lv st h n ce sl Rp) : qX y d z cT sT pc lv (.int (nI x) :: .int (nI a) :: st) h n ce sl Rp := qx_icmp_le hd ht (fun q => kt ((nI_leI ha hx).mp q)) (fun q => kf (Nat.not_le.mp (fun e => q ((nI_leI ha hx).mpr e))))
theorem qx_if_eqN {a : Nat} {off : Int} {t : Nat} (hd : decode y.2.1 pc = .ok (.ifCond .eq off, 3)) (ht : (pc : Int) + off = (t : Int)) (ha : a < 2 ^ 31) (kt : a = 0 → qX y d z cT sT t lv st h n ce sl Rp) (kf : 0 < a → qX y d z cT sT (pc + 3) lv st h n ce sl Rp) : qX y d z cT sT pc lv (.int (nI a) :: st) h n ce sl Rp := qx_if_eq hd ht (fun q => kt ((nI_eq (b := 0) ha (by decide)).mp (by rw [nI_0]; exact q))) (fun q => kf (Nat.pos_of_ne_zero (fun e => q (by rw [e]; exact nI_0))))
theorem qx_if_neN {a : Nat} {off : Int} {t : Nat} (hd : decode y.2.1 pc = .ok (.ifCond .ne off, 3)) (ht : (pc : Int) + off = (t : Int)) (ha : a < 2 ^ 31) (kt : 0 < a → qX y d z cT sT t lv st h n ce sl Rp) (kf : a = 0 → qX y d z cT sT (pc + 3) lv st h n ce sl Rp) : qX y d z cT sT pc lv (.int (nI a) :: st) h n ce sl Rp := qx_if_ne hd ht (fun q => kt (Nat.pos_of_ne_zero (fun e => q (by rw [e]; exact nI_0)))) (fun q => kf ((nI_eq (b := 0) ha (by decide)).mp (by rw [nI_0]; exact q)))
theorem qx_if_ltN {a : Nat} {off : Int} {t : Nat} (hd : decode y.2.1 pc = .ok (.ifCond .lt off, 3)) (ht : (pc : Int) + off = (t : Int)) (ha : a < 2 ^ 31) (kf : qX y d z cT sT (pc + 3) lv st h n ce sl Rp) : qX y d z cT sT pc lv (.int (nI a) :: st) h n ce sl Rp := qx_if_lt hd ht (fun q => absurd q (nI_pos ha)) (fun _ => kf)
theorem qx_if_geN {a : Nat} {off : Int} {t : Nat} (hd : decode y.2.1 pc = .ok (.ifCond .ge off, 3)) (ht : (pc : Int) + off = (t : Int)) (ha : a < 2 ^ 31) (kt : qX y d z cT sT t lv st h n ce sl Rp) : qX y d z cT sT pc lv (.int (nI a) :: st) h n ce sl Rp := qx_if_ge hd ht (fun _ => kt) (fun q => absurd (nI_pos' ha) q)
theorem qx_if_gtN {a : Nat} {off : Int} {t : Nat} (hd : decode y.2.1 pc = .ok (.ifCond .gt off, 3)) (ht : (pc : Int) + off = (t : Int)) (ha : a < 2 ^ 31) (kt : 0 < a → qX y d z cT sT t lv st h n ce sl Rp) (kf : a = 0 → qX y d z cT sT (pc + 3) lv st h n ce sl Rp) : qX y d z cT sT pc lv (.int (nI a) :: st) h n ce sl Rp := qx_if_gt hd ht (fun q => kt ((nI_ltI (a := 0) (b := a) (by decide) ha).mp (by rw [nI_0]; exact q))) (fun q => kf (Nat.eq_zero_of_not_pos (fun e => q (by have := (nI_ltI (a := 0) (b := a) (by decide) ha).mpr e; rw [nI_0] at this; exact this))))
theorem qx_if_leN {a : Nat} {off : Int} {t : Nat} (hd : decode y.2.1 pc = .ok (.ifCond .le off, 3)) (ht : (pc : Int) + off = (t : Int)) (ha : a < 2 ^ 31) (kt : a = 0 → qX y d z cT sT t lv st h n ce sl Rp) (kf : 0 < a → qX y d z cT sT (pc + 3) lv st h n ce sl Rp) : qX y d z cT sT pc lv (.int (nI a) :: st) h n ce sl Rp := qx_if_le hd ht (fun q => kt (Nat.le_zero.mp ((nI_leI (b := 0) ha (by decide)).mp (by rw [nI_0]; exact q)))) (fun q => kf (Nat.pos_of_ne_zero (fun e => q (by rw [e, nI_0]; decide))))
def b2i (b : Bool) : Int32 := if b then 1 else 0
theorem b2i_t : b2i true = 1 := rfl
theorem b2i_f : b2i false = 0 := rfl
theorem b2i_nar (b : Bool) : narrow .boolean (.int (b2i b)) = .int (b2i b) := by cases b <;> rfl
theorem b2i_fit (b : Bool) : narrow .boolean (.int (b2i b)) = .int (b2i b) ∧ fits .boolean (.int (b2i b)) = true := by cases b <;> exact ⟨rfl, rfl⟩
theorem b2i_0 (b : Bool) : b2i b = 0 ↔ b = false := by cases b <;> decide
theorem q_b1 {b : Bool} (h : ¬ b2i b = 0) : b = true := by
  cases b with
  | false => exact absurd rfl h
  | true => rfl
theorem b2i_inj {a b : Bool} : b2i a = b2i b ↔ a = b := by cases a <;> cases b <;> decide
theorem qx_if_eqB {b : Bool} {off : Int} {t : Nat} (hd : decode y.2.1 pc = .ok (.ifCond .eq off, 3)) (ht : (pc : Int) + off = (t : Int)) (kt : b = false → qX y d z cT sT t lv st h n ce sl Rp) (kf : b = true → qX y d z cT sT (pc + 3) lv st h n ce sl Rp) : qX y d z cT sT pc lv (.int (b2i b) :: st) h n ce sl Rp := qx_if_eq hd ht (fun q => kt ((b2i_0 b).mp q)) (fun q => kf (q_b1 q))
theorem qx_if_neB {b : Bool} {off : Int} {t : Nat} (hd : decode y.2.1 pc = .ok (.ifCond .ne off, 3)) (ht : (pc : Int) + off = (t : Int)) (kt : b = true → qX y d z cT sT t lv st h n ce sl Rp) (kf : b = false → qX y d z cT sT (pc + 3) lv st h n ce sl Rp) : qX y d z cT sT pc lv (.int (b2i b) :: st) h n ce sl Rp := qx_if_ne hd ht (fun q => kt (q_b1 q)) (fun q => kf ((b2i_0 b).mp q))
end QNAT
end
section
theorem ws_QF : ∀ w ∈ u_ws R_QF F_QF 5, w ∈ qGW := by
  intro w hw
  obtain ⟨k, hk, rfl⟩ := List.mem_map.mp hw
  have hk := List.mem_range.mp hk
  match k, hk with
  | 0, _ => exact (qw2 137 rfl rfl)
  | 1, _ => exact (qw2 139 rfl rfl)
  | 2, _ => exact (qw2 141 rfl rfl)
  | 3, _ => exact (qw2 143 rfl rfl)
  | 4, _ => exact (qw2 145 rfl rfl)
theorem nm_QF : ∀ a, a < 5 → ∀ b, b < 5 → a ≠ b → (F_QF a).2.1 ≠ (F_QF b).2.1 := by decide +kernel
theorem ty_QF : ∀ k, k < 5 → parseFieldDescriptor (F_QF k).2.2.1 = some (t_QF k) := by decide +kernel
theorem nf_QF : ∀ k, k < 5 → t_QF k ≠ .float ∧ t_QF k ≠ .double := by decide +kernel
theorem ws_Pl : ∀ w ∈ u_ws R_Pl F_Pl 11, w ∈ qGW := by
  intro w hw
  obtain ⟨k, hk, rfl⟩ := List.mem_map.mp hw
  have hk := List.mem_range.mp hk
  match k, hk with
  | 0, _ => exact (qw1 218 rfl rfl)
  | 1, _ => exact (qw1 220 rfl rfl)
  | 2, _ => exact (qw1 222 rfl rfl)
  | 3, _ => exact (qw1 224 rfl rfl)
  | 4, _ => exact (qw1 226 rfl rfl)
  | 5, _ => exact (qw1 228 rfl rfl)
  | 6, _ => exact (qw1 230 rfl rfl)
  | 7, _ => exact (qw1 232 rfl rfl)
  | 8, _ => exact (qw1 234 rfl rfl)
  | 9, _ => exact (qw1 236 rfl rfl)
  | 10, _ => exact (qw1 238 rfl rfl)
theorem nm_Pl : ∀ a, a < 11 → ∀ b, b < 11 → a ≠ b → (F_Pl a).2.1 ≠ (F_Pl b).2.1 := by decide +kernel
theorem ty_Pl : ∀ k, k < 11 → parseFieldDescriptor (F_Pl k).2.2.1 = some (t_Pl k) := by decide +kernel
theorem nf_Pl : ∀ k, k < 11 → t_Pl k ≠ .float ∧ t_Pl k ≠ .double := by decide +kernel
theorem ws_Qu : ∀ w ∈ u_ws R_Qu F_Qu 17, w ∈ qGW := by
  intro w hw
  obtain ⟨k, hk, rfl⟩ := List.mem_map.mp hw
  have hk := List.mem_range.mp hk
  match k, hk with
  | 0, _ => exact (qw1 106 rfl rfl)
  | 1, _ => exact (qw1 108 rfl rfl)
  | 2, _ => exact (qw1 110 rfl rfl)
  | 3, _ => exact (qw1 112 rfl rfl)
  | 4, _ => exact (qw1 114 rfl rfl)
  | 5, _ => exact (qw1 116 rfl rfl)
  | 6, _ => exact (qw1 118 rfl rfl)
  | 7, _ => exact (qw1 120 rfl rfl)
  | 8, _ => exact (qw1 122 rfl rfl)
  | 9, _ => exact (qw1 124 rfl rfl)
  | 10, _ => exact (qw1 126 rfl rfl)
  | 11, _ => exact (qw1 128 rfl rfl)
  | 12, _ => exact (qw1 130 rfl rfl)
  | 13, _ => exact (qw1 132 rfl rfl)
  | 14, _ => exact (qw1 134 rfl rfl)
  | 15, _ => exact (qw1 136 rfl rfl)
  | 16, _ => exact (qw1 138 rfl rfl)
  | k + 17, hk => exact absurd hk (by omega)
theorem nm_Qu : ∀ a, a < 17 → ∀ b, b < 17 → a ≠ b → (F_Qu a).2.1 ≠ (F_Qu b).2.1 := by decide +kernel
theorem ty_Qu : ∀ k, k < 17 → parseFieldDescriptor (F_Qu k).2.2.1 = some (t_Qu k) := by decide +kernel
theorem nf_Qu : ∀ k, k < 17 → t_Qu k ≠ .float ∧ t_Qu k ≠ .double := by decide +kernel
theorem ws_Ex : ∀ w ∈ u_ws R_Ex F_Ex 5, w ∈ qGW := by
  intro w hw
  obtain ⟨k, hk, rfl⟩ := List.mem_map.mp hw
  have hk := List.mem_range.mp hk
  match k, hk with
  | 0, _ => exact (qw1 57 rfl rfl)
  | 1, _ => exact (qw1 59 rfl rfl)
  | 2, _ => exact (qw1 61 rfl rfl)
  | 3, _ => exact (qw1 63 rfl rfl)
  | 4, _ => exact (qw1 65 rfl rfl)
theorem nm_Ex : ∀ a, a < 5 → ∀ b, b < 5 → a ≠ b → (F_Ex a).2.1 ≠ (F_Ex b).2.1 := by decide +kernel
theorem ty_Ex : ∀ k, k < 5 → parseFieldDescriptor (F_Ex k).2.2.1 = some (t_Ex k) := by decide +kernel
theorem nf_Ex : ∀ k, k < 5 → t_Ex k ≠ .float ∧ t_Ex k ≠ .double := by decide +kernel
theorem ws_Ma : ∀ w ∈ u_ws R_Ma F_Ma 4, w ∈ qGW := by
  intro w hw
  obtain ⟨k, hk, rfl⟩ := List.mem_map.mp hw
  have hk := List.mem_range.mp hk
  match k, hk with
  | 0, _ => exact (qw1 153 rfl rfl)
  | 1, _ => exact (qw1 155 rfl rfl)
  | 2, _ => exact (qw1 157 rfl rfl)
  | 3, _ => exact (qw1 159 rfl rfl)
theorem nm_Ma : ∀ a, a < 4 → ∀ b, b < 4 → a ≠ b → (F_Ma a).2.1 ≠ (F_Ma b).2.1 := by decide +kernel
theorem ty_Ma : ∀ k, k < 4 → parseFieldDescriptor (F_Ma k).2.2.1 = some (t_Ma k) := by decide +kernel
theorem nf_Ma : ∀ k, k < 4 → t_Ma k ≠ .float ∧ t_Ma k ≠ .double := by decide +kernel
theorem ws_Ag : ∀ w ∈ u_ws R_Ag F_Ag 6, w ∈ qGW := by
  intro w hw
  obtain ⟨k, hk, rfl⟩ := List.mem_map.mp hw
  have hk := List.mem_range.mp hk
  match k, hk with
  | 0, _ => exact (qw1 176 rfl rfl)
  | 1, _ => exact (qw1 178 rfl rfl)
  | 2, _ => exact (qw1 180 rfl rfl)
  | 3, _ => exact (qw1 182 rfl rfl)
  | 4, _ => exact (qw1 184 rfl rfl)
  | 5, _ => exact (qw1 186 rfl rfl)
theorem nm_Ag : ∀ a, a < 6 → ∀ b, b < 6 → a ≠ b → (F_Ag a).2.1 ≠ (F_Ag b).2.1 := by decide +kernel
theorem ty_Ag : ∀ k, k < 6 → parseFieldDescriptor (F_Ag k).2.2.1 = some (t_Ag k) := by decide +kernel
theorem nf_Ag : ∀ k, k < 6 → t_Ag k ≠ .float ∧ t_Ag k ≠ .double := by decide +kernel
theorem ws_Tb : ∀ w ∈ u_ws R_Tb F_Tb 3, w ∈ qGW := by
  intro w hw
  obtain ⟨k, hk, rfl⟩ := List.mem_map.mp hw
  have hk := List.mem_range.mp hk
  match k, hk with
  | 0, _ => exact (qw1 198 rfl rfl)
  | 1, _ => exact (qw1 200 rfl rfl)
  | 2, _ => exact (qw1 202 rfl rfl)
theorem nm_Tb : ∀ a, a < 3 → ∀ b, b < 3 → a ≠ b → (F_Tb a).2.1 ≠ (F_Tb b).2.1 := by decide +kernel
theorem ty_Tb : ∀ k, k < 3 → parseFieldDescriptor (F_Tb k).2.2.1 = some (t_Tb k) := by decide +kernel
theorem nf_Tb : ∀ k, k < 3 → t_Tb k ≠ .float ∧ t_Tb k ≠ .double := by decide +kernel
theorem ws_Re : ∀ w ∈ u_ws R_Re F_Re 7, w ∈ qGW := by
  intro w hw
  obtain ⟨k, hk, rfl⟩ := List.mem_map.mp hw
  have hk := List.mem_range.mp hk
  match k, hk with
  | 0, _ => exact (qw2 19 rfl rfl)
  | 1, _ => exact (qw2 21 rfl rfl)
  | 2, _ => exact (qw2 23 rfl rfl)
  | 3, _ => exact (qw2 25 rfl rfl)
  | 4, _ => exact (qw2 27 rfl rfl)
  | 5, _ => exact (qw2 29 rfl rfl)
  | 6, _ => exact (qw2 31 rfl rfl)
theorem nm_Re : ∀ a, a < 7 → ∀ b, b < 7 → a ≠ b → (F_Re a).2.1 ≠ (F_Re b).2.1 := by decide +kernel
theorem ty_Re : ∀ k, k < 7 → parseFieldDescriptor (F_Re k).2.2.1 = some (t_Re k) := by decide +kernel
theorem nf_Re : ∀ k, k < 7 → t_Re k ≠ .float ∧ t_Re k ≠ .double := by decide +kernel
theorem ws_Jo : ∀ w ∈ u_ws R_Jo F_Jo 9, w ∈ qGW := by
  intro w hw
  obtain ⟨k, hk, rfl⟩ := List.mem_map.mp hw
  have hk := List.mem_range.mp hk
  match k, hk with
  | 0, _ => exact (qw2 113 rfl rfl)
  | 1, _ => exact (qw2 115 rfl rfl)
  | 2, _ => exact (qw2 117 rfl rfl)
  | 3, _ => exact (qw2 119 rfl rfl)
  | 4, _ => exact (qw2 121 rfl rfl)
  | 5, _ => exact (qw2 123 rfl rfl)
  | 6, _ => exact (qw2 125 rfl rfl)
  | 7, _ => exact (qw2 127 rfl rfl)
  | 8, _ => exact (qw2 129 rfl rfl)
theorem nm_Jo : ∀ a, a < 9 → ∀ b, b < 9 → a ≠ b → (F_Jo a).2.1 ≠ (F_Jo b).2.1 := by decide +kernel
theorem ty_Jo : ∀ k, k < 9 → parseFieldDescriptor (F_Jo k).2.2.1 = some (t_Jo k) := by decide +kernel
theorem nf_Jo : ∀ k, k < 9 → t_Jo k ≠ .float ∧ t_Jo k ≠ .double := by decide +kernel
theorem ws_Li : ∀ w ∈ u_ws R_Li F_Li 4, w ∈ qGW := by
  intro w hw
  obtain ⟨k, hk, rfl⟩ := List.mem_map.mp hw
  have hk := List.mem_range.mp hk
  match k, hk with
  | 0, _ => exact (qw2 57 rfl rfl)
  | 1, _ => exact (qw2 59 rfl rfl)
  | 2, _ => exact (qw2 61 rfl rfl)
  | 3, _ => exact (qw2 63 rfl rfl)
theorem nm_Li : ∀ a, a < 4 → ∀ b, b < 4 → a ≠ b → (F_Li a).2.1 ≠ (F_Li b).2.1 := by decide +kernel
theorem ty_Li : ∀ k, k < 4 → parseFieldDescriptor (F_Li k).2.2.1 = some (t_Li k) := by decide +kernel
theorem nf_Li : ∀ k, k < 4 → t_Li k ≠ .float ∧ t_Li k ≠ .double := by decide +kernel
theorem ws_Ta : ∀ w ∈ u_ws R_Ta F_Ta 6, w ∈ qGW := by
  intro w hw
  obtain ⟨k, hk, rfl⟩ := List.mem_map.mp hw
  have hk := List.mem_range.mp hk
  match k, hk with
  | 0, _ => exact (qw2 84 rfl rfl)
  | 1, _ => exact (qw2 86 rfl rfl)
  | 2, _ => exact (qw2 88 rfl rfl)
  | 3, _ => exact (qw2 90 rfl rfl)
  | 4, _ => exact (qw2 92 rfl rfl)
  | 5, _ => exact (qw2 94 rfl rfl)
theorem nm_Ta : ∀ a, a < 6 → ∀ b, b < 6 → a ≠ b → (F_Ta a).2.1 ≠ (F_Ta b).2.1 := by decide +kernel
theorem ty_Ta : ∀ k, k < 6 → parseFieldDescriptor (F_Ta k).2.2.1 = some (t_Ta k) := by decide +kernel
theorem nf_Ta : ∀ k, k < 6 → t_Ta k ≠ .float ∧ t_Ta k ≠ .double := by decide +kernel
theorem ws_QM : ∀ w ∈ u_ws R_QM F_QM 56, w ∈ qGW := by
  intro w hw
  obtain ⟨k, hk, rfl⟩ := List.mem_map.mp hw
  have hk := List.mem_range.mp hk
  match k, hk with
  | 0, _ => exact (qw4 161 rfl rfl)
  | 1, _ => exact (qw4 163 rfl rfl)
  | 2, _ => exact (qw4 165 rfl rfl)
  | 3, _ => exact (qw4 167 rfl rfl)
  | 4, _ => exact (qw4 169 rfl rfl)
  | 5, _ => exact (qw4 171 rfl rfl)
  | 6, _ => exact (qw4 173 rfl rfl)
  | 7, _ => exact (qw4 175 rfl rfl)
  | 8, _ => exact (qw4 177 rfl rfl)
  | 9, _ => exact (qw4 179 rfl rfl)
  | 10, _ => exact (qw4 181 rfl rfl)
  | 11, _ => exact (qw4 183 rfl rfl)
  | 12, _ => exact (qw4 185 rfl rfl)
  | 13, _ => exact (qw4 187 rfl rfl)
  | 14, _ => exact (qw4 189 rfl rfl)
  | 15, _ => exact (qw4 191 rfl rfl)
  | 16, _ => exact (qw4 193 rfl rfl)
  | 17, _ => exact (qw4 195 rfl rfl)
  | 18, _ => exact (qw4 197 rfl rfl)
  | 19, _ => exact (qw4 199 rfl rfl)
  | 20, _ => exact (qw4 201 rfl rfl)
  | 21, _ => exact (qw4 203 rfl rfl)
  | 22, _ => exact (qw4 205 rfl rfl)
  | 23, _ => exact (qw4 207 rfl rfl)
  | 24, _ => exact (qw4 209 rfl rfl)
  | 25, _ => exact (qw4 211 rfl rfl)
  | 26, _ => exact (qw4 213 rfl rfl)
  | 27, _ => exact (qw4 215 rfl rfl)
  | 28, _ => exact (qw4 217 rfl rfl)
  | 29, _ => exact (qw4 219 rfl rfl)
  | 30, _ => exact (qw4 221 rfl rfl)
  | 31, _ => exact (qw4 223 rfl rfl)
  | 32, _ => exact (qw4 225 rfl rfl)
  | 33, _ => exact (qw4 227 rfl rfl)
  | 34, _ => exact (qw4 229 rfl rfl)
  | 35, _ => exact (qw4 231 rfl rfl)
  | 36, _ => exact (qw4 233 rfl rfl)
  | 37, _ => exact (qw4 235 rfl rfl)
  | 38, _ => exact (qw4 237 rfl rfl)
  | 39, _ => exact (qw4 239 rfl rfl)
  | 40, _ => exact (qw5 1 rfl rfl)
  | 41, _ => exact (qw5 3 rfl rfl)
  | 42, _ => exact (qw5 5 rfl rfl)
  | 43, _ => exact (qw5 7 rfl rfl)
  | 44, _ => exact (qw5 9 rfl rfl)
  | 45, _ => exact (qw5 11 rfl rfl)
  | 46, _ => exact (qw5 13 rfl rfl)
  | 47, _ => exact (qw5 15 rfl rfl)
  | 48, _ => exact (qw5 17 rfl rfl)
  | 49, _ => exact (qw5 19 rfl rfl)
  | 50, _ => exact (qw5 21 rfl rfl)
  | 51, _ => exact (qw5 23 rfl rfl)
  | 52, _ => exact (qw5 25 rfl rfl)
  | 53, _ => exact (qw5 27 rfl rfl)
  | 54, _ => exact (qw5 29 rfl rfl)
  | 55, _ => exact (qw5 31 rfl rfl)
  | k + 56, hk => exact absurd hk (by omega)
theorem nm_QM : ∀ a, a < 56 → ∀ b, b < 56 → a ≠ b → (F_QM a).2.1 ≠ (F_QM b).2.1 := by decide +kernel
theorem ty_QM : ∀ k, k < 56 → parseFieldDescriptor (F_QM k).2.2.1 = some (t_QM k) := by decide +kernel
theorem nf_QM : ∀ k, k < 56 → t_QM k ≠ .float ∧ t_QM k ≠ .double := by decide +kernel
theorem fR_QF_12 : qFlR "QueryFleet" 12 0 0 true := ⟨⟨by decide, by decide, R_QF, F_QF, rfl, ws_QF, ty_QF, nm_QF, rfl, rfl, Or.inl (qw2 132 rfl rfl)⟩, fun _ _ _ _ => rfl, fun _ => ⟨rfl, rfl⟩⟩
theorem fF_QF_12 : qFlRF "QueryFleet" 12 0 0 := ⟨⟨by decide, by decide, F_QF, rfl, ws_QF, ty_QF, nm_QF, rfl, rfl, (qw2 132 rfl rfl)⟩, fun _ _ _ _ => rfl, fun _ => ⟨rfl, rfl⟩⟩
theorem fR_QF_16 : qFlR "QueryFleet" 16 1 0 true := ⟨⟨by decide, by decide, R_Pl, F_Pl, rfl, ws_Pl, ty_Pl, nm_Pl, rfl, rfl, Or.inr ⟨"QueryFleet", List.mem_of_getElem? (i := 28) rfl⟩⟩, fun _ _ _ _ => rfl, fun _ => ⟨rfl, rfl⟩⟩
theorem fR_QF_20 : qFlR "QueryFleet" 20 0 1 true := ⟨⟨by decide, by decide, R_QF, F_QF, rfl, ws_QF, ty_QF, nm_QF, rfl, rfl, Or.inl (qw2 133 rfl rfl)⟩, fun _ _ _ _ => rfl, fun _ => ⟨rfl, rfl⟩⟩
theorem fF_QF_20 : qFlRF "QueryFleet" 20 0 1 := ⟨⟨by decide, by decide, F_QF, rfl, ws_QF, ty_QF, nm_QF, rfl, rfl, (qw2 133 rfl rfl)⟩, fun _ _ _ _ => rfl, fun _ => ⟨rfl, rfl⟩⟩
theorem fR_QF_21 : qFlR "QueryFleet" 21 1 1 true := ⟨⟨by decide, by decide, R_Pl, F_Pl, rfl, ws_Pl, ty_Pl, nm_Pl, rfl, rfl, Or.inr ⟨"QueryFleet", List.mem_of_getElem? (i := 29) rfl⟩⟩, fun _ _ _ _ => rfl, fun _ => ⟨rfl, rfl⟩⟩
theorem fR_QF_25 : qFlR "QueryFleet" 25 0 2 true := ⟨⟨by decide, by decide, R_QF, F_QF, rfl, ws_QF, ty_QF, nm_QF, rfl, rfl, Or.inl (qw2 134 rfl rfl)⟩, fun _ _ _ _ => rfl, fun _ => ⟨rfl, rfl⟩⟩
theorem fF_QF_25 : qFlRF "QueryFleet" 25 0 2 := ⟨⟨by decide, by decide, F_QF, rfl, ws_QF, ty_QF, nm_QF, rfl, rfl, (qw2 134 rfl rfl)⟩, fun _ _ _ _ => rfl, fun _ => ⟨rfl, rfl⟩⟩
theorem fR_QF_29 : qFlR "QueryFleet" 29 0 3 true := ⟨⟨by decide, by decide, R_QF, F_QF, rfl, ws_QF, ty_QF, nm_QF, rfl, rfl, Or.inl (qw2 135 rfl rfl)⟩, fun _ _ _ _ => rfl, fun _ => ⟨rfl, rfl⟩⟩
theorem fF_QF_29 : qFlRF "QueryFleet" 29 0 3 := ⟨⟨by decide, by decide, F_QF, rfl, ws_QF, ty_QF, nm_QF, rfl, rfl, (qw2 135 rfl rfl)⟩, fun _ _ _ _ => rfl, fun _ => ⟨rfl, rfl⟩⟩
theorem fR_QF_36 : qFlR "QueryFleet" 36 0 4 true := ⟨⟨by decide, by decide, R_QF, F_QF, rfl, ws_QF, ty_QF, nm_QF, rfl, rfl, Or.inl (qw2 136 rfl rfl)⟩, fun _ _ _ _ => rfl, fun _ => ⟨rfl, rfl⟩⟩
theorem fF_QF_36 : qFlRF "QueryFleet" 36 0 4 := ⟨⟨by decide, by decide, F_QF, rfl, ws_QF, ty_QF, nm_QF, rfl, rfl, (qw2 136 rfl rfl)⟩, fun _ _ _ _ => rfl, fun _ => ⟨rfl, rfl⟩⟩
theorem fI_QF_40 : qFlI "QueryFleet" 40 8 0 false := ⟨⟨by decide, by decide, R_Jo, F_Jo, rfl, ws_Jo, ty_Jo, nm_Jo, rfl, rfl, Or.inr ⟨"QueryFleet", List.mem_of_getElem? (i := 46) rfl⟩⟩, fun _ _ _ _ => rfl⟩
theorem fI_QF_81 : qFlI "QueryFleet" 81 2 13 false := ⟨⟨by decide, by decide, R_Qu, F_Qu, rfl, ws_Qu, ty_Qu, nm_Qu, rfl, rfl, Or.inr ⟨"QueryFleet", List.mem_of_getElem? (i := 18) rfl⟩⟩, fun _ _ _ _ => rfl⟩
theorem fI_QF_85 : qFlI "QueryFleet" 85 2 14 false := ⟨⟨by decide, by decide, R_Qu, F_Qu, rfl, ws_Qu, ty_Qu, nm_Qu, rfl, rfl, Or.inr ⟨"QueryFleet", List.mem_of_getElem? (i := 20) rfl⟩⟩, fun _ _ _ _ => rfl⟩
theorem fI_QF_88 : qFlI "QueryFleet" 88 2 15 false := ⟨⟨by decide, by decide, R_Qu, F_Qu, rfl, ws_Qu, ty_Qu, nm_Qu, rfl, rfl, Or.inr ⟨"QueryFleet", List.mem_of_getElem? (i := 22) rfl⟩⟩, fun _ _ _ _ => rfl⟩
theorem fI_QF_91 : qFlI "QueryFleet" 91 2 16 false := ⟨⟨by decide, by decide, R_Qu, F_Qu, rfl, ws_Qu, ty_Qu, nm_Qu, rfl, rfl, Or.inr ⟨"QueryFleet", List.mem_of_getElem? (i := 24) rfl⟩⟩, fun _ _ _ _ => rfl⟩
theorem fI_QF_94 : qFlI "QueryFleet" 94 2 7 false := ⟨⟨by decide, by decide, R_Qu, F_Qu, rfl, ws_Qu, ty_Qu, nm_Qu, rfl, rfl, Or.inr ⟨"QueryFleet", List.mem_of_getElem? (i := 11) rfl⟩⟩, fun _ _ _ _ => rfl⟩
theorem fI_QF_134 : qFlI "QueryFleet" 134 8 3 false := ⟨⟨by decide, by decide, R_Jo, F_Jo, rfl, ws_Jo, ty_Jo, nm_Jo, rfl, rfl, Or.inr ⟨"QueryFleet", List.mem_of_getElem? (i := 49) rfl⟩⟩, fun _ _ _ _ => rfl⟩
theorem fR_QF_137 : qFlR "QueryFleet" 137 8 7 true := ⟨⟨by decide, by decide, R_Jo, F_Jo, rfl, ws_Jo, ty_Jo, nm_Jo, rfl, rfl, Or.inr ⟨"QueryFleet", List.mem_of_getElem? (i := 51) rfl⟩⟩, fun _ _ _ _ => rfl, fun _ => ⟨rfl, rfl⟩⟩
theorem fI_QF_141 : qFlI "QueryFleet" 141 9 3 false := ⟨⟨by decide, by decide, R_Li, F_Li, rfl, ws_Li, ty_Li, nm_Li, rfl, rfl, Or.inr ⟨"QueryFleet", List.mem_of_getElem? (i := 39) rfl⟩⟩, fun _ _ _ _ => rfl⟩
theorem fR_QF_159 : qFlR "QueryFleet" 159 8 8 true := ⟨⟨by decide, by decide, R_Jo, F_Jo, rfl, ws_Jo, ty_Jo, nm_Jo, rfl, rfl, Or.inr ⟨"QueryFleet", List.mem_of_getElem? (i := 52) rfl⟩⟩, fun _ _ _ _ => rfl, fun _ => ⟨rfl, rfl⟩⟩
theorem fR_QF_174 : qFlR "QueryFleet" 174 8 2 true := ⟨⟨by decide, by decide, R_Jo, F_Jo, rfl, ws_Jo, ty_Jo, nm_Jo, rfl, rfl, Or.inr ⟨"QueryFleet", List.mem_of_getElem? (i := 48) rfl⟩⟩, fun _ _ _ _ => rfl, fun _ => ⟨rfl, rfl⟩⟩
theorem fI_QF_185 : qFlI "QueryFleet" 185 7 5 false := ⟨⟨by decide, by decide, R_Re, F_Re, rfl, ws_Re, ty_Re, nm_Re, rfl, rfl, Or.inr ⟨"QueryFleet", List.mem_of_getElem? (i := 33) rfl⟩⟩, fun _ _ _ _ => rfl⟩
theorem fI_QF_188 : qFlI "QueryFleet" 188 7 4 false := ⟨⟨by decide, by decide, R_Re, F_Re, rfl, ws_Re, ty_Re, nm_Re, rfl, rfl, Or.inr ⟨"QueryFleet", List.mem_of_getElem? (i := 32) rfl⟩⟩, fun _ _ _ _ => rfl⟩
theorem fI_QF_190 : qFlI "QueryFleet" 190 7 6 false := ⟨⟨by decide, by decide, R_Re, F_Re, rfl, ws_Re, ty_Re, nm_Re, rfl, rfl, Or.inr ⟨"QueryFleet", List.mem_of_getElem? (i := 34) rfl⟩⟩, fun _ _ _ _ => rfl⟩
theorem fI_QF_193 : qFlI "QueryFleet" 193 8 5 false := ⟨⟨by decide, by decide, R_Jo, F_Jo, rfl, ws_Jo, ty_Jo, nm_Jo, rfl, rfl, Or.inr ⟨"QueryFleet", List.mem_of_getElem? (i := 50) rfl⟩⟩, fun _ _ _ _ => rfl⟩
theorem fI_QF_206 : qFlI "QueryFleet" 206 2 0 false := ⟨⟨by decide, by decide, R_Qu, F_Qu, rfl, ws_Qu, ty_Qu, nm_Qu, rfl, rfl, Or.inr ⟨"QueryFleet", List.mem_of_getElem? (i := 5) rfl⟩⟩, fun _ _ _ _ => rfl⟩
theorem fI_QF_209 : qFlI "QueryFleet" 209 8 1 false := ⟨⟨by decide, by decide, R_Jo, F_Jo, rfl, ws_Jo, ty_Jo, nm_Jo, rfl, rfl, Or.inr ⟨"QueryFleet", List.mem_of_getElem? (i := 47) rfl⟩⟩, fun _ _ _ _ => rfl⟩
theorem fL_Ag_9 : qFlL "QueryFleet$Aggregate" 9 5 0 false := ⟨⟨by decide, by decide, R_Ag, F_Ag, rfl, ws_Ag, ty_Ag, nm_Ag, rfl, rfl, Or.inl (qw1 170 rfl rfl)⟩, rfl⟩
theorem fL_Ag_15 : qFlL "QueryFleet$Aggregate" 15 5 1 false := ⟨⟨by decide, by decide, R_Ag, F_Ag, rfl, ws_Ag, ty_Ag, nm_Ag, rfl, rfl, Or.inl (qw1 171 rfl rfl)⟩, rfl⟩
theorem fL_Ag_18 : qFlL "QueryFleet$Aggregate" 18 5 2 false := ⟨⟨by decide, by decide, R_Ag, F_Ag, rfl, ws_Ag, ty_Ag, nm_Ag, rfl, rfl, Or.inl (qw1 172 rfl rfl)⟩, rfl⟩
theorem fL_Ag_21 : qFlL "QueryFleet$Aggregate" 21 5 3 false := ⟨⟨by decide, by decide, R_Ag, F_Ag, rfl, ws_Ag, ty_Ag, nm_Ag, rfl, rfl, Or.inl (qw1 173 rfl rfl)⟩, rfl⟩
theorem fL_Ag_26 : qFlL "QueryFleet$Aggregate" 26 5 4 false := ⟨⟨by decide, by decide, R_Ag, F_Ag, rfl, ws_Ag, ty_Ag, nm_Ag, rfl, rfl, Or.inl (qw1 174 rfl rfl)⟩, rfl⟩
theorem fL_Ag_31 : qFlL "QueryFleet$Aggregate" 31 5 5 false := ⟨⟨by decide, by decide, R_Ag, F_Ag, rfl, ws_Ag, ty_Ag, nm_Ag, rfl, rfl, Or.inl (qw1 175 rfl rfl)⟩, rfl⟩
theorem fR_Ex_9 : qFlR "QueryFleet$Expression" 9 3 0 true := ⟨⟨by decide, by decide, R_Ex, F_Ex, rfl, ws_Ex, ty_Ex, nm_Ex, rfl, rfl, Or.inl (qw1 47 rfl rfl)⟩, fun _ _ _ _ => rfl, fun _ => ⟨rfl, rfl⟩⟩
theorem fF_Ex_9 : qFlRF "QueryFleet$Expression" 9 3 0 := ⟨⟨by decide, by decide, F_Ex, rfl, ws_Ex, ty_Ex, nm_Ex, rfl, rfl, (qw1 47 rfl rfl)⟩, fun _ _ _ _ => rfl, fun _ => ⟨rfl, rfl⟩⟩
theorem fR_Ex_15 : qFlR "QueryFleet$Expression" 15 3 1 true := ⟨⟨by decide, by decide, R_Ex, F_Ex, rfl, ws_Ex, ty_Ex, nm_Ex, rfl, rfl, Or.inl (qw1 49 rfl rfl)⟩, fun _ _ _ _ => rfl, fun _ => ⟨rfl, rfl⟩⟩
theorem fF_Ex_15 : qFlRF "QueryFleet$Expression" 15 3 1 := ⟨⟨by decide, by decide, F_Ex, rfl, ws_Ex, ty_Ex, nm_Ex, rfl, rfl, (qw1 49 rfl rfl)⟩, fun _ _ _ _ => rfl, fun _ => ⟨rfl, rfl⟩⟩
theorem fI_Ex_18 : qFlI "QueryFleet$Expression" 18 3 2 false := ⟨⟨by decide, by decide, R_Ex, F_Ex, rfl, ws_Ex, ty_Ex, nm_Ex, rfl, rfl, Or.inl (qw1 51 rfl rfl)⟩, fun _ _ _ _ => rfl⟩
theorem fI_Ex_22 : qFlI "QueryFleet$Expression" 22 3 3 false := ⟨⟨by decide, by decide, R_Ex, F_Ex, rfl, ws_Ex, ty_Ex, nm_Ex, rfl, rfl, Or.inl (qw1 54 rfl rfl)⟩, fun _ _ _ _ => rfl⟩
theorem fI_Ex_26 : qFlI "QueryFleet$Expression" 26 3 4 false := ⟨⟨by decide, by decide, R_Ex, F_Ex, rfl, ws_Ex, ty_Ex, nm_Ex, rfl, rfl, Or.inl (qw1 56 rfl rfl)⟩, fun _ _ _ _ => rfl⟩
theorem fR_Jo_11 : qFlR "QueryFleet$Job" 11 8 2 true := ⟨⟨by decide, by decide, R_Jo, F_Jo, rfl, ws_Jo, ty_Jo, nm_Jo, rfl, rfl, Or.inl (qw2 101 rfl rfl)⟩, fun _ _ _ _ => rfl, fun _ => ⟨rfl, rfl⟩⟩
theorem fF_Jo_11 : qFlRF "QueryFleet$Job" 11 8 2 := ⟨⟨by decide, by decide, F_Jo, rfl, ws_Jo, ty_Jo, nm_Jo, rfl, rfl, (qw2 101 rfl rfl)⟩, fun _ _ _ _ => rfl, fun _ => ⟨rfl, rfl⟩⟩
theorem fR_Jo_22 : qFlR "QueryFleet$Job" 22 8 7 true := ⟨⟨by decide, by decide, R_Jo, F_Jo, rfl, ws_Jo, ty_Jo, nm_Jo, rfl, rfl, Or.inl (qw2 109 rfl rfl)⟩, fun _ _ _ _ => rfl, fun _ => ⟨rfl, rfl⟩⟩
theorem fF_Jo_22 : qFlRF "QueryFleet$Job" 22 8 7 := ⟨⟨by decide, by decide, F_Jo, rfl, ws_Jo, ty_Jo, nm_Jo, rfl, rfl, (qw2 109 rfl rfl)⟩, fun _ _ _ _ => rfl, fun _ => ⟨rfl, rfl⟩⟩
theorem fR_Jo_26 : qFlR "QueryFleet$Job" 26 8 8 true := ⟨⟨by decide, by decide, R_Jo, F_Jo, rfl, ws_Jo, ty_Jo, nm_Jo, rfl, rfl, Or.inl (qw2 111 rfl rfl)⟩, fun _ _ _ _ => rfl, fun _ => ⟨rfl, rfl⟩⟩
theorem fF_Jo_26 : qFlRF "QueryFleet$Job" 26 8 8 := ⟨⟨by decide, by decide, F_Jo, rfl, ws_Jo, ty_Jo, nm_Jo, rfl, rfl, (qw2 111 rfl rfl)⟩, fun _ _ _ _ => rfl, fun _ => ⟨rfl, rfl⟩⟩
theorem fI_Jo_31 : qFlI "QueryFleet$Job" 31 8 0 false := ⟨⟨by decide, by decide, R_Jo, F_Jo, rfl, ws_Jo, ty_Jo, nm_Jo, rfl, rfl, Or.inl (qw2 97 rfl rfl)⟩, fun _ _ _ _ => rfl⟩
theorem fI_Jo_35 : qFlI "QueryFleet$Job" 35 8 1 false := ⟨⟨by decide, by decide, R_Jo, F_Jo, rfl, ws_Jo, ty_Jo, nm_Jo, rfl, rfl, Or.inl (qw2 99 rfl rfl)⟩, fun _ _ _ _ => rfl⟩
theorem fI_Jo_39 : qFlI "QueryFleet$Job" 39 8 3 false := ⟨⟨by decide, by decide, R_Jo, F_Jo, rfl, ws_Jo, ty_Jo, nm_Jo, rfl, rfl, Or.inl (qw2 103 rfl rfl)⟩, fun _ _ _ _ => rfl⟩
theorem fI_Jo_42 : qFlI "QueryFleet$Job" 42 8 4 false := ⟨⟨by decide, by decide, R_Jo, F_Jo, rfl, ws_Jo, ty_Jo, nm_Jo, rfl, rfl, Or.inl (qw2 105 rfl rfl)⟩, fun _ _ _ _ => rfl⟩
theorem fI_Jo_45 : qFlI "QueryFleet$Job" 45 8 5 false := ⟨⟨by decide, by decide, R_Jo, F_Jo, rfl, ws_Jo, ty_Jo, nm_Jo, rfl, rfl, Or.inl (qw2 106 rfl rfl)⟩, fun _ _ _ _ => rfl⟩
theorem fI_Jo_51 : qFlI "QueryFleet$Job" 51 9 3 false := ⟨⟨by decide, by decide, R_Li, F_Li, rfl, ws_Li, ty_Li, nm_Li, rfl, rfl, Or.inr ⟨"QueryFleet", List.mem_of_getElem? (i := 38) rfl⟩⟩, fun _ _ _ _ => rfl⟩
theorem fI_Jo_58 : qFlI "QueryFleet$Job" 58 10 3 false := ⟨⟨by decide, by decide, R_Ta, F_Ta, rfl, ws_Ta, ty_Ta, nm_Ta, rfl, rfl, Or.inr ⟨"QueryFleet", List.mem_of_getElem? (i := 43) rfl⟩⟩, fun _ _ _ _ => rfl⟩
theorem fI_Jo_61 : qFlI "QueryFleet$Job" 61 10 0 false := ⟨⟨by decide, by decide, R_Ta, F_Ta, rfl, ws_Ta, ty_Ta, nm_Ta, rfl, rfl, Or.inr ⟨"QueryFleet", List.mem_of_getElem? (i := 40) rfl⟩⟩, fun _ _ _ _ => rfl⟩
theorem fI_Jo_71 : qFlI "QueryFleet$Job" 71 10 5 false := ⟨⟨by decide, by decide, R_Ta, F_Ta, rfl, ws_Ta, ty_Ta, nm_Ta, rfl, rfl, Or.inr ⟨"QueryFleet", List.mem_of_getElem? (i := 45) rfl⟩⟩, fun _ _ _ _ => rfl⟩
theorem fI_Jo_78 : qFlI "QueryFleet$Job" 78 8 6 false := ⟨⟨by decide, by decide, R_Jo, F_Jo, rfl, ws_Jo, ty_Jo, nm_Jo, rfl, rfl, Or.inl (qw2 108 rfl rfl)⟩, fun _ _ _ _ => rfl⟩
theorem fI_Jo_81 : qFlI "QueryFleet$Job" 81 10 4 false := ⟨⟨by decide, by decide, R_Ta, F_Ta, rfl, ws_Ta, ty_Ta, nm_Ta, rfl, rfl, Or.inr ⟨"QueryFleet", List.mem_of_getElem? (i := 44) rfl⟩⟩, fun _ _ _ _ => rfl⟩
theorem fI_Jo_84 : qFlI "QueryFleet$Job" 84 10 1 false := ⟨⟨by decide, by decide, R_Ta, F_Ta, rfl, ws_Ta, ty_Ta, nm_Ta, rfl, rfl, Or.inr ⟨"QueryFleet", List.mem_of_getElem? (i := 41) rfl⟩⟩, fun _ _ _ _ => rfl⟩
theorem fR_Jo_93 : qFlR "QueryFleet$Job" 93 9 0 true := ⟨⟨by decide, by decide, R_Li, F_Li, rfl, ws_Li, ty_Li, nm_Li, rfl, rfl, Or.inr ⟨"QueryFleet", List.mem_of_getElem? (i := 35) rfl⟩⟩, fun _ _ _ _ => rfl, fun _ => ⟨rfl, rfl⟩⟩
theorem fR_Jo_97 : qFlR "QueryFleet$Job" 97 9 1 true := ⟨⟨by decide, by decide, R_Li, F_Li, rfl, ws_Li, ty_Li, nm_Li, rfl, rfl, Or.inr ⟨"QueryFleet", List.mem_of_getElem? (i := 36) rfl⟩⟩, fun _ _ _ _ => rfl, fun _ => ⟨rfl, rfl⟩⟩
theorem fR_Jo_99 : qFlR "QueryFleet$Job" 99 9 2 true := ⟨⟨by decide, by decide, R_Li, F_Li, rfl, ws_Li, ty_Li, nm_Li, rfl, rfl, Or.inr ⟨"QueryFleet", List.mem_of_getElem? (i := 37) rfl⟩⟩, fun _ _ _ _ => rfl, fun _ => ⟨rfl, rfl⟩⟩
theorem fI_Jo_113 : qFlI "QueryFleet$Job" 113 10 2 false := ⟨⟨by decide, by decide, R_Ta, F_Ta, rfl, ws_Ta, ty_Ta, nm_Ta, rfl, rfl, Or.inr ⟨"QueryFleet", List.mem_of_getElem? (i := 42) rfl⟩⟩, fun _ _ _ _ => rfl⟩
theorem fR_Li_7 : qFlR "QueryFleet$Line" 7 9 0 true := ⟨⟨by decide, by decide, R_Li, F_Li, rfl, ws_Li, ty_Li, nm_Li, rfl, rfl, Or.inl (qw2 48 rfl rfl)⟩, fun _ _ _ _ => rfl, fun _ => ⟨rfl, rfl⟩⟩
theorem fF_Li_7 : qFlRF "QueryFleet$Line" 7 9 0 := ⟨⟨by decide, by decide, F_Li, rfl, ws_Li, ty_Li, nm_Li, rfl, rfl, (qw2 48 rfl rfl)⟩, fun _ _ _ _ => rfl, fun _ => ⟨rfl, rfl⟩⟩
theorem fR_Li_13 : qFlR "QueryFleet$Line" 13 9 1 true := ⟨⟨by decide, by decide, R_Li, F_Li, rfl, ws_Li, ty_Li, nm_Li, rfl, rfl, Or.inl (qw2 50 rfl rfl)⟩, fun _ _ _ _ => rfl, fun _ => ⟨rfl, rfl⟩⟩
theorem fF_Li_13 : qFlRF "QueryFleet$Line" 13 9 1 := ⟨⟨by decide, by decide, F_Li, rfl, ws_Li, ty_Li, nm_Li, rfl, rfl, (qw2 50 rfl rfl)⟩, fun _ _ _ _ => rfl, fun _ => ⟨rfl, rfl⟩⟩
theorem fR_Li_16 : qFlR "QueryFleet$Line" 16 9 2 true := ⟨⟨by decide, by decide, R_Li, F_Li, rfl, ws_Li, ty_Li, nm_Li, rfl, rfl, Or.inl (qw2 52 rfl rfl)⟩, fun _ _ _ _ => rfl, fun _ => ⟨rfl, rfl⟩⟩
theorem fF_Li_16 : qFlRF "QueryFleet$Line" 16 9 2 := ⟨⟨by decide, by decide, F_Li, rfl, ws_Li, ty_Li, nm_Li, rfl, rfl, (qw2 52 rfl rfl)⟩, fun _ _ _ _ => rfl, fun _ => ⟨rfl, rfl⟩⟩
theorem fI_Li_19 : qFlI "QueryFleet$Line" 19 9 3 false := ⟨⟨by decide, by decide, R_Li, F_Li, rfl, ws_Li, ty_Li, nm_Li, rfl, rfl, Or.inl (qw2 54 rfl rfl)⟩, fun _ _ _ _ => rfl⟩
theorem fR_Ma_9 : qFlR "QueryFleet$Machine" 9 4 0 true := ⟨⟨by decide, by decide, R_Ma, F_Ma, rfl, ws_Ma, ty_Ma, nm_Ma, rfl, rfl, Or.inl (qw1 147 rfl rfl)⟩, fun _ _ _ _ => rfl, fun _ => ⟨rfl, rfl⟩⟩
theorem fF_Ma_9 : qFlRF "QueryFleet$Machine" 9 4 0 := ⟨⟨by decide, by decide, F_Ma, rfl, ws_Ma, ty_Ma, nm_Ma, rfl, rfl, (qw1 147 rfl rfl)⟩, fun _ _ _ _ => rfl, fun _ => ⟨rfl, rfl⟩⟩
theorem fR_Ma_15 : qFlR "QueryFleet$Machine" 15 4 1 true := ⟨⟨by decide, by decide, R_Ma, F_Ma, rfl, ws_Ma, ty_Ma, nm_Ma, rfl, rfl, Or.inl (qw1 149 rfl rfl)⟩, fun _ _ _ _ => rfl, fun _ => ⟨rfl, rfl⟩⟩
theorem fF_Ma_15 : qFlRF "QueryFleet$Machine" 15 4 1 := ⟨⟨by decide, by decide, F_Ma, rfl, ws_Ma, ty_Ma, nm_Ma, rfl, rfl, (qw1 149 rfl rfl)⟩, fun _ _ _ _ => rfl, fun _ => ⟨rfl, rfl⟩⟩
theorem fR_Ma_19 : qFlR "QueryFleet$Machine" 19 4 2 true := ⟨⟨by decide, by decide, R_Ma, F_Ma, rfl, ws_Ma, ty_Ma, nm_Ma, rfl, rfl, Or.inl (qw1 151 rfl rfl)⟩, fun _ _ _ _ => rfl, fun _ => ⟨rfl, rfl⟩⟩
theorem fF_Ma_19 : qFlRF "QueryFleet$Machine" 19 4 2 := ⟨⟨by decide, by decide, F_Ma, rfl, ws_Ma, ty_Ma, nm_Ma, rfl, rfl, (qw1 151 rfl rfl)⟩, fun _ _ _ _ => rfl, fun _ => ⟨rfl, rfl⟩⟩
theorem fR_Ma_22 : qFlR "QueryFleet$Machine" 22 4 3 true := ⟨⟨by decide, by decide, R_Ma, F_Ma, rfl, ws_Ma, ty_Ma, nm_Ma, rfl, rfl, Or.inl (qw1 152 rfl rfl)⟩, fun _ _ _ _ => rfl, fun _ => ⟨rfl, rfl⟩⟩
theorem fF_Ma_22 : qFlRF "QueryFleet$Machine" 22 4 3 := ⟨⟨by decide, by decide, F_Ma, rfl, ws_Ma, ty_Ma, nm_Ma, rfl, rfl, (qw1 152 rfl rfl)⟩, fun _ _ _ _ => rfl, fun _ => ⟨rfl, rfl⟩⟩
theorem fI_Ma_39 : qFlI "QueryFleet$Machine" 39 3 2 false := ⟨⟨by decide, by decide, R_Ex, F_Ex, rfl, ws_Ex, ty_Ex, nm_Ex, rfl, rfl, Or.inr ⟨"QueryFleet", List.mem_of_getElem? (i := 2) rfl⟩⟩, fun _ _ _ _ => rfl⟩
theorem fR_Ma_45 : qFlR "QueryFleet$Machine" 45 3 0 true := ⟨⟨by decide, by decide, R_Ex, F_Ex, rfl, ws_Ex, ty_Ex, nm_Ex, rfl, rfl, Or.inr ⟨"QueryFleet", List.mem_of_getElem? (i := 0) rfl⟩⟩, fun _ _ _ _ => rfl, fun _ => ⟨rfl, rfl⟩⟩
theorem fR_Ma_49 : qFlR "QueryFleet$Machine" 49 3 1 true := ⟨⟨by decide, by decide, R_Ex, F_Ex, rfl, ws_Ex, ty_Ex, nm_Ex, rfl, rfl, Or.inr ⟨"QueryFleet", List.mem_of_getElem? (i := 1) rfl⟩⟩, fun _ _ _ _ => rfl, fun _ => ⟨rfl, rfl⟩⟩
theorem fR_Pl_11 : qFlR "QueryFleet$Plan" 11 1 0 true := ⟨⟨by decide, by decide, R_Pl, F_Pl, rfl, ws_Pl, ty_Pl, nm_Pl, rfl, rfl, Or.inl (qw1 205 rfl rfl)⟩, fun _ _ _ _ => rfl, fun _ => ⟨rfl, rfl⟩⟩
theorem fF_Pl_11 : qFlRF "QueryFleet$Plan" 11 1 0 := ⟨⟨by decide, by decide, F_Pl, rfl, ws_Pl, ty_Pl, nm_Pl, rfl, rfl, (qw1 205 rfl rfl)⟩, fun _ _ _ _ => rfl, fun _ => ⟨rfl, rfl⟩⟩
theorem fR_Pl_20 : qFlR "QueryFleet$Plan" 20 1 1 true := ⟨⟨by decide, by decide, R_Pl, F_Pl, rfl, ws_Pl, ty_Pl, nm_Pl, rfl, rfl, Or.inl (qw1 207 rfl rfl)⟩, fun _ _ _ _ => rfl, fun _ => ⟨rfl, rfl⟩⟩
theorem fF_Pl_20 : qFlRF "QueryFleet$Plan" 20 1 1 := ⟨⟨by decide, by decide, F_Pl, rfl, ws_Pl, ty_Pl, nm_Pl, rfl, rfl, (qw1 207 rfl rfl)⟩, fun _ _ _ _ => rfl, fun _ => ⟨rfl, rfl⟩⟩
theorem fR_Pl_27 : qFlR "QueryFleet$Plan" 27 1 2 true := ⟨⟨by decide, by decide, R_Pl, F_Pl, rfl, ws_Pl, ty_Pl, nm_Pl, rfl, rfl, Or.inl (qw1 209 rfl rfl)⟩, fun _ _ _ _ => rfl, fun _ => ⟨rfl, rfl⟩⟩
theorem fF_Pl_27 : qFlRF "QueryFleet$Plan" 27 1 2 := ⟨⟨by decide, by decide, F_Pl, rfl, ws_Pl, ty_Pl, nm_Pl, rfl, rfl, (qw1 209 rfl rfl)⟩, fun _ _ _ _ => rfl, fun _ => ⟨rfl, rfl⟩⟩
theorem fR_Pl_34 : qFlR "QueryFleet$Plan" 34 1 3 true := ⟨⟨by decide, by decide, R_Pl, F_Pl, rfl, ws_Pl, ty_Pl, nm_Pl, rfl, rfl, Or.inl (qw1 210 rfl rfl)⟩, fun _ _ _ _ => rfl, fun _ => ⟨rfl, rfl⟩⟩
theorem fF_Pl_34 : qFlRF "QueryFleet$Plan" 34 1 3 := ⟨⟨by decide, by decide, F_Pl, rfl, ws_Pl, ty_Pl, nm_Pl, rfl, rfl, (qw1 210 rfl rfl)⟩, fun _ _ _ _ => rfl, fun _ => ⟨rfl, rfl⟩⟩
theorem fR_Pl_38 : qFlR "QueryFleet$Plan" 38 1 4 true := ⟨⟨by decide, by decide, R_Pl, F_Pl, rfl, ws_Pl, ty_Pl, nm_Pl, rfl, rfl, Or.inl (qw1 211 rfl rfl)⟩, fun _ _ _ _ => rfl, fun _ => ⟨rfl, rfl⟩⟩
theorem fF_Pl_38 : qFlRF "QueryFleet$Plan" 38 1 4 := ⟨⟨by decide, by decide, F_Pl, rfl, ws_Pl, ty_Pl, nm_Pl, rfl, rfl, (qw1 211 rfl rfl)⟩, fun _ _ _ _ => rfl, fun _ => ⟨rfl, rfl⟩⟩
theorem fR_Pl_42 : qFlR "QueryFleet$Plan" 42 1 5 true := ⟨⟨by decide, by decide, R_Pl, F_Pl, rfl, ws_Pl, ty_Pl, nm_Pl, rfl, rfl, Or.inl (qw1 212 rfl rfl)⟩, fun _ _ _ _ => rfl, fun _ => ⟨rfl, rfl⟩⟩
theorem fF_Pl_42 : qFlRF "QueryFleet$Plan" 42 1 5 := ⟨⟨by decide, by decide, F_Pl, rfl, ws_Pl, ty_Pl, nm_Pl, rfl, rfl, (qw1 212 rfl rfl)⟩, fun _ _ _ _ => rfl, fun _ => ⟨rfl, rfl⟩⟩
theorem fR_Pl_45 : qFlR "QueryFleet$Plan" 45 1 7 true := ⟨⟨by decide, by decide, R_Pl, F_Pl, rfl, ws_Pl, ty_Pl, nm_Pl, rfl, rfl, Or.inl (qw1 214 rfl rfl)⟩, fun _ _ _ _ => rfl, fun _ => ⟨rfl, rfl⟩⟩
theorem fF_Pl_45 : qFlRF "QueryFleet$Plan" 45 1 7 := ⟨⟨by decide, by decide, F_Pl, rfl, ws_Pl, ty_Pl, nm_Pl, rfl, rfl, (qw1 214 rfl rfl)⟩, fun _ _ _ _ => rfl, fun _ => ⟨rfl, rfl⟩⟩
theorem fR_Pl_48 : qFlR "QueryFleet$Plan" 48 1 8 true := ⟨⟨by decide, by decide, R_Pl, F_Pl, rfl, ws_Pl, ty_Pl, nm_Pl, rfl, rfl, Or.inl (qw1 215 rfl rfl)⟩, fun _ _ _ _ => rfl, fun _ => ⟨rfl, rfl⟩⟩
theorem fF_Pl_48 : qFlRF "QueryFleet$Plan" 48 1 8 := ⟨⟨by decide, by decide, F_Pl, rfl, ws_Pl, ty_Pl, nm_Pl, rfl, rfl, (qw1 215 rfl rfl)⟩, fun _ _ _ _ => rfl, fun _ => ⟨rfl, rfl⟩⟩
theorem fR_Pl_52 : qFlR "QueryFleet$Plan" 52 1 9 true := ⟨⟨by decide, by decide, R_Pl, F_Pl, rfl, ws_Pl, ty_Pl, nm_Pl, rfl, rfl, Or.inl (qw1 216 rfl rfl)⟩, fun _ _ _ _ => rfl, fun _ => ⟨rfl, rfl⟩⟩
theorem fF_Pl_52 : qFlRF "QueryFleet$Plan" 52 1 9 := ⟨⟨by decide, by decide, F_Pl, rfl, ws_Pl, ty_Pl, nm_Pl, rfl, rfl, (qw1 216 rfl rfl)⟩, fun _ _ _ _ => rfl, fun _ => ⟨rfl, rfl⟩⟩
theorem fI_Pl_57 : qFlI "QueryFleet$Plan" 57 2 2 false := ⟨⟨by decide, by decide, R_Qu, F_Qu, rfl, ws_Qu, ty_Qu, nm_Qu, rfl, rfl, Or.inr ⟨"QueryFleet", List.mem_of_getElem? (i := 7) rfl⟩⟩, fun _ _ _ _ => rfl⟩
theorem fI_Pl_61 : qFlI "QueryFleet$Plan" 61 2 3 false := ⟨⟨by decide, by decide, R_Qu, F_Qu, rfl, ws_Qu, ty_Qu, nm_Qu, rfl, rfl, Or.inr ⟨"QueryFleet", List.mem_of_getElem? (i := 8) rfl⟩⟩, fun _ _ _ _ => rfl⟩
theorem fI_Pl_68 : qFlI "QueryFleet$Plan" 68 6 2 false := ⟨⟨by decide, by decide, R_Tb, F_Tb, rfl, ws_Tb, ty_Tb, nm_Tb, rfl, rfl, Or.inr ⟨"QueryFleet", List.mem_of_getElem? (i := 27) rfl⟩⟩, fun _ _ _ _ => rfl⟩
theorem fI_Pl_71 : qFlI "QueryFleet$Plan" 71 1 6 false := ⟨⟨by decide, by decide, R_Pl, F_Pl, rfl, ws_Pl, ty_Pl, nm_Pl, rfl, rfl, Or.inl (qw1 213 rfl rfl)⟩, fun _ _ _ _ => rfl⟩
theorem fI_Pl_82 : qFlI "QueryFleet$Plan" 82 2 1 false := ⟨⟨by decide, by decide, R_Qu, F_Qu, rfl, ws_Qu, ty_Qu, nm_Qu, rfl, rfl, Or.inr ⟨"QueryFleet", List.mem_of_getElem? (i := 6) rfl⟩⟩, fun _ _ _ _ => rfl⟩
theorem fI_Pl_85 : qFlI "QueryFleet$Plan" 85 2 4 false := ⟨⟨by decide, by decide, R_Qu, F_Qu, rfl, ws_Qu, ty_Qu, nm_Qu, rfl, rfl, Or.inr ⟨"QueryFleet", List.mem_of_getElem? (i := 9) rfl⟩⟩, fun _ _ _ _ => rfl⟩
theorem fI_Pl_92 : qFlI "QueryFleet$Plan" 92 2 5 false := ⟨⟨by decide, by decide, R_Qu, F_Qu, rfl, ws_Qu, ty_Qu, nm_Qu, rfl, rfl, Or.inr ⟨"QueryFleet", List.mem_of_getElem? (i := 10) rfl⟩⟩, fun _ _ _ _ => rfl⟩
theorem fI_Pl_102 : qFlI "QueryFleet$Plan" 102 2 9 false := ⟨⟨by decide, by decide, R_Qu, F_Qu, rfl, ws_Qu, ty_Qu, nm_Qu, rfl, rfl, Or.inr ⟨"QueryFleet", List.mem_of_getElem? (i := 13) rfl⟩⟩, fun _ _ _ _ => rfl⟩
theorem fR_Pl_105 : qFlR "QueryFleet$Plan" 105 2 8 true := ⟨⟨by decide, by decide, R_Qu, F_Qu, rfl, ws_Qu, ty_Qu, nm_Qu, rfl, rfl, Or.inr ⟨"QueryFleet", List.mem_of_getElem? (i := 12) rfl⟩⟩, fun _ _ _ _ => rfl, fun _ => ⟨rfl, rfl⟩⟩
theorem fI_Pl_123 : qFlI "QueryFleet$Plan" 123 1 10 false := ⟨⟨by decide, by decide, R_Pl, F_Pl, rfl, ws_Pl, ty_Pl, nm_Pl, rfl, rfl, Or.inl (qw1 217 rfl rfl)⟩, fun _ _ _ _ => rfl⟩
theorem fR_Pl_130 : qFlR "QueryFleet$Plan" 130 4 0 true := ⟨⟨by decide, by decide, R_Ma, F_Ma, rfl, ws_Ma, ty_Ma, nm_Ma, rfl, rfl, Or.inr ⟨"QueryFleet", List.mem_of_getElem? (i := 25) rfl⟩⟩, fun _ _ _ _ => rfl, fun _ => ⟨rfl, rfl⟩⟩
theorem fI_Pl_133 : qFlI "QueryFleet$Plan" 133 2 13 false := ⟨⟨by decide, by decide, R_Qu, F_Qu, rfl, ws_Qu, ty_Qu, nm_Qu, rfl, rfl, Or.inr ⟨"QueryFleet", List.mem_of_getElem? (i := 17) rfl⟩⟩, fun _ _ _ _ => rfl⟩
theorem fR_Pl_136 : qFlR "QueryFleet$Plan" 136 4 1 true := ⟨⟨by decide, by decide, R_Ma, F_Ma, rfl, ws_Ma, ty_Ma, nm_Ma, rfl, rfl, Or.inr ⟨"QueryFleet", List.mem_of_getElem? (i := 26) rfl⟩⟩, fun _ _ _ _ => rfl, fun _ => ⟨rfl, rfl⟩⟩
theorem fI_Pl_143 : qFlI "QueryFleet$Plan" 143 7 4 false := ⟨⟨by decide, by decide, R_Re, F_Re, rfl, ws_Re, ty_Re, nm_Re, rfl, rfl, Or.inr ⟨"QueryFleet", List.mem_of_getElem? (i := 31) rfl⟩⟩, fun _ _ _ _ => rfl⟩
theorem fI_Pl_151 : qFlI "QueryFleet$Plan" 151 7 3 false := ⟨⟨by decide, by decide, R_Re, F_Re, rfl, ws_Re, ty_Re, nm_Re, rfl, rfl, Or.inr ⟨"QueryFleet", List.mem_of_getElem? (i := 30) rfl⟩⟩, fun _ _ _ _ => rfl⟩
theorem fI_Pl_161 : qFlI "QueryFleet$Plan" 161 2 12 false := ⟨⟨by decide, by decide, R_Qu, F_Qu, rfl, ws_Qu, ty_Qu, nm_Qu, rfl, rfl, Or.inr ⟨"QueryFleet", List.mem_of_getElem? (i := 16) rfl⟩⟩, fun _ _ _ _ => rfl⟩
theorem fR_Pl_164 : qFlR "QueryFleet$Plan" 164 2 10 true := ⟨⟨by decide, by decide, R_Qu, F_Qu, rfl, ws_Qu, ty_Qu, nm_Qu, rfl, rfl, Or.inr ⟨"QueryFleet", List.mem_of_getElem? (i := 14) rfl⟩⟩, fun _ _ _ _ => rfl, fun _ => ⟨rfl, rfl⟩⟩
theorem fR_Pl_180 : qFlR "QueryFleet$Plan" 180 2 11 true := ⟨⟨by decide, by decide, R_Qu, F_Qu, rfl, ws_Qu, ty_Qu, nm_Qu, rfl, rfl, Or.inr ⟨"QueryFleet", List.mem_of_getElem? (i := 15) rfl⟩⟩, fun _ _ _ _ => rfl, fun _ => ⟨rfl, rfl⟩⟩
theorem fR_Qu_15 : qFlR "QueryFleet$Query" 15 2 6 true := ⟨⟨by decide, by decide, R_Qu, F_Qu, rfl, ws_Qu, ty_Qu, nm_Qu, rfl, rfl, Or.inl (qw1 81 rfl rfl)⟩, fun _ _ _ _ => rfl, fun _ => ⟨rfl, rfl⟩⟩
theorem fF_Qu_15 : qFlRF "QueryFleet$Query" 15 2 6 := ⟨⟨by decide, by decide, F_Qu, rfl, ws_Qu, ty_Qu, nm_Qu, rfl, rfl, (qw1 81 rfl rfl)⟩, fun _ _ _ _ => rfl, fun _ => ⟨rfl, rfl⟩⟩
theorem fR_Qu_19 : qFlR "QueryFleet$Query" 19 2 8 true := ⟨⟨by decide, by decide, R_Qu, F_Qu, rfl, ws_Qu, ty_Qu, nm_Qu, rfl, rfl, Or.inl (qw1 84 rfl rfl)⟩, fun _ _ _ _ => rfl, fun _ => ⟨rfl, rfl⟩⟩
theorem fF_Qu_19 : qFlRF "QueryFleet$Query" 19 2 8 := ⟨⟨by decide, by decide, F_Qu, rfl, ws_Qu, ty_Qu, nm_Qu, rfl, rfl, (qw1 84 rfl rfl)⟩, fun _ _ _ _ => rfl, fun _ => ⟨rfl, rfl⟩⟩
theorem fR_Qu_22 : qFlR "QueryFleet$Query" 22 2 10 true := ⟨⟨by decide, by decide, R_Qu, F_Qu, rfl, ws_Qu, ty_Qu, nm_Qu, rfl, rfl, Or.inl (qw1 88 rfl rfl)⟩, fun _ _ _ _ => rfl, fun _ => ⟨rfl, rfl⟩⟩
theorem fF_Qu_22 : qFlRF "QueryFleet$Query" 22 2 10 := ⟨⟨by decide, by decide, F_Qu, rfl, ws_Qu, ty_Qu, nm_Qu, rfl, rfl, (qw1 88 rfl rfl)⟩, fun _ _ _ _ => rfl, fun _ => ⟨rfl, rfl⟩⟩
theorem fR_Qu_25 : qFlR "QueryFleet$Query" 25 2 11 true := ⟨⟨by decide, by decide, R_Qu, F_Qu, rfl, ws_Qu, ty_Qu, nm_Qu, rfl, rfl, Or.inl (qw1 90 rfl rfl)⟩, fun _ _ _ _ => rfl, fun _ => ⟨rfl, rfl⟩⟩
theorem fF_Qu_25 : qFlRF "QueryFleet$Query" 25 2 11 := ⟨⟨by decide, by decide, F_Qu, rfl, ws_Qu, ty_Qu, nm_Qu, rfl, rfl, (qw1 90 rfl rfl)⟩, fun _ _ _ _ => rfl, fun _ => ⟨rfl, rfl⟩⟩
theorem fI_Qu_29 : qFlI "QueryFleet$Query" 29 2 13 false := ⟨⟨by decide, by decide, R_Qu, F_Qu, rfl, ws_Qu, ty_Qu, nm_Qu, rfl, rfl, Or.inl (qw1 94 rfl rfl)⟩, fun _ _ _ _ => rfl⟩
theorem fI_Qu_33 : qFlI "QueryFleet$Query" 33 2 16 false := ⟨⟨by decide, by decide, R_Qu, F_Qu, rfl, ws_Qu, ty_Qu, nm_Qu, rfl, rfl, Or.inl (qw1 103 rfl rfl)⟩, fun _ _ _ _ => rfl⟩
theorem fI_Qu_39 : qFlI "QueryFleet$Query" 39 2 0 false := ⟨⟨by decide, by decide, R_Qu, F_Qu, rfl, ws_Qu, ty_Qu, nm_Qu, rfl, rfl, Or.inl (qw1 69 rfl rfl)⟩, fun _ _ _ _ => rfl⟩
theorem fI_Qu_43 : qFlI "QueryFleet$Query" 43 2 1 false := ⟨⟨by decide, by decide, R_Qu, F_Qu, rfl, ws_Qu, ty_Qu, nm_Qu, rfl, rfl, Or.inl (qw1 72 rfl rfl)⟩, fun _ _ _ _ => rfl⟩
theorem fI_Qu_46 : qFlI "QueryFleet$Query" 46 2 2 false := ⟨⟨by decide, by decide, R_Qu, F_Qu, rfl, ws_Qu, ty_Qu, nm_Qu, rfl, rfl, Or.inl (qw1 74 rfl rfl)⟩, fun _ _ _ _ => rfl⟩
theorem fI_Qu_49 : qFlI "QueryFleet$Query" 49 2 3 false := ⟨⟨by decide, by decide, R_Qu, F_Qu, rfl, ws_Qu, ty_Qu, nm_Qu, rfl, rfl, Or.inl (qw1 76 rfl rfl)⟩, fun _ _ _ _ => rfl⟩
theorem fI_Qu_52 : qFlI "QueryFleet$Query" 52 2 4 false := ⟨⟨by decide, by decide, R_Qu, F_Qu, rfl, ws_Qu, ty_Qu, nm_Qu, rfl, rfl, Or.inl (qw1 78 rfl rfl)⟩, fun _ _ _ _ => rfl⟩
theorem fI_Qu_55 : qFlI "QueryFleet$Query" 55 2 5 false := ⟨⟨by decide, by decide, R_Qu, F_Qu, rfl, ws_Qu, ty_Qu, nm_Qu, rfl, rfl, Or.inl (qw1 80 rfl rfl)⟩, fun _ _ _ _ => rfl⟩
theorem fI_Qu_58 : qFlI "QueryFleet$Query" 58 2 7 false := ⟨⟨by decide, by decide, R_Qu, F_Qu, rfl, ws_Qu, ty_Qu, nm_Qu, rfl, rfl, Or.inl (qw1 82 rfl rfl)⟩, fun _ _ _ _ => rfl⟩
theorem fI_Qu_61 : qFlI "QueryFleet$Query" 61 2 9 false := ⟨⟨by decide, by decide, R_Qu, F_Qu, rfl, ws_Qu, ty_Qu, nm_Qu, rfl, rfl, Or.inl (qw1 86 rfl rfl)⟩, fun _ _ _ _ => rfl⟩
theorem fI_Qu_64 : qFlI "QueryFleet$Query" 64 2 12 false := ⟨⟨by decide, by decide, R_Qu, F_Qu, rfl, ws_Qu, ty_Qu, nm_Qu, rfl, rfl, Or.inl (qw1 92 rfl rfl)⟩, fun _ _ _ _ => rfl⟩
theorem fI_Qu_67 : qFlI "QueryFleet$Query" 67 2 14 false := ⟨⟨by decide, by decide, R_Qu, F_Qu, rfl, ws_Qu, ty_Qu, nm_Qu, rfl, rfl, Or.inl (qw1 97 rfl rfl)⟩, fun _ _ _ _ => rfl⟩
theorem fI_Qu_70 : qFlI "QueryFleet$Query" 70 2 15 false := ⟨⟨by decide, by decide, R_Qu, F_Qu, rfl, ws_Qu, ty_Qu, nm_Qu, rfl, rfl, Or.inl (qw1 100 rfl rfl)⟩, fun _ _ _ _ => rfl⟩
theorem fI_Qu_96 : qFlI "QueryFleet$Query" 96 3 3 false := ⟨⟨by decide, by decide, R_Ex, F_Ex, rfl, ws_Ex, ty_Ex, nm_Ex, rfl, rfl, Or.inr ⟨"QueryFleet", List.mem_of_getElem? (i := 4) rfl⟩⟩, fun _ _ _ _ => rfl⟩
theorem fI_Qu_99 : qFlI "QueryFleet$Query" 99 3 2 false := ⟨⟨by decide, by decide, R_Ex, F_Ex, rfl, ws_Ex, ty_Ex, nm_Ex, rfl, rfl, Or.inr ⟨"QueryFleet", List.mem_of_getElem? (i := 3) rfl⟩⟩, fun _ _ _ _ => rfl⟩
theorem fR_Re_9 : qFlR "QueryFleet$Result" 9 7 0 true := ⟨⟨by decide, by decide, R_Re, F_Re, rfl, ws_Re, ty_Re, nm_Re, rfl, rfl, Or.inl (qw2 7 rfl rfl)⟩, fun _ _ _ _ => rfl, fun _ => ⟨rfl, rfl⟩⟩
theorem fF_Re_9 : qFlRF "QueryFleet$Result" 9 7 0 := ⟨⟨by decide, by decide, F_Re, rfl, ws_Re, ty_Re, nm_Re, rfl, rfl, (qw2 7 rfl rfl)⟩, fun _ _ _ _ => rfl, fun _ => ⟨rfl, rfl⟩⟩
theorem fR_Re_15 : qFlR "QueryFleet$Result" 15 7 1 true := ⟨⟨by decide, by decide, R_Re, F_Re, rfl, ws_Re, ty_Re, nm_Re, rfl, rfl, Or.inl (qw2 8 rfl rfl)⟩, fun _ _ _ _ => rfl, fun _ => ⟨rfl, rfl⟩⟩
theorem fF_Re_15 : qFlRF "QueryFleet$Result" 15 7 1 := ⟨⟨by decide, by decide, F_Re, rfl, ws_Re, ty_Re, nm_Re, rfl, rfl, (qw2 8 rfl rfl)⟩, fun _ _ _ _ => rfl, fun _ => ⟨rfl, rfl⟩⟩
theorem fR_Re_19 : qFlR "QueryFleet$Result" 19 7 2 true := ⟨⟨by decide, by decide, R_Re, F_Re, rfl, ws_Re, ty_Re, nm_Re, rfl, rfl, Or.inl (qw2 9 rfl rfl)⟩, fun _ _ _ _ => rfl, fun _ => ⟨rfl, rfl⟩⟩
theorem fF_Re_19 : qFlRF "QueryFleet$Result" 19 7 2 := ⟨⟨by decide, by decide, F_Re, rfl, ws_Re, ty_Re, nm_Re, rfl, rfl, (qw2 9 rfl rfl)⟩, fun _ _ _ _ => rfl, fun _ => ⟨rfl, rfl⟩⟩
theorem fI_Re_23 : qFlI "QueryFleet$Result" 23 2 14 false := ⟨⟨by decide, by decide, R_Qu, F_Qu, rfl, ws_Qu, ty_Qu, nm_Qu, rfl, rfl, Or.inr ⟨"QueryFleet", List.mem_of_getElem? (i := 19) rfl⟩⟩, fun _ _ _ _ => rfl⟩
theorem fI_Re_29 : qFlI "QueryFleet$Result" 29 7 4 false := ⟨⟨by decide, by decide, R_Re, F_Re, rfl, ws_Re, ty_Re, nm_Re, rfl, rfl, Or.inl (qw2 12 rfl rfl)⟩, fun _ _ _ _ => rfl⟩
theorem fI_Re_32 : qFlI "QueryFleet$Result" 32 7 3 false := ⟨⟨by decide, by decide, R_Re, F_Re, rfl, ws_Re, ty_Re, nm_Re, rfl, rfl, Or.inl (qw2 10 rfl rfl)⟩, fun _ _ _ _ => rfl⟩
theorem fI_Re_35 : qFlI "QueryFleet$Result" 35 2 15 false := ⟨⟨by decide, by decide, R_Qu, F_Qu, rfl, ws_Qu, ty_Qu, nm_Qu, rfl, rfl, Or.inr ⟨"QueryFleet", List.mem_of_getElem? (i := 21) rfl⟩⟩, fun _ _ _ _ => rfl⟩
theorem fI_Re_43 : qFlI "QueryFleet$Result" 43 2 16 false := ⟨⟨by decide, by decide, R_Qu, F_Qu, rfl, ws_Qu, ty_Qu, nm_Qu, rfl, rfl, Or.inr ⟨"QueryFleet", List.mem_of_getElem? (i := 23) rfl⟩⟩, fun _ _ _ _ => rfl⟩
theorem fI_Re_52 : qFlI "QueryFleet$Result" 52 7 5 false := ⟨⟨by decide, by decide, R_Re, F_Re, rfl, ws_Re, ty_Re, nm_Re, rfl, rfl, Or.inl (qw2 15 rfl rfl)⟩, fun _ _ _ _ => rfl⟩
theorem fI_Re_64 : qFlI "QueryFleet$Result" 64 7 6 false := ⟨⟨by decide, by decide, R_Re, F_Re, rfl, ws_Re, ty_Re, nm_Re, rfl, rfl, Or.inl (qw2 17 rfl rfl)⟩, fun _ _ _ _ => rfl⟩
theorem fR_Tb_9 : qFlR "QueryFleet$Table" 9 6 0 true := ⟨⟨by decide, by decide, R_Tb, F_Tb, rfl, ws_Tb, ty_Tb, nm_Tb, rfl, rfl, Or.inl (qw1 194 rfl rfl)⟩, fun _ _ _ _ => rfl, fun _ => ⟨rfl, rfl⟩⟩
theorem fF_Tb_9 : qFlRF "QueryFleet$Table" 9 6 0 := ⟨⟨by decide, by decide, F_Tb, rfl, ws_Tb, ty_Tb, nm_Tb, rfl, rfl, (qw1 194 rfl rfl)⟩, fun _ _ _ _ => rfl, fun _ => ⟨rfl, rfl⟩⟩
theorem fR_Tb_15 : qFlR "QueryFleet$Table" 15 6 1 true := ⟨⟨by decide, by decide, R_Tb, F_Tb, rfl, ws_Tb, ty_Tb, nm_Tb, rfl, rfl, Or.inl (qw1 195 rfl rfl)⟩, fun _ _ _ _ => rfl, fun _ => ⟨rfl, rfl⟩⟩
theorem fF_Tb_15 : qFlRF "QueryFleet$Table" 15 6 1 := ⟨⟨by decide, by decide, F_Tb, rfl, ws_Tb, ty_Tb, nm_Tb, rfl, rfl, (qw1 195 rfl rfl)⟩, fun _ _ _ _ => rfl, fun _ => ⟨rfl, rfl⟩⟩
theorem fI_Tb_19 : qFlI "QueryFleet$Table" 19 6 2 false := ⟨⟨by decide, by decide, R_Tb, F_Tb, rfl, ws_Tb, ty_Tb, nm_Tb, rfl, rfl, Or.inl (qw1 196 rfl rfl)⟩, fun _ _ _ _ => rfl⟩
theorem fI_Ta_9 : qFlI "QueryFleet$Task" 9 10 0 false := ⟨⟨by decide, by decide, R_Ta, F_Ta, rfl, ws_Ta, ty_Ta, nm_Ta, rfl, rfl, Or.inl (qw2 72 rfl rfl)⟩, fun _ _ _ _ => rfl⟩
theorem fI_Ta_15 : qFlI "QueryFleet$Task" 15 10 1 false := ⟨⟨by decide, by decide, R_Ta, F_Ta, rfl, ws_Ta, ty_Ta, nm_Ta, rfl, rfl, Or.inl (qw2 74 rfl rfl)⟩, fun _ _ _ _ => rfl⟩
theorem fI_Ta_18 : qFlI "QueryFleet$Task" 18 10 2 false := ⟨⟨by decide, by decide, R_Ta, F_Ta, rfl, ws_Ta, ty_Ta, nm_Ta, rfl, rfl, Or.inl (qw2 76 rfl rfl)⟩, fun _ _ _ _ => rfl⟩
theorem fI_Ta_21 : qFlI "QueryFleet$Task" 21 10 3 false := ⟨⟨by decide, by decide, R_Ta, F_Ta, rfl, ws_Ta, ty_Ta, nm_Ta, rfl, rfl, Or.inl (qw2 78 rfl rfl)⟩, fun _ _ _ _ => rfl⟩
theorem fI_Ta_24 : qFlI "QueryFleet$Task" 24 10 4 false := ⟨⟨by decide, by decide, R_Ta, F_Ta, rfl, ws_Ta, ty_Ta, nm_Ta, rfl, rfl, Or.inl (qw2 80 rfl rfl)⟩, fun _ _ _ _ => rfl⟩
theorem fI_Ta_27 : qFlI "QueryFleet$Task" 27 10 5 false := ⟨⟨by decide, by decide, R_Ta, F_Ta, rfl, ws_Ta, ty_Ta, nm_Ta, rfl, rfl, Or.inl (qw2 82 rfl rfl)⟩, fun _ _ _ _ => rfl⟩
theorem fR_QM_7 : qFlR "QueryFleetModel" 7 11 0 false := ⟨⟨by decide, by decide, R_QM, F_QM, rfl, ws_QM, ty_QM, nm_QM, rfl, rfl, Or.inl (qw4 105 rfl rfl)⟩, fun _ _ _ _ => rfl, fun _ => ⟨rfl, rfl⟩⟩
theorem fR_QM_13 : qFlR "QueryFleetModel" 13 11 1 false := ⟨⟨by decide, by decide, R_QM, F_QM, rfl, ws_QM, ty_QM, nm_QM, rfl, rfl, Or.inl (qw4 106 rfl rfl)⟩, fun _ _ _ _ => rfl, fun _ => ⟨rfl, rfl⟩⟩
theorem fR_QM_17 : qFlR "QueryFleetModel" 17 11 2 false := ⟨⟨by decide, by decide, R_QM, F_QM, rfl, ws_QM, ty_QM, nm_QM, rfl, rfl, Or.inl (qw4 107 rfl rfl)⟩, fun _ _ _ _ => rfl, fun _ => ⟨rfl, rfl⟩⟩
theorem fR_QM_21 : qFlR "QueryFleetModel" 21 11 16 false := ⟨⟨by decide, by decide, R_QM, F_QM, rfl, ws_QM, ty_QM, nm_QM, rfl, rfl, Or.inl (qw4 121 rfl rfl)⟩, fun _ _ _ _ => rfl, fun _ => ⟨rfl, rfl⟩⟩
theorem fR_QM_24 : qFlR "QueryFleetModel" 24 11 17 false := ⟨⟨by decide, by decide, R_QM, F_QM, rfl, ws_QM, ty_QM, nm_QM, rfl, rfl, Or.inl (qw4 122 rfl rfl)⟩, fun _ _ _ _ => rfl, fun _ => ⟨rfl, rfl⟩⟩
theorem fR_QM_27 : qFlR "QueryFleetModel" 27 11 18 false := ⟨⟨by decide, by decide, R_QM, F_QM, rfl, ws_QM, ty_QM, nm_QM, rfl, rfl, Or.inl (qw4 123 rfl rfl)⟩, fun _ _ _ _ => rfl, fun _ => ⟨rfl, rfl⟩⟩
theorem fR_QM_30 : qFlR "QueryFleetModel" 30 11 19 false := ⟨⟨by decide, by decide, R_QM, F_QM, rfl, ws_QM, ty_QM, nm_QM, rfl, rfl, Or.inl (qw4 124 rfl rfl)⟩, fun _ _ _ _ => rfl, fun _ => ⟨rfl, rfl⟩⟩
theorem fR_QM_33 : qFlR "QueryFleetModel" 33 11 20 false := ⟨⟨by decide, by decide, R_QM, F_QM, rfl, ws_QM, ty_QM, nm_QM, rfl, rfl, Or.inl (qw4 125 rfl rfl)⟩, fun _ _ _ _ => rfl, fun _ => ⟨rfl, rfl⟩⟩
theorem fR_QM_36 : qFlR "QueryFleetModel" 36 11 21 false := ⟨⟨by decide, by decide, R_QM, F_QM, rfl, ws_QM, ty_QM, nm_QM, rfl, rfl, Or.inl (qw4 126 rfl rfl)⟩, fun _ _ _ _ => rfl, fun _ => ⟨rfl, rfl⟩⟩
theorem fR_QM_39 : qFlR "QueryFleetModel" 39 11 22 false := ⟨⟨by decide, by decide, R_QM, F_QM, rfl, ws_QM, ty_QM, nm_QM, rfl, rfl, Or.inl (qw4 127 rfl rfl)⟩, fun _ _ _ _ => rfl, fun _ => ⟨rfl, rfl⟩⟩
theorem fR_QM_42 : qFlR "QueryFleetModel" 42 11 23 false := ⟨⟨by decide, by decide, R_QM, F_QM, rfl, ws_QM, ty_QM, nm_QM, rfl, rfl, Or.inl (qw4 128 rfl rfl)⟩, fun _ _ _ _ => rfl, fun _ => ⟨rfl, rfl⟩⟩
theorem fR_QM_45 : qFlR "QueryFleetModel" 45 11 24 false := ⟨⟨by decide, by decide, R_QM, F_QM, rfl, ws_QM, ty_QM, nm_QM, rfl, rfl, Or.inl (qw4 129 rfl rfl)⟩, fun _ _ _ _ => rfl, fun _ => ⟨rfl, rfl⟩⟩
theorem fR_QM_48 : qFlR "QueryFleetModel" 48 11 26 false := ⟨⟨by decide, by decide, R_QM, F_QM, rfl, ws_QM, ty_QM, nm_QM, rfl, rfl, Or.inl (qw4 131 rfl rfl)⟩, fun _ _ _ _ => rfl, fun _ => ⟨rfl, rfl⟩⟩
theorem fR_QM_51 : qFlR "QueryFleetModel" 51 11 27 false := ⟨⟨by decide, by decide, R_QM, F_QM, rfl, ws_QM, ty_QM, nm_QM, rfl, rfl, Or.inl (qw4 132 rfl rfl)⟩, fun _ _ _ _ => rfl, fun _ => ⟨rfl, rfl⟩⟩
theorem fR_QM_54 : qFlR "QueryFleetModel" 54 11 30 false := ⟨⟨by decide, by decide, R_QM, F_QM, rfl, ws_QM, ty_QM, nm_QM, rfl, rfl, Or.inl (qw4 135 rfl rfl)⟩, fun _ _ _ _ => rfl, fun _ => ⟨rfl, rfl⟩⟩
theorem fR_QM_57 : qFlR "QueryFleetModel" 57 11 31 false := ⟨⟨by decide, by decide, R_QM, F_QM, rfl, ws_QM, ty_QM, nm_QM, rfl, rfl, Or.inl (qw4 136 rfl rfl)⟩, fun _ _ _ _ => rfl, fun _ => ⟨rfl, rfl⟩⟩
theorem fR_QM_60 : qFlR "QueryFleetModel" 60 11 32 false := ⟨⟨by decide, by decide, R_QM, F_QM, rfl, ws_QM, ty_QM, nm_QM, rfl, rfl, Or.inl (qw4 137 rfl rfl)⟩, fun _ _ _ _ => rfl, fun _ => ⟨rfl, rfl⟩⟩
theorem fR_QM_63 : qFlR "QueryFleetModel" 63 11 41 false := ⟨⟨by decide, by decide, R_QM, F_QM, rfl, ws_QM, ty_QM, nm_QM, rfl, rfl, Or.inl (qw4 146 rfl rfl)⟩, fun _ _ _ _ => rfl, fun _ => ⟨rfl, rfl⟩⟩
theorem fR_QM_66 : qFlR "QueryFleetModel" 66 11 42 false := ⟨⟨by decide, by decide, R_QM, F_QM, rfl, ws_QM, ty_QM, nm_QM, rfl, rfl, Or.inl (qw4 147 rfl rfl)⟩, fun _ _ _ _ => rfl, fun _ => ⟨rfl, rfl⟩⟩
theorem fR_QM_69 : qFlR "QueryFleetModel" 69 11 43 false := ⟨⟨by decide, by decide, R_QM, F_QM, rfl, ws_QM, ty_QM, nm_QM, rfl, rfl, Or.inl (qw4 148 rfl rfl)⟩, fun _ _ _ _ => rfl, fun _ => ⟨rfl, rfl⟩⟩
theorem fR_QM_72 : qFlR "QueryFleetModel" 72 11 44 false := ⟨⟨by decide, by decide, R_QM, F_QM, rfl, ws_QM, ty_QM, nm_QM, rfl, rfl, Or.inl (qw4 149 rfl rfl)⟩, fun _ _ _ _ => rfl, fun _ => ⟨rfl, rfl⟩⟩
theorem fR_QM_75 : qFlR "QueryFleetModel" 75 11 45 false := ⟨⟨by decide, by decide, R_QM, F_QM, rfl, ws_QM, ty_QM, nm_QM, rfl, rfl, Or.inl (qw4 150 rfl rfl)⟩, fun _ _ _ _ => rfl, fun _ => ⟨rfl, rfl⟩⟩
theorem fR_QM_78 : qFlR "QueryFleetModel" 78 11 46 false := ⟨⟨by decide, by decide, R_QM, F_QM, rfl, ws_QM, ty_QM, nm_QM, rfl, rfl, Or.inl (qw4 151 rfl rfl)⟩, fun _ _ _ _ => rfl, fun _ => ⟨rfl, rfl⟩⟩
theorem fR_QM_81 : qFlR "QueryFleetModel" 81 11 50 false := ⟨⟨by decide, by decide, R_QM, F_QM, rfl, ws_QM, ty_QM, nm_QM, rfl, rfl, Or.inl (qw4 155 rfl rfl)⟩, fun _ _ _ _ => rfl, fun _ => ⟨rfl, rfl⟩⟩
theorem fR_QM_84 : qFlR "QueryFleetModel" 84 11 51 false := ⟨⟨by decide, by decide, R_QM, F_QM, rfl, ws_QM, ty_QM, nm_QM, rfl, rfl, Or.inl (qw4 156 rfl rfl)⟩, fun _ _ _ _ => rfl, fun _ => ⟨rfl, rfl⟩⟩
theorem fR_QM_87 : qFlR "QueryFleetModel" 87 11 52 false := ⟨⟨by decide, by decide, R_QM, F_QM, rfl, ws_QM, ty_QM, nm_QM, rfl, rfl, Or.inl (qw4 157 rfl rfl)⟩, fun _ _ _ _ => rfl, fun _ => ⟨rfl, rfl⟩⟩
theorem fR_QM_90 : qFlR "QueryFleetModel" 90 11 53 false := ⟨⟨by decide, by decide, R_QM, F_QM, rfl, ws_QM, ty_QM, nm_QM, rfl, rfl, Or.inl (qw4 158 rfl rfl)⟩, fun _ _ _ _ => rfl, fun _ => ⟨rfl, rfl⟩⟩
theorem fR_QM_93 : qFlR "QueryFleetModel" 93 11 54 false := ⟨⟨by decide, by decide, R_QM, F_QM, rfl, ws_QM, ty_QM, nm_QM, rfl, rfl, Or.inl (qw4 159 rfl rfl)⟩, fun _ _ _ _ => rfl, fun _ => ⟨rfl, rfl⟩⟩
theorem fR_QM_96 : qFlR "QueryFleetModel" 96 11 55 false := ⟨⟨by decide, by decide, R_QM, F_QM, rfl, ws_QM, ty_QM, nm_QM, rfl, rfl, Or.inl (qw4 160 rfl rfl)⟩, fun _ _ _ _ => rfl, fun _ => ⟨rfl, rfl⟩⟩
theorem fI_QM_99 : qFlI "QueryFleetModel" 99 11 37 false := ⟨⟨by decide, by decide, R_QM, F_QM, rfl, ws_QM, ty_QM, nm_QM, rfl, rfl, Or.inl (qw4 142 rfl rfl)⟩, fun _ _ _ _ => rfl⟩
theorem fI_QM_107 : qFlI "QueryFleetModel" 107 11 3 false := ⟨⟨by decide, by decide, R_QM, F_QM, rfl, ws_QM, ty_QM, nm_QM, rfl, rfl, Or.inl (qw4 108 rfl rfl)⟩, fun _ _ _ _ => rfl⟩
theorem fI_QM_110 : qFlI "QueryFleetModel" 110 11 4 false := ⟨⟨by decide, by decide, R_QM, F_QM, rfl, ws_QM, ty_QM, nm_QM, rfl, rfl, Or.inl (qw4 109 rfl rfl)⟩, fun _ _ _ _ => rfl⟩
theorem fI_QM_114 : qFlI "QueryFleetModel" 114 11 5 false := ⟨⟨by decide, by decide, R_QM, F_QM, rfl, ws_QM, ty_QM, nm_QM, rfl, rfl, Or.inl (qw4 110 rfl rfl)⟩, fun _ _ _ _ => rfl⟩
theorem fI_QM_117 : qFlI "QueryFleetModel" 117 11 6 false := ⟨⟨by decide, by decide, R_QM, F_QM, rfl, ws_QM, ty_QM, nm_QM, rfl, rfl, Or.inl (qw4 111 rfl rfl)⟩, fun _ _ _ _ => rfl⟩
theorem fI_QM_120 : qFlI "QueryFleetModel" 120 11 7 false := ⟨⟨by decide, by decide, R_QM, F_QM, rfl, ws_QM, ty_QM, nm_QM, rfl, rfl, Or.inl (qw4 112 rfl rfl)⟩, fun _ _ _ _ => rfl⟩
theorem fI_QM_123 : qFlI "QueryFleetModel" 123 11 8 false := ⟨⟨by decide, by decide, R_QM, F_QM, rfl, ws_QM, ty_QM, nm_QM, rfl, rfl, Or.inl (qw4 113 rfl rfl)⟩, fun _ _ _ _ => rfl⟩
theorem fI_QM_126 : qFlI "QueryFleetModel" 126 11 9 false := ⟨⟨by decide, by decide, R_QM, F_QM, rfl, ws_QM, ty_QM, nm_QM, rfl, rfl, Or.inl (qw4 114 rfl rfl)⟩, fun _ _ _ _ => rfl⟩
theorem fI_QM_129 : qFlI "QueryFleetModel" 129 11 10 false := ⟨⟨by decide, by decide, R_QM, F_QM, rfl, ws_QM, ty_QM, nm_QM, rfl, rfl, Or.inl (qw4 115 rfl rfl)⟩, fun _ _ _ _ => rfl⟩
theorem fI_QM_132 : qFlI "QueryFleetModel" 132 11 11 false := ⟨⟨by decide, by decide, R_QM, F_QM, rfl, ws_QM, ty_QM, nm_QM, rfl, rfl, Or.inl (qw4 116 rfl rfl)⟩, fun _ _ _ _ => rfl⟩
theorem fI_QM_135 : qFlI "QueryFleetModel" 135 11 12 false := ⟨⟨by decide, by decide, R_QM, F_QM, rfl, ws_QM, ty_QM, nm_QM, rfl, rfl, Or.inl (qw4 117 rfl rfl)⟩, fun _ _ _ _ => rfl⟩
theorem fI_QM_138 : qFlI "QueryFleetModel" 138 11 13 false := ⟨⟨by decide, by decide, R_QM, F_QM, rfl, ws_QM, ty_QM, nm_QM, rfl, rfl, Or.inl (qw4 118 rfl rfl)⟩, fun _ _ _ _ => rfl⟩
theorem fI_QM_141 : qFlI "QueryFleetModel" 141 11 14 false := ⟨⟨by decide, by decide, R_QM, F_QM, rfl, ws_QM, ty_QM, nm_QM, rfl, rfl, Or.inl (qw4 119 rfl rfl)⟩, fun _ _ _ _ => rfl⟩
theorem fI_QM_144 : qFlI "QueryFleetModel" 144 11 15 false := ⟨⟨by decide, by decide, R_QM, F_QM, rfl, ws_QM, ty_QM, nm_QM, rfl, rfl, Or.inl (qw4 120 rfl rfl)⟩, fun _ _ _ _ => rfl⟩
theorem fI_QM_191 : qFlI "QueryFleetModel" 191 11 25 false := ⟨⟨by decide, by decide, R_QM, F_QM, rfl, ws_QM, ty_QM, nm_QM, rfl, rfl, Or.inl (qw4 130 rfl rfl)⟩, fun _ _ _ _ => rfl⟩
theorem fI_QM_207 : qFlI "QueryFleetModel" 207 11 28 false := ⟨⟨by decide, by decide, R_QM, F_QM, rfl, ws_QM, ty_QM, nm_QM, rfl, rfl, Or.inl (qw4 133 rfl rfl)⟩, fun _ _ _ _ => rfl⟩
theorem fI_QM_232 : qFlI "QueryFleetModel" 232 11 29 false := ⟨⟨by decide, by decide, R_QM, F_QM, rfl, ws_QM, ty_QM, nm_QM, rfl, rfl, Or.inl (qw4 134 rfl rfl)⟩, fun _ _ _ _ => rfl⟩
theorem fI_QM_248 : qFlI "QueryFleetModel" 248 11 38 false := ⟨⟨by decide, by decide, R_QM, F_QM, rfl, ws_QM, ty_QM, nm_QM, rfl, rfl, Or.inl (qw4 143 rfl rfl)⟩, fun _ _ _ _ => rfl⟩
theorem fI_QM_258 : qFlI "QueryFleetModel" 258 11 40 false := ⟨⟨by decide, by decide, R_QM, F_QM, rfl, ws_QM, ty_QM, nm_QM, rfl, rfl, Or.inl (qw4 145 rfl rfl)⟩, fun _ _ _ _ => rfl⟩
theorem fI_QM_272 : qFlI "QueryFleetModel" 272 11 39 false := ⟨⟨by decide, by decide, R_QM, F_QM, rfl, ws_QM, ty_QM, nm_QM, rfl, rfl, Or.inl (qw4 144 rfl rfl)⟩, fun _ _ _ _ => rfl⟩
theorem fI_QM_287 : qFlI "QueryFleetModel" 287 11 33 false := ⟨⟨by decide, by decide, R_QM, F_QM, rfl, ws_QM, ty_QM, nm_QM, rfl, rfl, Or.inl (qw4 138 rfl rfl)⟩, fun _ _ _ _ => rfl⟩
theorem fI_QM_290 : qFlI "QueryFleetModel" 290 11 34 false := ⟨⟨by decide, by decide, R_QM, F_QM, rfl, ws_QM, ty_QM, nm_QM, rfl, rfl, Or.inl (qw4 139 rfl rfl)⟩, fun _ _ _ _ => rfl⟩
theorem fI_QM_296 : qFlI "QueryFleetModel" 296 11 35 false := ⟨⟨by decide, by decide, R_QM, F_QM, rfl, ws_QM, ty_QM, nm_QM, rfl, rfl, Or.inl (qw4 140 rfl rfl)⟩, fun _ _ _ _ => rfl⟩
theorem fI_QM_299 : qFlI "QueryFleetModel" 299 11 36 false := ⟨⟨by decide, by decide, R_QM, F_QM, rfl, ws_QM, ty_QM, nm_QM, rfl, rfl, Or.inl (qw4 141 rfl rfl)⟩, fun _ _ _ _ => rfl⟩
theorem fI_QM_302 : qFlI "QueryFleetModel" 302 11 49 false := ⟨⟨by decide, by decide, R_QM, F_QM, rfl, ws_QM, ty_QM, nm_QM, rfl, rfl, Or.inl (qw4 154 rfl rfl)⟩, fun _ _ _ _ => rfl⟩
theorem fI_QM_305 : qFlI "QueryFleetModel" 305 11 48 false := ⟨⟨by decide, by decide, R_QM, F_QM, rfl, ws_QM, ty_QM, nm_QM, rfl, rfl, Or.inl (qw4 153 rfl rfl)⟩, fun _ _ _ _ => rfl⟩
theorem fI_QM_323 : qFlI "QueryFleetModel" 323 11 47 false := ⟨⟨by decide, by decide, R_QM, F_QM, rfl, ws_QM, ty_QM, nm_QM, rfl, rfl, Or.inl (qw4 152 rfl rfl)⟩, fun _ _ _ _ => rfl⟩
theorem nw_QF_9 : qNw "QueryFleet" 9 1 := ⟨by decide, R_Pl, F_Pl, rfl, ws_Pl, ty_Pl, nf_Pl, (qw1 23 rfl rfl), (qw1 24 rfl rfl), (qw1 2 rfl rfl)⟩
theorem nw_QF_26 : qNw "QueryFleet" 26 7 := ⟨by decide, R_Re, F_Re, rfl, ws_Re, ty_Re, nf_Re, (qw2 1 rfl rfl), (qw2 2 rfl rfl), (qw1 8 rfl rfl)⟩
theorem nw_QF_33 : qNw "QueryFleet" 33 8 := ⟨by decide, R_Jo, F_Jo, rfl, ws_Jo, ty_Jo, nf_Jo, (qw2 34 rfl rfl), (qw2 35 rfl rfl), (qw1 9 rfl rfl)⟩
theorem kl_Ag_24 : Jvm.Cond.constantLong "QueryFleet$Aggregate" 24 (9223372036854775807) ∈ qGW := (qw3 109 rfl rfl)
theorem kl_Ag_29 : Jvm.Cond.constantLong "QueryFleet$Aggregate" 29 (-9223372036854775808) ∈ qGW := (qw3 110 rfl rfl)
theorem kl_Ag_34 : Jvm.Cond.constantLong "QueryFleet$Aggregate" 34 (4294967295) ∈ qGW := (qw3 123 rfl rfl)
theorem cl_Jo_9 : Cond.classLink "QueryFleet$Job" 9 "QueryFleet$Task" ∈ qGW := (qw2 40 rfl rfl)
theorem cl_Jo_17 : Cond.classLink "QueryFleet$Job" 17 "QueryFleet$Line" ∈ qGW := (qw2 42 rfl rfl)
theorem nw_Jo_9 : qNw "QueryFleet$Job" 9 10 := ⟨by decide, R_Ta, F_Ta, rfl, ws_Ta, ty_Ta, nf_Ta, (qw2 40 rfl rfl), (qw2 67 rfl rfl), (qw1 11 rfl rfl)⟩
theorem nw_Jo_17 : qNw "QueryFleet$Job" 17 9 := ⟨by decide, R_Li, F_Li, rfl, ws_Li, ty_Li, nf_Li, (qw2 42 rfl rfl), (qw2 43 rfl rfl), (qw1 10 rfl rfl)⟩
theorem kl_Ma_68 : Jvm.Cond.constantLong "QueryFleet$Machine" 68 (-1) ∈ qGW := (qw3 66 rfl rfl)
theorem kl_Ma_70 : Jvm.Cond.constantLong "QueryFleet$Machine" 70 (-9223372036854775808) ∈ qGW := (qw3 67 rfl rfl)
theorem cl_Pl_9 : Cond.classLink "QueryFleet$Plan" 9 "QueryFleet$Table" ∈ qGW := (qw1 29 rfl rfl)
theorem nw_Pl_9 : qNw "QueryFleet$Plan" 9 6 := ⟨by decide, R_Tb, F_Tb, rfl, ws_Tb, ty_Tb, nf_Tb, (qw1 29 rfl rfl), (qw1 189 rfl rfl), (qw1 7 rfl rfl)⟩
theorem nw_Pl_17 : qNw "QueryFleet$Plan" 17 2 := ⟨by decide, R_Qu, F_Qu, rfl, ws_Qu, ty_Qu, nf_Qu, (qw1 31 rfl rfl), (qw1 32 rfl rfl), (qw1 3 rfl rfl)⟩
theorem nw_Pl_24 : qNw "QueryFleet$Plan" 24 4 := ⟨by decide, R_Ma, F_Ma, rfl, ws_Ma, ty_Ma, nf_Ma, (qw1 141 rfl rfl), (qw1 142 rfl rfl), (qw1 5 rfl rfl)⟩
theorem nw_Pl_31 : qNw "QueryFleet$Plan" 31 5 := ⟨by decide, R_Ag, F_Ag, rfl, ws_Ag, ty_Ag, nf_Ag, (qw1 164 rfl rfl), (qw1 165 rfl rfl), (qw1 6 rfl rfl)⟩
theorem cl_Qu_36 : Cond.classLink "QueryFleet$Query" 36 "QueryFleet$Expression" ∈ qGW := (qw1 40 rfl rfl)
theorem nw_Qu_36 : qNw "QueryFleet$Query" 36 3 := ⟨by decide, R_Ex, F_Ex, rfl, ws_Ex, ty_Ex, nf_Ex, (qw1 40 rfl rfl), (qw1 42 rfl rfl), (qw1 4 rfl rfl)⟩
theorem nw_La_7 : qNw "QueryFleetLaw" 7 0 := ⟨by decide, R_QF, F_QF, rfl, ws_QF, ty_QF, nf_QF, (qw1 15 rfl rfl), (qw1 16 rfl rfl), (qw1 1 rfl rfl)⟩
theorem nw_La_10 : qNw "QueryFleetLaw" 10 11 := ⟨by decide, R_QM, F_QM, rfl, ws_QM, ty_QM, nf_QM, (qw4 99 rfl rfl), (qw4 100 rfl rfl), (qw1 12 rfl rfl)⟩
theorem kl_QM_163 : Jvm.Cond.constantLong "QueryFleetModel" 163 (-9223372036854775808) ∈ qGW := (qw5 141 rfl rfl)
theorem kl_QM_165 : Jvm.Cond.constantLong "QueryFleetModel" 165 (-1) ∈ qGW := (qw5 142 rfl rfl)
theorem kl_QM_175 : Jvm.Cond.constantLong "QueryFleetModel" 175 (2) ∈ qGW := (qw5 133 rfl rfl)
theorem kl_QM_217 : Jvm.Cond.constantLong "QueryFleetModel" 217 (4294967295) ∈ qGW := (qw5 167 rfl rfl)
theorem kl_QM_219 : Jvm.Cond.constantLong "QueryFleetModel" 219 (-2147483648) ∈ qGW := (qw5 168 rfl rfl)
theorem kl_QM_221 : Jvm.Cond.constantLong "QueryFleetModel" 221 (2147483647) ∈ qGW := (qw5 169 rfl rfl)
theorem aw_int : Cond.arrayClass .int ∈ qGW := (qw1 68 rfl rfl)
theorem aw_long : Cond.arrayClass .long ∈ qGW := (qw1 162 rfl rfl)
theorem aw_boolean : Cond.arrayClass .boolean ∈ qGW := (qw1 163 rfl rfl)
theorem oi_QF_3 : Cond.methodLink "QueryFleet" 3 Lib.objectInit ∈ qGW ∧ Cond.instanceMethod Lib.objectInit ∈ qGW ∧ Cond.code Lib.objectInit ⟨#[0xb1]⟩ 1 none ∈ qGW := ⟨(qw1 20 rfl rfl), (qw1 21 rfl rfl), (qw1 22 rfl rfl)⟩
theorem lk_QF_11 : qLk "QueryFleet" 11 mi_Pl_init := Or.inl (qw1 25 rfl rfl)
theorem y_Pl_init : qY mi_Pl_init 0 := ⟨(qw1 27 rfl rfl), (qw1 2 rfl rfl), ⟨by decide, by decide, by decide +kernel⟩, by decide⟩
theorem i_Pl_init : mi_Pl_init.1.name = "<init>" ∧ mi_Pl_init.2.2.2 = none ∧ Cond.instanceMethod mi_Pl_init.1 ∈ qGW := ⟨rfl, rfl, (qw1 26 rfl rfl)⟩
theorem lk_QF_28 : qLk "QueryFleet" 28 mi_Re_init := Or.inr ⟨"QueryFleet", List.mem_of_getElem? (i := 5) rfl⟩
theorem y_Re_init : qY mi_Re_init 0 := ⟨(qw2 5 rfl rfl), (qw1 8 rfl rfl), ⟨by decide, by decide, by decide +kernel⟩, by decide⟩
theorem i_Re_init : mi_Re_init.1.name = "<init>" ∧ mi_Re_init.2.2.2 = none ∧ Cond.instanceMethod mi_Re_init.1 ∈ qGW := ⟨rfl, rfl, (qw2 4 rfl rfl)⟩
theorem lk_QF_35 : qLk "QueryFleet" 35 mi_Jo_init := Or.inl (qw2 36 rfl rfl)
theorem y_Jo_init : qY mi_Jo_init 0 := ⟨(qw2 38 rfl rfl), (qw1 9 rfl rfl), ⟨by decide, by decide, by decide +kernel⟩, by decide⟩
theorem i_Jo_init : mi_Jo_init.1.name = "<init>" ∧ mi_Jo_init.2.2.2 = none ∧ Cond.instanceMethod mi_Jo_init.1 ∈ qGW := ⟨rfl, rfl, (qw2 37 rfl rfl)⟩
theorem lk_QF_44 : qLk "QueryFleet" 44 mi_QF_isIn := Or.inl (qw2 152 rfl rfl)
theorem y_QF_isIn : qY mi_QF_isIn 2 := ⟨(qw2 154 rfl rfl), (qw1 1 rfl rfl), ⟨by decide, by decide, by decide +kernel⟩, by decide⟩
theorem s_QF_isIn : Cond.static mi_QF_isIn.1 ∈ qGW := (qw2 153 rfl rfl)
theorem lk_QF_48 : qLk "QueryFleet" 48 mi_Tb_add := Or.inl (qw2 155 rfl rfl)
theorem y_Tb_add : qY mi_Tb_add 3 := ⟨(qw2 158 rfl rfl), (qw1 7 rfl rfl), ⟨by decide, by decide, by decide +kernel⟩, by decide⟩
theorem v_Tb_add : Cond.instanceMethod mi_Tb_add.1 ∈ qGW ∧ Cond.selects mi_Tb_add.1.cls mi_Tb_add.1 mi_Tb_add.1 ∈ qGW := ⟨(qw2 156 rfl rfl), (qw2 157 rfl rfl)⟩
theorem lk_QF_54 : qLk "QueryFleet" 54 mi_Qu_begin := Or.inl (qw2 163 rfl rfl)
theorem y_Qu_begin : qY mi_Qu_begin 5 := ⟨(qw2 166 rfl rfl), (qw1 3 rfl rfl), ⟨by decide, by decide, by decide +kernel⟩, by decide⟩
theorem v_Qu_begin : Cond.instanceMethod mi_Qu_begin.1 ∈ qGW ∧ Cond.selects mi_Qu_begin.1.cls mi_Qu_begin.1 mi_Qu_begin.1 ∈ qGW := ⟨(qw2 164 rfl rfl), (qw2 165 rfl rfl)⟩
theorem lk_QF_60 : qLk "QueryFleet" 60 mi_QF_canChangeQuery := Or.inl (qw2 171 rfl rfl)
theorem y_QF_canChangeQuery : qY mi_QF_canChangeQuery 0 := ⟨(qw2 174 rfl rfl), (qw1 1 rfl rfl), ⟨by decide, by decide, by decide +kernel⟩, by decide⟩
theorem v_QF_canChangeQuery : Cond.instanceMethod mi_QF_canChangeQuery.1 ∈ qGW ∧ Cond.selects mi_QF_canChangeQuery.1.cls mi_QF_canChangeQuery.1 mi_QF_canChangeQuery.1 ∈ qGW := ⟨(qw2 173 rfl rfl), qw_s (q := (⟨"QueryFleet", "canChangeQuery", "()Z"⟩, _)) (by show _ ∈ lw_privs_1 ++ (lw_privs_2 ++ (lw_privs_3 ++ (lw_privs_4 ++ (lw_privs_5)))); exact List.mem_append_left _ (List.mem_of_getElem? (i := 0) rfl))⟩
theorem lk_QF_64 : qLk "QueryFleet" 64 mi_Qu_columns := Or.inl (qw2 175 rfl rfl)
theorem y_Qu_columns : qY mi_Qu_columns 0 := ⟨(qw2 178 rfl rfl), (qw1 3 rfl rfl), ⟨by decide, by decide, by decide +kernel⟩, by decide⟩
theorem v_Qu_columns : Cond.instanceMethod mi_Qu_columns.1 ∈ qGW ∧ Cond.selects mi_Qu_columns.1.cls mi_Qu_columns.1 mi_Qu_columns.1 ∈ qGW := ⟨(qw2 176 rfl rfl), (qw2 177 rfl rfl)⟩
theorem lk_QF_68 : qLk "QueryFleet" 68 mi_Qu_push := Or.inl (qw2 183 rfl rfl)
theorem y_Qu_push : qY mi_Qu_push 2 := ⟨(qw2 186 rfl rfl), (qw1 3 rfl rfl), ⟨by decide, by decide, by decide +kernel⟩, by decide⟩
theorem v_Qu_push : Cond.instanceMethod mi_Qu_push.1 ∈ qGW ∧ Cond.selects mi_Qu_push.1.cls mi_Qu_push.1 mi_Qu_push.1 ∈ qGW := ⟨(qw2 184 rfl rfl), (qw2 185 rfl rfl)⟩
theorem lk_QF_71 : qLk "QueryFleet" 71 mi_Qu_apply := Or.inl (qw2 203 rfl rfl)
theorem y_Qu_apply : qY mi_Qu_apply 1 := ⟨(qw2 206 rfl rfl), (qw1 3 rfl rfl), ⟨by decide, by decide, by decide +kernel⟩, by decide⟩
theorem v_Qu_apply : Cond.instanceMethod mi_Qu_apply.1 ∈ qGW ∧ Cond.selects mi_Qu_apply.1.cls mi_Qu_apply.1 mi_Qu_apply.1 ∈ qGW := ⟨(qw2 204 rfl rfl), (qw2 205 rfl rfl)⟩
theorem lk_QF_75 : qLk "QueryFleet" 75 mi_Qu_takeCondition := Or.inl (qw2 216 rfl rfl)
theorem y_Qu_takeCondition : qY mi_Qu_takeCondition 0 := ⟨(qw2 219 rfl rfl), (qw1 3 rfl rfl), ⟨by decide, by decide, by decide +kernel⟩, by decide⟩
theorem v_Qu_takeCondition : Cond.instanceMethod mi_Qu_takeCondition.1 ∈ qGW ∧ Cond.selects mi_Qu_takeCondition.1.cls mi_Qu_takeCondition.1 mi_Qu_takeCondition.1 ∈ qGW := ⟨(qw2 217 rfl rfl), (qw2 218 rfl rfl)⟩
theorem lk_QF_78 : qLk "QueryFleet" 78 mi_Qu_takeOutput := Or.inl (qw2 228 rfl rfl)
theorem y_Qu_takeOutput : qY mi_Qu_takeOutput 1 := ⟨(qw2 231 rfl rfl), (qw1 3 rfl rfl), ⟨by decide, by decide, by decide +kernel⟩, by decide⟩
theorem v_Qu_takeOutput : Cond.instanceMethod mi_Qu_takeOutput.1 ∈ qGW ∧ Cond.selects mi_Qu_takeOutput.1.cls mi_Qu_takeOutput.1 mi_Qu_takeOutput.1 ∈ qGW := ⟨(qw2 229 rfl rfl), (qw2 230 rfl rfl)⟩
theorem lk_QF_97 : qLk "QueryFleet" 97 mi_Qu_isWhole := Or.inl (qw3 4 rfl rfl)
theorem y_Qu_isWhole : qY mi_Qu_isWhole 0 := ⟨(qw3 7 rfl rfl), (qw1 3 rfl rfl), ⟨by decide, by decide, by decide +kernel⟩, by decide⟩
theorem v_Qu_isWhole : Cond.instanceMethod mi_Qu_isWhole.1 ∈ qGW ∧ Cond.selects mi_Qu_isWhole.1.cls mi_Qu_isWhole.1 mi_Qu_isWhole.1 ∈ qGW := ⟨(qw3 5 rfl rfl), (qw3 6 rfl rfl)⟩
theorem lk_QF_100 : qLk "QueryFleet" 100 mi_Pl_keepRows := Or.inl (qw3 16 rfl rfl)
theorem y_Pl_keepRows : qY mi_Pl_keepRows 0 := ⟨(qw3 19 rfl rfl), (qw1 2 rfl rfl), ⟨by decide, by decide, by decide +kernel⟩, by decide⟩
theorem v_Pl_keepRows : Cond.instanceMethod mi_Pl_keepRows.1 ∈ qGW ∧ Cond.selects mi_Pl_keepRows.1.cls mi_Pl_keepRows.1 mi_Pl_keepRows.1 ∈ qGW := ⟨(qw3 17 rfl rfl), (qw3 18 rfl rfl)⟩
theorem lk_QF_103 : qLk "QueryFleet" 103 mi_Pl_makeGroups := Or.inl (qw3 75 rfl rfl)
theorem y_Pl_makeGroups : qY mi_Pl_makeGroups 0 := ⟨(qw3 78 rfl rfl), (qw1 2 rfl rfl), ⟨by decide, by decide, by decide +kernel⟩, by decide⟩
theorem v_Pl_makeGroups : Cond.instanceMethod mi_Pl_makeGroups.1 ∈ qGW ∧ Cond.selects mi_Pl_makeGroups.1.cls mi_Pl_makeGroups.1 mi_Pl_makeGroups.1 ∈ qGW := ⟨(qw3 76 rfl rfl), (qw3 77 rfl rfl)⟩
theorem lk_QF_106 : qLk "QueryFleet" 106 mi_Pl_fillResult := Or.inl (qw3 84 rfl rfl)
theorem y_Pl_fillResult : qY mi_Pl_fillResult 1 := ⟨(qw3 87 rfl rfl), (qw1 2 rfl rfl), ⟨by decide, by decide, by decide +kernel⟩, by decide⟩
theorem v_Pl_fillResult : Cond.instanceMethod mi_Pl_fillResult.1 ∈ qGW ∧ Cond.selects mi_Pl_fillResult.1.cls mi_Pl_fillResult.1 mi_Pl_fillResult.1 ∈ qGW := ⟨(qw3 85 rfl rfl), (qw3 86 rfl rfl)⟩
theorem lk_QF_110 : qLk "QueryFleet" 110 mi_Re_sort := Or.inl (qw3 146 rfl rfl)
theorem y_Re_sort : qY mi_Re_sort 1 := ⟨(qw3 149 rfl rfl), (qw1 8 rfl rfl), ⟨by decide, by decide, by decide +kernel⟩, by decide⟩
theorem v_Re_sort : Cond.instanceMethod mi_Re_sort.1 ∈ qGW ∧ Cond.selects mi_Re_sort.1.cls mi_Re_sort.1 mi_Re_sort.1 ∈ qGW := ⟨(qw3 147 rfl rfl), (qw3 148 rfl rfl)⟩
theorem lk_QF_114 : qLk "QueryFleet" 114 mi_Re_countPasses := Or.inl (qw3 164 rfl rfl)
theorem y_Re_countPasses : qY mi_Re_countPasses 1 := ⟨(qw3 167 rfl rfl), (qw1 8 rfl rfl), ⟨by decide, by decide, by decide +kernel⟩, by decide⟩
theorem v_Re_countPasses : Cond.instanceMethod mi_Re_countPasses.1 ∈ qGW ∧ Cond.selects mi_Re_countPasses.1.cls mi_Re_countPasses.1 mi_Re_countPasses.1 ∈ qGW := ⟨(qw3 165 rfl rfl), (qw3 166 rfl rfl)⟩
theorem lk_QF_118 : qLk "QueryFleet" 118 mi_Jo_clear := Or.inl (qw3 168 rfl rfl)
theorem y_Jo_clear : qY mi_Jo_clear 1 := ⟨(qw3 171 rfl rfl), (qw1 9 rfl rfl), ⟨by decide, by decide, by decide +kernel⟩, by decide⟩
theorem v_Jo_clear : Cond.instanceMethod mi_Jo_clear.1 ∈ qGW ∧ Cond.selects mi_Jo_clear.1.cls mi_Jo_clear.1 mi_Jo_clear.1 ∈ qGW := ⟨(qw3 169 rfl rfl), (qw3 170 rfl rfl)⟩
theorem lk_QF_121 : qLk "QueryFleet" 121 mi_Qu_needs := Or.inl (qw3 176 rfl rfl)
theorem y_Qu_needs : qY mi_Qu_needs 1 := ⟨(qw3 179 rfl rfl), (qw1 3 rfl rfl), ⟨by decide, by decide, by decide +kernel⟩, by decide⟩
theorem v_Qu_needs : Cond.instanceMethod mi_Qu_needs.1 ∈ qGW ∧ Cond.selects mi_Qu_needs.1.cls mi_Qu_needs.1 mi_Qu_needs.1 ∈ qGW := ⟨(qw3 177 rfl rfl), (qw3 178 rfl rfl)⟩
theorem lk_QF_124 : qLk "QueryFleet" 124 mi_Pl_rowsOf := Or.inl (qw3 180 rfl rfl)
theorem y_Pl_rowsOf : qY mi_Pl_rowsOf 3 := ⟨(qw3 183 rfl rfl), (qw1 2 rfl rfl), ⟨by decide, by decide, by decide +kernel⟩, by decide⟩
theorem v_Pl_rowsOf : Cond.instanceMethod mi_Pl_rowsOf.1 ∈ qGW ∧ Cond.selects mi_Pl_rowsOf.1.cls mi_Pl_rowsOf.1 mi_Pl_rowsOf.1 ∈ qGW := ⟨(qw3 181 rfl rfl), (qw3 182 rfl rfl)⟩
theorem lk_QF_127 : qLk "QueryFleet" 127 mi_Jo_addTask := Or.inl (qw3 218 rfl rfl)
theorem y_Jo_addTask : qY mi_Jo_addTask 3 := ⟨(qw3 221 rfl rfl), (qw1 9 rfl rfl), ⟨by decide, by decide, by decide +kernel⟩, by decide⟩
theorem v_Jo_addTask : Cond.instanceMethod mi_Jo_addTask.1 ∈ qGW ∧ Cond.selects mi_Jo_addTask.1.cls mi_Jo_addTask.1 mi_Jo_addTask.1 ∈ qGW := ⟨(qw3 219 rfl rfl), (qw3 220 rfl rfl)⟩
theorem lk_QF_131 : qLk "QueryFleet" 131 mi_Jo_sendReady := Or.inl (qw3 226 rfl rfl)
theorem y_Jo_sendReady : qY mi_Jo_sendReady 0 := ⟨(qw3 229 rfl rfl), (qw1 9 rfl rfl), ⟨by decide, by decide, by decide +kernel⟩, by decide⟩
theorem v_Jo_sendReady : Cond.instanceMethod mi_Jo_sendReady.1 ∈ qGW ∧ Cond.selects mi_Jo_sendReady.1.cls mi_Jo_sendReady.1 mi_Jo_sendReady.1 ∈ qGW := ⟨(qw3 227 rfl rfl), (qw3 228 rfl rfl)⟩
theorem lk_QF_146 : qLk "QueryFleet" 146 mi_Jo_deliver := Or.inl (qw4 6 rfl rfl)
theorem y_Jo_deliver : qY mi_Jo_deliver 1 := ⟨(qw4 9 rfl rfl), (qw1 9 rfl rfl), ⟨by decide, by decide, by decide +kernel⟩, by decide⟩
theorem v_Jo_deliver : Cond.instanceMethod mi_Jo_deliver.1 ∈ qGW ∧ Cond.selects mi_Jo_deliver.1.cls mi_Jo_deliver.1 mi_Jo_deliver.1 ∈ qGW := ⟨(qw4 7 rfl rfl), (qw4 8 rfl rfl)⟩
theorem lk_QF_150 : qLk "QueryFleet" 150 mi_Li_removeAt := Or.inl (qw4 26 rfl rfl)
theorem y_Li_removeAt : qY mi_Li_removeAt 1 := ⟨(qw4 13 rfl rfl), (qw1 10 rfl rfl), ⟨by decide, by decide, by decide +kernel⟩, by decide⟩
theorem v_Li_removeAt : Cond.instanceMethod mi_Li_removeAt.1 ∈ qGW ∧ Cond.selects mi_Li_removeAt.1.cls mi_Li_removeAt.1 mi_Li_removeAt.1 ∈ qGW := ⟨(qw4 11 rfl rfl), (qw4 12 rfl rfl)⟩
theorem lk_QF_153 : qLk "QueryFleet" 153 mi_Jo_repeat := Or.inl (qw4 27 rfl rfl)
theorem y_Jo_repeat : qY mi_Jo_repeat 1 := ⟨(qw4 30 rfl rfl), (qw1 9 rfl rfl), ⟨by decide, by decide, by decide +kernel⟩, by decide⟩
theorem v_Jo_repeat : Cond.instanceMethod mi_Jo_repeat.1 ∈ qGW ∧ Cond.selects mi_Jo_repeat.1.cls mi_Jo_repeat.1 mi_Jo_repeat.1 ∈ qGW := ⟨(qw4 28 rfl rfl), (qw4 29 rfl rfl)⟩
theorem lk_QF_156 : qLk "QueryFleet" 156 mi_QF_isWorker := Or.inl (qw4 35 rfl rfl)
theorem y_QF_isWorker : qY mi_QF_isWorker 1 := ⟨(qw4 38 rfl rfl), (qw1 1 rfl rfl), ⟨by decide, by decide, by decide +kernel⟩, by decide⟩
theorem v_QF_isWorker : Cond.instanceMethod mi_QF_isWorker.1 ∈ qGW ∧ Cond.selects mi_QF_isWorker.1.cls mi_QF_isWorker.1 mi_QF_isWorker.1 ∈ qGW := ⟨(qw4 37 rfl rfl), qw_s (q := (⟨"QueryFleet", "isWorker", "(I)Z"⟩, _)) (by show _ ∈ lw_privs_1 ++ (lw_privs_2 ++ (lw_privs_3 ++ (lw_privs_4 ++ (lw_privs_5)))); exact List.mem_append_right _ (List.mem_append_left _ (List.mem_of_getElem? (i := 8) rfl)))⟩
theorem lk_QF_163 : qLk "QueryFleet" 163 mi_Jo_workOff := Or.inl (qw4 39 rfl rfl)
theorem y_Jo_workOff : qY mi_Jo_workOff 1 := ⟨(qw4 42 rfl rfl), (qw1 9 rfl rfl), ⟨by decide, by decide, by decide +kernel⟩, by decide⟩
theorem v_Jo_workOff : Cond.instanceMethod mi_Jo_workOff.1 ∈ qGW ∧ Cond.selects mi_Jo_workOff.1.cls mi_Jo_workOff.1 mi_Jo_workOff.1 ∈ qGW := ⟨(qw4 40 rfl rfl), (qw4 41 rfl rfl)⟩
theorem lk_QF_167 : qLk "QueryFleet" 167 mi_Jo_sendAgain := Or.inl (qw4 51 rfl rfl)
theorem y_Jo_sendAgain : qY mi_Jo_sendAgain 0 := ⟨(qw4 54 rfl rfl), (qw1 9 rfl rfl), ⟨by decide, by decide, by decide +kernel⟩, by decide⟩
theorem v_Jo_sendAgain : Cond.instanceMethod mi_Jo_sendAgain.1 ∈ qGW ∧ Cond.selects mi_Jo_sendAgain.1.cls mi_Jo_sendAgain.1 mi_Jo_sendAgain.1 ∈ qGW := ⟨(qw4 52 rfl rfl), (qw4 53 rfl rfl)⟩
theorem lk_QF_170 : qLk "QueryFleet" 170 mi_Jo_tell := Or.inl (qw4 59 rfl rfl)
theorem y_Jo_tell : qY mi_Jo_tell 2 := ⟨(qw4 62 rfl rfl), (qw1 9 rfl rfl), ⟨by decide, by decide, by decide +kernel⟩, by decide⟩
theorem v_Jo_tell : Cond.instanceMethod mi_Jo_tell.1 ∈ qGW ∧ Cond.selects mi_Jo_tell.1.cls mi_Jo_tell.1 mi_Jo_tell.1 ∈ qGW := ⟨(qw4 60 rfl rfl), (qw4 61 rfl rfl)⟩
theorem lk_QF_178 : qLk "QueryFleet" 178 mi_Ta_tell := Or.inl (qw4 67 rfl rfl)
theorem y_Ta_tell : qY mi_Ta_tell 1 := ⟨(qw4 70 rfl rfl), (qw1 11 rfl rfl), ⟨by decide, by decide, by decide +kernel⟩, by decide⟩
theorem v_Ta_tell : Cond.instanceMethod mi_Ta_tell.1 ∈ qGW ∧ Cond.selects mi_Ta_tell.1.cls mi_Ta_tell.1 mi_Ta_tell.1 ∈ qGW := ⟨(qw4 68 rfl rfl), (qw4 69 rfl rfl)⟩
theorem lk_QF_182 : qLk "QueryFleet" 182 mi_QF_hasResult := Or.inl (qw4 75 rfl rfl)
theorem y_QF_hasResult : qY mi_QF_hasResult 0 := ⟨(qw4 78 rfl rfl), (qw1 1 rfl rfl), ⟨by decide, by decide, by decide +kernel⟩, by decide⟩
theorem v_QF_hasResult : Cond.instanceMethod mi_QF_hasResult.1 ∈ qGW ∧ Cond.selects mi_QF_hasResult.1.cls mi_QF_hasResult.1 mi_QF_hasResult.1 ∈ qGW := ⟨(qw4 77 rfl rfl), qw_s (q := (⟨"QueryFleet", "hasResult", "()Z"⟩, _)) (by show _ ∈ lw_privs_1 ++ (lw_privs_2 ++ (lw_privs_3 ++ (lw_privs_4 ++ (lw_privs_5)))); exact List.mem_append_right _ (List.mem_append_left _ (List.mem_of_getElem? (i := 9) rfl)))⟩
theorem lk_QF_196 : qLk "QueryFleet" 196 mi_QF_hasCell := Or.inl (qw4 83 rfl rfl)
theorem y_QF_hasCell : qY mi_QF_hasCell 2 := ⟨(qw4 86 rfl rfl), (qw1 1 rfl rfl), ⟨by decide, by decide, by decide +kernel⟩, by decide⟩
theorem v_QF_hasCell : Cond.instanceMethod mi_QF_hasCell.1 ∈ qGW ∧ Cond.selects mi_QF_hasCell.1.cls mi_QF_hasCell.1 mi_QF_hasCell.1 ∈ qGW := ⟨(qw4 85 rfl rfl), qw_s (q := (⟨"QueryFleet", "hasCell", "(II)Z"⟩, _)) (by show _ ∈ lw_privs_1 ++ (lw_privs_2 ++ (lw_privs_3 ++ (lw_privs_4 ++ (lw_privs_5)))); exact List.mem_append_right _ (List.mem_append_left _ (List.mem_of_getElem? (i := 10) rfl)))⟩
theorem lk_QF_199 : qLk "QueryFleet" 199 mi_Re_isNull := Or.inl (qw4 87 rfl rfl)
theorem y_Re_isNull : qY mi_Re_isNull 2 := ⟨(qw4 90 rfl rfl), (qw1 8 rfl rfl), ⟨by decide, by decide, by decide +kernel⟩, by decide⟩
theorem v_Re_isNull : Cond.instanceMethod mi_Re_isNull.1 ∈ qGW ∧ Cond.selects mi_Re_isNull.1.cls mi_Re_isNull.1 mi_Re_isNull.1 ∈ qGW := ⟨(qw4 88 rfl rfl), (qw4 89 rfl rfl)⟩
theorem lk_QF_202 : qLk "QueryFleet" 202 mi_Re_value := Or.inl (qw4 91 rfl rfl)
theorem y_Re_value : qY mi_Re_value 2 := ⟨(qw4 94 rfl rfl), (qw1 8 rfl rfl), ⟨by decide, by decide, by decide +kernel⟩, by decide⟩
theorem v_Re_value : Cond.instanceMethod mi_Re_value.1 ∈ qGW ∧ Cond.selects mi_Re_value.1.cls mi_Re_value.1 mi_Re_value.1 ∈ qGW := ⟨(qw4 92 rfl rfl), (qw4 93 rfl rfl)⟩
theorem oi_Ag_3 : Cond.methodLink "QueryFleet$Aggregate" 3 Lib.objectInit ∈ qGW ∧ Cond.instanceMethod Lib.objectInit ∈ qGW ∧ Cond.code Lib.objectInit ⟨#[0xb1]⟩ 1 none ∈ qGW := ⟨(qw1 169 rfl rfl), (qw1 21 rfl rfl), (qw1 22 rfl rfl)⟩
theorem lk_Ag_36 : qLk "QueryFleet$Aggregate" 36 mi_JM_minJ := Or.inl (qw3 124 rfl rfl)
theorem y_JM_minJ : qY mi_JM_minJ 2 := ⟨(qw3 126 rfl rfl), (qw1 13 rfl rfl), ⟨by decide, by decide, by decide +kernel⟩, by decide⟩
theorem s_JM_minJ : Cond.static mi_JM_minJ.1 ∈ qGW := (qw3 125 rfl rfl)
theorem lk_Ag_42 : qLk "QueryFleet$Aggregate" 42 mi_JM_maxJ := Or.inl (qw3 127 rfl rfl)
theorem y_JM_maxJ : qY mi_JM_maxJ 2 := ⟨(qw3 129 rfl rfl), (qw1 13 rfl rfl), ⟨by decide, by decide, by decide +kernel⟩, by decide⟩
theorem s_JM_maxJ : Cond.static mi_JM_maxJ.1 ∈ qGW := (qw3 128 rfl rfl)
theorem lk_Ag_45 : qLk "QueryFleet$Aggregate" 45 mi_Ag_hasSum := Or.inl (qw3 138 rfl rfl)
theorem y_Ag_hasSum : qY mi_Ag_hasSum 0 := ⟨(qw3 141 rfl rfl), (qw1 6 rfl rfl), ⟨by decide, by decide, by decide +kernel⟩, by decide⟩
theorem v_Ag_hasSum : Cond.instanceMethod mi_Ag_hasSum.1 ∈ qGW ∧ Cond.selects mi_Ag_hasSum.1.cls mi_Ag_hasSum.1 mi_Ag_hasSum.1 ∈ qGW := ⟨(qw3 140 rfl rfl), qw_s (q := (⟨"QueryFleet$Aggregate", "hasSum", "()Z"⟩, _)) (by show _ ∈ lw_privs_1 ++ (lw_privs_2 ++ (lw_privs_3 ++ (lw_privs_4 ++ (lw_privs_5)))); exact List.mem_append_left _ (List.mem_of_getElem? (i := 11) rfl))⟩
theorem oi_Ex_3 : Cond.methodLink "QueryFleet$Expression" 3 Lib.objectInit ∈ qGW ∧ Cond.instanceMethod Lib.objectInit ∈ qGW ∧ Cond.code Lib.objectInit ⟨#[0xb1]⟩ 1 none ∈ qGW := ⟨(qw1 46 rfl rfl), (qw1 21 rfl rfl), (qw1 22 rfl rfl)⟩
theorem lk_Ex_29 : qLk "QueryFleet$Expression" 29 mi_Ex_addPart := Or.inl (qw2 211 rfl rfl)
theorem y_Ex_addPart : qY mi_Ex_addPart 2 := ⟨(qw2 194 rfl rfl), (qw1 4 rfl rfl), ⟨by decide, by decide, by decide +kernel⟩, by decide⟩
theorem v_Ex_addPart : Cond.instanceMethod mi_Ex_addPart.1 ∈ qGW ∧ Cond.selects mi_Ex_addPart.1.cls mi_Ex_addPart.1 mi_Ex_addPart.1 ∈ qGW := ⟨(qw2 192 rfl rfl), (qw2 193 rfl rfl)⟩
theorem oi_Jo_3 : Cond.methodLink "QueryFleet$Job" 3 Lib.objectInit ∈ qGW ∧ Cond.instanceMethod Lib.objectInit ∈ qGW ∧ Cond.code Lib.objectInit ⟨#[0xb1]⟩ 1 none ∈ qGW := ⟨(qw2 39 rfl rfl), (qw1 21 rfl rfl), (qw1 22 rfl rfl)⟩
theorem lk_Jo_19 : qLk "QueryFleet$Job" 19 mi_Li_init := Or.inl (qw2 44 rfl rfl)
theorem y_Li_init : qY mi_Li_init 1 := ⟨(qw2 46 rfl rfl), (qw1 10 rfl rfl), ⟨by decide, by decide, by decide +kernel⟩, by decide⟩
theorem i_Li_init : mi_Li_init.1.name = "<init>" ∧ mi_Li_init.2.2.2 = none ∧ Cond.instanceMethod mi_Li_init.1 ∈ qGW := ⟨rfl, rfl, (qw2 45 rfl rfl)⟩
theorem lk_Jo_30 : qLk "QueryFleet$Job" 30 mi_Ta_init := Or.inr ⟨"QueryFleet", List.mem_of_getElem? (i := 6) rfl⟩
theorem y_Ta_init : qY mi_Ta_init 0 := ⟨(qw2 70 rfl rfl), (qw1 11 rfl rfl), ⟨by decide, by decide, by decide +kernel⟩, by decide⟩
theorem i_Ta_init : mi_Ta_init.1.name = "<init>" ∧ mi_Ta_init.2.2.2 = none ∧ Cond.instanceMethod mi_Ta_init.1 ∈ qGW := ⟨rfl, rfl, (qw2 69 rfl rfl)⟩
theorem lk_Jo_48 : qLk "QueryFleet$Job" 48 mi_Jo_forgetMessages := Or.inl (qw3 172 rfl rfl)
theorem y_Jo_forgetMessages : qY mi_Jo_forgetMessages 0 := ⟨(qw3 175 rfl rfl), (qw1 9 rfl rfl), ⟨by decide, by decide, by decide +kernel⟩, by decide⟩
theorem v_Jo_forgetMessages : Cond.instanceMethod mi_Jo_forgetMessages.1 ∈ qGW ∧ Cond.selects mi_Jo_forgetMessages.1.cls mi_Jo_forgetMessages.1 mi_Jo_forgetMessages.1 ∈ qGW := ⟨(qw3 174 rfl rfl), qw_s (q := (⟨"QueryFleet$Job", "forgetMessages", "()V"⟩, _)) (by show _ ∈ lw_privs_1 ++ (lw_privs_2 ++ (lw_privs_3 ++ (lw_privs_4 ++ (lw_privs_5)))); exact List.mem_append_left _ (List.mem_of_getElem? (i := 15) rfl))⟩
theorem lk_Jo_54 : qLk "QueryFleet$Job" 54 mi_Ta_clear := Or.inl (qw3 222 rfl rfl)
theorem y_Ta_clear : qY mi_Ta_clear 3 := ⟨(qw3 225 rfl rfl), (qw1 11 rfl rfl), ⟨by decide, by decide, by decide +kernel⟩, by decide⟩
theorem v_Ta_clear : Cond.instanceMethod mi_Ta_clear.1 ∈ qGW ∧ Cond.selects mi_Ta_clear.1.cls mi_Ta_clear.1 mi_Ta_clear.1 ∈ qGW := ⟨(qw3 223 rfl rfl), (qw3 224 rfl rfl)⟩
theorem lk_Jo_64 : qLk "QueryFleet$Job" 64 mi_Jo_isReady := Or.inl (qw3 230 rfl rfl)
theorem y_Jo_isReady : qY mi_Jo_isReady 1 := ⟨(qw3 233 rfl rfl), (qw1 9 rfl rfl), ⟨by decide, by decide, by decide +kernel⟩, by decide⟩
theorem v_Jo_isReady : Cond.instanceMethod mi_Jo_isReady.1 ∈ qGW ∧ Cond.selects mi_Jo_isReady.1.cls mi_Jo_isReady.1 mi_Jo_isReady.1 ∈ qGW := ⟨(qw3 232 rfl rfl), qw_s (q := (⟨"QueryFleet$Job", "isReady", "(I)Z"⟩, _)) (by show _ ∈ lw_privs_1 ++ (lw_privs_2 ++ (lw_privs_3 ++ (lw_privs_4 ++ (lw_privs_5)))); exact List.mem_append_right _ (List.mem_append_left _ (List.mem_of_getElem? (i := 4) rfl)))⟩
theorem lk_Jo_68 : qLk "QueryFleet$Job" 68 mi_Jo_sendRun := Or.inl (qw3 234 rfl rfl)
theorem y_Jo_sendRun : qY mi_Jo_sendRun 1 := ⟨(qw3 237 rfl rfl), (qw1 9 rfl rfl), ⟨by decide, by decide, by decide +kernel⟩, by decide⟩
theorem v_Jo_sendRun : Cond.instanceMethod mi_Jo_sendRun.1 ∈ qGW ∧ Cond.selects mi_Jo_sendRun.1.cls mi_Jo_sendRun.1 mi_Jo_sendRun.1 ∈ qGW := ⟨(qw3 236 rfl rfl), qw_s (q := (⟨"QueryFleet$Job", "sendRun", "(I)V"⟩, _)) (by show _ ∈ lw_privs_1 ++ (lw_privs_2 ++ (lw_privs_3 ++ (lw_privs_4 ++ (lw_privs_5)))); exact List.mem_append_right _ (List.mem_append_left _ (List.mem_of_getElem? (i := 5) rfl)))⟩
theorem lk_Jo_74 : qLk "QueryFleet$Job" 74 mi_Li_add := Or.inl (qw3 238 rfl rfl)
theorem y_Li_add : qY mi_Li_add 3 := ⟨(qw4 1 rfl rfl), (qw1 10 rfl rfl), ⟨by decide, by decide, by decide +kernel⟩, by decide⟩
theorem v_Li_add : Cond.instanceMethod mi_Li_add.1 ∈ qGW ∧ Cond.selects mi_Li_add.1.cls mi_Li_add.1 mi_Li_add.1 ∈ qGW := ⟨(qw3 239 rfl rfl), (qw4 0 rfl rfl)⟩
theorem lk_Jo_87 : qLk "QueryFleet$Job" 87 mi_JM_floorModI := Or.inl (qw4 18 rfl rfl)
theorem y_JM_floorModI : qY mi_JM_floorModI 2 := ⟨(qw4 20 rfl rfl), (qw1 13 rfl rfl), ⟨by decide, by decide, by decide +kernel⟩, by decide⟩
theorem s_JM_floorModI : Cond.static mi_JM_floorModI.1 ∈ qGW := (qw4 19 rfl rfl)
theorem lk_Jo_101 : qLk "QueryFleet$Job" 101 mi_Li_removeAt := Or.inl (qw4 10 rfl rfl)
theorem lk_Jo_104 : qLk "QueryFleet$Job" 104 mi_Jo_workerOf := Or.inl (qw4 14 rfl rfl)
theorem y_Jo_workerOf : qY mi_Jo_workerOf 2 := ⟨(qw4 17 rfl rfl), (qw1 9 rfl rfl), ⟨by decide, by decide, by decide +kernel⟩, by decide⟩
theorem v_Jo_workerOf : Cond.instanceMethod mi_Jo_workerOf.1 ∈ qGW ∧ Cond.selects mi_Jo_workerOf.1.cls mi_Jo_workerOf.1 mi_Jo_workerOf.1 ∈ qGW := ⟨(qw4 16 rfl rfl), qw_s (q := (⟨"QueryFleet$Job", "workerOf", "(II)I"⟩, _)) (by show _ ∈ lw_privs_1 ++ (lw_privs_2 ++ (lw_privs_3 ++ (lw_privs_4 ++ (lw_privs_5)))); exact List.mem_append_right _ (List.mem_append_left _ (List.mem_of_getElem? (i := 6) rfl)))⟩
theorem lk_Jo_107 : qLk "QueryFleet$Job" 107 mi_Jo_finish := Or.inl (qw4 21 rfl rfl)
theorem y_Jo_finish : qY mi_Jo_finish 1 := ⟨(qw4 24 rfl rfl), (qw1 9 rfl rfl), ⟨by decide, by decide, by decide +kernel⟩, by decide⟩
theorem v_Jo_finish : Cond.instanceMethod mi_Jo_finish.1 ∈ qGW ∧ Cond.selects mi_Jo_finish.1.cls mi_Jo_finish.1 mi_Jo_finish.1 ∈ qGW := ⟨(qw4 23 rfl rfl), qw_s (q := (⟨"QueryFleet$Job", "finish", "(I)V"⟩, _)) (by show _ ∈ lw_privs_1 ++ (lw_privs_2 ++ (lw_privs_3 ++ (lw_privs_4 ++ (lw_privs_5)))); exact List.mem_append_right _ (List.mem_append_left _ (List.mem_of_getElem? (i := 7) rfl)))⟩
theorem lk_Jo_110 : qLk "QueryFleet$Job" 110 mi_Jo_sendReady := Or.inl (qw4 25 rfl rfl)
theorem oi_Li_1 : Cond.methodLink "QueryFleet$Line" 1 Lib.objectInit ∈ qGW ∧ Cond.instanceMethod Lib.objectInit ∈ qGW ∧ Cond.code Lib.objectInit ⟨#[0xb1]⟩ 1 none ∈ qGW := ⟨(qw2 47 rfl rfl), (qw1 21 rfl rfl), (qw1 22 rfl rfl)⟩
theorem oi_Ma_3 : Cond.methodLink "QueryFleet$Machine" 3 Lib.objectInit ∈ qGW ∧ Cond.instanceMethod Lib.objectInit ∈ qGW ∧ Cond.code Lib.objectInit ⟨#[0xb1]⟩ 1 none ∈ qGW := ⟨(qw1 146 rfl rfl), (qw1 21 rfl rfl), (qw1 22 rfl rfl)⟩
theorem lk_Ma_25 : qLk "QueryFleet$Machine" 25 mi_Tb_isNull := Or.inl (qw3 45 rfl rfl)
theorem y_Tb_isNull : qY mi_Tb_isNull 2 := ⟨(qw3 28 rfl rfl), (qw1 7 rfl rfl), ⟨by decide, by decide, by decide +kernel⟩, by decide⟩
theorem v_Tb_isNull : Cond.instanceMethod mi_Tb_isNull.1 ∈ qGW ∧ Cond.selects mi_Tb_isNull.1.cls mi_Tb_isNull.1 mi_Tb_isNull.1 ∈ qGW := ⟨(qw3 26 rfl rfl), (qw3 27 rfl rfl)⟩
theorem lk_Ma_31 : qLk "QueryFleet$Machine" 31 mi_Tb_value := Or.inl (qw3 46 rfl rfl)
theorem y_Tb_value : qY mi_Tb_value 2 := ⟨(qw3 32 rfl rfl), (qw1 7 rfl rfl), ⟨by decide, by decide, by decide +kernel⟩, by decide⟩
theorem v_Tb_value : Cond.instanceMethod mi_Tb_value.1 ∈ qGW ∧ Cond.selects mi_Tb_value.1.cls mi_Tb_value.1 mi_Tb_value.1 ∈ qGW := ⟨(qw3 30 rfl rfl), (qw3 31 rfl rfl)⟩
theorem lk_Ma_35 : qLk "QueryFleet$Machine" 35 mi_Ma_set := Or.inl (qw3 51 rfl rfl)
theorem y_Ma_set : qY mi_Ma_set 3 := ⟨(qw3 54 rfl rfl), (qw1 5 rfl rfl), ⟨by decide, by decide, by decide +kernel⟩, by decide⟩
theorem v_Ma_set : Cond.instanceMethod mi_Ma_set.1 ∈ qGW ∧ Cond.selects mi_Ma_set.1.cls mi_Ma_set.1 mi_Ma_set.1 ∈ qGW := ⟨(qw3 53 rfl rfl), qw_s (q := (⟨"QueryFleet$Machine", "set", "(IJZ)V"⟩, _)) (by show _ ∈ lw_privs_1 ++ (lw_privs_2 ++ (lw_privs_3 ++ (lw_privs_4 ++ (lw_privs_5)))); exact List.mem_append_left _ (List.mem_of_getElem? (i := 5) rfl))⟩
theorem lk_Ma_52 : qLk "QueryFleet$Machine" 52 mi_Ma_combine := Or.inl (qw3 55 rfl rfl)
theorem y_Ma_combine : qY mi_Ma_combine 3 := ⟨(qw3 58 rfl rfl), (qw1 5 rfl rfl), ⟨by decide, by decide, by decide +kernel⟩, by decide⟩
theorem v_Ma_combine : Cond.instanceMethod mi_Ma_combine.1 ∈ qGW ∧ Cond.selects mi_Ma_combine.1.cls mi_Ma_combine.1 mi_Ma_combine.1 ∈ qGW := ⟨(qw3 57 rfl rfl), qw_s (q := (⟨"QueryFleet$Machine", "combine", "(III)V"⟩, _)) (by show _ ∈ lw_privs_1 ++ (lw_privs_2 ++ (lw_privs_3 ++ (lw_privs_4 ++ (lw_privs_5)))); exact List.mem_append_left _ (List.mem_of_getElem? (i := 6) rfl))⟩
theorem lk_Ma_56 : qLk "QueryFleet$Machine" 56 mi_Ma_decide := Or.inl (qw3 59 rfl rfl)
theorem y_Ma_decide : qY mi_Ma_decide 3 := ⟨(qw3 62 rfl rfl), (qw1 5 rfl rfl), ⟨by decide, by decide, by decide +kernel⟩, by decide⟩
theorem v_Ma_decide : Cond.instanceMethod mi_Ma_decide.1 ∈ qGW ∧ Cond.selects mi_Ma_decide.1.cls mi_Ma_decide.1 mi_Ma_decide.1 ∈ qGW := ⟨(qw3 61 rfl rfl), qw_s (q := (⟨"QueryFleet$Machine", "decide", "(IIJ)V"⟩, _)) (by show _ ∈ lw_privs_1 ++ (lw_privs_2 ++ (lw_privs_3 ++ (lw_privs_4 ++ (lw_privs_5)))); exact List.mem_append_left _ (List.mem_of_getElem? (i := 7) rfl))⟩
theorem lk_Ma_60 : qLk "QueryFleet$Machine" 60 mi_Ma_isLong := Or.inl (qw3 63 rfl rfl)
theorem y_Ma_isLong : qY mi_Ma_isLong 3 := ⟨(qw3 65 rfl rfl), (qw1 5 rfl rfl), ⟨by decide, by decide, by decide +kernel⟩, by decide⟩
theorem s_Ma_isLong : Cond.static mi_Ma_isLong.1 ∈ qGW := (qw3 64 rfl rfl)
theorem lk_Ma_64 : qLk "QueryFleet$Machine" 64 mi_Ma_calculate := Or.inl (qw3 68 rfl rfl)
theorem y_Ma_calculate : qY mi_Ma_calculate 3 := ⟨(qw3 70 rfl rfl), (qw1 5 rfl rfl), ⟨by decide, by decide, by decide +kernel⟩, by decide⟩
theorem s_Ma_calculate : Cond.static mi_Ma_calculate.1 ∈ qGW := (qw3 69 rfl rfl)
theorem oi_Pl_3 : Cond.methodLink "QueryFleet$Plan" 3 Lib.objectInit ∈ qGW ∧ Cond.instanceMethod Lib.objectInit ∈ qGW ∧ Cond.code Lib.objectInit ⟨#[0xb1]⟩ 1 none ∈ qGW := ⟨(qw1 28 rfl rfl), (qw1 21 rfl rfl), (qw1 22 rfl rfl)⟩
theorem lk_Pl_19 : qLk "QueryFleet$Plan" 19 mi_Qu_init := Or.inr ⟨"QueryFleet", List.mem_of_getElem? (i := 0) rfl⟩
theorem y_Qu_init : qY mi_Qu_init 0 := ⟨(qw1 35 rfl rfl), (qw1 3 rfl rfl), ⟨by decide, by decide, by decide +kernel⟩, by decide⟩
theorem i_Qu_init : mi_Qu_init.1.name = "<init>" ∧ mi_Qu_init.2.2.2 = none ∧ Cond.instanceMethod mi_Qu_init.1 ∈ qGW := ⟨rfl, rfl, (qw1 34 rfl rfl)⟩
theorem lk_Pl_26 : qLk "QueryFleet$Plan" 26 mi_Ma_init := Or.inr ⟨"QueryFleet", List.mem_of_getElem? (i := 2) rfl⟩
theorem y_Ma_init : qY mi_Ma_init 0 := ⟨(qw1 145 rfl rfl), (qw1 5 rfl rfl), ⟨by decide, by decide, by decide +kernel⟩, by decide⟩
theorem i_Ma_init : mi_Ma_init.1.name = "<init>" ∧ mi_Ma_init.2.2.2 = none ∧ Cond.instanceMethod mi_Ma_init.1 ∈ qGW := ⟨rfl, rfl, (qw1 144 rfl rfl)⟩
theorem lk_Pl_33 : qLk "QueryFleet$Plan" 33 mi_Ag_init := Or.inr ⟨"QueryFleet", List.mem_of_getElem? (i := 3) rfl⟩
theorem y_Ag_init : qY mi_Ag_init 0 := ⟨(qw1 168 rfl rfl), (qw1 6 rfl rfl), ⟨by decide, by decide, by decide +kernel⟩, by decide⟩
theorem i_Ag_init : mi_Ag_init.1.name = "<init>" ∧ mi_Ag_init.2.2.2 = none ∧ Cond.instanceMethod mi_Ag_init.1 ∈ qGW := ⟨rfl, rfl, (qw1 167 rfl rfl)⟩
theorem lk_Pl_56 : qLk "QueryFleet$Plan" 56 mi_Tb_init := Or.inr ⟨"QueryFleet", List.mem_of_getElem? (i := 4) rfl⟩
theorem y_Tb_init : qY mi_Tb_init 0 := ⟨(qw1 192 rfl rfl), (qw1 7 rfl rfl), ⟨by decide, by decide, by decide +kernel⟩, by decide⟩
theorem i_Tb_init : mi_Tb_init.1.name = "<init>" ∧ mi_Tb_init.2.2.2 = none ∧ Cond.instanceMethod mi_Tb_init.1 ∈ qGW := ⟨rfl, rfl, (qw1 191 rfl rfl)⟩
theorem lk_Pl_64 : qLk "QueryFleet$Plan" 64 mi_Qu_isJoin := Or.inl (qw3 20 rfl rfl)
theorem y_Qu_isJoin : qY mi_Qu_isJoin 0 := ⟨(qw2 182 rfl rfl), (qw1 3 rfl rfl), ⟨by decide, by decide, by decide +kernel⟩, by decide⟩
theorem v_Qu_isJoin : Cond.instanceMethod mi_Qu_isJoin.1 ∈ qGW ∧ Cond.selects mi_Qu_isJoin.1.cls mi_Qu_isJoin.1 mi_Qu_isJoin.1 ∈ qGW := ⟨(qw2 180 rfl rfl), (qw2 181 rfl rfl)⟩
theorem lk_Pl_74 : qLk "QueryFleet$Plan" 74 mi_Pl_arePair := Or.inl (qw3 21 rfl rfl)
theorem y_Pl_arePair : qY mi_Pl_arePair 4 := ⟨(qw3 24 rfl rfl), (qw1 2 rfl rfl), ⟨by decide, by decide, by decide +kernel⟩, by decide⟩
theorem v_Pl_arePair : Cond.instanceMethod mi_Pl_arePair.1 ∈ qGW ∧ Cond.selects mi_Pl_arePair.1.cls mi_Pl_arePair.1 mi_Pl_arePair.1 ∈ qGW := ⟨(qw3 23 rfl rfl), qw_s (q := (⟨"QueryFleet$Plan", "arePair", "(LQueryFleet$Table;ILQueryFleet$Table;I)Z"⟩, _)) (by show _ ∈ lw_privs_1 ++ (lw_privs_2 ++ (lw_privs_3 ++ (lw_privs_4 ++ (lw_privs_5)))); exact List.mem_append_left _ (List.mem_of_getElem? (i := 2) rfl))⟩
theorem lk_Pl_78 : qLk "QueryFleet$Plan" 78 mi_Pl_keepIfAllTrue := Or.inl (qw3 33 rfl rfl)
theorem y_Pl_keepIfAllTrue : qY mi_Pl_keepIfAllTrue 2 := ⟨(qw3 36 rfl rfl), (qw1 2 rfl rfl), ⟨by decide, by decide, by decide +kernel⟩, by decide⟩
theorem v_Pl_keepIfAllTrue : Cond.instanceMethod mi_Pl_keepIfAllTrue.1 ∈ qGW ∧ Cond.selects mi_Pl_keepIfAllTrue.1.cls mi_Pl_keepIfAllTrue.1 mi_Pl_keepIfAllTrue.1 ∈ qGW := ⟨(qw3 35 rfl rfl), qw_s (q := (⟨"QueryFleet$Plan", "keepIfAllTrue", "(II)V"⟩, _)) (by show _ ∈ lw_privs_1 ++ (lw_privs_2 ++ (lw_privs_3 ++ (lw_privs_4 ++ (lw_privs_5)))); exact List.mem_append_left _ (List.mem_of_getElem? (i := 3) rfl))⟩
theorem lk_Pl_88 : qLk "QueryFleet$Plan" 88 mi_Tb_isNull := Or.inl (qw3 25 rfl rfl)
theorem lk_Pl_95 : qLk "QueryFleet$Plan" 95 mi_Tb_value := Or.inl (qw3 29 rfl rfl)
theorem lk_Pl_99 : qLk "QueryFleet$Plan" 99 mi_Pl_loadJoined := Or.inl (qw3 37 rfl rfl)
theorem y_Pl_loadJoined : qY mi_Pl_loadJoined 2 := ⟨(qw3 40 rfl rfl), (qw1 2 rfl rfl), ⟨by decide, by decide, by decide +kernel⟩, by decide⟩
theorem v_Pl_loadJoined : Cond.instanceMethod mi_Pl_loadJoined.1 ∈ qGW ∧ Cond.selects mi_Pl_loadJoined.1.cls mi_Pl_loadJoined.1 mi_Pl_loadJoined.1 ∈ qGW := ⟨(qw3 39 rfl rfl), qw_s (q := (⟨"QueryFleet$Plan", "loadJoined", "(II)V"⟩, _)) (by show _ ∈ lw_privs_1 ++ (lw_privs_2 ++ (lw_privs_3 ++ (lw_privs_4 ++ (lw_privs_5)))); exact List.mem_append_left _ (List.mem_of_getElem? (i := 4) rfl))⟩
theorem lk_Pl_109 : qLk "QueryFleet$Plan" 109 mi_Ma_evaluate := Or.inl (qw3 47 rfl rfl)
theorem y_Ma_evaluate : qY mi_Ma_evaluate 1 := ⟨(qw3 50 rfl rfl), (qw1 5 rfl rfl), ⟨by decide, by decide, by decide +kernel⟩, by decide⟩
theorem v_Ma_evaluate : Cond.instanceMethod mi_Ma_evaluate.1 ∈ qGW ∧ Cond.selects mi_Ma_evaluate.1.cls mi_Ma_evaluate.1 mi_Ma_evaluate.1 ∈ qGW := ⟨(qw3 48 rfl rfl), (qw3 49 rfl rfl)⟩
theorem lk_Pl_113 : qLk "QueryFleet$Plan" 113 mi_Ma_isTrue := Or.inl (qw3 71 rfl rfl)
theorem y_Ma_isTrue : qY mi_Ma_isTrue 0 := ⟨(qw3 74 rfl rfl), (qw1 5 rfl rfl), ⟨by decide, by decide, by decide +kernel⟩, by decide⟩
theorem v_Ma_isTrue : Cond.instanceMethod mi_Ma_isTrue.1 ∈ qGW ∧ Cond.selects mi_Ma_isTrue.1.cls mi_Ma_isTrue.1 mi_Ma_isTrue.1 ∈ qGW := ⟨(qw3 72 rfl rfl), (qw3 73 rfl rfl)⟩
theorem lk_Pl_116 : qLk "QueryFleet$Plan" 116 mi_Ma_load := Or.inl (qw3 41 rfl rfl)
theorem y_Ma_load : qY mi_Ma_load 3 := ⟨(qw3 44 rfl rfl), (qw1 5 rfl rfl), ⟨by decide, by decide, by decide +kernel⟩, by decide⟩
theorem v_Ma_load : Cond.instanceMethod mi_Ma_load.1 ∈ qGW ∧ Cond.selects mi_Ma_load.1.cls mi_Ma_load.1 mi_Ma_load.1 ∈ qGW := ⟨(qw3 42 rfl rfl), (qw3 43 rfl rfl)⟩
theorem lk_Pl_120 : qLk "QueryFleet$Plan" 120 mi_Qu_isGrouped := Or.inl (qw3 79 rfl rfl)
theorem y_Qu_isGrouped : qY mi_Qu_isGrouped 0 := ⟨(qw3 11 rfl rfl), (qw1 3 rfl rfl), ⟨by decide, by decide, by decide +kernel⟩, by decide⟩
theorem v_Qu_isGrouped : Cond.instanceMethod mi_Qu_isGrouped.1 ∈ qGW ∧ Cond.selects mi_Qu_isGrouped.1.cls mi_Qu_isGrouped.1 mi_Qu_isGrouped.1 ∈ qGW := ⟨(qw3 9 rfl rfl), (qw3 10 rfl rfl)⟩
theorem lk_Pl_126 : qLk "QueryFleet$Plan" 126 mi_Pl_findGroup := Or.inl (qw3 80 rfl rfl)
theorem y_Pl_findGroup : qY mi_Pl_findGroup 1 := ⟨(qw3 83 rfl rfl), (qw1 2 rfl rfl), ⟨by decide, by decide, by decide +kernel⟩, by decide⟩
theorem v_Pl_findGroup : Cond.instanceMethod mi_Pl_findGroup.1 ∈ qGW ∧ Cond.selects mi_Pl_findGroup.1.cls mi_Pl_findGroup.1 mi_Pl_findGroup.1 ∈ qGW := ⟨(qw3 82 rfl rfl), qw_s (q := (⟨"QueryFleet$Plan", "findGroup", "(I)I"⟩, _)) (by show _ ∈ lw_privs_1 ++ (lw_privs_2 ++ (lw_privs_3 ++ (lw_privs_4 ++ (lw_privs_5)))); exact List.mem_append_left _ (List.mem_of_getElem? (i := 8) rfl))⟩
theorem lk_Pl_139 : qLk "QueryFleet$Plan" 139 mi_Qu_resultColumns := Or.inl (qw3 88 rfl rfl)
theorem y_Qu_resultColumns : qY mi_Qu_resultColumns 0 := ⟨(qw3 91 rfl rfl), (qw1 3 rfl rfl), ⟨by decide, by decide, by decide +kernel⟩, by decide⟩
theorem v_Qu_resultColumns : Cond.instanceMethod mi_Qu_resultColumns.1 ∈ qGW ∧ Cond.selects mi_Qu_resultColumns.1.cls mi_Qu_resultColumns.1 mi_Qu_resultColumns.1 ∈ qGW := ⟨(qw3 89 rfl rfl), (qw3 90 rfl rfl)⟩
theorem lk_Pl_148 : qLk "QueryFleet$Plan" 148 mi_Qu_isAggregate := Or.inl (qw3 92 rfl rfl)
theorem y_Qu_isAggregate : qY mi_Qu_isAggregate 0 := ⟨(qw3 15 rfl rfl), (qw1 3 rfl rfl), ⟨by decide, by decide, by decide +kernel⟩, by decide⟩
theorem v_Qu_isAggregate : Cond.instanceMethod mi_Qu_isAggregate.1 ∈ qGW ∧ Cond.selects mi_Qu_isAggregate.1.cls mi_Qu_isAggregate.1 mi_Qu_isAggregate.1 ∈ qGW := ⟨(qw3 13 rfl rfl), (qw3 14 rfl rfl)⟩
theorem lk_Pl_154 : qLk "QueryFleet$Plan" 154 mi_Pl_fillGroup := Or.inl (qw3 93 rfl rfl)
theorem y_Pl_fillGroup : qY mi_Pl_fillGroup 2 := ⟨(qw3 96 rfl rfl), (qw1 2 rfl rfl), ⟨by decide, by decide, by decide +kernel⟩, by decide⟩
theorem v_Pl_fillGroup : Cond.instanceMethod mi_Pl_fillGroup.1 ∈ qGW ∧ Cond.selects mi_Pl_fillGroup.1.cls mi_Pl_fillGroup.1 mi_Pl_fillGroup.1 ∈ qGW := ⟨(qw3 95 rfl rfl), qw_s (q := (⟨"QueryFleet$Plan", "fillGroup", "(LQueryFleet$Result;I)V"⟩, _)) (by show _ ∈ lw_privs_1 ++ (lw_privs_2 ++ (lw_privs_3 ++ (lw_privs_4 ++ (lw_privs_5)))); exact List.mem_append_left _ (List.mem_of_getElem? (i := 9) rfl))⟩
theorem lk_Pl_158 : qLk "QueryFleet$Plan" 158 mi_Pl_fillPlain := Or.inl (qw3 142 rfl rfl)
theorem y_Pl_fillPlain : qY mi_Pl_fillPlain 2 := ⟨(qw3 145 rfl rfl), (qw1 2 rfl rfl), ⟨by decide, by decide, by decide +kernel⟩, by decide⟩
theorem v_Pl_fillPlain : Cond.instanceMethod mi_Pl_fillPlain.1 ∈ qGW ∧ Cond.selects mi_Pl_fillPlain.1.cls mi_Pl_fillPlain.1 mi_Pl_fillPlain.1 ∈ qGW := ⟨(qw3 144 rfl rfl), qw_s (q := (⟨"QueryFleet$Plan", "fillPlain", "(LQueryFleet$Result;I)V"⟩, _)) (by show _ ∈ lw_privs_1 ++ (lw_privs_2 ++ (lw_privs_3 ++ (lw_privs_4 ++ (lw_privs_5)))); exact List.mem_append_left _ (List.mem_of_getElem? (i := 12) rfl))⟩
theorem lk_Pl_167 : qLk "QueryFleet$Plan" 167 mi_Ma_value := Or.inl (qw3 111 rfl rfl)
theorem y_Ma_value : qY mi_Ma_value 0 := ⟨(qw3 114 rfl rfl), (qw1 5 rfl rfl), ⟨by decide, by decide, by decide +kernel⟩, by decide⟩
theorem v_Ma_value : Cond.instanceMethod mi_Ma_value.1 ∈ qGW ∧ Cond.selects mi_Ma_value.1.cls mi_Ma_value.1 mi_Ma_value.1 ∈ qGW := ⟨(qw3 112 rfl rfl), (qw3 113 rfl rfl)⟩
theorem lk_Pl_170 : qLk "QueryFleet$Plan" 170 mi_Ma_isNull := Or.inl (qw3 115 rfl rfl)
theorem y_Ma_isNull : qY mi_Ma_isNull 0 := ⟨(qw3 118 rfl rfl), (qw1 5 rfl rfl), ⟨by decide, by decide, by decide +kernel⟩, by decide⟩
theorem v_Ma_isNull : Cond.instanceMethod mi_Ma_isNull.1 ∈ qGW ∧ Cond.selects mi_Ma_isNull.1.cls mi_Ma_isNull.1 mi_Ma_isNull.1 ∈ qGW := ⟨(qw3 116 rfl rfl), (qw3 117 rfl rfl)⟩
theorem lk_Pl_172 : qLk "QueryFleet$Plan" 172 mi_Re_set := Or.inl (qw3 97 rfl rfl)
theorem y_Re_set : qY mi_Re_set 4 := ⟨(qw3 100 rfl rfl), (qw1 8 rfl rfl), ⟨by decide, by decide, by decide +kernel⟩, by decide⟩
theorem v_Re_set : Cond.instanceMethod mi_Re_set.1 ∈ qGW ∧ Cond.selects mi_Re_set.1.cls mi_Re_set.1 mi_Re_set.1 ∈ qGW := ⟨(qw3 98 rfl rfl), (qw3 99 rfl rfl)⟩
theorem lk_Pl_176 : qLk "QueryFleet$Plan" 176 mi_Pl_addUp := Or.inl (qw3 101 rfl rfl)
theorem y_Pl_addUp : qY mi_Pl_addUp 2 := ⟨(qw3 104 rfl rfl), (qw1 2 rfl rfl), ⟨by decide, by decide, by decide +kernel⟩, by decide⟩
theorem v_Pl_addUp : Cond.instanceMethod mi_Pl_addUp.1 ∈ qGW ∧ Cond.selects mi_Pl_addUp.1.cls mi_Pl_addUp.1 mi_Pl_addUp.1 ∈ qGW := ⟨(qw3 103 rfl rfl), qw_s (q := (⟨"QueryFleet$Plan", "addUp", "(LQueryFleet$Expression;I)V"⟩, _)) (by show _ ∈ lw_privs_1 ++ (lw_privs_2 ++ (lw_privs_3 ++ (lw_privs_4 ++ (lw_privs_5)))); exact List.mem_append_left _ (List.mem_of_getElem? (i := 10) rfl))⟩
theorem lk_Pl_183 : qLk "QueryFleet$Plan" 183 mi_Ag_value := Or.inl (qw3 130 rfl rfl)
theorem y_Ag_value : qY mi_Ag_value 1 := ⟨(qw3 133 rfl rfl), (qw1 6 rfl rfl), ⟨by decide, by decide, by decide +kernel⟩, by decide⟩
theorem v_Ag_value : Cond.instanceMethod mi_Ag_value.1 ∈ qGW ∧ Cond.selects mi_Ag_value.1.cls mi_Ag_value.1 mi_Ag_value.1 ∈ qGW := ⟨(qw3 131 rfl rfl), (qw3 132 rfl rfl)⟩
theorem lk_Pl_186 : qLk "QueryFleet$Plan" 186 mi_Ag_isNull := Or.inl (qw3 134 rfl rfl)
theorem y_Ag_isNull : qY mi_Ag_isNull 1 := ⟨(qw3 137 rfl rfl), (qw1 6 rfl rfl), ⟨by decide, by decide, by decide +kernel⟩, by decide⟩
theorem v_Ag_isNull : Cond.instanceMethod mi_Ag_isNull.1 ∈ qGW ∧ Cond.selects mi_Ag_isNull.1.cls mi_Ag_isNull.1 mi_Ag_isNull.1 ∈ qGW := ⟨(qw3 135 rfl rfl), (qw3 136 rfl rfl)⟩
theorem lk_Pl_189 : qLk "QueryFleet$Plan" 189 mi_Ag_clear := Or.inl (qw3 105 rfl rfl)
theorem y_Ag_clear : qY mi_Ag_clear 0 := ⟨(qw3 108 rfl rfl), (qw1 6 rfl rfl), ⟨by decide, by decide, by decide +kernel⟩, by decide⟩
theorem v_Ag_clear : Cond.instanceMethod mi_Ag_clear.1 ∈ qGW ∧ Cond.selects mi_Ag_clear.1.cls mi_Ag_clear.1 mi_Ag_clear.1 ∈ qGW := ⟨(qw3 106 rfl rfl), (qw3 107 rfl rfl)⟩
theorem lk_Pl_192 : qLk "QueryFleet$Plan" 192 mi_Ag_add := Or.inl (qw3 119 rfl rfl)
theorem y_Ag_add : qY mi_Ag_add 2 := ⟨(qw3 122 rfl rfl), (qw1 6 rfl rfl), ⟨by decide, by decide, by decide +kernel⟩, by decide⟩
theorem v_Ag_add : Cond.instanceMethod mi_Ag_add.1 ∈ qGW ∧ Cond.selects mi_Ag_add.1.cls mi_Ag_add.1 mi_Ag_add.1 ∈ qGW := ⟨(qw3 120 rfl rfl), (qw3 121 rfl rfl)⟩
theorem lk_Pl_196 : qLk "QueryFleet$Plan" 196 mi_Pl_scannedRows := Or.inl (qw3 184 rfl rfl)
theorem y_Pl_scannedRows : qY mi_Pl_scannedRows 4 := ⟨(qw3 187 rfl rfl), (qw1 2 rfl rfl), ⟨by decide, by decide, by decide +kernel⟩, by decide⟩
theorem v_Pl_scannedRows : Cond.instanceMethod mi_Pl_scannedRows.1 ∈ qGW ∧ Cond.selects mi_Pl_scannedRows.1.cls mi_Pl_scannedRows.1 mi_Pl_scannedRows.1 ∈ qGW := ⟨(qw3 186 rfl rfl), qw_s (q := (⟨"QueryFleet$Plan", "scannedRows", "(IIII)I"⟩, _)) (by show _ ∈ lw_privs_1 ++ (lw_privs_2 ++ (lw_privs_3 ++ (lw_privs_4 ++ (lw_privs_5)))); exact List.mem_append_right _ (List.mem_append_left _ (List.mem_of_getElem? (i := 0) rfl)))⟩
theorem lk_Pl_200 : qLk "QueryFleet$Plan" 200 mi_Pl_joinedRows := Or.inl (qw3 210 rfl rfl)
theorem y_Pl_joinedRows : qY mi_Pl_joinedRows 2 := ⟨(qw3 213 rfl rfl), (qw1 2 rfl rfl), ⟨by decide, by decide, by decide +kernel⟩, by decide⟩
theorem v_Pl_joinedRows : Cond.instanceMethod mi_Pl_joinedRows.1 ∈ qGW ∧ Cond.selects mi_Pl_joinedRows.1.cls mi_Pl_joinedRows.1 mi_Pl_joinedRows.1 ∈ qGW := ⟨(qw3 212 rfl rfl), qw_s (q := (⟨"QueryFleet$Plan", "joinedRows", "(II)I"⟩, _)) (by show _ ∈ lw_privs_1 ++ (lw_privs_2 ++ (lw_privs_3 ++ (lw_privs_4 ++ (lw_privs_5)))); exact List.mem_append_right _ (List.mem_append_left _ (List.mem_of_getElem? (i := 2) rfl)))⟩
theorem lk_Pl_203 : qLk "QueryFleet$Plan" 203 mi_Pl_groupsOfPart := Or.inl (qw3 214 rfl rfl)
theorem y_Pl_groupsOfPart : qY mi_Pl_groupsOfPart 2 := ⟨(qw3 217 rfl rfl), (qw1 2 rfl rfl), ⟨by decide, by decide, by decide +kernel⟩, by decide⟩
theorem v_Pl_groupsOfPart : Cond.instanceMethod mi_Pl_groupsOfPart.1 ∈ qGW ∧ Cond.selects mi_Pl_groupsOfPart.1.cls mi_Pl_groupsOfPart.1 mi_Pl_groupsOfPart.1 ∈ qGW := ⟨(qw3 216 rfl rfl), qw_s (q := (⟨"QueryFleet$Plan", "groupsOfPart", "(II)I"⟩, _)) (by show _ ∈ lw_privs_1 ++ (lw_privs_2 ++ (lw_privs_3 ++ (lw_privs_4 ++ (lw_privs_5)))); exact List.mem_append_right _ (List.mem_append_left _ (List.mem_of_getElem? (i := 3) rfl)))⟩
theorem lk_Pl_206 : qLk "QueryFleet$Plan" 206 mi_Pl_partOf := Or.inl (qw3 188 rfl rfl)
theorem y_Pl_partOf : qY mi_Pl_partOf 3 := ⟨(qw3 190 rfl rfl), (qw1 2 rfl rfl), ⟨by decide, by decide, by decide +kernel⟩, by decide⟩
theorem s_Pl_partOf : Cond.static mi_Pl_partOf.1 ∈ qGW := (qw3 189 rfl rfl)
theorem lk_Pl_210 : qLk "QueryFleet$Plan" 210 mi_Pl_passesPushed := Or.inl (qw3 194 rfl rfl)
theorem y_Pl_passesPushed : qY mi_Pl_passesPushed 1 := ⟨(qw3 197 rfl rfl), (qw1 2 rfl rfl), ⟨by decide, by decide, by decide +kernel⟩, by decide⟩
theorem v_Pl_passesPushed : Cond.instanceMethod mi_Pl_passesPushed.1 ∈ qGW ∧ Cond.selects mi_Pl_passesPushed.1.cls mi_Pl_passesPushed.1 mi_Pl_passesPushed.1 ∈ qGW := ⟨(qw3 196 rfl rfl), qw_s (q := (⟨"QueryFleet$Plan", "passesPushed", "(I)Z"⟩, _)) (by show _ ∈ lw_privs_1 ++ (lw_privs_2 ++ (lw_privs_3 ++ (lw_privs_4 ++ (lw_privs_5)))); exact List.mem_append_right _ (List.mem_append_left _ (List.mem_of_getElem? (i := 1) rfl)))⟩
theorem lk_Pl_213 : qLk "QueryFleet$Plan" 213 mi_Qu_isPushed := Or.inl (qw3 198 rfl rfl)
theorem y_Qu_isPushed : qY mi_Qu_isPushed 2 := ⟨(qw3 201 rfl rfl), (qw1 3 rfl rfl), ⟨by decide, by decide, by decide +kernel⟩, by decide⟩
theorem v_Qu_isPushed : Cond.instanceMethod mi_Qu_isPushed.1 ∈ qGW ∧ Cond.selects mi_Qu_isPushed.1.cls mi_Qu_isPushed.1 mi_Qu_isPushed.1 ∈ qGW := ⟨(qw3 199 rfl rfl), (qw3 200 rfl rfl)⟩
theorem lk_Pl_217 : qLk "QueryFleet$Plan" 217 mi_JM_floorModJ := Or.inl (qw3 191 rfl rfl)
theorem y_JM_floorModJ : qY mi_JM_floorModJ 2 := ⟨(qw3 193 rfl rfl), (qw1 13 rfl rfl), ⟨by decide, by decide, by decide +kernel⟩, by decide⟩
theorem s_JM_floorModJ : Cond.static mi_JM_floorModJ.1 ∈ qGW := (qw3 192 rfl rfl)
theorem oi_Qu_3 : Cond.methodLink "QueryFleet$Query" 3 Lib.objectInit ∈ qGW ∧ Cond.instanceMethod Lib.objectInit ∈ qGW ∧ Cond.code Lib.objectInit ⟨#[0xb1]⟩ 1 none ∈ qGW := ⟨(qw1 36 rfl rfl), (qw1 21 rfl rfl), (qw1 22 rfl rfl)⟩
theorem lk_Qu_9 : qLk "QueryFleet$Query" 9 mi_Qu_makeExpressions := Or.inl (qw1 37 rfl rfl)
theorem y_Qu_makeExpressions : qY mi_Qu_makeExpressions 1 := ⟨(qw1 39 rfl rfl), (qw1 3 rfl rfl), ⟨by decide, by decide, by decide +kernel⟩, by decide⟩
theorem s_Qu_makeExpressions : Cond.static mi_Qu_makeExpressions.1 ∈ qGW := (qw1 38 rfl rfl)
theorem lk_Qu_38 : qLk "QueryFleet$Query" 38 mi_Ex_init := Or.inr ⟨"QueryFleet", List.mem_of_getElem? (i := 1) rfl⟩
theorem y_Ex_init : qY mi_Ex_init 0 := ⟨(qw1 45 rfl rfl), (qw1 4 rfl rfl), ⟨by decide, by decide, by decide +kernel⟩, by decide⟩
theorem i_Ex_init : mi_Ex_init.1.name = "<init>" ∧ mi_Ex_init.2.2.2 = none ∧ Cond.instanceMethod mi_Ex_init.1 ∈ qGW := ⟨rfl, rfl, (qw1 44 rfl rfl)⟩
theorem lk_Qu_73 : qLk "QueryFleet$Query" 73 mi_Qu_isJoin := Or.inl (qw2 179 rfl rfl)
theorem lk_Qu_77 : qLk "QueryFleet$Query" 77 mi_Qu_isGrouped := Or.inl (qw3 8 rfl rfl)
theorem lk_Qu_80 : qLk "QueryFleet$Query" 80 mi_Qu_isAggregate := Or.inl (qw3 12 rfl rfl)
theorem lk_Qu_83 : qLk "QueryFleet$Query" 83 mi_Ex_namesSecond := Or.inl (qw3 202 rfl rfl)
theorem y_Ex_namesSecond : qY mi_Ex_namesSecond 0 := ⟨(qw3 205 rfl rfl), (qw1 4 rfl rfl), ⟨by decide, by decide, by decide +kernel⟩, by decide⟩
theorem v_Ex_namesSecond : Cond.instanceMethod mi_Ex_namesSecond.1 ∈ qGW ∧ Cond.selects mi_Ex_namesSecond.1.cls mi_Ex_namesSecond.1 mi_Ex_namesSecond.1 ∈ qGW := ⟨(qw3 203 rfl rfl), (qw3 204 rfl rfl)⟩
theorem lk_Qu_86 : qLk "QueryFleet$Query" 86 mi_Ex_namesFirst := Or.inl (qw3 206 rfl rfl)
theorem y_Ex_namesFirst : qY mi_Ex_namesFirst 0 := ⟨(qw3 209 rfl rfl), (qw1 4 rfl rfl), ⟨by decide, by decide, by decide +kernel⟩, by decide⟩
theorem v_Ex_namesFirst : Cond.instanceMethod mi_Ex_namesFirst.1 ∈ qGW ∧ Cond.selects mi_Ex_namesFirst.1.cls mi_Ex_namesFirst.1 mi_Ex_namesFirst.1 ∈ qGW := ⟨(qw3 207 rfl rfl), (qw3 208 rfl rfl)⟩
theorem lk_Qu_89 : qLk "QueryFleet$Query" 89 mi_Ex_clear := Or.inl (qw2 187 rfl rfl)
theorem y_Ex_clear : qY mi_Ex_clear 0 := ⟨(qw2 190 rfl rfl), (qw1 4 rfl rfl), ⟨by decide, by decide, by decide +kernel⟩, by decide⟩
theorem v_Ex_clear : Cond.instanceMethod mi_Ex_clear.1 ∈ qGW ∧ Cond.selects mi_Ex_clear.1.cls mi_Ex_clear.1 mi_Ex_clear.1 ∈ qGW := ⟨(qw2 188 rfl rfl), (qw2 189 rfl rfl)⟩
theorem lk_Qu_92 : qLk "QueryFleet$Query" 92 mi_Ex_addPart := Or.inl (qw2 191 rfl rfl)
theorem lk_Qu_102 : qLk "QueryFleet$Query" 102 mi_Ex_addAll := Or.inl (qw2 207 rfl rfl)
theorem y_Ex_addAll : qY mi_Ex_addAll 1 := ⟨(qw2 210 rfl rfl), (qw1 4 rfl rfl), ⟨by decide, by decide, by decide +kernel⟩, by decide⟩
theorem v_Ex_addAll : Cond.instanceMethod mi_Ex_addAll.1 ∈ qGW ∧ Cond.selects mi_Ex_addAll.1.cls mi_Ex_addAll.1 mi_Ex_addAll.1 ∈ qGW := ⟨(qw2 208 rfl rfl), (qw2 209 rfl rfl)⟩
theorem lk_Qu_106 : qLk "QueryFleet$Query" 106 mi_Qu_moveOffStack := Or.inl (qw2 220 rfl rfl)
theorem y_Qu_moveOffStack : qY mi_Qu_moveOffStack 2 := ⟨(qw2 223 rfl rfl), (qw1 3 rfl rfl), ⟨by decide, by decide, by decide +kernel⟩, by decide⟩
theorem v_Qu_moveOffStack : Cond.instanceMethod mi_Qu_moveOffStack.1 ∈ qGW ∧ Cond.selects mi_Qu_moveOffStack.1.cls mi_Qu_moveOffStack.1 mi_Qu_moveOffStack.1 ∈ qGW := ⟨(qw2 222 rfl rfl), qw_s (q := (⟨"QueryFleet$Query", "moveOffStack", "([LQueryFleet$Expression;I)V"⟩, _)) (by show _ ∈ lw_privs_1 ++ (lw_privs_2 ++ (lw_privs_3 ++ (lw_privs_4 ++ (lw_privs_5)))); exact List.mem_append_left _ (List.mem_of_getElem? (i := 1) rfl))⟩
theorem oi_Re_3 : Cond.methodLink "QueryFleet$Result" 3 Lib.objectInit ∈ qGW ∧ Cond.instanceMethod Lib.objectInit ∈ qGW ∧ Cond.code Lib.objectInit ⟨#[0xb1]⟩ 1 none ∈ qGW := ⟨(qw2 6 rfl rfl), (qw1 21 rfl rfl), (qw1 22 rfl rfl)⟩
theorem lk_Re_39 : qLk "QueryFleet$Result" 39 mi_Re_compare := Or.inl (qw3 150 rfl rfl)
theorem y_Re_compare : qY mi_Re_compare 4 := ⟨(qw3 153 rfl rfl), (qw1 8 rfl rfl), ⟨by decide, by decide, by decide +kernel⟩, by decide⟩
theorem v_Re_compare : Cond.instanceMethod mi_Re_compare.1 ∈ qGW ∧ Cond.selects mi_Re_compare.1.cls mi_Re_compare.1 mi_Re_compare.1 ∈ qGW := ⟨(qw3 152 rfl rfl), qw_s (q := (⟨"QueryFleet$Result", "compare", "(IIIZ)I"⟩, _)) (by show _ ∈ lw_privs_1 ++ (lw_privs_2 ++ (lw_privs_3 ++ (lw_privs_4 ++ (lw_privs_5)))); exact List.mem_append_left _ (List.mem_of_getElem? (i := 13) rfl))⟩
theorem lk_Re_46 : qLk "QueryFleet$Result" 46 mi_JM_minI := Or.inl (qw3 161 rfl rfl)
theorem y_JM_minI : qY mi_JM_minI 2 := ⟨(qw3 163 rfl rfl), (qw1 13 rfl rfl), ⟨by decide, by decide, by decide +kernel⟩, by decide⟩
theorem s_JM_minI : Cond.static mi_JM_minI.1 ∈ qGW := (qw3 162 rfl rfl)
theorem lk_Re_55 : qLk "QueryFleet$Result" 55 mi_Re_compareAt := Or.inl (qw3 154 rfl rfl)
theorem y_Re_compareAt : qY mi_Re_compareAt 3 := ⟨(qw3 157 rfl rfl), (qw1 8 rfl rfl), ⟨by decide, by decide, by decide +kernel⟩, by decide⟩
theorem v_Re_compareAt : Cond.instanceMethod mi_Re_compareAt.1 ∈ qGW ∧ Cond.selects mi_Re_compareAt.1.cls mi_Re_compareAt.1 mi_Re_compareAt.1 ∈ qGW := ⟨(qw3 156 rfl rfl), qw_s (q := (⟨"QueryFleet$Result", "compareAt", "(III)I"⟩, _)) (by show _ ∈ lw_privs_1 ++ (lw_privs_2 ++ (lw_privs_3 ++ (lw_privs_4 ++ (lw_privs_5)))); exact List.mem_append_left _ (List.mem_of_getElem? (i := 14) rfl))⟩
theorem lk_Re_59 : qLk "QueryFleet$Result" 59 mi_JL_compare := Or.inl (qw3 158 rfl rfl)
theorem y_JL_compare : qY mi_JL_compare 2 := ⟨(qw3 160 rfl rfl), (qw1 14 rfl rfl), ⟨by decide, by decide, by decide +kernel⟩, by decide⟩
theorem s_JL_compare : Cond.static mi_JL_compare.1 ∈ qGW := (qw3 159 rfl rfl)
theorem oi_Tb_3 : Cond.methodLink "QueryFleet$Table" 3 Lib.objectInit ∈ qGW ∧ Cond.instanceMethod Lib.objectInit ∈ qGW ∧ Cond.code Lib.objectInit ⟨#[0xb1]⟩ 1 none ∈ qGW := ⟨(qw1 193 rfl rfl), (qw1 21 rfl rfl), (qw1 22 rfl rfl)⟩
theorem oi_Ta_3 : Cond.methodLink "QueryFleet$Task" 3 Lib.objectInit ∈ qGW ∧ Cond.instanceMethod Lib.objectInit ∈ qGW ∧ Cond.code Lib.objectInit ⟨#[0xb1]⟩ 1 none ∈ qGW := ⟨(qw2 71 rfl rfl), (qw1 21 rfl rfl), (qw1 22 rfl rfl)⟩
theorem lk_La_9 : qLk "QueryFleetLaw" 9 mi_QF_init := Or.inl (qw1 17 rfl rfl)
theorem y_QF_init : qY mi_QF_init 0 := ⟨(qw1 19 rfl rfl), (qw1 1 rfl rfl), ⟨by decide, by decide, by decide +kernel⟩, by decide⟩
theorem i_QF_init : mi_QF_init.1.name = "<init>" ∧ mi_QF_init.2.2.2 = none ∧ Cond.instanceMethod mi_QF_init.1 ∈ qGW := ⟨rfl, rfl, (qw1 18 rfl rfl)⟩
theorem lk_La_12 : qLk "QueryFleetLaw" 12 mi_QM_init := Or.inl (qw4 101 rfl rfl)
theorem y_QM_init : qY mi_QM_init 0 := ⟨(qw4 103 rfl rfl), (qw1 12 rfl rfl), ⟨by decide, by decide, by decide +kernel⟩, by decide⟩
theorem i_QM_init : mi_QM_init.1.name = "<init>" ∧ mi_QM_init.2.2.2 = none ∧ Cond.instanceMethod mi_QM_init.1 ∈ qGW := ⟨rfl, rfl, (qw4 102 rfl rfl)⟩
theorem lk_La_13 : qLk "QueryFleetLaw" 13 mi_QF_row := Or.inl (qw2 148 rfl rfl)
theorem y_QF_row : qY mi_QF_row 4 := ⟨(qw2 151 rfl rfl), (qw1 1 rfl rfl), ⟨by decide, by decide, by decide +kernel⟩, by decide⟩
theorem v_QF_row : Cond.instanceMethod mi_QF_row.1 ∈ qGW ∧ Cond.selects mi_QF_row.1.cls mi_QF_row.1 mi_QF_row.1 ∈ qGW := ⟨(qw2 149 rfl rfl), (qw2 150 rfl rfl)⟩
theorem lk_La_17 : qLk "QueryFleetLaw" 17 mi_QM_row := Or.inl (qw5 34 rfl rfl)
theorem y_QM_row : qY mi_QM_row 4 := ⟨(qw5 37 rfl rfl), (qw1 12 rfl rfl), ⟨by decide, by decide, by decide +kernel⟩, by decide⟩
theorem v_QM_row : Cond.instanceMethod mi_QM_row.1 ∈ qGW ∧ Cond.selects mi_QM_row.1.cls mi_QM_row.1 mi_QM_row.1 ∈ qGW := ⟨(qw5 35 rfl rfl), (qw5 36 rfl rfl)⟩
theorem lk_La_18 : qLk "QueryFleetLaw" 18 mi_QF_from := Or.inl (qw2 159 rfl rfl)
theorem y_QF_from : qY mi_QF_from 5 := ⟨(qw2 162 rfl rfl), (qw1 1 rfl rfl), ⟨by decide, by decide, by decide +kernel⟩, by decide⟩
theorem v_QF_from : Cond.instanceMethod mi_QF_from.1 ∈ qGW ∧ Cond.selects mi_QF_from.1.cls mi_QF_from.1 mi_QF_from.1 ∈ qGW := ⟨(qw2 160 rfl rfl), (qw2 161 rfl rfl)⟩
theorem lk_La_22 : qLk "QueryFleetLaw" 22 mi_QM_from := Or.inl (qw5 41 rfl rfl)
theorem y_QM_from : qY mi_QM_from 5 := ⟨(qw5 44 rfl rfl), (qw1 12 rfl rfl), ⟨by decide, by decide, by decide +kernel⟩, by decide⟩
theorem v_QM_from : Cond.instanceMethod mi_QM_from.1 ∈ qGW ∧ Cond.selects mi_QM_from.1.cls mi_QM_from.1 mi_QM_from.1 ∈ qGW := ⟨(qw5 42 rfl rfl), (qw5 43 rfl rfl)⟩
theorem lk_La_23 : qLk "QueryFleetLaw" 23 mi_QF_column := Or.inl (qw2 167 rfl rfl)
theorem y_QF_column : qY mi_QF_column 1 := ⟨(qw2 170 rfl rfl), (qw1 1 rfl rfl), ⟨by decide, by decide, by decide +kernel⟩, by decide⟩
theorem v_QF_column : Cond.instanceMethod mi_QF_column.1 ∈ qGW ∧ Cond.selects mi_QF_column.1.cls mi_QF_column.1 mi_QF_column.1 ∈ qGW := ⟨(qw2 168 rfl rfl), (qw2 169 rfl rfl)⟩
theorem lk_La_27 : qLk "QueryFleetLaw" 27 mi_QM_column := Or.inl (qw5 45 rfl rfl)
theorem y_QM_column : qY mi_QM_column 1 := ⟨(qw5 48 rfl rfl), (qw1 12 rfl rfl), ⟨by decide, by decide, by decide +kernel⟩, by decide⟩
theorem v_QM_column : Cond.instanceMethod mi_QM_column.1 ∈ qGW ∧ Cond.selects mi_QM_column.1.cls mi_QM_column.1 mi_QM_column.1 ∈ qGW := ⟨(qw5 46 rfl rfl), (qw5 47 rfl rfl)⟩
theorem lk_La_28 : qLk "QueryFleetLaw" 28 mi_QF_number := Or.inl (qw2 195 rfl rfl)
theorem y_QF_number : qY mi_QF_number 1 := ⟨(qw2 198 rfl rfl), (qw1 1 rfl rfl), ⟨by decide, by decide, by decide +kernel⟩, by decide⟩
theorem v_QF_number : Cond.instanceMethod mi_QF_number.1 ∈ qGW ∧ Cond.selects mi_QF_number.1.cls mi_QF_number.1 mi_QF_number.1 ∈ qGW := ⟨(qw2 196 rfl rfl), (qw2 197 rfl rfl)⟩
theorem lk_La_31 : qLk "QueryFleetLaw" 31 mi_QM_number := Or.inl (qw5 61 rfl rfl)
theorem y_QM_number : qY mi_QM_number 1 := ⟨(qw5 64 rfl rfl), (qw1 12 rfl rfl), ⟨by decide, by decide, by decide +kernel⟩, by decide⟩
theorem v_QM_number : Cond.instanceMethod mi_QM_number.1 ∈ qGW ∧ Cond.selects mi_QM_number.1.cls mi_QM_number.1 mi_QM_number.1 ∈ qGW := ⟨(qw5 62 rfl rfl), (qw5 63 rfl rfl)⟩
theorem lk_La_32 : qLk "QueryFleetLaw" 32 mi_QF_operate := Or.inl (qw2 199 rfl rfl)
theorem y_QF_operate : qY mi_QF_operate 1 := ⟨(qw2 202 rfl rfl), (qw1 1 rfl rfl), ⟨by decide, by decide, by decide +kernel⟩, by decide⟩
theorem v_QF_operate : Cond.instanceMethod mi_QF_operate.1 ∈ qGW ∧ Cond.selects mi_QF_operate.1.cls mi_QF_operate.1 mi_QF_operate.1 ∈ qGW := ⟨(qw2 200 rfl rfl), (qw2 201 rfl rfl)⟩
theorem lk_La_35 : qLk "QueryFleetLaw" 35 mi_QM_operate := Or.inl (qw5 65 rfl rfl)
theorem y_QM_operate : qY mi_QM_operate 1 := ⟨(qw5 68 rfl rfl), (qw1 12 rfl rfl), ⟨by decide, by decide, by decide +kernel⟩, by decide⟩
theorem v_QM_operate : Cond.instanceMethod mi_QM_operate.1 ∈ qGW ∧ Cond.selects mi_QM_operate.1.cls mi_QM_operate.1 mi_QM_operate.1 ∈ qGW := ⟨(qw5 66 rfl rfl), (qw5 67 rfl rfl)⟩
theorem lk_La_36 : qLk "QueryFleetLaw" 36 mi_QF_where := Or.inl (qw2 212 rfl rfl)
theorem y_QF_where : qY mi_QF_where 0 := ⟨(qw2 215 rfl rfl), (qw1 1 rfl rfl), ⟨by decide, by decide, by decide +kernel⟩, by decide⟩
theorem v_QF_where : Cond.instanceMethod mi_QF_where.1 ∈ qGW ∧ Cond.selects mi_QF_where.1.cls mi_QF_where.1 mi_QF_where.1 ∈ qGW := ⟨(qw2 213 rfl rfl), (qw2 214 rfl rfl)⟩
theorem lk_La_40 : qLk "QueryFleetLaw" 40 mi_QM_where := Or.inl (qw5 73 rfl rfl)
theorem y_QM_where : qY mi_QM_where 0 := ⟨(qw5 76 rfl rfl), (qw1 12 rfl rfl), ⟨by decide, by decide, by decide +kernel⟩, by decide⟩
theorem v_QM_where : Cond.instanceMethod mi_QM_where.1 ∈ qGW ∧ Cond.selects mi_QM_where.1.cls mi_QM_where.1 mi_QM_where.1 ∈ qGW := ⟨(qw5 74 rfl rfl), (qw5 75 rfl rfl)⟩
theorem lk_La_41 : qLk "QueryFleetLaw" 41 mi_QF_output := Or.inl (qw2 224 rfl rfl)
theorem y_QF_output : qY mi_QF_output 1 := ⟨(qw2 227 rfl rfl), (qw1 1 rfl rfl), ⟨by decide, by decide, by decide +kernel⟩, by decide⟩
theorem v_QF_output : Cond.instanceMethod mi_QF_output.1 ∈ qGW ∧ Cond.selects mi_QF_output.1.cls mi_QF_output.1 mi_QF_output.1 ∈ qGW := ⟨(qw2 225 rfl rfl), (qw2 226 rfl rfl)⟩
theorem lk_La_44 : qLk "QueryFleetLaw" 44 mi_QM_output := Or.inl (qw5 77 rfl rfl)
theorem y_QM_output : qY mi_QM_output 1 := ⟨(qw5 80 rfl rfl), (qw1 12 rfl rfl), ⟨by decide, by decide, by decide +kernel⟩, by decide⟩
theorem v_QM_output : Cond.instanceMethod mi_QM_output.1 ∈ qGW ∧ Cond.selects mi_QM_output.1.cls mi_QM_output.1 mi_QM_output.1 ∈ qGW := ⟨(qw5 78 rfl rfl), (qw5 79 rfl rfl)⟩
theorem lk_La_45 : qLk "QueryFleetLaw" 45 mi_QF_group := Or.inl (qw2 232 rfl rfl)
theorem y_QF_group : qY mi_QF_group 1 := ⟨(qw2 235 rfl rfl), (qw1 1 rfl rfl), ⟨by decide, by decide, by decide +kernel⟩, by decide⟩
theorem v_QF_group : Cond.instanceMethod mi_QF_group.1 ∈ qGW ∧ Cond.selects mi_QF_group.1.cls mi_QF_group.1 mi_QF_group.1 ∈ qGW := ⟨(qw2 233 rfl rfl), (qw2 234 rfl rfl)⟩
theorem lk_La_48 : qLk "QueryFleetLaw" 48 mi_QM_group := Or.inl (qw5 81 rfl rfl)
theorem y_QM_group : qY mi_QM_group 1 := ⟨(qw5 84 rfl rfl), (qw1 12 rfl rfl), ⟨by decide, by decide, by decide +kernel⟩, by decide⟩
theorem v_QM_group : Cond.instanceMethod mi_QM_group.1 ∈ qGW ∧ Cond.selects mi_QM_group.1.cls mi_QM_group.1 mi_QM_group.1 ∈ qGW := ⟨(qw5 82 rfl rfl), (qw5 83 rfl rfl)⟩
theorem lk_La_49 : qLk "QueryFleetLaw" 49 mi_QF_order := Or.inl (qw2 236 rfl rfl)
theorem y_QF_order : qY mi_QF_order 3 := ⟨(qw2 239 rfl rfl), (qw1 1 rfl rfl), ⟨by decide, by decide, by decide +kernel⟩, by decide⟩
theorem v_QF_order : Cond.instanceMethod mi_QF_order.1 ∈ qGW ∧ Cond.selects mi_QF_order.1.cls mi_QF_order.1 mi_QF_order.1 ∈ qGW := ⟨(qw2 237 rfl rfl), (qw2 238 rfl rfl)⟩
theorem lk_La_53 : qLk "QueryFleetLaw" 53 mi_QM_order := Or.inl (qw5 85 rfl rfl)
theorem y_QM_order : qY mi_QM_order 3 := ⟨(qw5 88 rfl rfl), (qw1 12 rfl rfl), ⟨by decide, by decide, by decide +kernel⟩, by decide⟩
theorem v_QM_order : Cond.instanceMethod mi_QM_order.1 ∈ qGW ∧ Cond.selects mi_QM_order.1.cls mi_QM_order.1 mi_QM_order.1 ∈ qGW := ⟨(qw5 86 rfl rfl), (qw5 87 rfl rfl)⟩
theorem lk_La_54 : qLk "QueryFleetLaw" 54 mi_QF_start := Or.inl (qw3 0 rfl rfl)
theorem y_QF_start : qY mi_QF_start 2 := ⟨(qw3 3 rfl rfl), (qw1 1 rfl rfl), ⟨by decide, by decide, by decide +kernel⟩, by decide⟩
theorem v_QF_start : Cond.instanceMethod mi_QF_start.1 ∈ qGW ∧ Cond.selects mi_QF_start.1.cls mi_QF_start.1 mi_QF_start.1 ∈ qGW := ⟨(qw3 1 rfl rfl), (qw3 2 rfl rfl)⟩
theorem lk_La_58 : qLk "QueryFleetLaw" 58 mi_QM_start := Or.inl (qw5 89 rfl rfl)
theorem y_QM_start : qY mi_QM_start 2 := ⟨(qw5 92 rfl rfl), (qw1 12 rfl rfl), ⟨by decide, by decide, by decide +kernel⟩, by decide⟩
theorem v_QM_start : Cond.instanceMethod mi_QM_start.1 ∈ qGW ∧ Cond.selects mi_QM_start.1.cls mi_QM_start.1 mi_QM_start.1 ∈ qGW := ⟨(qw5 90 rfl rfl), (qw5 91 rfl rfl)⟩
theorem lk_La_59 : qLk "QueryFleetLaw" 59 mi_QF_pass := Or.inl (qw4 2 rfl rfl)
theorem y_QF_pass : qY mi_QF_pass 2 := ⟨(qw4 5 rfl rfl), (qw1 1 rfl rfl), ⟨by decide, by decide, by decide +kernel⟩, by decide⟩
theorem v_QF_pass : Cond.instanceMethod mi_QF_pass.1 ∈ qGW ∧ Cond.selects mi_QF_pass.1.cls mi_QF_pass.1 mi_QF_pass.1 ∈ qGW := ⟨(qw4 3 rfl rfl), (qw4 4 rfl rfl)⟩
theorem lk_La_62 : qLk "QueryFleetLaw" 62 mi_QM_pass := Or.inl (qw5 234 rfl rfl)
theorem y_QM_pass : qY mi_QM_pass 2 := ⟨(qw5 237 rfl rfl), (qw1 12 rfl rfl), ⟨by decide, by decide, by decide +kernel⟩, by decide⟩
theorem v_QM_pass : Cond.instanceMethod mi_QM_pass.1 ∈ qGW ∧ Cond.selects mi_QM_pass.1.cls mi_QM_pass.1 mi_QM_pass.1 ∈ qGW := ⟨(qw5 235 rfl rfl), (qw5 236 rfl rfl)⟩
theorem lk_La_63 : qLk "QueryFleetLaw" 63 mi_QF_work := Or.inl (qw4 31 rfl rfl)
theorem y_QF_work : qY mi_QF_work 1 := ⟨(qw4 34 rfl rfl), (qw1 1 rfl rfl), ⟨by decide, by decide, by decide +kernel⟩, by decide⟩
theorem v_QF_work : Cond.instanceMethod mi_QF_work.1 ∈ qGW ∧ Cond.selects mi_QF_work.1.cls mi_QF_work.1 mi_QF_work.1 ∈ qGW := ⟨(qw4 32 rfl rfl), (qw4 33 rfl rfl)⟩
theorem lk_La_67 : qLk "QueryFleetLaw" 67 mi_QM_work := Or.inl (qw6 10 rfl rfl)
theorem y_QM_work : qY mi_QM_work 1 := ⟨(qw6 13 rfl rfl), (qw1 12 rfl rfl), ⟨by decide, by decide, by decide +kernel⟩, by decide⟩
theorem v_QM_work : Cond.instanceMethod mi_QM_work.1 ∈ qGW ∧ Cond.selects mi_QM_work.1.cls mi_QM_work.1 mi_QM_work.1 ∈ qGW := ⟨(qw6 11 rfl rfl), (qw6 12 rfl rfl)⟩
theorem lk_La_68 : qLk "QueryFleetLaw" 68 mi_QF_crash := Or.inl (qw4 43 rfl rfl)
theorem y_QF_crash : qY mi_QF_crash 1 := ⟨(qw4 46 rfl rfl), (qw1 1 rfl rfl), ⟨by decide, by decide, by decide +kernel⟩, by decide⟩
theorem v_QF_crash : Cond.instanceMethod mi_QF_crash.1 ∈ qGW ∧ Cond.selects mi_QF_crash.1.cls mi_QF_crash.1 mi_QF_crash.1 ∈ qGW := ⟨(qw4 44 rfl rfl), (qw4 45 rfl rfl)⟩
theorem lk_La_71 : qLk "QueryFleetLaw" 71 mi_QM_crash := Or.inl (qw6 18 rfl rfl)
theorem y_QM_crash : qY mi_QM_crash 1 := ⟨(qw6 21 rfl rfl), (qw1 12 rfl rfl), ⟨by decide, by decide, by decide +kernel⟩, by decide⟩
theorem v_QM_crash : Cond.instanceMethod mi_QM_crash.1 ∈ qGW ∧ Cond.selects mi_QM_crash.1.cls mi_QM_crash.1 mi_QM_crash.1 ∈ qGW := ⟨(qw6 19 rfl rfl), (qw6 20 rfl rfl)⟩
theorem lk_La_72 : qLk "QueryFleetLaw" 72 mi_QF_tick := Or.inl (qw4 47 rfl rfl)
theorem y_QF_tick : qY mi_QF_tick 0 := ⟨(qw4 50 rfl rfl), (qw1 1 rfl rfl), ⟨by decide, by decide, by decide +kernel⟩, by decide⟩
theorem v_QF_tick : Cond.instanceMethod mi_QF_tick.1 ∈ qGW ∧ Cond.selects mi_QF_tick.1.cls mi_QF_tick.1 mi_QF_tick.1 ∈ qGW := ⟨(qw4 48 rfl rfl), (qw4 49 rfl rfl)⟩
theorem lk_La_76 : qLk "QueryFleetLaw" 76 mi_QM_tick := Or.inl (qw6 22 rfl rfl)
theorem y_QM_tick : qY mi_QM_tick 0 := ⟨(qw6 25 rfl rfl), (qw1 12 rfl rfl), ⟨by decide, by decide, by decide +kernel⟩, by decide⟩
theorem v_QM_tick : Cond.instanceMethod mi_QM_tick.1 ∈ qGW ∧ Cond.selects mi_QM_tick.1.cls mi_QM_tick.1 mi_QM_tick.1 ∈ qGW := ⟨(qw6 23 rfl rfl), (qw6 24 rfl rfl)⟩
theorem lk_La_77 : qLk "QueryFleetLaw" 77 mi_QF_message := Or.inl (qw4 55 rfl rfl)
theorem y_QF_message : qY mi_QF_message 2 := ⟨(qw4 58 rfl rfl), (qw1 1 rfl rfl), ⟨by decide, by decide, by decide +kernel⟩, by decide⟩
theorem v_QF_message : Cond.instanceMethod mi_QF_message.1 ∈ qGW ∧ Cond.selects mi_QF_message.1.cls mi_QF_message.1 mi_QF_message.1 ∈ qGW := ⟨(qw4 56 rfl rfl), (qw4 57 rfl rfl)⟩
theorem lk_La_80 : qLk "QueryFleetLaw" 80 mi_QM_message := Or.inl (qw6 26 rfl rfl)
theorem y_QM_message : qY mi_QM_message 2 := ⟨(qw6 29 rfl rfl), (qw1 12 rfl rfl), ⟨by decide, by decide, by decide +kernel⟩, by decide⟩
theorem v_QM_message : Cond.instanceMethod mi_QM_message.1 ∈ qGW ∧ Cond.selects mi_QM_message.1.cls mi_QM_message.1 mi_QM_message.1 ∈ qGW := ⟨(qw6 27 rfl rfl), (qw6 28 rfl rfl)⟩
theorem lk_La_81 : qLk "QueryFleetLaw" 81 mi_QF_task := Or.inl (qw4 63 rfl rfl)
theorem y_QF_task : qY mi_QF_task 2 := ⟨(qw4 66 rfl rfl), (qw1 1 rfl rfl), ⟨by decide, by decide, by decide +kernel⟩, by decide⟩
theorem v_QF_task : Cond.instanceMethod mi_QF_task.1 ∈ qGW ∧ Cond.selects mi_QF_task.1.cls mi_QF_task.1 mi_QF_task.1 ∈ qGW := ⟨(qw4 64 rfl rfl), (qw4 65 rfl rfl)⟩
theorem lk_La_84 : qLk "QueryFleetLaw" 84 mi_QM_task := Or.inl (qw6 30 rfl rfl)
theorem y_QM_task : qY mi_QM_task 2 := ⟨(qw6 33 rfl rfl), (qw1 12 rfl rfl), ⟨by decide, by decide, by decide +kernel⟩, by decide⟩
theorem v_QM_task : Cond.instanceMethod mi_QM_task.1 ∈ qGW ∧ Cond.selects mi_QM_task.1.cls mi_QM_task.1 mi_QM_task.1 ∈ qGW := ⟨(qw6 31 rfl rfl), (qw6 32 rfl rfl)⟩
theorem lk_La_85 : qLk "QueryFleetLaw" 85 mi_QF_ended := Or.inl (qw4 71 rfl rfl)
theorem y_QF_ended : qY mi_QF_ended 1 := ⟨(qw4 74 rfl rfl), (qw1 1 rfl rfl), ⟨by decide, by decide, by decide +kernel⟩, by decide⟩
theorem v_QF_ended : Cond.instanceMethod mi_QF_ended.1 ∈ qGW ∧ Cond.selects mi_QF_ended.1.cls mi_QF_ended.1 mi_QF_ended.1 ∈ qGW := ⟨(qw4 72 rfl rfl), (qw4 73 rfl rfl)⟩
theorem lk_La_88 : qLk "QueryFleetLaw" 88 mi_QM_ended := Or.inl (qw6 34 rfl rfl)
theorem y_QM_ended : qY mi_QM_ended 1 := ⟨(qw6 37 rfl rfl), (qw1 12 rfl rfl), ⟨by decide, by decide, by decide +kernel⟩, by decide⟩
theorem v_QM_ended : Cond.instanceMethod mi_QM_ended.1 ∈ qGW ∧ Cond.selects mi_QM_ended.1.cls mi_QM_ended.1 mi_QM_ended.1 ∈ qGW := ⟨(qw6 35 rfl rfl), (qw6 36 rfl rfl)⟩
theorem lk_La_89 : qLk "QueryFleetLaw" 89 mi_QF_cell := Or.inl (qw4 79 rfl rfl)
theorem y_QF_cell : qY mi_QF_cell 2 := ⟨(qw4 82 rfl rfl), (qw1 1 rfl rfl), ⟨by decide, by decide, by decide +kernel⟩, by decide⟩
theorem v_QF_cell : Cond.instanceMethod mi_QF_cell.1 ∈ qGW ∧ Cond.selects mi_QF_cell.1.cls mi_QF_cell.1 mi_QF_cell.1 ∈ qGW := ⟨(qw4 80 rfl rfl), (qw4 81 rfl rfl)⟩
theorem lk_La_93 : qLk "QueryFleetLaw" 93 mi_QM_cell := Or.inl (qw6 38 rfl rfl)
theorem y_QM_cell : qY mi_QM_cell 2 := ⟨(qw6 41 rfl rfl), (qw1 12 rfl rfl), ⟨by decide, by decide, by decide +kernel⟩, by decide⟩
theorem v_QM_cell : Cond.instanceMethod mi_QM_cell.1 ∈ qGW ∧ Cond.selects mi_QM_cell.1.cls mi_QM_cell.1 mi_QM_cell.1 ∈ qGW := ⟨(qw6 39 rfl rfl), (qw6 40 rfl rfl)⟩
theorem lk_La_94 : qLk "QueryFleetLaw" 94 mi_QF_missing := Or.inl (qw4 95 rfl rfl)
theorem y_QF_missing : qY mi_QF_missing 2 := ⟨(qw4 98 rfl rfl), (qw1 1 rfl rfl), ⟨by decide, by decide, by decide +kernel⟩, by decide⟩
theorem v_QF_missing : Cond.instanceMethod mi_QF_missing.1 ∈ qGW ∧ Cond.selects mi_QF_missing.1.cls mi_QF_missing.1 mi_QF_missing.1 ∈ qGW := ⟨(qw4 96 rfl rfl), (qw4 97 rfl rfl)⟩
theorem lk_La_98 : qLk "QueryFleetLaw" 98 mi_QM_missing := Or.inl (qw6 46 rfl rfl)
theorem y_QM_missing : qY mi_QM_missing 2 := ⟨(qw6 49 rfl rfl), (qw1 12 rfl rfl), ⟨by decide, by decide, by decide +kernel⟩, by decide⟩
theorem v_QM_missing : Cond.instanceMethod mi_QM_missing.1 ∈ qGW ∧ Cond.selects mi_QM_missing.1.cls mi_QM_missing.1 mi_QM_missing.1 ∈ qGW := ⟨(qw6 47 rfl rfl), (qw6 48 rfl rfl)⟩
theorem oi_QM_1 : Cond.methodLink "QueryFleetModel" 1 Lib.objectInit ∈ qGW ∧ Cond.instanceMethod Lib.objectInit ∈ qGW ∧ Cond.code Lib.objectInit ⟨#[0xb1]⟩ 1 none ∈ qGW := ⟨(qw4 104 rfl rfl), (qw1 21 rfl rfl), (qw1 22 rfl rfl)⟩
theorem lk_QM_103 : qLk "QueryFleetModel" 103 mi_QM_within := Or.inl (qw5 38 rfl rfl)
theorem y_QM_within : qY mi_QM_within 3 := ⟨(qw5 40 rfl rfl), (qw1 12 rfl rfl), ⟨by decide, by decide, by decide +kernel⟩, by decide⟩
theorem s_QM_within : Cond.static mi_QM_within.1 ∈ qGW := (qw5 39 rfl rfl)
theorem lk_QM_147 : qLk "QueryFleetModel" 147 mi_QM_open := Or.inl (qw5 49 rfl rfl)
theorem y_QM_open : qY mi_QM_open 0 := ⟨(qw5 52 rfl rfl), (qw1 12 rfl rfl), ⟨by decide, by decide, by decide +kernel⟩, by decide⟩
theorem v_QM_open : Cond.instanceMethod mi_QM_open.1 ∈ qGW ∧ Cond.selects mi_QM_open.1.cls mi_QM_open.1 mi_QM_open.1 ∈ qGW := ⟨(qw5 51 rfl rfl), qw_s (q := (⟨"QueryFleetModel", "open", "()Z"⟩, _)) (by show _ ∈ lw_privs_1 ++ (lw_privs_2 ++ (lw_privs_3 ++ (lw_privs_4 ++ (lw_privs_5)))); exact List.mem_append_right _ (List.mem_append_left _ (List.mem_of_getElem? (i := 11) rfl)))⟩
theorem lk_QM_151 : qLk "QueryFleetModel" 151 mi_QM_isColumn := Or.inl (qw5 53 rfl rfl)
theorem y_QM_isColumn : qY mi_QM_isColumn 1 := ⟨(qw5 56 rfl rfl), (qw1 12 rfl rfl), ⟨by decide, by decide, by decide +kernel⟩, by decide⟩
theorem v_QM_isColumn : Cond.instanceMethod mi_QM_isColumn.1 ∈ qGW ∧ Cond.selects mi_QM_isColumn.1.cls mi_QM_isColumn.1 mi_QM_isColumn.1 ∈ qGW := ⟨(qw5 55 rfl rfl), qw_s (q := (⟨"QueryFleetModel", "isColumn", "(I)Z"⟩, _)) (by show _ ∈ lw_privs_1 ++ (lw_privs_2 ++ (lw_privs_3 ++ (lw_privs_4 ++ (lw_privs_5)))); exact List.mem_append_right _ (List.mem_append_left _ (List.mem_of_getElem? (i := 12) rfl)))⟩
theorem lk_QM_155 : qLk "QueryFleetModel" 155 mi_QM_push := Or.inl (qw5 57 rfl rfl)
theorem y_QM_push : qY mi_QM_push 2 := ⟨(qw5 60 rfl rfl), (qw1 12 rfl rfl), ⟨by decide, by decide, by decide +kernel⟩, by decide⟩
theorem v_QM_push : Cond.instanceMethod mi_QM_push.1 ∈ qGW ∧ Cond.selects mi_QM_push.1.cls mi_QM_push.1 mi_QM_push.1 ∈ qGW := ⟨(qw5 59 rfl rfl), qw_s (q := (⟨"QueryFleetModel", "push", "(IJ)V"⟩, _)) (by show _ ∈ lw_privs_1 ++ (lw_privs_2 ++ (lw_privs_3 ++ (lw_privs_4 ++ (lw_privs_5)))); exact List.mem_append_right _ (List.mem_append_left _ (List.mem_of_getElem? (i := 13) rfl)))⟩
theorem lk_QM_159 : qLk "QueryFleetModel" 159 mi_QM_copy := Or.inl (qw5 69 rfl rfl)
theorem y_QM_copy : qY mi_QM_copy 3 := ⟨(qw5 72 rfl rfl), (qw1 12 rfl rfl), ⟨by decide, by decide, by decide +kernel⟩, by decide⟩
theorem v_QM_copy : Cond.instanceMethod mi_QM_copy.1 ∈ qGW ∧ Cond.selects mi_QM_copy.1.cls mi_QM_copy.1 mi_QM_copy.1 ∈ qGW := ⟨(qw5 71 rfl rfl), qw_s (q := (⟨"QueryFleetModel", "copy", "(III)V"⟩, _)) (by show _ ∈ lw_privs_1 ++ (lw_privs_2 ++ (lw_privs_3 ++ (lw_privs_4 ++ (lw_privs_5)))); exact List.mem_append_right _ (List.mem_append_left _ (List.mem_of_getElem? (i := 14) rfl)))⟩
theorem lk_QM_167 : qLk "QueryFleetModel" 167 mi_QM_overflows := Or.inl (qw5 138 rfl rfl)
theorem y_QM_overflows : qY mi_QM_overflows 3 := ⟨(qw5 140 rfl rfl), (qw1 12 rfl rfl), ⟨by decide, by decide, by decide +kernel⟩, by decide⟩
theorem s_QM_overflows : Cond.static mi_QM_overflows.1 ∈ qGW := (qw5 139 rfl rfl)
theorem lk_QM_171 : qLk "QueryFleetModel" 171 mi_QM_set := Or.inl (qw5 129 rfl rfl)
theorem y_QM_set : qY mi_QM_set 3 := ⟨(qw5 132 rfl rfl), (qw1 12 rfl rfl), ⟨by decide, by decide, by decide +kernel⟩, by decide⟩
theorem v_QM_set : Cond.instanceMethod mi_QM_set.1 ∈ qGW ∧ Cond.selects mi_QM_set.1.cls mi_QM_set.1 mi_QM_set.1 ∈ qGW := ⟨(qw5 131 rfl rfl), qw_s (q := (⟨"QueryFleetModel", "set", "(IJZ)V"⟩, _)) (by show _ ∈ lw_privs_1 ++ (lw_privs_2 ++ (lw_privs_3 ++ (lw_privs_4 ++ (lw_privs_5)))); exact List.mem_append_right _ (List.mem_append_right _ (List.mem_append_left _ (List.mem_of_getElem? (i := 8) rfl))))⟩
theorem lk_QM_177 : qLk "QueryFleetModel" 177 mi_QM_calculate := Or.inl (qw5 134 rfl rfl)
theorem y_QM_calculate : qY mi_QM_calculate 2 := ⟨(qw5 137 rfl rfl), (qw1 12 rfl rfl), ⟨by decide, by decide, by decide +kernel⟩, by decide⟩
theorem v_QM_calculate : Cond.instanceMethod mi_QM_calculate.1 ∈ qGW ∧ Cond.selects mi_QM_calculate.1.cls mi_QM_calculate.1 mi_QM_calculate.1 ∈ qGW := ⟨(qw5 136 rfl rfl), qw_s (q := (⟨"QueryFleetModel", "calculate", "(II)V"⟩, _)) (by show _ ∈ lw_privs_1 ++ (lw_privs_2 ++ (lw_privs_3 ++ (lw_privs_4 ++ (lw_privs_5)))); exact List.mem_append_right _ (List.mem_append_right _ (List.mem_append_left _ (List.mem_of_getElem? (i := 9) rfl))))⟩
theorem lk_QM_181 : qLk "QueryFleetModel" 181 mi_QM_evaluate := Or.inl (qw5 125 rfl rfl)
theorem y_QM_evaluate : qY mi_QM_evaluate 1 := ⟨(qw5 128 rfl rfl), (qw1 12 rfl rfl), ⟨by decide, by decide, by decide +kernel⟩, by decide⟩
theorem v_QM_evaluate : Cond.instanceMethod mi_QM_evaluate.1 ∈ qGW ∧ Cond.selects mi_QM_evaluate.1.cls mi_QM_evaluate.1 mi_QM_evaluate.1 ∈ qGW := ⟨(qw5 127 rfl rfl), qw_s (q := (⟨"QueryFleetModel", "evaluate", "(I)V"⟩, _)) (by show _ ∈ lw_privs_1 ++ (lw_privs_2 ++ (lw_privs_3 ++ (lw_privs_4 ++ (lw_privs_5)))); exact List.mem_append_right _ (List.mem_append_right _ (List.mem_append_left _ (List.mem_of_getElem? (i := 7) rfl))))⟩
theorem lk_QM_185 : qLk "QueryFleetModel" 185 mi_QM_isTrue := Or.inl (qw5 121 rfl rfl)
theorem y_QM_isTrue : qY mi_QM_isTrue 1 := ⟨(qw5 124 rfl rfl), (qw1 12 rfl rfl), ⟨by decide, by decide, by decide +kernel⟩, by decide⟩
theorem v_QM_isTrue : Cond.instanceMethod mi_QM_isTrue.1 ∈ qGW ∧ Cond.selects mi_QM_isTrue.1.cls mi_QM_isTrue.1 mi_QM_isTrue.1 ∈ qGW := ⟨(qw5 123 rfl rfl), qw_s (q := (⟨"QueryFleetModel", "isTrue", "(I)Z"⟩, _)) (by show _ ∈ lw_privs_1 ++ (lw_privs_2 ++ (lw_privs_3 ++ (lw_privs_4 ++ (lw_privs_5)))); exact List.mem_append_right _ (List.mem_append_right _ (List.mem_append_left _ (List.mem_of_getElem? (i := 6) rfl))))⟩
theorem lk_QM_188 : qLk "QueryFleetModel" 188 mi_QM_passesAll := Or.inl (qw5 117 rfl rfl)
theorem y_QM_passesAll : qY mi_QM_passesAll 0 := ⟨(qw5 120 rfl rfl), (qw1 12 rfl rfl), ⟨by decide, by decide, by decide +kernel⟩, by decide⟩
theorem v_QM_passesAll : Cond.instanceMethod mi_QM_passesAll.1 ∈ qGW ∧ Cond.selects mi_QM_passesAll.1.cls mi_QM_passesAll.1 mi_QM_passesAll.1 ∈ qGW := ⟨(qw5 119 rfl rfl), qw_s (q := (⟨"QueryFleetModel", "passesAll", "()Z"⟩, _)) (by show _ ∈ lw_privs_1 ++ (lw_privs_2 ++ (lw_privs_3 ++ (lw_privs_4 ++ (lw_privs_5)))); exact List.mem_append_right _ (List.mem_append_right _ (List.mem_append_left _ (List.mem_of_getElem? (i := 5) rfl))))⟩
theorem lk_QM_194 : qLk "QueryFleetModel" 194 mi_QM_bring := Or.inl (qw5 101 rfl rfl)
theorem y_QM_bring : qY mi_QM_bring 2 := ⟨(qw5 104 rfl rfl), (qw1 12 rfl rfl), ⟨by decide, by decide, by decide +kernel⟩, by decide⟩
theorem v_QM_bring : Cond.instanceMethod mi_QM_bring.1 ∈ qGW ∧ Cond.selects mi_QM_bring.1.cls mi_QM_bring.1 mi_QM_bring.1 ∈ qGW := ⟨(qw5 103 rfl rfl), qw_s (q := (⟨"QueryFleetModel", "bring", "(II)V"⟩, _)) (by show _ ∈ lw_privs_1 ++ (lw_privs_2 ++ (lw_privs_3 ++ (lw_privs_4 ++ (lw_privs_5)))); exact List.mem_append_right _ (List.mem_append_right _ (List.mem_append_left _ (List.mem_of_getElem? (i := 1) rfl))))⟩
theorem lk_QM_197 : qLk "QueryFleetModel" 197 mi_QM_second0 := Or.inl (qw5 105 rfl rfl)
theorem y_QM_second0 : qY mi_QM_second0 0 := ⟨(qw5 108 rfl rfl), (qw1 12 rfl rfl), ⟨by decide, by decide, by decide +kernel⟩, by decide⟩
theorem v_QM_second0 : Cond.instanceMethod mi_QM_second0.1 ∈ qGW ∧ Cond.selects mi_QM_second0.1.cls mi_QM_second0.1 mi_QM_second0.1 ∈ qGW := ⟨(qw5 107 rfl rfl), qw_s (q := (⟨"QueryFleetModel", "second0", "()I"⟩, _)) (by show _ ∈ lw_privs_1 ++ (lw_privs_2 ++ (lw_privs_3 ++ (lw_privs_4 ++ (lw_privs_5)))); exact List.mem_append_right _ (List.mem_append_right _ (List.mem_append_left _ (List.mem_of_getElem? (i := 2) rfl))))⟩
theorem lk_QM_201 : qLk "QueryFleetModel" 201 mi_QM_matches := Or.inl (qw5 109 rfl rfl)
theorem y_QM_matches : qY mi_QM_matches 0 := ⟨(qw5 112 rfl rfl), (qw1 12 rfl rfl), ⟨by decide, by decide, by decide +kernel⟩, by decide⟩
theorem v_QM_matches : Cond.instanceMethod mi_QM_matches.1 ∈ qGW ∧ Cond.selects mi_QM_matches.1.cls mi_QM_matches.1 mi_QM_matches.1 ∈ qGW := ⟨(qw5 111 rfl rfl), qw_s (q := (⟨"QueryFleetModel", "matches", "()Z"⟩, _)) (by show _ ∈ lw_privs_1 ++ (lw_privs_2 ++ (lw_privs_3 ++ (lw_privs_4 ++ (lw_privs_5)))); exact List.mem_append_right _ (List.mem_append_right _ (List.mem_append_left _ (List.mem_of_getElem? (i := 3) rfl))))⟩
theorem lk_QM_204 : qLk "QueryFleetModel" 204 mi_QM_keep := Or.inl (qw5 113 rfl rfl)
theorem y_QM_keep : qY mi_QM_keep 0 := ⟨(qw5 116 rfl rfl), (qw1 12 rfl rfl), ⟨by decide, by decide, by decide +kernel⟩, by decide⟩
theorem v_QM_keep : Cond.instanceMethod mi_QM_keep.1 ∈ qGW ∧ Cond.selects mi_QM_keep.1.cls mi_QM_keep.1 mi_QM_keep.1 ∈ qGW := ⟨(qw5 115 rfl rfl), qw_s (q := (⟨"QueryFleetModel", "keep", "()V"⟩, _)) (by show _ ∈ lw_privs_1 ++ (lw_privs_2 ++ (lw_privs_3 ++ (lw_privs_4 ++ (lw_privs_5)))); exact List.mem_append_right _ (List.mem_append_right _ (List.mem_append_left _ (List.mem_of_getElem? (i := 4) rfl))))⟩
theorem lk_QM_210 : qLk "QueryFleetModel" 210 mi_QM_together := Or.inl (qw5 159 rfl rfl)
theorem y_QM_together : qY mi_QM_together 2 := ⟨(qw5 162 rfl rfl), (qw1 12 rfl rfl), ⟨by decide, by decide, by decide +kernel⟩, by decide⟩
theorem v_QM_together : Cond.instanceMethod mi_QM_together.1 ∈ qGW ∧ Cond.selects mi_QM_together.1.cls mi_QM_together.1 mi_QM_together.1 ∈ qGW := ⟨(qw5 161 rfl rfl), qw_s (q := (⟨"QueryFleetModel", "together", "(II)Z"⟩, _)) (by show _ ∈ lw_privs_1 ++ (lw_privs_2 ++ (lw_privs_3 ++ (lw_privs_4 ++ (lw_privs_5)))); exact List.mem_append_right _ (List.mem_append_right _ (List.mem_append_left _ (List.mem_of_getElem? (i := 14) rfl))))⟩
theorem lk_QM_214 : qLk "QueryFleetModel" 214 mi_QM_bringKept := Or.inl (qw5 163 rfl rfl)
theorem y_QM_bringKept : qY mi_QM_bringKept 1 := ⟨(qw5 166 rfl rfl), (qw1 12 rfl rfl), ⟨by decide, by decide, by decide +kernel⟩, by decide⟩
theorem v_QM_bringKept : Cond.instanceMethod mi_QM_bringKept.1 ∈ qGW ∧ Cond.selects mi_QM_bringKept.1.cls mi_QM_bringKept.1 mi_QM_bringKept.1 ∈ qGW := ⟨(qw5 165 rfl rfl), qw_s (q := (⟨"QueryFleetModel", "bringKept", "(I)V"⟩, _)) (by show _ ∈ lw_privs_1 ++ (lw_privs_2 ++ (lw_privs_3 ++ (lw_privs_4 ++ (lw_privs_5)))); exact List.mem_append_right _ (List.mem_append_right _ (List.mem_append_left _ (List.mem_of_getElem? (i := 15) rfl))))⟩
theorem lk_QM_223 : qLk "QueryFleetModel" 223 mi_QM_give := Or.inl (qw5 151 rfl rfl)
theorem y_QM_give : qY mi_QM_give 3 := ⟨(qw5 154 rfl rfl), (qw1 12 rfl rfl), ⟨by decide, by decide, by decide +kernel⟩, by decide⟩
theorem v_QM_give : Cond.instanceMethod mi_QM_give.1 ∈ qGW ∧ Cond.selects mi_QM_give.1.cls mi_QM_give.1 mi_QM_give.1 ∈ qGW := ⟨(qw5 153 rfl rfl), qw_s (q := (⟨"QueryFleetModel", "give", "(IJZ)V"⟩, _)) (by show _ ∈ lw_privs_1 ++ (lw_privs_2 ++ (lw_privs_3 ++ (lw_privs_4 ++ (lw_privs_5)))); exact List.mem_append_right _ (List.mem_append_right _ (List.mem_append_left _ (List.mem_of_getElem? (i := 12) rfl))))⟩
theorem lk_QM_226 : qLk "QueryFleetModel" 226 mi_QM_aggregate := Or.inl (qw5 155 rfl rfl)
theorem y_QM_aggregate : qY mi_QM_aggregate 3 := ⟨(qw5 158 rfl rfl), (qw1 12 rfl rfl), ⟨by decide, by decide, by decide +kernel⟩, by decide⟩
theorem v_QM_aggregate : Cond.instanceMethod mi_QM_aggregate.1 ∈ qGW ∧ Cond.selects mi_QM_aggregate.1.cls mi_QM_aggregate.1 mi_QM_aggregate.1 ∈ qGW := ⟨(qw5 157 rfl rfl), qw_s (q := (⟨"QueryFleetModel", "aggregate", "(III)V"⟩, _)) (by show _ ∈ lw_privs_1 ++ (lw_privs_2 ++ (lw_privs_3 ++ (lw_privs_4 ++ (lw_privs_5)))); exact List.mem_append_right _ (List.mem_append_right _ (List.mem_append_left _ (List.mem_of_getElem? (i := 13) rfl))))⟩
theorem lk_QM_229 : qLk "QueryFleetModel" 229 mi_QM_form := Or.inl (qw5 93 rfl rfl)
theorem y_QM_form : qY mi_QM_form 0 := ⟨(qw5 96 rfl rfl), (qw1 12 rfl rfl), ⟨by decide, by decide, by decide +kernel⟩, by decide⟩
theorem v_QM_form : Cond.instanceMethod mi_QM_form.1 ∈ qGW ∧ Cond.selects mi_QM_form.1.cls mi_QM_form.1 mi_QM_form.1 ∈ qGW := ⟨(qw5 95 rfl rfl), qw_s (q := (⟨"QueryFleetModel", "form", "()I"⟩, _)) (by show _ ∈ lw_privs_1 ++ (lw_privs_2 ++ (lw_privs_3 ++ (lw_privs_4 ++ (lw_privs_5)))); exact List.mem_append_right _ (List.mem_append_left _ (List.mem_of_getElem? (i := 15) rfl)))⟩
theorem lk_QM_235 : qLk "QueryFleetModel" 235 mi_QM_groupRow := Or.inl (qw5 147 rfl rfl)
theorem y_QM_groupRow : qY mi_QM_groupRow 1 := ⟨(qw5 150 rfl rfl), (qw1 12 rfl rfl), ⟨by decide, by decide, by decide +kernel⟩, by decide⟩
theorem v_QM_groupRow : Cond.instanceMethod mi_QM_groupRow.1 ∈ qGW ∧ Cond.selects mi_QM_groupRow.1.cls mi_QM_groupRow.1 mi_QM_groupRow.1 ∈ qGW := ⟨(qw5 149 rfl rfl), qw_s (q := (⟨"QueryFleetModel", "groupRow", "(I)V"⟩, _)) (by show _ ∈ lw_privs_1 ++ (lw_privs_2 ++ (lw_privs_3 ++ (lw_privs_4 ++ (lw_privs_5)))); exact List.mem_append_right _ (List.mem_append_right _ (List.mem_append_left _ (List.mem_of_getElem? (i := 11) rfl))))⟩
theorem lk_QM_238 : qLk "QueryFleetModel" 238 mi_QM_firstOfGroup := Or.inl (qw5 170 rfl rfl)
theorem y_QM_firstOfGroup : qY mi_QM_firstOfGroup 1 := ⟨(qw5 173 rfl rfl), (qw1 12 rfl rfl), ⟨by decide, by decide, by decide +kernel⟩, by decide⟩
theorem v_QM_firstOfGroup : Cond.instanceMethod mi_QM_firstOfGroup.1 ∈ qGW ∧ Cond.selects mi_QM_firstOfGroup.1.cls mi_QM_firstOfGroup.1 mi_QM_firstOfGroup.1 ∈ qGW := ⟨(qw5 172 rfl rfl), qw_s (q := (⟨"QueryFleetModel", "firstOfGroup", "(I)Z"⟩, _)) (by show _ ∈ lw_privs_1 ++ (lw_privs_2 ++ (lw_privs_3 ++ (lw_privs_4 ++ (lw_privs_5)))); exact List.mem_append_right _ (List.mem_append_right _ (List.mem_append_right _ (List.mem_append_left _ (List.mem_of_getElem? (i := 0) rfl)))))⟩
theorem lk_QM_241 : qLk "QueryFleetModel" 241 mi_QM_compare := Or.inl (qw5 182 rfl rfl)
theorem y_QM_compare : qY mi_QM_compare 3 := ⟨(qw5 185 rfl rfl), (qw1 12 rfl rfl), ⟨by decide, by decide, by decide +kernel⟩, by decide⟩
theorem v_QM_compare : Cond.instanceMethod mi_QM_compare.1 ∈ qGW ∧ Cond.selects mi_QM_compare.1.cls mi_QM_compare.1 mi_QM_compare.1 ∈ qGW := ⟨(qw5 184 rfl rfl), qw_s (q := (⟨"QueryFleetModel", "compare", "(III)I"⟩, _)) (by show _ ∈ lw_privs_1 ++ (lw_privs_2 ++ (lw_privs_3 ++ (lw_privs_4 ++ (lw_privs_5)))); exact List.mem_append_right _ (List.mem_append_right _ (List.mem_append_right _ (List.mem_append_left _ (List.mem_of_getElem? (i := 3) rfl)))))⟩
theorem lk_QM_245 : qLk "QueryFleetModel" 245 mi_QM_before := Or.inl (qw5 178 rfl rfl)
theorem y_QM_before : qY mi_QM_before 2 := ⟨(qw5 181 rfl rfl), (qw1 12 rfl rfl), ⟨by decide, by decide, by decide +kernel⟩, by decide⟩
theorem v_QM_before : Cond.instanceMethod mi_QM_before.1 ∈ qGW ∧ Cond.selects mi_QM_before.1.cls mi_QM_before.1 mi_QM_before.1 ∈ qGW := ⟨(qw5 180 rfl rfl), qw_s (q := (⟨"QueryFleetModel", "before", "(II)Z"⟩, _)) (by show _ ∈ lw_privs_1 ++ (lw_privs_2 ++ (lw_privs_3 ++ (lw_privs_4 ++ (lw_privs_5)))); exact List.mem_append_right _ (List.mem_append_right _ (List.mem_append_right _ (List.mem_append_left _ (List.mem_of_getElem? (i := 2) rfl)))))⟩
theorem lk_QM_251 : qLk "QueryFleetModel" 251 mi_QM_names := Or.inl (qw5 202 rfl rfl)
theorem y_QM_names : qY mi_QM_names 2 := ⟨(qw5 205 rfl rfl), (qw1 12 rfl rfl), ⟨by decide, by decide, by decide +kernel⟩, by decide⟩
theorem v_QM_names : Cond.instanceMethod mi_QM_names.1 ∈ qGW ∧ Cond.selects mi_QM_names.1.cls mi_QM_names.1 mi_QM_names.1 ∈ qGW := ⟨(qw5 204 rfl rfl), qw_s (q := (⟨"QueryFleetModel", "names", "(II)Z"⟩, _)) (by show _ ∈ lw_privs_1 ++ (lw_privs_2 ++ (lw_privs_3 ++ (lw_privs_4 ++ (lw_privs_5)))); exact List.mem_append_right _ (List.mem_append_right _ (List.mem_append_right _ (List.mem_append_left _ (List.mem_of_getElem? (i := 8) rfl)))))⟩
theorem lk_QM_254 : qLk "QueryFleetModel" 254 mi_QM_partOf := Or.inl (qw5 210 rfl rfl)
theorem y_QM_partOf : qY mi_QM_partOf 2 := ⟨(qw5 213 rfl rfl), (qw1 12 rfl rfl), ⟨by decide, by decide, by decide +kernel⟩, by decide⟩
theorem v_QM_partOf : Cond.instanceMethod mi_QM_partOf.1 ∈ qGW ∧ Cond.selects mi_QM_partOf.1.cls mi_QM_partOf.1 mi_QM_partOf.1 ∈ qGW := ⟨(qw5 212 rfl rfl), qw_s (q := (⟨"QueryFleetModel", "partOf", "(JZ)I"⟩, _)) (by show _ ∈ lw_privs_1 ++ (lw_privs_2 ++ (lw_privs_3 ++ (lw_privs_4 ++ (lw_privs_5)))); exact List.mem_append_right _ (List.mem_append_right _ (List.mem_append_right _ (List.mem_append_left _ (List.mem_of_getElem? (i := 10) rfl)))))⟩
theorem lk_QM_261 : qLk "QueryFleetModel" 261 mi_QM_scanRows := Or.inl (qw5 198 rfl rfl)
theorem y_QM_scanRows : qY mi_QM_scanRows 2 := ⟨(qw5 201 rfl rfl), (qw1 12 rfl rfl), ⟨by decide, by decide, by decide +kernel⟩, by decide⟩
theorem v_QM_scanRows : Cond.instanceMethod mi_QM_scanRows.1 ∈ qGW ∧ Cond.selects mi_QM_scanRows.1.cls mi_QM_scanRows.1 mi_QM_scanRows.1 ∈ qGW := ⟨(qw5 200 rfl rfl), qw_s (q := (⟨"QueryFleetModel", "scanRows", "(II)I"⟩, _)) (by show _ ∈ lw_privs_1 ++ (lw_privs_2 ++ (lw_privs_3 ++ (lw_privs_4 ++ (lw_privs_5)))); exact List.mem_append_right _ (List.mem_append_right _ (List.mem_append_right _ (List.mem_append_left _ (List.mem_of_getElem? (i := 7) rfl)))))⟩
theorem lk_QM_265 : qLk "QueryFleetModel" 265 mi_QM_joinRows := Or.inl (qw5 206 rfl rfl)
theorem y_QM_joinRows : qY mi_QM_joinRows 1 := ⟨(qw5 209 rfl rfl), (qw1 12 rfl rfl), ⟨by decide, by decide, by decide +kernel⟩, by decide⟩
theorem v_QM_joinRows : Cond.instanceMethod mi_QM_joinRows.1 ∈ qGW ∧ Cond.selects mi_QM_joinRows.1.cls mi_QM_joinRows.1 mi_QM_joinRows.1 ∈ qGW := ⟨(qw5 208 rfl rfl), qw_s (q := (⟨"QueryFleetModel", "joinRows", "(I)I"⟩, _)) (by show _ ∈ lw_privs_1 ++ (lw_privs_2 ++ (lw_privs_3 ++ (lw_privs_4 ++ (lw_privs_5)))); exact List.mem_append_right _ (List.mem_append_right _ (List.mem_append_right _ (List.mem_append_left _ (List.mem_of_getElem? (i := 9) rfl)))))⟩
theorem lk_QM_269 : qLk "QueryFleetModel" 269 mi_QM_groupRows := Or.inl (qw5 214 rfl rfl)
theorem y_QM_groupRows : qY mi_QM_groupRows 1 := ⟨(qw5 217 rfl rfl), (qw1 12 rfl rfl), ⟨by decide, by decide, by decide +kernel⟩, by decide⟩
theorem v_QM_groupRows : Cond.instanceMethod mi_QM_groupRows.1 ∈ qGW ∧ Cond.selects mi_QM_groupRows.1.cls mi_QM_groupRows.1 mi_QM_groupRows.1 ∈ qGW := ⟨(qw5 216 rfl rfl), qw_s (q := (⟨"QueryFleetModel", "groupRows", "(I)I"⟩, _)) (by show _ ∈ lw_privs_1 ++ (lw_privs_2 ++ (lw_privs_3 ++ (lw_privs_4 ++ (lw_privs_5)))); exact List.mem_append_right _ (List.mem_append_right _ (List.mem_append_right _ (List.mem_append_left _ (List.mem_of_getElem? (i := 11) rfl)))))⟩
theorem lk_QM_275 : qLk "QueryFleetModel" 275 mi_QM_joinAll := Or.inl (qw5 97 rfl rfl)
theorem y_QM_joinAll : qY mi_QM_joinAll 0 := ⟨(qw5 100 rfl rfl), (qw1 12 rfl rfl), ⟨by decide, by decide, by decide +kernel⟩, by decide⟩
theorem v_QM_joinAll : Cond.instanceMethod mi_QM_joinAll.1 ∈ qGW ∧ Cond.selects mi_QM_joinAll.1.cls mi_QM_joinAll.1 mi_QM_joinAll.1 ∈ qGW := ⟨(qw5 99 rfl rfl), qw_s (q := (⟨"QueryFleetModel", "joinAll", "()V"⟩, _)) (by show _ ∈ lw_privs_1 ++ (lw_privs_2 ++ (lw_privs_3 ++ (lw_privs_4 ++ (lw_privs_5)))); exact List.mem_append_right _ (List.mem_append_right _ (List.mem_append_left _ (List.mem_of_getElem? (i := 0) rfl))))⟩
theorem lk_QM_278 : qLk "QueryFleetModel" 278 mi_QM_makeResults := Or.inl (qw5 143 rfl rfl)
theorem y_QM_makeResults : qY mi_QM_makeResults 0 := ⟨(qw5 146 rfl rfl), (qw1 12 rfl rfl), ⟨by decide, by decide, by decide +kernel⟩, by decide⟩
theorem v_QM_makeResults : Cond.instanceMethod mi_QM_makeResults.1 ∈ qGW ∧ Cond.selects mi_QM_makeResults.1.cls mi_QM_makeResults.1 mi_QM_makeResults.1 ∈ qGW := ⟨(qw5 145 rfl rfl), qw_s (q := (⟨"QueryFleetModel", "makeResults", "()V"⟩, _)) (by show _ ∈ lw_privs_1 ++ (lw_privs_2 ++ (lw_privs_3 ++ (lw_privs_4 ++ (lw_privs_5)))); exact List.mem_append_right _ (List.mem_append_right _ (List.mem_append_left _ (List.mem_of_getElem? (i := 10) rfl))))⟩
theorem lk_QM_281 : qLk "QueryFleetModel" 281 mi_QM_sort := Or.inl (qw5 174 rfl rfl)
theorem y_QM_sort : qY mi_QM_sort 0 := ⟨(qw5 177 rfl rfl), (qw1 12 rfl rfl), ⟨by decide, by decide, by decide +kernel⟩, by decide⟩
theorem v_QM_sort : Cond.instanceMethod mi_QM_sort.1 ∈ qGW ∧ Cond.selects mi_QM_sort.1.cls mi_QM_sort.1 mi_QM_sort.1 ∈ qGW := ⟨(qw5 176 rfl rfl), qw_s (q := (⟨"QueryFleetModel", "sort", "()V"⟩, _)) (by show _ ∈ lw_privs_1 ++ (lw_privs_2 ++ (lw_privs_3 ++ (lw_privs_4 ++ (lw_privs_5)))); exact List.mem_append_right _ (List.mem_append_right _ (List.mem_append_right _ (List.mem_append_left _ (List.mem_of_getElem? (i := 1) rfl)))))⟩
theorem lk_QM_284 : qLk "QueryFleetModel" 284 mi_QM_shown := Or.inl (qw5 186 rfl rfl)
theorem y_QM_shown : qY mi_QM_shown 0 := ⟨(qw5 189 rfl rfl), (qw1 12 rfl rfl), ⟨by decide, by decide, by decide +kernel⟩, by decide⟩
theorem v_QM_shown : Cond.instanceMethod mi_QM_shown.1 ∈ qGW ∧ Cond.selects mi_QM_shown.1.cls mi_QM_shown.1 mi_QM_shown.1 ∈ qGW := ⟨(qw5 188 rfl rfl), qw_s (q := (⟨"QueryFleetModel", "shown", "()I"⟩, _)) (by show _ ∈ lw_privs_1 ++ (lw_privs_2 ++ (lw_privs_3 ++ (lw_privs_4 ++ (lw_privs_5)))); exact List.mem_append_right _ (List.mem_append_right _ (List.mem_append_right _ (List.mem_append_left _ (List.mem_of_getElem? (i := 4) rfl)))))⟩
theorem lk_QM_293 : qLk "QueryFleetModel" 293 mi_QM_passes := Or.inl (qw5 190 rfl rfl)
theorem y_QM_passes : qY mi_QM_passes 0 := ⟨(qw5 193 rfl rfl), (qw1 12 rfl rfl), ⟨by decide, by decide, by decide +kernel⟩, by decide⟩
theorem v_QM_passes : Cond.instanceMethod mi_QM_passes.1 ∈ qGW ∧ Cond.selects mi_QM_passes.1.cls mi_QM_passes.1 mi_QM_passes.1 ∈ qGW := ⟨(qw5 192 rfl rfl), qw_s (q := (⟨"QueryFleetModel", "passes", "()I"⟩, _)) (by show _ ∈ lw_privs_1 ++ (lw_privs_2 ++ (lw_privs_3 ++ (lw_privs_4 ++ (lw_privs_5)))); exact List.mem_append_right _ (List.mem_append_right _ (List.mem_append_right _ (List.mem_append_left _ (List.mem_of_getElem? (i := 5) rfl)))))⟩
theorem lk_QM_308 : qLk "QueryFleetModel" 308 mi_QM_addTasks := Or.inl (qw5 194 rfl rfl)
theorem y_QM_addTasks : qY mi_QM_addTasks 1 := ⟨(qw5 197 rfl rfl), (qw1 12 rfl rfl), ⟨by decide, by decide, by decide +kernel⟩, by decide⟩
theorem v_QM_addTasks : Cond.instanceMethod mi_QM_addTasks.1 ∈ qGW ∧ Cond.selects mi_QM_addTasks.1.cls mi_QM_addTasks.1 mi_QM_addTasks.1 ∈ qGW := ⟨(qw5 196 rfl rfl), qw_s (q := (⟨"QueryFleetModel", "addTasks", "(I)V"⟩, _)) (by show _ ∈ lw_privs_1 ++ (lw_privs_2 ++ (lw_privs_3 ++ (lw_privs_4 ++ (lw_privs_5)))); exact List.mem_append_right _ (List.mem_append_right _ (List.mem_append_right _ (List.mem_append_left _ (List.mem_of_getElem? (i := 6) rfl)))))⟩
theorem lk_QM_311 : qLk "QueryFleetModel" 311 mi_QM_sendReady := Or.inl (qw5 218 rfl rfl)
theorem y_QM_sendReady : qY mi_QM_sendReady 0 := ⟨(qw5 221 rfl rfl), (qw1 12 rfl rfl), ⟨by decide, by decide, by decide +kernel⟩, by decide⟩
theorem v_QM_sendReady : Cond.instanceMethod mi_QM_sendReady.1 ∈ qGW ∧ Cond.selects mi_QM_sendReady.1.cls mi_QM_sendReady.1 mi_QM_sendReady.1 ∈ qGW := ⟨(qw5 220 rfl rfl), qw_s (q := (⟨"QueryFleetModel", "sendReady", "()V"⟩, _)) (by show _ ∈ lw_privs_1 ++ (lw_privs_2 ++ (lw_privs_3 ++ (lw_privs_4 ++ (lw_privs_5)))); exact List.mem_append_right _ (List.mem_append_right _ (List.mem_append_right _ (List.mem_append_left _ (List.mem_of_getElem? (i := 12) rfl)))))⟩
theorem lk_QM_314 : qLk "QueryFleetModel" 314 mi_QM_allDone := Or.inl (qw5 222 rfl rfl)
theorem y_QM_allDone : qY mi_QM_allDone 1 := ⟨(qw5 225 rfl rfl), (qw1 12 rfl rfl), ⟨by decide, by decide, by decide +kernel⟩, by decide⟩
theorem v_QM_allDone : Cond.instanceMethod mi_QM_allDone.1 ∈ qGW ∧ Cond.selects mi_QM_allDone.1.cls mi_QM_allDone.1 mi_QM_allDone.1 ∈ qGW := ⟨(qw5 224 rfl rfl), qw_s (q := (⟨"QueryFleetModel", "allDone", "(I)Z"⟩, _)) (by show _ ∈ lw_privs_1 ++ (lw_privs_2 ++ (lw_privs_3 ++ (lw_privs_4 ++ (lw_privs_5)))); exact List.mem_append_right _ (List.mem_append_right _ (List.mem_append_right _ (List.mem_append_left _ (List.mem_of_getElem? (i := 13) rfl)))))⟩
theorem lk_QM_317 : qLk "QueryFleetModel" 317 mi_QM_sendRun := Or.inl (qw5 226 rfl rfl)
theorem y_QM_sendRun : qY mi_QM_sendRun 1 := ⟨(qw5 229 rfl rfl), (qw1 12 rfl rfl), ⟨by decide, by decide, by decide +kernel⟩, by decide⟩
theorem v_QM_sendRun : Cond.instanceMethod mi_QM_sendRun.1 ∈ qGW ∧ Cond.selects mi_QM_sendRun.1.cls mi_QM_sendRun.1 mi_QM_sendRun.1 ∈ qGW := ⟨(qw5 228 rfl rfl), qw_s (q := (⟨"QueryFleetModel", "sendRun", "(I)V"⟩, _)) (by show _ ∈ lw_privs_1 ++ (lw_privs_2 ++ (lw_privs_3 ++ (lw_privs_4 ++ (lw_privs_5)))); exact List.mem_append_right _ (List.mem_append_right _ (List.mem_append_right _ (List.mem_append_left _ (List.mem_of_getElem? (i := 14) rfl)))))⟩
theorem lk_QM_320 : qLk "QueryFleetModel" 320 mi_QM_send := Or.inl (qw5 230 rfl rfl)
theorem y_QM_send : qY mi_QM_send 3 := ⟨(qw5 233 rfl rfl), (qw1 12 rfl rfl), ⟨by decide, by decide, by decide +kernel⟩, by decide⟩
theorem v_QM_send : Cond.instanceMethod mi_QM_send.1 ∈ qGW ∧ Cond.selects mi_QM_send.1.cls mi_QM_send.1 mi_QM_send.1 ∈ qGW := ⟨(qw5 232 rfl rfl), qw_s (q := (⟨"QueryFleetModel", "send", "(III)V"⟩, _)) (by show _ ∈ lw_privs_1 ++ (lw_privs_2 ++ (lw_privs_3 ++ (lw_privs_4 ++ (lw_privs_5)))); exact List.mem_append_right _ (List.mem_append_right _ (List.mem_append_right _ (List.mem_append_left _ (List.mem_of_getElem? (i := 15) rfl)))))⟩
theorem lk_QM_326 : qLk "QueryFleetModel" 326 mi_QM_workerOf := Or.inl (qw6 6 rfl rfl)
theorem y_QM_workerOf : qY mi_QM_workerOf 2 := ⟨(qw6 9 rfl rfl), (qw1 12 rfl rfl), ⟨by decide, by decide, by decide +kernel⟩, by decide⟩
theorem v_QM_workerOf : Cond.instanceMethod mi_QM_workerOf.1 ∈ qGW ∧ Cond.selects mi_QM_workerOf.1.cls mi_QM_workerOf.1 mi_QM_workerOf.1 ∈ qGW := ⟨(qw6 8 rfl rfl), qw_s (q := (⟨"QueryFleetModel", "workerOf", "(II)I"⟩, _)) (by show _ ∈ lw_privs_1 ++ (lw_privs_2 ++ (lw_privs_3 ++ (lw_privs_4 ++ (lw_privs_5)))); exact List.mem_append_right _ (List.mem_append_right _ (List.mem_append_right _ (List.mem_append_right _ (List.mem_of_getElem? (i := 2) rfl)))))⟩
theorem lk_QM_329 : qLk "QueryFleetModel" 329 mi_QM_strike := Or.inl (qw5 238 rfl rfl)
theorem y_QM_strike : qY mi_QM_strike 1 := ⟨(qw6 1 rfl rfl), (qw1 12 rfl rfl), ⟨by decide, by decide, by decide +kernel⟩, by decide⟩
theorem v_QM_strike : Cond.instanceMethod mi_QM_strike.1 ∈ qGW ∧ Cond.selects mi_QM_strike.1.cls mi_QM_strike.1 mi_QM_strike.1 ∈ qGW := ⟨(qw6 0 rfl rfl), qw_s (q := (⟨"QueryFleetModel", "strike", "(I)V"⟩, _)) (by show _ ∈ lw_privs_1 ++ (lw_privs_2 ++ (lw_privs_3 ++ (lw_privs_4 ++ (lw_privs_5)))); exact List.mem_append_right _ (List.mem_append_right _ (List.mem_append_right _ (List.mem_append_right _ (List.mem_of_getElem? (i := 0) rfl)))))⟩
theorem lk_QM_332 : qLk "QueryFleetModel" 332 mi_QM_deliver := Or.inl (qw6 2 rfl rfl)
theorem y_QM_deliver : qY mi_QM_deliver 3 := ⟨(qw6 5 rfl rfl), (qw1 12 rfl rfl), ⟨by decide, by decide, by decide +kernel⟩, by decide⟩
theorem v_QM_deliver : Cond.instanceMethod mi_QM_deliver.1 ∈ qGW ∧ Cond.selects mi_QM_deliver.1.cls mi_QM_deliver.1 mi_QM_deliver.1 ∈ qGW := ⟨(qw6 4 rfl rfl), qw_s (q := (⟨"QueryFleetModel", "deliver", "(III)I"⟩, _)) (by show _ ∈ lw_privs_1 ++ (lw_privs_2 ++ (lw_privs_3 ++ (lw_privs_4 ++ (lw_privs_5)))); exact List.mem_append_right _ (List.mem_append_right _ (List.mem_append_right _ (List.mem_append_right _ (List.mem_of_getElem? (i := 1) rfl)))))⟩
theorem lk_QM_335 : qLk "QueryFleetModel" 335 mi_QM_isWorker := Or.inl (qw6 14 rfl rfl)
theorem y_QM_isWorker : qY mi_QM_isWorker 1 := ⟨(qw6 17 rfl rfl), (qw1 12 rfl rfl), ⟨by decide, by decide, by decide +kernel⟩, by decide⟩
theorem v_QM_isWorker : Cond.instanceMethod mi_QM_isWorker.1 ∈ qGW ∧ Cond.selects mi_QM_isWorker.1.cls mi_QM_isWorker.1 mi_QM_isWorker.1 ∈ qGW := ⟨(qw6 16 rfl rfl), qw_s (q := (⟨"QueryFleetModel", "isWorker", "(I)Z"⟩, _)) (by show _ ∈ lw_privs_1 ++ (lw_privs_2 ++ (lw_privs_3 ++ (lw_privs_4 ++ (lw_privs_5)))); exact List.mem_append_right _ (List.mem_append_right _ (List.mem_append_right _ (List.mem_append_right _ (List.mem_of_getElem? (i := 3) rfl)))))⟩
theorem lk_QM_338 : qLk "QueryFleetModel" 338 mi_QM_isCell := Or.inl (qw6 42 rfl rfl)
theorem y_QM_isCell : qY mi_QM_isCell 2 := ⟨(qw6 45 rfl rfl), (qw1 12 rfl rfl), ⟨by decide, by decide, by decide +kernel⟩, by decide⟩
theorem v_QM_isCell : Cond.instanceMethod mi_QM_isCell.1 ∈ qGW ∧ Cond.selects mi_QM_isCell.1.cls mi_QM_isCell.1 mi_QM_isCell.1 ∈ qGW := ⟨(qw6 44 rfl rfl), qw_s (q := (⟨"QueryFleetModel", "isCell", "(II)Z"⟩, _)) (by show _ ∈ lw_privs_1 ++ (lw_privs_2 ++ (lw_privs_3 ++ (lw_privs_4 ++ (lw_privs_5)))); exact List.mem_append_right _ (List.mem_append_right _ (List.mem_append_right _ (List.mem_append_right _ (List.mem_of_getElem? (i := 4) rfl)))))⟩
end
section
theorem d_QF_init_0 : decode b_QF_init 0 = .ok (.aload_n 0, 1) := by decide +kernel
theorem d_QF_init_1 : decode b_QF_init 1 = .ok (.invokespecial 3, 3) := by decide +kernel
theorem d_QF_init_4 : decode b_QF_init 4 = .ok (.aload_n 0, 1) := by decide +kernel
theorem d_QF_init_5 : decode b_QF_init 5 = .ok (.new 9, 3) := by decide +kernel
theorem d_QF_init_8 : decode b_QF_init 8 = .ok (.dup, 1) := by decide +kernel
theorem d_QF_init_9 : decode b_QF_init 9 = .ok (.invokespecial 11, 3) := by decide +kernel
theorem d_QF_init_12 : decode b_QF_init 12 = .ok (.putfield 12, 3) := by decide +kernel
theorem d_QF_init_15 : decode b_QF_init 15 = .ok (.aload_n 0, 1) := by decide +kernel
theorem d_QF_init_16 : decode b_QF_init 16 = .ok (.aload_n 0, 1) := by decide +kernel
theorem d_QF_init_17 : decode b_QF_init 17 = .ok (.getfield 12, 3) := by decide +kernel
theorem d_QF_init_20 : decode b_QF_init 20 = .ok (.getfield 16, 3) := by decide +kernel
theorem d_QF_init_23 : decode b_QF_init 23 = .ok (.putfield 20, 3) := by decide +kernel
theorem d_QF_init_26 : decode b_QF_init 26 = .ok (.aload_n 0, 1) := by decide +kernel
theorem d_QF_init_27 : decode b_QF_init 27 = .ok (.aload_n 0, 1) := by decide +kernel
theorem d_QF_init_28 : decode b_QF_init 28 = .ok (.getfield 12, 3) := by decide +kernel
theorem d_QF_init_31 : decode b_QF_init 31 = .ok (.getfield 21, 3) := by decide +kernel
theorem d_QF_init_34 : decode b_QF_init 34 = .ok (.putfield 25, 3) := by decide +kernel
theorem d_QF_init_37 : decode b_QF_init 37 = .ok (.aload_n 0, 1) := by decide +kernel
theorem d_QF_init_38 : decode b_QF_init 38 = .ok (.new 26, 3) := by decide +kernel
theorem d_QF_init_41 : decode b_QF_init 41 = .ok (.dup, 1) := by decide +kernel
theorem d_QF_init_42 : decode b_QF_init 42 = .ok (.invokespecial 28, 3) := by decide +kernel
theorem d_QF_init_45 : decode b_QF_init 45 = .ok (.putfield 29, 3) := by decide +kernel
theorem d_QF_init_48 : decode b_QF_init 48 = .ok (.aload_n 0, 1) := by decide +kernel
theorem d_QF_init_49 : decode b_QF_init 49 = .ok (.new 33, 3) := by decide +kernel
theorem d_QF_init_52 : decode b_QF_init 52 = .ok (.dup, 1) := by decide +kernel
theorem d_QF_init_53 : decode b_QF_init 53 = .ok (.invokespecial 35, 3) := by decide +kernel
theorem d_QF_init_56 : decode b_QF_init 56 = .ok (.putfield 36, 3) := by decide +kernel
theorem d_QF_init_59 : decode b_QF_init 59 = .ok (.return_, 1) := by decide +kernel
theorem d_QF_row_0 : decode b_QF_row 0 = .ok (.aload_n 0, 1) := by decide +kernel
theorem d_QF_row_1 : decode b_QF_row 1 = .ok (.getfield 36, 3) := by decide +kernel
theorem d_QF_row_4 : decode b_QF_row 4 = .ok (.getfield 40, 3) := by decide +kernel
theorem d_QF_row_7 : decode b_QF_row 7 = .ok (.ifCond .ne 20, 3) := by decide +kernel
theorem d_QF_row_10 : decode b_QF_row 10 = .ok (.iload_n 1, 1) := by decide +kernel
theorem d_QF_row_11 : decode b_QF_row 11 = .ok (.iconst 3, 1) := by decide +kernel
theorem d_QF_row_12 : decode b_QF_row 12 = .ok (.invokestatic 44, 3) := by decide +kernel
theorem d_QF_row_15 : decode b_QF_row 15 = .ok (.ifCond .eq 12, 3) := by decide +kernel
theorem d_QF_row_18 : decode b_QF_row 18 = .ok (.iload 4, 2) := by decide +kernel
theorem d_QF_row_20 : decode b_QF_row 20 = .ok (.iconst 4, 1) := by decide +kernel
theorem d_QF_row_21 : decode b_QF_row 21 = .ok (.invokestatic 44, 3) := by decide +kernel
theorem d_QF_row_24 : decode b_QF_row 24 = .ok (.ifCond .ne 5, 3) := by decide +kernel
theorem d_QF_row_27 : decode b_QF_row 27 = .ok (.iconst (-1), 1) := by decide +kernel
theorem d_QF_row_28 : decode b_QF_row 28 = .ok (.ireturn, 1) := by decide +kernel
theorem d_QF_row_29 : decode b_QF_row 29 = .ok (.aload_n 0, 1) := by decide +kernel
theorem d_QF_row_30 : decode b_QF_row 30 = .ok (.getfield 20, 3) := by decide +kernel
theorem d_QF_row_33 : decode b_QF_row 33 = .ok (.iload_n 1, 1) := by decide +kernel
theorem d_QF_row_34 : decode b_QF_row 34 = .ok (.aaload, 1) := by decide +kernel
theorem d_QF_row_35 : decode b_QF_row 35 = .ok (.iload_n 2, 1) := by decide +kernel
theorem d_QF_row_36 : decode b_QF_row 36 = .ok (.iload_n 3, 1) := by decide +kernel
theorem d_QF_row_37 : decode b_QF_row 37 = .ok (.iload 4, 2) := by decide +kernel
theorem d_QF_row_39 : decode b_QF_row 39 = .ok (.invokevirtual 48, 3) := by decide +kernel
theorem d_QF_row_42 : decode b_QF_row 42 = .ok (.ireturn, 1) := by decide +kernel
theorem d_QF_from_0 : decode b_QF_from 0 = .ok (.aload_n 0, 1) := by decide +kernel
theorem d_QF_from_1 : decode b_QF_from 1 = .ok (.getfield 36, 3) := by decide +kernel
theorem d_QF_from_4 : decode b_QF_from 4 = .ok (.getfield 40, 3) := by decide +kernel
theorem d_QF_from_7 : decode b_QF_from 7 = .ok (.ifCond .ne 19, 3) := by decide +kernel
theorem d_QF_from_10 : decode b_QF_from 10 = .ok (.iload_n 1, 1) := by decide +kernel
theorem d_QF_from_11 : decode b_QF_from 11 = .ok (.iconst 3, 1) := by decide +kernel
theorem d_QF_from_12 : decode b_QF_from 12 = .ok (.invokestatic 44, 3) := by decide +kernel
theorem d_QF_from_15 : decode b_QF_from 15 = .ok (.ifCond .eq 11, 3) := by decide +kernel
theorem d_QF_from_18 : decode b_QF_from 18 = .ok (.iload_n 2, 1) := by decide +kernel
theorem d_QF_from_19 : decode b_QF_from 19 = .ok (.iconst 3, 1) := by decide +kernel
theorem d_QF_from_20 : decode b_QF_from 20 = .ok (.invokestatic 44, 3) := by decide +kernel
theorem d_QF_from_23 : decode b_QF_from 23 = .ok (.ifCond .ne 5, 3) := by decide +kernel
theorem d_QF_from_26 : decode b_QF_from 26 = .ok (.iconst 0, 1) := by decide +kernel
theorem d_QF_from_27 : decode b_QF_from 27 = .ok (.ireturn, 1) := by decide +kernel
theorem d_QF_from_28 : decode b_QF_from 28 = .ok (.iload_n 1, 1) := by decide +kernel
theorem d_QF_from_29 : decode b_QF_from 29 = .ok (.ifCond .ne 17, 3) := by decide +kernel
theorem d_QF_from_32 : decode b_QF_from 32 = .ok (.aload_n 0, 1) := by decide +kernel
theorem d_QF_from_33 : decode b_QF_from 33 = .ok (.getfield 25, 3) := by decide +kernel
theorem d_QF_from_36 : decode b_QF_from 36 = .ok (.iload_n 1, 1) := by decide +kernel
theorem d_QF_from_37 : decode b_QF_from 37 = .ok (.iload_n 2, 1) := by decide +kernel
theorem d_QF_from_38 : decode b_QF_from 38 = .ok (.iload_n 2, 1) := by decide +kernel
theorem d_QF_from_39 : decode b_QF_from 39 = .ok (.iconst 0, 1) := by decide +kernel
theorem d_QF_from_40 : decode b_QF_from 40 = .ok (.iconst 0, 1) := by decide +kernel
theorem d_QF_from_41 : decode b_QF_from 41 = .ok (.invokevirtual 54, 3) := by decide +kernel
theorem d_QF_from_44 : decode b_QF_from 44 = .ok (.iconst 1, 1) := by decide +kernel
theorem d_QF_from_45 : decode b_QF_from 45 = .ok (.ireturn, 1) := by decide +kernel
theorem d_QF_from_46 : decode b_QF_from 46 = .ok (.iload_n 3, 1) := by decide +kernel
theorem d_QF_from_47 : decode b_QF_from 47 = .ok (.iconst 3, 1) := by decide +kernel
theorem d_QF_from_48 : decode b_QF_from 48 = .ok (.invokestatic 44, 3) := by decide +kernel
theorem d_QF_from_51 : decode b_QF_from 51 = .ok (.ifCond .eq 21, 3) := by decide +kernel
theorem d_QF_from_54 : decode b_QF_from 54 = .ok (.iload 4, 2) := by decide +kernel
theorem d_QF_from_56 : decode b_QF_from 56 = .ok (.iconst 2, 1) := by decide +kernel
theorem d_QF_from_57 : decode b_QF_from 57 = .ok (.invokestatic 44, 3) := by decide +kernel
theorem d_QF_from_60 : decode b_QF_from 60 = .ok (.ifCond .eq 12, 3) := by decide +kernel
theorem d_QF_from_63 : decode b_QF_from 63 = .ok (.iload 5, 2) := by decide +kernel
theorem d_QF_from_65 : decode b_QF_from 65 = .ok (.iconst 2, 1) := by decide +kernel
theorem d_QF_from_66 : decode b_QF_from 66 = .ok (.invokestatic 44, 3) := by decide +kernel
theorem d_QF_from_69 : decode b_QF_from 69 = .ok (.ifCond .ne 5, 3) := by decide +kernel
theorem d_QF_from_72 : decode b_QF_from 72 = .ok (.iconst 0, 1) := by decide +kernel
theorem d_QF_from_73 : decode b_QF_from 73 = .ok (.ireturn, 1) := by decide +kernel
theorem d_QF_from_74 : decode b_QF_from 74 = .ok (.aload_n 0, 1) := by decide +kernel
theorem d_QF_from_75 : decode b_QF_from 75 = .ok (.getfield 25, 3) := by decide +kernel
theorem d_QF_from_78 : decode b_QF_from 78 = .ok (.iload_n 1, 1) := by decide +kernel
theorem d_QF_from_79 : decode b_QF_from 79 = .ok (.iload_n 2, 1) := by decide +kernel
theorem d_QF_from_80 : decode b_QF_from 80 = .ok (.iload_n 3, 1) := by decide +kernel
theorem d_QF_from_81 : decode b_QF_from 81 = .ok (.iload 4, 2) := by decide +kernel
theorem d_QF_from_83 : decode b_QF_from 83 = .ok (.iload 5, 2) := by decide +kernel
theorem d_QF_from_85 : decode b_QF_from 85 = .ok (.invokevirtual 54, 3) := by decide +kernel
theorem d_QF_from_88 : decode b_QF_from 88 = .ok (.iconst 1, 1) := by decide +kernel
theorem d_QF_from_89 : decode b_QF_from 89 = .ok (.ireturn, 1) := by decide +kernel
theorem d_QF_column_0 : decode b_QF_column 0 = .ok (.aload_n 0, 1) := by decide +kernel
theorem d_QF_column_1 : decode b_QF_column 1 = .ok (.invokevirtual 60, 3) := by decide +kernel
theorem d_QF_column_4 : decode b_QF_column 4 = .ok (.ifCond .eq 34, 3) := by decide +kernel
theorem d_QF_column_7 : decode b_QF_column 7 = .ok (.iload_n 1, 1) := by decide +kernel
theorem d_QF_column_8 : decode b_QF_column 8 = .ok (.aload_n 0, 1) := by decide +kernel
theorem d_QF_column_9 : decode b_QF_column 9 = .ok (.getfield 25, 3) := by decide +kernel
theorem d_QF_column_12 : decode b_QF_column 12 = .ok (.invokevirtual 64, 3) := by decide +kernel
theorem d_QF_column_15 : decode b_QF_column 15 = .ok (.invokestatic 44, 3) := by decide +kernel
theorem d_QF_column_18 : decode b_QF_column 18 = .ok (.ifCond .eq 20, 3) := by decide +kernel
theorem d_QF_column_21 : decode b_QF_column 21 = .ok (.aload_n 0, 1) := by decide +kernel
theorem d_QF_column_22 : decode b_QF_column 22 = .ok (.getfield 25, 3) := by decide +kernel
theorem d_QF_column_25 : decode b_QF_column 25 = .ok (.bipush 10, 2) := by decide +kernel
theorem d_QF_column_27 : decode b_QF_column 27 = .ok (.iload_n 1, 1) := by decide +kernel
theorem d_QF_column_28 : decode b_QF_column 28 = .ok (.invokevirtual 68, 3) := by decide +kernel
theorem d_QF_column_31 : decode b_QF_column 31 = .ok (.ifCond .eq 7, 3) := by decide +kernel
theorem d_QF_column_34 : decode b_QF_column 34 = .ok (.iconst 1, 1) := by decide +kernel
theorem d_QF_column_35 : decode b_QF_column 35 = .ok (.goto 4, 3) := by decide +kernel
theorem d_QF_column_38 : decode b_QF_column 38 = .ok (.iconst 0, 1) := by decide +kernel
theorem d_QF_column_39 : decode b_QF_column 39 = .ok (.ireturn, 1) := by decide +kernel
theorem d_QF_number_0 : decode b_QF_number 0 = .ok (.aload_n 0, 1) := by decide +kernel
theorem d_QF_number_1 : decode b_QF_number 1 = .ok (.invokevirtual 60, 3) := by decide +kernel
theorem d_QF_number_4 : decode b_QF_number 4 = .ok (.ifCond .eq 20, 3) := by decide +kernel
theorem d_QF_number_7 : decode b_QF_number 7 = .ok (.aload_n 0, 1) := by decide +kernel
theorem d_QF_number_8 : decode b_QF_number 8 = .ok (.getfield 25, 3) := by decide +kernel
theorem d_QF_number_11 : decode b_QF_number 11 = .ok (.bipush 11, 2) := by decide +kernel
theorem d_QF_number_13 : decode b_QF_number 13 = .ok (.iload_n 1, 1) := by decide +kernel
theorem d_QF_number_14 : decode b_QF_number 14 = .ok (.invokevirtual 68, 3) := by decide +kernel
theorem d_QF_number_17 : decode b_QF_number 17 = .ok (.ifCond .eq 7, 3) := by decide +kernel
theorem d_QF_number_20 : decode b_QF_number 20 = .ok (.iconst 1, 1) := by decide +kernel
theorem d_QF_number_21 : decode b_QF_number 21 = .ok (.goto 4, 3) := by decide +kernel
theorem d_QF_number_24 : decode b_QF_number 24 = .ok (.iconst 0, 1) := by decide +kernel
theorem d_QF_number_25 : decode b_QF_number 25 = .ok (.ireturn, 1) := by decide +kernel
theorem d_QF_operate_0 : decode b_QF_operate 0 = .ok (.aload_n 0, 1) := by decide +kernel
theorem d_QF_operate_1 : decode b_QF_operate 1 = .ok (.invokevirtual 60, 3) := by decide +kernel
theorem d_QF_operate_4 : decode b_QF_operate 4 = .ok (.ifCond .eq 27, 3) := by decide +kernel
theorem d_QF_operate_7 : decode b_QF_operate 7 = .ok (.iload_n 1, 1) := by decide +kernel
theorem d_QF_operate_8 : decode b_QF_operate 8 = .ok (.bipush 10, 2) := by decide +kernel
theorem d_QF_operate_10 : decode b_QF_operate 10 = .ok (.invokestatic 44, 3) := by decide +kernel
theorem d_QF_operate_13 : decode b_QF_operate 13 = .ok (.ifCond .eq 18, 3) := by decide +kernel
theorem d_QF_operate_16 : decode b_QF_operate 16 = .ok (.aload_n 0, 1) := by decide +kernel
theorem d_QF_operate_17 : decode b_QF_operate 17 = .ok (.getfield 25, 3) := by decide +kernel
theorem d_QF_operate_20 : decode b_QF_operate 20 = .ok (.iload_n 1, 1) := by decide +kernel
theorem d_QF_operate_21 : decode b_QF_operate 21 = .ok (.invokevirtual 71, 3) := by decide +kernel
theorem d_QF_operate_24 : decode b_QF_operate 24 = .ok (.ifCond .eq 7, 3) := by decide +kernel
theorem d_QF_operate_27 : decode b_QF_operate 27 = .ok (.iconst 1, 1) := by decide +kernel
theorem d_QF_operate_28 : decode b_QF_operate 28 = .ok (.goto 4, 3) := by decide +kernel
theorem d_QF_operate_31 : decode b_QF_operate 31 = .ok (.iconst 0, 1) := by decide +kernel
theorem d_QF_operate_32 : decode b_QF_operate 32 = .ok (.ireturn, 1) := by decide +kernel
theorem d_QF_where_0 : decode b_QF_where 0 = .ok (.aload_n 0, 1) := by decide +kernel
theorem d_QF_where_1 : decode b_QF_where 1 = .ok (.invokevirtual 60, 3) := by decide +kernel
theorem d_QF_where_4 : decode b_QF_where 4 = .ok (.ifCond .eq 17, 3) := by decide +kernel
theorem d_QF_where_7 : decode b_QF_where 7 = .ok (.aload_n 0, 1) := by decide +kernel
theorem d_QF_where_8 : decode b_QF_where 8 = .ok (.getfield 25, 3) := by decide +kernel
theorem d_QF_where_11 : decode b_QF_where 11 = .ok (.invokevirtual 75, 3) := by decide +kernel
theorem d_QF_where_14 : decode b_QF_where 14 = .ok (.ifCond .eq 7, 3) := by decide +kernel
theorem d_QF_where_17 : decode b_QF_where 17 = .ok (.iconst 1, 1) := by decide +kernel
theorem d_QF_where_18 : decode b_QF_where 18 = .ok (.goto 4, 3) := by decide +kernel
theorem d_QF_where_21 : decode b_QF_where 21 = .ok (.iconst 0, 1) := by decide +kernel
theorem d_QF_where_22 : decode b_QF_where 22 = .ok (.ireturn, 1) := by decide +kernel
theorem d_QF_output_0 : decode b_QF_output 0 = .ok (.aload_n 0, 1) := by decide +kernel
theorem d_QF_output_1 : decode b_QF_output 1 = .ok (.invokevirtual 60, 3) := by decide +kernel
theorem d_QF_output_4 : decode b_QF_output 4 = .ok (.ifCond .eq 27, 3) := by decide +kernel
theorem d_QF_output_7 : decode b_QF_output 7 = .ok (.iload_n 1, 1) := by decide +kernel
theorem d_QF_output_8 : decode b_QF_output 8 = .ok (.bipush 6, 2) := by decide +kernel
theorem d_QF_output_10 : decode b_QF_output 10 = .ok (.invokestatic 44, 3) := by decide +kernel
theorem d_QF_output_13 : decode b_QF_output 13 = .ok (.ifCond .eq 18, 3) := by decide +kernel
theorem d_QF_output_16 : decode b_QF_output 16 = .ok (.aload_n 0, 1) := by decide +kernel
theorem d_QF_output_17 : decode b_QF_output 17 = .ok (.getfield 25, 3) := by decide +kernel
theorem d_QF_output_20 : decode b_QF_output 20 = .ok (.iload_n 1, 1) := by decide +kernel
theorem d_QF_output_21 : decode b_QF_output 21 = .ok (.invokevirtual 78, 3) := by decide +kernel
theorem d_QF_output_24 : decode b_QF_output 24 = .ok (.ifCond .eq 7, 3) := by decide +kernel
theorem d_QF_output_27 : decode b_QF_output 27 = .ok (.iconst 1, 1) := by decide +kernel
theorem d_QF_output_28 : decode b_QF_output 28 = .ok (.goto 4, 3) := by decide +kernel
theorem d_QF_output_31 : decode b_QF_output 31 = .ok (.iconst 0, 1) := by decide +kernel
theorem d_QF_output_32 : decode b_QF_output 32 = .ok (.ireturn, 1) := by decide +kernel
theorem d_QF_group_0 : decode b_QF_group 0 = .ok (.aload_n 0, 1) := by decide +kernel
theorem d_QF_group_1 : decode b_QF_group 1 = .ok (.invokevirtual 60, 3) := by decide +kernel
theorem d_QF_group_4 : decode b_QF_group 4 = .ok (.ifCond .eq 17, 3) := by decide +kernel
theorem d_QF_group_7 : decode b_QF_group 7 = .ok (.iload_n 1, 1) := by decide +kernel
theorem d_QF_group_8 : decode b_QF_group 8 = .ok (.aload_n 0, 1) := by decide +kernel
theorem d_QF_group_9 : decode b_QF_group 9 = .ok (.getfield 25, 3) := by decide +kernel
theorem d_QF_group_12 : decode b_QF_group 12 = .ok (.invokevirtual 64, 3) := by decide +kernel
theorem d_QF_group_15 : decode b_QF_group 15 = .ok (.invokestatic 44, 3) := by decide +kernel
theorem d_QF_group_18 : decode b_QF_group 18 = .ok (.ifCond .ne 5, 3) := by decide +kernel
theorem d_QF_group_21 : decode b_QF_group 21 = .ok (.iconst 0, 1) := by decide +kernel
theorem d_QF_group_22 : decode b_QF_group 22 = .ok (.ireturn, 1) := by decide +kernel
theorem d_QF_group_23 : decode b_QF_group 23 = .ok (.aload_n 0, 1) := by decide +kernel
theorem d_QF_group_24 : decode b_QF_group 24 = .ok (.getfield 25, 3) := by decide +kernel
theorem d_QF_group_27 : decode b_QF_group 27 = .ok (.iload_n 1, 1) := by decide +kernel
theorem d_QF_group_28 : decode b_QF_group 28 = .ok (.putfield 81, 3) := by decide +kernel
theorem d_QF_group_31 : decode b_QF_group 31 = .ok (.iconst 1, 1) := by decide +kernel
theorem d_QF_group_32 : decode b_QF_group 32 = .ok (.ireturn, 1) := by decide +kernel
theorem d_QF_order_0 : decode b_QF_order 0 = .ok (.aload_n 0, 1) := by decide +kernel
theorem d_QF_order_1 : decode b_QF_order 1 = .ok (.invokevirtual 60, 3) := by decide +kernel
theorem d_QF_order_4 : decode b_QF_order 4 = .ok (.ifCond .eq 11, 3) := by decide +kernel
theorem d_QF_order_7 : decode b_QF_order 7 = .ok (.iload_n 1, 1) := by decide +kernel
theorem d_QF_order_8 : decode b_QF_order 8 = .ok (.iconst 4, 1) := by decide +kernel
theorem d_QF_order_9 : decode b_QF_order 9 = .ok (.invokestatic 44, 3) := by decide +kernel
theorem d_QF_order_12 : decode b_QF_order 12 = .ok (.ifCond .ne 5, 3) := by decide +kernel
theorem d_QF_order_15 : decode b_QF_order 15 = .ok (.iconst 0, 1) := by decide +kernel
theorem d_QF_order_16 : decode b_QF_order 16 = .ok (.ireturn, 1) := by decide +kernel
theorem d_QF_order_17 : decode b_QF_order 17 = .ok (.aload_n 0, 1) := by decide +kernel
theorem d_QF_order_18 : decode b_QF_order 18 = .ok (.getfield 25, 3) := by decide +kernel
theorem d_QF_order_21 : decode b_QF_order 21 = .ok (.iload_n 1, 1) := by decide +kernel
theorem d_QF_order_22 : decode b_QF_order 22 = .ok (.putfield 85, 3) := by decide +kernel
theorem d_QF_order_25 : decode b_QF_order 25 = .ok (.aload_n 0, 1) := by decide +kernel
theorem d_QF_order_26 : decode b_QF_order 26 = .ok (.getfield 25, 3) := by decide +kernel
theorem d_QF_order_29 : decode b_QF_order 29 = .ok (.iload_n 2, 1) := by decide +kernel
theorem d_QF_order_30 : decode b_QF_order 30 = .ok (.putfield 88, 3) := by decide +kernel
theorem d_QF_order_33 : decode b_QF_order 33 = .ok (.aload_n 0, 1) := by decide +kernel
theorem d_QF_order_34 : decode b_QF_order 34 = .ok (.getfield 25, 3) := by decide +kernel
theorem d_QF_order_37 : decode b_QF_order 37 = .ok (.iload_n 3, 1) := by decide +kernel
theorem d_QF_order_38 : decode b_QF_order 38 = .ok (.putfield 91, 3) := by decide +kernel
theorem d_QF_order_41 : decode b_QF_order 41 = .ok (.iconst 1, 1) := by decide +kernel
theorem d_QF_order_42 : decode b_QF_order 42 = .ok (.ireturn, 1) := by decide +kernel
theorem d_QF_start_0 : decode b_QF_start 0 = .ok (.aload_n 0, 1) := by decide +kernel
theorem d_QF_start_1 : decode b_QF_start 1 = .ok (.invokevirtual 60, 3) := by decide +kernel
theorem d_QF_start_4 : decode b_QF_start 4 = .ok (.ifCond .eq 23, 3) := by decide +kernel
theorem d_QF_start_7 : decode b_QF_start 7 = .ok (.aload_n 0, 1) := by decide +kernel
theorem d_QF_start_8 : decode b_QF_start 8 = .ok (.getfield 25, 3) := by decide +kernel
theorem d_QF_start_11 : decode b_QF_start 11 = .ok (.getfield 94, 3) := by decide +kernel
theorem d_QF_start_14 : decode b_QF_start 14 = .ok (.ifCond .gt 13, 3) := by decide +kernel
theorem d_QF_start_17 : decode b_QF_start 17 = .ok (.aload_n 0, 1) := by decide +kernel
theorem d_QF_start_18 : decode b_QF_start 18 = .ok (.getfield 25, 3) := by decide +kernel
theorem d_QF_start_21 : decode b_QF_start 21 = .ok (.invokevirtual 97, 3) := by decide +kernel
theorem d_QF_start_24 : decode b_QF_start 24 = .ok (.ifCond .ne 5, 3) := by decide +kernel
theorem d_QF_start_27 : decode b_QF_start 27 = .ok (.iconst (-1), 1) := by decide +kernel
theorem d_QF_start_28 : decode b_QF_start 28 = .ok (.ireturn, 1) := by decide +kernel
theorem d_QF_start_29 : decode b_QF_start 29 = .ok (.iload_n 1, 1) := by decide +kernel
theorem d_QF_start_30 : decode b_QF_start 30 = .ok (.iconst 1, 1) := by decide +kernel
theorem d_QF_start_31 : decode b_QF_start 31 = .ok (.if_icmp .lt 19, 3) := by decide +kernel
theorem d_QF_start_34 : decode b_QF_start 34 = .ok (.iload_n 1, 1) := by decide +kernel
theorem d_QF_start_35 : decode b_QF_start 35 = .ok (.iconst 4, 1) := by decide +kernel
theorem d_QF_start_36 : decode b_QF_start 36 = .ok (.if_icmp .gt 14, 3) := by decide +kernel
theorem d_QF_start_39 : decode b_QF_start 39 = .ok (.iload_n 2, 1) := by decide +kernel
theorem d_QF_start_40 : decode b_QF_start 40 = .ok (.iconst 3, 1) := by decide +kernel
theorem d_QF_start_41 : decode b_QF_start 41 = .ok (.if_icmp .lt 9, 3) := by decide +kernel
theorem d_QF_start_44 : decode b_QF_start 44 = .ok (.iload_n 2, 1) := by decide +kernel
theorem d_QF_start_45 : decode b_QF_start 45 = .ok (.bipush 8, 2) := by decide +kernel
theorem d_QF_start_47 : decode b_QF_start 47 = .ok (.if_icmp .le 5, 3) := by decide +kernel
theorem d_QF_start_50 : decode b_QF_start 50 = .ok (.iconst (-1), 1) := by decide +kernel
theorem d_QF_start_51 : decode b_QF_start 51 = .ok (.ireturn, 1) := by decide +kernel
theorem d_QF_start_52 : decode b_QF_start 52 = .ok (.aload_n 0, 1) := by decide +kernel
theorem d_QF_start_53 : decode b_QF_start 53 = .ok (.getfield 12, 3) := by decide +kernel
theorem d_QF_start_56 : decode b_QF_start 56 = .ok (.invokevirtual 100, 3) := by decide +kernel
theorem d_QF_start_59 : decode b_QF_start 59 = .ok (.aload_n 0, 1) := by decide +kernel
theorem d_QF_start_60 : decode b_QF_start 60 = .ok (.getfield 12, 3) := by decide +kernel
theorem d_QF_start_63 : decode b_QF_start 63 = .ok (.invokevirtual 103, 3) := by decide +kernel
theorem d_QF_start_66 : decode b_QF_start 66 = .ok (.aload_n 0, 1) := by decide +kernel
theorem d_QF_start_67 : decode b_QF_start 67 = .ok (.getfield 12, 3) := by decide +kernel
theorem d_QF_start_70 : decode b_QF_start 70 = .ok (.aload_n 0, 1) := by decide +kernel
theorem d_QF_start_71 : decode b_QF_start 71 = .ok (.getfield 29, 3) := by decide +kernel
theorem d_QF_start_74 : decode b_QF_start 74 = .ok (.invokevirtual 106, 3) := by decide +kernel
theorem d_QF_start_77 : decode b_QF_start 77 = .ok (.aload_n 0, 1) := by decide +kernel
theorem d_QF_start_78 : decode b_QF_start 78 = .ok (.getfield 29, 3) := by decide +kernel
theorem d_QF_start_81 : decode b_QF_start 81 = .ok (.aload_n 0, 1) := by decide +kernel
theorem d_QF_start_82 : decode b_QF_start 82 = .ok (.getfield 25, 3) := by decide +kernel
theorem d_QF_start_85 : decode b_QF_start 85 = .ok (.invokevirtual 110, 3) := by decide +kernel
theorem d_QF_start_88 : decode b_QF_start 88 = .ok (.aload_n 0, 1) := by decide +kernel
theorem d_QF_start_89 : decode b_QF_start 89 = .ok (.getfield 29, 3) := by decide +kernel
theorem d_QF_start_92 : decode b_QF_start 92 = .ok (.iload_n 2, 1) := by decide +kernel
theorem d_QF_start_93 : decode b_QF_start 93 = .ok (.invokevirtual 114, 3) := by decide +kernel
theorem d_QF_start_96 : decode b_QF_start 96 = .ok (.aload_n 0, 1) := by decide +kernel
theorem d_QF_start_97 : decode b_QF_start 97 = .ok (.getfield 36, 3) := by decide +kernel
theorem d_QF_start_100 : decode b_QF_start 100 = .ok (.iload_n 1, 1) := by decide +kernel
theorem d_QF_start_101 : decode b_QF_start 101 = .ok (.invokevirtual 118, 3) := by decide +kernel
theorem d_QF_start_104 : decode b_QF_start 104 = .ok (.iconst 0, 1) := by decide +kernel
theorem d_QF_start_105 : decode b_QF_start 105 = .ok (.istore_n 3, 1) := by decide +kernel
theorem d_QF_start_106 : decode b_QF_start 106 = .ok (.iload_n 3, 1) := by decide +kernel
theorem d_QF_start_107 : decode b_QF_start 107 = .ok (.iconst 4, 1) := by decide +kernel
theorem d_QF_start_108 : decode b_QF_start 108 = .ok (.iload_n 1, 1) := by decide +kernel
theorem d_QF_start_109 : decode b_QF_start 109 = .ok (.imul, 1) := by decide +kernel
theorem d_QF_start_110 : decode b_QF_start 110 = .ok (.if_icmp .ge 54, 3) := by decide +kernel
theorem d_QF_start_113 : decode b_QF_start 113 = .ok (.iload_n 3, 1) := by decide +kernel
theorem d_QF_start_114 : decode b_QF_start 114 = .ok (.iload_n 1, 1) := by decide +kernel
theorem d_QF_start_115 : decode b_QF_start 115 = .ok (.idiv, 1) := by decide +kernel
theorem d_QF_start_116 : decode b_QF_start 116 = .ok (.istore 4, 2) := by decide +kernel
theorem d_QF_start_118 : decode b_QF_start 118 = .ok (.iload_n 3, 1) := by decide +kernel
theorem d_QF_start_119 : decode b_QF_start 119 = .ok (.iload_n 1, 1) := by decide +kernel
theorem d_QF_start_120 : decode b_QF_start 120 = .ok (.irem, 1) := by decide +kernel
theorem d_QF_start_121 : decode b_QF_start 121 = .ok (.istore 5, 2) := by decide +kernel
theorem d_QF_start_123 : decode b_QF_start 123 = .ok (.aload_n 0, 1) := by decide +kernel
theorem d_QF_start_124 : decode b_QF_start 124 = .ok (.getfield 25, 3) := by decide +kernel
theorem d_QF_start_127 : decode b_QF_start 127 = .ok (.iload 4, 2) := by decide +kernel
theorem d_QF_start_129 : decode b_QF_start 129 = .ok (.invokevirtual 121, 3) := by decide +kernel
theorem d_QF_start_132 : decode b_QF_start 132 = .ok (.ifCond .eq 26, 3) := by decide +kernel
theorem d_QF_start_135 : decode b_QF_start 135 = .ok (.aload_n 0, 1) := by decide +kernel
theorem d_QF_start_136 : decode b_QF_start 136 = .ok (.getfield 36, 3) := by decide +kernel
theorem d_QF_start_139 : decode b_QF_start 139 = .ok (.iload 4, 2) := by decide +kernel
theorem d_QF_start_141 : decode b_QF_start 141 = .ok (.iload 5, 2) := by decide +kernel
theorem d_QF_start_143 : decode b_QF_start 143 = .ok (.aload_n 0, 1) := by decide +kernel
theorem d_QF_start_144 : decode b_QF_start 144 = .ok (.getfield 12, 3) := by decide +kernel
theorem d_QF_start_147 : decode b_QF_start 147 = .ok (.iload 4, 2) := by decide +kernel
theorem d_QF_start_149 : decode b_QF_start 149 = .ok (.iload 5, 2) := by decide +kernel
theorem d_QF_start_151 : decode b_QF_start 151 = .ok (.iload_n 1, 1) := by decide +kernel
theorem d_QF_start_152 : decode b_QF_start 152 = .ok (.invokevirtual 124, 3) := by decide +kernel
theorem d_QF_start_155 : decode b_QF_start 155 = .ok (.invokevirtual 127, 3) := by decide +kernel
theorem d_QF_start_158 : decode b_QF_start 158 = .ok (.iinc 3 1, 3) := by decide +kernel
theorem d_QF_start_161 : decode b_QF_start 161 = .ok (.goto (-55), 3) := by decide +kernel
theorem d_QF_start_164 : decode b_QF_start 164 = .ok (.aload_n 0, 1) := by decide +kernel
theorem d_QF_start_165 : decode b_QF_start 165 = .ok (.getfield 36, 3) := by decide +kernel
theorem d_QF_start_168 : decode b_QF_start 168 = .ok (.invokevirtual 131, 3) := by decide +kernel
theorem d_QF_start_171 : decode b_QF_start 171 = .ok (.aload_n 0, 1) := by decide +kernel
theorem d_QF_start_172 : decode b_QF_start 172 = .ok (.getfield 36, 3) := by decide +kernel
theorem d_QF_start_175 : decode b_QF_start 175 = .ok (.getfield 134, 3) := by decide +kernel
theorem d_QF_start_178 : decode b_QF_start 178 = .ok (.ireturn, 1) := by decide +kernel
theorem d_QF_pass_0 : decode b_QF_pass 0 = .ok (.aload_n 0, 1) := by decide +kernel
theorem d_QF_pass_1 : decode b_QF_pass 1 = .ok (.getfield 36, 3) := by decide +kernel
theorem d_QF_pass_4 : decode b_QF_pass 4 = .ok (.getfield 40, 3) := by decide +kernel
theorem d_QF_pass_7 : decode b_QF_pass 7 = .ok (.ifCond .eq 20, 3) := by decide +kernel
theorem d_QF_pass_10 : decode b_QF_pass 10 = .ok (.iload_n 1, 1) := by decide +kernel
theorem d_QF_pass_11 : decode b_QF_pass 11 = .ok (.aload_n 0, 1) := by decide +kernel
theorem d_QF_pass_12 : decode b_QF_pass 12 = .ok (.getfield 36, 3) := by decide +kernel
theorem d_QF_pass_15 : decode b_QF_pass 15 = .ok (.getfield 137, 3) := by decide +kernel
theorem d_QF_pass_18 : decode b_QF_pass 18 = .ok (.getfield 141, 3) := by decide +kernel
theorem d_QF_pass_21 : decode b_QF_pass 21 = .ok (.invokestatic 44, 3) := by decide +kernel
theorem d_QF_pass_24 : decode b_QF_pass 24 = .ok (.ifCond .ne 5, 3) := by decide +kernel
theorem d_QF_pass_27 : decode b_QF_pass 27 = .ok (.iconst (-1), 1) := by decide +kernel
theorem d_QF_pass_28 : decode b_QF_pass 28 = .ok (.ireturn, 1) := by decide +kernel
theorem d_QF_pass_29 : decode b_QF_pass 29 = .ok (.iload_n 2, 1) := by decide +kernel
theorem d_QF_pass_30 : decode b_QF_pass 30 = .ok (.tableswitch 57 0 2 #[26, 35, 48], 26) := by decide +kernel
theorem d_QF_pass_56 : decode b_QF_pass 56 = .ok (.aload_n 0, 1) := by decide +kernel
theorem d_QF_pass_57 : decode b_QF_pass 57 = .ok (.getfield 36, 3) := by decide +kernel
theorem d_QF_pass_60 : decode b_QF_pass 60 = .ok (.iload_n 1, 1) := by decide +kernel
theorem d_QF_pass_61 : decode b_QF_pass 61 = .ok (.invokevirtual 146, 3) := by decide +kernel
theorem d_QF_pass_64 : decode b_QF_pass 64 = .ok (.ireturn, 1) := by decide +kernel
theorem d_QF_pass_65 : decode b_QF_pass 65 = .ok (.aload_n 0, 1) := by decide +kernel
theorem d_QF_pass_66 : decode b_QF_pass 66 = .ok (.getfield 36, 3) := by decide +kernel
theorem d_QF_pass_69 : decode b_QF_pass 69 = .ok (.getfield 137, 3) := by decide +kernel
theorem d_QF_pass_72 : decode b_QF_pass 72 = .ok (.iload_n 1, 1) := by decide +kernel
theorem d_QF_pass_73 : decode b_QF_pass 73 = .ok (.invokevirtual 150, 3) := by decide +kernel
theorem d_QF_pass_76 : decode b_QF_pass 76 = .ok (.iconst 1, 1) := by decide +kernel
theorem d_QF_pass_77 : decode b_QF_pass 77 = .ok (.ireturn, 1) := by decide +kernel
theorem d_QF_pass_78 : decode b_QF_pass 78 = .ok (.aload_n 0, 1) := by decide +kernel
theorem d_QF_pass_79 : decode b_QF_pass 79 = .ok (.getfield 36, 3) := by decide +kernel
theorem d_QF_pass_82 : decode b_QF_pass 82 = .ok (.iload_n 1, 1) := by decide +kernel
theorem d_QF_pass_83 : decode b_QF_pass 83 = .ok (.invokevirtual 153, 3) := by decide +kernel
theorem d_QF_pass_86 : decode b_QF_pass 86 = .ok (.ireturn, 1) := by decide +kernel
theorem d_QF_pass_87 : decode b_QF_pass 87 = .ok (.iconst (-1), 1) := by decide +kernel
theorem d_QF_pass_88 : decode b_QF_pass 88 = .ok (.ireturn, 1) := by decide +kernel
theorem d_QF_work_0 : decode b_QF_work 0 = .ok (.aload_n 0, 1) := by decide +kernel
theorem d_QF_work_1 : decode b_QF_work 1 = .ok (.iload_n 1, 1) := by decide +kernel
theorem d_QF_work_2 : decode b_QF_work 2 = .ok (.invokevirtual 156, 3) := by decide +kernel
theorem d_QF_work_5 : decode b_QF_work 5 = .ok (.ifCond .ne 5, 3) := by decide +kernel
theorem d_QF_work_8 : decode b_QF_work 8 = .ok (.iconst (-1), 1) := by decide +kernel
theorem d_QF_work_9 : decode b_QF_work 9 = .ok (.ireturn, 1) := by decide +kernel
theorem d_QF_work_10 : decode b_QF_work 10 = .ok (.aload_n 0, 1) := by decide +kernel
theorem d_QF_work_11 : decode b_QF_work 11 = .ok (.getfield 36, 3) := by decide +kernel
theorem d_QF_work_14 : decode b_QF_work 14 = .ok (.aload_n 0, 1) := by decide +kernel
theorem d_QF_work_15 : decode b_QF_work 15 = .ok (.getfield 36, 3) := by decide +kernel
theorem d_QF_work_18 : decode b_QF_work 18 = .ok (.getfield 159, 3) := by decide +kernel
theorem d_QF_work_21 : decode b_QF_work 21 = .ok (.iload_n 1, 1) := by decide +kernel
theorem d_QF_work_22 : decode b_QF_work 22 = .ok (.aaload, 1) := by decide +kernel
theorem d_QF_work_23 : decode b_QF_work 23 = .ok (.invokevirtual 163, 3) := by decide +kernel
theorem d_QF_work_26 : decode b_QF_work 26 = .ok (.ireturn, 1) := by decide +kernel
theorem d_QF_crash_0 : decode b_QF_crash 0 = .ok (.aload_n 0, 1) := by decide +kernel
theorem d_QF_crash_1 : decode b_QF_crash 1 = .ok (.iload_n 1, 1) := by decide +kernel
theorem d_QF_crash_2 : decode b_QF_crash 2 = .ok (.invokevirtual 156, 3) := by decide +kernel
theorem d_QF_crash_5 : decode b_QF_crash 5 = .ok (.ifCond .ne 5, 3) := by decide +kernel
theorem d_QF_crash_8 : decode b_QF_crash 8 = .ok (.iconst (-1), 1) := by decide +kernel
theorem d_QF_crash_9 : decode b_QF_crash 9 = .ok (.ireturn, 1) := by decide +kernel
theorem d_QF_crash_10 : decode b_QF_crash 10 = .ok (.aload_n 0, 1) := by decide +kernel
theorem d_QF_crash_11 : decode b_QF_crash 11 = .ok (.getfield 36, 3) := by decide +kernel
theorem d_QF_crash_14 : decode b_QF_crash 14 = .ok (.getfield 159, 3) := by decide +kernel
theorem d_QF_crash_17 : decode b_QF_crash 17 = .ok (.iload_n 1, 1) := by decide +kernel
theorem d_QF_crash_18 : decode b_QF_crash 18 = .ok (.aaload, 1) := by decide +kernel
theorem d_QF_crash_19 : decode b_QF_crash 19 = .ok (.getfield 141, 3) := by decide +kernel
theorem d_QF_crash_22 : decode b_QF_crash 22 = .ok (.istore_n 2, 1) := by decide +kernel
theorem d_QF_crash_23 : decode b_QF_crash 23 = .ok (.aload_n 0, 1) := by decide +kernel
theorem d_QF_crash_24 : decode b_QF_crash 24 = .ok (.getfield 36, 3) := by decide +kernel
theorem d_QF_crash_27 : decode b_QF_crash 27 = .ok (.getfield 159, 3) := by decide +kernel
theorem d_QF_crash_30 : decode b_QF_crash 30 = .ok (.iload_n 1, 1) := by decide +kernel
theorem d_QF_crash_31 : decode b_QF_crash 31 = .ok (.aaload, 1) := by decide +kernel
theorem d_QF_crash_32 : decode b_QF_crash 32 = .ok (.iconst 0, 1) := by decide +kernel
theorem d_QF_crash_33 : decode b_QF_crash 33 = .ok (.putfield 141, 3) := by decide +kernel
theorem d_QF_crash_36 : decode b_QF_crash 36 = .ok (.iload_n 2, 1) := by decide +kernel
theorem d_QF_crash_37 : decode b_QF_crash 37 = .ok (.ireturn, 1) := by decide +kernel
theorem d_QF_tick_0 : decode b_QF_tick 0 = .ok (.aload_n 0, 1) := by decide +kernel
theorem d_QF_tick_1 : decode b_QF_tick 1 = .ok (.getfield 36, 3) := by decide +kernel
theorem d_QF_tick_4 : decode b_QF_tick 4 = .ok (.getfield 40, 3) := by decide +kernel
theorem d_QF_tick_7 : decode b_QF_tick 7 = .ok (.ifCond .ne 5, 3) := by decide +kernel
theorem d_QF_tick_10 : decode b_QF_tick 10 = .ok (.iconst (-1), 1) := by decide +kernel
theorem d_QF_tick_11 : decode b_QF_tick 11 = .ok (.ireturn, 1) := by decide +kernel
theorem d_QF_tick_12 : decode b_QF_tick 12 = .ok (.aload_n 0, 1) := by decide +kernel
theorem d_QF_tick_13 : decode b_QF_tick 13 = .ok (.getfield 36, 3) := by decide +kernel
theorem d_QF_tick_16 : decode b_QF_tick 16 = .ok (.invokevirtual 167, 3) := by decide +kernel
theorem d_QF_tick_19 : decode b_QF_tick 19 = .ok (.ireturn, 1) := by decide +kernel
theorem d_QF_message_0 : decode b_QF_message 0 = .ok (.aload_n 0, 1) := by decide +kernel
theorem d_QF_message_1 : decode b_QF_message 1 = .ok (.getfield 36, 3) := by decide +kernel
theorem d_QF_message_4 : decode b_QF_message 4 = .ok (.getfield 40, 3) := by decide +kernel
theorem d_QF_message_7 : decode b_QF_message 7 = .ok (.ifCond .ne 5, 3) := by decide +kernel
theorem d_QF_message_10 : decode b_QF_message 10 = .ok (.iconst (-1), 1) := by decide +kernel
theorem d_QF_message_11 : decode b_QF_message 11 = .ok (.ireturn, 1) := by decide +kernel
theorem d_QF_message_12 : decode b_QF_message 12 = .ok (.iload_n 1, 1) := by decide +kernel
theorem d_QF_message_13 : decode b_QF_message 13 = .ok (.iconst (-1), 1) := by decide +kernel
theorem d_QF_message_14 : decode b_QF_message 14 = .ok (.if_icmp .ne 14, 3) := by decide +kernel
theorem d_QF_message_17 : decode b_QF_message 17 = .ok (.aload_n 0, 1) := by decide +kernel
theorem d_QF_message_18 : decode b_QF_message 18 = .ok (.getfield 36, 3) := by decide +kernel
theorem d_QF_message_21 : decode b_QF_message 21 = .ok (.getfield 137, 3) := by decide +kernel
theorem d_QF_message_24 : decode b_QF_message 24 = .ok (.getfield 141, 3) := by decide +kernel
theorem d_QF_message_27 : decode b_QF_message 27 = .ok (.ireturn, 1) := by decide +kernel
theorem d_QF_message_28 : decode b_QF_message 28 = .ok (.iload_n 1, 1) := by decide +kernel
theorem d_QF_message_29 : decode b_QF_message 29 = .ok (.aload_n 0, 1) := by decide +kernel
theorem d_QF_message_30 : decode b_QF_message 30 = .ok (.getfield 36, 3) := by decide +kernel
theorem d_QF_message_33 : decode b_QF_message 33 = .ok (.getfield 137, 3) := by decide +kernel
theorem d_QF_message_36 : decode b_QF_message 36 = .ok (.getfield 141, 3) := by decide +kernel
theorem d_QF_message_39 : decode b_QF_message 39 = .ok (.invokestatic 44, 3) := by decide +kernel
theorem d_QF_message_42 : decode b_QF_message 42 = .ok (.ifCond .ne 5, 3) := by decide +kernel
theorem d_QF_message_45 : decode b_QF_message 45 = .ok (.iconst (-1), 1) := by decide +kernel
theorem d_QF_message_46 : decode b_QF_message 46 = .ok (.ireturn, 1) := by decide +kernel
theorem d_QF_message_47 : decode b_QF_message 47 = .ok (.aload_n 0, 1) := by decide +kernel
theorem d_QF_message_48 : decode b_QF_message 48 = .ok (.getfield 36, 3) := by decide +kernel
theorem d_QF_message_51 : decode b_QF_message 51 = .ok (.iload_n 1, 1) := by decide +kernel
theorem d_QF_message_52 : decode b_QF_message 52 = .ok (.iload_n 2, 1) := by decide +kernel
theorem d_QF_message_53 : decode b_QF_message 53 = .ok (.invokevirtual 170, 3) := by decide +kernel
theorem d_QF_message_56 : decode b_QF_message 56 = .ok (.ireturn, 1) := by decide +kernel
theorem d_QF_task_0 : decode b_QF_task 0 = .ok (.iload_n 1, 1) := by decide +kernel
theorem d_QF_task_1 : decode b_QF_task 1 = .ok (.aload_n 0, 1) := by decide +kernel
theorem d_QF_task_2 : decode b_QF_task 2 = .ok (.getfield 36, 3) := by decide +kernel
theorem d_QF_task_5 : decode b_QF_task 5 = .ok (.getfield 134, 3) := by decide +kernel
theorem d_QF_task_8 : decode b_QF_task 8 = .ok (.invokestatic 44, 3) := by decide +kernel
theorem d_QF_task_11 : decode b_QF_task 11 = .ok (.ifCond .ne 5, 3) := by decide +kernel
theorem d_QF_task_14 : decode b_QF_task 14 = .ok (.iconst (-1), 1) := by decide +kernel
theorem d_QF_task_15 : decode b_QF_task 15 = .ok (.ireturn, 1) := by decide +kernel
theorem d_QF_task_16 : decode b_QF_task 16 = .ok (.aload_n 0, 1) := by decide +kernel
theorem d_QF_task_17 : decode b_QF_task 17 = .ok (.getfield 36, 3) := by decide +kernel
theorem d_QF_task_20 : decode b_QF_task 20 = .ok (.getfield 174, 3) := by decide +kernel
theorem d_QF_task_23 : decode b_QF_task 23 = .ok (.iload_n 1, 1) := by decide +kernel
theorem d_QF_task_24 : decode b_QF_task 24 = .ok (.aaload, 1) := by decide +kernel
theorem d_QF_task_25 : decode b_QF_task 25 = .ok (.iload_n 2, 1) := by decide +kernel
theorem d_QF_task_26 : decode b_QF_task 26 = .ok (.invokevirtual 178, 3) := by decide +kernel
theorem d_QF_task_29 : decode b_QF_task 29 = .ok (.ireturn, 1) := by decide +kernel
theorem d_QF_ended_0 : decode b_QF_ended 0 = .ok (.aload_n 0, 1) := by decide +kernel
theorem d_QF_ended_1 : decode b_QF_ended 1 = .ok (.invokevirtual 182, 3) := by decide +kernel
theorem d_QF_ended_4 : decode b_QF_ended 4 = .ok (.ifCond .ne 5, 3) := by decide +kernel
theorem d_QF_ended_7 : decode b_QF_ended 7 = .ok (.iconst (-1), 1) := by decide +kernel
theorem d_QF_ended_8 : decode b_QF_ended 8 = .ok (.ireturn, 1) := by decide +kernel
theorem d_QF_ended_9 : decode b_QF_ended 9 = .ok (.iload_n 1, 1) := by decide +kernel
theorem d_QF_ended_10 : decode b_QF_ended 10 = .ok (.tableswitch 62 0 3 #[30, 38, 46, 54], 30) := by decide +kernel
theorem d_QF_ended_40 : decode b_QF_ended 40 = .ok (.aload_n 0, 1) := by decide +kernel
theorem d_QF_ended_41 : decode b_QF_ended 41 = .ok (.getfield 29, 3) := by decide +kernel
theorem d_QF_ended_44 : decode b_QF_ended 44 = .ok (.getfield 185, 3) := by decide +kernel
theorem d_QF_ended_47 : decode b_QF_ended 47 = .ok (.ireturn, 1) := by decide +kernel
theorem d_QF_ended_48 : decode b_QF_ended 48 = .ok (.aload_n 0, 1) := by decide +kernel
theorem d_QF_ended_49 : decode b_QF_ended 49 = .ok (.getfield 29, 3) := by decide +kernel
theorem d_QF_ended_52 : decode b_QF_ended 52 = .ok (.getfield 188, 3) := by decide +kernel
theorem d_QF_ended_55 : decode b_QF_ended 55 = .ok (.ireturn, 1) := by decide +kernel
theorem d_QF_ended_56 : decode b_QF_ended 56 = .ok (.aload_n 0, 1) := by decide +kernel
theorem d_QF_ended_57 : decode b_QF_ended 57 = .ok (.getfield 29, 3) := by decide +kernel
theorem d_QF_ended_60 : decode b_QF_ended 60 = .ok (.getfield 190, 3) := by decide +kernel
theorem d_QF_ended_63 : decode b_QF_ended 63 = .ok (.ireturn, 1) := by decide +kernel
theorem d_QF_ended_64 : decode b_QF_ended 64 = .ok (.aload_n 0, 1) := by decide +kernel
theorem d_QF_ended_65 : decode b_QF_ended 65 = .ok (.getfield 36, 3) := by decide +kernel
theorem d_QF_ended_68 : decode b_QF_ended 68 = .ok (.getfield 193, 3) := by decide +kernel
theorem d_QF_ended_71 : decode b_QF_ended 71 = .ok (.ireturn, 1) := by decide +kernel
theorem d_QF_ended_72 : decode b_QF_ended 72 = .ok (.iconst (-1), 1) := by decide +kernel
theorem d_QF_ended_73 : decode b_QF_ended 73 = .ok (.ireturn, 1) := by decide +kernel
theorem d_QF_cell_0 : decode b_QF_cell 0 = .ok (.aload_n 0, 1) := by decide +kernel
theorem d_QF_cell_1 : decode b_QF_cell 1 = .ok (.iload_n 1, 1) := by decide +kernel
theorem d_QF_cell_2 : decode b_QF_cell 2 = .ok (.iload_n 2, 1) := by decide +kernel
theorem d_QF_cell_3 : decode b_QF_cell 3 = .ok (.invokevirtual 196, 3) := by decide +kernel
theorem d_QF_cell_6 : decode b_QF_cell 6 = .ok (.ifCond .eq 15, 3) := by decide +kernel
theorem d_QF_cell_9 : decode b_QF_cell 9 = .ok (.aload_n 0, 1) := by decide +kernel
theorem d_QF_cell_10 : decode b_QF_cell 10 = .ok (.getfield 29, 3) := by decide +kernel
theorem d_QF_cell_13 : decode b_QF_cell 13 = .ok (.iload_n 1, 1) := by decide +kernel
theorem d_QF_cell_14 : decode b_QF_cell 14 = .ok (.iload_n 2, 1) := by decide +kernel
theorem d_QF_cell_15 : decode b_QF_cell 15 = .ok (.invokevirtual 199, 3) := by decide +kernel
theorem d_QF_cell_18 : decode b_QF_cell 18 = .ok (.ifCond .eq 5, 3) := by decide +kernel
theorem d_QF_cell_21 : decode b_QF_cell 21 = .ok (.lconst 0, 1) := by decide +kernel
theorem d_QF_cell_22 : decode b_QF_cell 22 = .ok (.lreturn, 1) := by decide +kernel
theorem d_QF_cell_23 : decode b_QF_cell 23 = .ok (.aload_n 0, 1) := by decide +kernel
theorem d_QF_cell_24 : decode b_QF_cell 24 = .ok (.getfield 29, 3) := by decide +kernel
theorem d_QF_cell_27 : decode b_QF_cell 27 = .ok (.iload_n 1, 1) := by decide +kernel
theorem d_QF_cell_28 : decode b_QF_cell 28 = .ok (.iload_n 2, 1) := by decide +kernel
theorem d_QF_cell_29 : decode b_QF_cell 29 = .ok (.invokevirtual 202, 3) := by decide +kernel
theorem d_QF_cell_32 : decode b_QF_cell 32 = .ok (.lreturn, 1) := by decide +kernel
theorem d_QF_missing_0 : decode b_QF_missing 0 = .ok (.aload_n 0, 1) := by decide +kernel
theorem d_QF_missing_1 : decode b_QF_missing 1 = .ok (.iload_n 1, 1) := by decide +kernel
theorem d_QF_missing_2 : decode b_QF_missing 2 = .ok (.iload_n 2, 1) := by decide +kernel
theorem d_QF_missing_3 : decode b_QF_missing 3 = .ok (.invokevirtual 196, 3) := by decide +kernel
theorem d_QF_missing_6 : decode b_QF_missing 6 = .ok (.ifCond .eq 19, 3) := by decide +kernel
theorem d_QF_missing_9 : decode b_QF_missing 9 = .ok (.aload_n 0, 1) := by decide +kernel
theorem d_QF_missing_10 : decode b_QF_missing 10 = .ok (.getfield 29, 3) := by decide +kernel
theorem d_QF_missing_13 : decode b_QF_missing 13 = .ok (.iload_n 1, 1) := by decide +kernel
theorem d_QF_missing_14 : decode b_QF_missing 14 = .ok (.iload_n 2, 1) := by decide +kernel
theorem d_QF_missing_15 : decode b_QF_missing 15 = .ok (.invokevirtual 199, 3) := by decide +kernel
theorem d_QF_missing_18 : decode b_QF_missing 18 = .ok (.ifCond .eq 7, 3) := by decide +kernel
theorem d_QF_missing_21 : decode b_QF_missing 21 = .ok (.iconst 1, 1) := by decide +kernel
theorem d_QF_missing_22 : decode b_QF_missing 22 = .ok (.goto 4, 3) := by decide +kernel
theorem d_QF_missing_25 : decode b_QF_missing 25 = .ok (.iconst 0, 1) := by decide +kernel
theorem d_QF_missing_26 : decode b_QF_missing 26 = .ok (.ireturn, 1) := by decide +kernel
theorem d_QF_isIn_0 : decode b_QF_isIn 0 = .ok (.iload_n 0, 1) := by decide +kernel
theorem d_QF_isIn_1 : decode b_QF_isIn 1 = .ok (.ifCond .lt 12, 3) := by decide +kernel
theorem d_QF_isIn_4 : decode b_QF_isIn 4 = .ok (.iload_n 0, 1) := by decide +kernel
theorem d_QF_isIn_5 : decode b_QF_isIn 5 = .ok (.iload_n 1, 1) := by decide +kernel
theorem d_QF_isIn_6 : decode b_QF_isIn 6 = .ok (.if_icmp .ge 7, 3) := by decide +kernel
theorem d_QF_isIn_9 : decode b_QF_isIn 9 = .ok (.iconst 1, 1) := by decide +kernel
theorem d_QF_isIn_10 : decode b_QF_isIn 10 = .ok (.goto 4, 3) := by decide +kernel
theorem d_QF_isIn_13 : decode b_QF_isIn 13 = .ok (.iconst 0, 1) := by decide +kernel
theorem d_QF_isIn_14 : decode b_QF_isIn 14 = .ok (.ireturn, 1) := by decide +kernel
theorem d_QF_canChangeQuery_0 : decode b_QF_canChangeQuery 0 = .ok (.aload_n 0, 1) := by decide +kernel
theorem d_QF_canChangeQuery_1 : decode b_QF_canChangeQuery 1 = .ok (.getfield 36, 3) := by decide +kernel
theorem d_QF_canChangeQuery_4 : decode b_QF_canChangeQuery 4 = .ok (.getfield 40, 3) := by decide +kernel
theorem d_QF_canChangeQuery_7 : decode b_QF_canChangeQuery 7 = .ok (.ifCond .ne 17, 3) := by decide +kernel
theorem d_QF_canChangeQuery_10 : decode b_QF_canChangeQuery 10 = .ok (.aload_n 0, 1) := by decide +kernel
theorem d_QF_canChangeQuery_11 : decode b_QF_canChangeQuery 11 = .ok (.getfield 25, 3) := by decide +kernel
theorem d_QF_canChangeQuery_14 : decode b_QF_canChangeQuery 14 = .ok (.getfield 206, 3) := by decide +kernel
theorem d_QF_canChangeQuery_17 : decode b_QF_canChangeQuery 17 = .ok (.ifCond .eq 7, 3) := by decide +kernel
theorem d_QF_canChangeQuery_20 : decode b_QF_canChangeQuery 20 = .ok (.iconst 1, 1) := by decide +kernel
theorem d_QF_canChangeQuery_21 : decode b_QF_canChangeQuery 21 = .ok (.goto 4, 3) := by decide +kernel
theorem d_QF_canChangeQuery_24 : decode b_QF_canChangeQuery 24 = .ok (.iconst 0, 1) := by decide +kernel
theorem d_QF_canChangeQuery_25 : decode b_QF_canChangeQuery 25 = .ok (.ireturn, 1) := by decide +kernel
theorem d_QF_isWorker_0 : decode b_QF_isWorker 0 = .ok (.aload_n 0, 1) := by decide +kernel
theorem d_QF_isWorker_1 : decode b_QF_isWorker 1 = .ok (.getfield 36, 3) := by decide +kernel
theorem d_QF_isWorker_4 : decode b_QF_isWorker 4 = .ok (.getfield 40, 3) := by decide +kernel
theorem d_QF_isWorker_7 : decode b_QF_isWorker 7 = .ok (.ifCond .eq 21, 3) := by decide +kernel
theorem d_QF_isWorker_10 : decode b_QF_isWorker 10 = .ok (.iload_n 1, 1) := by decide +kernel
theorem d_QF_isWorker_11 : decode b_QF_isWorker 11 = .ok (.aload_n 0, 1) := by decide +kernel
theorem d_QF_isWorker_12 : decode b_QF_isWorker 12 = .ok (.getfield 36, 3) := by decide +kernel
theorem d_QF_isWorker_15 : decode b_QF_isWorker 15 = .ok (.getfield 209, 3) := by decide +kernel
theorem d_QF_isWorker_18 : decode b_QF_isWorker 18 = .ok (.invokestatic 44, 3) := by decide +kernel
theorem d_QF_isWorker_21 : decode b_QF_isWorker 21 = .ok (.ifCond .eq 7, 3) := by decide +kernel
theorem d_QF_isWorker_24 : decode b_QF_isWorker 24 = .ok (.iconst 1, 1) := by decide +kernel
theorem d_QF_isWorker_25 : decode b_QF_isWorker 25 = .ok (.goto 4, 3) := by decide +kernel
theorem d_QF_isWorker_28 : decode b_QF_isWorker 28 = .ok (.iconst 0, 1) := by decide +kernel
theorem d_QF_isWorker_29 : decode b_QF_isWorker 29 = .ok (.ireturn, 1) := by decide +kernel
theorem d_QF_hasResult_0 : decode b_QF_hasResult 0 = .ok (.aload_n 0, 1) := by decide +kernel
theorem d_QF_hasResult_1 : decode b_QF_hasResult 1 = .ok (.getfield 36, 3) := by decide +kernel
theorem d_QF_hasResult_4 : decode b_QF_hasResult 4 = .ok (.getfield 40, 3) := by decide +kernel
theorem d_QF_hasResult_7 : decode b_QF_hasResult 7 = .ok (.ifCond .ne 17, 3) := by decide +kernel
theorem d_QF_hasResult_10 : decode b_QF_hasResult 10 = .ok (.aload_n 0, 1) := by decide +kernel
theorem d_QF_hasResult_11 : decode b_QF_hasResult 11 = .ok (.getfield 36, 3) := by decide +kernel
theorem d_QF_hasResult_14 : decode b_QF_hasResult 14 = .ok (.getfield 134, 3) := by decide +kernel
theorem d_QF_hasResult_17 : decode b_QF_hasResult 17 = .ok (.ifCond .le 7, 3) := by decide +kernel
theorem d_QF_hasResult_20 : decode b_QF_hasResult 20 = .ok (.iconst 1, 1) := by decide +kernel
theorem d_QF_hasResult_21 : decode b_QF_hasResult 21 = .ok (.goto 4, 3) := by decide +kernel
theorem d_QF_hasResult_24 : decode b_QF_hasResult 24 = .ok (.iconst 0, 1) := by decide +kernel
theorem d_QF_hasResult_25 : decode b_QF_hasResult 25 = .ok (.ireturn, 1) := by decide +kernel
theorem d_QF_hasCell_0 : decode b_QF_hasCell 0 = .ok (.aload_n 0, 1) := by decide +kernel
theorem d_QF_hasCell_1 : decode b_QF_hasCell 1 = .ok (.invokevirtual 182, 3) := by decide +kernel
theorem d_QF_hasCell_4 : decode b_QF_hasCell 4 = .ok (.ifCond .eq 35, 3) := by decide +kernel
theorem d_QF_hasCell_7 : decode b_QF_hasCell 7 = .ok (.iload_n 1, 1) := by decide +kernel
theorem d_QF_hasCell_8 : decode b_QF_hasCell 8 = .ok (.aload_n 0, 1) := by decide +kernel
theorem d_QF_hasCell_9 : decode b_QF_hasCell 9 = .ok (.getfield 29, 3) := by decide +kernel
theorem d_QF_hasCell_12 : decode b_QF_hasCell 12 = .ok (.getfield 185, 3) := by decide +kernel
theorem d_QF_hasCell_15 : decode b_QF_hasCell 15 = .ok (.invokestatic 44, 3) := by decide +kernel
theorem d_QF_hasCell_18 : decode b_QF_hasCell 18 = .ok (.ifCond .eq 21, 3) := by decide +kernel
theorem d_QF_hasCell_21 : decode b_QF_hasCell 21 = .ok (.iload_n 2, 1) := by decide +kernel
theorem d_QF_hasCell_22 : decode b_QF_hasCell 22 = .ok (.aload_n 0, 1) := by decide +kernel
theorem d_QF_hasCell_23 : decode b_QF_hasCell 23 = .ok (.getfield 29, 3) := by decide +kernel
theorem d_QF_hasCell_26 : decode b_QF_hasCell 26 = .ok (.getfield 188, 3) := by decide +kernel
theorem d_QF_hasCell_29 : decode b_QF_hasCell 29 = .ok (.invokestatic 44, 3) := by decide +kernel
theorem d_QF_hasCell_32 : decode b_QF_hasCell 32 = .ok (.ifCond .eq 7, 3) := by decide +kernel
theorem d_QF_hasCell_35 : decode b_QF_hasCell 35 = .ok (.iconst 1, 1) := by decide +kernel
theorem d_QF_hasCell_36 : decode b_QF_hasCell 36 = .ok (.goto 4, 3) := by decide +kernel
theorem d_QF_hasCell_39 : decode b_QF_hasCell 39 = .ok (.iconst 0, 1) := by decide +kernel
theorem d_QF_hasCell_40 : decode b_QF_hasCell 40 = .ok (.ireturn, 1) := by decide +kernel
theorem d_Ag_init_0 : decode b_Ag_init 0 = .ok (.aload_n 0, 1) := by decide +kernel
theorem d_Ag_init_1 : decode b_Ag_init 1 = .ok (.invokespecial 3, 3) := by decide +kernel
theorem d_Ag_init_4 : decode b_Ag_init 4 = .ok (.return_, 1) := by decide +kernel
theorem d_Ag_clear_0 : decode b_Ag_clear 0 = .ok (.aload_n 0, 1) := by decide +kernel
theorem d_Ag_clear_1 : decode b_Ag_clear 1 = .ok (.lconst 0, 1) := by decide +kernel
theorem d_Ag_clear_2 : decode b_Ag_clear 2 = .ok (.putfield 9, 3) := by decide +kernel
theorem d_Ag_clear_5 : decode b_Ag_clear 5 = .ok (.aload_n 0, 1) := by decide +kernel
theorem d_Ag_clear_6 : decode b_Ag_clear 6 = .ok (.lconst 0, 1) := by decide +kernel
theorem d_Ag_clear_7 : decode b_Ag_clear 7 = .ok (.putfield 15, 3) := by decide +kernel
theorem d_Ag_clear_10 : decode b_Ag_clear 10 = .ok (.aload_n 0, 1) := by decide +kernel
theorem d_Ag_clear_11 : decode b_Ag_clear 11 = .ok (.lconst 0, 1) := by decide +kernel
theorem d_Ag_clear_12 : decode b_Ag_clear 12 = .ok (.putfield 18, 3) := by decide +kernel
theorem d_Ag_clear_15 : decode b_Ag_clear 15 = .ok (.aload_n 0, 1) := by decide +kernel
theorem d_Ag_clear_16 : decode b_Ag_clear 16 = .ok (.lconst 0, 1) := by decide +kernel
theorem d_Ag_clear_17 : decode b_Ag_clear 17 = .ok (.putfield 21, 3) := by decide +kernel
theorem d_Ag_clear_20 : decode b_Ag_clear 20 = .ok (.aload_n 0, 1) := by decide +kernel
theorem d_Ag_clear_21 : decode b_Ag_clear 21 = .ok (.ldc2_w 24, 3) := by decide +kernel
theorem d_Ag_clear_24 : decode b_Ag_clear 24 = .ok (.putfield 26, 3) := by decide +kernel
theorem d_Ag_clear_27 : decode b_Ag_clear 27 = .ok (.aload_n 0, 1) := by decide +kernel
theorem d_Ag_clear_28 : decode b_Ag_clear 28 = .ok (.ldc2_w 29, 3) := by decide +kernel
theorem d_Ag_clear_31 : decode b_Ag_clear 31 = .ok (.putfield 31, 3) := by decide +kernel
theorem d_Ag_clear_34 : decode b_Ag_clear 34 = .ok (.return_, 1) := by decide +kernel
theorem d_Ag_add_0 : decode b_Ag_add 0 = .ok (.aload_n 0, 1) := by decide +kernel
theorem d_Ag_add_1 : decode b_Ag_add 1 = .ok (.dup, 1) := by decide +kernel
theorem d_Ag_add_2 : decode b_Ag_add 2 = .ok (.getfield 9, 3) := by decide +kernel
theorem d_Ag_add_5 : decode b_Ag_add 5 = .ok (.lconst 1, 1) := by decide +kernel
theorem d_Ag_add_6 : decode b_Ag_add 6 = .ok (.ladd, 1) := by decide +kernel
theorem d_Ag_add_7 : decode b_Ag_add 7 = .ok (.putfield 9, 3) := by decide +kernel
theorem d_Ag_add_10 : decode b_Ag_add 10 = .ok (.iload_n 3, 1) := by decide +kernel
theorem d_Ag_add_11 : decode b_Ag_add 11 = .ok (.ifCond .eq 4, 3) := by decide +kernel
theorem d_Ag_add_14 : decode b_Ag_add 14 = .ok (.return_, 1) := by decide +kernel
theorem d_Ag_add_15 : decode b_Ag_add 15 = .ok (.aload_n 0, 1) := by decide +kernel
theorem d_Ag_add_16 : decode b_Ag_add 16 = .ok (.dup, 1) := by decide +kernel
theorem d_Ag_add_17 : decode b_Ag_add 17 = .ok (.getfield 15, 3) := by decide +kernel
theorem d_Ag_add_20 : decode b_Ag_add 20 = .ok (.lconst 1, 1) := by decide +kernel
theorem d_Ag_add_21 : decode b_Ag_add 21 = .ok (.ladd, 1) := by decide +kernel
theorem d_Ag_add_22 : decode b_Ag_add 22 = .ok (.putfield 15, 3) := by decide +kernel
theorem d_Ag_add_25 : decode b_Ag_add 25 = .ok (.aload_n 0, 1) := by decide +kernel
theorem d_Ag_add_26 : decode b_Ag_add 26 = .ok (.dup, 1) := by decide +kernel
theorem d_Ag_add_27 : decode b_Ag_add 27 = .ok (.getfield 18, 3) := by decide +kernel
theorem d_Ag_add_30 : decode b_Ag_add 30 = .ok (.lload_n 1, 1) := by decide +kernel
theorem d_Ag_add_31 : decode b_Ag_add 31 = .ok (.bipush 32, 2) := by decide +kernel
theorem d_Ag_add_33 : decode b_Ag_add 33 = .ok (.lshr, 1) := by decide +kernel
theorem d_Ag_add_34 : decode b_Ag_add 34 = .ok (.ladd, 1) := by decide +kernel
theorem d_Ag_add_35 : decode b_Ag_add 35 = .ok (.putfield 18, 3) := by decide +kernel
theorem d_Ag_add_38 : decode b_Ag_add 38 = .ok (.aload_n 0, 1) := by decide +kernel
theorem d_Ag_add_39 : decode b_Ag_add 39 = .ok (.dup, 1) := by decide +kernel
theorem d_Ag_add_40 : decode b_Ag_add 40 = .ok (.getfield 21, 3) := by decide +kernel
theorem d_Ag_add_43 : decode b_Ag_add 43 = .ok (.lload_n 1, 1) := by decide +kernel
theorem d_Ag_add_44 : decode b_Ag_add 44 = .ok (.ldc2_w 34, 3) := by decide +kernel
theorem d_Ag_add_47 : decode b_Ag_add 47 = .ok (.land, 1) := by decide +kernel
theorem d_Ag_add_48 : decode b_Ag_add 48 = .ok (.ladd, 1) := by decide +kernel
theorem d_Ag_add_49 : decode b_Ag_add 49 = .ok (.putfield 21, 3) := by decide +kernel
theorem d_Ag_add_52 : decode b_Ag_add 52 = .ok (.aload_n 0, 1) := by decide +kernel
theorem d_Ag_add_53 : decode b_Ag_add 53 = .ok (.aload_n 0, 1) := by decide +kernel
theorem d_Ag_add_54 : decode b_Ag_add 54 = .ok (.getfield 26, 3) := by decide +kernel
theorem d_Ag_add_57 : decode b_Ag_add 57 = .ok (.lload_n 1, 1) := by decide +kernel
theorem d_Ag_add_58 : decode b_Ag_add 58 = .ok (.invokestatic 36, 3) := by decide +kernel
theorem d_Ag_add_61 : decode b_Ag_add 61 = .ok (.putfield 26, 3) := by decide +kernel
theorem d_Ag_add_64 : decode b_Ag_add 64 = .ok (.aload_n 0, 1) := by decide +kernel
theorem d_Ag_add_65 : decode b_Ag_add 65 = .ok (.aload_n 0, 1) := by decide +kernel
theorem d_Ag_add_66 : decode b_Ag_add 66 = .ok (.getfield 31, 3) := by decide +kernel
theorem d_Ag_add_69 : decode b_Ag_add 69 = .ok (.lload_n 1, 1) := by decide +kernel
theorem d_Ag_add_70 : decode b_Ag_add 70 = .ok (.invokestatic 42, 3) := by decide +kernel
theorem d_Ag_add_73 : decode b_Ag_add 73 = .ok (.putfield 31, 3) := by decide +kernel
theorem d_Ag_add_76 : decode b_Ag_add 76 = .ok (.return_, 1) := by decide +kernel
theorem d_Ag_isNull_0 : decode b_Ag_isNull 0 = .ok (.iload_n 1, 1) := by decide +kernel
theorem d_Ag_isNull_1 : decode b_Ag_isNull 1 = .ok (.iconst 1, 1) := by decide +kernel
theorem d_Ag_isNull_2 : decode b_Ag_isNull 2 = .ok (.if_icmp .eq 8, 3) := by decide +kernel
theorem d_Ag_isNull_5 : decode b_Ag_isNull 5 = .ok (.iload_n 1, 1) := by decide +kernel
theorem d_Ag_isNull_6 : decode b_Ag_isNull 6 = .ok (.iconst 2, 1) := by decide +kernel
theorem d_Ag_isNull_7 : decode b_Ag_isNull 7 = .ok (.if_icmp .ne 5, 3) := by decide +kernel
theorem d_Ag_isNull_10 : decode b_Ag_isNull 10 = .ok (.iconst 0, 1) := by decide +kernel
theorem d_Ag_isNull_11 : decode b_Ag_isNull 11 = .ok (.ireturn, 1) := by decide +kernel
theorem d_Ag_isNull_12 : decode b_Ag_isNull 12 = .ok (.aload_n 0, 1) := by decide +kernel
theorem d_Ag_isNull_13 : decode b_Ag_isNull 13 = .ok (.getfield 15, 3) := by decide +kernel
theorem d_Ag_isNull_16 : decode b_Ag_isNull 16 = .ok (.lconst 0, 1) := by decide +kernel
theorem d_Ag_isNull_17 : decode b_Ag_isNull 17 = .ok (.lcmp, 1) := by decide +kernel
theorem d_Ag_isNull_18 : decode b_Ag_isNull 18 = .ok (.ifCond .eq 15, 3) := by decide +kernel
theorem d_Ag_isNull_21 : decode b_Ag_isNull 21 = .ok (.iload_n 1, 1) := by decide +kernel
theorem d_Ag_isNull_22 : decode b_Ag_isNull 22 = .ok (.iconst 3, 1) := by decide +kernel
theorem d_Ag_isNull_23 : decode b_Ag_isNull 23 = .ok (.if_icmp .ne 14, 3) := by decide +kernel
theorem d_Ag_isNull_26 : decode b_Ag_isNull 26 = .ok (.aload_n 0, 1) := by decide +kernel
theorem d_Ag_isNull_27 : decode b_Ag_isNull 27 = .ok (.invokevirtual 45, 3) := by decide +kernel
theorem d_Ag_isNull_30 : decode b_Ag_isNull 30 = .ok (.ifCond .ne 7, 3) := by decide +kernel
theorem d_Ag_isNull_33 : decode b_Ag_isNull 33 = .ok (.iconst 1, 1) := by decide +kernel
theorem d_Ag_isNull_34 : decode b_Ag_isNull 34 = .ok (.goto 4, 3) := by decide +kernel
theorem d_Ag_isNull_37 : decode b_Ag_isNull 37 = .ok (.iconst 0, 1) := by decide +kernel
theorem d_Ag_isNull_38 : decode b_Ag_isNull 38 = .ok (.ireturn, 1) := by decide +kernel
theorem d_Ag_value_0 : decode b_Ag_value 0 = .ok (.iload_n 1, 1) := by decide +kernel
theorem d_Ag_value_1 : decode b_Ag_value 1 = .ok (.tableswitch 68 1 5 #[35, 40, 45, 58, 63], 35) := by decide +kernel
theorem d_Ag_value_36 : decode b_Ag_value 36 = .ok (.aload_n 0, 1) := by decide +kernel
theorem d_Ag_value_37 : decode b_Ag_value 37 = .ok (.getfield 9, 3) := by decide +kernel
theorem d_Ag_value_40 : decode b_Ag_value 40 = .ok (.lreturn, 1) := by decide +kernel
theorem d_Ag_value_41 : decode b_Ag_value 41 = .ok (.aload_n 0, 1) := by decide +kernel
theorem d_Ag_value_42 : decode b_Ag_value 42 = .ok (.getfield 15, 3) := by decide +kernel
theorem d_Ag_value_45 : decode b_Ag_value 45 = .ok (.lreturn, 1) := by decide +kernel
theorem d_Ag_value_46 : decode b_Ag_value 46 = .ok (.aload_n 0, 1) := by decide +kernel
theorem d_Ag_value_47 : decode b_Ag_value 47 = .ok (.getfield 18, 3) := by decide +kernel
theorem d_Ag_value_50 : decode b_Ag_value 50 = .ok (.bipush 32, 2) := by decide +kernel
theorem d_Ag_value_52 : decode b_Ag_value 52 = .ok (.lshl, 1) := by decide +kernel
theorem d_Ag_value_53 : decode b_Ag_value 53 = .ok (.aload_n 0, 1) := by decide +kernel
theorem d_Ag_value_54 : decode b_Ag_value 54 = .ok (.getfield 21, 3) := by decide +kernel
theorem d_Ag_value_57 : decode b_Ag_value 57 = .ok (.ladd, 1) := by decide +kernel
theorem d_Ag_value_58 : decode b_Ag_value 58 = .ok (.lreturn, 1) := by decide +kernel
theorem d_Ag_value_59 : decode b_Ag_value 59 = .ok (.aload_n 0, 1) := by decide +kernel
theorem d_Ag_value_60 : decode b_Ag_value 60 = .ok (.getfield 26, 3) := by decide +kernel
theorem d_Ag_value_63 : decode b_Ag_value 63 = .ok (.lreturn, 1) := by decide +kernel
theorem d_Ag_value_64 : decode b_Ag_value 64 = .ok (.aload_n 0, 1) := by decide +kernel
theorem d_Ag_value_65 : decode b_Ag_value 65 = .ok (.getfield 31, 3) := by decide +kernel
theorem d_Ag_value_68 : decode b_Ag_value 68 = .ok (.lreturn, 1) := by decide +kernel
theorem d_Ag_value_69 : decode b_Ag_value 69 = .ok (.lconst 0, 1) := by decide +kernel
theorem d_Ag_value_70 : decode b_Ag_value 70 = .ok (.lreturn, 1) := by decide +kernel
theorem d_Ag_hasSum_0 : decode b_Ag_hasSum 0 = .ok (.aload_n 0, 1) := by decide +kernel
theorem d_Ag_hasSum_1 : decode b_Ag_hasSum 1 = .ok (.getfield 18, 3) := by decide +kernel
theorem d_Ag_hasSum_4 : decode b_Ag_hasSum 4 = .ok (.aload_n 0, 1) := by decide +kernel
theorem d_Ag_hasSum_5 : decode b_Ag_hasSum 5 = .ok (.getfield 21, 3) := by decide +kernel
theorem d_Ag_hasSum_8 : decode b_Ag_hasSum 8 = .ok (.bipush 32, 2) := by decide +kernel
theorem d_Ag_hasSum_10 : decode b_Ag_hasSum 10 = .ok (.lshr, 1) := by decide +kernel
theorem d_Ag_hasSum_11 : decode b_Ag_hasSum 11 = .ok (.ladd, 1) := by decide +kernel
theorem d_Ag_hasSum_12 : decode b_Ag_hasSum 12 = .ok (.lstore_n 1, 1) := by decide +kernel
theorem d_Ag_hasSum_13 : decode b_Ag_hasSum 13 = .ok (.lload_n 1, 1) := by decide +kernel
theorem d_Ag_hasSum_14 : decode b_Ag_hasSum 14 = .ok (.lload_n 1, 1) := by decide +kernel
theorem d_Ag_hasSum_15 : decode b_Ag_hasSum 15 = .ok (.l2i, 1) := by decide +kernel
theorem d_Ag_hasSum_16 : decode b_Ag_hasSum 16 = .ok (.i2l, 1) := by decide +kernel
theorem d_Ag_hasSum_17 : decode b_Ag_hasSum 17 = .ok (.lcmp, 1) := by decide +kernel
theorem d_Ag_hasSum_18 : decode b_Ag_hasSum 18 = .ok (.ifCond .ne 7, 3) := by decide +kernel
theorem d_Ag_hasSum_21 : decode b_Ag_hasSum 21 = .ok (.iconst 1, 1) := by decide +kernel
theorem d_Ag_hasSum_22 : decode b_Ag_hasSum 22 = .ok (.goto 4, 3) := by decide +kernel
theorem d_Ag_hasSum_25 : decode b_Ag_hasSum 25 = .ok (.iconst 0, 1) := by decide +kernel
theorem d_Ag_hasSum_26 : decode b_Ag_hasSum 26 = .ok (.ireturn, 1) := by decide +kernel
theorem d_Ex_init_0 : decode b_Ex_init 0 = .ok (.aload_n 0, 1) := by decide +kernel
theorem d_Ex_init_1 : decode b_Ex_init 1 = .ok (.invokespecial 3, 3) := by decide +kernel
theorem d_Ex_init_4 : decode b_Ex_init 4 = .ok (.aload_n 0, 1) := by decide +kernel
theorem d_Ex_init_5 : decode b_Ex_init 5 = .ok (.bipush 24, 2) := by decide +kernel
theorem d_Ex_init_7 : decode b_Ex_init 7 = .ok (.newarray .int, 2) := by decide +kernel
theorem d_Ex_init_9 : decode b_Ex_init 9 = .ok (.putfield 9, 3) := by decide +kernel
theorem d_Ex_init_12 : decode b_Ex_init 12 = .ok (.aload_n 0, 1) := by decide +kernel
theorem d_Ex_init_13 : decode b_Ex_init 13 = .ok (.bipush 24, 2) := by decide +kernel
theorem d_Ex_init_15 : decode b_Ex_init 15 = .ok (.newarray .int, 2) := by decide +kernel
theorem d_Ex_init_17 : decode b_Ex_init 17 = .ok (.putfield 15, 3) := by decide +kernel
theorem d_Ex_init_20 : decode b_Ex_init 20 = .ok (.return_, 1) := by decide +kernel
theorem d_Ex_clear_0 : decode b_Ex_clear 0 = .ok (.aload_n 0, 1) := by decide +kernel
theorem d_Ex_clear_1 : decode b_Ex_clear 1 = .ok (.iconst 0, 1) := by decide +kernel
theorem d_Ex_clear_2 : decode b_Ex_clear 2 = .ok (.putfield 18, 3) := by decide +kernel
theorem d_Ex_clear_5 : decode b_Ex_clear 5 = .ok (.aload_n 0, 1) := by decide +kernel
theorem d_Ex_clear_6 : decode b_Ex_clear 6 = .ok (.iconst 0, 1) := by decide +kernel
theorem d_Ex_clear_7 : decode b_Ex_clear 7 = .ok (.putfield 22, 3) := by decide +kernel
theorem d_Ex_clear_10 : decode b_Ex_clear 10 = .ok (.aload_n 0, 1) := by decide +kernel
theorem d_Ex_clear_11 : decode b_Ex_clear 11 = .ok (.iconst 0, 1) := by decide +kernel
theorem d_Ex_clear_12 : decode b_Ex_clear 12 = .ok (.putfield 26, 3) := by decide +kernel
theorem d_Ex_clear_15 : decode b_Ex_clear 15 = .ok (.return_, 1) := by decide +kernel
theorem d_Ex_addPart_0 : decode b_Ex_addPart 0 = .ok (.aload_n 0, 1) := by decide +kernel
theorem d_Ex_addPart_1 : decode b_Ex_addPart 1 = .ok (.getfield 18, 3) := by decide +kernel
theorem d_Ex_addPart_4 : decode b_Ex_addPart 4 = .ok (.bipush 24, 2) := by decide +kernel
theorem d_Ex_addPart_6 : decode b_Ex_addPart 6 = .ok (.if_icmp .lt 4, 3) := by decide +kernel
theorem d_Ex_addPart_9 : decode b_Ex_addPart 9 = .ok (.return_, 1) := by decide +kernel
theorem d_Ex_addPart_10 : decode b_Ex_addPart 10 = .ok (.aload_n 0, 1) := by decide +kernel
theorem d_Ex_addPart_11 : decode b_Ex_addPart 11 = .ok (.getfield 9, 3) := by decide +kernel
theorem d_Ex_addPart_14 : decode b_Ex_addPart 14 = .ok (.aload_n 0, 1) := by decide +kernel
theorem d_Ex_addPart_15 : decode b_Ex_addPart 15 = .ok (.getfield 18, 3) := by decide +kernel
theorem d_Ex_addPart_18 : decode b_Ex_addPart 18 = .ok (.iload_n 1, 1) := by decide +kernel
theorem d_Ex_addPart_19 : decode b_Ex_addPart 19 = .ok (.iastore, 1) := by decide +kernel
theorem d_Ex_addPart_20 : decode b_Ex_addPart 20 = .ok (.aload_n 0, 1) := by decide +kernel
theorem d_Ex_addPart_21 : decode b_Ex_addPart 21 = .ok (.getfield 15, 3) := by decide +kernel
theorem d_Ex_addPart_24 : decode b_Ex_addPart 24 = .ok (.aload_n 0, 1) := by decide +kernel
theorem d_Ex_addPart_25 : decode b_Ex_addPart 25 = .ok (.getfield 18, 3) := by decide +kernel
theorem d_Ex_addPart_28 : decode b_Ex_addPart 28 = .ok (.iload_n 2, 1) := by decide +kernel
theorem d_Ex_addPart_29 : decode b_Ex_addPart 29 = .ok (.iastore, 1) := by decide +kernel
theorem d_Ex_addPart_30 : decode b_Ex_addPart 30 = .ok (.aload_n 0, 1) := by decide +kernel
theorem d_Ex_addPart_31 : decode b_Ex_addPart 31 = .ok (.dup, 1) := by decide +kernel
theorem d_Ex_addPart_32 : decode b_Ex_addPart 32 = .ok (.getfield 18, 3) := by decide +kernel
theorem d_Ex_addPart_35 : decode b_Ex_addPart 35 = .ok (.iconst 1, 1) := by decide +kernel
theorem d_Ex_addPart_36 : decode b_Ex_addPart 36 = .ok (.iadd, 1) := by decide +kernel
theorem d_Ex_addPart_37 : decode b_Ex_addPart 37 = .ok (.putfield 18, 3) := by decide +kernel
theorem d_Ex_addPart_40 : decode b_Ex_addPart 40 = .ok (.iload_n 1, 1) := by decide +kernel
theorem d_Ex_addPart_41 : decode b_Ex_addPart 41 = .ok (.bipush 10, 2) := by decide +kernel
theorem d_Ex_addPart_43 : decode b_Ex_addPart 43 = .ok (.if_icmp .ne 15, 3) := by decide +kernel
theorem d_Ex_addPart_46 : decode b_Ex_addPart 46 = .ok (.aload_n 0, 1) := by decide +kernel
theorem d_Ex_addPart_47 : decode b_Ex_addPart 47 = .ok (.dup, 1) := by decide +kernel
theorem d_Ex_addPart_48 : decode b_Ex_addPart 48 = .ok (.getfield 26, 3) := by decide +kernel
theorem d_Ex_addPart_51 : decode b_Ex_addPart 51 = .ok (.iconst 1, 1) := by decide +kernel
theorem d_Ex_addPart_52 : decode b_Ex_addPart 52 = .ok (.iload_n 2, 1) := by decide +kernel
theorem d_Ex_addPart_53 : decode b_Ex_addPart 53 = .ok (.ishl, 1) := by decide +kernel
theorem d_Ex_addPart_54 : decode b_Ex_addPart 54 = .ok (.ior, 1) := by decide +kernel
theorem d_Ex_addPart_55 : decode b_Ex_addPart 55 = .ok (.putfield 26, 3) := by decide +kernel
theorem d_Ex_addPart_58 : decode b_Ex_addPart 58 = .ok (.return_, 1) := by decide +kernel
theorem d_Ex_addAll_0 : decode b_Ex_addAll 0 = .ok (.iconst 0, 1) := by decide +kernel
theorem d_Ex_addAll_1 : decode b_Ex_addAll 1 = .ok (.istore_n 2, 1) := by decide +kernel
theorem d_Ex_addAll_2 : decode b_Ex_addAll 2 = .ok (.iload_n 2, 1) := by decide +kernel
theorem d_Ex_addAll_3 : decode b_Ex_addAll 3 = .ok (.aload_n 1, 1) := by decide +kernel
theorem d_Ex_addAll_4 : decode b_Ex_addAll 4 = .ok (.getfield 18, 3) := by decide +kernel
theorem d_Ex_addAll_7 : decode b_Ex_addAll 7 = .ok (.if_icmp .ge 25, 3) := by decide +kernel
theorem d_Ex_addAll_10 : decode b_Ex_addAll 10 = .ok (.aload_n 0, 1) := by decide +kernel
theorem d_Ex_addAll_11 : decode b_Ex_addAll 11 = .ok (.aload_n 1, 1) := by decide +kernel
theorem d_Ex_addAll_12 : decode b_Ex_addAll 12 = .ok (.getfield 9, 3) := by decide +kernel
theorem d_Ex_addAll_15 : decode b_Ex_addAll 15 = .ok (.iload_n 2, 1) := by decide +kernel
theorem d_Ex_addAll_16 : decode b_Ex_addAll 16 = .ok (.iaload, 1) := by decide +kernel
theorem d_Ex_addAll_17 : decode b_Ex_addAll 17 = .ok (.aload_n 1, 1) := by decide +kernel
theorem d_Ex_addAll_18 : decode b_Ex_addAll 18 = .ok (.getfield 15, 3) := by decide +kernel
theorem d_Ex_addAll_21 : decode b_Ex_addAll 21 = .ok (.iload_n 2, 1) := by decide +kernel
theorem d_Ex_addAll_22 : decode b_Ex_addAll 22 = .ok (.iaload, 1) := by decide +kernel
theorem d_Ex_addAll_23 : decode b_Ex_addAll 23 = .ok (.invokevirtual 29, 3) := by decide +kernel
theorem d_Ex_addAll_26 : decode b_Ex_addAll 26 = .ok (.iinc 2 1, 3) := by decide +kernel
theorem d_Ex_addAll_29 : decode b_Ex_addAll 29 = .ok (.goto (-27), 3) := by decide +kernel
theorem d_Ex_addAll_32 : decode b_Ex_addAll 32 = .ok (.return_, 1) := by decide +kernel
theorem d_Ex_namesFirst_0 : decode b_Ex_namesFirst 0 = .ok (.aload_n 0, 1) := by decide +kernel
theorem d_Ex_namesFirst_1 : decode b_Ex_namesFirst 1 = .ok (.getfield 26, 3) := by decide +kernel
theorem d_Ex_namesFirst_4 : decode b_Ex_namesFirst 4 = .ok (.iconst 3, 1) := by decide +kernel
theorem d_Ex_namesFirst_5 : decode b_Ex_namesFirst 5 = .ok (.iand, 1) := by decide +kernel
theorem d_Ex_namesFirst_6 : decode b_Ex_namesFirst 6 = .ok (.ifCond .eq 7, 3) := by decide +kernel
theorem d_Ex_namesFirst_9 : decode b_Ex_namesFirst 9 = .ok (.iconst 1, 1) := by decide +kernel
theorem d_Ex_namesFirst_10 : decode b_Ex_namesFirst 10 = .ok (.goto 4, 3) := by decide +kernel
theorem d_Ex_namesFirst_13 : decode b_Ex_namesFirst 13 = .ok (.iconst 0, 1) := by decide +kernel
theorem d_Ex_namesFirst_14 : decode b_Ex_namesFirst 14 = .ok (.ireturn, 1) := by decide +kernel
theorem d_Ex_namesSecond_0 : decode b_Ex_namesSecond 0 = .ok (.aload_n 0, 1) := by decide +kernel
theorem d_Ex_namesSecond_1 : decode b_Ex_namesSecond 1 = .ok (.getfield 26, 3) := by decide +kernel
theorem d_Ex_namesSecond_4 : decode b_Ex_namesSecond 4 = .ok (.bipush 12, 2) := by decide +kernel
theorem d_Ex_namesSecond_6 : decode b_Ex_namesSecond 6 = .ok (.iand, 1) := by decide +kernel
theorem d_Ex_namesSecond_7 : decode b_Ex_namesSecond 7 = .ok (.ifCond .eq 7, 3) := by decide +kernel
theorem d_Ex_namesSecond_10 : decode b_Ex_namesSecond 10 = .ok (.iconst 1, 1) := by decide +kernel
theorem d_Ex_namesSecond_11 : decode b_Ex_namesSecond 11 = .ok (.goto 4, 3) := by decide +kernel
theorem d_Ex_namesSecond_14 : decode b_Ex_namesSecond 14 = .ok (.iconst 0, 1) := by decide +kernel
theorem d_Ex_namesSecond_15 : decode b_Ex_namesSecond 15 = .ok (.ireturn, 1) := by decide +kernel
theorem d_Jo_init_0 : decode b_Jo_init 0 = .ok (.aload_n 0, 1) := by decide +kernel
theorem d_Jo_init_1 : decode b_Jo_init 1 = .ok (.invokespecial 3, 3) := by decide +kernel
theorem d_Jo_init_4 : decode b_Jo_init 4 = .ok (.aload_n 0, 1) := by decide +kernel
theorem d_Jo_init_5 : decode b_Jo_init 5 = .ok (.bipush 16, 2) := by decide +kernel
theorem d_Jo_init_7 : decode b_Jo_init 7 = .ok (.anewarray 9, 3) := by decide +kernel
theorem d_Jo_init_10 : decode b_Jo_init 10 = .ok (.putfield 11, 3) := by decide +kernel
theorem d_Jo_init_13 : decode b_Jo_init 13 = .ok (.aload_n 0, 1) := by decide +kernel
theorem d_Jo_init_14 : decode b_Jo_init 14 = .ok (.new 17, 3) := by decide +kernel
theorem d_Jo_init_17 : decode b_Jo_init 17 = .ok (.dup, 1) := by decide +kernel
theorem d_Jo_init_18 : decode b_Jo_init 18 = .ok (.bipush 68, 2) := by decide +kernel
theorem d_Jo_init_20 : decode b_Jo_init 20 = .ok (.invokespecial 19, 3) := by decide +kernel
theorem d_Jo_init_23 : decode b_Jo_init 23 = .ok (.putfield 22, 3) := by decide +kernel
theorem d_Jo_init_26 : decode b_Jo_init 26 = .ok (.aload_n 0, 1) := by decide +kernel
theorem d_Jo_init_27 : decode b_Jo_init 27 = .ok (.iconst 4, 1) := by decide +kernel
theorem d_Jo_init_28 : decode b_Jo_init 28 = .ok (.anewarray 17, 3) := by decide +kernel
theorem d_Jo_init_31 : decode b_Jo_init 31 = .ok (.putfield 26, 3) := by decide +kernel
theorem d_Jo_init_34 : decode b_Jo_init 34 = .ok (.iconst 0, 1) := by decide +kernel
theorem d_Jo_init_35 : decode b_Jo_init 35 = .ok (.istore_n 1, 1) := by decide +kernel
theorem d_Jo_init_36 : decode b_Jo_init 36 = .ok (.iload_n 1, 1) := by decide +kernel
theorem d_Jo_init_37 : decode b_Jo_init 37 = .ok (.aload_n 0, 1) := by decide +kernel
theorem d_Jo_init_38 : decode b_Jo_init 38 = .ok (.getfield 11, 3) := by decide +kernel
theorem d_Jo_init_41 : decode b_Jo_init 41 = .ok (.arraylength, 1) := by decide +kernel
theorem d_Jo_init_42 : decode b_Jo_init 42 = .ok (.if_icmp .ge 22, 3) := by decide +kernel
theorem d_Jo_init_45 : decode b_Jo_init 45 = .ok (.aload_n 0, 1) := by decide +kernel
theorem d_Jo_init_46 : decode b_Jo_init 46 = .ok (.getfield 11, 3) := by decide +kernel
theorem d_Jo_init_49 : decode b_Jo_init 49 = .ok (.iload_n 1, 1) := by decide +kernel
theorem d_Jo_init_50 : decode b_Jo_init 50 = .ok (.new 9, 3) := by decide +kernel
theorem d_Jo_init_53 : decode b_Jo_init 53 = .ok (.dup, 1) := by decide +kernel
theorem d_Jo_init_54 : decode b_Jo_init 54 = .ok (.invokespecial 30, 3) := by decide +kernel
theorem d_Jo_init_57 : decode b_Jo_init 57 = .ok (.aastore, 1) := by decide +kernel
theorem d_Jo_init_58 : decode b_Jo_init 58 = .ok (.iinc 1 1, 3) := by decide +kernel
theorem d_Jo_init_61 : decode b_Jo_init 61 = .ok (.goto (-25), 3) := by decide +kernel
theorem d_Jo_init_64 : decode b_Jo_init 64 = .ok (.iconst 0, 1) := by decide +kernel
theorem d_Jo_init_65 : decode b_Jo_init 65 = .ok (.istore_n 1, 1) := by decide +kernel
theorem d_Jo_init_66 : decode b_Jo_init 66 = .ok (.iload_n 1, 1) := by decide +kernel
theorem d_Jo_init_67 : decode b_Jo_init 67 = .ok (.iconst 4, 1) := by decide +kernel
theorem d_Jo_init_68 : decode b_Jo_init 68 = .ok (.if_icmp .ge 24, 3) := by decide +kernel
theorem d_Jo_init_71 : decode b_Jo_init 71 = .ok (.aload_n 0, 1) := by decide +kernel
theorem d_Jo_init_72 : decode b_Jo_init 72 = .ok (.getfield 26, 3) := by decide +kernel
theorem d_Jo_init_75 : decode b_Jo_init 75 = .ok (.iload_n 1, 1) := by decide +kernel
theorem d_Jo_init_76 : decode b_Jo_init 76 = .ok (.new 17, 3) := by decide +kernel
theorem d_Jo_init_79 : decode b_Jo_init 79 = .ok (.dup, 1) := by decide +kernel
theorem d_Jo_init_80 : decode b_Jo_init 80 = .ok (.bipush 12, 2) := by decide +kernel
theorem d_Jo_init_82 : decode b_Jo_init 82 = .ok (.invokespecial 19, 3) := by decide +kernel
theorem d_Jo_init_85 : decode b_Jo_init 85 = .ok (.aastore, 1) := by decide +kernel
theorem d_Jo_init_86 : decode b_Jo_init 86 = .ok (.iinc 1 1, 3) := by decide +kernel
theorem d_Jo_init_89 : decode b_Jo_init 89 = .ok (.goto (-23), 3) := by decide +kernel
theorem d_Jo_init_92 : decode b_Jo_init 92 = .ok (.return_, 1) := by decide +kernel
theorem d_Jo_clear_0 : decode b_Jo_clear 0 = .ok (.aload_n 0, 1) := by decide +kernel
theorem d_Jo_clear_1 : decode b_Jo_clear 1 = .ok (.iconst 1, 1) := by decide +kernel
theorem d_Jo_clear_2 : decode b_Jo_clear 2 = .ok (.putfield 31, 3) := by decide +kernel
theorem d_Jo_clear_5 : decode b_Jo_clear 5 = .ok (.aload_n 0, 1) := by decide +kernel
theorem d_Jo_clear_6 : decode b_Jo_clear 6 = .ok (.iload_n 1, 1) := by decide +kernel
theorem d_Jo_clear_7 : decode b_Jo_clear 7 = .ok (.putfield 35, 3) := by decide +kernel
theorem d_Jo_clear_10 : decode b_Jo_clear 10 = .ok (.aload_n 0, 1) := by decide +kernel
theorem d_Jo_clear_11 : decode b_Jo_clear 11 = .ok (.iconst 0, 1) := by decide +kernel
theorem d_Jo_clear_12 : decode b_Jo_clear 12 = .ok (.putfield 39, 3) := by decide +kernel
theorem d_Jo_clear_15 : decode b_Jo_clear 15 = .ok (.aload_n 0, 1) := by decide +kernel
theorem d_Jo_clear_16 : decode b_Jo_clear 16 = .ok (.iconst 0, 1) := by decide +kernel
theorem d_Jo_clear_17 : decode b_Jo_clear 17 = .ok (.putfield 42, 3) := by decide +kernel
theorem d_Jo_clear_20 : decode b_Jo_clear 20 = .ok (.aload_n 0, 1) := by decide +kernel
theorem d_Jo_clear_21 : decode b_Jo_clear 21 = .ok (.iconst 0, 1) := by decide +kernel
theorem d_Jo_clear_22 : decode b_Jo_clear 22 = .ok (.putfield 45, 3) := by decide +kernel
theorem d_Jo_clear_25 : decode b_Jo_clear 25 = .ok (.aload_n 0, 1) := by decide +kernel
theorem d_Jo_clear_26 : decode b_Jo_clear 26 = .ok (.invokevirtual 48, 3) := by decide +kernel
theorem d_Jo_clear_29 : decode b_Jo_clear 29 = .ok (.return_, 1) := by decide +kernel
theorem d_Jo_forgetMessages_0 : decode b_Jo_forgetMessages 0 = .ok (.aload_n 0, 1) := by decide +kernel
theorem d_Jo_forgetMessages_1 : decode b_Jo_forgetMessages 1 = .ok (.getfield 22, 3) := by decide +kernel
theorem d_Jo_forgetMessages_4 : decode b_Jo_forgetMessages 4 = .ok (.iconst 0, 1) := by decide +kernel
theorem d_Jo_forgetMessages_5 : decode b_Jo_forgetMessages 5 = .ok (.putfield 51, 3) := by decide +kernel
theorem d_Jo_forgetMessages_8 : decode b_Jo_forgetMessages 8 = .ok (.iconst 0, 1) := by decide +kernel
theorem d_Jo_forgetMessages_9 : decode b_Jo_forgetMessages 9 = .ok (.istore_n 1, 1) := by decide +kernel
theorem d_Jo_forgetMessages_10 : decode b_Jo_forgetMessages 10 = .ok (.iload_n 1, 1) := by decide +kernel
theorem d_Jo_forgetMessages_11 : decode b_Jo_forgetMessages 11 = .ok (.iconst 4, 1) := by decide +kernel
theorem d_Jo_forgetMessages_12 : decode b_Jo_forgetMessages 12 = .ok (.if_icmp .ge 19, 3) := by decide +kernel
theorem d_Jo_forgetMessages_15 : decode b_Jo_forgetMessages 15 = .ok (.aload_n 0, 1) := by decide +kernel
theorem d_Jo_forgetMessages_16 : decode b_Jo_forgetMessages 16 = .ok (.getfield 26, 3) := by decide +kernel
theorem d_Jo_forgetMessages_19 : decode b_Jo_forgetMessages 19 = .ok (.iload_n 1, 1) := by decide +kernel
theorem d_Jo_forgetMessages_20 : decode b_Jo_forgetMessages 20 = .ok (.aaload, 1) := by decide +kernel
theorem d_Jo_forgetMessages_21 : decode b_Jo_forgetMessages 21 = .ok (.iconst 0, 1) := by decide +kernel
theorem d_Jo_forgetMessages_22 : decode b_Jo_forgetMessages 22 = .ok (.putfield 51, 3) := by decide +kernel
theorem d_Jo_forgetMessages_25 : decode b_Jo_forgetMessages 25 = .ok (.iinc 1 1, 3) := by decide +kernel
theorem d_Jo_forgetMessages_28 : decode b_Jo_forgetMessages 28 = .ok (.goto (-18), 3) := by decide +kernel
theorem d_Jo_forgetMessages_31 : decode b_Jo_forgetMessages 31 = .ok (.return_, 1) := by decide +kernel
theorem d_Jo_addTask_0 : decode b_Jo_addTask 0 = .ok (.aload_n 0, 1) := by decide +kernel
theorem d_Jo_addTask_1 : decode b_Jo_addTask 1 = .ok (.getfield 39, 3) := by decide +kernel
theorem d_Jo_addTask_4 : decode b_Jo_addTask 4 = .ok (.aload_n 0, 1) := by decide +kernel
theorem d_Jo_addTask_5 : decode b_Jo_addTask 5 = .ok (.getfield 11, 3) := by decide +kernel
theorem d_Jo_addTask_8 : decode b_Jo_addTask 8 = .ok (.arraylength, 1) := by decide +kernel
theorem d_Jo_addTask_9 : decode b_Jo_addTask 9 = .ok (.if_icmp .ge 38, 3) := by decide +kernel
theorem d_Jo_addTask_12 : decode b_Jo_addTask 12 = .ok (.aload_n 0, 1) := by decide +kernel
theorem d_Jo_addTask_13 : decode b_Jo_addTask 13 = .ok (.getfield 11, 3) := by decide +kernel
theorem d_Jo_addTask_16 : decode b_Jo_addTask 16 = .ok (.aload_n 0, 1) := by decide +kernel
theorem d_Jo_addTask_17 : decode b_Jo_addTask 17 = .ok (.getfield 39, 3) := by decide +kernel
theorem d_Jo_addTask_20 : decode b_Jo_addTask 20 = .ok (.aaload, 1) := by decide +kernel
theorem d_Jo_addTask_21 : decode b_Jo_addTask 21 = .ok (.iload_n 1, 1) := by decide +kernel
theorem d_Jo_addTask_22 : decode b_Jo_addTask 22 = .ok (.iload_n 2, 1) := by decide +kernel
theorem d_Jo_addTask_23 : decode b_Jo_addTask 23 = .ok (.iload_n 3, 1) := by decide +kernel
theorem d_Jo_addTask_24 : decode b_Jo_addTask 24 = .ok (.invokevirtual 54, 3) := by decide +kernel
theorem d_Jo_addTask_27 : decode b_Jo_addTask 27 = .ok (.aload_n 0, 1) := by decide +kernel
theorem d_Jo_addTask_28 : decode b_Jo_addTask 28 = .ok (.dup, 1) := by decide +kernel
theorem d_Jo_addTask_29 : decode b_Jo_addTask 29 = .ok (.getfield 39, 3) := by decide +kernel
theorem d_Jo_addTask_32 : decode b_Jo_addTask 32 = .ok (.iconst 1, 1) := by decide +kernel
theorem d_Jo_addTask_33 : decode b_Jo_addTask 33 = .ok (.iadd, 1) := by decide +kernel
theorem d_Jo_addTask_34 : decode b_Jo_addTask 34 = .ok (.putfield 39, 3) := by decide +kernel
theorem d_Jo_addTask_37 : decode b_Jo_addTask 37 = .ok (.aload_n 0, 1) := by decide +kernel
theorem d_Jo_addTask_38 : decode b_Jo_addTask 38 = .ok (.dup, 1) := by decide +kernel
theorem d_Jo_addTask_39 : decode b_Jo_addTask 39 = .ok (.getfield 42, 3) := by decide +kernel
theorem d_Jo_addTask_42 : decode b_Jo_addTask 42 = .ok (.iconst 1, 1) := by decide +kernel
theorem d_Jo_addTask_43 : decode b_Jo_addTask 43 = .ok (.iadd, 1) := by decide +kernel
theorem d_Jo_addTask_44 : decode b_Jo_addTask 44 = .ok (.putfield 42, 3) := by decide +kernel
theorem d_Jo_addTask_47 : decode b_Jo_addTask 47 = .ok (.return_, 1) := by decide +kernel
theorem d_Jo_sendReady_0 : decode b_Jo_sendReady 0 = .ok (.iconst 0, 1) := by decide +kernel
theorem d_Jo_sendReady_1 : decode b_Jo_sendReady 1 = .ok (.istore_n 1, 1) := by decide +kernel
theorem d_Jo_sendReady_2 : decode b_Jo_sendReady 2 = .ok (.iload_n 1, 1) := by decide +kernel
theorem d_Jo_sendReady_3 : decode b_Jo_sendReady 3 = .ok (.aload_n 0, 1) := by decide +kernel
theorem d_Jo_sendReady_4 : decode b_Jo_sendReady 4 = .ok (.getfield 39, 3) := by decide +kernel
theorem d_Jo_sendReady_7 : decode b_Jo_sendReady 7 = .ok (.if_icmp .ge 42, 3) := by decide +kernel
theorem d_Jo_sendReady_10 : decode b_Jo_sendReady 10 = .ok (.aload_n 0, 1) := by decide +kernel
theorem d_Jo_sendReady_11 : decode b_Jo_sendReady 11 = .ok (.getfield 11, 3) := by decide +kernel
theorem d_Jo_sendReady_14 : decode b_Jo_sendReady 14 = .ok (.iload_n 1, 1) := by decide +kernel
theorem d_Jo_sendReady_15 : decode b_Jo_sendReady 15 = .ok (.aaload, 1) := by decide +kernel
theorem d_Jo_sendReady_16 : decode b_Jo_sendReady 16 = .ok (.getfield 58, 3) := by decide +kernel
theorem d_Jo_sendReady_19 : decode b_Jo_sendReady 19 = .ok (.ifCond .ne 24, 3) := by decide +kernel
theorem d_Jo_sendReady_22 : decode b_Jo_sendReady 22 = .ok (.aload_n 0, 1) := by decide +kernel
theorem d_Jo_sendReady_23 : decode b_Jo_sendReady 23 = .ok (.aload_n 0, 1) := by decide +kernel
theorem d_Jo_sendReady_24 : decode b_Jo_sendReady 24 = .ok (.getfield 11, 3) := by decide +kernel
theorem d_Jo_sendReady_27 : decode b_Jo_sendReady 27 = .ok (.iload_n 1, 1) := by decide +kernel
theorem d_Jo_sendReady_28 : decode b_Jo_sendReady 28 = .ok (.aaload, 1) := by decide +kernel
theorem d_Jo_sendReady_29 : decode b_Jo_sendReady 29 = .ok (.getfield 61, 3) := by decide +kernel
theorem d_Jo_sendReady_32 : decode b_Jo_sendReady 32 = .ok (.invokevirtual 64, 3) := by decide +kernel
theorem d_Jo_sendReady_35 : decode b_Jo_sendReady 35 = .ok (.ifCond .eq 8, 3) := by decide +kernel
theorem d_Jo_sendReady_38 : decode b_Jo_sendReady 38 = .ok (.aload_n 0, 1) := by decide +kernel
theorem d_Jo_sendReady_39 : decode b_Jo_sendReady 39 = .ok (.iload_n 1, 1) := by decide +kernel
theorem d_Jo_sendReady_40 : decode b_Jo_sendReady 40 = .ok (.invokevirtual 68, 3) := by decide +kernel
theorem d_Jo_sendReady_43 : decode b_Jo_sendReady 43 = .ok (.iinc 1 1, 3) := by decide +kernel
theorem d_Jo_sendReady_46 : decode b_Jo_sendReady 46 = .ok (.goto (-44), 3) := by decide +kernel
theorem d_Jo_sendReady_49 : decode b_Jo_sendReady 49 = .ok (.return_, 1) := by decide +kernel
theorem d_Jo_isReady_0 : decode b_Jo_isReady 0 = .ok (.iload_n 1, 1) := by decide +kernel
theorem d_Jo_isReady_1 : decode b_Jo_isReady 1 = .ok (.ifCond .eq 8, 3) := by decide +kernel
theorem d_Jo_isReady_4 : decode b_Jo_isReady 4 = .ok (.iload_n 1, 1) := by decide +kernel
theorem d_Jo_isReady_5 : decode b_Jo_isReady 5 = .ok (.iconst 1, 1) := by decide +kernel
theorem d_Jo_isReady_6 : decode b_Jo_isReady 6 = .ok (.if_icmp .ne 5, 3) := by decide +kernel
theorem d_Jo_isReady_9 : decode b_Jo_isReady 9 = .ok (.iconst 1, 1) := by decide +kernel
theorem d_Jo_isReady_10 : decode b_Jo_isReady 10 = .ok (.ireturn, 1) := by decide +kernel
theorem d_Jo_isReady_11 : decode b_Jo_isReady 11 = .ok (.iconst 0, 1) := by decide +kernel
theorem d_Jo_isReady_12 : decode b_Jo_isReady 12 = .ok (.istore_n 2, 1) := by decide +kernel
theorem d_Jo_isReady_13 : decode b_Jo_isReady 13 = .ok (.iload_n 2, 1) := by decide +kernel
theorem d_Jo_isReady_14 : decode b_Jo_isReady 14 = .ok (.aload_n 0, 1) := by decide +kernel
theorem d_Jo_isReady_15 : decode b_Jo_isReady 15 = .ok (.getfield 39, 3) := by decide +kernel
theorem d_Jo_isReady_18 : decode b_Jo_isReady 18 = .ok (.if_icmp .ge 36, 3) := by decide +kernel
theorem d_Jo_isReady_21 : decode b_Jo_isReady 21 = .ok (.aload_n 0, 1) := by decide +kernel
theorem d_Jo_isReady_22 : decode b_Jo_isReady 22 = .ok (.getfield 11, 3) := by decide +kernel
theorem d_Jo_isReady_25 : decode b_Jo_isReady 25 = .ok (.iload_n 2, 1) := by decide +kernel
theorem d_Jo_isReady_26 : decode b_Jo_isReady 26 = .ok (.aaload, 1) := by decide +kernel
theorem d_Jo_isReady_27 : decode b_Jo_isReady 27 = .ok (.getfield 61, 3) := by decide +kernel
theorem d_Jo_isReady_30 : decode b_Jo_isReady 30 = .ok (.iload_n 1, 1) := by decide +kernel
theorem d_Jo_isReady_31 : decode b_Jo_isReady 31 = .ok (.if_icmp .ge 17, 3) := by decide +kernel
theorem d_Jo_isReady_34 : decode b_Jo_isReady 34 = .ok (.aload_n 0, 1) := by decide +kernel
theorem d_Jo_isReady_35 : decode b_Jo_isReady 35 = .ok (.getfield 11, 3) := by decide +kernel
theorem d_Jo_isReady_38 : decode b_Jo_isReady 38 = .ok (.iload_n 2, 1) := by decide +kernel
theorem d_Jo_isReady_39 : decode b_Jo_isReady 39 = .ok (.aaload, 1) := by decide +kernel
theorem d_Jo_isReady_40 : decode b_Jo_isReady 40 = .ok (.getfield 71, 3) := by decide +kernel
theorem d_Jo_isReady_43 : decode b_Jo_isReady 43 = .ok (.ifCond .ne 5, 3) := by decide +kernel
theorem d_Jo_isReady_46 : decode b_Jo_isReady 46 = .ok (.iconst 0, 1) := by decide +kernel
theorem d_Jo_isReady_47 : decode b_Jo_isReady 47 = .ok (.ireturn, 1) := by decide +kernel
theorem d_Jo_isReady_48 : decode b_Jo_isReady 48 = .ok (.iinc 2 1, 3) := by decide +kernel
theorem d_Jo_isReady_51 : decode b_Jo_isReady 51 = .ok (.goto (-38), 3) := by decide +kernel
theorem d_Jo_isReady_54 : decode b_Jo_isReady 54 = .ok (.iconst 1, 1) := by decide +kernel
theorem d_Jo_isReady_55 : decode b_Jo_isReady 55 = .ok (.ireturn, 1) := by decide +kernel
theorem d_Jo_sendRun_0 : decode b_Jo_sendRun 0 = .ok (.aload_n 0, 1) := by decide +kernel
theorem d_Jo_sendRun_1 : decode b_Jo_sendRun 1 = .ok (.getfield 22, 3) := by decide +kernel
theorem d_Jo_sendRun_4 : decode b_Jo_sendRun 4 = .ok (.iconst 0, 1) := by decide +kernel
theorem d_Jo_sendRun_5 : decode b_Jo_sendRun 5 = .ok (.iload_n 1, 1) := by decide +kernel
theorem d_Jo_sendRun_6 : decode b_Jo_sendRun 6 = .ok (.aload_n 0, 1) := by decide +kernel
theorem d_Jo_sendRun_7 : decode b_Jo_sendRun 7 = .ok (.getfield 11, 3) := by decide +kernel
theorem d_Jo_sendRun_10 : decode b_Jo_sendRun 10 = .ok (.iload_n 1, 1) := by decide +kernel
theorem d_Jo_sendRun_11 : decode b_Jo_sendRun 11 = .ok (.aaload, 1) := by decide +kernel
theorem d_Jo_sendRun_12 : decode b_Jo_sendRun 12 = .ok (.getfield 58, 3) := by decide +kernel
theorem d_Jo_sendRun_15 : decode b_Jo_sendRun 15 = .ok (.invokevirtual 74, 3) := by decide +kernel
theorem d_Jo_sendRun_18 : decode b_Jo_sendRun 18 = .ok (.pop, 1) := by decide +kernel
theorem d_Jo_sendRun_19 : decode b_Jo_sendRun 19 = .ok (.aload_n 0, 1) := by decide +kernel
theorem d_Jo_sendRun_20 : decode b_Jo_sendRun 20 = .ok (.getfield 11, 3) := by decide +kernel
theorem d_Jo_sendRun_23 : decode b_Jo_sendRun 23 = .ok (.iload_n 1, 1) := by decide +kernel
theorem d_Jo_sendRun_24 : decode b_Jo_sendRun 24 = .ok (.aaload, 1) := by decide +kernel
theorem d_Jo_sendRun_25 : decode b_Jo_sendRun 25 = .ok (.dup, 1) := by decide +kernel
theorem d_Jo_sendRun_26 : decode b_Jo_sendRun 26 = .ok (.getfield 58, 3) := by decide +kernel
theorem d_Jo_sendRun_29 : decode b_Jo_sendRun 29 = .ok (.iconst 1, 1) := by decide +kernel
theorem d_Jo_sendRun_30 : decode b_Jo_sendRun 30 = .ok (.iadd, 1) := by decide +kernel
theorem d_Jo_sendRun_31 : decode b_Jo_sendRun 31 = .ok (.putfield 58, 3) := by decide +kernel
theorem d_Jo_sendRun_34 : decode b_Jo_sendRun 34 = .ok (.aload_n 0, 1) := by decide +kernel
theorem d_Jo_sendRun_35 : decode b_Jo_sendRun 35 = .ok (.getfield 11, 3) := by decide +kernel
theorem d_Jo_sendRun_38 : decode b_Jo_sendRun 38 = .ok (.iload_n 1, 1) := by decide +kernel
theorem d_Jo_sendRun_39 : decode b_Jo_sendRun 39 = .ok (.aaload, 1) := by decide +kernel
theorem d_Jo_sendRun_40 : decode b_Jo_sendRun 40 = .ok (.aload_n 0, 1) := by decide +kernel
theorem d_Jo_sendRun_41 : decode b_Jo_sendRun 41 = .ok (.getfield 78, 3) := by decide +kernel
theorem d_Jo_sendRun_44 : decode b_Jo_sendRun 44 = .ok (.putfield 81, 3) := by decide +kernel
theorem d_Jo_sendRun_47 : decode b_Jo_sendRun 47 = .ok (.return_, 1) := by decide +kernel
theorem d_Jo_workerOf_0 : decode b_Jo_workerOf 0 = .ok (.aload_n 0, 1) := by decide +kernel
theorem d_Jo_workerOf_1 : decode b_Jo_workerOf 1 = .ok (.getfield 35, 3) := by decide +kernel
theorem d_Jo_workerOf_4 : decode b_Jo_workerOf 4 = .ok (.iconst 1, 1) := by decide +kernel
theorem d_Jo_workerOf_5 : decode b_Jo_workerOf 5 = .ok (.if_icmp .ge 7, 3) := by decide +kernel
theorem d_Jo_workerOf_8 : decode b_Jo_workerOf 8 = .ok (.iconst 0, 1) := by decide +kernel
theorem d_Jo_workerOf_9 : decode b_Jo_workerOf 9 = .ok (.goto 21, 3) := by decide +kernel
theorem d_Jo_workerOf_12 : decode b_Jo_workerOf 12 = .ok (.aload_n 0, 1) := by decide +kernel
theorem d_Jo_workerOf_13 : decode b_Jo_workerOf 13 = .ok (.getfield 11, 3) := by decide +kernel
theorem d_Jo_workerOf_16 : decode b_Jo_workerOf 16 = .ok (.iload_n 1, 1) := by decide +kernel
theorem d_Jo_workerOf_17 : decode b_Jo_workerOf 17 = .ok (.aaload, 1) := by decide +kernel
theorem d_Jo_workerOf_18 : decode b_Jo_workerOf 18 = .ok (.getfield 84, 3) := by decide +kernel
theorem d_Jo_workerOf_21 : decode b_Jo_workerOf 21 = .ok (.iload_n 2, 1) := by decide +kernel
theorem d_Jo_workerOf_22 : decode b_Jo_workerOf 22 = .ok (.iadd, 1) := by decide +kernel
theorem d_Jo_workerOf_23 : decode b_Jo_workerOf 23 = .ok (.aload_n 0, 1) := by decide +kernel
theorem d_Jo_workerOf_24 : decode b_Jo_workerOf 24 = .ok (.getfield 35, 3) := by decide +kernel
theorem d_Jo_workerOf_27 : decode b_Jo_workerOf 27 = .ok (.invokestatic 87, 3) := by decide +kernel
theorem d_Jo_workerOf_30 : decode b_Jo_workerOf 30 = .ok (.ireturn, 1) := by decide +kernel
theorem d_Jo_deliver_0 : decode b_Jo_deliver 0 = .ok (.aload_n 0, 1) := by decide +kernel
theorem d_Jo_deliver_1 : decode b_Jo_deliver 1 = .ok (.getfield 22, 3) := by decide +kernel
theorem d_Jo_deliver_4 : decode b_Jo_deliver 4 = .ok (.getfield 93, 3) := by decide +kernel
theorem d_Jo_deliver_7 : decode b_Jo_deliver 7 = .ok (.iload_n 1, 1) := by decide +kernel
theorem d_Jo_deliver_8 : decode b_Jo_deliver 8 = .ok (.iaload, 1) := by decide +kernel
theorem d_Jo_deliver_9 : decode b_Jo_deliver 9 = .ok (.istore_n 2, 1) := by decide +kernel
theorem d_Jo_deliver_10 : decode b_Jo_deliver 10 = .ok (.aload_n 0, 1) := by decide +kernel
theorem d_Jo_deliver_11 : decode b_Jo_deliver 11 = .ok (.getfield 22, 3) := by decide +kernel
theorem d_Jo_deliver_14 : decode b_Jo_deliver 14 = .ok (.getfield 97, 3) := by decide +kernel
theorem d_Jo_deliver_17 : decode b_Jo_deliver 17 = .ok (.iload_n 1, 1) := by decide +kernel
theorem d_Jo_deliver_18 : decode b_Jo_deliver 18 = .ok (.iaload, 1) := by decide +kernel
theorem d_Jo_deliver_19 : decode b_Jo_deliver 19 = .ok (.istore_n 3, 1) := by decide +kernel
theorem d_Jo_deliver_20 : decode b_Jo_deliver 20 = .ok (.aload_n 0, 1) := by decide +kernel
theorem d_Jo_deliver_21 : decode b_Jo_deliver 21 = .ok (.getfield 22, 3) := by decide +kernel
theorem d_Jo_deliver_24 : decode b_Jo_deliver 24 = .ok (.getfield 99, 3) := by decide +kernel
theorem d_Jo_deliver_27 : decode b_Jo_deliver 27 = .ok (.iload_n 1, 1) := by decide +kernel
theorem d_Jo_deliver_28 : decode b_Jo_deliver 28 = .ok (.iaload, 1) := by decide +kernel
theorem d_Jo_deliver_29 : decode b_Jo_deliver 29 = .ok (.istore 4, 2) := by decide +kernel
theorem d_Jo_deliver_31 : decode b_Jo_deliver 31 = .ok (.aload_n 0, 1) := by decide +kernel
theorem d_Jo_deliver_32 : decode b_Jo_deliver 32 = .ok (.getfield 22, 3) := by decide +kernel
theorem d_Jo_deliver_35 : decode b_Jo_deliver 35 = .ok (.iload_n 1, 1) := by decide +kernel
theorem d_Jo_deliver_36 : decode b_Jo_deliver 36 = .ok (.invokevirtual 101, 3) := by decide +kernel
theorem d_Jo_deliver_39 : decode b_Jo_deliver 39 = .ok (.iload_n 2, 1) := by decide +kernel
theorem d_Jo_deliver_40 : decode b_Jo_deliver 40 = .ok (.ifCond .ne 31, 3) := by decide +kernel
theorem d_Jo_deliver_43 : decode b_Jo_deliver 43 = .ok (.aload_n 0, 1) := by decide +kernel
theorem d_Jo_deliver_44 : decode b_Jo_deliver 44 = .ok (.getfield 26, 3) := by decide +kernel
theorem d_Jo_deliver_47 : decode b_Jo_deliver 47 = .ok (.aload_n 0, 1) := by decide +kernel
theorem d_Jo_deliver_48 : decode b_Jo_deliver 48 = .ok (.iload_n 3, 1) := by decide +kernel
theorem d_Jo_deliver_49 : decode b_Jo_deliver 49 = .ok (.iload 4, 2) := by decide +kernel
theorem d_Jo_deliver_51 : decode b_Jo_deliver 51 = .ok (.invokevirtual 104, 3) := by decide +kernel
theorem d_Jo_deliver_54 : decode b_Jo_deliver 54 = .ok (.aaload, 1) := by decide +kernel
theorem d_Jo_deliver_55 : decode b_Jo_deliver 55 = .ok (.iconst 0, 1) := by decide +kernel
theorem d_Jo_deliver_56 : decode b_Jo_deliver 56 = .ok (.iload_n 3, 1) := by decide +kernel
theorem d_Jo_deliver_57 : decode b_Jo_deliver 57 = .ok (.iload 4, 2) := by decide +kernel
theorem d_Jo_deliver_59 : decode b_Jo_deliver 59 = .ok (.invokevirtual 74, 3) := by decide +kernel
theorem d_Jo_deliver_62 : decode b_Jo_deliver 62 = .ok (.ifCond .eq 7, 3) := by decide +kernel
theorem d_Jo_deliver_65 : decode b_Jo_deliver 65 = .ok (.iconst 1, 1) := by decide +kernel
theorem d_Jo_deliver_66 : decode b_Jo_deliver 66 = .ok (.goto 4, 3) := by decide +kernel
theorem d_Jo_deliver_69 : decode b_Jo_deliver 69 = .ok (.iconst 0, 1) := by decide +kernel
theorem d_Jo_deliver_70 : decode b_Jo_deliver 70 = .ok (.ireturn, 1) := by decide +kernel
theorem d_Jo_deliver_71 : decode b_Jo_deliver 71 = .ok (.aload_n 0, 1) := by decide +kernel
theorem d_Jo_deliver_72 : decode b_Jo_deliver 72 = .ok (.getfield 11, 3) := by decide +kernel
theorem d_Jo_deliver_75 : decode b_Jo_deliver 75 = .ok (.iload_n 3, 1) := by decide +kernel
theorem d_Jo_deliver_76 : decode b_Jo_deliver 76 = .ok (.aaload, 1) := by decide +kernel
theorem d_Jo_deliver_77 : decode b_Jo_deliver 77 = .ok (.getfield 71, 3) := by decide +kernel
theorem d_Jo_deliver_80 : decode b_Jo_deliver 80 = .ok (.ifCond .eq 15, 3) := by decide +kernel
theorem d_Jo_deliver_83 : decode b_Jo_deliver 83 = .ok (.aload_n 0, 1) := by decide +kernel
theorem d_Jo_deliver_84 : decode b_Jo_deliver 84 = .ok (.dup, 1) := by decide +kernel
theorem d_Jo_deliver_85 : decode b_Jo_deliver 85 = .ok (.getfield 45, 3) := by decide +kernel
theorem d_Jo_deliver_88 : decode b_Jo_deliver 88 = .ok (.iconst 1, 1) := by decide +kernel
theorem d_Jo_deliver_89 : decode b_Jo_deliver 89 = .ok (.iadd, 1) := by decide +kernel
theorem d_Jo_deliver_90 : decode b_Jo_deliver 90 = .ok (.putfield 45, 3) := by decide +kernel
theorem d_Jo_deliver_93 : decode b_Jo_deliver 93 = .ok (.iconst 0, 1) := by decide +kernel
theorem d_Jo_deliver_94 : decode b_Jo_deliver 94 = .ok (.ireturn, 1) := by decide +kernel
theorem d_Jo_deliver_95 : decode b_Jo_deliver 95 = .ok (.aload_n 0, 1) := by decide +kernel
theorem d_Jo_deliver_96 : decode b_Jo_deliver 96 = .ok (.iload_n 3, 1) := by decide +kernel
theorem d_Jo_deliver_97 : decode b_Jo_deliver 97 = .ok (.invokevirtual 107, 3) := by decide +kernel
theorem d_Jo_deliver_100 : decode b_Jo_deliver 100 = .ok (.iconst 1, 1) := by decide +kernel
theorem d_Jo_deliver_101 : decode b_Jo_deliver 101 = .ok (.ireturn, 1) := by decide +kernel
theorem d_Jo_finish_0 : decode b_Jo_finish 0 = .ok (.aload_n 0, 1) := by decide +kernel
theorem d_Jo_finish_1 : decode b_Jo_finish 1 = .ok (.getfield 11, 3) := by decide +kernel
theorem d_Jo_finish_4 : decode b_Jo_finish 4 = .ok (.iload_n 1, 1) := by decide +kernel
theorem d_Jo_finish_5 : decode b_Jo_finish 5 = .ok (.aaload, 1) := by decide +kernel
theorem d_Jo_finish_6 : decode b_Jo_finish 6 = .ok (.iconst 1, 1) := by decide +kernel
theorem d_Jo_finish_7 : decode b_Jo_finish 7 = .ok (.putfield 71, 3) := by decide +kernel
theorem d_Jo_finish_10 : decode b_Jo_finish 10 = .ok (.aload_n 0, 1) := by decide +kernel
theorem d_Jo_finish_11 : decode b_Jo_finish 11 = .ok (.dup, 1) := by decide +kernel
theorem d_Jo_finish_12 : decode b_Jo_finish 12 = .ok (.getfield 42, 3) := by decide +kernel
theorem d_Jo_finish_15 : decode b_Jo_finish 15 = .ok (.iconst 1, 1) := by decide +kernel
theorem d_Jo_finish_16 : decode b_Jo_finish 16 = .ok (.isub, 1) := by decide +kernel
theorem d_Jo_finish_17 : decode b_Jo_finish 17 = .ok (.putfield 42, 3) := by decide +kernel
theorem d_Jo_finish_20 : decode b_Jo_finish 20 = .ok (.aload_n 0, 1) := by decide +kernel
theorem d_Jo_finish_21 : decode b_Jo_finish 21 = .ok (.getfield 42, 3) := by decide +kernel
theorem d_Jo_finish_24 : decode b_Jo_finish 24 = .ok (.ifCond .ne 15, 3) := by decide +kernel
theorem d_Jo_finish_27 : decode b_Jo_finish 27 = .ok (.aload_n 0, 1) := by decide +kernel
theorem d_Jo_finish_28 : decode b_Jo_finish 28 = .ok (.iconst 0, 1) := by decide +kernel
theorem d_Jo_finish_29 : decode b_Jo_finish 29 = .ok (.putfield 31, 3) := by decide +kernel
theorem d_Jo_finish_32 : decode b_Jo_finish 32 = .ok (.aload_n 0, 1) := by decide +kernel
theorem d_Jo_finish_33 : decode b_Jo_finish 33 = .ok (.invokevirtual 48, 3) := by decide +kernel
theorem d_Jo_finish_36 : decode b_Jo_finish 36 = .ok (.goto 7, 3) := by decide +kernel
theorem d_Jo_finish_39 : decode b_Jo_finish 39 = .ok (.aload_n 0, 1) := by decide +kernel
theorem d_Jo_finish_40 : decode b_Jo_finish 40 = .ok (.invokevirtual 110, 3) := by decide +kernel
theorem d_Jo_finish_43 : decode b_Jo_finish 43 = .ok (.return_, 1) := by decide +kernel
theorem d_Jo_repeat_0 : decode b_Jo_repeat 0 = .ok (.aload_n 0, 1) := by decide +kernel
theorem d_Jo_repeat_1 : decode b_Jo_repeat 1 = .ok (.getfield 22, 3) := by decide +kernel
theorem d_Jo_repeat_4 : decode b_Jo_repeat 4 = .ok (.getfield 51, 3) := by decide +kernel
theorem d_Jo_repeat_7 : decode b_Jo_repeat 7 = .ok (.bipush 60, 2) := by decide +kernel
theorem d_Jo_repeat_9 : decode b_Jo_repeat 9 = .ok (.if_icmp .lt 6, 3) := by decide +kernel
theorem d_Jo_repeat_12 : decode b_Jo_repeat 12 = .ok (.bipush (-2), 2) := by decide +kernel
theorem d_Jo_repeat_14 : decode b_Jo_repeat 14 = .ok (.ireturn, 1) := by decide +kernel
theorem d_Jo_repeat_15 : decode b_Jo_repeat 15 = .ok (.aload_n 0, 1) := by decide +kernel
theorem d_Jo_repeat_16 : decode b_Jo_repeat 16 = .ok (.getfield 22, 3) := by decide +kernel
theorem d_Jo_repeat_19 : decode b_Jo_repeat 19 = .ok (.aload_n 0, 1) := by decide +kernel
theorem d_Jo_repeat_20 : decode b_Jo_repeat 20 = .ok (.getfield 22, 3) := by decide +kernel
theorem d_Jo_repeat_23 : decode b_Jo_repeat 23 = .ok (.getfield 93, 3) := by decide +kernel
theorem d_Jo_repeat_26 : decode b_Jo_repeat 26 = .ok (.iload_n 1, 1) := by decide +kernel
theorem d_Jo_repeat_27 : decode b_Jo_repeat 27 = .ok (.iaload, 1) := by decide +kernel
theorem d_Jo_repeat_28 : decode b_Jo_repeat 28 = .ok (.aload_n 0, 1) := by decide +kernel
theorem d_Jo_repeat_29 : decode b_Jo_repeat 29 = .ok (.getfield 22, 3) := by decide +kernel
theorem d_Jo_repeat_32 : decode b_Jo_repeat 32 = .ok (.getfield 97, 3) := by decide +kernel
theorem d_Jo_repeat_35 : decode b_Jo_repeat 35 = .ok (.iload_n 1, 1) := by decide +kernel
theorem d_Jo_repeat_36 : decode b_Jo_repeat 36 = .ok (.iaload, 1) := by decide +kernel
theorem d_Jo_repeat_37 : decode b_Jo_repeat 37 = .ok (.aload_n 0, 1) := by decide +kernel
theorem d_Jo_repeat_38 : decode b_Jo_repeat 38 = .ok (.getfield 22, 3) := by decide +kernel
theorem d_Jo_repeat_41 : decode b_Jo_repeat 41 = .ok (.getfield 99, 3) := by decide +kernel
theorem d_Jo_repeat_44 : decode b_Jo_repeat 44 = .ok (.iload_n 1, 1) := by decide +kernel
theorem d_Jo_repeat_45 : decode b_Jo_repeat 45 = .ok (.iaload, 1) := by decide +kernel
theorem d_Jo_repeat_46 : decode b_Jo_repeat 46 = .ok (.invokevirtual 74, 3) := by decide +kernel
theorem d_Jo_repeat_49 : decode b_Jo_repeat 49 = .ok (.pop, 1) := by decide +kernel
theorem d_Jo_repeat_50 : decode b_Jo_repeat 50 = .ok (.iconst 1, 1) := by decide +kernel
theorem d_Jo_repeat_51 : decode b_Jo_repeat 51 = .ok (.ireturn, 1) := by decide +kernel
theorem d_Jo_workOff_0 : decode b_Jo_workOff 0 = .ok (.aload_n 1, 1) := by decide +kernel
theorem d_Jo_workOff_1 : decode b_Jo_workOff 1 = .ok (.getfield 51, 3) := by decide +kernel
theorem d_Jo_workOff_4 : decode b_Jo_workOff 4 = .ok (.ifCond .ne 5, 3) := by decide +kernel
theorem d_Jo_workOff_7 : decode b_Jo_workOff 7 = .ok (.iconst (-1), 1) := by decide +kernel
theorem d_Jo_workOff_8 : decode b_Jo_workOff 8 = .ok (.ireturn, 1) := by decide +kernel
theorem d_Jo_workOff_9 : decode b_Jo_workOff 9 = .ok (.aload_n 0, 1) := by decide +kernel
theorem d_Jo_workOff_10 : decode b_Jo_workOff 10 = .ok (.getfield 22, 3) := by decide +kernel
theorem d_Jo_workOff_13 : decode b_Jo_workOff 13 = .ok (.getfield 51, 3) := by decide +kernel
theorem d_Jo_workOff_16 : decode b_Jo_workOff 16 = .ok (.bipush 60, 2) := by decide +kernel
theorem d_Jo_workOff_18 : decode b_Jo_workOff 18 = .ok (.if_icmp .lt 6, 3) := by decide +kernel
theorem d_Jo_workOff_21 : decode b_Jo_workOff 21 = .ok (.bipush (-2), 2) := by decide +kernel
theorem d_Jo_workOff_23 : decode b_Jo_workOff 23 = .ok (.ireturn, 1) := by decide +kernel
theorem d_Jo_workOff_24 : decode b_Jo_workOff 24 = .ok (.aload_n 1, 1) := by decide +kernel
theorem d_Jo_workOff_25 : decode b_Jo_workOff 25 = .ok (.getfield 97, 3) := by decide +kernel
theorem d_Jo_workOff_28 : decode b_Jo_workOff 28 = .ok (.iconst 0, 1) := by decide +kernel
theorem d_Jo_workOff_29 : decode b_Jo_workOff 29 = .ok (.iaload, 1) := by decide +kernel
theorem d_Jo_workOff_30 : decode b_Jo_workOff 30 = .ok (.istore_n 2, 1) := by decide +kernel
theorem d_Jo_workOff_31 : decode b_Jo_workOff 31 = .ok (.aload_n 0, 1) := by decide +kernel
theorem d_Jo_workOff_32 : decode b_Jo_workOff 32 = .ok (.getfield 22, 3) := by decide +kernel
theorem d_Jo_workOff_35 : decode b_Jo_workOff 35 = .ok (.iconst 1, 1) := by decide +kernel
theorem d_Jo_workOff_36 : decode b_Jo_workOff 36 = .ok (.iload_n 2, 1) := by decide +kernel
theorem d_Jo_workOff_37 : decode b_Jo_workOff 37 = .ok (.aload_n 1, 1) := by decide +kernel
theorem d_Jo_workOff_38 : decode b_Jo_workOff 38 = .ok (.getfield 99, 3) := by decide +kernel
theorem d_Jo_workOff_41 : decode b_Jo_workOff 41 = .ok (.iconst 0, 1) := by decide +kernel
theorem d_Jo_workOff_42 : decode b_Jo_workOff 42 = .ok (.iaload, 1) := by decide +kernel
theorem d_Jo_workOff_43 : decode b_Jo_workOff 43 = .ok (.invokevirtual 74, 3) := by decide +kernel
theorem d_Jo_workOff_46 : decode b_Jo_workOff 46 = .ok (.pop, 1) := by decide +kernel
theorem d_Jo_workOff_47 : decode b_Jo_workOff 47 = .ok (.aload_n 1, 1) := by decide +kernel
theorem d_Jo_workOff_48 : decode b_Jo_workOff 48 = .ok (.iconst 0, 1) := by decide +kernel
theorem d_Jo_workOff_49 : decode b_Jo_workOff 49 = .ok (.invokevirtual 101, 3) := by decide +kernel
theorem d_Jo_workOff_52 : decode b_Jo_workOff 52 = .ok (.iload_n 2, 1) := by decide +kernel
theorem d_Jo_workOff_53 : decode b_Jo_workOff 53 = .ok (.ireturn, 1) := by decide +kernel
theorem d_Jo_sendAgain_0 : decode b_Jo_sendAgain 0 = .ok (.aload_n 0, 1) := by decide +kernel
theorem d_Jo_sendAgain_1 : decode b_Jo_sendAgain 1 = .ok (.dup, 1) := by decide +kernel
theorem d_Jo_sendAgain_2 : decode b_Jo_sendAgain 2 = .ok (.getfield 78, 3) := by decide +kernel
theorem d_Jo_sendAgain_5 : decode b_Jo_sendAgain 5 = .ok (.iconst 1, 1) := by decide +kernel
theorem d_Jo_sendAgain_6 : decode b_Jo_sendAgain 6 = .ok (.iadd, 1) := by decide +kernel
theorem d_Jo_sendAgain_7 : decode b_Jo_sendAgain 7 = .ok (.putfield 78, 3) := by decide +kernel
theorem d_Jo_sendAgain_10 : decode b_Jo_sendAgain 10 = .ok (.iconst 0, 1) := by decide +kernel
theorem d_Jo_sendAgain_11 : decode b_Jo_sendAgain 11 = .ok (.istore_n 1, 1) := by decide +kernel
theorem d_Jo_sendAgain_12 : decode b_Jo_sendAgain 12 = .ok (.iconst 0, 1) := by decide +kernel
theorem d_Jo_sendAgain_13 : decode b_Jo_sendAgain 13 = .ok (.istore_n 2, 1) := by decide +kernel
theorem d_Jo_sendAgain_14 : decode b_Jo_sendAgain 14 = .ok (.iload_n 2, 1) := by decide +kernel
theorem d_Jo_sendAgain_15 : decode b_Jo_sendAgain 15 = .ok (.aload_n 0, 1) := by decide +kernel
theorem d_Jo_sendAgain_16 : decode b_Jo_sendAgain 16 = .ok (.getfield 39, 3) := by decide +kernel
theorem d_Jo_sendAgain_19 : decode b_Jo_sendAgain 19 = .ok (.if_icmp .ge 75, 3) := by decide +kernel
theorem d_Jo_sendAgain_22 : decode b_Jo_sendAgain 22 = .ok (.aload_n 0, 1) := by decide +kernel
theorem d_Jo_sendAgain_23 : decode b_Jo_sendAgain 23 = .ok (.getfield 11, 3) := by decide +kernel
theorem d_Jo_sendAgain_26 : decode b_Jo_sendAgain 26 = .ok (.iload_n 2, 1) := by decide +kernel
theorem d_Jo_sendAgain_27 : decode b_Jo_sendAgain 27 = .ok (.aaload, 1) := by decide +kernel
theorem d_Jo_sendAgain_28 : decode b_Jo_sendAgain 28 = .ok (.astore_n 3, 1) := by decide +kernel
theorem d_Jo_sendAgain_29 : decode b_Jo_sendAgain 29 = .ok (.aload_n 3, 1) := by decide +kernel
theorem d_Jo_sendAgain_30 : decode b_Jo_sendAgain 30 = .ok (.getfield 58, 3) := by decide +kernel
theorem d_Jo_sendAgain_33 : decode b_Jo_sendAgain 33 = .ok (.ifCond .le 27, 3) := by decide +kernel
theorem d_Jo_sendAgain_36 : decode b_Jo_sendAgain 36 = .ok (.aload_n 3, 1) := by decide +kernel
theorem d_Jo_sendAgain_37 : decode b_Jo_sendAgain 37 = .ok (.getfield 71, 3) := by decide +kernel
theorem d_Jo_sendAgain_40 : decode b_Jo_sendAgain 40 = .ok (.ifCond .ne 20, 3) := by decide +kernel
theorem d_Jo_sendAgain_43 : decode b_Jo_sendAgain 43 = .ok (.aload_n 0, 1) := by decide +kernel
theorem d_Jo_sendAgain_44 : decode b_Jo_sendAgain 44 = .ok (.getfield 78, 3) := by decide +kernel
theorem d_Jo_sendAgain_47 : decode b_Jo_sendAgain 47 = .ok (.aload_n 3, 1) := by decide +kernel
theorem d_Jo_sendAgain_48 : decode b_Jo_sendAgain 48 = .ok (.getfield 81, 3) := by decide +kernel
theorem d_Jo_sendAgain_51 : decode b_Jo_sendAgain 51 = .ok (.isub, 1) := by decide +kernel
theorem d_Jo_sendAgain_52 : decode b_Jo_sendAgain 52 = .ok (.iconst 3, 1) := by decide +kernel
theorem d_Jo_sendAgain_53 : decode b_Jo_sendAgain 53 = .ok (.if_icmp .lt 7, 3) := by decide +kernel
theorem d_Jo_sendAgain_56 : decode b_Jo_sendAgain 56 = .ok (.iconst 1, 1) := by decide +kernel
theorem d_Jo_sendAgain_57 : decode b_Jo_sendAgain 57 = .ok (.goto 4, 3) := by decide +kernel
theorem d_Jo_sendAgain_60 : decode b_Jo_sendAgain 60 = .ok (.iconst 0, 1) := by decide +kernel
theorem d_Jo_sendAgain_61 : decode b_Jo_sendAgain 61 = .ok (.istore 4, 2) := by decide +kernel
theorem d_Jo_sendAgain_63 : decode b_Jo_sendAgain 63 = .ok (.iload 4, 2) := by decide +kernel
theorem d_Jo_sendAgain_65 : decode b_Jo_sendAgain 65 = .ok (.ifCond .eq 23, 3) := by decide +kernel
theorem d_Jo_sendAgain_68 : decode b_Jo_sendAgain 68 = .ok (.aload_n 0, 1) := by decide +kernel
theorem d_Jo_sendAgain_69 : decode b_Jo_sendAgain 69 = .ok (.getfield 22, 3) := by decide +kernel
theorem d_Jo_sendAgain_72 : decode b_Jo_sendAgain 72 = .ok (.getfield 51, 3) := by decide +kernel
theorem d_Jo_sendAgain_75 : decode b_Jo_sendAgain 75 = .ok (.bipush 60, 2) := by decide +kernel
theorem d_Jo_sendAgain_77 : decode b_Jo_sendAgain 77 = .ok (.if_icmp .ge 11, 3) := by decide +kernel
theorem d_Jo_sendAgain_80 : decode b_Jo_sendAgain 80 = .ok (.aload_n 0, 1) := by decide +kernel
theorem d_Jo_sendAgain_81 : decode b_Jo_sendAgain 81 = .ok (.iload_n 2, 1) := by decide +kernel
theorem d_Jo_sendAgain_82 : decode b_Jo_sendAgain 82 = .ok (.invokevirtual 68, 3) := by decide +kernel
theorem d_Jo_sendAgain_85 : decode b_Jo_sendAgain 85 = .ok (.iinc 1 1, 3) := by decide +kernel
theorem d_Jo_sendAgain_88 : decode b_Jo_sendAgain 88 = .ok (.iinc 2 1, 3) := by decide +kernel
theorem d_Jo_sendAgain_91 : decode b_Jo_sendAgain 91 = .ok (.goto (-77), 3) := by decide +kernel
theorem d_Jo_sendAgain_94 : decode b_Jo_sendAgain 94 = .ok (.iload_n 1, 1) := by decide +kernel
theorem d_Jo_sendAgain_95 : decode b_Jo_sendAgain 95 = .ok (.ireturn, 1) := by decide +kernel
theorem d_Jo_tell_0 : decode b_Jo_tell 0 = .ok (.aload_n 0, 1) := by decide +kernel
theorem d_Jo_tell_1 : decode b_Jo_tell 1 = .ok (.getfield 22, 3) := by decide +kernel
theorem d_Jo_tell_4 : decode b_Jo_tell 4 = .ok (.getfield 97, 3) := by decide +kernel
theorem d_Jo_tell_7 : decode b_Jo_tell 7 = .ok (.iload_n 1, 1) := by decide +kernel
theorem d_Jo_tell_8 : decode b_Jo_tell 8 = .ok (.iaload, 1) := by decide +kernel
theorem d_Jo_tell_9 : decode b_Jo_tell 9 = .ok (.istore_n 3, 1) := by decide +kernel
theorem d_Jo_tell_10 : decode b_Jo_tell 10 = .ok (.iload_n 2, 1) := by decide +kernel
theorem d_Jo_tell_11 : decode b_Jo_tell 11 = .ok (.tableswitch 90 0 3 #[29, 39, 41, 51], 29) := by decide +kernel
theorem d_Jo_tell_40 : decode b_Jo_tell 40 = .ok (.aload_n 0, 1) := by decide +kernel
theorem d_Jo_tell_41 : decode b_Jo_tell 41 = .ok (.getfield 22, 3) := by decide +kernel
theorem d_Jo_tell_44 : decode b_Jo_tell 44 = .ok (.getfield 93, 3) := by decide +kernel
theorem d_Jo_tell_47 : decode b_Jo_tell 47 = .ok (.iload_n 1, 1) := by decide +kernel
theorem d_Jo_tell_48 : decode b_Jo_tell 48 = .ok (.iaload, 1) := by decide +kernel
theorem d_Jo_tell_49 : decode b_Jo_tell 49 = .ok (.ireturn, 1) := by decide +kernel
theorem d_Jo_tell_50 : decode b_Jo_tell 50 = .ok (.iload_n 3, 1) := by decide +kernel
theorem d_Jo_tell_51 : decode b_Jo_tell 51 = .ok (.ireturn, 1) := by decide +kernel
theorem d_Jo_tell_52 : decode b_Jo_tell 52 = .ok (.aload_n 0, 1) := by decide +kernel
theorem d_Jo_tell_53 : decode b_Jo_tell 53 = .ok (.getfield 22, 3) := by decide +kernel
theorem d_Jo_tell_56 : decode b_Jo_tell 56 = .ok (.getfield 99, 3) := by decide +kernel
theorem d_Jo_tell_59 : decode b_Jo_tell 59 = .ok (.iload_n 1, 1) := by decide +kernel
theorem d_Jo_tell_60 : decode b_Jo_tell 60 = .ok (.iaload, 1) := by decide +kernel
theorem d_Jo_tell_61 : decode b_Jo_tell 61 = .ok (.ireturn, 1) := by decide +kernel
theorem d_Jo_tell_62 : decode b_Jo_tell 62 = .ok (.aload_n 0, 1) := by decide +kernel
theorem d_Jo_tell_63 : decode b_Jo_tell 63 = .ok (.getfield 22, 3) := by decide +kernel
theorem d_Jo_tell_66 : decode b_Jo_tell 66 = .ok (.getfield 93, 3) := by decide +kernel
theorem d_Jo_tell_69 : decode b_Jo_tell 69 = .ok (.iload_n 1, 1) := by decide +kernel
theorem d_Jo_tell_70 : decode b_Jo_tell 70 = .ok (.iaload, 1) := by decide +kernel
theorem d_Jo_tell_71 : decode b_Jo_tell 71 = .ok (.ifCond .ne 20, 3) := by decide +kernel
theorem d_Jo_tell_74 : decode b_Jo_tell 74 = .ok (.aload_n 0, 1) := by decide +kernel
theorem d_Jo_tell_75 : decode b_Jo_tell 75 = .ok (.iload_n 3, 1) := by decide +kernel
theorem d_Jo_tell_76 : decode b_Jo_tell 76 = .ok (.aload_n 0, 1) := by decide +kernel
theorem d_Jo_tell_77 : decode b_Jo_tell 77 = .ok (.getfield 22, 3) := by decide +kernel
theorem d_Jo_tell_80 : decode b_Jo_tell 80 = .ok (.getfield 99, 3) := by decide +kernel
theorem d_Jo_tell_83 : decode b_Jo_tell 83 = .ok (.iload_n 1, 1) := by decide +kernel
theorem d_Jo_tell_84 : decode b_Jo_tell 84 = .ok (.iaload, 1) := by decide +kernel
theorem d_Jo_tell_85 : decode b_Jo_tell 85 = .ok (.invokevirtual 104, 3) := by decide +kernel
theorem d_Jo_tell_88 : decode b_Jo_tell 88 = .ok (.goto 12, 3) := by decide +kernel
theorem d_Jo_tell_91 : decode b_Jo_tell 91 = .ok (.aload_n 0, 1) := by decide +kernel
theorem d_Jo_tell_92 : decode b_Jo_tell 92 = .ok (.getfield 11, 3) := by decide +kernel
theorem d_Jo_tell_95 : decode b_Jo_tell 95 = .ok (.iload_n 3, 1) := by decide +kernel
theorem d_Jo_tell_96 : decode b_Jo_tell 96 = .ok (.aaload, 1) := by decide +kernel
theorem d_Jo_tell_97 : decode b_Jo_tell 97 = .ok (.getfield 113, 3) := by decide +kernel
theorem d_Jo_tell_100 : decode b_Jo_tell 100 = .ok (.ireturn, 1) := by decide +kernel
theorem d_Jo_tell_101 : decode b_Jo_tell 101 = .ok (.iconst (-1), 1) := by decide +kernel
theorem d_Jo_tell_102 : decode b_Jo_tell 102 = .ok (.ireturn, 1) := by decide +kernel
theorem d_Li_init_0 : decode b_Li_init 0 = .ok (.aload_n 0, 1) := by decide +kernel
theorem d_Li_init_1 : decode b_Li_init 1 = .ok (.invokespecial 1, 3) := by decide +kernel
theorem d_Li_init_4 : decode b_Li_init 4 = .ok (.aload_n 0, 1) := by decide +kernel
theorem d_Li_init_5 : decode b_Li_init 5 = .ok (.iload_n 1, 1) := by decide +kernel
theorem d_Li_init_6 : decode b_Li_init 6 = .ok (.newarray .int, 2) := by decide +kernel
theorem d_Li_init_8 : decode b_Li_init 8 = .ok (.putfield 7, 3) := by decide +kernel
theorem d_Li_init_11 : decode b_Li_init 11 = .ok (.aload_n 0, 1) := by decide +kernel
theorem d_Li_init_12 : decode b_Li_init 12 = .ok (.iload_n 1, 1) := by decide +kernel
theorem d_Li_init_13 : decode b_Li_init 13 = .ok (.newarray .int, 2) := by decide +kernel
theorem d_Li_init_15 : decode b_Li_init 15 = .ok (.putfield 13, 3) := by decide +kernel
theorem d_Li_init_18 : decode b_Li_init 18 = .ok (.aload_n 0, 1) := by decide +kernel
theorem d_Li_init_19 : decode b_Li_init 19 = .ok (.iload_n 1, 1) := by decide +kernel
theorem d_Li_init_20 : decode b_Li_init 20 = .ok (.newarray .int, 2) := by decide +kernel
theorem d_Li_init_22 : decode b_Li_init 22 = .ok (.putfield 16, 3) := by decide +kernel
theorem d_Li_init_25 : decode b_Li_init 25 = .ok (.return_, 1) := by decide +kernel
theorem d_Li_add_0 : decode b_Li_add 0 = .ok (.aload_n 0, 1) := by decide +kernel
theorem d_Li_add_1 : decode b_Li_add 1 = .ok (.getfield 19, 3) := by decide +kernel
theorem d_Li_add_4 : decode b_Li_add 4 = .ok (.aload_n 0, 1) := by decide +kernel
theorem d_Li_add_5 : decode b_Li_add 5 = .ok (.getfield 7, 3) := by decide +kernel
theorem d_Li_add_8 : decode b_Li_add 8 = .ok (.arraylength, 1) := by decide +kernel
theorem d_Li_add_9 : decode b_Li_add 9 = .ok (.if_icmp .lt 5, 3) := by decide +kernel
theorem d_Li_add_12 : decode b_Li_add 12 = .ok (.iconst 0, 1) := by decide +kernel
theorem d_Li_add_13 : decode b_Li_add 13 = .ok (.ireturn, 1) := by decide +kernel
theorem d_Li_add_14 : decode b_Li_add 14 = .ok (.aload_n 0, 1) := by decide +kernel
theorem d_Li_add_15 : decode b_Li_add 15 = .ok (.getfield 7, 3) := by decide +kernel
theorem d_Li_add_18 : decode b_Li_add 18 = .ok (.aload_n 0, 1) := by decide +kernel
theorem d_Li_add_19 : decode b_Li_add 19 = .ok (.getfield 19, 3) := by decide +kernel
theorem d_Li_add_22 : decode b_Li_add 22 = .ok (.iload_n 1, 1) := by decide +kernel
theorem d_Li_add_23 : decode b_Li_add 23 = .ok (.iastore, 1) := by decide +kernel
theorem d_Li_add_24 : decode b_Li_add 24 = .ok (.aload_n 0, 1) := by decide +kernel
theorem d_Li_add_25 : decode b_Li_add 25 = .ok (.getfield 13, 3) := by decide +kernel
theorem d_Li_add_28 : decode b_Li_add 28 = .ok (.aload_n 0, 1) := by decide +kernel
theorem d_Li_add_29 : decode b_Li_add 29 = .ok (.getfield 19, 3) := by decide +kernel
theorem d_Li_add_32 : decode b_Li_add 32 = .ok (.iload_n 2, 1) := by decide +kernel
theorem d_Li_add_33 : decode b_Li_add 33 = .ok (.iastore, 1) := by decide +kernel
theorem d_Li_add_34 : decode b_Li_add 34 = .ok (.aload_n 0, 1) := by decide +kernel
theorem d_Li_add_35 : decode b_Li_add 35 = .ok (.getfield 16, 3) := by decide +kernel
theorem d_Li_add_38 : decode b_Li_add 38 = .ok (.aload_n 0, 1) := by decide +kernel
theorem d_Li_add_39 : decode b_Li_add 39 = .ok (.getfield 19, 3) := by decide +kernel
theorem d_Li_add_42 : decode b_Li_add 42 = .ok (.iload_n 3, 1) := by decide +kernel
theorem d_Li_add_43 : decode b_Li_add 43 = .ok (.iastore, 1) := by decide +kernel
theorem d_Li_add_44 : decode b_Li_add 44 = .ok (.aload_n 0, 1) := by decide +kernel
theorem d_Li_add_45 : decode b_Li_add 45 = .ok (.dup, 1) := by decide +kernel
theorem d_Li_add_46 : decode b_Li_add 46 = .ok (.getfield 19, 3) := by decide +kernel
theorem d_Li_add_49 : decode b_Li_add 49 = .ok (.iconst 1, 1) := by decide +kernel
theorem d_Li_add_50 : decode b_Li_add 50 = .ok (.iadd, 1) := by decide +kernel
theorem d_Li_add_51 : decode b_Li_add 51 = .ok (.putfield 19, 3) := by decide +kernel
theorem d_Li_add_54 : decode b_Li_add 54 = .ok (.iconst 1, 1) := by decide +kernel
theorem d_Li_add_55 : decode b_Li_add 55 = .ok (.ireturn, 1) := by decide +kernel
theorem d_Li_removeAt_0 : decode b_Li_removeAt 0 = .ok (.iload_n 1, 1) := by decide +kernel
theorem d_Li_removeAt_1 : decode b_Li_removeAt 1 = .ok (.iconst 1, 1) := by decide +kernel
theorem d_Li_removeAt_2 : decode b_Li_removeAt 2 = .ok (.iadd, 1) := by decide +kernel
theorem d_Li_removeAt_3 : decode b_Li_removeAt 3 = .ok (.istore_n 2, 1) := by decide +kernel
theorem d_Li_removeAt_4 : decode b_Li_removeAt 4 = .ok (.iload_n 2, 1) := by decide +kernel
theorem d_Li_removeAt_5 : decode b_Li_removeAt 5 = .ok (.aload_n 0, 1) := by decide +kernel
theorem d_Li_removeAt_6 : decode b_Li_removeAt 6 = .ok (.getfield 19, 3) := by decide +kernel
theorem d_Li_removeAt_9 : decode b_Li_removeAt 9 = .ok (.if_icmp .ge 51, 3) := by decide +kernel
theorem d_Li_removeAt_12 : decode b_Li_removeAt 12 = .ok (.aload_n 0, 1) := by decide +kernel
theorem d_Li_removeAt_13 : decode b_Li_removeAt 13 = .ok (.getfield 7, 3) := by decide +kernel
theorem d_Li_removeAt_16 : decode b_Li_removeAt 16 = .ok (.iload_n 2, 1) := by decide +kernel
theorem d_Li_removeAt_17 : decode b_Li_removeAt 17 = .ok (.iconst 1, 1) := by decide +kernel
theorem d_Li_removeAt_18 : decode b_Li_removeAt 18 = .ok (.isub, 1) := by decide +kernel
theorem d_Li_removeAt_19 : decode b_Li_removeAt 19 = .ok (.aload_n 0, 1) := by decide +kernel
theorem d_Li_removeAt_20 : decode b_Li_removeAt 20 = .ok (.getfield 7, 3) := by decide +kernel
theorem d_Li_removeAt_23 : decode b_Li_removeAt 23 = .ok (.iload_n 2, 1) := by decide +kernel
theorem d_Li_removeAt_24 : decode b_Li_removeAt 24 = .ok (.iaload, 1) := by decide +kernel
theorem d_Li_removeAt_25 : decode b_Li_removeAt 25 = .ok (.iastore, 1) := by decide +kernel
theorem d_Li_removeAt_26 : decode b_Li_removeAt 26 = .ok (.aload_n 0, 1) := by decide +kernel
theorem d_Li_removeAt_27 : decode b_Li_removeAt 27 = .ok (.getfield 13, 3) := by decide +kernel
theorem d_Li_removeAt_30 : decode b_Li_removeAt 30 = .ok (.iload_n 2, 1) := by decide +kernel
theorem d_Li_removeAt_31 : decode b_Li_removeAt 31 = .ok (.iconst 1, 1) := by decide +kernel
theorem d_Li_removeAt_32 : decode b_Li_removeAt 32 = .ok (.isub, 1) := by decide +kernel
theorem d_Li_removeAt_33 : decode b_Li_removeAt 33 = .ok (.aload_n 0, 1) := by decide +kernel
theorem d_Li_removeAt_34 : decode b_Li_removeAt 34 = .ok (.getfield 13, 3) := by decide +kernel
theorem d_Li_removeAt_37 : decode b_Li_removeAt 37 = .ok (.iload_n 2, 1) := by decide +kernel
theorem d_Li_removeAt_38 : decode b_Li_removeAt 38 = .ok (.iaload, 1) := by decide +kernel
theorem d_Li_removeAt_39 : decode b_Li_removeAt 39 = .ok (.iastore, 1) := by decide +kernel
theorem d_Li_removeAt_40 : decode b_Li_removeAt 40 = .ok (.aload_n 0, 1) := by decide +kernel
theorem d_Li_removeAt_41 : decode b_Li_removeAt 41 = .ok (.getfield 16, 3) := by decide +kernel
theorem d_Li_removeAt_44 : decode b_Li_removeAt 44 = .ok (.iload_n 2, 1) := by decide +kernel
theorem d_Li_removeAt_45 : decode b_Li_removeAt 45 = .ok (.iconst 1, 1) := by decide +kernel
theorem d_Li_removeAt_46 : decode b_Li_removeAt 46 = .ok (.isub, 1) := by decide +kernel
theorem d_Li_removeAt_47 : decode b_Li_removeAt 47 = .ok (.aload_n 0, 1) := by decide +kernel
theorem d_Li_removeAt_48 : decode b_Li_removeAt 48 = .ok (.getfield 16, 3) := by decide +kernel
theorem d_Li_removeAt_51 : decode b_Li_removeAt 51 = .ok (.iload_n 2, 1) := by decide +kernel
theorem d_Li_removeAt_52 : decode b_Li_removeAt 52 = .ok (.iaload, 1) := by decide +kernel
theorem d_Li_removeAt_53 : decode b_Li_removeAt 53 = .ok (.iastore, 1) := by decide +kernel
theorem d_Li_removeAt_54 : decode b_Li_removeAt 54 = .ok (.iinc 2 1, 3) := by decide +kernel
theorem d_Li_removeAt_57 : decode b_Li_removeAt 57 = .ok (.goto (-53), 3) := by decide +kernel
theorem d_Li_removeAt_60 : decode b_Li_removeAt 60 = .ok (.aload_n 0, 1) := by decide +kernel
theorem d_Li_removeAt_61 : decode b_Li_removeAt 61 = .ok (.dup, 1) := by decide +kernel
theorem d_Li_removeAt_62 : decode b_Li_removeAt 62 = .ok (.getfield 19, 3) := by decide +kernel
theorem d_Li_removeAt_65 : decode b_Li_removeAt 65 = .ok (.iconst 1, 1) := by decide +kernel
theorem d_Li_removeAt_66 : decode b_Li_removeAt 66 = .ok (.isub, 1) := by decide +kernel
theorem d_Li_removeAt_67 : decode b_Li_removeAt 67 = .ok (.putfield 19, 3) := by decide +kernel
theorem d_Li_removeAt_70 : decode b_Li_removeAt 70 = .ok (.return_, 1) := by decide +kernel
theorem d_Ma_init_0 : decode b_Ma_init 0 = .ok (.aload_n 0, 1) := by decide +kernel
theorem d_Ma_init_1 : decode b_Ma_init 1 = .ok (.invokespecial 3, 3) := by decide +kernel
theorem d_Ma_init_4 : decode b_Ma_init 4 = .ok (.aload_n 0, 1) := by decide +kernel
theorem d_Ma_init_5 : decode b_Ma_init 5 = .ok (.iconst 4, 1) := by decide +kernel
theorem d_Ma_init_6 : decode b_Ma_init 6 = .ok (.newarray .long, 2) := by decide +kernel
theorem d_Ma_init_8 : decode b_Ma_init 8 = .ok (.putfield 9, 3) := by decide +kernel
theorem d_Ma_init_11 : decode b_Ma_init 11 = .ok (.aload_n 0, 1) := by decide +kernel
theorem d_Ma_init_12 : decode b_Ma_init 12 = .ok (.iconst 4, 1) := by decide +kernel
theorem d_Ma_init_13 : decode b_Ma_init 13 = .ok (.newarray .boolean, 2) := by decide +kernel
theorem d_Ma_init_15 : decode b_Ma_init 15 = .ok (.putfield 15, 3) := by decide +kernel
theorem d_Ma_init_18 : decode b_Ma_init 18 = .ok (.aload_n 0, 1) := by decide +kernel
theorem d_Ma_init_19 : decode b_Ma_init 19 = .ok (.bipush 8, 2) := by decide +kernel
theorem d_Ma_init_21 : decode b_Ma_init 21 = .ok (.newarray .long, 2) := by decide +kernel
theorem d_Ma_init_23 : decode b_Ma_init 23 = .ok (.putfield 19, 3) := by decide +kernel
theorem d_Ma_init_26 : decode b_Ma_init 26 = .ok (.aload_n 0, 1) := by decide +kernel
theorem d_Ma_init_27 : decode b_Ma_init 27 = .ok (.bipush 8, 2) := by decide +kernel
theorem d_Ma_init_29 : decode b_Ma_init 29 = .ok (.newarray .boolean, 2) := by decide +kernel
theorem d_Ma_init_31 : decode b_Ma_init 31 = .ok (.putfield 22, 3) := by decide +kernel
theorem d_Ma_init_34 : decode b_Ma_init 34 = .ok (.return_, 1) := by decide +kernel
theorem d_Ma_load_0 : decode b_Ma_load 0 = .ok (.iconst 0, 1) := by decide +kernel
theorem d_Ma_load_1 : decode b_Ma_load 1 = .ok (.istore 4, 2) := by decide +kernel
theorem d_Ma_load_3 : decode b_Ma_load 3 = .ok (.iload 4, 2) := by decide +kernel
theorem d_Ma_load_5 : decode b_Ma_load 5 = .ok (.iconst 2, 1) := by decide +kernel
theorem d_Ma_load_6 : decode b_Ma_load 6 = .ok (.if_icmp .ge 68, 3) := by decide +kernel
theorem d_Ma_load_9 : decode b_Ma_load 9 = .ok (.iload_n 3, 1) := by decide +kernel
theorem d_Ma_load_10 : decode b_Ma_load 10 = .ok (.iconst (-1), 1) := by decide +kernel
theorem d_Ma_load_11 : decode b_Ma_load 11 = .ok (.if_icmp .eq 13, 3) := by decide +kernel
theorem d_Ma_load_14 : decode b_Ma_load 14 = .ok (.aload_n 2, 1) := by decide +kernel
theorem d_Ma_load_15 : decode b_Ma_load 15 = .ok (.iload_n 3, 1) := by decide +kernel
theorem d_Ma_load_16 : decode b_Ma_load 16 = .ok (.iload 4, 2) := by decide +kernel
theorem d_Ma_load_18 : decode b_Ma_load 18 = .ok (.invokevirtual 25, 3) := by decide +kernel
theorem d_Ma_load_21 : decode b_Ma_load 21 = .ok (.ifCond .eq 7, 3) := by decide +kernel
theorem d_Ma_load_24 : decode b_Ma_load 24 = .ok (.iconst 1, 1) := by decide +kernel
theorem d_Ma_load_25 : decode b_Ma_load 25 = .ok (.goto 4, 3) := by decide +kernel
theorem d_Ma_load_28 : decode b_Ma_load 28 = .ok (.iconst 0, 1) := by decide +kernel
theorem d_Ma_load_29 : decode b_Ma_load 29 = .ok (.istore 5, 2) := by decide +kernel
theorem d_Ma_load_31 : decode b_Ma_load 31 = .ok (.aload_n 0, 1) := by decide +kernel
theorem d_Ma_load_32 : decode b_Ma_load 32 = .ok (.getfield 15, 3) := by decide +kernel
theorem d_Ma_load_35 : decode b_Ma_load 35 = .ok (.iload_n 1, 1) := by decide +kernel
theorem d_Ma_load_36 : decode b_Ma_load 36 = .ok (.iload 4, 2) := by decide +kernel
theorem d_Ma_load_38 : decode b_Ma_load 38 = .ok (.iadd, 1) := by decide +kernel
theorem d_Ma_load_39 : decode b_Ma_load 39 = .ok (.iload 5, 2) := by decide +kernel
theorem d_Ma_load_41 : decode b_Ma_load 41 = .ok (.bastore, 1) := by decide +kernel
theorem d_Ma_load_42 : decode b_Ma_load 42 = .ok (.aload_n 0, 1) := by decide +kernel
theorem d_Ma_load_43 : decode b_Ma_load 43 = .ok (.getfield 9, 3) := by decide +kernel
theorem d_Ma_load_46 : decode b_Ma_load 46 = .ok (.iload_n 1, 1) := by decide +kernel
theorem d_Ma_load_47 : decode b_Ma_load 47 = .ok (.iload 4, 2) := by decide +kernel
theorem d_Ma_load_49 : decode b_Ma_load 49 = .ok (.iadd, 1) := by decide +kernel
theorem d_Ma_load_50 : decode b_Ma_load 50 = .ok (.iload 5, 2) := by decide +kernel
theorem d_Ma_load_52 : decode b_Ma_load 52 = .ok (.ifCond .eq 7, 3) := by decide +kernel
theorem d_Ma_load_55 : decode b_Ma_load 55 = .ok (.lconst 0, 1) := by decide +kernel
theorem d_Ma_load_56 : decode b_Ma_load 56 = .ok (.goto 11, 3) := by decide +kernel
theorem d_Ma_load_59 : decode b_Ma_load 59 = .ok (.aload_n 2, 1) := by decide +kernel
theorem d_Ma_load_60 : decode b_Ma_load 60 = .ok (.iload_n 3, 1) := by decide +kernel
theorem d_Ma_load_61 : decode b_Ma_load 61 = .ok (.iload 4, 2) := by decide +kernel
theorem d_Ma_load_63 : decode b_Ma_load 63 = .ok (.invokevirtual 31, 3) := by decide +kernel
theorem d_Ma_load_66 : decode b_Ma_load 66 = .ok (.i2l, 1) := by decide +kernel
theorem d_Ma_load_67 : decode b_Ma_load 67 = .ok (.lastore, 1) := by decide +kernel
theorem d_Ma_load_68 : decode b_Ma_load 68 = .ok (.iinc 4 1, 3) := by decide +kernel
theorem d_Ma_load_71 : decode b_Ma_load 71 = .ok (.goto (-68), 3) := by decide +kernel
theorem d_Ma_load_74 : decode b_Ma_load 74 = .ok (.return_, 1) := by decide +kernel
end
section
theorem d_Ma_evaluate_0 : decode b_Ma_evaluate 0 = .ok (.aload_n 0, 1) := by decide +kernel
theorem d_Ma_evaluate_1 : decode b_Ma_evaluate 1 = .ok (.iconst 0, 1) := by decide +kernel
theorem d_Ma_evaluate_2 : decode b_Ma_evaluate 2 = .ok (.lconst 0, 1) := by decide +kernel
theorem d_Ma_evaluate_3 : decode b_Ma_evaluate 3 = .ok (.iconst 1, 1) := by decide +kernel
theorem d_Ma_evaluate_4 : decode b_Ma_evaluate 4 = .ok (.invokevirtual 35, 3) := by decide +kernel
theorem d_Ma_evaluate_7 : decode b_Ma_evaluate 7 = .ok (.iconst 0, 1) := by decide +kernel
theorem d_Ma_evaluate_8 : decode b_Ma_evaluate 8 = .ok (.istore_n 2, 1) := by decide +kernel
theorem d_Ma_evaluate_9 : decode b_Ma_evaluate 9 = .ok (.iconst 0, 1) := by decide +kernel
theorem d_Ma_evaluate_10 : decode b_Ma_evaluate 10 = .ok (.istore_n 3, 1) := by decide +kernel
theorem d_Ma_evaluate_11 : decode b_Ma_evaluate 11 = .ok (.iload_n 3, 1) := by decide +kernel
theorem d_Ma_evaluate_12 : decode b_Ma_evaluate 12 = .ok (.aload_n 1, 1) := by decide +kernel
theorem d_Ma_evaluate_13 : decode b_Ma_evaluate 13 = .ok (.getfield 39, 3) := by decide +kernel
theorem d_Ma_evaluate_16 : decode b_Ma_evaluate 16 = .ok (.if_icmp .ge 181, 3) := by decide +kernel
theorem d_Ma_evaluate_19 : decode b_Ma_evaluate 19 = .ok (.aload_n 1, 1) := by decide +kernel
theorem d_Ma_evaluate_20 : decode b_Ma_evaluate 20 = .ok (.getfield 45, 3) := by decide +kernel
theorem d_Ma_evaluate_23 : decode b_Ma_evaluate 23 = .ok (.iload_n 3, 1) := by decide +kernel
theorem d_Ma_evaluate_24 : decode b_Ma_evaluate 24 = .ok (.iaload, 1) := by decide +kernel
theorem d_Ma_evaluate_25 : decode b_Ma_evaluate 25 = .ok (.istore 4, 2) := by decide +kernel
theorem d_Ma_evaluate_27 : decode b_Ma_evaluate 27 = .ok (.aload_n 1, 1) := by decide +kernel
theorem d_Ma_evaluate_28 : decode b_Ma_evaluate 28 = .ok (.getfield 49, 3) := by decide +kernel
theorem d_Ma_evaluate_31 : decode b_Ma_evaluate 31 = .ok (.iload_n 3, 1) := by decide +kernel
theorem d_Ma_evaluate_32 : decode b_Ma_evaluate 32 = .ok (.iaload, 1) := by decide +kernel
theorem d_Ma_evaluate_33 : decode b_Ma_evaluate 33 = .ok (.istore 5, 2) := by decide +kernel
theorem d_Ma_evaluate_35 : decode b_Ma_evaluate 35 = .ok (.iload 4, 2) := by decide +kernel
theorem d_Ma_evaluate_37 : decode b_Ma_evaluate 37 = .ok (.bipush 10, 2) := by decide +kernel
theorem d_Ma_evaluate_39 : decode b_Ma_evaluate 39 = .ok (.if_icmp .ne 34, 3) := by decide +kernel
theorem d_Ma_evaluate_42 : decode b_Ma_evaluate 42 = .ok (.iload_n 2, 1) := by decide +kernel
theorem d_Ma_evaluate_43 : decode b_Ma_evaluate 43 = .ok (.bipush 8, 2) := by decide +kernel
theorem d_Ma_evaluate_45 : decode b_Ma_evaluate 45 = .ok (.if_icmp .ge 28, 3) := by decide +kernel
theorem d_Ma_evaluate_48 : decode b_Ma_evaluate 48 = .ok (.aload_n 0, 1) := by decide +kernel
theorem d_Ma_evaluate_49 : decode b_Ma_evaluate 49 = .ok (.iload_n 2, 1) := by decide +kernel
theorem d_Ma_evaluate_50 : decode b_Ma_evaluate 50 = .ok (.aload_n 0, 1) := by decide +kernel
theorem d_Ma_evaluate_51 : decode b_Ma_evaluate 51 = .ok (.getfield 9, 3) := by decide +kernel
theorem d_Ma_evaluate_54 : decode b_Ma_evaluate 54 = .ok (.iload 5, 2) := by decide +kernel
theorem d_Ma_evaluate_56 : decode b_Ma_evaluate 56 = .ok (.laload, 1) := by decide +kernel
theorem d_Ma_evaluate_57 : decode b_Ma_evaluate 57 = .ok (.aload_n 0, 1) := by decide +kernel
theorem d_Ma_evaluate_58 : decode b_Ma_evaluate 58 = .ok (.getfield 15, 3) := by decide +kernel
theorem d_Ma_evaluate_61 : decode b_Ma_evaluate 61 = .ok (.iload 5, 2) := by decide +kernel
theorem d_Ma_evaluate_63 : decode b_Ma_evaluate 63 = .ok (.baload, 1) := by decide +kernel
theorem d_Ma_evaluate_64 : decode b_Ma_evaluate 64 = .ok (.invokevirtual 35, 3) := by decide +kernel
theorem d_Ma_evaluate_67 : decode b_Ma_evaluate 67 = .ok (.iinc 2 1, 3) := by decide +kernel
theorem d_Ma_evaluate_70 : decode b_Ma_evaluate 70 = .ok (.goto 121, 3) := by decide +kernel
theorem d_Ma_evaluate_73 : decode b_Ma_evaluate 73 = .ok (.iload 4, 2) := by decide +kernel
theorem d_Ma_evaluate_75 : decode b_Ma_evaluate 75 = .ok (.bipush 11, 2) := by decide +kernel
theorem d_Ma_evaluate_77 : decode b_Ma_evaluate 77 = .ok (.if_icmp .ne 24, 3) := by decide +kernel
theorem d_Ma_evaluate_80 : decode b_Ma_evaluate 80 = .ok (.iload_n 2, 1) := by decide +kernel
theorem d_Ma_evaluate_81 : decode b_Ma_evaluate 81 = .ok (.bipush 8, 2) := by decide +kernel
theorem d_Ma_evaluate_83 : decode b_Ma_evaluate 83 = .ok (.if_icmp .ge 18, 3) := by decide +kernel
theorem d_Ma_evaluate_86 : decode b_Ma_evaluate 86 = .ok (.aload_n 0, 1) := by decide +kernel
theorem d_Ma_evaluate_87 : decode b_Ma_evaluate 87 = .ok (.iload_n 2, 1) := by decide +kernel
theorem d_Ma_evaluate_88 : decode b_Ma_evaluate 88 = .ok (.iload 5, 2) := by decide +kernel
theorem d_Ma_evaluate_90 : decode b_Ma_evaluate 90 = .ok (.i2l, 1) := by decide +kernel
theorem d_Ma_evaluate_91 : decode b_Ma_evaluate 91 = .ok (.iconst 0, 1) := by decide +kernel
theorem d_Ma_evaluate_92 : decode b_Ma_evaluate 92 = .ok (.invokevirtual 35, 3) := by decide +kernel
theorem d_Ma_evaluate_95 : decode b_Ma_evaluate 95 = .ok (.iinc 2 1, 3) := by decide +kernel
theorem d_Ma_evaluate_98 : decode b_Ma_evaluate 98 = .ok (.goto 93, 3) := by decide +kernel
theorem d_Ma_evaluate_101 : decode b_Ma_evaluate 101 = .ok (.iload 4, 2) := by decide +kernel
theorem d_Ma_evaluate_103 : decode b_Ma_evaluate 103 = .ok (.bipush 8, 2) := by decide +kernel
theorem d_Ma_evaluate_105 : decode b_Ma_evaluate 105 = .ok (.if_icmp .ne 29, 3) := by decide +kernel
theorem d_Ma_evaluate_108 : decode b_Ma_evaluate 108 = .ok (.iload_n 2, 1) := by decide +kernel
theorem d_Ma_evaluate_109 : decode b_Ma_evaluate 109 = .ok (.iconst 1, 1) := by decide +kernel
theorem d_Ma_evaluate_110 : decode b_Ma_evaluate 110 = .ok (.if_icmp .lt 24, 3) := by decide +kernel
theorem d_Ma_evaluate_113 : decode b_Ma_evaluate 113 = .ok (.aload_n 0, 1) := by decide +kernel
theorem d_Ma_evaluate_114 : decode b_Ma_evaluate 114 = .ok (.getfield 19, 3) := by decide +kernel
theorem d_Ma_evaluate_117 : decode b_Ma_evaluate 117 = .ok (.iload_n 2, 1) := by decide +kernel
theorem d_Ma_evaluate_118 : decode b_Ma_evaluate 118 = .ok (.iconst 1, 1) := by decide +kernel
theorem d_Ma_evaluate_119 : decode b_Ma_evaluate 119 = .ok (.isub, 1) := by decide +kernel
theorem d_Ma_evaluate_120 : decode b_Ma_evaluate 120 = .ok (.lconst 1, 1) := by decide +kernel
theorem d_Ma_evaluate_121 : decode b_Ma_evaluate 121 = .ok (.aload_n 0, 1) := by decide +kernel
theorem d_Ma_evaluate_122 : decode b_Ma_evaluate 122 = .ok (.getfield 19, 3) := by decide +kernel
theorem d_Ma_evaluate_125 : decode b_Ma_evaluate 125 = .ok (.iload_n 2, 1) := by decide +kernel
theorem d_Ma_evaluate_126 : decode b_Ma_evaluate 126 = .ok (.iconst 1, 1) := by decide +kernel
theorem d_Ma_evaluate_127 : decode b_Ma_evaluate 127 = .ok (.isub, 1) := by decide +kernel
theorem d_Ma_evaluate_128 : decode b_Ma_evaluate 128 = .ok (.laload, 1) := by decide +kernel
theorem d_Ma_evaluate_129 : decode b_Ma_evaluate 129 = .ok (.lsub, 1) := by decide +kernel
theorem d_Ma_evaluate_130 : decode b_Ma_evaluate 130 = .ok (.lastore, 1) := by decide +kernel
theorem d_Ma_evaluate_131 : decode b_Ma_evaluate 131 = .ok (.goto 60, 3) := by decide +kernel
theorem d_Ma_evaluate_134 : decode b_Ma_evaluate 134 = .ok (.iload 4, 2) := by decide +kernel
theorem d_Ma_evaluate_136 : decode b_Ma_evaluate 136 = .ok (.bipush 9, 2) := by decide +kernel
theorem d_Ma_evaluate_138 : decode b_Ma_evaluate 138 = .ok (.if_icmp .ne 35, 3) := by decide +kernel
theorem d_Ma_evaluate_141 : decode b_Ma_evaluate 141 = .ok (.iload_n 2, 1) := by decide +kernel
theorem d_Ma_evaluate_142 : decode b_Ma_evaluate 142 = .ok (.iconst 1, 1) := by decide +kernel
theorem d_Ma_evaluate_143 : decode b_Ma_evaluate 143 = .ok (.if_icmp .lt 30, 3) := by decide +kernel
theorem d_Ma_evaluate_146 : decode b_Ma_evaluate 146 = .ok (.aload_n 0, 1) := by decide +kernel
theorem d_Ma_evaluate_147 : decode b_Ma_evaluate 147 = .ok (.iload_n 2, 1) := by decide +kernel
theorem d_Ma_evaluate_148 : decode b_Ma_evaluate 148 = .ok (.iconst 1, 1) := by decide +kernel
theorem d_Ma_evaluate_149 : decode b_Ma_evaluate 149 = .ok (.isub, 1) := by decide +kernel
theorem d_Ma_evaluate_150 : decode b_Ma_evaluate 150 = .ok (.aload_n 0, 1) := by decide +kernel
theorem d_Ma_evaluate_151 : decode b_Ma_evaluate 151 = .ok (.getfield 22, 3) := by decide +kernel
theorem d_Ma_evaluate_154 : decode b_Ma_evaluate 154 = .ok (.iload_n 2, 1) := by decide +kernel
theorem d_Ma_evaluate_155 : decode b_Ma_evaluate 155 = .ok (.iconst 1, 1) := by decide +kernel
theorem d_Ma_evaluate_156 : decode b_Ma_evaluate 156 = .ok (.isub, 1) := by decide +kernel
theorem d_Ma_evaluate_157 : decode b_Ma_evaluate 157 = .ok (.baload, 1) := by decide +kernel
theorem d_Ma_evaluate_158 : decode b_Ma_evaluate 158 = .ok (.ifCond .eq 7, 3) := by decide +kernel
theorem d_Ma_evaluate_161 : decode b_Ma_evaluate 161 = .ok (.lconst 1, 1) := by decide +kernel
theorem d_Ma_evaluate_162 : decode b_Ma_evaluate 162 = .ok (.goto 4, 3) := by decide +kernel
theorem d_Ma_evaluate_165 : decode b_Ma_evaluate 165 = .ok (.lconst 0, 1) := by decide +kernel
theorem d_Ma_evaluate_166 : decode b_Ma_evaluate 166 = .ok (.iconst 0, 1) := by decide +kernel
theorem d_Ma_evaluate_167 : decode b_Ma_evaluate 167 = .ok (.invokevirtual 35, 3) := by decide +kernel
theorem d_Ma_evaluate_170 : decode b_Ma_evaluate 170 = .ok (.goto 21, 3) := by decide +kernel
theorem d_Ma_evaluate_173 : decode b_Ma_evaluate 173 = .ok (.iload_n 2, 1) := by decide +kernel
theorem d_Ma_evaluate_174 : decode b_Ma_evaluate 174 = .ok (.iconst 2, 1) := by decide +kernel
theorem d_Ma_evaluate_175 : decode b_Ma_evaluate 175 = .ok (.if_icmp .lt 16, 3) := by decide +kernel
theorem d_Ma_evaluate_178 : decode b_Ma_evaluate 178 = .ok (.iinc 2 (-1), 3) := by decide +kernel
theorem d_Ma_evaluate_181 : decode b_Ma_evaluate 181 = .ok (.aload_n 0, 1) := by decide +kernel
theorem d_Ma_evaluate_182 : decode b_Ma_evaluate 182 = .ok (.iload 4, 2) := by decide +kernel
theorem d_Ma_evaluate_184 : decode b_Ma_evaluate 184 = .ok (.iload_n 2, 1) := by decide +kernel
theorem d_Ma_evaluate_185 : decode b_Ma_evaluate 185 = .ok (.iconst 1, 1) := by decide +kernel
theorem d_Ma_evaluate_186 : decode b_Ma_evaluate 186 = .ok (.isub, 1) := by decide +kernel
theorem d_Ma_evaluate_187 : decode b_Ma_evaluate 187 = .ok (.iload_n 2, 1) := by decide +kernel
theorem d_Ma_evaluate_188 : decode b_Ma_evaluate 188 = .ok (.invokevirtual 52, 3) := by decide +kernel
theorem d_Ma_evaluate_191 : decode b_Ma_evaluate 191 = .ok (.iinc 3 1, 3) := by decide +kernel
theorem d_Ma_evaluate_194 : decode b_Ma_evaluate 194 = .ok (.goto (-183), 3) := by decide +kernel
theorem d_Ma_evaluate_197 : decode b_Ma_evaluate 197 = .ok (.return_, 1) := by decide +kernel
theorem d_Ma_value_0 : decode b_Ma_value 0 = .ok (.aload_n 0, 1) := by decide +kernel
theorem d_Ma_value_1 : decode b_Ma_value 1 = .ok (.getfield 19, 3) := by decide +kernel
theorem d_Ma_value_4 : decode b_Ma_value 4 = .ok (.iconst 0, 1) := by decide +kernel
theorem d_Ma_value_5 : decode b_Ma_value 5 = .ok (.laload, 1) := by decide +kernel
theorem d_Ma_value_6 : decode b_Ma_value 6 = .ok (.lreturn, 1) := by decide +kernel
theorem d_Ma_isNull_0 : decode b_Ma_isNull 0 = .ok (.aload_n 0, 1) := by decide +kernel
theorem d_Ma_isNull_1 : decode b_Ma_isNull 1 = .ok (.getfield 22, 3) := by decide +kernel
theorem d_Ma_isNull_4 : decode b_Ma_isNull 4 = .ok (.iconst 0, 1) := by decide +kernel
theorem d_Ma_isNull_5 : decode b_Ma_isNull 5 = .ok (.baload, 1) := by decide +kernel
theorem d_Ma_isNull_6 : decode b_Ma_isNull 6 = .ok (.ireturn, 1) := by decide +kernel
theorem d_Ma_isTrue_0 : decode b_Ma_isTrue 0 = .ok (.aload_n 0, 1) := by decide +kernel
theorem d_Ma_isTrue_1 : decode b_Ma_isTrue 1 = .ok (.getfield 22, 3) := by decide +kernel
theorem d_Ma_isTrue_4 : decode b_Ma_isTrue 4 = .ok (.iconst 0, 1) := by decide +kernel
theorem d_Ma_isTrue_5 : decode b_Ma_isTrue 5 = .ok (.baload, 1) := by decide +kernel
theorem d_Ma_isTrue_6 : decode b_Ma_isTrue 6 = .ok (.ifCond .ne 18, 3) := by decide +kernel
theorem d_Ma_isTrue_9 : decode b_Ma_isTrue 9 = .ok (.aload_n 0, 1) := by decide +kernel
theorem d_Ma_isTrue_10 : decode b_Ma_isTrue 10 = .ok (.getfield 19, 3) := by decide +kernel
theorem d_Ma_isTrue_13 : decode b_Ma_isTrue 13 = .ok (.iconst 0, 1) := by decide +kernel
theorem d_Ma_isTrue_14 : decode b_Ma_isTrue 14 = .ok (.laload, 1) := by decide +kernel
theorem d_Ma_isTrue_15 : decode b_Ma_isTrue 15 = .ok (.lconst 1, 1) := by decide +kernel
theorem d_Ma_isTrue_16 : decode b_Ma_isTrue 16 = .ok (.lcmp, 1) := by decide +kernel
theorem d_Ma_isTrue_17 : decode b_Ma_isTrue 17 = .ok (.ifCond .ne 7, 3) := by decide +kernel
theorem d_Ma_isTrue_20 : decode b_Ma_isTrue 20 = .ok (.iconst 1, 1) := by decide +kernel
theorem d_Ma_isTrue_21 : decode b_Ma_isTrue 21 = .ok (.goto 4, 3) := by decide +kernel
theorem d_Ma_isTrue_24 : decode b_Ma_isTrue 24 = .ok (.iconst 0, 1) := by decide +kernel
theorem d_Ma_isTrue_25 : decode b_Ma_isTrue 25 = .ok (.ireturn, 1) := by decide +kernel
theorem d_Ma_set_0 : decode b_Ma_set 0 = .ok (.aload_n 0, 1) := by decide +kernel
theorem d_Ma_set_1 : decode b_Ma_set 1 = .ok (.getfield 19, 3) := by decide +kernel
theorem d_Ma_set_4 : decode b_Ma_set 4 = .ok (.iload_n 1, 1) := by decide +kernel
theorem d_Ma_set_5 : decode b_Ma_set 5 = .ok (.lload_n 2, 1) := by decide +kernel
theorem d_Ma_set_6 : decode b_Ma_set 6 = .ok (.lastore, 1) := by decide +kernel
theorem d_Ma_set_7 : decode b_Ma_set 7 = .ok (.aload_n 0, 1) := by decide +kernel
theorem d_Ma_set_8 : decode b_Ma_set 8 = .ok (.getfield 22, 3) := by decide +kernel
theorem d_Ma_set_11 : decode b_Ma_set 11 = .ok (.iload_n 1, 1) := by decide +kernel
theorem d_Ma_set_12 : decode b_Ma_set 12 = .ok (.iload 4, 2) := by decide +kernel
theorem d_Ma_set_14 : decode b_Ma_set 14 = .ok (.bastore, 1) := by decide +kernel
theorem d_Ma_set_15 : decode b_Ma_set 15 = .ok (.return_, 1) := by decide +kernel
theorem d_Ma_combine_0 : decode b_Ma_combine 0 = .ok (.iload_n 1, 1) := by decide +kernel
theorem d_Ma_combine_1 : decode b_Ma_combine 1 = .ok (.bipush 6, 2) := by decide +kernel
theorem d_Ma_combine_3 : decode b_Ma_combine 3 = .ok (.if_icmp .eq 9, 3) := by decide +kernel
theorem d_Ma_combine_6 : decode b_Ma_combine 6 = .ok (.iload_n 1, 1) := by decide +kernel
theorem d_Ma_combine_7 : decode b_Ma_combine 7 = .ok (.bipush 7, 2) := by decide +kernel
theorem d_Ma_combine_9 : decode b_Ma_combine 9 = .ok (.if_icmp .ne 23, 3) := by decide +kernel
theorem d_Ma_combine_12 : decode b_Ma_combine 12 = .ok (.aload_n 0, 1) := by decide +kernel
theorem d_Ma_combine_13 : decode b_Ma_combine 13 = .ok (.iload_n 2, 1) := by decide +kernel
theorem d_Ma_combine_14 : decode b_Ma_combine 14 = .ok (.iload_n 3, 1) := by decide +kernel
theorem d_Ma_combine_15 : decode b_Ma_combine 15 = .ok (.iload_n 1, 1) := by decide +kernel
theorem d_Ma_combine_16 : decode b_Ma_combine 16 = .ok (.bipush 7, 2) := by decide +kernel
theorem d_Ma_combine_18 : decode b_Ma_combine 18 = .ok (.if_icmp .ne 7, 3) := by decide +kernel
theorem d_Ma_combine_21 : decode b_Ma_combine 21 = .ok (.lconst 1, 1) := by decide +kernel
theorem d_Ma_combine_22 : decode b_Ma_combine 22 = .ok (.goto 4, 3) := by decide +kernel
theorem d_Ma_combine_25 : decode b_Ma_combine 25 = .ok (.lconst 0, 1) := by decide +kernel
theorem d_Ma_combine_26 : decode b_Ma_combine 26 = .ok (.invokevirtual 56, 3) := by decide +kernel
theorem d_Ma_combine_29 : decode b_Ma_combine 29 = .ok (.goto 177, 3) := by decide +kernel
theorem d_Ma_combine_32 : decode b_Ma_combine 32 = .ok (.aload_n 0, 1) := by decide +kernel
theorem d_Ma_combine_33 : decode b_Ma_combine 33 = .ok (.getfield 22, 3) := by decide +kernel
theorem d_Ma_combine_36 : decode b_Ma_combine 36 = .ok (.iload_n 2, 1) := by decide +kernel
theorem d_Ma_combine_37 : decode b_Ma_combine 37 = .ok (.baload, 1) := by decide +kernel
theorem d_Ma_combine_38 : decode b_Ma_combine 38 = .ok (.ifCond .ne 12, 3) := by decide +kernel
theorem d_Ma_combine_41 : decode b_Ma_combine 41 = .ok (.aload_n 0, 1) := by decide +kernel
theorem d_Ma_combine_42 : decode b_Ma_combine 42 = .ok (.getfield 22, 3) := by decide +kernel
theorem d_Ma_combine_45 : decode b_Ma_combine 45 = .ok (.iload_n 3, 1) := by decide +kernel
theorem d_Ma_combine_46 : decode b_Ma_combine 46 = .ok (.baload, 1) := by decide +kernel
theorem d_Ma_combine_47 : decode b_Ma_combine 47 = .ok (.ifCond .eq 13, 3) := by decide +kernel
theorem d_Ma_combine_50 : decode b_Ma_combine 50 = .ok (.aload_n 0, 1) := by decide +kernel
theorem d_Ma_combine_51 : decode b_Ma_combine 51 = .ok (.getfield 22, 3) := by decide +kernel
theorem d_Ma_combine_54 : decode b_Ma_combine 54 = .ok (.iload_n 2, 1) := by decide +kernel
theorem d_Ma_combine_55 : decode b_Ma_combine 55 = .ok (.iconst 1, 1) := by decide +kernel
theorem d_Ma_combine_56 : decode b_Ma_combine 56 = .ok (.bastore, 1) := by decide +kernel
theorem d_Ma_combine_57 : decode b_Ma_combine 57 = .ok (.goto 149, 3) := by decide +kernel
theorem d_Ma_combine_60 : decode b_Ma_combine 60 = .ok (.iload_n 1, 1) := by decide +kernel
theorem d_Ma_combine_61 : decode b_Ma_combine 61 = .ok (.iconst 4, 1) := by decide +kernel
theorem d_Ma_combine_62 : decode b_Ma_combine 62 = .ok (.if_icmp .eq 8, 3) := by decide +kernel
theorem d_Ma_combine_65 : decode b_Ma_combine 65 = .ok (.iload_n 1, 1) := by decide +kernel
theorem d_Ma_combine_66 : decode b_Ma_combine 66 = .ok (.iconst 5, 1) := by decide +kernel
theorem d_Ma_combine_67 : decode b_Ma_combine 67 = .ok (.if_icmp .ne 74, 3) := by decide +kernel
theorem d_Ma_combine_70 : decode b_Ma_combine 70 = .ok (.iload_n 1, 1) := by decide +kernel
theorem d_Ma_combine_71 : decode b_Ma_combine 71 = .ok (.iconst 4, 1) := by decide +kernel
theorem d_Ma_combine_72 : decode b_Ma_combine 72 = .ok (.if_icmp .ne 27, 3) := by decide +kernel
theorem d_Ma_combine_75 : decode b_Ma_combine 75 = .ok (.aload_n 0, 1) := by decide +kernel
theorem d_Ma_combine_76 : decode b_Ma_combine 76 = .ok (.getfield 19, 3) := by decide +kernel
theorem d_Ma_combine_79 : decode b_Ma_combine 79 = .ok (.iload_n 2, 1) := by decide +kernel
theorem d_Ma_combine_80 : decode b_Ma_combine 80 = .ok (.laload, 1) := by decide +kernel
theorem d_Ma_combine_81 : decode b_Ma_combine 81 = .ok (.aload_n 0, 1) := by decide +kernel
theorem d_Ma_combine_82 : decode b_Ma_combine 82 = .ok (.getfield 19, 3) := by decide +kernel
theorem d_Ma_combine_85 : decode b_Ma_combine 85 = .ok (.iload_n 3, 1) := by decide +kernel
theorem d_Ma_combine_86 : decode b_Ma_combine 86 = .ok (.laload, 1) := by decide +kernel
theorem d_Ma_combine_87 : decode b_Ma_combine 87 = .ok (.lcmp, 1) := by decide +kernel
theorem d_Ma_combine_88 : decode b_Ma_combine 88 = .ok (.ifCond .ne 7, 3) := by decide +kernel
theorem d_Ma_combine_91 : decode b_Ma_combine 91 = .ok (.iconst 1, 1) := by decide +kernel
theorem d_Ma_combine_92 : decode b_Ma_combine 92 = .ok (.goto 28, 3) := by decide +kernel
theorem d_Ma_combine_95 : decode b_Ma_combine 95 = .ok (.iconst 0, 1) := by decide +kernel
theorem d_Ma_combine_96 : decode b_Ma_combine 96 = .ok (.goto 24, 3) := by decide +kernel
theorem d_Ma_combine_99 : decode b_Ma_combine 99 = .ok (.aload_n 0, 1) := by decide +kernel
theorem d_Ma_combine_100 : decode b_Ma_combine 100 = .ok (.getfield 19, 3) := by decide +kernel
theorem d_Ma_combine_103 : decode b_Ma_combine 103 = .ok (.iload_n 2, 1) := by decide +kernel
theorem d_Ma_combine_104 : decode b_Ma_combine 104 = .ok (.laload, 1) := by decide +kernel
theorem d_Ma_combine_105 : decode b_Ma_combine 105 = .ok (.aload_n 0, 1) := by decide +kernel
theorem d_Ma_combine_106 : decode b_Ma_combine 106 = .ok (.getfield 19, 3) := by decide +kernel
theorem d_Ma_combine_109 : decode b_Ma_combine 109 = .ok (.iload_n 3, 1) := by decide +kernel
theorem d_Ma_combine_110 : decode b_Ma_combine 110 = .ok (.laload, 1) := by decide +kernel
theorem d_Ma_combine_111 : decode b_Ma_combine 111 = .ok (.lcmp, 1) := by decide +kernel
theorem d_Ma_combine_112 : decode b_Ma_combine 112 = .ok (.ifCond .ge 7, 3) := by decide +kernel
theorem d_Ma_combine_115 : decode b_Ma_combine 115 = .ok (.iconst 1, 1) := by decide +kernel
theorem d_Ma_combine_116 : decode b_Ma_combine 116 = .ok (.goto 4, 3) := by decide +kernel
theorem d_Ma_combine_119 : decode b_Ma_combine 119 = .ok (.iconst 0, 1) := by decide +kernel
theorem d_Ma_combine_120 : decode b_Ma_combine 120 = .ok (.istore 4, 2) := by decide +kernel
theorem d_Ma_combine_122 : decode b_Ma_combine 122 = .ok (.aload_n 0, 1) := by decide +kernel
theorem d_Ma_combine_123 : decode b_Ma_combine 123 = .ok (.getfield 19, 3) := by decide +kernel
theorem d_Ma_combine_126 : decode b_Ma_combine 126 = .ok (.iload_n 2, 1) := by decide +kernel
theorem d_Ma_combine_127 : decode b_Ma_combine 127 = .ok (.iload 4, 2) := by decide +kernel
theorem d_Ma_combine_129 : decode b_Ma_combine 129 = .ok (.ifCond .eq 7, 3) := by decide +kernel
theorem d_Ma_combine_132 : decode b_Ma_combine 132 = .ok (.lconst 1, 1) := by decide +kernel
theorem d_Ma_combine_133 : decode b_Ma_combine 133 = .ok (.goto 4, 3) := by decide +kernel
theorem d_Ma_combine_136 : decode b_Ma_combine 136 = .ok (.lconst 0, 1) := by decide +kernel
theorem d_Ma_combine_137 : decode b_Ma_combine 137 = .ok (.lastore, 1) := by decide +kernel
theorem d_Ma_combine_138 : decode b_Ma_combine 138 = .ok (.goto 68, 3) := by decide +kernel
theorem d_Ma_combine_141 : decode b_Ma_combine 141 = .ok (.aload_n 0, 1) := by decide +kernel
theorem d_Ma_combine_142 : decode b_Ma_combine 142 = .ok (.getfield 22, 3) := by decide +kernel
theorem d_Ma_combine_145 : decode b_Ma_combine 145 = .ok (.iload_n 2, 1) := by decide +kernel
theorem d_Ma_combine_146 : decode b_Ma_combine 146 = .ok (.iload_n 1, 1) := by decide +kernel
theorem d_Ma_combine_147 : decode b_Ma_combine 147 = .ok (.aload_n 0, 1) := by decide +kernel
theorem d_Ma_combine_148 : decode b_Ma_combine 148 = .ok (.getfield 19, 3) := by decide +kernel
theorem d_Ma_combine_151 : decode b_Ma_combine 151 = .ok (.iload_n 2, 1) := by decide +kernel
theorem d_Ma_combine_152 : decode b_Ma_combine 152 = .ok (.laload, 1) := by decide +kernel
theorem d_Ma_combine_153 : decode b_Ma_combine 153 = .ok (.aload_n 0, 1) := by decide +kernel
theorem d_Ma_combine_154 : decode b_Ma_combine 154 = .ok (.getfield 19, 3) := by decide +kernel
theorem d_Ma_combine_157 : decode b_Ma_combine 157 = .ok (.iload_n 3, 1) := by decide +kernel
theorem d_Ma_combine_158 : decode b_Ma_combine 158 = .ok (.laload, 1) := by decide +kernel
theorem d_Ma_combine_159 : decode b_Ma_combine 159 = .ok (.invokestatic 60, 3) := by decide +kernel
theorem d_Ma_combine_162 : decode b_Ma_combine 162 = .ok (.ifCond .ne 7, 3) := by decide +kernel
theorem d_Ma_combine_165 : decode b_Ma_combine 165 = .ok (.iconst 1, 1) := by decide +kernel
theorem d_Ma_combine_166 : decode b_Ma_combine 166 = .ok (.goto 4, 3) := by decide +kernel
theorem d_Ma_combine_169 : decode b_Ma_combine 169 = .ok (.iconst 0, 1) := by decide +kernel
theorem d_Ma_combine_170 : decode b_Ma_combine 170 = .ok (.bastore, 1) := by decide +kernel
theorem d_Ma_combine_171 : decode b_Ma_combine 171 = .ok (.aload_n 0, 1) := by decide +kernel
theorem d_Ma_combine_172 : decode b_Ma_combine 172 = .ok (.getfield 19, 3) := by decide +kernel
theorem d_Ma_combine_175 : decode b_Ma_combine 175 = .ok (.iload_n 2, 1) := by decide +kernel
theorem d_Ma_combine_176 : decode b_Ma_combine 176 = .ok (.aload_n 0, 1) := by decide +kernel
theorem d_Ma_combine_177 : decode b_Ma_combine 177 = .ok (.getfield 22, 3) := by decide +kernel
theorem d_Ma_combine_180 : decode b_Ma_combine 180 = .ok (.iload_n 2, 1) := by decide +kernel
theorem d_Ma_combine_181 : decode b_Ma_combine 181 = .ok (.baload, 1) := by decide +kernel
theorem d_Ma_combine_182 : decode b_Ma_combine 182 = .ok (.ifCond .eq 7, 3) := by decide +kernel
theorem d_Ma_combine_185 : decode b_Ma_combine 185 = .ok (.lconst 0, 1) := by decide +kernel
theorem d_Ma_combine_186 : decode b_Ma_combine 186 = .ok (.goto 19, 3) := by decide +kernel
theorem d_Ma_combine_189 : decode b_Ma_combine 189 = .ok (.iload_n 1, 1) := by decide +kernel
theorem d_Ma_combine_190 : decode b_Ma_combine 190 = .ok (.aload_n 0, 1) := by decide +kernel
theorem d_Ma_combine_191 : decode b_Ma_combine 191 = .ok (.getfield 19, 3) := by decide +kernel
theorem d_Ma_combine_194 : decode b_Ma_combine 194 = .ok (.iload_n 2, 1) := by decide +kernel
theorem d_Ma_combine_195 : decode b_Ma_combine 195 = .ok (.laload, 1) := by decide +kernel
theorem d_Ma_combine_196 : decode b_Ma_combine 196 = .ok (.aload_n 0, 1) := by decide +kernel
theorem d_Ma_combine_197 : decode b_Ma_combine 197 = .ok (.getfield 19, 3) := by decide +kernel
theorem d_Ma_combine_200 : decode b_Ma_combine 200 = .ok (.iload_n 3, 1) := by decide +kernel
theorem d_Ma_combine_201 : decode b_Ma_combine 201 = .ok (.laload, 1) := by decide +kernel
theorem d_Ma_combine_202 : decode b_Ma_combine 202 = .ok (.invokestatic 64, 3) := by decide +kernel
theorem d_Ma_combine_205 : decode b_Ma_combine 205 = .ok (.lastore, 1) := by decide +kernel
theorem d_Ma_combine_206 : decode b_Ma_combine 206 = .ok (.return_, 1) := by decide +kernel
theorem d_Ma_decide_0 : decode b_Ma_decide 0 = .ok (.aload_n 0, 1) := by decide +kernel
theorem d_Ma_decide_1 : decode b_Ma_decide 1 = .ok (.getfield 22, 3) := by decide +kernel
theorem d_Ma_decide_4 : decode b_Ma_decide 4 = .ok (.iload_n 1, 1) := by decide +kernel
theorem d_Ma_decide_5 : decode b_Ma_decide 5 = .ok (.baload, 1) := by decide +kernel
theorem d_Ma_decide_6 : decode b_Ma_decide 6 = .ok (.ifCond .ne 14, 3) := by decide +kernel
theorem d_Ma_decide_9 : decode b_Ma_decide 9 = .ok (.aload_n 0, 1) := by decide +kernel
theorem d_Ma_decide_10 : decode b_Ma_decide 10 = .ok (.getfield 19, 3) := by decide +kernel
theorem d_Ma_decide_13 : decode b_Ma_decide 13 = .ok (.iload_n 1, 1) := by decide +kernel
theorem d_Ma_decide_14 : decode b_Ma_decide 14 = .ok (.laload, 1) := by decide +kernel
theorem d_Ma_decide_15 : decode b_Ma_decide 15 = .ok (.lload_n 3, 1) := by decide +kernel
theorem d_Ma_decide_16 : decode b_Ma_decide 16 = .ok (.lcmp, 1) := by decide +kernel
theorem d_Ma_decide_17 : decode b_Ma_decide 17 = .ok (.ifCond .eq 23, 3) := by decide +kernel
theorem d_Ma_decide_20 : decode b_Ma_decide 20 = .ok (.aload_n 0, 1) := by decide +kernel
theorem d_Ma_decide_21 : decode b_Ma_decide 21 = .ok (.getfield 22, 3) := by decide +kernel
theorem d_Ma_decide_24 : decode b_Ma_decide 24 = .ok (.iload_n 2, 1) := by decide +kernel
theorem d_Ma_decide_25 : decode b_Ma_decide 25 = .ok (.baload, 1) := by decide +kernel
theorem d_Ma_decide_26 : decode b_Ma_decide 26 = .ok (.ifCond .ne 18, 3) := by decide +kernel
theorem d_Ma_decide_29 : decode b_Ma_decide 29 = .ok (.aload_n 0, 1) := by decide +kernel
theorem d_Ma_decide_30 : decode b_Ma_decide 30 = .ok (.getfield 19, 3) := by decide +kernel
theorem d_Ma_decide_33 : decode b_Ma_decide 33 = .ok (.iload_n 2, 1) := by decide +kernel
theorem d_Ma_decide_34 : decode b_Ma_decide 34 = .ok (.laload, 1) := by decide +kernel
theorem d_Ma_decide_35 : decode b_Ma_decide 35 = .ok (.lload_n 3, 1) := by decide +kernel
theorem d_Ma_decide_36 : decode b_Ma_decide 36 = .ok (.lcmp, 1) := by decide +kernel
theorem d_Ma_decide_37 : decode b_Ma_decide 37 = .ok (.ifCond .ne 7, 3) := by decide +kernel
theorem d_Ma_decide_40 : decode b_Ma_decide 40 = .ok (.iconst 1, 1) := by decide +kernel
theorem d_Ma_decide_41 : decode b_Ma_decide 41 = .ok (.goto 4, 3) := by decide +kernel
theorem d_Ma_decide_44 : decode b_Ma_decide 44 = .ok (.iconst 0, 1) := by decide +kernel
theorem d_Ma_decide_45 : decode b_Ma_decide 45 = .ok (.istore 5, 2) := by decide +kernel
theorem d_Ma_decide_47 : decode b_Ma_decide 47 = .ok (.iload 5, 2) := by decide +kernel
theorem d_Ma_decide_49 : decode b_Ma_decide 49 = .ok (.ifCond .eq 13, 3) := by decide +kernel
theorem d_Ma_decide_52 : decode b_Ma_decide 52 = .ok (.aload_n 0, 1) := by decide +kernel
theorem d_Ma_decide_53 : decode b_Ma_decide 53 = .ok (.iload_n 1, 1) := by decide +kernel
theorem d_Ma_decide_54 : decode b_Ma_decide 54 = .ok (.lload_n 3, 1) := by decide +kernel
theorem d_Ma_decide_55 : decode b_Ma_decide 55 = .ok (.iconst 0, 1) := by decide +kernel
theorem d_Ma_decide_56 : decode b_Ma_decide 56 = .ok (.invokevirtual 35, 3) := by decide +kernel
theorem d_Ma_decide_59 : decode b_Ma_decide 59 = .ok (.goto 40, 3) := by decide +kernel
theorem d_Ma_decide_62 : decode b_Ma_decide 62 = .ok (.aload_n 0, 1) := by decide +kernel
theorem d_Ma_decide_63 : decode b_Ma_decide 63 = .ok (.getfield 22, 3) := by decide +kernel
theorem d_Ma_decide_66 : decode b_Ma_decide 66 = .ok (.iload_n 1, 1) := by decide +kernel
theorem d_Ma_decide_67 : decode b_Ma_decide 67 = .ok (.baload, 1) := by decide +kernel
theorem d_Ma_decide_68 : decode b_Ma_decide 68 = .ok (.ifCond .ne 12, 3) := by decide +kernel
theorem d_Ma_decide_71 : decode b_Ma_decide 71 = .ok (.aload_n 0, 1) := by decide +kernel
theorem d_Ma_decide_72 : decode b_Ma_decide 72 = .ok (.getfield 22, 3) := by decide +kernel
theorem d_Ma_decide_75 : decode b_Ma_decide 75 = .ok (.iload_n 2, 1) := by decide +kernel
theorem d_Ma_decide_76 : decode b_Ma_decide 76 = .ok (.baload, 1) := by decide +kernel
theorem d_Ma_decide_77 : decode b_Ma_decide 77 = .ok (.ifCond .eq 13, 3) := by decide +kernel
theorem d_Ma_decide_80 : decode b_Ma_decide 80 = .ok (.aload_n 0, 1) := by decide +kernel
theorem d_Ma_decide_81 : decode b_Ma_decide 81 = .ok (.iload_n 1, 1) := by decide +kernel
theorem d_Ma_decide_82 : decode b_Ma_decide 82 = .ok (.lconst 0, 1) := by decide +kernel
theorem d_Ma_decide_83 : decode b_Ma_decide 83 = .ok (.iconst 1, 1) := by decide +kernel
theorem d_Ma_decide_84 : decode b_Ma_decide 84 = .ok (.invokevirtual 35, 3) := by decide +kernel
theorem d_Ma_decide_87 : decode b_Ma_decide 87 = .ok (.goto 12, 3) := by decide +kernel
theorem d_Ma_decide_90 : decode b_Ma_decide 90 = .ok (.aload_n 0, 1) := by decide +kernel
theorem d_Ma_decide_91 : decode b_Ma_decide 91 = .ok (.iload_n 1, 1) := by decide +kernel
theorem d_Ma_decide_92 : decode b_Ma_decide 92 = .ok (.lconst 1, 1) := by decide +kernel
theorem d_Ma_decide_93 : decode b_Ma_decide 93 = .ok (.lload_n 3, 1) := by decide +kernel
theorem d_Ma_decide_94 : decode b_Ma_decide 94 = .ok (.lsub, 1) := by decide +kernel
theorem d_Ma_decide_95 : decode b_Ma_decide 95 = .ok (.iconst 0, 1) := by decide +kernel
theorem d_Ma_decide_96 : decode b_Ma_decide 96 = .ok (.invokevirtual 35, 3) := by decide +kernel
theorem d_Ma_decide_99 : decode b_Ma_decide 99 = .ok (.return_, 1) := by decide +kernel
theorem d_Ma_isLong_0 : decode b_Ma_isLong 0 = .ok (.iload_n 0, 1) := by decide +kernel
theorem d_Ma_isLong_1 : decode b_Ma_isLong 1 = .ok (.tableswitch 151 0 3 #[31, 53, 73, 123], 31) := by decide +kernel
theorem d_Ma_isLong_32 : decode b_Ma_isLong 32 = .ok (.lload_n 1, 1) := by decide +kernel
theorem d_Ma_isLong_33 : decode b_Ma_isLong 33 = .ok (.lload_n 1, 1) := by decide +kernel
theorem d_Ma_isLong_34 : decode b_Ma_isLong 34 = .ok (.lload_n 3, 1) := by decide +kernel
theorem d_Ma_isLong_35 : decode b_Ma_isLong 35 = .ok (.ladd, 1) := by decide +kernel
theorem d_Ma_isLong_36 : decode b_Ma_isLong 36 = .ok (.lxor, 1) := by decide +kernel
theorem d_Ma_isLong_37 : decode b_Ma_isLong 37 = .ok (.lload_n 3, 1) := by decide +kernel
theorem d_Ma_isLong_38 : decode b_Ma_isLong 38 = .ok (.lload_n 1, 1) := by decide +kernel
theorem d_Ma_isLong_39 : decode b_Ma_isLong 39 = .ok (.lload_n 3, 1) := by decide +kernel
theorem d_Ma_isLong_40 : decode b_Ma_isLong 40 = .ok (.ladd, 1) := by decide +kernel
theorem d_Ma_isLong_41 : decode b_Ma_isLong 41 = .ok (.lxor, 1) := by decide +kernel
theorem d_Ma_isLong_42 : decode b_Ma_isLong 42 = .ok (.land, 1) := by decide +kernel
theorem d_Ma_isLong_43 : decode b_Ma_isLong 43 = .ok (.lconst 0, 1) := by decide +kernel
theorem d_Ma_isLong_44 : decode b_Ma_isLong 44 = .ok (.lcmp, 1) := by decide +kernel
theorem d_Ma_isLong_45 : decode b_Ma_isLong 45 = .ok (.ifCond .lt 7, 3) := by decide +kernel
theorem d_Ma_isLong_48 : decode b_Ma_isLong 48 = .ok (.iconst 1, 1) := by decide +kernel
theorem d_Ma_isLong_49 : decode b_Ma_isLong 49 = .ok (.goto 4, 3) := by decide +kernel
theorem d_Ma_isLong_52 : decode b_Ma_isLong 52 = .ok (.iconst 0, 1) := by decide +kernel
theorem d_Ma_isLong_53 : decode b_Ma_isLong 53 = .ok (.ireturn, 1) := by decide +kernel
theorem d_Ma_isLong_54 : decode b_Ma_isLong 54 = .ok (.lload_n 1, 1) := by decide +kernel
theorem d_Ma_isLong_55 : decode b_Ma_isLong 55 = .ok (.lload_n 3, 1) := by decide +kernel
theorem d_Ma_isLong_56 : decode b_Ma_isLong 56 = .ok (.lxor, 1) := by decide +kernel
theorem d_Ma_isLong_57 : decode b_Ma_isLong 57 = .ok (.lload_n 1, 1) := by decide +kernel
theorem d_Ma_isLong_58 : decode b_Ma_isLong 58 = .ok (.lload_n 1, 1) := by decide +kernel
theorem d_Ma_isLong_59 : decode b_Ma_isLong 59 = .ok (.lload_n 3, 1) := by decide +kernel
theorem d_Ma_isLong_60 : decode b_Ma_isLong 60 = .ok (.lsub, 1) := by decide +kernel
theorem d_Ma_isLong_61 : decode b_Ma_isLong 61 = .ok (.lxor, 1) := by decide +kernel
theorem d_Ma_isLong_62 : decode b_Ma_isLong 62 = .ok (.land, 1) := by decide +kernel
theorem d_Ma_isLong_63 : decode b_Ma_isLong 63 = .ok (.lconst 0, 1) := by decide +kernel
theorem d_Ma_isLong_64 : decode b_Ma_isLong 64 = .ok (.lcmp, 1) := by decide +kernel
theorem d_Ma_isLong_65 : decode b_Ma_isLong 65 = .ok (.ifCond .lt 7, 3) := by decide +kernel
theorem d_Ma_isLong_68 : decode b_Ma_isLong 68 = .ok (.iconst 1, 1) := by decide +kernel
theorem d_Ma_isLong_69 : decode b_Ma_isLong 69 = .ok (.goto 4, 3) := by decide +kernel
theorem d_Ma_isLong_72 : decode b_Ma_isLong 72 = .ok (.iconst 0, 1) := by decide +kernel
theorem d_Ma_isLong_73 : decode b_Ma_isLong 73 = .ok (.ireturn, 1) := by decide +kernel
theorem d_Ma_isLong_74 : decode b_Ma_isLong 74 = .ok (.lload_n 3, 1) := by decide +kernel
theorem d_Ma_isLong_75 : decode b_Ma_isLong 75 = .ok (.lconst 0, 1) := by decide +kernel
theorem d_Ma_isLong_76 : decode b_Ma_isLong 76 = .ok (.lcmp, 1) := by decide +kernel
theorem d_Ma_isLong_77 : decode b_Ma_isLong 77 = .ok (.ifCond .eq 11, 3) := by decide +kernel
theorem d_Ma_isLong_80 : decode b_Ma_isLong 80 = .ok (.lload_n 3, 1) := by decide +kernel
theorem d_Ma_isLong_81 : decode b_Ma_isLong 81 = .ok (.ldc2_w 68, 3) := by decide +kernel
theorem d_Ma_isLong_84 : decode b_Ma_isLong 84 = .ok (.lcmp, 1) := by decide +kernel
theorem d_Ma_isLong_85 : decode b_Ma_isLong 85 = .ok (.ifCond .ne 23, 3) := by decide +kernel
theorem d_Ma_isLong_88 : decode b_Ma_isLong 88 = .ok (.lload_n 3, 1) := by decide +kernel
theorem d_Ma_isLong_89 : decode b_Ma_isLong 89 = .ok (.lconst 0, 1) := by decide +kernel
theorem d_Ma_isLong_90 : decode b_Ma_isLong 90 = .ok (.lcmp, 1) := by decide +kernel
theorem d_Ma_isLong_91 : decode b_Ma_isLong 91 = .ok (.ifCond .eq 11, 3) := by decide +kernel
theorem d_Ma_isLong_94 : decode b_Ma_isLong 94 = .ok (.lload_n 1, 1) := by decide +kernel
theorem d_Ma_isLong_95 : decode b_Ma_isLong 95 = .ok (.ldc2_w 70, 3) := by decide +kernel
theorem d_Ma_isLong_98 : decode b_Ma_isLong 98 = .ok (.lcmp, 1) := by decide +kernel
theorem d_Ma_isLong_99 : decode b_Ma_isLong 99 = .ok (.ifCond .eq 7, 3) := by decide +kernel
theorem d_Ma_isLong_102 : decode b_Ma_isLong 102 = .ok (.iconst 1, 1) := by decide +kernel
theorem d_Ma_isLong_103 : decode b_Ma_isLong 103 = .ok (.goto 4, 3) := by decide +kernel
theorem d_Ma_isLong_106 : decode b_Ma_isLong 106 = .ok (.iconst 0, 1) := by decide +kernel
theorem d_Ma_isLong_107 : decode b_Ma_isLong 107 = .ok (.ireturn, 1) := by decide +kernel
theorem d_Ma_isLong_108 : decode b_Ma_isLong 108 = .ok (.lload_n 1, 1) := by decide +kernel
theorem d_Ma_isLong_109 : decode b_Ma_isLong 109 = .ok (.lload_n 3, 1) := by decide +kernel
theorem d_Ma_isLong_110 : decode b_Ma_isLong 110 = .ok (.lmul, 1) := by decide +kernel
theorem d_Ma_isLong_111 : decode b_Ma_isLong 111 = .ok (.lload_n 3, 1) := by decide +kernel
theorem d_Ma_isLong_112 : decode b_Ma_isLong 112 = .ok (.ldiv, 1) := by decide +kernel
theorem d_Ma_isLong_113 : decode b_Ma_isLong 113 = .ok (.lload_n 1, 1) := by decide +kernel
theorem d_Ma_isLong_114 : decode b_Ma_isLong 114 = .ok (.lcmp, 1) := by decide +kernel
theorem d_Ma_isLong_115 : decode b_Ma_isLong 115 = .ok (.ifCond .ne 7, 3) := by decide +kernel
theorem d_Ma_isLong_118 : decode b_Ma_isLong 118 = .ok (.iconst 1, 1) := by decide +kernel
theorem d_Ma_isLong_119 : decode b_Ma_isLong 119 = .ok (.goto 4, 3) := by decide +kernel
theorem d_Ma_isLong_122 : decode b_Ma_isLong 122 = .ok (.iconst 0, 1) := by decide +kernel
theorem d_Ma_isLong_123 : decode b_Ma_isLong 123 = .ok (.ireturn, 1) := by decide +kernel
theorem d_Ma_isLong_124 : decode b_Ma_isLong 124 = .ok (.lload_n 3, 1) := by decide +kernel
theorem d_Ma_isLong_125 : decode b_Ma_isLong 125 = .ok (.lconst 0, 1) := by decide +kernel
theorem d_Ma_isLong_126 : decode b_Ma_isLong 126 = .ok (.lcmp, 1) := by decide +kernel
theorem d_Ma_isLong_127 : decode b_Ma_isLong 127 = .ok (.ifCond .eq 23, 3) := by decide +kernel
theorem d_Ma_isLong_130 : decode b_Ma_isLong 130 = .ok (.lload_n 3, 1) := by decide +kernel
theorem d_Ma_isLong_131 : decode b_Ma_isLong 131 = .ok (.ldc2_w 68, 3) := by decide +kernel
theorem d_Ma_isLong_134 : decode b_Ma_isLong 134 = .ok (.lcmp, 1) := by decide +kernel
theorem d_Ma_isLong_135 : decode b_Ma_isLong 135 = .ok (.ifCond .ne 11, 3) := by decide +kernel
theorem d_Ma_isLong_138 : decode b_Ma_isLong 138 = .ok (.lload_n 1, 1) := by decide +kernel
theorem d_Ma_isLong_139 : decode b_Ma_isLong 139 = .ok (.ldc2_w 70, 3) := by decide +kernel
theorem d_Ma_isLong_142 : decode b_Ma_isLong 142 = .ok (.lcmp, 1) := by decide +kernel
theorem d_Ma_isLong_143 : decode b_Ma_isLong 143 = .ok (.ifCond .eq 7, 3) := by decide +kernel
theorem d_Ma_isLong_146 : decode b_Ma_isLong 146 = .ok (.iconst 1, 1) := by decide +kernel
theorem d_Ma_isLong_147 : decode b_Ma_isLong 147 = .ok (.goto 4, 3) := by decide +kernel
theorem d_Ma_isLong_150 : decode b_Ma_isLong 150 = .ok (.iconst 0, 1) := by decide +kernel
theorem d_Ma_isLong_151 : decode b_Ma_isLong 151 = .ok (.ireturn, 1) := by decide +kernel
theorem d_Ma_isLong_152 : decode b_Ma_isLong 152 = .ok (.iconst 0, 1) := by decide +kernel
theorem d_Ma_isLong_153 : decode b_Ma_isLong 153 = .ok (.ireturn, 1) := by decide +kernel
theorem d_Ma_calculate_0 : decode b_Ma_calculate 0 = .ok (.iload_n 0, 1) := by decide +kernel
theorem d_Ma_calculate_1 : decode b_Ma_calculate 1 = .ok (.tableswitch 39 0 2 #[27, 31, 35], 27) := by decide +kernel
theorem d_Ma_calculate_28 : decode b_Ma_calculate 28 = .ok (.lload_n 1, 1) := by decide +kernel
theorem d_Ma_calculate_29 : decode b_Ma_calculate 29 = .ok (.lload_n 3, 1) := by decide +kernel
theorem d_Ma_calculate_30 : decode b_Ma_calculate 30 = .ok (.ladd, 1) := by decide +kernel
theorem d_Ma_calculate_31 : decode b_Ma_calculate 31 = .ok (.lreturn, 1) := by decide +kernel
theorem d_Ma_calculate_32 : decode b_Ma_calculate 32 = .ok (.lload_n 1, 1) := by decide +kernel
theorem d_Ma_calculate_33 : decode b_Ma_calculate 33 = .ok (.lload_n 3, 1) := by decide +kernel
theorem d_Ma_calculate_34 : decode b_Ma_calculate 34 = .ok (.lsub, 1) := by decide +kernel
theorem d_Ma_calculate_35 : decode b_Ma_calculate 35 = .ok (.lreturn, 1) := by decide +kernel
theorem d_Ma_calculate_36 : decode b_Ma_calculate 36 = .ok (.lload_n 1, 1) := by decide +kernel
theorem d_Ma_calculate_37 : decode b_Ma_calculate 37 = .ok (.lload_n 3, 1) := by decide +kernel
theorem d_Ma_calculate_38 : decode b_Ma_calculate 38 = .ok (.lmul, 1) := by decide +kernel
theorem d_Ma_calculate_39 : decode b_Ma_calculate 39 = .ok (.lreturn, 1) := by decide +kernel
theorem d_Ma_calculate_40 : decode b_Ma_calculate 40 = .ok (.lload_n 3, 1) := by decide +kernel
theorem d_Ma_calculate_41 : decode b_Ma_calculate 41 = .ok (.lconst 0, 1) := by decide +kernel
theorem d_Ma_calculate_42 : decode b_Ma_calculate 42 = .ok (.lcmp, 1) := by decide +kernel
theorem d_Ma_calculate_43 : decode b_Ma_calculate 43 = .ok (.ifCond .ne 7, 3) := by decide +kernel
theorem d_Ma_calculate_46 : decode b_Ma_calculate 46 = .ok (.lconst 0, 1) := by decide +kernel
theorem d_Ma_calculate_47 : decode b_Ma_calculate 47 = .ok (.goto 6, 3) := by decide +kernel
theorem d_Ma_calculate_50 : decode b_Ma_calculate 50 = .ok (.lload_n 1, 1) := by decide +kernel
theorem d_Ma_calculate_51 : decode b_Ma_calculate 51 = .ok (.lload_n 3, 1) := by decide +kernel
theorem d_Ma_calculate_52 : decode b_Ma_calculate 52 = .ok (.ldiv, 1) := by decide +kernel
theorem d_Ma_calculate_53 : decode b_Ma_calculate 53 = .ok (.lreturn, 1) := by decide +kernel
theorem d_Pl_init_0 : decode b_Pl_init 0 = .ok (.aload_n 0, 1) := by decide +kernel
theorem d_Pl_init_1 : decode b_Pl_init 1 = .ok (.invokespecial 3, 3) := by decide +kernel
theorem d_Pl_init_4 : decode b_Pl_init 4 = .ok (.aload_n 0, 1) := by decide +kernel
theorem d_Pl_init_5 : decode b_Pl_init 5 = .ok (.iconst 3, 1) := by decide +kernel
theorem d_Pl_init_6 : decode b_Pl_init 6 = .ok (.anewarray 9, 3) := by decide +kernel
theorem d_Pl_init_9 : decode b_Pl_init 9 = .ok (.putfield 11, 3) := by decide +kernel
theorem d_Pl_init_12 : decode b_Pl_init 12 = .ok (.aload_n 0, 1) := by decide +kernel
theorem d_Pl_init_13 : decode b_Pl_init 13 = .ok (.new 17, 3) := by decide +kernel
theorem d_Pl_init_16 : decode b_Pl_init 16 = .ok (.dup, 1) := by decide +kernel
theorem d_Pl_init_17 : decode b_Pl_init 17 = .ok (.invokespecial 19, 3) := by decide +kernel
theorem d_Pl_init_20 : decode b_Pl_init 20 = .ok (.putfield 20, 3) := by decide +kernel
theorem d_Pl_init_23 : decode b_Pl_init 23 = .ok (.aload_n 0, 1) := by decide +kernel
theorem d_Pl_init_24 : decode b_Pl_init 24 = .ok (.new 24, 3) := by decide +kernel
theorem d_Pl_init_27 : decode b_Pl_init 27 = .ok (.dup, 1) := by decide +kernel
theorem d_Pl_init_28 : decode b_Pl_init 28 = .ok (.invokespecial 26, 3) := by decide +kernel
theorem d_Pl_init_31 : decode b_Pl_init 31 = .ok (.putfield 27, 3) := by decide +kernel
theorem d_Pl_init_34 : decode b_Pl_init 34 = .ok (.aload_n 0, 1) := by decide +kernel
theorem d_Pl_init_35 : decode b_Pl_init 35 = .ok (.new 31, 3) := by decide +kernel
theorem d_Pl_init_38 : decode b_Pl_init 38 = .ok (.dup, 1) := by decide +kernel
theorem d_Pl_init_39 : decode b_Pl_init 39 = .ok (.invokespecial 33, 3) := by decide +kernel
theorem d_Pl_init_42 : decode b_Pl_init 42 = .ok (.putfield 34, 3) := by decide +kernel
theorem d_Pl_init_45 : decode b_Pl_init 45 = .ok (.aload_n 0, 1) := by decide +kernel
theorem d_Pl_init_46 : decode b_Pl_init 46 = .ok (.sipush 144, 3) := by decide +kernel
theorem d_Pl_init_49 : decode b_Pl_init 49 = .ok (.newarray .int, 2) := by decide +kernel
theorem d_Pl_init_51 : decode b_Pl_init 51 = .ok (.putfield 38, 3) := by decide +kernel
theorem d_Pl_init_54 : decode b_Pl_init 54 = .ok (.aload_n 0, 1) := by decide +kernel
theorem d_Pl_init_55 : decode b_Pl_init 55 = .ok (.sipush 144, 3) := by decide +kernel
theorem d_Pl_init_58 : decode b_Pl_init 58 = .ok (.newarray .int, 2) := by decide +kernel
theorem d_Pl_init_60 : decode b_Pl_init 60 = .ok (.putfield 42, 3) := by decide +kernel
theorem d_Pl_init_63 : decode b_Pl_init 63 = .ok (.aload_n 0, 1) := by decide +kernel
theorem d_Pl_init_64 : decode b_Pl_init 64 = .ok (.sipush 144, 3) := by decide +kernel
theorem d_Pl_init_67 : decode b_Pl_init 67 = .ok (.newarray .int, 2) := by decide +kernel
theorem d_Pl_init_69 : decode b_Pl_init 69 = .ok (.putfield 45, 3) := by decide +kernel
theorem d_Pl_init_72 : decode b_Pl_init 72 = .ok (.aload_n 0, 1) := by decide +kernel
theorem d_Pl_init_73 : decode b_Pl_init 73 = .ok (.bipush 13, 2) := by decide +kernel
theorem d_Pl_init_75 : decode b_Pl_init 75 = .ok (.newarray .long, 2) := by decide +kernel
theorem d_Pl_init_77 : decode b_Pl_init 77 = .ok (.putfield 48, 3) := by decide +kernel
theorem d_Pl_init_80 : decode b_Pl_init 80 = .ok (.aload_n 0, 1) := by decide +kernel
theorem d_Pl_init_81 : decode b_Pl_init 81 = .ok (.bipush 13, 2) := by decide +kernel
theorem d_Pl_init_83 : decode b_Pl_init 83 = .ok (.newarray .boolean, 2) := by decide +kernel
theorem d_Pl_init_85 : decode b_Pl_init 85 = .ok (.putfield 52, 3) := by decide +kernel
theorem d_Pl_init_88 : decode b_Pl_init 88 = .ok (.iconst 0, 1) := by decide +kernel
theorem d_Pl_init_89 : decode b_Pl_init 89 = .ok (.istore_n 1, 1) := by decide +kernel
theorem d_Pl_init_90 : decode b_Pl_init 90 = .ok (.iload_n 1, 1) := by decide +kernel
theorem d_Pl_init_91 : decode b_Pl_init 91 = .ok (.iconst 3, 1) := by decide +kernel
theorem d_Pl_init_92 : decode b_Pl_init 92 = .ok (.if_icmp .ge 22, 3) := by decide +kernel
theorem d_Pl_init_95 : decode b_Pl_init 95 = .ok (.aload_n 0, 1) := by decide +kernel
theorem d_Pl_init_96 : decode b_Pl_init 96 = .ok (.getfield 11, 3) := by decide +kernel
theorem d_Pl_init_99 : decode b_Pl_init 99 = .ok (.iload_n 1, 1) := by decide +kernel
theorem d_Pl_init_100 : decode b_Pl_init 100 = .ok (.new 9, 3) := by decide +kernel
theorem d_Pl_init_103 : decode b_Pl_init 103 = .ok (.dup, 1) := by decide +kernel
theorem d_Pl_init_104 : decode b_Pl_init 104 = .ok (.invokespecial 56, 3) := by decide +kernel
theorem d_Pl_init_107 : decode b_Pl_init 107 = .ok (.aastore, 1) := by decide +kernel
theorem d_Pl_init_108 : decode b_Pl_init 108 = .ok (.iinc 1 1, 3) := by decide +kernel
theorem d_Pl_init_111 : decode b_Pl_init 111 = .ok (.goto (-21), 3) := by decide +kernel
theorem d_Pl_init_114 : decode b_Pl_init 114 = .ok (.return_, 1) := by decide +kernel
theorem d_Pl_keepRows_0 : decode b_Pl_keepRows 0 = .ok (.aload_n 0, 1) := by decide +kernel
theorem d_Pl_keepRows_1 : decode b_Pl_keepRows 1 = .ok (.getfield 11, 3) := by decide +kernel
theorem d_Pl_keepRows_4 : decode b_Pl_keepRows 4 = .ok (.aload_n 0, 1) := by decide +kernel
theorem d_Pl_keepRows_5 : decode b_Pl_keepRows 5 = .ok (.getfield 20, 3) := by decide +kernel
theorem d_Pl_keepRows_8 : decode b_Pl_keepRows 8 = .ok (.getfield 57, 3) := by decide +kernel
theorem d_Pl_keepRows_11 : decode b_Pl_keepRows 11 = .ok (.aaload, 1) := by decide +kernel
theorem d_Pl_keepRows_12 : decode b_Pl_keepRows 12 = .ok (.astore_n 1, 1) := by decide +kernel
theorem d_Pl_keepRows_13 : decode b_Pl_keepRows 13 = .ok (.aload_n 0, 1) := by decide +kernel
theorem d_Pl_keepRows_14 : decode b_Pl_keepRows 14 = .ok (.getfield 11, 3) := by decide +kernel
theorem d_Pl_keepRows_17 : decode b_Pl_keepRows 17 = .ok (.aload_n 0, 1) := by decide +kernel
theorem d_Pl_keepRows_18 : decode b_Pl_keepRows 18 = .ok (.getfield 20, 3) := by decide +kernel
theorem d_Pl_keepRows_21 : decode b_Pl_keepRows 21 = .ok (.getfield 61, 3) := by decide +kernel
theorem d_Pl_keepRows_24 : decode b_Pl_keepRows 24 = .ok (.aaload, 1) := by decide +kernel
theorem d_Pl_keepRows_25 : decode b_Pl_keepRows 25 = .ok (.astore_n 2, 1) := by decide +kernel
theorem d_Pl_keepRows_26 : decode b_Pl_keepRows 26 = .ok (.aload_n 0, 1) := by decide +kernel
theorem d_Pl_keepRows_27 : decode b_Pl_keepRows 27 = .ok (.getfield 20, 3) := by decide +kernel
theorem d_Pl_keepRows_30 : decode b_Pl_keepRows 30 = .ok (.invokevirtual 64, 3) := by decide +kernel
theorem d_Pl_keepRows_33 : decode b_Pl_keepRows 33 = .ok (.ifCond .eq 10, 3) := by decide +kernel
theorem d_Pl_keepRows_36 : decode b_Pl_keepRows 36 = .ok (.aload_n 2, 1) := by decide +kernel
theorem d_Pl_keepRows_37 : decode b_Pl_keepRows 37 = .ok (.getfield 68, 3) := by decide +kernel
theorem d_Pl_keepRows_40 : decode b_Pl_keepRows 40 = .ok (.goto 4, 3) := by decide +kernel
theorem d_Pl_keepRows_43 : decode b_Pl_keepRows 43 = .ok (.iconst 0, 1) := by decide +kernel
theorem d_Pl_keepRows_44 : decode b_Pl_keepRows 44 = .ok (.istore_n 3, 1) := by decide +kernel
theorem d_Pl_keepRows_45 : decode b_Pl_keepRows 45 = .ok (.aload_n 0, 1) := by decide +kernel
theorem d_Pl_keepRows_46 : decode b_Pl_keepRows 46 = .ok (.iconst 0, 1) := by decide +kernel
theorem d_Pl_keepRows_47 : decode b_Pl_keepRows 47 = .ok (.putfield 71, 3) := by decide +kernel
theorem d_Pl_keepRows_50 : decode b_Pl_keepRows 50 = .ok (.iconst 0, 1) := by decide +kernel
theorem d_Pl_keepRows_51 : decode b_Pl_keepRows 51 = .ok (.istore 4, 2) := by decide +kernel
theorem d_Pl_keepRows_53 : decode b_Pl_keepRows 53 = .ok (.iload 4, 2) := by decide +kernel
theorem d_Pl_keepRows_55 : decode b_Pl_keepRows 55 = .ok (.aload_n 1, 1) := by decide +kernel
theorem d_Pl_keepRows_56 : decode b_Pl_keepRows 56 = .ok (.getfield 68, 3) := by decide +kernel
theorem d_Pl_keepRows_59 : decode b_Pl_keepRows 59 = .ok (.if_icmp .ge 74, 3) := by decide +kernel
theorem d_Pl_keepRows_62 : decode b_Pl_keepRows 62 = .ok (.iconst 0, 1) := by decide +kernel
theorem d_Pl_keepRows_63 : decode b_Pl_keepRows 63 = .ok (.istore 5, 2) := by decide +kernel
theorem d_Pl_keepRows_65 : decode b_Pl_keepRows 65 = .ok (.iconst 0, 1) := by decide +kernel
theorem d_Pl_keepRows_66 : decode b_Pl_keepRows 66 = .ok (.istore 6, 2) := by decide +kernel
theorem d_Pl_keepRows_68 : decode b_Pl_keepRows 68 = .ok (.iload 6, 2) := by decide +kernel
theorem d_Pl_keepRows_70 : decode b_Pl_keepRows 70 = .ok (.iload_n 3, 1) := by decide +kernel
theorem d_Pl_keepRows_71 : decode b_Pl_keepRows 71 = .ok (.if_icmp .ge 33, 3) := by decide +kernel
theorem d_Pl_keepRows_74 : decode b_Pl_keepRows 74 = .ok (.aload_n 0, 1) := by decide +kernel
theorem d_Pl_keepRows_75 : decode b_Pl_keepRows 75 = .ok (.aload_n 1, 1) := by decide +kernel
theorem d_Pl_keepRows_76 : decode b_Pl_keepRows 76 = .ok (.iload 4, 2) := by decide +kernel
theorem d_Pl_keepRows_78 : decode b_Pl_keepRows 78 = .ok (.aload_n 2, 1) := by decide +kernel
theorem d_Pl_keepRows_79 : decode b_Pl_keepRows 79 = .ok (.iload 6, 2) := by decide +kernel
theorem d_Pl_keepRows_81 : decode b_Pl_keepRows 81 = .ok (.invokevirtual 74, 3) := by decide +kernel
theorem d_Pl_keepRows_84 : decode b_Pl_keepRows 84 = .ok (.ifCond .eq 14, 3) := by decide +kernel
theorem d_Pl_keepRows_87 : decode b_Pl_keepRows 87 = .ok (.iconst 1, 1) := by decide +kernel
theorem d_Pl_keepRows_88 : decode b_Pl_keepRows 88 = .ok (.istore 5, 2) := by decide +kernel
theorem d_Pl_keepRows_90 : decode b_Pl_keepRows 90 = .ok (.aload_n 0, 1) := by decide +kernel
theorem d_Pl_keepRows_91 : decode b_Pl_keepRows 91 = .ok (.iload 4, 2) := by decide +kernel
theorem d_Pl_keepRows_93 : decode b_Pl_keepRows 93 = .ok (.iload 6, 2) := by decide +kernel
theorem d_Pl_keepRows_95 : decode b_Pl_keepRows 95 = .ok (.invokevirtual 78, 3) := by decide +kernel
theorem d_Pl_keepRows_98 : decode b_Pl_keepRows 98 = .ok (.iinc 6 1, 3) := by decide +kernel
theorem d_Pl_keepRows_101 : decode b_Pl_keepRows 101 = .ok (.goto (-33), 3) := by decide +kernel
theorem d_Pl_keepRows_104 : decode b_Pl_keepRows 104 = .ok (.iload 5, 2) := by decide +kernel
theorem d_Pl_keepRows_106 : decode b_Pl_keepRows 106 = .ok (.ifCond .ne 21, 3) := by decide +kernel
theorem d_Pl_keepRows_109 : decode b_Pl_keepRows 109 = .ok (.aload_n 0, 1) := by decide +kernel
theorem d_Pl_keepRows_110 : decode b_Pl_keepRows 110 = .ok (.getfield 20, 3) := by decide +kernel
theorem d_Pl_keepRows_113 : decode b_Pl_keepRows 113 = .ok (.getfield 82, 3) := by decide +kernel
theorem d_Pl_keepRows_116 : decode b_Pl_keepRows 116 = .ok (.iconst 1, 1) := by decide +kernel
theorem d_Pl_keepRows_117 : decode b_Pl_keepRows 117 = .ok (.if_icmp .eq 10, 3) := by decide +kernel
theorem d_Pl_keepRows_120 : decode b_Pl_keepRows 120 = .ok (.aload_n 0, 1) := by decide +kernel
theorem d_Pl_keepRows_121 : decode b_Pl_keepRows 121 = .ok (.iload 4, 2) := by decide +kernel
theorem d_Pl_keepRows_123 : decode b_Pl_keepRows 123 = .ok (.iconst (-1), 1) := by decide +kernel
theorem d_Pl_keepRows_124 : decode b_Pl_keepRows 124 = .ok (.invokevirtual 78, 3) := by decide +kernel
theorem d_Pl_keepRows_127 : decode b_Pl_keepRows 127 = .ok (.iinc 4 1, 3) := by decide +kernel
theorem d_Pl_keepRows_130 : decode b_Pl_keepRows 130 = .ok (.goto (-77), 3) := by decide +kernel
theorem d_Pl_keepRows_133 : decode b_Pl_keepRows 133 = .ok (.return_, 1) := by decide +kernel
theorem d_Pl_arePair_0 : decode b_Pl_arePair 0 = .ok (.aload_n 1, 1) := by decide +kernel
theorem d_Pl_arePair_1 : decode b_Pl_arePair 1 = .ok (.iload_n 2, 1) := by decide +kernel
theorem d_Pl_arePair_2 : decode b_Pl_arePair 2 = .ok (.aload_n 0, 1) := by decide +kernel
theorem d_Pl_arePair_3 : decode b_Pl_arePair 3 = .ok (.getfield 20, 3) := by decide +kernel
theorem d_Pl_arePair_6 : decode b_Pl_arePair 6 = .ok (.getfield 85, 3) := by decide +kernel
theorem d_Pl_arePair_9 : decode b_Pl_arePair 9 = .ok (.invokevirtual 88, 3) := by decide +kernel
theorem d_Pl_arePair_12 : decode b_Pl_arePair 12 = .ok (.ifCond .ne 19, 3) := by decide +kernel
theorem d_Pl_arePair_15 : decode b_Pl_arePair 15 = .ok (.aload_n 3, 1) := by decide +kernel
theorem d_Pl_arePair_16 : decode b_Pl_arePair 16 = .ok (.iload 4, 2) := by decide +kernel
theorem d_Pl_arePair_18 : decode b_Pl_arePair 18 = .ok (.aload_n 0, 1) := by decide +kernel
theorem d_Pl_arePair_19 : decode b_Pl_arePair 19 = .ok (.getfield 20, 3) := by decide +kernel
theorem d_Pl_arePair_22 : decode b_Pl_arePair 22 = .ok (.getfield 92, 3) := by decide +kernel
theorem d_Pl_arePair_25 : decode b_Pl_arePair 25 = .ok (.invokevirtual 88, 3) := by decide +kernel
theorem d_Pl_arePair_28 : decode b_Pl_arePair 28 = .ok (.ifCond .eq 5, 3) := by decide +kernel
theorem d_Pl_arePair_31 : decode b_Pl_arePair 31 = .ok (.iconst 0, 1) := by decide +kernel
theorem d_Pl_arePair_32 : decode b_Pl_arePair 32 = .ok (.ireturn, 1) := by decide +kernel
theorem d_Pl_arePair_33 : decode b_Pl_arePair 33 = .ok (.aload_n 1, 1) := by decide +kernel
theorem d_Pl_arePair_34 : decode b_Pl_arePair 34 = .ok (.iload_n 2, 1) := by decide +kernel
theorem d_Pl_arePair_35 : decode b_Pl_arePair 35 = .ok (.aload_n 0, 1) := by decide +kernel
theorem d_Pl_arePair_36 : decode b_Pl_arePair 36 = .ok (.getfield 20, 3) := by decide +kernel
theorem d_Pl_arePair_39 : decode b_Pl_arePair 39 = .ok (.getfield 85, 3) := by decide +kernel
theorem d_Pl_arePair_42 : decode b_Pl_arePair 42 = .ok (.invokevirtual 95, 3) := by decide +kernel
theorem d_Pl_arePair_45 : decode b_Pl_arePair 45 = .ok (.aload_n 3, 1) := by decide +kernel
theorem d_Pl_arePair_46 : decode b_Pl_arePair 46 = .ok (.iload 4, 2) := by decide +kernel
theorem d_Pl_arePair_48 : decode b_Pl_arePair 48 = .ok (.aload_n 0, 1) := by decide +kernel
theorem d_Pl_arePair_49 : decode b_Pl_arePair 49 = .ok (.getfield 20, 3) := by decide +kernel
theorem d_Pl_arePair_52 : decode b_Pl_arePair 52 = .ok (.getfield 92, 3) := by decide +kernel
theorem d_Pl_arePair_55 : decode b_Pl_arePair 55 = .ok (.invokevirtual 95, 3) := by decide +kernel
theorem d_Pl_arePair_58 : decode b_Pl_arePair 58 = .ok (.if_icmp .ne 7, 3) := by decide +kernel
theorem d_Pl_arePair_61 : decode b_Pl_arePair 61 = .ok (.iconst 1, 1) := by decide +kernel
theorem d_Pl_arePair_62 : decode b_Pl_arePair 62 = .ok (.goto 4, 3) := by decide +kernel
theorem d_Pl_arePair_65 : decode b_Pl_arePair 65 = .ok (.iconst 0, 1) := by decide +kernel
theorem d_Pl_arePair_66 : decode b_Pl_arePair 66 = .ok (.ireturn, 1) := by decide +kernel
theorem d_Pl_keepIfAllTrue_0 : decode b_Pl_keepIfAllTrue 0 = .ok (.aload_n 0, 1) := by decide +kernel
theorem d_Pl_keepIfAllTrue_1 : decode b_Pl_keepIfAllTrue 1 = .ok (.iload_n 1, 1) := by decide +kernel
theorem d_Pl_keepIfAllTrue_2 : decode b_Pl_keepIfAllTrue 2 = .ok (.iload_n 2, 1) := by decide +kernel
theorem d_Pl_keepIfAllTrue_3 : decode b_Pl_keepIfAllTrue 3 = .ok (.invokevirtual 99, 3) := by decide +kernel
theorem d_Pl_keepIfAllTrue_6 : decode b_Pl_keepIfAllTrue 6 = .ok (.iconst 0, 1) := by decide +kernel
theorem d_Pl_keepIfAllTrue_7 : decode b_Pl_keepIfAllTrue 7 = .ok (.istore_n 3, 1) := by decide +kernel
theorem d_Pl_keepIfAllTrue_8 : decode b_Pl_keepIfAllTrue 8 = .ok (.iload_n 3, 1) := by decide +kernel
theorem d_Pl_keepIfAllTrue_9 : decode b_Pl_keepIfAllTrue 9 = .ok (.aload_n 0, 1) := by decide +kernel
theorem d_Pl_keepIfAllTrue_10 : decode b_Pl_keepIfAllTrue 10 = .ok (.getfield 20, 3) := by decide +kernel
theorem d_Pl_keepIfAllTrue_13 : decode b_Pl_keepIfAllTrue 13 = .ok (.getfield 102, 3) := by decide +kernel
theorem d_Pl_keepIfAllTrue_16 : decode b_Pl_keepIfAllTrue 16 = .ok (.if_icmp .ge 36, 3) := by decide +kernel
theorem d_Pl_keepIfAllTrue_19 : decode b_Pl_keepIfAllTrue 19 = .ok (.aload_n 0, 1) := by decide +kernel
theorem d_Pl_keepIfAllTrue_20 : decode b_Pl_keepIfAllTrue 20 = .ok (.getfield 27, 3) := by decide +kernel
theorem d_Pl_keepIfAllTrue_23 : decode b_Pl_keepIfAllTrue 23 = .ok (.aload_n 0, 1) := by decide +kernel
theorem d_Pl_keepIfAllTrue_24 : decode b_Pl_keepIfAllTrue 24 = .ok (.getfield 20, 3) := by decide +kernel
theorem d_Pl_keepIfAllTrue_27 : decode b_Pl_keepIfAllTrue 27 = .ok (.getfield 105, 3) := by decide +kernel
theorem d_Pl_keepIfAllTrue_30 : decode b_Pl_keepIfAllTrue 30 = .ok (.iload_n 3, 1) := by decide +kernel
theorem d_Pl_keepIfAllTrue_31 : decode b_Pl_keepIfAllTrue 31 = .ok (.aaload, 1) := by decide +kernel
theorem d_Pl_keepIfAllTrue_32 : decode b_Pl_keepIfAllTrue 32 = .ok (.invokevirtual 109, 3) := by decide +kernel
theorem d_Pl_keepIfAllTrue_35 : decode b_Pl_keepIfAllTrue 35 = .ok (.aload_n 0, 1) := by decide +kernel
theorem d_Pl_keepIfAllTrue_36 : decode b_Pl_keepIfAllTrue 36 = .ok (.getfield 27, 3) := by decide +kernel
theorem d_Pl_keepIfAllTrue_39 : decode b_Pl_keepIfAllTrue 39 = .ok (.invokevirtual 113, 3) := by decide +kernel
theorem d_Pl_keepIfAllTrue_42 : decode b_Pl_keepIfAllTrue 42 = .ok (.ifCond .ne 4, 3) := by decide +kernel
theorem d_Pl_keepIfAllTrue_45 : decode b_Pl_keepIfAllTrue 45 = .ok (.return_, 1) := by decide +kernel
theorem d_Pl_keepIfAllTrue_46 : decode b_Pl_keepIfAllTrue 46 = .ok (.iinc 3 1, 3) := by decide +kernel
theorem d_Pl_keepIfAllTrue_49 : decode b_Pl_keepIfAllTrue 49 = .ok (.goto (-41), 3) := by decide +kernel
theorem d_Pl_keepIfAllTrue_52 : decode b_Pl_keepIfAllTrue 52 = .ok (.aload_n 0, 1) := by decide +kernel
theorem d_Pl_keepIfAllTrue_53 : decode b_Pl_keepIfAllTrue 53 = .ok (.getfield 71, 3) := by decide +kernel
theorem d_Pl_keepIfAllTrue_56 : decode b_Pl_keepIfAllTrue 56 = .ok (.sipush 144, 3) := by decide +kernel
theorem d_Pl_keepIfAllTrue_59 : decode b_Pl_keepIfAllTrue 59 = .ok (.if_icmp .ge 33, 3) := by decide +kernel
theorem d_Pl_keepIfAllTrue_62 : decode b_Pl_keepIfAllTrue 62 = .ok (.aload_n 0, 1) := by decide +kernel
theorem d_Pl_keepIfAllTrue_63 : decode b_Pl_keepIfAllTrue 63 = .ok (.getfield 38, 3) := by decide +kernel
theorem d_Pl_keepIfAllTrue_66 : decode b_Pl_keepIfAllTrue 66 = .ok (.aload_n 0, 1) := by decide +kernel
theorem d_Pl_keepIfAllTrue_67 : decode b_Pl_keepIfAllTrue 67 = .ok (.getfield 71, 3) := by decide +kernel
theorem d_Pl_keepIfAllTrue_70 : decode b_Pl_keepIfAllTrue 70 = .ok (.iload_n 1, 1) := by decide +kernel
theorem d_Pl_keepIfAllTrue_71 : decode b_Pl_keepIfAllTrue 71 = .ok (.iastore, 1) := by decide +kernel
theorem d_Pl_keepIfAllTrue_72 : decode b_Pl_keepIfAllTrue 72 = .ok (.aload_n 0, 1) := by decide +kernel
theorem d_Pl_keepIfAllTrue_73 : decode b_Pl_keepIfAllTrue 73 = .ok (.getfield 42, 3) := by decide +kernel
theorem d_Pl_keepIfAllTrue_76 : decode b_Pl_keepIfAllTrue 76 = .ok (.aload_n 0, 1) := by decide +kernel
theorem d_Pl_keepIfAllTrue_77 : decode b_Pl_keepIfAllTrue 77 = .ok (.getfield 71, 3) := by decide +kernel
theorem d_Pl_keepIfAllTrue_80 : decode b_Pl_keepIfAllTrue 80 = .ok (.iload_n 2, 1) := by decide +kernel
theorem d_Pl_keepIfAllTrue_81 : decode b_Pl_keepIfAllTrue 81 = .ok (.iastore, 1) := by decide +kernel
theorem d_Pl_keepIfAllTrue_82 : decode b_Pl_keepIfAllTrue 82 = .ok (.aload_n 0, 1) := by decide +kernel
theorem d_Pl_keepIfAllTrue_83 : decode b_Pl_keepIfAllTrue 83 = .ok (.dup, 1) := by decide +kernel
theorem d_Pl_keepIfAllTrue_84 : decode b_Pl_keepIfAllTrue 84 = .ok (.getfield 71, 3) := by decide +kernel
theorem d_Pl_keepIfAllTrue_87 : decode b_Pl_keepIfAllTrue 87 = .ok (.iconst 1, 1) := by decide +kernel
theorem d_Pl_keepIfAllTrue_88 : decode b_Pl_keepIfAllTrue 88 = .ok (.iadd, 1) := by decide +kernel
theorem d_Pl_keepIfAllTrue_89 : decode b_Pl_keepIfAllTrue 89 = .ok (.putfield 71, 3) := by decide +kernel
theorem d_Pl_keepIfAllTrue_92 : decode b_Pl_keepIfAllTrue 92 = .ok (.return_, 1) := by decide +kernel
theorem d_Pl_loadJoined_0 : decode b_Pl_loadJoined 0 = .ok (.aload_n 0, 1) := by decide +kernel
theorem d_Pl_loadJoined_1 : decode b_Pl_loadJoined 1 = .ok (.getfield 27, 3) := by decide +kernel
theorem d_Pl_loadJoined_4 : decode b_Pl_loadJoined 4 = .ok (.iconst 0, 1) := by decide +kernel
theorem d_Pl_loadJoined_5 : decode b_Pl_loadJoined 5 = .ok (.aload_n 0, 1) := by decide +kernel
theorem d_Pl_loadJoined_6 : decode b_Pl_loadJoined 6 = .ok (.getfield 11, 3) := by decide +kernel
theorem d_Pl_loadJoined_9 : decode b_Pl_loadJoined 9 = .ok (.aload_n 0, 1) := by decide +kernel
theorem d_Pl_loadJoined_10 : decode b_Pl_loadJoined 10 = .ok (.getfield 20, 3) := by decide +kernel
theorem d_Pl_loadJoined_13 : decode b_Pl_loadJoined 13 = .ok (.getfield 57, 3) := by decide +kernel
theorem d_Pl_loadJoined_16 : decode b_Pl_loadJoined 16 = .ok (.aaload, 1) := by decide +kernel
theorem d_Pl_loadJoined_17 : decode b_Pl_loadJoined 17 = .ok (.iload_n 1, 1) := by decide +kernel
theorem d_Pl_loadJoined_18 : decode b_Pl_loadJoined 18 = .ok (.invokevirtual 116, 3) := by decide +kernel
theorem d_Pl_loadJoined_21 : decode b_Pl_loadJoined 21 = .ok (.aload_n 0, 1) := by decide +kernel
theorem d_Pl_loadJoined_22 : decode b_Pl_loadJoined 22 = .ok (.getfield 27, 3) := by decide +kernel
theorem d_Pl_loadJoined_25 : decode b_Pl_loadJoined 25 = .ok (.iconst 2, 1) := by decide +kernel
theorem d_Pl_loadJoined_26 : decode b_Pl_loadJoined 26 = .ok (.aload_n 0, 1) := by decide +kernel
theorem d_Pl_loadJoined_27 : decode b_Pl_loadJoined 27 = .ok (.getfield 11, 3) := by decide +kernel
theorem d_Pl_loadJoined_30 : decode b_Pl_loadJoined 30 = .ok (.aload_n 0, 1) := by decide +kernel
theorem d_Pl_loadJoined_31 : decode b_Pl_loadJoined 31 = .ok (.getfield 20, 3) := by decide +kernel
theorem d_Pl_loadJoined_34 : decode b_Pl_loadJoined 34 = .ok (.getfield 61, 3) := by decide +kernel
theorem d_Pl_loadJoined_37 : decode b_Pl_loadJoined 37 = .ok (.aaload, 1) := by decide +kernel
theorem d_Pl_loadJoined_38 : decode b_Pl_loadJoined 38 = .ok (.iload_n 2, 1) := by decide +kernel
theorem d_Pl_loadJoined_39 : decode b_Pl_loadJoined 39 = .ok (.invokevirtual 116, 3) := by decide +kernel
theorem d_Pl_loadJoined_42 : decode b_Pl_loadJoined 42 = .ok (.return_, 1) := by decide +kernel
theorem d_Pl_makeGroups_0 : decode b_Pl_makeGroups 0 = .ok (.aload_n 0, 1) := by decide +kernel
theorem d_Pl_makeGroups_1 : decode b_Pl_makeGroups 1 = .ok (.aload_n 0, 1) := by decide +kernel
theorem d_Pl_makeGroups_2 : decode b_Pl_makeGroups 2 = .ok (.getfield 20, 3) := by decide +kernel
theorem d_Pl_makeGroups_5 : decode b_Pl_makeGroups 5 = .ok (.invokevirtual 120, 3) := by decide +kernel
theorem d_Pl_makeGroups_8 : decode b_Pl_makeGroups 8 = .ok (.ifCond .eq 7, 3) := by decide +kernel
theorem d_Pl_makeGroups_11 : decode b_Pl_makeGroups 11 = .ok (.iconst 0, 1) := by decide +kernel
theorem d_Pl_makeGroups_12 : decode b_Pl_makeGroups 12 = .ok (.goto 4, 3) := by decide +kernel
theorem d_Pl_makeGroups_15 : decode b_Pl_makeGroups 15 = .ok (.iconst 1, 1) := by decide +kernel
theorem d_Pl_makeGroups_16 : decode b_Pl_makeGroups 16 = .ok (.putfield 123, 3) := by decide +kernel
theorem d_Pl_makeGroups_19 : decode b_Pl_makeGroups 19 = .ok (.iconst 0, 1) := by decide +kernel
theorem d_Pl_makeGroups_20 : decode b_Pl_makeGroups 20 = .ok (.istore_n 1, 1) := by decide +kernel
theorem d_Pl_makeGroups_21 : decode b_Pl_makeGroups 21 = .ok (.iload_n 1, 1) := by decide +kernel
theorem d_Pl_makeGroups_22 : decode b_Pl_makeGroups 22 = .ok (.aload_n 0, 1) := by decide +kernel
theorem d_Pl_makeGroups_23 : decode b_Pl_makeGroups 23 = .ok (.getfield 71, 3) := by decide +kernel
theorem d_Pl_makeGroups_26 : decode b_Pl_makeGroups 26 = .ok (.if_icmp .ge 34, 3) := by decide +kernel
theorem d_Pl_makeGroups_29 : decode b_Pl_makeGroups 29 = .ok (.aload_n 0, 1) := by decide +kernel
theorem d_Pl_makeGroups_30 : decode b_Pl_makeGroups 30 = .ok (.getfield 45, 3) := by decide +kernel
theorem d_Pl_makeGroups_33 : decode b_Pl_makeGroups 33 = .ok (.iload_n 1, 1) := by decide +kernel
theorem d_Pl_makeGroups_34 : decode b_Pl_makeGroups 34 = .ok (.aload_n 0, 1) := by decide +kernel
theorem d_Pl_makeGroups_35 : decode b_Pl_makeGroups 35 = .ok (.getfield 20, 3) := by decide +kernel
theorem d_Pl_makeGroups_38 : decode b_Pl_makeGroups 38 = .ok (.invokevirtual 120, 3) := by decide +kernel
theorem d_Pl_makeGroups_41 : decode b_Pl_makeGroups 41 = .ok (.ifCond .eq 11, 3) := by decide +kernel
theorem d_Pl_makeGroups_44 : decode b_Pl_makeGroups 44 = .ok (.aload_n 0, 1) := by decide +kernel
theorem d_Pl_makeGroups_45 : decode b_Pl_makeGroups 45 = .ok (.iload_n 1, 1) := by decide +kernel
theorem d_Pl_makeGroups_46 : decode b_Pl_makeGroups 46 = .ok (.invokevirtual 126, 3) := by decide +kernel
theorem d_Pl_makeGroups_49 : decode b_Pl_makeGroups 49 = .ok (.goto 4, 3) := by decide +kernel
theorem d_Pl_makeGroups_52 : decode b_Pl_makeGroups 52 = .ok (.iconst 0, 1) := by decide +kernel
theorem d_Pl_makeGroups_53 : decode b_Pl_makeGroups 53 = .ok (.iastore, 1) := by decide +kernel
theorem d_Pl_makeGroups_54 : decode b_Pl_makeGroups 54 = .ok (.iinc 1 1, 3) := by decide +kernel
theorem d_Pl_makeGroups_57 : decode b_Pl_makeGroups 57 = .ok (.goto (-36), 3) := by decide +kernel
theorem d_Pl_makeGroups_60 : decode b_Pl_makeGroups 60 = .ok (.return_, 1) := by decide +kernel
theorem d_Pl_findGroup_0 : decode b_Pl_findGroup 0 = .ok (.aload_n 0, 1) := by decide +kernel
theorem d_Pl_findGroup_1 : decode b_Pl_findGroup 1 = .ok (.aload_n 0, 1) := by decide +kernel
theorem d_Pl_findGroup_2 : decode b_Pl_findGroup 2 = .ok (.getfield 38, 3) := by decide +kernel
theorem d_Pl_findGroup_5 : decode b_Pl_findGroup 5 = .ok (.iload_n 1, 1) := by decide +kernel
theorem d_Pl_findGroup_6 : decode b_Pl_findGroup 6 = .ok (.iaload, 1) := by decide +kernel
theorem d_Pl_findGroup_7 : decode b_Pl_findGroup 7 = .ok (.aload_n 0, 1) := by decide +kernel
theorem d_Pl_findGroup_8 : decode b_Pl_findGroup 8 = .ok (.getfield 42, 3) := by decide +kernel
theorem d_Pl_findGroup_11 : decode b_Pl_findGroup 11 = .ok (.iload_n 1, 1) := by decide +kernel
theorem d_Pl_findGroup_12 : decode b_Pl_findGroup 12 = .ok (.iaload, 1) := by decide +kernel
theorem d_Pl_findGroup_13 : decode b_Pl_findGroup 13 = .ok (.invokevirtual 99, 3) := by decide +kernel
theorem d_Pl_findGroup_16 : decode b_Pl_findGroup 16 = .ok (.aload_n 0, 1) := by decide +kernel
theorem d_Pl_findGroup_17 : decode b_Pl_findGroup 17 = .ok (.getfield 27, 3) := by decide +kernel
theorem d_Pl_findGroup_20 : decode b_Pl_findGroup 20 = .ok (.getfield 130, 3) := by decide +kernel
theorem d_Pl_findGroup_23 : decode b_Pl_findGroup 23 = .ok (.aload_n 0, 1) := by decide +kernel
theorem d_Pl_findGroup_24 : decode b_Pl_findGroup 24 = .ok (.getfield 20, 3) := by decide +kernel
theorem d_Pl_findGroup_27 : decode b_Pl_findGroup 27 = .ok (.getfield 133, 3) := by decide +kernel
theorem d_Pl_findGroup_30 : decode b_Pl_findGroup 30 = .ok (.laload, 1) := by decide +kernel
theorem d_Pl_findGroup_31 : decode b_Pl_findGroup 31 = .ok (.lstore_n 2, 1) := by decide +kernel
theorem d_Pl_findGroup_32 : decode b_Pl_findGroup 32 = .ok (.aload_n 0, 1) := by decide +kernel
theorem d_Pl_findGroup_33 : decode b_Pl_findGroup 33 = .ok (.getfield 27, 3) := by decide +kernel
theorem d_Pl_findGroup_36 : decode b_Pl_findGroup 36 = .ok (.getfield 136, 3) := by decide +kernel
theorem d_Pl_findGroup_39 : decode b_Pl_findGroup 39 = .ok (.aload_n 0, 1) := by decide +kernel
theorem d_Pl_findGroup_40 : decode b_Pl_findGroup 40 = .ok (.getfield 20, 3) := by decide +kernel
theorem d_Pl_findGroup_43 : decode b_Pl_findGroup 43 = .ok (.getfield 133, 3) := by decide +kernel
theorem d_Pl_findGroup_46 : decode b_Pl_findGroup 46 = .ok (.baload, 1) := by decide +kernel
theorem d_Pl_findGroup_47 : decode b_Pl_findGroup 47 = .ok (.istore 4, 2) := by decide +kernel
theorem d_Pl_findGroup_49 : decode b_Pl_findGroup 49 = .ok (.iconst 0, 1) := by decide +kernel
theorem d_Pl_findGroup_50 : decode b_Pl_findGroup 50 = .ok (.istore 5, 2) := by decide +kernel
theorem d_Pl_findGroup_52 : decode b_Pl_findGroup 52 = .ok (.iload 5, 2) := by decide +kernel
theorem d_Pl_findGroup_54 : decode b_Pl_findGroup 54 = .ok (.aload_n 0, 1) := by decide +kernel
theorem d_Pl_findGroup_55 : decode b_Pl_findGroup 55 = .ok (.getfield 123, 3) := by decide +kernel
theorem d_Pl_findGroup_58 : decode b_Pl_findGroup 58 = .ok (.if_icmp .ge 36, 3) := by decide +kernel
theorem d_Pl_findGroup_61 : decode b_Pl_findGroup 61 = .ok (.aload_n 0, 1) := by decide +kernel
theorem d_Pl_findGroup_62 : decode b_Pl_findGroup 62 = .ok (.getfield 52, 3) := by decide +kernel
theorem d_Pl_findGroup_65 : decode b_Pl_findGroup 65 = .ok (.iload 5, 2) := by decide +kernel
theorem d_Pl_findGroup_67 : decode b_Pl_findGroup 67 = .ok (.baload, 1) := by decide +kernel
theorem d_Pl_findGroup_68 : decode b_Pl_findGroup 68 = .ok (.iload 4, 2) := by decide +kernel
theorem d_Pl_findGroup_70 : decode b_Pl_findGroup 70 = .ok (.if_icmp .ne 18, 3) := by decide +kernel
theorem d_Pl_findGroup_73 : decode b_Pl_findGroup 73 = .ok (.aload_n 0, 1) := by decide +kernel
theorem d_Pl_findGroup_74 : decode b_Pl_findGroup 74 = .ok (.getfield 48, 3) := by decide +kernel
theorem d_Pl_findGroup_77 : decode b_Pl_findGroup 77 = .ok (.iload 5, 2) := by decide +kernel
theorem d_Pl_findGroup_79 : decode b_Pl_findGroup 79 = .ok (.laload, 1) := by decide +kernel
theorem d_Pl_findGroup_80 : decode b_Pl_findGroup 80 = .ok (.lload_n 2, 1) := by decide +kernel
theorem d_Pl_findGroup_81 : decode b_Pl_findGroup 81 = .ok (.lcmp, 1) := by decide +kernel
theorem d_Pl_findGroup_82 : decode b_Pl_findGroup 82 = .ok (.ifCond .ne 6, 3) := by decide +kernel
theorem d_Pl_findGroup_85 : decode b_Pl_findGroup 85 = .ok (.iload 5, 2) := by decide +kernel
theorem d_Pl_findGroup_87 : decode b_Pl_findGroup 87 = .ok (.ireturn, 1) := by decide +kernel
theorem d_Pl_findGroup_88 : decode b_Pl_findGroup 88 = .ok (.iinc 5 1, 3) := by decide +kernel
theorem d_Pl_findGroup_91 : decode b_Pl_findGroup 91 = .ok (.goto (-39), 3) := by decide +kernel
theorem d_Pl_findGroup_94 : decode b_Pl_findGroup 94 = .ok (.aload_n 0, 1) := by decide +kernel
theorem d_Pl_findGroup_95 : decode b_Pl_findGroup 95 = .ok (.getfield 123, 3) := by decide +kernel
theorem d_Pl_findGroup_98 : decode b_Pl_findGroup 98 = .ok (.bipush 13, 2) := by decide +kernel
theorem d_Pl_findGroup_100 : decode b_Pl_findGroup 100 = .ok (.if_icmp .ge 34, 3) := by decide +kernel
theorem d_Pl_findGroup_103 : decode b_Pl_findGroup 103 = .ok (.aload_n 0, 1) := by decide +kernel
theorem d_Pl_findGroup_104 : decode b_Pl_findGroup 104 = .ok (.getfield 48, 3) := by decide +kernel
theorem d_Pl_findGroup_107 : decode b_Pl_findGroup 107 = .ok (.aload_n 0, 1) := by decide +kernel
theorem d_Pl_findGroup_108 : decode b_Pl_findGroup 108 = .ok (.getfield 123, 3) := by decide +kernel
theorem d_Pl_findGroup_111 : decode b_Pl_findGroup 111 = .ok (.lload_n 2, 1) := by decide +kernel
theorem d_Pl_findGroup_112 : decode b_Pl_findGroup 112 = .ok (.lastore, 1) := by decide +kernel
theorem d_Pl_findGroup_113 : decode b_Pl_findGroup 113 = .ok (.aload_n 0, 1) := by decide +kernel
theorem d_Pl_findGroup_114 : decode b_Pl_findGroup 114 = .ok (.getfield 52, 3) := by decide +kernel
theorem d_Pl_findGroup_117 : decode b_Pl_findGroup 117 = .ok (.aload_n 0, 1) := by decide +kernel
theorem d_Pl_findGroup_118 : decode b_Pl_findGroup 118 = .ok (.getfield 123, 3) := by decide +kernel
theorem d_Pl_findGroup_121 : decode b_Pl_findGroup 121 = .ok (.iload 4, 2) := by decide +kernel
theorem d_Pl_findGroup_123 : decode b_Pl_findGroup 123 = .ok (.bastore, 1) := by decide +kernel
theorem d_Pl_findGroup_124 : decode b_Pl_findGroup 124 = .ok (.aload_n 0, 1) := by decide +kernel
theorem d_Pl_findGroup_125 : decode b_Pl_findGroup 125 = .ok (.dup, 1) := by decide +kernel
theorem d_Pl_findGroup_126 : decode b_Pl_findGroup 126 = .ok (.getfield 123, 3) := by decide +kernel
theorem d_Pl_findGroup_129 : decode b_Pl_findGroup 129 = .ok (.iconst 1, 1) := by decide +kernel
theorem d_Pl_findGroup_130 : decode b_Pl_findGroup 130 = .ok (.iadd, 1) := by decide +kernel
theorem d_Pl_findGroup_131 : decode b_Pl_findGroup 131 = .ok (.putfield 123, 3) := by decide +kernel
theorem d_Pl_findGroup_134 : decode b_Pl_findGroup 134 = .ok (.aload_n 0, 1) := by decide +kernel
theorem d_Pl_findGroup_135 : decode b_Pl_findGroup 135 = .ok (.getfield 123, 3) := by decide +kernel
theorem d_Pl_findGroup_138 : decode b_Pl_findGroup 138 = .ok (.iconst 1, 1) := by decide +kernel
theorem d_Pl_findGroup_139 : decode b_Pl_findGroup 139 = .ok (.isub, 1) := by decide +kernel
theorem d_Pl_findGroup_140 : decode b_Pl_findGroup 140 = .ok (.ireturn, 1) := by decide +kernel
theorem d_Pl_fillResult_0 : decode b_Pl_fillResult 0 = .ok (.aload_n 1, 1) := by decide +kernel
theorem d_Pl_fillResult_1 : decode b_Pl_fillResult 1 = .ok (.aload_n 0, 1) := by decide +kernel
theorem d_Pl_fillResult_2 : decode b_Pl_fillResult 2 = .ok (.getfield 20, 3) := by decide +kernel
theorem d_Pl_fillResult_5 : decode b_Pl_fillResult 5 = .ok (.invokevirtual 139, 3) := by decide +kernel
theorem d_Pl_fillResult_8 : decode b_Pl_fillResult 8 = .ok (.putfield 143, 3) := by decide +kernel
theorem d_Pl_fillResult_11 : decode b_Pl_fillResult 11 = .ok (.aload_n 0, 1) := by decide +kernel
theorem d_Pl_fillResult_12 : decode b_Pl_fillResult 12 = .ok (.getfield 20, 3) := by decide +kernel
theorem d_Pl_fillResult_15 : decode b_Pl_fillResult 15 = .ok (.invokevirtual 148, 3) := by decide +kernel
theorem d_Pl_fillResult_18 : decode b_Pl_fillResult 18 = .ok (.ifCond .eq 36, 3) := by decide +kernel
theorem d_Pl_fillResult_21 : decode b_Pl_fillResult 21 = .ok (.aload_n 1, 1) := by decide +kernel
theorem d_Pl_fillResult_22 : decode b_Pl_fillResult 22 = .ok (.aload_n 0, 1) := by decide +kernel
theorem d_Pl_fillResult_23 : decode b_Pl_fillResult 23 = .ok (.getfield 123, 3) := by decide +kernel
theorem d_Pl_fillResult_26 : decode b_Pl_fillResult 26 = .ok (.putfield 151, 3) := by decide +kernel
theorem d_Pl_fillResult_29 : decode b_Pl_fillResult 29 = .ok (.iconst 0, 1) := by decide +kernel
theorem d_Pl_fillResult_30 : decode b_Pl_fillResult 30 = .ok (.istore_n 2, 1) := by decide +kernel
theorem d_Pl_fillResult_31 : decode b_Pl_fillResult 31 = .ok (.iload_n 2, 1) := by decide +kernel
theorem d_Pl_fillResult_32 : decode b_Pl_fillResult 32 = .ok (.aload_n 0, 1) := by decide +kernel
theorem d_Pl_fillResult_33 : decode b_Pl_fillResult 33 = .ok (.getfield 123, 3) := by decide +kernel
theorem d_Pl_fillResult_36 : decode b_Pl_fillResult 36 = .ok (.if_icmp .ge 15, 3) := by decide +kernel
theorem d_Pl_fillResult_39 : decode b_Pl_fillResult 39 = .ok (.aload_n 0, 1) := by decide +kernel
theorem d_Pl_fillResult_40 : decode b_Pl_fillResult 40 = .ok (.aload_n 1, 1) := by decide +kernel
theorem d_Pl_fillResult_41 : decode b_Pl_fillResult 41 = .ok (.iload_n 2, 1) := by decide +kernel
theorem d_Pl_fillResult_42 : decode b_Pl_fillResult 42 = .ok (.invokevirtual 154, 3) := by decide +kernel
theorem d_Pl_fillResult_45 : decode b_Pl_fillResult 45 = .ok (.iinc 2 1, 3) := by decide +kernel
theorem d_Pl_fillResult_48 : decode b_Pl_fillResult 48 = .ok (.goto (-17), 3) := by decide +kernel
theorem d_Pl_fillResult_51 : decode b_Pl_fillResult 51 = .ok (.goto 33, 3) := by decide +kernel
theorem d_Pl_fillResult_54 : decode b_Pl_fillResult 54 = .ok (.aload_n 1, 1) := by decide +kernel
theorem d_Pl_fillResult_55 : decode b_Pl_fillResult 55 = .ok (.aload_n 0, 1) := by decide +kernel
theorem d_Pl_fillResult_56 : decode b_Pl_fillResult 56 = .ok (.getfield 71, 3) := by decide +kernel
theorem d_Pl_fillResult_59 : decode b_Pl_fillResult 59 = .ok (.putfield 151, 3) := by decide +kernel
theorem d_Pl_fillResult_62 : decode b_Pl_fillResult 62 = .ok (.iconst 0, 1) := by decide +kernel
theorem d_Pl_fillResult_63 : decode b_Pl_fillResult 63 = .ok (.istore_n 2, 1) := by decide +kernel
theorem d_Pl_fillResult_64 : decode b_Pl_fillResult 64 = .ok (.iload_n 2, 1) := by decide +kernel
theorem d_Pl_fillResult_65 : decode b_Pl_fillResult 65 = .ok (.aload_n 0, 1) := by decide +kernel
theorem d_Pl_fillResult_66 : decode b_Pl_fillResult 66 = .ok (.getfield 71, 3) := by decide +kernel
theorem d_Pl_fillResult_69 : decode b_Pl_fillResult 69 = .ok (.if_icmp .ge 15, 3) := by decide +kernel
theorem d_Pl_fillResult_72 : decode b_Pl_fillResult 72 = .ok (.aload_n 0, 1) := by decide +kernel
theorem d_Pl_fillResult_73 : decode b_Pl_fillResult 73 = .ok (.aload_n 1, 1) := by decide +kernel
theorem d_Pl_fillResult_74 : decode b_Pl_fillResult 74 = .ok (.iload_n 2, 1) := by decide +kernel
theorem d_Pl_fillResult_75 : decode b_Pl_fillResult 75 = .ok (.invokevirtual 158, 3) := by decide +kernel
theorem d_Pl_fillResult_78 : decode b_Pl_fillResult 78 = .ok (.iinc 2 1, 3) := by decide +kernel
theorem d_Pl_fillResult_81 : decode b_Pl_fillResult 81 = .ok (.goto (-17), 3) := by decide +kernel
theorem d_Pl_fillResult_84 : decode b_Pl_fillResult 84 = .ok (.return_, 1) := by decide +kernel
theorem d_Pl_fillPlain_0 : decode b_Pl_fillPlain 0 = .ok (.aload_n 0, 1) := by decide +kernel
theorem d_Pl_fillPlain_1 : decode b_Pl_fillPlain 1 = .ok (.aload_n 0, 1) := by decide +kernel
theorem d_Pl_fillPlain_2 : decode b_Pl_fillPlain 2 = .ok (.getfield 38, 3) := by decide +kernel
theorem d_Pl_fillPlain_5 : decode b_Pl_fillPlain 5 = .ok (.iload_n 2, 1) := by decide +kernel
theorem d_Pl_fillPlain_6 : decode b_Pl_fillPlain 6 = .ok (.iaload, 1) := by decide +kernel
theorem d_Pl_fillPlain_7 : decode b_Pl_fillPlain 7 = .ok (.aload_n 0, 1) := by decide +kernel
theorem d_Pl_fillPlain_8 : decode b_Pl_fillPlain 8 = .ok (.getfield 42, 3) := by decide +kernel
theorem d_Pl_fillPlain_11 : decode b_Pl_fillPlain 11 = .ok (.iload_n 2, 1) := by decide +kernel
theorem d_Pl_fillPlain_12 : decode b_Pl_fillPlain 12 = .ok (.iaload, 1) := by decide +kernel
theorem d_Pl_fillPlain_13 : decode b_Pl_fillPlain 13 = .ok (.invokevirtual 99, 3) := by decide +kernel
theorem d_Pl_fillPlain_16 : decode b_Pl_fillPlain 16 = .ok (.iconst 0, 1) := by decide +kernel
theorem d_Pl_fillPlain_17 : decode b_Pl_fillPlain 17 = .ok (.istore_n 3, 1) := by decide +kernel
theorem d_Pl_fillPlain_18 : decode b_Pl_fillPlain 18 = .ok (.iload_n 3, 1) := by decide +kernel
theorem d_Pl_fillPlain_19 : decode b_Pl_fillPlain 19 = .ok (.aload_n 0, 1) := by decide +kernel
theorem d_Pl_fillPlain_20 : decode b_Pl_fillPlain 20 = .ok (.getfield 20, 3) := by decide +kernel
theorem d_Pl_fillPlain_23 : decode b_Pl_fillPlain 23 = .ok (.getfield 161, 3) := by decide +kernel
theorem d_Pl_fillPlain_26 : decode b_Pl_fillPlain 26 = .ok (.if_icmp .ge 45, 3) := by decide +kernel
theorem d_Pl_fillPlain_29 : decode b_Pl_fillPlain 29 = .ok (.aload_n 0, 1) := by decide +kernel
theorem d_Pl_fillPlain_30 : decode b_Pl_fillPlain 30 = .ok (.getfield 27, 3) := by decide +kernel
theorem d_Pl_fillPlain_33 : decode b_Pl_fillPlain 33 = .ok (.aload_n 0, 1) := by decide +kernel
theorem d_Pl_fillPlain_34 : decode b_Pl_fillPlain 34 = .ok (.getfield 20, 3) := by decide +kernel
theorem d_Pl_fillPlain_37 : decode b_Pl_fillPlain 37 = .ok (.getfield 164, 3) := by decide +kernel
theorem d_Pl_fillPlain_40 : decode b_Pl_fillPlain 40 = .ok (.iload_n 3, 1) := by decide +kernel
theorem d_Pl_fillPlain_41 : decode b_Pl_fillPlain 41 = .ok (.aaload, 1) := by decide +kernel
theorem d_Pl_fillPlain_42 : decode b_Pl_fillPlain 42 = .ok (.invokevirtual 109, 3) := by decide +kernel
theorem d_Pl_fillPlain_45 : decode b_Pl_fillPlain 45 = .ok (.aload_n 1, 1) := by decide +kernel
theorem d_Pl_fillPlain_46 : decode b_Pl_fillPlain 46 = .ok (.iload_n 2, 1) := by decide +kernel
theorem d_Pl_fillPlain_47 : decode b_Pl_fillPlain 47 = .ok (.iload_n 3, 1) := by decide +kernel
theorem d_Pl_fillPlain_48 : decode b_Pl_fillPlain 48 = .ok (.aload_n 0, 1) := by decide +kernel
theorem d_Pl_fillPlain_49 : decode b_Pl_fillPlain 49 = .ok (.getfield 27, 3) := by decide +kernel
theorem d_Pl_fillPlain_52 : decode b_Pl_fillPlain 52 = .ok (.invokevirtual 167, 3) := by decide +kernel
theorem d_Pl_fillPlain_55 : decode b_Pl_fillPlain 55 = .ok (.aload_n 0, 1) := by decide +kernel
theorem d_Pl_fillPlain_56 : decode b_Pl_fillPlain 56 = .ok (.getfield 27, 3) := by decide +kernel
theorem d_Pl_fillPlain_59 : decode b_Pl_fillPlain 59 = .ok (.invokevirtual 170, 3) := by decide +kernel
theorem d_Pl_fillPlain_62 : decode b_Pl_fillPlain 62 = .ok (.invokevirtual 172, 3) := by decide +kernel
theorem d_Pl_fillPlain_65 : decode b_Pl_fillPlain 65 = .ok (.iinc 3 1, 3) := by decide +kernel
theorem d_Pl_fillPlain_68 : decode b_Pl_fillPlain 68 = .ok (.goto (-50), 3) := by decide +kernel
theorem d_Pl_fillPlain_71 : decode b_Pl_fillPlain 71 = .ok (.return_, 1) := by decide +kernel
theorem d_Pl_fillGroup_0 : decode b_Pl_fillGroup 0 = .ok (.iconst 0, 1) := by decide +kernel
theorem d_Pl_fillGroup_1 : decode b_Pl_fillGroup 1 = .ok (.istore_n 3, 1) := by decide +kernel
theorem d_Pl_fillGroup_2 : decode b_Pl_fillGroup 2 = .ok (.aload_n 0, 1) := by decide +kernel
theorem d_Pl_fillGroup_3 : decode b_Pl_fillGroup 3 = .ok (.getfield 20, 3) := by decide +kernel
theorem d_Pl_fillGroup_6 : decode b_Pl_fillGroup 6 = .ok (.invokevirtual 120, 3) := by decide +kernel
theorem d_Pl_fillGroup_9 : decode b_Pl_fillGroup 9 = .ok (.ifCond .eq 23, 3) := by decide +kernel
theorem d_Pl_fillGroup_12 : decode b_Pl_fillGroup 12 = .ok (.aload_n 1, 1) := by decide +kernel
theorem d_Pl_fillGroup_13 : decode b_Pl_fillGroup 13 = .ok (.iload_n 2, 1) := by decide +kernel
theorem d_Pl_fillGroup_14 : decode b_Pl_fillGroup 14 = .ok (.iconst 0, 1) := by decide +kernel
theorem d_Pl_fillGroup_15 : decode b_Pl_fillGroup 15 = .ok (.aload_n 0, 1) := by decide +kernel
theorem d_Pl_fillGroup_16 : decode b_Pl_fillGroup 16 = .ok (.getfield 48, 3) := by decide +kernel
theorem d_Pl_fillGroup_19 : decode b_Pl_fillGroup 19 = .ok (.iload_n 2, 1) := by decide +kernel
theorem d_Pl_fillGroup_20 : decode b_Pl_fillGroup 20 = .ok (.laload, 1) := by decide +kernel
theorem d_Pl_fillGroup_21 : decode b_Pl_fillGroup 21 = .ok (.aload_n 0, 1) := by decide +kernel
theorem d_Pl_fillGroup_22 : decode b_Pl_fillGroup 22 = .ok (.getfield 52, 3) := by decide +kernel
theorem d_Pl_fillGroup_25 : decode b_Pl_fillGroup 25 = .ok (.iload_n 2, 1) := by decide +kernel
theorem d_Pl_fillGroup_26 : decode b_Pl_fillGroup 26 = .ok (.baload, 1) := by decide +kernel
theorem d_Pl_fillGroup_27 : decode b_Pl_fillGroup 27 = .ok (.invokevirtual 172, 3) := by decide +kernel
theorem d_Pl_fillGroup_30 : decode b_Pl_fillGroup 30 = .ok (.iconst 1, 1) := by decide +kernel
theorem d_Pl_fillGroup_31 : decode b_Pl_fillGroup 31 = .ok (.istore_n 3, 1) := by decide +kernel
theorem d_Pl_fillGroup_32 : decode b_Pl_fillGroup 32 = .ok (.iconst 0, 1) := by decide +kernel
theorem d_Pl_fillGroup_33 : decode b_Pl_fillGroup 33 = .ok (.istore 4, 2) := by decide +kernel
theorem d_Pl_fillGroup_35 : decode b_Pl_fillGroup 35 = .ok (.iload 4, 2) := by decide +kernel
theorem d_Pl_fillGroup_37 : decode b_Pl_fillGroup 37 = .ok (.aload_n 0, 1) := by decide +kernel
theorem d_Pl_fillGroup_38 : decode b_Pl_fillGroup 38 = .ok (.getfield 20, 3) := by decide +kernel
theorem d_Pl_fillGroup_41 : decode b_Pl_fillGroup 41 = .ok (.getfield 161, 3) := by decide +kernel
theorem d_Pl_fillGroup_44 : decode b_Pl_fillGroup 44 = .ok (.if_icmp .ge 63, 3) := by decide +kernel
theorem d_Pl_fillGroup_47 : decode b_Pl_fillGroup 47 = .ok (.aload_n 0, 1) := by decide +kernel
theorem d_Pl_fillGroup_48 : decode b_Pl_fillGroup 48 = .ok (.aload_n 0, 1) := by decide +kernel
theorem d_Pl_fillGroup_49 : decode b_Pl_fillGroup 49 = .ok (.getfield 20, 3) := by decide +kernel
theorem d_Pl_fillGroup_52 : decode b_Pl_fillGroup 52 = .ok (.getfield 164, 3) := by decide +kernel
theorem d_Pl_fillGroup_55 : decode b_Pl_fillGroup 55 = .ok (.iload 4, 2) := by decide +kernel
theorem d_Pl_fillGroup_57 : decode b_Pl_fillGroup 57 = .ok (.aaload, 1) := by decide +kernel
theorem d_Pl_fillGroup_58 : decode b_Pl_fillGroup 58 = .ok (.iload_n 2, 1) := by decide +kernel
theorem d_Pl_fillGroup_59 : decode b_Pl_fillGroup 59 = .ok (.invokevirtual 176, 3) := by decide +kernel
theorem d_Pl_fillGroup_62 : decode b_Pl_fillGroup 62 = .ok (.aload_n 0, 1) := by decide +kernel
theorem d_Pl_fillGroup_63 : decode b_Pl_fillGroup 63 = .ok (.getfield 20, 3) := by decide +kernel
theorem d_Pl_fillGroup_66 : decode b_Pl_fillGroup 66 = .ok (.getfield 180, 3) := by decide +kernel
theorem d_Pl_fillGroup_69 : decode b_Pl_fillGroup 69 = .ok (.iload 4, 2) := by decide +kernel
theorem d_Pl_fillGroup_71 : decode b_Pl_fillGroup 71 = .ok (.iaload, 1) := by decide +kernel
theorem d_Pl_fillGroup_72 : decode b_Pl_fillGroup 72 = .ok (.istore 5, 2) := by decide +kernel
theorem d_Pl_fillGroup_74 : decode b_Pl_fillGroup 74 = .ok (.aload_n 1, 1) := by decide +kernel
theorem d_Pl_fillGroup_75 : decode b_Pl_fillGroup 75 = .ok (.iload_n 2, 1) := by decide +kernel
theorem d_Pl_fillGroup_76 : decode b_Pl_fillGroup 76 = .ok (.iload 4, 2) := by decide +kernel
theorem d_Pl_fillGroup_78 : decode b_Pl_fillGroup 78 = .ok (.iload_n 3, 1) := by decide +kernel
theorem d_Pl_fillGroup_79 : decode b_Pl_fillGroup 79 = .ok (.iadd, 1) := by decide +kernel
theorem d_Pl_fillGroup_80 : decode b_Pl_fillGroup 80 = .ok (.aload_n 0, 1) := by decide +kernel
theorem d_Pl_fillGroup_81 : decode b_Pl_fillGroup 81 = .ok (.getfield 34, 3) := by decide +kernel
theorem d_Pl_fillGroup_84 : decode b_Pl_fillGroup 84 = .ok (.iload 5, 2) := by decide +kernel
theorem d_Pl_fillGroup_86 : decode b_Pl_fillGroup 86 = .ok (.invokevirtual 183, 3) := by decide +kernel
theorem d_Pl_fillGroup_89 : decode b_Pl_fillGroup 89 = .ok (.aload_n 0, 1) := by decide +kernel
theorem d_Pl_fillGroup_90 : decode b_Pl_fillGroup 90 = .ok (.getfield 34, 3) := by decide +kernel
theorem d_Pl_fillGroup_93 : decode b_Pl_fillGroup 93 = .ok (.iload 5, 2) := by decide +kernel
theorem d_Pl_fillGroup_95 : decode b_Pl_fillGroup 95 = .ok (.invokevirtual 186, 3) := by decide +kernel
theorem d_Pl_fillGroup_98 : decode b_Pl_fillGroup 98 = .ok (.invokevirtual 172, 3) := by decide +kernel
theorem d_Pl_fillGroup_101 : decode b_Pl_fillGroup 101 = .ok (.iinc 4 1, 3) := by decide +kernel
theorem d_Pl_fillGroup_104 : decode b_Pl_fillGroup 104 = .ok (.goto (-69), 3) := by decide +kernel
theorem d_Pl_fillGroup_107 : decode b_Pl_fillGroup 107 = .ok (.return_, 1) := by decide +kernel
theorem d_Pl_addUp_0 : decode b_Pl_addUp 0 = .ok (.aload_n 0, 1) := by decide +kernel
theorem d_Pl_addUp_1 : decode b_Pl_addUp 1 = .ok (.getfield 34, 3) := by decide +kernel
theorem d_Pl_addUp_4 : decode b_Pl_addUp 4 = .ok (.invokevirtual 189, 3) := by decide +kernel
theorem d_Pl_addUp_7 : decode b_Pl_addUp 7 = .ok (.iconst 0, 1) := by decide +kernel
theorem d_Pl_addUp_8 : decode b_Pl_addUp 8 = .ok (.istore_n 3, 1) := by decide +kernel
theorem d_Pl_addUp_9 : decode b_Pl_addUp 9 = .ok (.iload_n 3, 1) := by decide +kernel
theorem d_Pl_addUp_10 : decode b_Pl_addUp 10 = .ok (.aload_n 0, 1) := by decide +kernel
theorem d_Pl_addUp_11 : decode b_Pl_addUp 11 = .ok (.getfield 71, 3) := by decide +kernel
theorem d_Pl_addUp_14 : decode b_Pl_addUp 14 = .ok (.if_icmp .ge 64, 3) := by decide +kernel
theorem d_Pl_addUp_17 : decode b_Pl_addUp 17 = .ok (.aload_n 0, 1) := by decide +kernel
theorem d_Pl_addUp_18 : decode b_Pl_addUp 18 = .ok (.getfield 45, 3) := by decide +kernel
theorem d_Pl_addUp_21 : decode b_Pl_addUp 21 = .ok (.iload_n 3, 1) := by decide +kernel
theorem d_Pl_addUp_22 : decode b_Pl_addUp 22 = .ok (.iaload, 1) := by decide +kernel
theorem d_Pl_addUp_23 : decode b_Pl_addUp 23 = .ok (.iload_n 2, 1) := by decide +kernel
theorem d_Pl_addUp_24 : decode b_Pl_addUp 24 = .ok (.if_icmp .ne 48, 3) := by decide +kernel
theorem d_Pl_addUp_27 : decode b_Pl_addUp 27 = .ok (.aload_n 0, 1) := by decide +kernel
theorem d_Pl_addUp_28 : decode b_Pl_addUp 28 = .ok (.aload_n 0, 1) := by decide +kernel
theorem d_Pl_addUp_29 : decode b_Pl_addUp 29 = .ok (.getfield 38, 3) := by decide +kernel
theorem d_Pl_addUp_32 : decode b_Pl_addUp 32 = .ok (.iload_n 3, 1) := by decide +kernel
theorem d_Pl_addUp_33 : decode b_Pl_addUp 33 = .ok (.iaload, 1) := by decide +kernel
theorem d_Pl_addUp_34 : decode b_Pl_addUp 34 = .ok (.aload_n 0, 1) := by decide +kernel
theorem d_Pl_addUp_35 : decode b_Pl_addUp 35 = .ok (.getfield 42, 3) := by decide +kernel
theorem d_Pl_addUp_38 : decode b_Pl_addUp 38 = .ok (.iload_n 3, 1) := by decide +kernel
theorem d_Pl_addUp_39 : decode b_Pl_addUp 39 = .ok (.iaload, 1) := by decide +kernel
theorem d_Pl_addUp_40 : decode b_Pl_addUp 40 = .ok (.invokevirtual 99, 3) := by decide +kernel
theorem d_Pl_addUp_43 : decode b_Pl_addUp 43 = .ok (.aload_n 0, 1) := by decide +kernel
theorem d_Pl_addUp_44 : decode b_Pl_addUp 44 = .ok (.getfield 27, 3) := by decide +kernel
theorem d_Pl_addUp_47 : decode b_Pl_addUp 47 = .ok (.aload_n 1, 1) := by decide +kernel
theorem d_Pl_addUp_48 : decode b_Pl_addUp 48 = .ok (.invokevirtual 109, 3) := by decide +kernel
theorem d_Pl_addUp_51 : decode b_Pl_addUp 51 = .ok (.aload_n 0, 1) := by decide +kernel
theorem d_Pl_addUp_52 : decode b_Pl_addUp 52 = .ok (.getfield 34, 3) := by decide +kernel
theorem d_Pl_addUp_55 : decode b_Pl_addUp 55 = .ok (.aload_n 0, 1) := by decide +kernel
theorem d_Pl_addUp_56 : decode b_Pl_addUp 56 = .ok (.getfield 27, 3) := by decide +kernel
theorem d_Pl_addUp_59 : decode b_Pl_addUp 59 = .ok (.invokevirtual 167, 3) := by decide +kernel
theorem d_Pl_addUp_62 : decode b_Pl_addUp 62 = .ok (.aload_n 0, 1) := by decide +kernel
theorem d_Pl_addUp_63 : decode b_Pl_addUp 63 = .ok (.getfield 27, 3) := by decide +kernel
theorem d_Pl_addUp_66 : decode b_Pl_addUp 66 = .ok (.invokevirtual 170, 3) := by decide +kernel
theorem d_Pl_addUp_69 : decode b_Pl_addUp 69 = .ok (.invokevirtual 192, 3) := by decide +kernel
theorem d_Pl_addUp_72 : decode b_Pl_addUp 72 = .ok (.iinc 3 1, 3) := by decide +kernel
theorem d_Pl_addUp_75 : decode b_Pl_addUp 75 = .ok (.goto (-66), 3) := by decide +kernel
theorem d_Pl_addUp_78 : decode b_Pl_addUp 78 = .ok (.return_, 1) := by decide +kernel
theorem d_Pl_rowsOf_0 : decode b_Pl_rowsOf 0 = .ok (.iload_n 1, 1) := by decide +kernel
theorem d_Pl_rowsOf_1 : decode b_Pl_rowsOf 1 = .ok (.tableswitch 75 0 3 #[31, 46, 61, 68], 31) := by decide +kernel
theorem d_Pl_rowsOf_32 : decode b_Pl_rowsOf 32 = .ok (.aload_n 0, 1) := by decide +kernel
theorem d_Pl_rowsOf_33 : decode b_Pl_rowsOf 33 = .ok (.iload_n 1, 1) := by decide +kernel
theorem d_Pl_rowsOf_34 : decode b_Pl_rowsOf 34 = .ok (.aload_n 0, 1) := by decide +kernel
theorem d_Pl_rowsOf_35 : decode b_Pl_rowsOf 35 = .ok (.getfield 20, 3) := by decide +kernel
theorem d_Pl_rowsOf_38 : decode b_Pl_rowsOf 38 = .ok (.getfield 57, 3) := by decide +kernel
theorem d_Pl_rowsOf_41 : decode b_Pl_rowsOf 41 = .ok (.iload_n 2, 1) := by decide +kernel
theorem d_Pl_rowsOf_42 : decode b_Pl_rowsOf 42 = .ok (.iload_n 3, 1) := by decide +kernel
theorem d_Pl_rowsOf_43 : decode b_Pl_rowsOf 43 = .ok (.invokevirtual 196, 3) := by decide +kernel
theorem d_Pl_rowsOf_46 : decode b_Pl_rowsOf 46 = .ok (.ireturn, 1) := by decide +kernel
theorem d_Pl_rowsOf_47 : decode b_Pl_rowsOf 47 = .ok (.aload_n 0, 1) := by decide +kernel
theorem d_Pl_rowsOf_48 : decode b_Pl_rowsOf 48 = .ok (.iload_n 1, 1) := by decide +kernel
theorem d_Pl_rowsOf_49 : decode b_Pl_rowsOf 49 = .ok (.aload_n 0, 1) := by decide +kernel
theorem d_Pl_rowsOf_50 : decode b_Pl_rowsOf 50 = .ok (.getfield 20, 3) := by decide +kernel
theorem d_Pl_rowsOf_53 : decode b_Pl_rowsOf 53 = .ok (.getfield 61, 3) := by decide +kernel
theorem d_Pl_rowsOf_56 : decode b_Pl_rowsOf 56 = .ok (.iload_n 2, 1) := by decide +kernel
theorem d_Pl_rowsOf_57 : decode b_Pl_rowsOf 57 = .ok (.iload_n 3, 1) := by decide +kernel
theorem d_Pl_rowsOf_58 : decode b_Pl_rowsOf 58 = .ok (.invokevirtual 196, 3) := by decide +kernel
theorem d_Pl_rowsOf_61 : decode b_Pl_rowsOf 61 = .ok (.ireturn, 1) := by decide +kernel
theorem d_Pl_rowsOf_62 : decode b_Pl_rowsOf 62 = .ok (.aload_n 0, 1) := by decide +kernel
theorem d_Pl_rowsOf_63 : decode b_Pl_rowsOf 63 = .ok (.iload_n 2, 1) := by decide +kernel
theorem d_Pl_rowsOf_64 : decode b_Pl_rowsOf 64 = .ok (.iload_n 3, 1) := by decide +kernel
theorem d_Pl_rowsOf_65 : decode b_Pl_rowsOf 65 = .ok (.invokevirtual 200, 3) := by decide +kernel
theorem d_Pl_rowsOf_68 : decode b_Pl_rowsOf 68 = .ok (.ireturn, 1) := by decide +kernel
theorem d_Pl_rowsOf_69 : decode b_Pl_rowsOf 69 = .ok (.aload_n 0, 1) := by decide +kernel
theorem d_Pl_rowsOf_70 : decode b_Pl_rowsOf 70 = .ok (.iload_n 2, 1) := by decide +kernel
theorem d_Pl_rowsOf_71 : decode b_Pl_rowsOf 71 = .ok (.iload_n 3, 1) := by decide +kernel
theorem d_Pl_rowsOf_72 : decode b_Pl_rowsOf 72 = .ok (.invokevirtual 203, 3) := by decide +kernel
theorem d_Pl_rowsOf_75 : decode b_Pl_rowsOf 75 = .ok (.ireturn, 1) := by decide +kernel
theorem d_Pl_rowsOf_76 : decode b_Pl_rowsOf 76 = .ok (.iconst 0, 1) := by decide +kernel
theorem d_Pl_rowsOf_77 : decode b_Pl_rowsOf 77 = .ok (.ireturn, 1) := by decide +kernel
theorem d_Pl_scannedRows_0 : decode b_Pl_scannedRows 0 = .ok (.iconst 0, 1) := by decide +kernel
theorem d_Pl_scannedRows_1 : decode b_Pl_scannedRows 1 = .ok (.istore 5, 2) := by decide +kernel
theorem d_Pl_scannedRows_3 : decode b_Pl_scannedRows 3 = .ok (.iconst 0, 1) := by decide +kernel
theorem d_Pl_scannedRows_4 : decode b_Pl_scannedRows 4 = .ok (.istore 6, 2) := by decide +kernel
theorem d_Pl_scannedRows_6 : decode b_Pl_scannedRows 6 = .ok (.iload 6, 2) := by decide +kernel
theorem d_Pl_scannedRows_8 : decode b_Pl_scannedRows 8 = .ok (.aload_n 0, 1) := by decide +kernel
theorem d_Pl_scannedRows_9 : decode b_Pl_scannedRows 9 = .ok (.getfield 11, 3) := by decide +kernel
theorem d_Pl_scannedRows_12 : decode b_Pl_scannedRows 12 = .ok (.iload_n 2, 1) := by decide +kernel
theorem d_Pl_scannedRows_13 : decode b_Pl_scannedRows 13 = .ok (.aaload, 1) := by decide +kernel
theorem d_Pl_scannedRows_14 : decode b_Pl_scannedRows 14 = .ok (.getfield 68, 3) := by decide +kernel
theorem d_Pl_scannedRows_17 : decode b_Pl_scannedRows 17 = .ok (.if_icmp .ge 57, 3) := by decide +kernel
theorem d_Pl_scannedRows_20 : decode b_Pl_scannedRows 20 = .ok (.iload 6, 2) := by decide +kernel
theorem d_Pl_scannedRows_22 : decode b_Pl_scannedRows 22 = .ok (.i2l, 1) := by decide +kernel
theorem d_Pl_scannedRows_23 : decode b_Pl_scannedRows 23 = .ok (.iconst 0, 1) := by decide +kernel
theorem d_Pl_scannedRows_24 : decode b_Pl_scannedRows 24 = .ok (.iload 4, 2) := by decide +kernel
theorem d_Pl_scannedRows_26 : decode b_Pl_scannedRows 26 = .ok (.invokestatic 206, 3) := by decide +kernel
theorem d_Pl_scannedRows_29 : decode b_Pl_scannedRows 29 = .ok (.iload_n 3, 1) := by decide +kernel
theorem d_Pl_scannedRows_30 : decode b_Pl_scannedRows 30 = .ok (.if_icmp .ne 38, 3) := by decide +kernel
theorem d_Pl_scannedRows_33 : decode b_Pl_scannedRows 33 = .ok (.aload_n 0, 1) := by decide +kernel
theorem d_Pl_scannedRows_34 : decode b_Pl_scannedRows 34 = .ok (.getfield 27, 3) := by decide +kernel
theorem d_Pl_scannedRows_37 : decode b_Pl_scannedRows 37 = .ok (.iload_n 1, 1) := by decide +kernel
theorem d_Pl_scannedRows_38 : decode b_Pl_scannedRows 38 = .ok (.ifCond .ne 7, 3) := by decide +kernel
theorem d_Pl_scannedRows_41 : decode b_Pl_scannedRows 41 = .ok (.iconst 0, 1) := by decide +kernel
theorem d_Pl_scannedRows_42 : decode b_Pl_scannedRows 42 = .ok (.goto 4, 3) := by decide +kernel
theorem d_Pl_scannedRows_45 : decode b_Pl_scannedRows 45 = .ok (.iconst 2, 1) := by decide +kernel
theorem d_Pl_scannedRows_46 : decode b_Pl_scannedRows 46 = .ok (.aload_n 0, 1) := by decide +kernel
theorem d_Pl_scannedRows_47 : decode b_Pl_scannedRows 47 = .ok (.getfield 11, 3) := by decide +kernel
theorem d_Pl_scannedRows_50 : decode b_Pl_scannedRows 50 = .ok (.iload_n 2, 1) := by decide +kernel
theorem d_Pl_scannedRows_51 : decode b_Pl_scannedRows 51 = .ok (.aaload, 1) := by decide +kernel
theorem d_Pl_scannedRows_52 : decode b_Pl_scannedRows 52 = .ok (.iload 6, 2) := by decide +kernel
theorem d_Pl_scannedRows_54 : decode b_Pl_scannedRows 54 = .ok (.invokevirtual 116, 3) := by decide +kernel
theorem d_Pl_scannedRows_57 : decode b_Pl_scannedRows 57 = .ok (.aload_n 0, 1) := by decide +kernel
theorem d_Pl_scannedRows_58 : decode b_Pl_scannedRows 58 = .ok (.iload_n 1, 1) := by decide +kernel
theorem d_Pl_scannedRows_59 : decode b_Pl_scannedRows 59 = .ok (.invokevirtual 210, 3) := by decide +kernel
theorem d_Pl_scannedRows_62 : decode b_Pl_scannedRows 62 = .ok (.ifCond .eq 6, 3) := by decide +kernel
theorem d_Pl_scannedRows_65 : decode b_Pl_scannedRows 65 = .ok (.iinc 5 1, 3) := by decide +kernel
theorem d_Pl_scannedRows_68 : decode b_Pl_scannedRows 68 = .ok (.iinc 6 1, 3) := by decide +kernel
theorem d_Pl_scannedRows_71 : decode b_Pl_scannedRows 71 = .ok (.goto (-65), 3) := by decide +kernel
theorem d_Pl_scannedRows_74 : decode b_Pl_scannedRows 74 = .ok (.iload 5, 2) := by decide +kernel
theorem d_Pl_scannedRows_76 : decode b_Pl_scannedRows 76 = .ok (.ireturn, 1) := by decide +kernel
theorem d_Pl_passesPushed_0 : decode b_Pl_passesPushed 0 = .ok (.iconst 0, 1) := by decide +kernel
theorem d_Pl_passesPushed_1 : decode b_Pl_passesPushed 1 = .ok (.istore_n 2, 1) := by decide +kernel
theorem d_Pl_passesPushed_2 : decode b_Pl_passesPushed 2 = .ok (.iload_n 2, 1) := by decide +kernel
theorem d_Pl_passesPushed_3 : decode b_Pl_passesPushed 3 = .ok (.aload_n 0, 1) := by decide +kernel
theorem d_Pl_passesPushed_4 : decode b_Pl_passesPushed 4 = .ok (.getfield 20, 3) := by decide +kernel
theorem d_Pl_passesPushed_7 : decode b_Pl_passesPushed 7 = .ok (.getfield 102, 3) := by decide +kernel
theorem d_Pl_passesPushed_10 : decode b_Pl_passesPushed 10 = .ok (.if_icmp .ge 57, 3) := by decide +kernel
theorem d_Pl_passesPushed_13 : decode b_Pl_passesPushed 13 = .ok (.aload_n 0, 1) := by decide +kernel
theorem d_Pl_passesPushed_14 : decode b_Pl_passesPushed 14 = .ok (.getfield 20, 3) := by decide +kernel
theorem d_Pl_passesPushed_17 : decode b_Pl_passesPushed 17 = .ok (.aload_n 0, 1) := by decide +kernel
theorem d_Pl_passesPushed_18 : decode b_Pl_passesPushed 18 = .ok (.getfield 20, 3) := by decide +kernel
theorem d_Pl_passesPushed_21 : decode b_Pl_passesPushed 21 = .ok (.getfield 105, 3) := by decide +kernel
theorem d_Pl_passesPushed_24 : decode b_Pl_passesPushed 24 = .ok (.iload_n 2, 1) := by decide +kernel
theorem d_Pl_passesPushed_25 : decode b_Pl_passesPushed 25 = .ok (.aaload, 1) := by decide +kernel
theorem d_Pl_passesPushed_26 : decode b_Pl_passesPushed 26 = .ok (.iload_n 1, 1) := by decide +kernel
theorem d_Pl_passesPushed_27 : decode b_Pl_passesPushed 27 = .ok (.invokevirtual 213, 3) := by decide +kernel
theorem d_Pl_passesPushed_30 : decode b_Pl_passesPushed 30 = .ok (.ifCond .eq 31, 3) := by decide +kernel
theorem d_Pl_passesPushed_33 : decode b_Pl_passesPushed 33 = .ok (.aload_n 0, 1) := by decide +kernel
theorem d_Pl_passesPushed_34 : decode b_Pl_passesPushed 34 = .ok (.getfield 27, 3) := by decide +kernel
theorem d_Pl_passesPushed_37 : decode b_Pl_passesPushed 37 = .ok (.aload_n 0, 1) := by decide +kernel
theorem d_Pl_passesPushed_38 : decode b_Pl_passesPushed 38 = .ok (.getfield 20, 3) := by decide +kernel
theorem d_Pl_passesPushed_41 : decode b_Pl_passesPushed 41 = .ok (.getfield 105, 3) := by decide +kernel
theorem d_Pl_passesPushed_44 : decode b_Pl_passesPushed 44 = .ok (.iload_n 2, 1) := by decide +kernel
theorem d_Pl_passesPushed_45 : decode b_Pl_passesPushed 45 = .ok (.aaload, 1) := by decide +kernel
theorem d_Pl_passesPushed_46 : decode b_Pl_passesPushed 46 = .ok (.invokevirtual 109, 3) := by decide +kernel
theorem d_Pl_passesPushed_49 : decode b_Pl_passesPushed 49 = .ok (.aload_n 0, 1) := by decide +kernel
theorem d_Pl_passesPushed_50 : decode b_Pl_passesPushed 50 = .ok (.getfield 27, 3) := by decide +kernel
theorem d_Pl_passesPushed_53 : decode b_Pl_passesPushed 53 = .ok (.invokevirtual 113, 3) := by decide +kernel
theorem d_Pl_passesPushed_56 : decode b_Pl_passesPushed 56 = .ok (.ifCond .ne 5, 3) := by decide +kernel
theorem d_Pl_passesPushed_59 : decode b_Pl_passesPushed 59 = .ok (.iconst 0, 1) := by decide +kernel
theorem d_Pl_passesPushed_60 : decode b_Pl_passesPushed 60 = .ok (.ireturn, 1) := by decide +kernel
theorem d_Pl_passesPushed_61 : decode b_Pl_passesPushed 61 = .ok (.iinc 2 1, 3) := by decide +kernel
theorem d_Pl_passesPushed_64 : decode b_Pl_passesPushed 64 = .ok (.goto (-62), 3) := by decide +kernel
theorem d_Pl_passesPushed_67 : decode b_Pl_passesPushed 67 = .ok (.iconst 1, 1) := by decide +kernel
theorem d_Pl_passesPushed_68 : decode b_Pl_passesPushed 68 = .ok (.ireturn, 1) := by decide +kernel
theorem d_Pl_joinedRows_0 : decode b_Pl_joinedRows 0 = .ok (.aload_n 0, 1) := by decide +kernel
theorem d_Pl_joinedRows_1 : decode b_Pl_joinedRows 1 = .ok (.getfield 11, 3) := by decide +kernel
theorem d_Pl_joinedRows_4 : decode b_Pl_joinedRows 4 = .ok (.aload_n 0, 1) := by decide +kernel
theorem d_Pl_joinedRows_5 : decode b_Pl_joinedRows 5 = .ok (.getfield 20, 3) := by decide +kernel
theorem d_Pl_joinedRows_8 : decode b_Pl_joinedRows 8 = .ok (.getfield 57, 3) := by decide +kernel
theorem d_Pl_joinedRows_11 : decode b_Pl_joinedRows 11 = .ok (.aaload, 1) := by decide +kernel
theorem d_Pl_joinedRows_12 : decode b_Pl_joinedRows 12 = .ok (.astore_n 3, 1) := by decide +kernel
theorem d_Pl_joinedRows_13 : decode b_Pl_joinedRows 13 = .ok (.iconst 0, 1) := by decide +kernel
theorem d_Pl_joinedRows_14 : decode b_Pl_joinedRows 14 = .ok (.istore 4, 2) := by decide +kernel
theorem d_Pl_joinedRows_16 : decode b_Pl_joinedRows 16 = .ok (.iconst 0, 1) := by decide +kernel
theorem d_Pl_joinedRows_17 : decode b_Pl_joinedRows 17 = .ok (.istore 5, 2) := by decide +kernel
theorem d_Pl_joinedRows_19 : decode b_Pl_joinedRows 19 = .ok (.iload 5, 2) := by decide +kernel
theorem d_Pl_joinedRows_21 : decode b_Pl_joinedRows 21 = .ok (.aload_n 0, 1) := by decide +kernel
theorem d_Pl_joinedRows_22 : decode b_Pl_joinedRows 22 = .ok (.getfield 71, 3) := by decide +kernel
theorem d_Pl_joinedRows_25 : decode b_Pl_joinedRows 25 = .ok (.if_icmp .ge 56, 3) := by decide +kernel
theorem d_Pl_joinedRows_28 : decode b_Pl_joinedRows 28 = .ok (.aload_n 0, 1) := by decide +kernel
theorem d_Pl_joinedRows_29 : decode b_Pl_joinedRows 29 = .ok (.getfield 38, 3) := by decide +kernel
theorem d_Pl_joinedRows_32 : decode b_Pl_joinedRows 32 = .ok (.iload 5, 2) := by decide +kernel
theorem d_Pl_joinedRows_34 : decode b_Pl_joinedRows 34 = .ok (.iaload, 1) := by decide +kernel
theorem d_Pl_joinedRows_35 : decode b_Pl_joinedRows 35 = .ok (.istore 6, 2) := by decide +kernel
theorem d_Pl_joinedRows_37 : decode b_Pl_joinedRows 37 = .ok (.aload_n 3, 1) := by decide +kernel
theorem d_Pl_joinedRows_38 : decode b_Pl_joinedRows 38 = .ok (.iload 6, 2) := by decide +kernel
theorem d_Pl_joinedRows_40 : decode b_Pl_joinedRows 40 = .ok (.aload_n 0, 1) := by decide +kernel
theorem d_Pl_joinedRows_41 : decode b_Pl_joinedRows 41 = .ok (.getfield 20, 3) := by decide +kernel
theorem d_Pl_joinedRows_44 : decode b_Pl_joinedRows 44 = .ok (.getfield 85, 3) := by decide +kernel
theorem d_Pl_joinedRows_47 : decode b_Pl_joinedRows 47 = .ok (.invokevirtual 95, 3) := by decide +kernel
theorem d_Pl_joinedRows_50 : decode b_Pl_joinedRows 50 = .ok (.i2l, 1) := by decide +kernel
theorem d_Pl_joinedRows_51 : decode b_Pl_joinedRows 51 = .ok (.aload_n 3, 1) := by decide +kernel
theorem d_Pl_joinedRows_52 : decode b_Pl_joinedRows 52 = .ok (.iload 6, 2) := by decide +kernel
theorem d_Pl_joinedRows_54 : decode b_Pl_joinedRows 54 = .ok (.aload_n 0, 1) := by decide +kernel
theorem d_Pl_joinedRows_55 : decode b_Pl_joinedRows 55 = .ok (.getfield 20, 3) := by decide +kernel
theorem d_Pl_joinedRows_58 : decode b_Pl_joinedRows 58 = .ok (.getfield 85, 3) := by decide +kernel
theorem d_Pl_joinedRows_61 : decode b_Pl_joinedRows 61 = .ok (.invokevirtual 88, 3) := by decide +kernel
theorem d_Pl_joinedRows_64 : decode b_Pl_joinedRows 64 = .ok (.iload_n 2, 1) := by decide +kernel
theorem d_Pl_joinedRows_65 : decode b_Pl_joinedRows 65 = .ok (.invokestatic 206, 3) := by decide +kernel
theorem d_Pl_joinedRows_68 : decode b_Pl_joinedRows 68 = .ok (.iload_n 1, 1) := by decide +kernel
theorem d_Pl_joinedRows_69 : decode b_Pl_joinedRows 69 = .ok (.if_icmp .ne 6, 3) := by decide +kernel
theorem d_Pl_joinedRows_72 : decode b_Pl_joinedRows 72 = .ok (.iinc 4 1, 3) := by decide +kernel
theorem d_Pl_joinedRows_75 : decode b_Pl_joinedRows 75 = .ok (.iinc 5 1, 3) := by decide +kernel
theorem d_Pl_joinedRows_78 : decode b_Pl_joinedRows 78 = .ok (.goto (-59), 3) := by decide +kernel
theorem d_Pl_joinedRows_81 : decode b_Pl_joinedRows 81 = .ok (.iload 4, 2) := by decide +kernel
theorem d_Pl_joinedRows_83 : decode b_Pl_joinedRows 83 = .ok (.ireturn, 1) := by decide +kernel
theorem d_Pl_groupsOfPart_0 : decode b_Pl_groupsOfPart 0 = .ok (.aload_n 0, 1) := by decide +kernel
theorem d_Pl_groupsOfPart_1 : decode b_Pl_groupsOfPart 1 = .ok (.getfield 20, 3) := by decide +kernel
theorem d_Pl_groupsOfPart_4 : decode b_Pl_groupsOfPart 4 = .ok (.invokevirtual 120, 3) := by decide +kernel
theorem d_Pl_groupsOfPart_7 : decode b_Pl_groupsOfPart 7 = .ok (.ifCond .ne 13, 3) := by decide +kernel
theorem d_Pl_groupsOfPart_10 : decode b_Pl_groupsOfPart 10 = .ok (.iload_n 1, 1) := by decide +kernel
theorem d_Pl_groupsOfPart_11 : decode b_Pl_groupsOfPart 11 = .ok (.ifCond .ne 7, 3) := by decide +kernel
theorem d_Pl_groupsOfPart_14 : decode b_Pl_groupsOfPart 14 = .ok (.iconst 1, 1) := by decide +kernel
theorem d_Pl_groupsOfPart_15 : decode b_Pl_groupsOfPart 15 = .ok (.goto 4, 3) := by decide +kernel
theorem d_Pl_groupsOfPart_18 : decode b_Pl_groupsOfPart 18 = .ok (.iconst 0, 1) := by decide +kernel
theorem d_Pl_groupsOfPart_19 : decode b_Pl_groupsOfPart 19 = .ok (.ireturn, 1) := by decide +kernel
theorem d_Pl_groupsOfPart_20 : decode b_Pl_groupsOfPart 20 = .ok (.iconst 0, 1) := by decide +kernel
theorem d_Pl_groupsOfPart_21 : decode b_Pl_groupsOfPart 21 = .ok (.istore_n 3, 1) := by decide +kernel
theorem d_Pl_groupsOfPart_22 : decode b_Pl_groupsOfPart 22 = .ok (.iconst 0, 1) := by decide +kernel
theorem d_Pl_groupsOfPart_23 : decode b_Pl_groupsOfPart 23 = .ok (.istore 4, 2) := by decide +kernel
theorem d_Pl_groupsOfPart_25 : decode b_Pl_groupsOfPart 25 = .ok (.iload 4, 2) := by decide +kernel
theorem d_Pl_groupsOfPart_27 : decode b_Pl_groupsOfPart 27 = .ok (.aload_n 0, 1) := by decide +kernel
theorem d_Pl_groupsOfPart_28 : decode b_Pl_groupsOfPart 28 = .ok (.getfield 123, 3) := by decide +kernel
theorem d_Pl_groupsOfPart_31 : decode b_Pl_groupsOfPart 31 = .ok (.if_icmp .ge 34, 3) := by decide +kernel
theorem d_Pl_groupsOfPart_34 : decode b_Pl_groupsOfPart 34 = .ok (.aload_n 0, 1) := by decide +kernel
theorem d_Pl_groupsOfPart_35 : decode b_Pl_groupsOfPart 35 = .ok (.getfield 48, 3) := by decide +kernel
theorem d_Pl_groupsOfPart_38 : decode b_Pl_groupsOfPart 38 = .ok (.iload 4, 2) := by decide +kernel
theorem d_Pl_groupsOfPart_40 : decode b_Pl_groupsOfPart 40 = .ok (.laload, 1) := by decide +kernel
theorem d_Pl_groupsOfPart_41 : decode b_Pl_groupsOfPart 41 = .ok (.aload_n 0, 1) := by decide +kernel
theorem d_Pl_groupsOfPart_42 : decode b_Pl_groupsOfPart 42 = .ok (.getfield 52, 3) := by decide +kernel
theorem d_Pl_groupsOfPart_45 : decode b_Pl_groupsOfPart 45 = .ok (.iload 4, 2) := by decide +kernel
theorem d_Pl_groupsOfPart_47 : decode b_Pl_groupsOfPart 47 = .ok (.baload, 1) := by decide +kernel
theorem d_Pl_groupsOfPart_48 : decode b_Pl_groupsOfPart 48 = .ok (.iload_n 2, 1) := by decide +kernel
theorem d_Pl_groupsOfPart_49 : decode b_Pl_groupsOfPart 49 = .ok (.invokestatic 206, 3) := by decide +kernel
theorem d_Pl_groupsOfPart_52 : decode b_Pl_groupsOfPart 52 = .ok (.iload_n 1, 1) := by decide +kernel
theorem d_Pl_groupsOfPart_53 : decode b_Pl_groupsOfPart 53 = .ok (.if_icmp .ne 6, 3) := by decide +kernel
theorem d_Pl_groupsOfPart_56 : decode b_Pl_groupsOfPart 56 = .ok (.iinc 3 1, 3) := by decide +kernel
theorem d_Pl_groupsOfPart_59 : decode b_Pl_groupsOfPart 59 = .ok (.iinc 4 1, 3) := by decide +kernel
theorem d_Pl_groupsOfPart_62 : decode b_Pl_groupsOfPart 62 = .ok (.goto (-37), 3) := by decide +kernel
theorem d_Pl_groupsOfPart_65 : decode b_Pl_groupsOfPart 65 = .ok (.iload_n 3, 1) := by decide +kernel
theorem d_Pl_groupsOfPart_66 : decode b_Pl_groupsOfPart 66 = .ok (.ireturn, 1) := by decide +kernel
theorem d_Pl_partOf_0 : decode b_Pl_partOf 0 = .ok (.iload_n 2, 1) := by decide +kernel
theorem d_Pl_partOf_1 : decode b_Pl_partOf 1 = .ok (.ifCond .ne 8, 3) := by decide +kernel
theorem d_Pl_partOf_4 : decode b_Pl_partOf 4 = .ok (.iload_n 3, 1) := by decide +kernel
theorem d_Pl_partOf_5 : decode b_Pl_partOf 5 = .ok (.iconst 1, 1) := by decide +kernel
theorem d_Pl_partOf_6 : decode b_Pl_partOf 6 = .ok (.if_icmp .ge 5, 3) := by decide +kernel
theorem d_Pl_partOf_9 : decode b_Pl_partOf 9 = .ok (.iconst 0, 1) := by decide +kernel
theorem d_Pl_partOf_10 : decode b_Pl_partOf 10 = .ok (.ireturn, 1) := by decide +kernel
theorem d_Pl_partOf_11 : decode b_Pl_partOf 11 = .ok (.lload_n 0, 1) := by decide +kernel
theorem d_Pl_partOf_12 : decode b_Pl_partOf 12 = .ok (.iload_n 3, 1) := by decide +kernel
theorem d_Pl_partOf_13 : decode b_Pl_partOf 13 = .ok (.i2l, 1) := by decide +kernel
theorem d_Pl_partOf_14 : decode b_Pl_partOf 14 = .ok (.invokestatic 217, 3) := by decide +kernel
theorem d_Pl_partOf_17 : decode b_Pl_partOf 17 = .ok (.l2i, 1) := by decide +kernel
theorem d_Pl_partOf_18 : decode b_Pl_partOf 18 = .ok (.ireturn, 1) := by decide +kernel
theorem d_Qu_init_0 : decode b_Qu_init 0 = .ok (.aload_n 0, 1) := by decide +kernel
theorem d_Qu_init_1 : decode b_Qu_init 1 = .ok (.invokespecial 3, 3) := by decide +kernel
theorem d_Qu_init_4 : decode b_Qu_init 4 = .ok (.aload_n 0, 1) := by decide +kernel
theorem d_Qu_init_5 : decode b_Qu_init 5 = .ok (.bipush 8, 2) := by decide +kernel
theorem d_Qu_init_7 : decode b_Qu_init 7 = .ok (.invokestatic 9, 3) := by decide +kernel
theorem d_Qu_init_10 : decode b_Qu_init 10 = .ok (.putfield 15, 3) := by decide +kernel
theorem d_Qu_init_13 : decode b_Qu_init 13 = .ok (.aload_n 0, 1) := by decide +kernel
theorem d_Qu_init_14 : decode b_Qu_init 14 = .ok (.bipush 6, 2) := by decide +kernel
theorem d_Qu_init_16 : decode b_Qu_init 16 = .ok (.invokestatic 9, 3) := by decide +kernel
theorem d_Qu_init_19 : decode b_Qu_init 19 = .ok (.putfield 19, 3) := by decide +kernel
theorem d_Qu_init_22 : decode b_Qu_init 22 = .ok (.aload_n 0, 1) := by decide +kernel
theorem d_Qu_init_23 : decode b_Qu_init 23 = .ok (.iconst 3, 1) := by decide +kernel
theorem d_Qu_init_24 : decode b_Qu_init 24 = .ok (.invokestatic 9, 3) := by decide +kernel
theorem d_Qu_init_27 : decode b_Qu_init 27 = .ok (.putfield 22, 3) := by decide +kernel
theorem d_Qu_init_30 : decode b_Qu_init 30 = .ok (.aload_n 0, 1) := by decide +kernel
theorem d_Qu_init_31 : decode b_Qu_init 31 = .ok (.iconst 3, 1) := by decide +kernel
theorem d_Qu_init_32 : decode b_Qu_init 32 = .ok (.newarray .int, 2) := by decide +kernel
theorem d_Qu_init_34 : decode b_Qu_init 34 = .ok (.putfield 25, 3) := by decide +kernel
theorem d_Qu_init_37 : decode b_Qu_init 37 = .ok (.aload_n 0, 1) := by decide +kernel
theorem d_Qu_init_38 : decode b_Qu_init 38 = .ok (.iconst (-1), 1) := by decide +kernel
theorem d_Qu_init_39 : decode b_Qu_init 39 = .ok (.putfield 29, 3) := by decide +kernel
theorem d_Qu_init_42 : decode b_Qu_init 42 = .ok (.aload_n 0, 1) := by decide +kernel
theorem d_Qu_init_43 : decode b_Qu_init 43 = .ok (.iconst (-1), 1) := by decide +kernel
theorem d_Qu_init_44 : decode b_Qu_init 44 = .ok (.putfield 33, 3) := by decide +kernel
theorem d_Qu_init_47 : decode b_Qu_init 47 = .ok (.return_, 1) := by decide +kernel
theorem d_Qu_makeExpressions_0 : decode b_Qu_makeExpressions 0 = .ok (.iload_n 0, 1) := by decide +kernel
theorem d_Qu_makeExpressions_1 : decode b_Qu_makeExpressions 1 = .ok (.anewarray 36, 3) := by decide +kernel
theorem d_Qu_makeExpressions_4 : decode b_Qu_makeExpressions 4 = .ok (.astore_n 1, 1) := by decide +kernel
theorem d_Qu_makeExpressions_5 : decode b_Qu_makeExpressions 5 = .ok (.iconst 0, 1) := by decide +kernel
theorem d_Qu_makeExpressions_6 : decode b_Qu_makeExpressions 6 = .ok (.istore_n 2, 1) := by decide +kernel
theorem d_Qu_makeExpressions_7 : decode b_Qu_makeExpressions 7 = .ok (.iload_n 2, 1) := by decide +kernel
theorem d_Qu_makeExpressions_8 : decode b_Qu_makeExpressions 8 = .ok (.iload_n 0, 1) := by decide +kernel
theorem d_Qu_makeExpressions_9 : decode b_Qu_makeExpressions 9 = .ok (.if_icmp .ge 19, 3) := by decide +kernel
theorem d_Qu_makeExpressions_12 : decode b_Qu_makeExpressions 12 = .ok (.aload_n 1, 1) := by decide +kernel
theorem d_Qu_makeExpressions_13 : decode b_Qu_makeExpressions 13 = .ok (.iload_n 2, 1) := by decide +kernel
theorem d_Qu_makeExpressions_14 : decode b_Qu_makeExpressions 14 = .ok (.new 36, 3) := by decide +kernel
theorem d_Qu_makeExpressions_17 : decode b_Qu_makeExpressions 17 = .ok (.dup, 1) := by decide +kernel
theorem d_Qu_makeExpressions_18 : decode b_Qu_makeExpressions 18 = .ok (.invokespecial 38, 3) := by decide +kernel
theorem d_Qu_makeExpressions_21 : decode b_Qu_makeExpressions 21 = .ok (.aastore, 1) := by decide +kernel
theorem d_Qu_makeExpressions_22 : decode b_Qu_makeExpressions 22 = .ok (.iinc 2 1, 3) := by decide +kernel
theorem d_Qu_makeExpressions_25 : decode b_Qu_makeExpressions 25 = .ok (.goto (-18), 3) := by decide +kernel
theorem d_Qu_makeExpressions_28 : decode b_Qu_makeExpressions 28 = .ok (.aload_n 1, 1) := by decide +kernel
theorem d_Qu_makeExpressions_29 : decode b_Qu_makeExpressions 29 = .ok (.areturn, 1) := by decide +kernel
theorem d_Qu_begin_0 : decode b_Qu_begin 0 = .ok (.aload_n 0, 1) := by decide +kernel
theorem d_Qu_begin_1 : decode b_Qu_begin 1 = .ok (.iconst 1, 1) := by decide +kernel
theorem d_Qu_begin_2 : decode b_Qu_begin 2 = .ok (.putfield 39, 3) := by decide +kernel
theorem d_Qu_begin_5 : decode b_Qu_begin 5 = .ok (.aload_n 0, 1) := by decide +kernel
theorem d_Qu_begin_6 : decode b_Qu_begin 6 = .ok (.iload_n 1, 1) := by decide +kernel
theorem d_Qu_begin_7 : decode b_Qu_begin 7 = .ok (.putfield 43, 3) := by decide +kernel
theorem d_Qu_begin_10 : decode b_Qu_begin 10 = .ok (.aload_n 0, 1) := by decide +kernel
theorem d_Qu_begin_11 : decode b_Qu_begin 11 = .ok (.iload_n 2, 1) := by decide +kernel
theorem d_Qu_begin_12 : decode b_Qu_begin 12 = .ok (.putfield 46, 3) := by decide +kernel
theorem d_Qu_begin_15 : decode b_Qu_begin 15 = .ok (.aload_n 0, 1) := by decide +kernel
theorem d_Qu_begin_16 : decode b_Qu_begin 16 = .ok (.iload_n 3, 1) := by decide +kernel
theorem d_Qu_begin_17 : decode b_Qu_begin 17 = .ok (.putfield 49, 3) := by decide +kernel
theorem d_Qu_begin_20 : decode b_Qu_begin 20 = .ok (.aload_n 0, 1) := by decide +kernel
theorem d_Qu_begin_21 : decode b_Qu_begin 21 = .ok (.iload 4, 2) := by decide +kernel
theorem d_Qu_begin_23 : decode b_Qu_begin 23 = .ok (.putfield 52, 3) := by decide +kernel
theorem d_Qu_begin_26 : decode b_Qu_begin 26 = .ok (.aload_n 0, 1) := by decide +kernel
theorem d_Qu_begin_27 : decode b_Qu_begin 27 = .ok (.iload 5, 2) := by decide +kernel
theorem d_Qu_begin_29 : decode b_Qu_begin 29 = .ok (.putfield 55, 3) := by decide +kernel
theorem d_Qu_begin_32 : decode b_Qu_begin 32 = .ok (.aload_n 0, 1) := by decide +kernel
theorem d_Qu_begin_33 : decode b_Qu_begin 33 = .ok (.iconst 0, 1) := by decide +kernel
theorem d_Qu_begin_34 : decode b_Qu_begin 34 = .ok (.putfield 58, 3) := by decide +kernel
theorem d_Qu_begin_37 : decode b_Qu_begin 37 = .ok (.aload_n 0, 1) := by decide +kernel
theorem d_Qu_begin_38 : decode b_Qu_begin 38 = .ok (.iconst 0, 1) := by decide +kernel
theorem d_Qu_begin_39 : decode b_Qu_begin 39 = .ok (.putfield 61, 3) := by decide +kernel
theorem d_Qu_begin_42 : decode b_Qu_begin 42 = .ok (.aload_n 0, 1) := by decide +kernel
theorem d_Qu_begin_43 : decode b_Qu_begin 43 = .ok (.iconst 0, 1) := by decide +kernel
theorem d_Qu_begin_44 : decode b_Qu_begin 44 = .ok (.putfield 64, 3) := by decide +kernel
theorem d_Qu_begin_47 : decode b_Qu_begin 47 = .ok (.aload_n 0, 1) := by decide +kernel
theorem d_Qu_begin_48 : decode b_Qu_begin 48 = .ok (.iconst (-1), 1) := by decide +kernel
theorem d_Qu_begin_49 : decode b_Qu_begin 49 = .ok (.putfield 29, 3) := by decide +kernel
theorem d_Qu_begin_52 : decode b_Qu_begin 52 = .ok (.aload_n 0, 1) := by decide +kernel
theorem d_Qu_begin_53 : decode b_Qu_begin 53 = .ok (.iconst 0, 1) := by decide +kernel
theorem d_Qu_begin_54 : decode b_Qu_begin 54 = .ok (.putfield 67, 3) := by decide +kernel
theorem d_Qu_begin_57 : decode b_Qu_begin 57 = .ok (.aload_n 0, 1) := by decide +kernel
theorem d_Qu_begin_58 : decode b_Qu_begin 58 = .ok (.iconst 0, 1) := by decide +kernel
theorem d_Qu_begin_59 : decode b_Qu_begin 59 = .ok (.putfield 70, 3) := by decide +kernel
theorem d_Qu_begin_62 : decode b_Qu_begin 62 = .ok (.aload_n 0, 1) := by decide +kernel
theorem d_Qu_begin_63 : decode b_Qu_begin 63 = .ok (.iconst (-1), 1) := by decide +kernel
theorem d_Qu_begin_64 : decode b_Qu_begin 64 = .ok (.putfield 33, 3) := by decide +kernel
theorem d_Qu_begin_67 : decode b_Qu_begin 67 = .ok (.return_, 1) := by decide +kernel
theorem d_Qu_isJoin_0 : decode b_Qu_isJoin 0 = .ok (.aload_n 0, 1) := by decide +kernel
theorem d_Qu_isJoin_1 : decode b_Qu_isJoin 1 = .ok (.getfield 43, 3) := by decide +kernel
theorem d_Qu_isJoin_4 : decode b_Qu_isJoin 4 = .ok (.ifCond .eq 7, 3) := by decide +kernel
theorem d_Qu_isJoin_7 : decode b_Qu_isJoin 7 = .ok (.iconst 1, 1) := by decide +kernel
theorem d_Qu_isJoin_8 : decode b_Qu_isJoin 8 = .ok (.goto 4, 3) := by decide +kernel
theorem d_Qu_isJoin_11 : decode b_Qu_isJoin 11 = .ok (.iconst 0, 1) := by decide +kernel
theorem d_Qu_isJoin_12 : decode b_Qu_isJoin 12 = .ok (.ireturn, 1) := by decide +kernel
theorem d_Qu_columns_0 : decode b_Qu_columns 0 = .ok (.aload_n 0, 1) := by decide +kernel
theorem d_Qu_columns_1 : decode b_Qu_columns 1 = .ok (.invokevirtual 73, 3) := by decide +kernel
theorem d_Qu_columns_4 : decode b_Qu_columns 4 = .ok (.ifCond .eq 7, 3) := by decide +kernel
theorem d_Qu_columns_7 : decode b_Qu_columns 7 = .ok (.iconst 4, 1) := by decide +kernel
theorem d_Qu_columns_8 : decode b_Qu_columns 8 = .ok (.goto 4, 3) := by decide +kernel
theorem d_Qu_columns_11 : decode b_Qu_columns 11 = .ok (.iconst 2, 1) := by decide +kernel
theorem d_Qu_columns_12 : decode b_Qu_columns 12 = .ok (.ireturn, 1) := by decide +kernel
theorem d_Qu_isGrouped_0 : decode b_Qu_isGrouped 0 = .ok (.aload_n 0, 1) := by decide +kernel
theorem d_Qu_isGrouped_1 : decode b_Qu_isGrouped 1 = .ok (.getfield 29, 3) := by decide +kernel
theorem d_Qu_isGrouped_4 : decode b_Qu_isGrouped 4 = .ok (.iconst (-1), 1) := by decide +kernel
theorem d_Qu_isGrouped_5 : decode b_Qu_isGrouped 5 = .ok (.if_icmp .eq 7, 3) := by decide +kernel
theorem d_Qu_isGrouped_8 : decode b_Qu_isGrouped 8 = .ok (.iconst 1, 1) := by decide +kernel
theorem d_Qu_isGrouped_9 : decode b_Qu_isGrouped 9 = .ok (.goto 4, 3) := by decide +kernel
theorem d_Qu_isGrouped_12 : decode b_Qu_isGrouped 12 = .ok (.iconst 0, 1) := by decide +kernel
theorem d_Qu_isGrouped_13 : decode b_Qu_isGrouped 13 = .ok (.ireturn, 1) := by decide +kernel
theorem d_Qu_isAggregate_0 : decode b_Qu_isAggregate 0 = .ok (.aload_n 0, 1) := by decide +kernel
theorem d_Qu_isAggregate_1 : decode b_Qu_isAggregate 1 = .ok (.invokevirtual 77, 3) := by decide +kernel
theorem d_Qu_isAggregate_4 : decode b_Qu_isAggregate 4 = .ok (.ifCond .ne 19, 3) := by decide +kernel
theorem d_Qu_isAggregate_7 : decode b_Qu_isAggregate 7 = .ok (.aload_n 0, 1) := by decide +kernel
theorem d_Qu_isAggregate_8 : decode b_Qu_isAggregate 8 = .ok (.getfield 64, 3) := by decide +kernel
theorem d_Qu_isAggregate_11 : decode b_Qu_isAggregate 11 = .ok (.ifCond .le 16, 3) := by decide +kernel
theorem d_Qu_isAggregate_14 : decode b_Qu_isAggregate 14 = .ok (.aload_n 0, 1) := by decide +kernel
theorem d_Qu_isAggregate_15 : decode b_Qu_isAggregate 15 = .ok (.getfield 25, 3) := by decide +kernel
theorem d_Qu_isAggregate_18 : decode b_Qu_isAggregate 18 = .ok (.iconst 0, 1) := by decide +kernel
theorem d_Qu_isAggregate_19 : decode b_Qu_isAggregate 19 = .ok (.iaload, 1) := by decide +kernel
theorem d_Qu_isAggregate_20 : decode b_Qu_isAggregate 20 = .ok (.ifCond .eq 7, 3) := by decide +kernel
theorem d_Qu_isAggregate_23 : decode b_Qu_isAggregate 23 = .ok (.iconst 1, 1) := by decide +kernel
theorem d_Qu_isAggregate_24 : decode b_Qu_isAggregate 24 = .ok (.goto 4, 3) := by decide +kernel
theorem d_Qu_isAggregate_27 : decode b_Qu_isAggregate 27 = .ok (.iconst 0, 1) := by decide +kernel
theorem d_Qu_isAggregate_28 : decode b_Qu_isAggregate 28 = .ok (.ireturn, 1) := by decide +kernel
theorem d_Qu_isWhole_0 : decode b_Qu_isWhole 0 = .ok (.aload_n 0, 1) := by decide +kernel
theorem d_Qu_isWhole_1 : decode b_Qu_isWhole 1 = .ok (.getfield 64, 3) := by decide +kernel
theorem d_Qu_isWhole_4 : decode b_Qu_isWhole 4 = .ok (.ifCond .ne 8, 3) := by decide +kernel
theorem d_Qu_isWhole_7 : decode b_Qu_isWhole 7 = .ok (.aload_n 0, 1) := by decide +kernel
theorem d_Qu_isWhole_8 : decode b_Qu_isWhole 8 = .ok (.invokevirtual 77, 3) := by decide +kernel
theorem d_Qu_isWhole_11 : decode b_Qu_isWhole 11 = .ok (.ireturn, 1) := by decide +kernel
theorem d_Qu_isWhole_12 : decode b_Qu_isWhole 12 = .ok (.aload_n 0, 1) := by decide +kernel
theorem d_Qu_isWhole_13 : decode b_Qu_isWhole 13 = .ok (.invokevirtual 80, 3) := by decide +kernel
theorem d_Qu_isWhole_16 : decode b_Qu_isWhole 16 = .ok (.istore_n 1, 1) := by decide +kernel
theorem d_Qu_isWhole_17 : decode b_Qu_isWhole 17 = .ok (.iconst 0, 1) := by decide +kernel
theorem d_Qu_isWhole_18 : decode b_Qu_isWhole 18 = .ok (.istore_n 2, 1) := by decide +kernel
theorem d_Qu_isWhole_19 : decode b_Qu_isWhole 19 = .ok (.iload_n 2, 1) := by decide +kernel
theorem d_Qu_isWhole_20 : decode b_Qu_isWhole 20 = .ok (.aload_n 0, 1) := by decide +kernel
theorem d_Qu_isWhole_21 : decode b_Qu_isWhole 21 = .ok (.getfield 64, 3) := by decide +kernel
theorem d_Qu_isWhole_24 : decode b_Qu_isWhole 24 = .ok (.if_icmp .ge 29, 3) := by decide +kernel
theorem d_Qu_isWhole_27 : decode b_Qu_isWhole 27 = .ok (.aload_n 0, 1) := by decide +kernel
theorem d_Qu_isWhole_28 : decode b_Qu_isWhole 28 = .ok (.getfield 25, 3) := by decide +kernel
theorem d_Qu_isWhole_31 : decode b_Qu_isWhole 31 = .ok (.iload_n 2, 1) := by decide +kernel
theorem d_Qu_isWhole_32 : decode b_Qu_isWhole 32 = .ok (.iaload, 1) := by decide +kernel
theorem d_Qu_isWhole_33 : decode b_Qu_isWhole 33 = .ok (.ifCond .eq 7, 3) := by decide +kernel
theorem d_Qu_isWhole_36 : decode b_Qu_isWhole 36 = .ok (.iconst 1, 1) := by decide +kernel
theorem d_Qu_isWhole_37 : decode b_Qu_isWhole 37 = .ok (.goto 4, 3) := by decide +kernel
theorem d_Qu_isWhole_40 : decode b_Qu_isWhole 40 = .ok (.iconst 0, 1) := by decide +kernel
theorem d_Qu_isWhole_41 : decode b_Qu_isWhole 41 = .ok (.iload_n 1, 1) := by decide +kernel
theorem d_Qu_isWhole_42 : decode b_Qu_isWhole 42 = .ok (.if_icmp .eq 5, 3) := by decide +kernel
theorem d_Qu_isWhole_45 : decode b_Qu_isWhole 45 = .ok (.iconst 0, 1) := by decide +kernel
theorem d_Qu_isWhole_46 : decode b_Qu_isWhole 46 = .ok (.ireturn, 1) := by decide +kernel
theorem d_Qu_isWhole_47 : decode b_Qu_isWhole 47 = .ok (.iinc 2 1, 3) := by decide +kernel
theorem d_Qu_isWhole_50 : decode b_Qu_isWhole 50 = .ok (.goto (-31), 3) := by decide +kernel
theorem d_Qu_isWhole_53 : decode b_Qu_isWhole 53 = .ok (.iconst 1, 1) := by decide +kernel
theorem d_Qu_isWhole_54 : decode b_Qu_isWhole 54 = .ok (.ireturn, 1) := by decide +kernel
theorem d_Qu_resultColumns_0 : decode b_Qu_resultColumns 0 = .ok (.aload_n 0, 1) := by decide +kernel
theorem d_Qu_resultColumns_1 : decode b_Qu_resultColumns 1 = .ok (.invokevirtual 77, 3) := by decide +kernel
theorem d_Qu_resultColumns_4 : decode b_Qu_resultColumns 4 = .ok (.ifCond .eq 12, 3) := by decide +kernel
theorem d_Qu_resultColumns_7 : decode b_Qu_resultColumns 7 = .ok (.aload_n 0, 1) := by decide +kernel
theorem d_Qu_resultColumns_8 : decode b_Qu_resultColumns 8 = .ok (.getfield 64, 3) := by decide +kernel
theorem d_Qu_resultColumns_11 : decode b_Qu_resultColumns 11 = .ok (.iconst 1, 1) := by decide +kernel
theorem d_Qu_resultColumns_12 : decode b_Qu_resultColumns 12 = .ok (.iadd, 1) := by decide +kernel
theorem d_Qu_resultColumns_13 : decode b_Qu_resultColumns 13 = .ok (.goto 7, 3) := by decide +kernel
theorem d_Qu_resultColumns_16 : decode b_Qu_resultColumns 16 = .ok (.aload_n 0, 1) := by decide +kernel
theorem d_Qu_resultColumns_17 : decode b_Qu_resultColumns 17 = .ok (.getfield 64, 3) := by decide +kernel
theorem d_Qu_resultColumns_20 : decode b_Qu_resultColumns 20 = .ok (.ireturn, 1) := by decide +kernel
theorem d_Qu_needs_0 : decode b_Qu_needs 0 = .ok (.iload_n 1, 1) := by decide +kernel
theorem d_Qu_needs_1 : decode b_Qu_needs 1 = .ok (.iconst 1, 1) := by decide +kernel
theorem d_Qu_needs_2 : decode b_Qu_needs 2 = .ok (.if_icmp .eq 8, 3) := by decide +kernel
theorem d_Qu_needs_5 : decode b_Qu_needs 5 = .ok (.iload_n 1, 1) := by decide +kernel
theorem d_Qu_needs_6 : decode b_Qu_needs 6 = .ok (.iconst 2, 1) := by decide +kernel
theorem d_Qu_needs_7 : decode b_Qu_needs 7 = .ok (.if_icmp .ne 8, 3) := by decide +kernel
theorem d_Qu_needs_10 : decode b_Qu_needs 10 = .ok (.aload_n 0, 1) := by decide +kernel
theorem d_Qu_needs_11 : decode b_Qu_needs 11 = .ok (.invokevirtual 73, 3) := by decide +kernel
theorem d_Qu_needs_14 : decode b_Qu_needs 14 = .ok (.ireturn, 1) := by decide +kernel
theorem d_Qu_needs_15 : decode b_Qu_needs 15 = .ok (.iload_n 1, 1) := by decide +kernel
theorem d_Qu_needs_16 : decode b_Qu_needs 16 = .ok (.ifCond .eq 10, 3) := by decide +kernel
theorem d_Qu_needs_19 : decode b_Qu_needs 19 = .ok (.aload_n 0, 1) := by decide +kernel
theorem d_Qu_needs_20 : decode b_Qu_needs 20 = .ok (.invokevirtual 80, 3) := by decide +kernel
theorem d_Qu_needs_23 : decode b_Qu_needs 23 = .ok (.ifCond .eq 7, 3) := by decide +kernel
theorem d_Qu_needs_26 : decode b_Qu_needs 26 = .ok (.iconst 1, 1) := by decide +kernel
theorem d_Qu_needs_27 : decode b_Qu_needs 27 = .ok (.goto 4, 3) := by decide +kernel
theorem d_Qu_needs_30 : decode b_Qu_needs 30 = .ok (.iconst 0, 1) := by decide +kernel
theorem d_Qu_needs_31 : decode b_Qu_needs 31 = .ok (.ireturn, 1) := by decide +kernel
theorem d_Qu_isPushed_0 : decode b_Qu_isPushed 0 = .ok (.iload_n 2, 1) := by decide +kernel
theorem d_Qu_isPushed_1 : decode b_Qu_isPushed 1 = .ok (.ifCond .ne 16, 3) := by decide +kernel
theorem d_Qu_isPushed_4 : decode b_Qu_isPushed 4 = .ok (.aload_n 1, 1) := by decide +kernel
theorem d_Qu_isPushed_5 : decode b_Qu_isPushed 5 = .ok (.invokevirtual 83, 3) := by decide +kernel
theorem d_Qu_isPushed_8 : decode b_Qu_isPushed 8 = .ok (.ifCond .ne 7, 3) := by decide +kernel
theorem d_Qu_isPushed_11 : decode b_Qu_isPushed 11 = .ok (.iconst 1, 1) := by decide +kernel
theorem d_Qu_isPushed_12 : decode b_Qu_isPushed 12 = .ok (.goto 4, 3) := by decide +kernel
theorem d_Qu_isPushed_15 : decode b_Qu_isPushed 15 = .ok (.iconst 0, 1) := by decide +kernel
theorem d_Qu_isPushed_16 : decode b_Qu_isPushed 16 = .ok (.ireturn, 1) := by decide +kernel
theorem d_Qu_isPushed_17 : decode b_Qu_isPushed 17 = .ok (.aload_n 0, 1) := by decide +kernel
theorem d_Qu_isPushed_18 : decode b_Qu_isPushed 18 = .ok (.getfield 43, 3) := by decide +kernel
theorem d_Qu_isPushed_21 : decode b_Qu_isPushed 21 = .ok (.iconst 1, 1) := by decide +kernel
theorem d_Qu_isPushed_22 : decode b_Qu_isPushed 22 = .ok (.if_icmp .ne 21, 3) := by decide +kernel
theorem d_Qu_isPushed_25 : decode b_Qu_isPushed 25 = .ok (.aload_n 1, 1) := by decide +kernel
theorem d_Qu_isPushed_26 : decode b_Qu_isPushed 26 = .ok (.invokevirtual 83, 3) := by decide +kernel
theorem d_Qu_isPushed_29 : decode b_Qu_isPushed 29 = .ok (.ifCond .eq 14, 3) := by decide +kernel
theorem d_Qu_isPushed_32 : decode b_Qu_isPushed 32 = .ok (.aload_n 1, 1) := by decide +kernel
theorem d_Qu_isPushed_33 : decode b_Qu_isPushed 33 = .ok (.invokevirtual 86, 3) := by decide +kernel
theorem d_Qu_isPushed_36 : decode b_Qu_isPushed 36 = .ok (.ifCond .ne 7, 3) := by decide +kernel
theorem d_Qu_isPushed_39 : decode b_Qu_isPushed 39 = .ok (.iconst 1, 1) := by decide +kernel
theorem d_Qu_isPushed_40 : decode b_Qu_isPushed 40 = .ok (.goto 4, 3) := by decide +kernel
theorem d_Qu_isPushed_43 : decode b_Qu_isPushed 43 = .ok (.iconst 0, 1) := by decide +kernel
theorem d_Qu_isPushed_44 : decode b_Qu_isPushed 44 = .ok (.ireturn, 1) := by decide +kernel
theorem d_Qu_push_0 : decode b_Qu_push 0 = .ok (.aload_n 0, 1) := by decide +kernel
theorem d_Qu_push_1 : decode b_Qu_push 1 = .ok (.getfield 58, 3) := by decide +kernel
theorem d_Qu_push_4 : decode b_Qu_push 4 = .ok (.bipush 8, 2) := by decide +kernel
theorem d_Qu_push_6 : decode b_Qu_push 6 = .ok (.if_icmp .lt 5, 3) := by decide +kernel
theorem d_Qu_push_9 : decode b_Qu_push 9 = .ok (.iconst 0, 1) := by decide +kernel
theorem d_Qu_push_10 : decode b_Qu_push 10 = .ok (.ireturn, 1) := by decide +kernel
theorem d_Qu_push_11 : decode b_Qu_push 11 = .ok (.aload_n 0, 1) := by decide +kernel
theorem d_Qu_push_12 : decode b_Qu_push 12 = .ok (.getfield 15, 3) := by decide +kernel
theorem d_Qu_push_15 : decode b_Qu_push 15 = .ok (.aload_n 0, 1) := by decide +kernel
theorem d_Qu_push_16 : decode b_Qu_push 16 = .ok (.getfield 58, 3) := by decide +kernel
theorem d_Qu_push_19 : decode b_Qu_push 19 = .ok (.aaload, 1) := by decide +kernel
theorem d_Qu_push_20 : decode b_Qu_push 20 = .ok (.invokevirtual 89, 3) := by decide +kernel
theorem d_Qu_push_23 : decode b_Qu_push 23 = .ok (.aload_n 0, 1) := by decide +kernel
theorem d_Qu_push_24 : decode b_Qu_push 24 = .ok (.getfield 15, 3) := by decide +kernel
theorem d_Qu_push_27 : decode b_Qu_push 27 = .ok (.aload_n 0, 1) := by decide +kernel
theorem d_Qu_push_28 : decode b_Qu_push 28 = .ok (.getfield 58, 3) := by decide +kernel
theorem d_Qu_push_31 : decode b_Qu_push 31 = .ok (.aaload, 1) := by decide +kernel
theorem d_Qu_push_32 : decode b_Qu_push 32 = .ok (.iload_n 1, 1) := by decide +kernel
theorem d_Qu_push_33 : decode b_Qu_push 33 = .ok (.iload_n 2, 1) := by decide +kernel
theorem d_Qu_push_34 : decode b_Qu_push 34 = .ok (.invokevirtual 92, 3) := by decide +kernel
theorem d_Qu_push_37 : decode b_Qu_push 37 = .ok (.aload_n 0, 1) := by decide +kernel
theorem d_Qu_push_38 : decode b_Qu_push 38 = .ok (.dup, 1) := by decide +kernel
theorem d_Qu_push_39 : decode b_Qu_push 39 = .ok (.getfield 58, 3) := by decide +kernel
theorem d_Qu_push_42 : decode b_Qu_push 42 = .ok (.iconst 1, 1) := by decide +kernel
theorem d_Qu_push_43 : decode b_Qu_push 43 = .ok (.iadd, 1) := by decide +kernel
theorem d_Qu_push_44 : decode b_Qu_push 44 = .ok (.putfield 58, 3) := by decide +kernel
theorem d_Qu_push_47 : decode b_Qu_push 47 = .ok (.iconst 1, 1) := by decide +kernel
theorem d_Qu_push_48 : decode b_Qu_push 48 = .ok (.ireturn, 1) := by decide +kernel
theorem d_Qu_apply_0 : decode b_Qu_apply 0 = .ok (.iload_n 1, 1) := by decide +kernel
theorem d_Qu_apply_1 : decode b_Qu_apply 1 = .ok (.bipush 8, 2) := by decide +kernel
theorem d_Qu_apply_3 : decode b_Qu_apply 3 = .ok (.if_icmp .eq 9, 3) := by decide +kernel
theorem d_Qu_apply_6 : decode b_Qu_apply 6 = .ok (.iload_n 1, 1) := by decide +kernel
theorem d_Qu_apply_7 : decode b_Qu_apply 7 = .ok (.bipush 9, 2) := by decide +kernel
theorem d_Qu_apply_9 : decode b_Qu_apply 9 = .ok (.if_icmp .ne 7, 3) := by decide +kernel
theorem d_Qu_apply_12 : decode b_Qu_apply 12 = .ok (.iconst 1, 1) := by decide +kernel
theorem d_Qu_apply_13 : decode b_Qu_apply 13 = .ok (.goto 4, 3) := by decide +kernel
theorem d_Qu_apply_16 : decode b_Qu_apply 16 = .ok (.iconst 2, 1) := by decide +kernel
theorem d_Qu_apply_17 : decode b_Qu_apply 17 = .ok (.istore_n 2, 1) := by decide +kernel
theorem d_Qu_apply_18 : decode b_Qu_apply 18 = .ok (.iload_n 1, 1) := by decide +kernel
theorem d_Qu_apply_19 : decode b_Qu_apply 19 = .ok (.bipush 6, 2) := by decide +kernel
theorem d_Qu_apply_21 : decode b_Qu_apply 21 = .ok (.if_icmp .eq 15, 3) := by decide +kernel
theorem d_Qu_apply_24 : decode b_Qu_apply 24 = .ok (.iload_n 1, 1) := by decide +kernel
theorem d_Qu_apply_25 : decode b_Qu_apply 25 = .ok (.bipush 7, 2) := by decide +kernel
theorem d_Qu_apply_27 : decode b_Qu_apply 27 = .ok (.if_icmp .eq 9, 3) := by decide +kernel
theorem d_Qu_apply_30 : decode b_Qu_apply 30 = .ok (.iload_n 1, 1) := by decide +kernel
theorem d_Qu_apply_31 : decode b_Qu_apply 31 = .ok (.bipush 8, 2) := by decide +kernel
theorem d_Qu_apply_33 : decode b_Qu_apply 33 = .ok (.if_icmp .ne 7, 3) := by decide +kernel
theorem d_Qu_apply_36 : decode b_Qu_apply 36 = .ok (.iconst 1, 1) := by decide +kernel
theorem d_Qu_apply_37 : decode b_Qu_apply 37 = .ok (.goto 4, 3) := by decide +kernel
theorem d_Qu_apply_40 : decode b_Qu_apply 40 = .ok (.iconst 0, 1) := by decide +kernel
theorem d_Qu_apply_41 : decode b_Qu_apply 41 = .ok (.istore_n 3, 1) := by decide +kernel
theorem d_Qu_apply_42 : decode b_Qu_apply 42 = .ok (.aload_n 0, 1) := by decide +kernel
theorem d_Qu_apply_43 : decode b_Qu_apply 43 = .ok (.getfield 58, 3) := by decide +kernel
theorem d_Qu_apply_46 : decode b_Qu_apply 46 = .ok (.iload_n 2, 1) := by decide +kernel
theorem d_Qu_apply_47 : decode b_Qu_apply 47 = .ok (.if_icmp .ge 5, 3) := by decide +kernel
theorem d_Qu_apply_50 : decode b_Qu_apply 50 = .ok (.iconst 0, 1) := by decide +kernel
theorem d_Qu_apply_51 : decode b_Qu_apply 51 = .ok (.ireturn, 1) := by decide +kernel
theorem d_Qu_apply_52 : decode b_Qu_apply 52 = .ok (.iconst 1, 1) := by decide +kernel
theorem d_Qu_apply_53 : decode b_Qu_apply 53 = .ok (.istore 4, 2) := by decide +kernel
theorem d_Qu_apply_55 : decode b_Qu_apply 55 = .ok (.aload_n 0, 1) := by decide +kernel
theorem d_Qu_apply_56 : decode b_Qu_apply 56 = .ok (.getfield 58, 3) := by decide +kernel
theorem d_Qu_apply_59 : decode b_Qu_apply 59 = .ok (.iload_n 2, 1) := by decide +kernel
theorem d_Qu_apply_60 : decode b_Qu_apply 60 = .ok (.isub, 1) := by decide +kernel
theorem d_Qu_apply_61 : decode b_Qu_apply 61 = .ok (.istore 5, 2) := by decide +kernel
theorem d_Qu_apply_63 : decode b_Qu_apply 63 = .ok (.iload 5, 2) := by decide +kernel
theorem d_Qu_apply_65 : decode b_Qu_apply 65 = .ok (.aload_n 0, 1) := by decide +kernel
theorem d_Qu_apply_66 : decode b_Qu_apply 66 = .ok (.getfield 58, 3) := by decide +kernel
theorem d_Qu_apply_69 : decode b_Qu_apply 69 = .ok (.if_icmp .ge 40, 3) := by decide +kernel
theorem d_Qu_apply_72 : decode b_Qu_apply 72 = .ok (.aload_n 0, 1) := by decide +kernel
theorem d_Qu_apply_73 : decode b_Qu_apply 73 = .ok (.getfield 15, 3) := by decide +kernel
theorem d_Qu_apply_76 : decode b_Qu_apply 76 = .ok (.iload 5, 2) := by decide +kernel
theorem d_Qu_apply_78 : decode b_Qu_apply 78 = .ok (.aaload, 1) := by decide +kernel
theorem d_Qu_apply_79 : decode b_Qu_apply 79 = .ok (.getfield 96, 3) := by decide +kernel
theorem d_Qu_apply_82 : decode b_Qu_apply 82 = .ok (.iload_n 3, 1) := by decide +kernel
theorem d_Qu_apply_83 : decode b_Qu_apply 83 = .ok (.if_icmp .eq 5, 3) := by decide +kernel
theorem d_Qu_apply_86 : decode b_Qu_apply 86 = .ok (.iconst 0, 1) := by decide +kernel
theorem d_Qu_apply_87 : decode b_Qu_apply 87 = .ok (.ireturn, 1) := by decide +kernel
theorem d_Qu_apply_88 : decode b_Qu_apply 88 = .ok (.iload 4, 2) := by decide +kernel
theorem d_Qu_apply_90 : decode b_Qu_apply 90 = .ok (.aload_n 0, 1) := by decide +kernel
theorem d_Qu_apply_91 : decode b_Qu_apply 91 = .ok (.getfield 15, 3) := by decide +kernel
theorem d_Qu_apply_94 : decode b_Qu_apply 94 = .ok (.iload 5, 2) := by decide +kernel
theorem d_Qu_apply_96 : decode b_Qu_apply 96 = .ok (.aaload, 1) := by decide +kernel
theorem d_Qu_apply_97 : decode b_Qu_apply 97 = .ok (.getfield 99, 3) := by decide +kernel
theorem d_Qu_apply_100 : decode b_Qu_apply 100 = .ok (.iadd, 1) := by decide +kernel
theorem d_Qu_apply_101 : decode b_Qu_apply 101 = .ok (.istore 4, 2) := by decide +kernel
theorem d_Qu_apply_103 : decode b_Qu_apply 103 = .ok (.iinc 5 1, 3) := by decide +kernel
theorem d_Qu_apply_106 : decode b_Qu_apply 106 = .ok (.goto (-43), 3) := by decide +kernel
theorem d_Qu_apply_109 : decode b_Qu_apply 109 = .ok (.iload 4, 2) := by decide +kernel
theorem d_Qu_apply_111 : decode b_Qu_apply 111 = .ok (.bipush 24, 2) := by decide +kernel
theorem d_Qu_apply_113 : decode b_Qu_apply 113 = .ok (.if_icmp .le 5, 3) := by decide +kernel
theorem d_Qu_apply_116 : decode b_Qu_apply 116 = .ok (.iconst 0, 1) := by decide +kernel
theorem d_Qu_apply_117 : decode b_Qu_apply 117 = .ok (.ireturn, 1) := by decide +kernel
theorem d_Qu_apply_118 : decode b_Qu_apply 118 = .ok (.aload_n 0, 1) := by decide +kernel
theorem d_Qu_apply_119 : decode b_Qu_apply 119 = .ok (.getfield 15, 3) := by decide +kernel
theorem d_Qu_apply_122 : decode b_Qu_apply 122 = .ok (.aload_n 0, 1) := by decide +kernel
theorem d_Qu_apply_123 : decode b_Qu_apply 123 = .ok (.getfield 58, 3) := by decide +kernel
theorem d_Qu_apply_126 : decode b_Qu_apply 126 = .ok (.iload_n 2, 1) := by decide +kernel
theorem d_Qu_apply_127 : decode b_Qu_apply 127 = .ok (.isub, 1) := by decide +kernel
theorem d_Qu_apply_128 : decode b_Qu_apply 128 = .ok (.aaload, 1) := by decide +kernel
theorem d_Qu_apply_129 : decode b_Qu_apply 129 = .ok (.astore 5, 2) := by decide +kernel
theorem d_Qu_apply_131 : decode b_Qu_apply 131 = .ok (.iload_n 2, 1) := by decide +kernel
theorem d_Qu_apply_132 : decode b_Qu_apply 132 = .ok (.iconst 2, 1) := by decide +kernel
theorem d_Qu_apply_133 : decode b_Qu_apply 133 = .ok (.if_icmp .ne 19, 3) := by decide +kernel
theorem d_Qu_apply_136 : decode b_Qu_apply 136 = .ok (.aload 5, 2) := by decide +kernel
theorem d_Qu_apply_138 : decode b_Qu_apply 138 = .ok (.aload_n 0, 1) := by decide +kernel
theorem d_Qu_apply_139 : decode b_Qu_apply 139 = .ok (.getfield 15, 3) := by decide +kernel
theorem d_Qu_apply_142 : decode b_Qu_apply 142 = .ok (.aload_n 0, 1) := by decide +kernel
theorem d_Qu_apply_143 : decode b_Qu_apply 143 = .ok (.getfield 58, 3) := by decide +kernel
theorem d_Qu_apply_146 : decode b_Qu_apply 146 = .ok (.iconst 1, 1) := by decide +kernel
theorem d_Qu_apply_147 : decode b_Qu_apply 147 = .ok (.isub, 1) := by decide +kernel
theorem d_Qu_apply_148 : decode b_Qu_apply 148 = .ok (.aaload, 1) := by decide +kernel
theorem d_Qu_apply_149 : decode b_Qu_apply 149 = .ok (.invokevirtual 102, 3) := by decide +kernel
theorem d_Qu_apply_152 : decode b_Qu_apply 152 = .ok (.aload 5, 2) := by decide +kernel
theorem d_Qu_apply_154 : decode b_Qu_apply 154 = .ok (.iload_n 1, 1) := by decide +kernel
theorem d_Qu_apply_155 : decode b_Qu_apply 155 = .ok (.iconst 0, 1) := by decide +kernel
theorem d_Qu_apply_156 : decode b_Qu_apply 156 = .ok (.invokevirtual 92, 3) := by decide +kernel
theorem d_Qu_apply_159 : decode b_Qu_apply 159 = .ok (.aload 5, 2) := by decide +kernel
theorem d_Qu_apply_161 : decode b_Qu_apply 161 = .ok (.iload_n 1, 1) := by decide +kernel
theorem d_Qu_apply_162 : decode b_Qu_apply 162 = .ok (.iconst 4, 1) := by decide +kernel
theorem d_Qu_apply_163 : decode b_Qu_apply 163 = .ok (.if_icmp .lt 7, 3) := by decide +kernel
theorem d_Qu_apply_166 : decode b_Qu_apply 166 = .ok (.iconst 1, 1) := by decide +kernel
theorem d_Qu_apply_167 : decode b_Qu_apply 167 = .ok (.goto 4, 3) := by decide +kernel
theorem d_Qu_apply_170 : decode b_Qu_apply 170 = .ok (.iconst 0, 1) := by decide +kernel
theorem d_Qu_apply_171 : decode b_Qu_apply 171 = .ok (.putfield 96, 3) := by decide +kernel
theorem d_Qu_apply_174 : decode b_Qu_apply 174 = .ok (.aload_n 0, 1) := by decide +kernel
theorem d_Qu_apply_175 : decode b_Qu_apply 175 = .ok (.aload_n 0, 1) := by decide +kernel
theorem d_Qu_apply_176 : decode b_Qu_apply 176 = .ok (.getfield 58, 3) := by decide +kernel
theorem d_Qu_apply_179 : decode b_Qu_apply 179 = .ok (.iload_n 2, 1) := by decide +kernel
theorem d_Qu_apply_180 : decode b_Qu_apply 180 = .ok (.isub, 1) := by decide +kernel
theorem d_Qu_apply_181 : decode b_Qu_apply 181 = .ok (.iconst 1, 1) := by decide +kernel
theorem d_Qu_apply_182 : decode b_Qu_apply 182 = .ok (.iadd, 1) := by decide +kernel
theorem d_Qu_apply_183 : decode b_Qu_apply 183 = .ok (.putfield 58, 3) := by decide +kernel
theorem d_Qu_apply_186 : decode b_Qu_apply 186 = .ok (.iconst 1, 1) := by decide +kernel
theorem d_Qu_apply_187 : decode b_Qu_apply 187 = .ok (.ireturn, 1) := by decide +kernel
end
section
theorem d_Qu_takeCondition_0 : decode b_Qu_takeCondition 0 = .ok (.aload_n 0, 1) := by decide +kernel
theorem d_Qu_takeCondition_1 : decode b_Qu_takeCondition 1 = .ok (.getfield 58, 3) := by decide +kernel
theorem d_Qu_takeCondition_4 : decode b_Qu_takeCondition 4 = .ok (.iconst 1, 1) := by decide +kernel
theorem d_Qu_takeCondition_5 : decode b_Qu_takeCondition 5 = .ok (.if_icmp .ne 24, 3) := by decide +kernel
theorem d_Qu_takeCondition_8 : decode b_Qu_takeCondition 8 = .ok (.aload_n 0, 1) := by decide +kernel
theorem d_Qu_takeCondition_9 : decode b_Qu_takeCondition 9 = .ok (.getfield 15, 3) := by decide +kernel
theorem d_Qu_takeCondition_12 : decode b_Qu_takeCondition 12 = .ok (.iconst 0, 1) := by decide +kernel
theorem d_Qu_takeCondition_13 : decode b_Qu_takeCondition 13 = .ok (.aaload, 1) := by decide +kernel
theorem d_Qu_takeCondition_14 : decode b_Qu_takeCondition 14 = .ok (.getfield 96, 3) := by decide +kernel
theorem d_Qu_takeCondition_17 : decode b_Qu_takeCondition 17 = .ok (.ifCond .eq 12, 3) := by decide +kernel
theorem d_Qu_takeCondition_20 : decode b_Qu_takeCondition 20 = .ok (.aload_n 0, 1) := by decide +kernel
theorem d_Qu_takeCondition_21 : decode b_Qu_takeCondition 21 = .ok (.getfield 61, 3) := by decide +kernel
theorem d_Qu_takeCondition_24 : decode b_Qu_takeCondition 24 = .ok (.bipush 6, 2) := by decide +kernel
theorem d_Qu_takeCondition_26 : decode b_Qu_takeCondition 26 = .ok (.if_icmp .lt 5, 3) := by decide +kernel
theorem d_Qu_takeCondition_29 : decode b_Qu_takeCondition 29 = .ok (.iconst 0, 1) := by decide +kernel
theorem d_Qu_takeCondition_30 : decode b_Qu_takeCondition 30 = .ok (.ireturn, 1) := by decide +kernel
theorem d_Qu_takeCondition_31 : decode b_Qu_takeCondition 31 = .ok (.aload_n 0, 1) := by decide +kernel
theorem d_Qu_takeCondition_32 : decode b_Qu_takeCondition 32 = .ok (.aload_n 0, 1) := by decide +kernel
theorem d_Qu_takeCondition_33 : decode b_Qu_takeCondition 33 = .ok (.getfield 19, 3) := by decide +kernel
theorem d_Qu_takeCondition_36 : decode b_Qu_takeCondition 36 = .ok (.aload_n 0, 1) := by decide +kernel
theorem d_Qu_takeCondition_37 : decode b_Qu_takeCondition 37 = .ok (.getfield 61, 3) := by decide +kernel
theorem d_Qu_takeCondition_40 : decode b_Qu_takeCondition 40 = .ok (.invokevirtual 106, 3) := by decide +kernel
theorem d_Qu_takeCondition_43 : decode b_Qu_takeCondition 43 = .ok (.aload_n 0, 1) := by decide +kernel
theorem d_Qu_takeCondition_44 : decode b_Qu_takeCondition 44 = .ok (.dup, 1) := by decide +kernel
theorem d_Qu_takeCondition_45 : decode b_Qu_takeCondition 45 = .ok (.getfield 61, 3) := by decide +kernel
theorem d_Qu_takeCondition_48 : decode b_Qu_takeCondition 48 = .ok (.iconst 1, 1) := by decide +kernel
theorem d_Qu_takeCondition_49 : decode b_Qu_takeCondition 49 = .ok (.iadd, 1) := by decide +kernel
theorem d_Qu_takeCondition_50 : decode b_Qu_takeCondition 50 = .ok (.putfield 61, 3) := by decide +kernel
theorem d_Qu_takeCondition_53 : decode b_Qu_takeCondition 53 = .ok (.iconst 1, 1) := by decide +kernel
theorem d_Qu_takeCondition_54 : decode b_Qu_takeCondition 54 = .ok (.ireturn, 1) := by decide +kernel
theorem d_Qu_takeOutput_0 : decode b_Qu_takeOutput 0 = .ok (.aload_n 0, 1) := by decide +kernel
theorem d_Qu_takeOutput_1 : decode b_Qu_takeOutput 1 = .ok (.getfield 64, 3) := by decide +kernel
theorem d_Qu_takeOutput_4 : decode b_Qu_takeOutput 4 = .ok (.iconst 3, 1) := by decide +kernel
theorem d_Qu_takeOutput_5 : decode b_Qu_takeOutput 5 = .ok (.if_icmp .lt 5, 3) := by decide +kernel
theorem d_Qu_takeOutput_8 : decode b_Qu_takeOutput 8 = .ok (.iconst 0, 1) := by decide +kernel
theorem d_Qu_takeOutput_9 : decode b_Qu_takeOutput 9 = .ok (.ireturn, 1) := by decide +kernel
theorem d_Qu_takeOutput_10 : decode b_Qu_takeOutput 10 = .ok (.iload_n 1, 1) := by decide +kernel
theorem d_Qu_takeOutput_11 : decode b_Qu_takeOutput 11 = .ok (.iconst 1, 1) := by decide +kernel
theorem d_Qu_takeOutput_12 : decode b_Qu_takeOutput 12 = .ok (.if_icmp .ne 27, 3) := by decide +kernel
theorem d_Qu_takeOutput_15 : decode b_Qu_takeOutput 15 = .ok (.aload_n 0, 1) := by decide +kernel
theorem d_Qu_takeOutput_16 : decode b_Qu_takeOutput 16 = .ok (.getfield 58, 3) := by decide +kernel
theorem d_Qu_takeOutput_19 : decode b_Qu_takeOutput 19 = .ok (.ifCond .eq 5, 3) := by decide +kernel
theorem d_Qu_takeOutput_22 : decode b_Qu_takeOutput 22 = .ok (.iconst 0, 1) := by decide +kernel
theorem d_Qu_takeOutput_23 : decode b_Qu_takeOutput 23 = .ok (.ireturn, 1) := by decide +kernel
theorem d_Qu_takeOutput_24 : decode b_Qu_takeOutput 24 = .ok (.aload_n 0, 1) := by decide +kernel
theorem d_Qu_takeOutput_25 : decode b_Qu_takeOutput 25 = .ok (.getfield 22, 3) := by decide +kernel
theorem d_Qu_takeOutput_28 : decode b_Qu_takeOutput 28 = .ok (.aload_n 0, 1) := by decide +kernel
theorem d_Qu_takeOutput_29 : decode b_Qu_takeOutput 29 = .ok (.getfield 64, 3) := by decide +kernel
theorem d_Qu_takeOutput_32 : decode b_Qu_takeOutput 32 = .ok (.aaload, 1) := by decide +kernel
theorem d_Qu_takeOutput_33 : decode b_Qu_takeOutput 33 = .ok (.invokevirtual 89, 3) := by decide +kernel
theorem d_Qu_takeOutput_36 : decode b_Qu_takeOutput 36 = .ok (.goto 37, 3) := by decide +kernel
theorem d_Qu_takeOutput_39 : decode b_Qu_takeOutput 39 = .ok (.aload_n 0, 1) := by decide +kernel
theorem d_Qu_takeOutput_40 : decode b_Qu_takeOutput 40 = .ok (.getfield 58, 3) := by decide +kernel
theorem d_Qu_takeOutput_43 : decode b_Qu_takeOutput 43 = .ok (.iconst 1, 1) := by decide +kernel
theorem d_Qu_takeOutput_44 : decode b_Qu_takeOutput 44 = .ok (.if_icmp .ne 15, 3) := by decide +kernel
theorem d_Qu_takeOutput_47 : decode b_Qu_takeOutput 47 = .ok (.aload_n 0, 1) := by decide +kernel
theorem d_Qu_takeOutput_48 : decode b_Qu_takeOutput 48 = .ok (.getfield 15, 3) := by decide +kernel
theorem d_Qu_takeOutput_51 : decode b_Qu_takeOutput 51 = .ok (.iconst 0, 1) := by decide +kernel
theorem d_Qu_takeOutput_52 : decode b_Qu_takeOutput 52 = .ok (.aaload, 1) := by decide +kernel
theorem d_Qu_takeOutput_53 : decode b_Qu_takeOutput 53 = .ok (.getfield 96, 3) := by decide +kernel
theorem d_Qu_takeOutput_56 : decode b_Qu_takeOutput 56 = .ok (.ifCond .eq 5, 3) := by decide +kernel
theorem d_Qu_takeOutput_59 : decode b_Qu_takeOutput 59 = .ok (.iconst 0, 1) := by decide +kernel
theorem d_Qu_takeOutput_60 : decode b_Qu_takeOutput 60 = .ok (.ireturn, 1) := by decide +kernel
theorem d_Qu_takeOutput_61 : decode b_Qu_takeOutput 61 = .ok (.aload_n 0, 1) := by decide +kernel
theorem d_Qu_takeOutput_62 : decode b_Qu_takeOutput 62 = .ok (.aload_n 0, 1) := by decide +kernel
theorem d_Qu_takeOutput_63 : decode b_Qu_takeOutput 63 = .ok (.getfield 22, 3) := by decide +kernel
theorem d_Qu_takeOutput_66 : decode b_Qu_takeOutput 66 = .ok (.aload_n 0, 1) := by decide +kernel
theorem d_Qu_takeOutput_67 : decode b_Qu_takeOutput 67 = .ok (.getfield 64, 3) := by decide +kernel
theorem d_Qu_takeOutput_70 : decode b_Qu_takeOutput 70 = .ok (.invokevirtual 106, 3) := by decide +kernel
theorem d_Qu_takeOutput_73 : decode b_Qu_takeOutput 73 = .ok (.aload_n 0, 1) := by decide +kernel
theorem d_Qu_takeOutput_74 : decode b_Qu_takeOutput 74 = .ok (.getfield 25, 3) := by decide +kernel
theorem d_Qu_takeOutput_77 : decode b_Qu_takeOutput 77 = .ok (.aload_n 0, 1) := by decide +kernel
theorem d_Qu_takeOutput_78 : decode b_Qu_takeOutput 78 = .ok (.getfield 64, 3) := by decide +kernel
theorem d_Qu_takeOutput_81 : decode b_Qu_takeOutput 81 = .ok (.iload_n 1, 1) := by decide +kernel
theorem d_Qu_takeOutput_82 : decode b_Qu_takeOutput 82 = .ok (.iastore, 1) := by decide +kernel
theorem d_Qu_takeOutput_83 : decode b_Qu_takeOutput 83 = .ok (.aload_n 0, 1) := by decide +kernel
theorem d_Qu_takeOutput_84 : decode b_Qu_takeOutput 84 = .ok (.dup, 1) := by decide +kernel
theorem d_Qu_takeOutput_85 : decode b_Qu_takeOutput 85 = .ok (.getfield 64, 3) := by decide +kernel
theorem d_Qu_takeOutput_88 : decode b_Qu_takeOutput 88 = .ok (.iconst 1, 1) := by decide +kernel
theorem d_Qu_takeOutput_89 : decode b_Qu_takeOutput 89 = .ok (.iadd, 1) := by decide +kernel
theorem d_Qu_takeOutput_90 : decode b_Qu_takeOutput 90 = .ok (.putfield 64, 3) := by decide +kernel
theorem d_Qu_takeOutput_93 : decode b_Qu_takeOutput 93 = .ok (.iconst 1, 1) := by decide +kernel
theorem d_Qu_takeOutput_94 : decode b_Qu_takeOutput 94 = .ok (.ireturn, 1) := by decide +kernel
theorem d_Qu_moveOffStack_0 : decode b_Qu_moveOffStack 0 = .ok (.aload_n 1, 1) := by decide +kernel
theorem d_Qu_moveOffStack_1 : decode b_Qu_moveOffStack 1 = .ok (.iload_n 2, 1) := by decide +kernel
theorem d_Qu_moveOffStack_2 : decode b_Qu_moveOffStack 2 = .ok (.aaload, 1) := by decide +kernel
theorem d_Qu_moveOffStack_3 : decode b_Qu_moveOffStack 3 = .ok (.astore_n 3, 1) := by decide +kernel
theorem d_Qu_moveOffStack_4 : decode b_Qu_moveOffStack 4 = .ok (.aload_n 1, 1) := by decide +kernel
theorem d_Qu_moveOffStack_5 : decode b_Qu_moveOffStack 5 = .ok (.iload_n 2, 1) := by decide +kernel
theorem d_Qu_moveOffStack_6 : decode b_Qu_moveOffStack 6 = .ok (.aload_n 0, 1) := by decide +kernel
theorem d_Qu_moveOffStack_7 : decode b_Qu_moveOffStack 7 = .ok (.getfield 15, 3) := by decide +kernel
theorem d_Qu_moveOffStack_10 : decode b_Qu_moveOffStack 10 = .ok (.iconst 0, 1) := by decide +kernel
theorem d_Qu_moveOffStack_11 : decode b_Qu_moveOffStack 11 = .ok (.aaload, 1) := by decide +kernel
theorem d_Qu_moveOffStack_12 : decode b_Qu_moveOffStack 12 = .ok (.aastore, 1) := by decide +kernel
theorem d_Qu_moveOffStack_13 : decode b_Qu_moveOffStack 13 = .ok (.aload_n 0, 1) := by decide +kernel
theorem d_Qu_moveOffStack_14 : decode b_Qu_moveOffStack 14 = .ok (.getfield 15, 3) := by decide +kernel
theorem d_Qu_moveOffStack_17 : decode b_Qu_moveOffStack 17 = .ok (.iconst 0, 1) := by decide +kernel
theorem d_Qu_moveOffStack_18 : decode b_Qu_moveOffStack 18 = .ok (.aload_n 3, 1) := by decide +kernel
theorem d_Qu_moveOffStack_19 : decode b_Qu_moveOffStack 19 = .ok (.aastore, 1) := by decide +kernel
theorem d_Qu_moveOffStack_20 : decode b_Qu_moveOffStack 20 = .ok (.aload_n 0, 1) := by decide +kernel
theorem d_Qu_moveOffStack_21 : decode b_Qu_moveOffStack 21 = .ok (.iconst 0, 1) := by decide +kernel
theorem d_Qu_moveOffStack_22 : decode b_Qu_moveOffStack 22 = .ok (.putfield 58, 3) := by decide +kernel
theorem d_Qu_moveOffStack_25 : decode b_Qu_moveOffStack 25 = .ok (.return_, 1) := by decide +kernel
theorem d_Re_init_0 : decode b_Re_init 0 = .ok (.aload_n 0, 1) := by decide +kernel
theorem d_Re_init_1 : decode b_Re_init 1 = .ok (.invokespecial 3, 3) := by decide +kernel
theorem d_Re_init_4 : decode b_Re_init 4 = .ok (.aload_n 0, 1) := by decide +kernel
theorem d_Re_init_5 : decode b_Re_init 5 = .ok (.sipush 576, 3) := by decide +kernel
theorem d_Re_init_8 : decode b_Re_init 8 = .ok (.newarray .long, 2) := by decide +kernel
theorem d_Re_init_10 : decode b_Re_init 10 = .ok (.putfield 9, 3) := by decide +kernel
theorem d_Re_init_13 : decode b_Re_init 13 = .ok (.aload_n 0, 1) := by decide +kernel
theorem d_Re_init_14 : decode b_Re_init 14 = .ok (.sipush 576, 3) := by decide +kernel
theorem d_Re_init_17 : decode b_Re_init 17 = .ok (.newarray .boolean, 2) := by decide +kernel
theorem d_Re_init_19 : decode b_Re_init 19 = .ok (.putfield 15, 3) := by decide +kernel
theorem d_Re_init_22 : decode b_Re_init 22 = .ok (.aload_n 0, 1) := by decide +kernel
theorem d_Re_init_23 : decode b_Re_init 23 = .ok (.sipush 144, 3) := by decide +kernel
theorem d_Re_init_26 : decode b_Re_init 26 = .ok (.newarray .int, 2) := by decide +kernel
theorem d_Re_init_28 : decode b_Re_init 28 = .ok (.putfield 19, 3) := by decide +kernel
theorem d_Re_init_31 : decode b_Re_init 31 = .ok (.return_, 1) := by decide +kernel
theorem d_Re_set_0 : decode b_Re_set 0 = .ok (.aload_n 0, 1) := by decide +kernel
theorem d_Re_set_1 : decode b_Re_set 1 = .ok (.getfield 9, 3) := by decide +kernel
theorem d_Re_set_4 : decode b_Re_set 4 = .ok (.iload_n 1, 1) := by decide +kernel
theorem d_Re_set_5 : decode b_Re_set 5 = .ok (.iconst 4, 1) := by decide +kernel
theorem d_Re_set_6 : decode b_Re_set 6 = .ok (.imul, 1) := by decide +kernel
theorem d_Re_set_7 : decode b_Re_set 7 = .ok (.iload_n 2, 1) := by decide +kernel
theorem d_Re_set_8 : decode b_Re_set 8 = .ok (.iadd, 1) := by decide +kernel
theorem d_Re_set_9 : decode b_Re_set 9 = .ok (.lload_n 3, 1) := by decide +kernel
theorem d_Re_set_10 : decode b_Re_set 10 = .ok (.lastore, 1) := by decide +kernel
theorem d_Re_set_11 : decode b_Re_set 11 = .ok (.aload_n 0, 1) := by decide +kernel
theorem d_Re_set_12 : decode b_Re_set 12 = .ok (.getfield 15, 3) := by decide +kernel
theorem d_Re_set_15 : decode b_Re_set 15 = .ok (.iload_n 1, 1) := by decide +kernel
theorem d_Re_set_16 : decode b_Re_set 16 = .ok (.iconst 4, 1) := by decide +kernel
theorem d_Re_set_17 : decode b_Re_set 17 = .ok (.imul, 1) := by decide +kernel
theorem d_Re_set_18 : decode b_Re_set 18 = .ok (.iload_n 2, 1) := by decide +kernel
theorem d_Re_set_19 : decode b_Re_set 19 = .ok (.iadd, 1) := by decide +kernel
theorem d_Re_set_20 : decode b_Re_set 20 = .ok (.iload 5, 2) := by decide +kernel
theorem d_Re_set_22 : decode b_Re_set 22 = .ok (.bastore, 1) := by decide +kernel
theorem d_Re_set_23 : decode b_Re_set 23 = .ok (.return_, 1) := by decide +kernel
theorem d_Re_value_0 : decode b_Re_value 0 = .ok (.aload_n 0, 1) := by decide +kernel
theorem d_Re_value_1 : decode b_Re_value 1 = .ok (.getfield 9, 3) := by decide +kernel
theorem d_Re_value_4 : decode b_Re_value 4 = .ok (.aload_n 0, 1) := by decide +kernel
theorem d_Re_value_5 : decode b_Re_value 5 = .ok (.getfield 19, 3) := by decide +kernel
theorem d_Re_value_8 : decode b_Re_value 8 = .ok (.iload_n 1, 1) := by decide +kernel
theorem d_Re_value_9 : decode b_Re_value 9 = .ok (.iaload, 1) := by decide +kernel
theorem d_Re_value_10 : decode b_Re_value 10 = .ok (.iconst 4, 1) := by decide +kernel
theorem d_Re_value_11 : decode b_Re_value 11 = .ok (.imul, 1) := by decide +kernel
theorem d_Re_value_12 : decode b_Re_value 12 = .ok (.iload_n 2, 1) := by decide +kernel
theorem d_Re_value_13 : decode b_Re_value 13 = .ok (.iadd, 1) := by decide +kernel
theorem d_Re_value_14 : decode b_Re_value 14 = .ok (.laload, 1) := by decide +kernel
theorem d_Re_value_15 : decode b_Re_value 15 = .ok (.lreturn, 1) := by decide +kernel
theorem d_Re_isNull_0 : decode b_Re_isNull 0 = .ok (.aload_n 0, 1) := by decide +kernel
theorem d_Re_isNull_1 : decode b_Re_isNull 1 = .ok (.getfield 15, 3) := by decide +kernel
theorem d_Re_isNull_4 : decode b_Re_isNull 4 = .ok (.aload_n 0, 1) := by decide +kernel
theorem d_Re_isNull_5 : decode b_Re_isNull 5 = .ok (.getfield 19, 3) := by decide +kernel
theorem d_Re_isNull_8 : decode b_Re_isNull 8 = .ok (.iload_n 1, 1) := by decide +kernel
theorem d_Re_isNull_9 : decode b_Re_isNull 9 = .ok (.iaload, 1) := by decide +kernel
theorem d_Re_isNull_10 : decode b_Re_isNull 10 = .ok (.iconst 4, 1) := by decide +kernel
theorem d_Re_isNull_11 : decode b_Re_isNull 11 = .ok (.imul, 1) := by decide +kernel
theorem d_Re_isNull_12 : decode b_Re_isNull 12 = .ok (.iload_n 2, 1) := by decide +kernel
theorem d_Re_isNull_13 : decode b_Re_isNull 13 = .ok (.iadd, 1) := by decide +kernel
theorem d_Re_isNull_14 : decode b_Re_isNull 14 = .ok (.baload, 1) := by decide +kernel
theorem d_Re_isNull_15 : decode b_Re_isNull 15 = .ok (.ireturn, 1) := by decide +kernel
theorem d_Re_sort_0 : decode b_Re_sort 0 = .ok (.aload_n 1, 1) := by decide +kernel
theorem d_Re_sort_1 : decode b_Re_sort 1 = .ok (.getfield 23, 3) := by decide +kernel
theorem d_Re_sort_4 : decode b_Re_sort 4 = .ok (.aload_n 0, 1) := by decide +kernel
theorem d_Re_sort_5 : decode b_Re_sort 5 = .ok (.getfield 29, 3) := by decide +kernel
theorem d_Re_sort_8 : decode b_Re_sort 8 = .ok (.if_icmp .ge 10, 3) := by decide +kernel
theorem d_Re_sort_11 : decode b_Re_sort 11 = .ok (.aload_n 1, 1) := by decide +kernel
theorem d_Re_sort_12 : decode b_Re_sort 12 = .ok (.getfield 23, 3) := by decide +kernel
theorem d_Re_sort_15 : decode b_Re_sort 15 = .ok (.goto 4, 3) := by decide +kernel
theorem d_Re_sort_18 : decode b_Re_sort 18 = .ok (.iconst 0, 1) := by decide +kernel
theorem d_Re_sort_19 : decode b_Re_sort 19 = .ok (.istore_n 2, 1) := by decide +kernel
theorem d_Re_sort_20 : decode b_Re_sort 20 = .ok (.iconst 0, 1) := by decide +kernel
theorem d_Re_sort_21 : decode b_Re_sort 21 = .ok (.istore_n 3, 1) := by decide +kernel
theorem d_Re_sort_22 : decode b_Re_sort 22 = .ok (.iload_n 3, 1) := by decide +kernel
theorem d_Re_sort_23 : decode b_Re_sort 23 = .ok (.aload_n 0, 1) := by decide +kernel
theorem d_Re_sort_24 : decode b_Re_sort 24 = .ok (.getfield 32, 3) := by decide +kernel
theorem d_Re_sort_27 : decode b_Re_sort 27 = .ok (.if_icmp .ge 69, 3) := by decide +kernel
theorem d_Re_sort_30 : decode b_Re_sort 30 = .ok (.iload_n 3, 1) := by decide +kernel
theorem d_Re_sort_31 : decode b_Re_sort 31 = .ok (.istore 4, 2) := by decide +kernel
theorem d_Re_sort_33 : decode b_Re_sort 33 = .ok (.iload 4, 2) := by decide +kernel
theorem d_Re_sort_35 : decode b_Re_sort 35 = .ok (.ifCond .le 47, 3) := by decide +kernel
theorem d_Re_sort_38 : decode b_Re_sort 38 = .ok (.aload_n 0, 1) := by decide +kernel
theorem d_Re_sort_39 : decode b_Re_sort 39 = .ok (.iload_n 3, 1) := by decide +kernel
theorem d_Re_sort_40 : decode b_Re_sort 40 = .ok (.aload_n 0, 1) := by decide +kernel
theorem d_Re_sort_41 : decode b_Re_sort 41 = .ok (.getfield 19, 3) := by decide +kernel
theorem d_Re_sort_44 : decode b_Re_sort 44 = .ok (.iload 4, 2) := by decide +kernel
theorem d_Re_sort_46 : decode b_Re_sort 46 = .ok (.iconst 1, 1) := by decide +kernel
theorem d_Re_sort_47 : decode b_Re_sort 47 = .ok (.isub, 1) := by decide +kernel
theorem d_Re_sort_48 : decode b_Re_sort 48 = .ok (.iaload, 1) := by decide +kernel
theorem d_Re_sort_49 : decode b_Re_sort 49 = .ok (.iload_n 2, 1) := by decide +kernel
theorem d_Re_sort_50 : decode b_Re_sort 50 = .ok (.aload_n 1, 1) := by decide +kernel
theorem d_Re_sort_51 : decode b_Re_sort 51 = .ok (.getfield 35, 3) := by decide +kernel
theorem d_Re_sort_54 : decode b_Re_sort 54 = .ok (.invokevirtual 39, 3) := by decide +kernel
theorem d_Re_sort_57 : decode b_Re_sort 57 = .ok (.ifCond .ge 25, 3) := by decide +kernel
theorem d_Re_sort_60 : decode b_Re_sort 60 = .ok (.aload_n 0, 1) := by decide +kernel
theorem d_Re_sort_61 : decode b_Re_sort 61 = .ok (.getfield 19, 3) := by decide +kernel
theorem d_Re_sort_64 : decode b_Re_sort 64 = .ok (.iload 4, 2) := by decide +kernel
theorem d_Re_sort_66 : decode b_Re_sort 66 = .ok (.aload_n 0, 1) := by decide +kernel
theorem d_Re_sort_67 : decode b_Re_sort 67 = .ok (.getfield 19, 3) := by decide +kernel
theorem d_Re_sort_70 : decode b_Re_sort 70 = .ok (.iload 4, 2) := by decide +kernel
theorem d_Re_sort_72 : decode b_Re_sort 72 = .ok (.iconst 1, 1) := by decide +kernel
theorem d_Re_sort_73 : decode b_Re_sort 73 = .ok (.isub, 1) := by decide +kernel
theorem d_Re_sort_74 : decode b_Re_sort 74 = .ok (.iaload, 1) := by decide +kernel
theorem d_Re_sort_75 : decode b_Re_sort 75 = .ok (.iastore, 1) := by decide +kernel
theorem d_Re_sort_76 : decode b_Re_sort 76 = .ok (.iinc 4 (-1), 3) := by decide +kernel
theorem d_Re_sort_79 : decode b_Re_sort 79 = .ok (.goto (-46), 3) := by decide +kernel
theorem d_Re_sort_82 : decode b_Re_sort 82 = .ok (.aload_n 0, 1) := by decide +kernel
theorem d_Re_sort_83 : decode b_Re_sort 83 = .ok (.getfield 19, 3) := by decide +kernel
theorem d_Re_sort_86 : decode b_Re_sort 86 = .ok (.iload 4, 2) := by decide +kernel
theorem d_Re_sort_88 : decode b_Re_sort 88 = .ok (.iload_n 3, 1) := by decide +kernel
theorem d_Re_sort_89 : decode b_Re_sort 89 = .ok (.iastore, 1) := by decide +kernel
theorem d_Re_sort_90 : decode b_Re_sort 90 = .ok (.iinc 3 1, 3) := by decide +kernel
theorem d_Re_sort_93 : decode b_Re_sort 93 = .ok (.goto (-71), 3) := by decide +kernel
theorem d_Re_sort_96 : decode b_Re_sort 96 = .ok (.aload_n 0, 1) := by decide +kernel
theorem d_Re_sort_97 : decode b_Re_sort 97 = .ok (.aload_n 1, 1) := by decide +kernel
theorem d_Re_sort_98 : decode b_Re_sort 98 = .ok (.getfield 43, 3) := by decide +kernel
theorem d_Re_sort_101 : decode b_Re_sort 101 = .ok (.ifCond .ge 10, 3) := by decide +kernel
theorem d_Re_sort_104 : decode b_Re_sort 104 = .ok (.aload_n 0, 1) := by decide +kernel
theorem d_Re_sort_105 : decode b_Re_sort 105 = .ok (.getfield 32, 3) := by decide +kernel
theorem d_Re_sort_108 : decode b_Re_sort 108 = .ok (.goto 14, 3) := by decide +kernel
theorem d_Re_sort_111 : decode b_Re_sort 111 = .ok (.aload_n 0, 1) := by decide +kernel
theorem d_Re_sort_112 : decode b_Re_sort 112 = .ok (.getfield 32, 3) := by decide +kernel
theorem d_Re_sort_115 : decode b_Re_sort 115 = .ok (.aload_n 1, 1) := by decide +kernel
theorem d_Re_sort_116 : decode b_Re_sort 116 = .ok (.getfield 43, 3) := by decide +kernel
theorem d_Re_sort_119 : decode b_Re_sort 119 = .ok (.invokestatic 46, 3) := by decide +kernel
theorem d_Re_sort_122 : decode b_Re_sort 122 = .ok (.putfield 52, 3) := by decide +kernel
theorem d_Re_sort_125 : decode b_Re_sort 125 = .ok (.return_, 1) := by decide +kernel
theorem d_Re_compare_0 : decode b_Re_compare 0 = .ok (.aload_n 0, 1) := by decide +kernel
theorem d_Re_compare_1 : decode b_Re_compare 1 = .ok (.iload_n 1, 1) := by decide +kernel
theorem d_Re_compare_2 : decode b_Re_compare 2 = .ok (.iload_n 2, 1) := by decide +kernel
theorem d_Re_compare_3 : decode b_Re_compare 3 = .ok (.iload_n 3, 1) := by decide +kernel
theorem d_Re_compare_4 : decode b_Re_compare 4 = .ok (.invokevirtual 55, 3) := by decide +kernel
theorem d_Re_compare_7 : decode b_Re_compare 7 = .ok (.istore 5, 2) := by decide +kernel
theorem d_Re_compare_9 : decode b_Re_compare 9 = .ok (.iload 5, 2) := by decide +kernel
theorem d_Re_compare_11 : decode b_Re_compare 11 = .ok (.ifCond .eq 17, 3) := by decide +kernel
theorem d_Re_compare_14 : decode b_Re_compare 14 = .ok (.iload 4, 2) := by decide +kernel
theorem d_Re_compare_16 : decode b_Re_compare 16 = .ok (.ifCond .eq 9, 3) := by decide +kernel
theorem d_Re_compare_19 : decode b_Re_compare 19 = .ok (.iload 5, 2) := by decide +kernel
theorem d_Re_compare_21 : decode b_Re_compare 21 = .ok (.ineg, 1) := by decide +kernel
theorem d_Re_compare_22 : decode b_Re_compare 22 = .ok (.goto 5, 3) := by decide +kernel
theorem d_Re_compare_25 : decode b_Re_compare 25 = .ok (.iload 5, 2) := by decide +kernel
theorem d_Re_compare_27 : decode b_Re_compare 27 = .ok (.ireturn, 1) := by decide +kernel
theorem d_Re_compare_28 : decode b_Re_compare 28 = .ok (.iconst 0, 1) := by decide +kernel
theorem d_Re_compare_29 : decode b_Re_compare 29 = .ok (.istore 6, 2) := by decide +kernel
theorem d_Re_compare_31 : decode b_Re_compare 31 = .ok (.iload 6, 2) := by decide +kernel
theorem d_Re_compare_33 : decode b_Re_compare 33 = .ok (.aload_n 0, 1) := by decide +kernel
theorem d_Re_compare_34 : decode b_Re_compare 34 = .ok (.getfield 29, 3) := by decide +kernel
theorem d_Re_compare_37 : decode b_Re_compare 37 = .ok (.if_icmp .ge 24, 3) := by decide +kernel
theorem d_Re_compare_40 : decode b_Re_compare 40 = .ok (.iload 5, 2) := by decide +kernel
theorem d_Re_compare_42 : decode b_Re_compare 42 = .ok (.ifCond .ne 19, 3) := by decide +kernel
theorem d_Re_compare_45 : decode b_Re_compare 45 = .ok (.aload_n 0, 1) := by decide +kernel
theorem d_Re_compare_46 : decode b_Re_compare 46 = .ok (.iload_n 1, 1) := by decide +kernel
theorem d_Re_compare_47 : decode b_Re_compare 47 = .ok (.iload_n 2, 1) := by decide +kernel
theorem d_Re_compare_48 : decode b_Re_compare 48 = .ok (.iload 6, 2) := by decide +kernel
theorem d_Re_compare_50 : decode b_Re_compare 50 = .ok (.invokevirtual 55, 3) := by decide +kernel
theorem d_Re_compare_53 : decode b_Re_compare 53 = .ok (.istore 5, 2) := by decide +kernel
theorem d_Re_compare_55 : decode b_Re_compare 55 = .ok (.iinc 6 1, 3) := by decide +kernel
theorem d_Re_compare_58 : decode b_Re_compare 58 = .ok (.goto (-27), 3) := by decide +kernel
theorem d_Re_compare_61 : decode b_Re_compare 61 = .ok (.iload 5, 2) := by decide +kernel
theorem d_Re_compare_63 : decode b_Re_compare 63 = .ok (.ireturn, 1) := by decide +kernel
theorem d_Re_compareAt_0 : decode b_Re_compareAt 0 = .ok (.iload_n 1, 1) := by decide +kernel
theorem d_Re_compareAt_1 : decode b_Re_compareAt 1 = .ok (.iconst 4, 1) := by decide +kernel
theorem d_Re_compareAt_2 : decode b_Re_compareAt 2 = .ok (.imul, 1) := by decide +kernel
theorem d_Re_compareAt_3 : decode b_Re_compareAt 3 = .ok (.iload_n 3, 1) := by decide +kernel
theorem d_Re_compareAt_4 : decode b_Re_compareAt 4 = .ok (.iadd, 1) := by decide +kernel
theorem d_Re_compareAt_5 : decode b_Re_compareAt 5 = .ok (.istore 4, 2) := by decide +kernel
theorem d_Re_compareAt_7 : decode b_Re_compareAt 7 = .ok (.iload_n 2, 1) := by decide +kernel
theorem d_Re_compareAt_8 : decode b_Re_compareAt 8 = .ok (.iconst 4, 1) := by decide +kernel
theorem d_Re_compareAt_9 : decode b_Re_compareAt 9 = .ok (.imul, 1) := by decide +kernel
theorem d_Re_compareAt_10 : decode b_Re_compareAt 10 = .ok (.iload_n 3, 1) := by decide +kernel
theorem d_Re_compareAt_11 : decode b_Re_compareAt 11 = .ok (.iadd, 1) := by decide +kernel
theorem d_Re_compareAt_12 : decode b_Re_compareAt 12 = .ok (.istore 5, 2) := by decide +kernel
theorem d_Re_compareAt_14 : decode b_Re_compareAt 14 = .ok (.aload_n 0, 1) := by decide +kernel
theorem d_Re_compareAt_15 : decode b_Re_compareAt 15 = .ok (.getfield 15, 3) := by decide +kernel
theorem d_Re_compareAt_18 : decode b_Re_compareAt 18 = .ok (.iload 4, 2) := by decide +kernel
theorem d_Re_compareAt_20 : decode b_Re_compareAt 20 = .ok (.baload, 1) := by decide +kernel
theorem d_Re_compareAt_21 : decode b_Re_compareAt 21 = .ok (.ifCond .ne 13, 3) := by decide +kernel
theorem d_Re_compareAt_24 : decode b_Re_compareAt 24 = .ok (.aload_n 0, 1) := by decide +kernel
theorem d_Re_compareAt_25 : decode b_Re_compareAt 25 = .ok (.getfield 15, 3) := by decide +kernel
theorem d_Re_compareAt_28 : decode b_Re_compareAt 28 = .ok (.iload 5, 2) := by decide +kernel
theorem d_Re_compareAt_30 : decode b_Re_compareAt 30 = .ok (.baload, 1) := by decide +kernel
theorem d_Re_compareAt_31 : decode b_Re_compareAt 31 = .ok (.ifCond .eq 35, 3) := by decide +kernel
theorem d_Re_compareAt_34 : decode b_Re_compareAt 34 = .ok (.aload_n 0, 1) := by decide +kernel
theorem d_Re_compareAt_35 : decode b_Re_compareAt 35 = .ok (.getfield 15, 3) := by decide +kernel
theorem d_Re_compareAt_38 : decode b_Re_compareAt 38 = .ok (.iload 4, 2) := by decide +kernel
theorem d_Re_compareAt_40 : decode b_Re_compareAt 40 = .ok (.baload, 1) := by decide +kernel
theorem d_Re_compareAt_41 : decode b_Re_compareAt 41 = .ok (.ifCond .eq 7, 3) := by decide +kernel
theorem d_Re_compareAt_44 : decode b_Re_compareAt 44 = .ok (.iconst 0, 1) := by decide +kernel
theorem d_Re_compareAt_45 : decode b_Re_compareAt 45 = .ok (.goto 4, 3) := by decide +kernel
theorem d_Re_compareAt_48 : decode b_Re_compareAt 48 = .ok (.iconst 1, 1) := by decide +kernel
theorem d_Re_compareAt_49 : decode b_Re_compareAt 49 = .ok (.aload_n 0, 1) := by decide +kernel
theorem d_Re_compareAt_50 : decode b_Re_compareAt 50 = .ok (.getfield 15, 3) := by decide +kernel
theorem d_Re_compareAt_53 : decode b_Re_compareAt 53 = .ok (.iload 5, 2) := by decide +kernel
theorem d_Re_compareAt_55 : decode b_Re_compareAt 55 = .ok (.baload, 1) := by decide +kernel
theorem d_Re_compareAt_56 : decode b_Re_compareAt 56 = .ok (.ifCond .eq 7, 3) := by decide +kernel
theorem d_Re_compareAt_59 : decode b_Re_compareAt 59 = .ok (.iconst 0, 1) := by decide +kernel
theorem d_Re_compareAt_60 : decode b_Re_compareAt 60 = .ok (.goto 4, 3) := by decide +kernel
theorem d_Re_compareAt_63 : decode b_Re_compareAt 63 = .ok (.iconst 1, 1) := by decide +kernel
theorem d_Re_compareAt_64 : decode b_Re_compareAt 64 = .ok (.isub, 1) := by decide +kernel
theorem d_Re_compareAt_65 : decode b_Re_compareAt 65 = .ok (.ireturn, 1) := by decide +kernel
theorem d_Re_compareAt_66 : decode b_Re_compareAt 66 = .ok (.aload_n 0, 1) := by decide +kernel
theorem d_Re_compareAt_67 : decode b_Re_compareAt 67 = .ok (.getfield 9, 3) := by decide +kernel
theorem d_Re_compareAt_70 : decode b_Re_compareAt 70 = .ok (.iload 4, 2) := by decide +kernel
theorem d_Re_compareAt_72 : decode b_Re_compareAt 72 = .ok (.laload, 1) := by decide +kernel
theorem d_Re_compareAt_73 : decode b_Re_compareAt 73 = .ok (.aload_n 0, 1) := by decide +kernel
theorem d_Re_compareAt_74 : decode b_Re_compareAt 74 = .ok (.getfield 9, 3) := by decide +kernel
theorem d_Re_compareAt_77 : decode b_Re_compareAt 77 = .ok (.iload 5, 2) := by decide +kernel
theorem d_Re_compareAt_79 : decode b_Re_compareAt 79 = .ok (.laload, 1) := by decide +kernel
theorem d_Re_compareAt_80 : decode b_Re_compareAt 80 = .ok (.invokestatic 59, 3) := by decide +kernel
theorem d_Re_compareAt_83 : decode b_Re_compareAt 83 = .ok (.ireturn, 1) := by decide +kernel
theorem d_Re_countPasses_0 : decode b_Re_countPasses 0 = .ok (.aload_n 0, 1) := by decide +kernel
theorem d_Re_countPasses_1 : decode b_Re_countPasses 1 = .ok (.iconst 0, 1) := by decide +kernel
theorem d_Re_countPasses_2 : decode b_Re_countPasses 2 = .ok (.putfield 64, 3) := by decide +kernel
theorem d_Re_countPasses_5 : decode b_Re_countPasses 5 = .ok (.aload_n 0, 1) := by decide +kernel
theorem d_Re_countPasses_6 : decode b_Re_countPasses 6 = .ok (.getfield 32, 3) := by decide +kernel
theorem d_Re_countPasses_9 : decode b_Re_countPasses 9 = .ok (.ifCond .eq 8, 3) := by decide +kernel
theorem d_Re_countPasses_12 : decode b_Re_countPasses 12 = .ok (.iload_n 1, 1) := by decide +kernel
theorem d_Re_countPasses_13 : decode b_Re_countPasses 13 = .ok (.iconst 3, 1) := by decide +kernel
theorem d_Re_countPasses_14 : decode b_Re_countPasses 14 = .ok (.if_icmp .ge 4, 3) := by decide +kernel
theorem d_Re_countPasses_17 : decode b_Re_countPasses 17 = .ok (.return_, 1) := by decide +kernel
theorem d_Re_countPasses_18 : decode b_Re_countPasses 18 = .ok (.aload_n 0, 1) := by decide +kernel
theorem d_Re_countPasses_19 : decode b_Re_countPasses 19 = .ok (.getfield 32, 3) := by decide +kernel
theorem d_Re_countPasses_22 : decode b_Re_countPasses 22 = .ok (.iload_n 1, 1) := by decide +kernel
theorem d_Re_countPasses_23 : decode b_Re_countPasses 23 = .ok (.iadd, 1) := by decide +kernel
theorem d_Re_countPasses_24 : decode b_Re_countPasses 24 = .ok (.iconst 1, 1) := by decide +kernel
theorem d_Re_countPasses_25 : decode b_Re_countPasses 25 = .ok (.isub, 1) := by decide +kernel
theorem d_Re_countPasses_26 : decode b_Re_countPasses 26 = .ok (.iload_n 1, 1) := by decide +kernel
theorem d_Re_countPasses_27 : decode b_Re_countPasses 27 = .ok (.idiv, 1) := by decide +kernel
theorem d_Re_countPasses_28 : decode b_Re_countPasses 28 = .ok (.istore_n 2, 1) := by decide +kernel
theorem d_Re_countPasses_29 : decode b_Re_countPasses 29 = .ok (.aload_n 0, 1) := by decide +kernel
theorem d_Re_countPasses_30 : decode b_Re_countPasses 30 = .ok (.iconst 1, 1) := by decide +kernel
theorem d_Re_countPasses_31 : decode b_Re_countPasses 31 = .ok (.putfield 64, 3) := by decide +kernel
theorem d_Re_countPasses_34 : decode b_Re_countPasses 34 = .ok (.iload_n 2, 1) := by decide +kernel
theorem d_Re_countPasses_35 : decode b_Re_countPasses 35 = .ok (.iconst 1, 1) := by decide +kernel
theorem d_Re_countPasses_36 : decode b_Re_countPasses 36 = .ok (.if_icmp .le 37, 3) := by decide +kernel
theorem d_Re_countPasses_39 : decode b_Re_countPasses 39 = .ok (.aload_n 0, 1) := by decide +kernel
theorem d_Re_countPasses_40 : decode b_Re_countPasses 40 = .ok (.getfield 64, 3) := by decide +kernel
theorem d_Re_countPasses_43 : decode b_Re_countPasses 43 = .ok (.aload_n 0, 1) := by decide +kernel
theorem d_Re_countPasses_44 : decode b_Re_countPasses 44 = .ok (.getfield 32, 3) := by decide +kernel
theorem d_Re_countPasses_47 : decode b_Re_countPasses 47 = .ok (.if_icmp .ge 26, 3) := by decide +kernel
theorem d_Re_countPasses_50 : decode b_Re_countPasses 50 = .ok (.iload_n 2, 1) := by decide +kernel
theorem d_Re_countPasses_51 : decode b_Re_countPasses 51 = .ok (.iload_n 1, 1) := by decide +kernel
theorem d_Re_countPasses_52 : decode b_Re_countPasses 52 = .ok (.iadd, 1) := by decide +kernel
theorem d_Re_countPasses_53 : decode b_Re_countPasses 53 = .ok (.iconst 2, 1) := by decide +kernel
theorem d_Re_countPasses_54 : decode b_Re_countPasses 54 = .ok (.isub, 1) := by decide +kernel
theorem d_Re_countPasses_55 : decode b_Re_countPasses 55 = .ok (.iload_n 1, 1) := by decide +kernel
theorem d_Re_countPasses_56 : decode b_Re_countPasses 56 = .ok (.iconst 1, 1) := by decide +kernel
theorem d_Re_countPasses_57 : decode b_Re_countPasses 57 = .ok (.isub, 1) := by decide +kernel
theorem d_Re_countPasses_58 : decode b_Re_countPasses 58 = .ok (.idiv, 1) := by decide +kernel
theorem d_Re_countPasses_59 : decode b_Re_countPasses 59 = .ok (.istore_n 2, 1) := by decide +kernel
theorem d_Re_countPasses_60 : decode b_Re_countPasses 60 = .ok (.aload_n 0, 1) := by decide +kernel
theorem d_Re_countPasses_61 : decode b_Re_countPasses 61 = .ok (.dup, 1) := by decide +kernel
theorem d_Re_countPasses_62 : decode b_Re_countPasses 62 = .ok (.getfield 64, 3) := by decide +kernel
theorem d_Re_countPasses_65 : decode b_Re_countPasses 65 = .ok (.iconst 1, 1) := by decide +kernel
theorem d_Re_countPasses_66 : decode b_Re_countPasses 66 = .ok (.iadd, 1) := by decide +kernel
theorem d_Re_countPasses_67 : decode b_Re_countPasses 67 = .ok (.putfield 64, 3) := by decide +kernel
theorem d_Re_countPasses_70 : decode b_Re_countPasses 70 = .ok (.goto (-36), 3) := by decide +kernel
theorem d_Re_countPasses_73 : decode b_Re_countPasses 73 = .ok (.return_, 1) := by decide +kernel
theorem d_Tb_init_0 : decode b_Tb_init 0 = .ok (.aload_n 0, 1) := by decide +kernel
theorem d_Tb_init_1 : decode b_Tb_init 1 = .ok (.invokespecial 3, 3) := by decide +kernel
theorem d_Tb_init_4 : decode b_Tb_init 4 = .ok (.aload_n 0, 1) := by decide +kernel
theorem d_Tb_init_5 : decode b_Tb_init 5 = .ok (.bipush 24, 2) := by decide +kernel
theorem d_Tb_init_7 : decode b_Tb_init 7 = .ok (.newarray .int, 2) := by decide +kernel
theorem d_Tb_init_9 : decode b_Tb_init 9 = .ok (.putfield 9, 3) := by decide +kernel
theorem d_Tb_init_12 : decode b_Tb_init 12 = .ok (.aload_n 0, 1) := by decide +kernel
theorem d_Tb_init_13 : decode b_Tb_init 13 = .ok (.bipush 24, 2) := by decide +kernel
theorem d_Tb_init_15 : decode b_Tb_init 15 = .ok (.newarray .boolean, 2) := by decide +kernel
theorem d_Tb_init_17 : decode b_Tb_init 17 = .ok (.putfield 15, 3) := by decide +kernel
theorem d_Tb_init_20 : decode b_Tb_init 20 = .ok (.return_, 1) := by decide +kernel
theorem d_Tb_add_0 : decode b_Tb_add 0 = .ok (.aload_n 0, 1) := by decide +kernel
theorem d_Tb_add_1 : decode b_Tb_add 1 = .ok (.getfield 19, 3) := by decide +kernel
theorem d_Tb_add_4 : decode b_Tb_add 4 = .ok (.bipush 12, 2) := by decide +kernel
theorem d_Tb_add_6 : decode b_Tb_add 6 = .ok (.if_icmp .lt 6, 3) := by decide +kernel
theorem d_Tb_add_9 : decode b_Tb_add 9 = .ok (.bipush (-2), 2) := by decide +kernel
theorem d_Tb_add_11 : decode b_Tb_add 11 = .ok (.ireturn, 1) := by decide +kernel
theorem d_Tb_add_12 : decode b_Tb_add 12 = .ok (.aload_n 0, 1) := by decide +kernel
theorem d_Tb_add_13 : decode b_Tb_add 13 = .ok (.getfield 19, 3) := by decide +kernel
theorem d_Tb_add_16 : decode b_Tb_add 16 = .ok (.iconst 2, 1) := by decide +kernel
theorem d_Tb_add_17 : decode b_Tb_add 17 = .ok (.imul, 1) := by decide +kernel
theorem d_Tb_add_18 : decode b_Tb_add 18 = .ok (.istore 4, 2) := by decide +kernel
theorem d_Tb_add_20 : decode b_Tb_add 20 = .ok (.aload_n 0, 1) := by decide +kernel
theorem d_Tb_add_21 : decode b_Tb_add 21 = .ok (.getfield 9, 3) := by decide +kernel
theorem d_Tb_add_24 : decode b_Tb_add 24 = .ok (.iload 4, 2) := by decide +kernel
theorem d_Tb_add_26 : decode b_Tb_add 26 = .ok (.iload_n 1, 1) := by decide +kernel
theorem d_Tb_add_27 : decode b_Tb_add 27 = .ok (.iastore, 1) := by decide +kernel
theorem d_Tb_add_28 : decode b_Tb_add 28 = .ok (.aload_n 0, 1) := by decide +kernel
theorem d_Tb_add_29 : decode b_Tb_add 29 = .ok (.getfield 15, 3) := by decide +kernel
theorem d_Tb_add_32 : decode b_Tb_add 32 = .ok (.iload 4, 2) := by decide +kernel
theorem d_Tb_add_34 : decode b_Tb_add 34 = .ok (.iload_n 3, 1) := by decide +kernel
theorem d_Tb_add_35 : decode b_Tb_add 35 = .ok (.iconst 1, 1) := by decide +kernel
theorem d_Tb_add_36 : decode b_Tb_add 36 = .ok (.iand, 1) := by decide +kernel
theorem d_Tb_add_37 : decode b_Tb_add 37 = .ok (.ifCond .eq 7, 3) := by decide +kernel
theorem d_Tb_add_40 : decode b_Tb_add 40 = .ok (.iconst 1, 1) := by decide +kernel
theorem d_Tb_add_41 : decode b_Tb_add 41 = .ok (.goto 4, 3) := by decide +kernel
theorem d_Tb_add_44 : decode b_Tb_add 44 = .ok (.iconst 0, 1) := by decide +kernel
theorem d_Tb_add_45 : decode b_Tb_add 45 = .ok (.bastore, 1) := by decide +kernel
theorem d_Tb_add_46 : decode b_Tb_add 46 = .ok (.aload_n 0, 1) := by decide +kernel
theorem d_Tb_add_47 : decode b_Tb_add 47 = .ok (.getfield 9, 3) := by decide +kernel
theorem d_Tb_add_50 : decode b_Tb_add 50 = .ok (.iload 4, 2) := by decide +kernel
theorem d_Tb_add_52 : decode b_Tb_add 52 = .ok (.iconst 1, 1) := by decide +kernel
theorem d_Tb_add_53 : decode b_Tb_add 53 = .ok (.iadd, 1) := by decide +kernel
theorem d_Tb_add_54 : decode b_Tb_add 54 = .ok (.iload_n 2, 1) := by decide +kernel
theorem d_Tb_add_55 : decode b_Tb_add 55 = .ok (.iastore, 1) := by decide +kernel
theorem d_Tb_add_56 : decode b_Tb_add 56 = .ok (.aload_n 0, 1) := by decide +kernel
theorem d_Tb_add_57 : decode b_Tb_add 57 = .ok (.getfield 15, 3) := by decide +kernel
theorem d_Tb_add_60 : decode b_Tb_add 60 = .ok (.iload 4, 2) := by decide +kernel
theorem d_Tb_add_62 : decode b_Tb_add 62 = .ok (.iconst 1, 1) := by decide +kernel
theorem d_Tb_add_63 : decode b_Tb_add 63 = .ok (.iadd, 1) := by decide +kernel
theorem d_Tb_add_64 : decode b_Tb_add 64 = .ok (.iload_n 3, 1) := by decide +kernel
theorem d_Tb_add_65 : decode b_Tb_add 65 = .ok (.iconst 2, 1) := by decide +kernel
theorem d_Tb_add_66 : decode b_Tb_add 66 = .ok (.iand, 1) := by decide +kernel
theorem d_Tb_add_67 : decode b_Tb_add 67 = .ok (.ifCond .eq 7, 3) := by decide +kernel
theorem d_Tb_add_70 : decode b_Tb_add 70 = .ok (.iconst 1, 1) := by decide +kernel
theorem d_Tb_add_71 : decode b_Tb_add 71 = .ok (.goto 4, 3) := by decide +kernel
theorem d_Tb_add_74 : decode b_Tb_add 74 = .ok (.iconst 0, 1) := by decide +kernel
theorem d_Tb_add_75 : decode b_Tb_add 75 = .ok (.bastore, 1) := by decide +kernel
theorem d_Tb_add_76 : decode b_Tb_add 76 = .ok (.aload_n 0, 1) := by decide +kernel
theorem d_Tb_add_77 : decode b_Tb_add 77 = .ok (.dup, 1) := by decide +kernel
theorem d_Tb_add_78 : decode b_Tb_add 78 = .ok (.getfield 19, 3) := by decide +kernel
theorem d_Tb_add_81 : decode b_Tb_add 81 = .ok (.iconst 1, 1) := by decide +kernel
theorem d_Tb_add_82 : decode b_Tb_add 82 = .ok (.iadd, 1) := by decide +kernel
theorem d_Tb_add_83 : decode b_Tb_add 83 = .ok (.putfield 19, 3) := by decide +kernel
theorem d_Tb_add_86 : decode b_Tb_add 86 = .ok (.aload_n 0, 1) := by decide +kernel
theorem d_Tb_add_87 : decode b_Tb_add 87 = .ok (.getfield 19, 3) := by decide +kernel
theorem d_Tb_add_90 : decode b_Tb_add 90 = .ok (.ireturn, 1) := by decide +kernel
theorem d_Tb_value_0 : decode b_Tb_value 0 = .ok (.aload_n 0, 1) := by decide +kernel
theorem d_Tb_value_1 : decode b_Tb_value 1 = .ok (.getfield 9, 3) := by decide +kernel
theorem d_Tb_value_4 : decode b_Tb_value 4 = .ok (.iload_n 1, 1) := by decide +kernel
theorem d_Tb_value_5 : decode b_Tb_value 5 = .ok (.iconst 2, 1) := by decide +kernel
theorem d_Tb_value_6 : decode b_Tb_value 6 = .ok (.imul, 1) := by decide +kernel
theorem d_Tb_value_7 : decode b_Tb_value 7 = .ok (.iload_n 2, 1) := by decide +kernel
theorem d_Tb_value_8 : decode b_Tb_value 8 = .ok (.iadd, 1) := by decide +kernel
theorem d_Tb_value_9 : decode b_Tb_value 9 = .ok (.iaload, 1) := by decide +kernel
theorem d_Tb_value_10 : decode b_Tb_value 10 = .ok (.ireturn, 1) := by decide +kernel
theorem d_Tb_isNull_0 : decode b_Tb_isNull 0 = .ok (.aload_n 0, 1) := by decide +kernel
theorem d_Tb_isNull_1 : decode b_Tb_isNull 1 = .ok (.getfield 15, 3) := by decide +kernel
theorem d_Tb_isNull_4 : decode b_Tb_isNull 4 = .ok (.iload_n 1, 1) := by decide +kernel
theorem d_Tb_isNull_5 : decode b_Tb_isNull 5 = .ok (.iconst 2, 1) := by decide +kernel
theorem d_Tb_isNull_6 : decode b_Tb_isNull 6 = .ok (.imul, 1) := by decide +kernel
theorem d_Tb_isNull_7 : decode b_Tb_isNull 7 = .ok (.iload_n 2, 1) := by decide +kernel
theorem d_Tb_isNull_8 : decode b_Tb_isNull 8 = .ok (.iadd, 1) := by decide +kernel
theorem d_Tb_isNull_9 : decode b_Tb_isNull 9 = .ok (.baload, 1) := by decide +kernel
theorem d_Tb_isNull_10 : decode b_Tb_isNull 10 = .ok (.ireturn, 1) := by decide +kernel
theorem d_Ta_init_0 : decode b_Ta_init 0 = .ok (.aload_n 0, 1) := by decide +kernel
theorem d_Ta_init_1 : decode b_Ta_init 1 = .ok (.invokespecial 3, 3) := by decide +kernel
theorem d_Ta_init_4 : decode b_Ta_init 4 = .ok (.return_, 1) := by decide +kernel
theorem d_Ta_clear_0 : decode b_Ta_clear 0 = .ok (.aload_n 0, 1) := by decide +kernel
theorem d_Ta_clear_1 : decode b_Ta_clear 1 = .ok (.iload_n 1, 1) := by decide +kernel
theorem d_Ta_clear_2 : decode b_Ta_clear 2 = .ok (.putfield 9, 3) := by decide +kernel
theorem d_Ta_clear_5 : decode b_Ta_clear 5 = .ok (.aload_n 0, 1) := by decide +kernel
theorem d_Ta_clear_6 : decode b_Ta_clear 6 = .ok (.iload_n 2, 1) := by decide +kernel
theorem d_Ta_clear_7 : decode b_Ta_clear 7 = .ok (.putfield 15, 3) := by decide +kernel
theorem d_Ta_clear_10 : decode b_Ta_clear 10 = .ok (.aload_n 0, 1) := by decide +kernel
theorem d_Ta_clear_11 : decode b_Ta_clear 11 = .ok (.iload_n 3, 1) := by decide +kernel
theorem d_Ta_clear_12 : decode b_Ta_clear 12 = .ok (.putfield 18, 3) := by decide +kernel
theorem d_Ta_clear_15 : decode b_Ta_clear 15 = .ok (.aload_n 0, 1) := by decide +kernel
theorem d_Ta_clear_16 : decode b_Ta_clear 16 = .ok (.iconst 0, 1) := by decide +kernel
theorem d_Ta_clear_17 : decode b_Ta_clear 17 = .ok (.putfield 21, 3) := by decide +kernel
theorem d_Ta_clear_20 : decode b_Ta_clear 20 = .ok (.aload_n 0, 1) := by decide +kernel
theorem d_Ta_clear_21 : decode b_Ta_clear 21 = .ok (.iconst 0, 1) := by decide +kernel
theorem d_Ta_clear_22 : decode b_Ta_clear 22 = .ok (.putfield 24, 3) := by decide +kernel
theorem d_Ta_clear_25 : decode b_Ta_clear 25 = .ok (.aload_n 0, 1) := by decide +kernel
theorem d_Ta_clear_26 : decode b_Ta_clear 26 = .ok (.iconst 0, 1) := by decide +kernel
theorem d_Ta_clear_27 : decode b_Ta_clear 27 = .ok (.putfield 27, 3) := by decide +kernel
theorem d_Ta_clear_30 : decode b_Ta_clear 30 = .ok (.return_, 1) := by decide +kernel
theorem d_Ta_tell_0 : decode b_Ta_tell 0 = .ok (.iload_n 1, 1) := by decide +kernel
theorem d_Ta_tell_1 : decode b_Ta_tell 1 = .ok (.tableswitch 79 0 4 #[35, 40, 45, 50, 63], 35) := by decide +kernel
theorem d_Ta_tell_36 : decode b_Ta_tell 36 = .ok (.aload_n 0, 1) := by decide +kernel
theorem d_Ta_tell_37 : decode b_Ta_tell 37 = .ok (.getfield 9, 3) := by decide +kernel
theorem d_Ta_tell_40 : decode b_Ta_tell 40 = .ok (.ireturn, 1) := by decide +kernel
theorem d_Ta_tell_41 : decode b_Ta_tell 41 = .ok (.aload_n 0, 1) := by decide +kernel
theorem d_Ta_tell_42 : decode b_Ta_tell 42 = .ok (.getfield 15, 3) := by decide +kernel
theorem d_Ta_tell_45 : decode b_Ta_tell 45 = .ok (.ireturn, 1) := by decide +kernel
theorem d_Ta_tell_46 : decode b_Ta_tell 46 = .ok (.aload_n 0, 1) := by decide +kernel
theorem d_Ta_tell_47 : decode b_Ta_tell 47 = .ok (.getfield 21, 3) := by decide +kernel
theorem d_Ta_tell_50 : decode b_Ta_tell 50 = .ok (.ireturn, 1) := by decide +kernel
theorem d_Ta_tell_51 : decode b_Ta_tell 51 = .ok (.aload_n 0, 1) := by decide +kernel
theorem d_Ta_tell_52 : decode b_Ta_tell 52 = .ok (.getfield 27, 3) := by decide +kernel
theorem d_Ta_tell_55 : decode b_Ta_tell 55 = .ok (.ifCond .eq 7, 3) := by decide +kernel
theorem d_Ta_tell_58 : decode b_Ta_tell 58 = .ok (.iconst 1, 1) := by decide +kernel
theorem d_Ta_tell_59 : decode b_Ta_tell 59 = .ok (.goto 4, 3) := by decide +kernel
theorem d_Ta_tell_62 : decode b_Ta_tell 62 = .ok (.iconst 0, 1) := by decide +kernel
theorem d_Ta_tell_63 : decode b_Ta_tell 63 = .ok (.ireturn, 1) := by decide +kernel
theorem d_Ta_tell_64 : decode b_Ta_tell 64 = .ok (.aload_n 0, 1) := by decide +kernel
theorem d_Ta_tell_65 : decode b_Ta_tell 65 = .ok (.getfield 27, 3) := by decide +kernel
theorem d_Ta_tell_68 : decode b_Ta_tell 68 = .ok (.ifCond .eq 10, 3) := by decide +kernel
theorem d_Ta_tell_71 : decode b_Ta_tell 71 = .ok (.aload_n 0, 1) := by decide +kernel
theorem d_Ta_tell_72 : decode b_Ta_tell 72 = .ok (.getfield 18, 3) := by decide +kernel
theorem d_Ta_tell_75 : decode b_Ta_tell 75 = .ok (.goto 4, 3) := by decide +kernel
theorem d_Ta_tell_78 : decode b_Ta_tell 78 = .ok (.iconst (-1), 1) := by decide +kernel
theorem d_Ta_tell_79 : decode b_Ta_tell 79 = .ok (.ireturn, 1) := by decide +kernel
theorem d_Ta_tell_80 : decode b_Ta_tell 80 = .ok (.iconst (-1), 1) := by decide +kernel
theorem d_Ta_tell_81 : decode b_Ta_tell 81 = .ok (.ireturn, 1) := by decide +kernel
theorem d_JL_compare_0 : decode b_JL_compare 0 = .ok (.lload_n 0, 1) := by decide +kernel
theorem d_JL_compare_1 : decode b_JL_compare 1 = .ok (.lload_n 2, 1) := by decide +kernel
theorem d_JL_compare_2 : decode b_JL_compare 2 = .ok (.lcmp, 1) := by decide +kernel
theorem d_JL_compare_3 : decode b_JL_compare 3 = .ok (.ifCond .ge 7, 3) := by decide +kernel
theorem d_JL_compare_6 : decode b_JL_compare 6 = .ok (.iconst (-1), 1) := by decide +kernel
theorem d_JL_compare_7 : decode b_JL_compare 7 = .ok (.goto 14, 3) := by decide +kernel
theorem d_JL_compare_10 : decode b_JL_compare 10 = .ok (.lload_n 0, 1) := by decide +kernel
theorem d_JL_compare_11 : decode b_JL_compare 11 = .ok (.lload_n 2, 1) := by decide +kernel
theorem d_JL_compare_12 : decode b_JL_compare 12 = .ok (.lcmp, 1) := by decide +kernel
theorem d_JL_compare_13 : decode b_JL_compare 13 = .ok (.ifCond .ne 7, 3) := by decide +kernel
theorem d_JL_compare_16 : decode b_JL_compare 16 = .ok (.iconst 0, 1) := by decide +kernel
theorem d_JL_compare_17 : decode b_JL_compare 17 = .ok (.goto 4, 3) := by decide +kernel
theorem d_JL_compare_20 : decode b_JL_compare 20 = .ok (.iconst 1, 1) := by decide +kernel
theorem d_JL_compare_21 : decode b_JL_compare 21 = .ok (.ireturn, 1) := by decide +kernel
theorem d_JM_floorModI_0 : decode b_JM_floorModI 0 = .ok (.iload_n 0, 1) := by decide +kernel
theorem d_JM_floorModI_1 : decode b_JM_floorModI 1 = .ok (.iload_n 1, 1) := by decide +kernel
theorem d_JM_floorModI_2 : decode b_JM_floorModI 2 = .ok (.irem, 1) := by decide +kernel
theorem d_JM_floorModI_3 : decode b_JM_floorModI 3 = .ok (.istore_n 2, 1) := by decide +kernel
theorem d_JM_floorModI_4 : decode b_JM_floorModI 4 = .ok (.iload_n 0, 1) := by decide +kernel
theorem d_JM_floorModI_5 : decode b_JM_floorModI 5 = .ok (.iload_n 1, 1) := by decide +kernel
theorem d_JM_floorModI_6 : decode b_JM_floorModI 6 = .ok (.ixor, 1) := by decide +kernel
theorem d_JM_floorModI_7 : decode b_JM_floorModI 7 = .ok (.ifCond .ge 11, 3) := by decide +kernel
theorem d_JM_floorModI_10 : decode b_JM_floorModI 10 = .ok (.iload_n 2, 1) := by decide +kernel
theorem d_JM_floorModI_11 : decode b_JM_floorModI 11 = .ok (.ifCond .eq 7, 3) := by decide +kernel
theorem d_JM_floorModI_14 : decode b_JM_floorModI 14 = .ok (.iload_n 2, 1) := by decide +kernel
theorem d_JM_floorModI_15 : decode b_JM_floorModI 15 = .ok (.iload_n 1, 1) := by decide +kernel
theorem d_JM_floorModI_16 : decode b_JM_floorModI 16 = .ok (.iadd, 1) := by decide +kernel
theorem d_JM_floorModI_17 : decode b_JM_floorModI 17 = .ok (.ireturn, 1) := by decide +kernel
theorem d_JM_floorModI_18 : decode b_JM_floorModI 18 = .ok (.iload_n 2, 1) := by decide +kernel
theorem d_JM_floorModI_19 : decode b_JM_floorModI 19 = .ok (.ireturn, 1) := by decide +kernel
theorem d_JM_floorModJ_0 : decode b_JM_floorModJ 0 = .ok (.lload_n 0, 1) := by decide +kernel
theorem d_JM_floorModJ_1 : decode b_JM_floorModJ 1 = .ok (.lload_n 2, 1) := by decide +kernel
theorem d_JM_floorModJ_2 : decode b_JM_floorModJ 2 = .ok (.lrem, 1) := by decide +kernel
theorem d_JM_floorModJ_3 : decode b_JM_floorModJ 3 = .ok (.lstore 4, 2) := by decide +kernel
theorem d_JM_floorModJ_5 : decode b_JM_floorModJ 5 = .ok (.lload_n 0, 1) := by decide +kernel
theorem d_JM_floorModJ_6 : decode b_JM_floorModJ 6 = .ok (.lload_n 2, 1) := by decide +kernel
theorem d_JM_floorModJ_7 : decode b_JM_floorModJ 7 = .ok (.lxor, 1) := by decide +kernel
theorem d_JM_floorModJ_8 : decode b_JM_floorModJ 8 = .ok (.lconst 0, 1) := by decide +kernel
theorem d_JM_floorModJ_9 : decode b_JM_floorModJ 9 = .ok (.lcmp, 1) := by decide +kernel
theorem d_JM_floorModJ_10 : decode b_JM_floorModJ 10 = .ok (.ifCond .ge 15, 3) := by decide +kernel
theorem d_JM_floorModJ_13 : decode b_JM_floorModJ 13 = .ok (.lload 4, 2) := by decide +kernel
theorem d_JM_floorModJ_15 : decode b_JM_floorModJ 15 = .ok (.lconst 0, 1) := by decide +kernel
theorem d_JM_floorModJ_16 : decode b_JM_floorModJ 16 = .ok (.lcmp, 1) := by decide +kernel
theorem d_JM_floorModJ_17 : decode b_JM_floorModJ 17 = .ok (.ifCond .eq 8, 3) := by decide +kernel
theorem d_JM_floorModJ_20 : decode b_JM_floorModJ 20 = .ok (.lload 4, 2) := by decide +kernel
theorem d_JM_floorModJ_22 : decode b_JM_floorModJ 22 = .ok (.lload_n 2, 1) := by decide +kernel
theorem d_JM_floorModJ_23 : decode b_JM_floorModJ 23 = .ok (.ladd, 1) := by decide +kernel
theorem d_JM_floorModJ_24 : decode b_JM_floorModJ 24 = .ok (.lreturn, 1) := by decide +kernel
theorem d_JM_floorModJ_25 : decode b_JM_floorModJ 25 = .ok (.lload 4, 2) := by decide +kernel
theorem d_JM_floorModJ_27 : decode b_JM_floorModJ 27 = .ok (.lreturn, 1) := by decide +kernel
theorem d_JM_maxJ_0 : decode b_JM_maxJ 0 = .ok (.lload_n 0, 1) := by decide +kernel
theorem d_JM_maxJ_1 : decode b_JM_maxJ 1 = .ok (.lload_n 2, 1) := by decide +kernel
theorem d_JM_maxJ_2 : decode b_JM_maxJ 2 = .ok (.lcmp, 1) := by decide +kernel
theorem d_JM_maxJ_3 : decode b_JM_maxJ 3 = .ok (.ifCond .lt 7, 3) := by decide +kernel
theorem d_JM_maxJ_6 : decode b_JM_maxJ 6 = .ok (.lload_n 0, 1) := by decide +kernel
theorem d_JM_maxJ_7 : decode b_JM_maxJ 7 = .ok (.goto 4, 3) := by decide +kernel
theorem d_JM_maxJ_10 : decode b_JM_maxJ 10 = .ok (.lload_n 2, 1) := by decide +kernel
theorem d_JM_maxJ_11 : decode b_JM_maxJ 11 = .ok (.lreturn, 1) := by decide +kernel
theorem d_JM_minI_0 : decode b_JM_minI 0 = .ok (.iload_n 0, 1) := by decide +kernel
theorem d_JM_minI_1 : decode b_JM_minI 1 = .ok (.iload_n 1, 1) := by decide +kernel
theorem d_JM_minI_2 : decode b_JM_minI 2 = .ok (.if_icmp .gt 7, 3) := by decide +kernel
theorem d_JM_minI_5 : decode b_JM_minI 5 = .ok (.iload_n 0, 1) := by decide +kernel
theorem d_JM_minI_6 : decode b_JM_minI 6 = .ok (.goto 4, 3) := by decide +kernel
theorem d_JM_minI_9 : decode b_JM_minI 9 = .ok (.iload_n 1, 1) := by decide +kernel
theorem d_JM_minI_10 : decode b_JM_minI 10 = .ok (.ireturn, 1) := by decide +kernel
theorem d_JM_minJ_0 : decode b_JM_minJ 0 = .ok (.lload_n 0, 1) := by decide +kernel
theorem d_JM_minJ_1 : decode b_JM_minJ 1 = .ok (.lload_n 2, 1) := by decide +kernel
theorem d_JM_minJ_2 : decode b_JM_minJ 2 = .ok (.lcmp, 1) := by decide +kernel
theorem d_JM_minJ_3 : decode b_JM_minJ 3 = .ok (.ifCond .gt 7, 3) := by decide +kernel
theorem d_JM_minJ_6 : decode b_JM_minJ 6 = .ok (.lload_n 0, 1) := by decide +kernel
theorem d_JM_minJ_7 : decode b_JM_minJ 7 = .ok (.goto 4, 3) := by decide +kernel
theorem d_JM_minJ_10 : decode b_JM_minJ 10 = .ok (.lload_n 2, 1) := by decide +kernel
theorem d_JM_minJ_11 : decode b_JM_minJ 11 = .ok (.lreturn, 1) := by decide +kernel
end
section
theorem d_QM_init_0 : decode b_QM_init 0 = .ok (.aload_n 0, 1) := by decide +kernel
theorem d_QM_init_1 : decode b_QM_init 1 = .ok (.invokespecial 1, 3) := by decide +kernel
theorem d_QM_init_4 : decode b_QM_init 4 = .ok (.aload_n 0, 1) := by decide +kernel
theorem d_QM_init_5 : decode b_QM_init 5 = .ok (.iconst 3, 1) := by decide +kernel
theorem d_QM_init_6 : decode b_QM_init 6 = .ok (.newarray .int, 2) := by decide +kernel
theorem d_QM_init_8 : decode b_QM_init 8 = .ok (.putfield 7, 3) := by decide +kernel
theorem d_QM_init_11 : decode b_QM_init 11 = .ok (.aload_n 0, 1) := by decide +kernel
theorem d_QM_init_12 : decode b_QM_init 12 = .ok (.bipush 72, 2) := by decide +kernel
theorem d_QM_init_14 : decode b_QM_init 14 = .ok (.newarray .long, 2) := by decide +kernel
theorem d_QM_init_16 : decode b_QM_init 16 = .ok (.putfield 13, 3) := by decide +kernel
theorem d_QM_init_19 : decode b_QM_init 19 = .ok (.aload_n 0, 1) := by decide +kernel
theorem d_QM_init_20 : decode b_QM_init 20 = .ok (.bipush 72, 2) := by decide +kernel
theorem d_QM_init_22 : decode b_QM_init 22 = .ok (.newarray .boolean, 2) := by decide +kernel
theorem d_QM_init_24 : decode b_QM_init 24 = .ok (.putfield 17, 3) := by decide +kernel
theorem d_QM_init_27 : decode b_QM_init 27 = .ok (.aload_n 0, 1) := by decide +kernel
theorem d_QM_init_28 : decode b_QM_init 28 = .ok (.sipush 408, 3) := by decide +kernel
theorem d_QM_init_31 : decode b_QM_init 31 = .ok (.newarray .int, 2) := by decide +kernel
theorem d_QM_init_33 : decode b_QM_init 33 = .ok (.putfield 21, 3) := by decide +kernel
theorem d_QM_init_36 : decode b_QM_init 36 = .ok (.aload_n 0, 1) := by decide +kernel
theorem d_QM_init_37 : decode b_QM_init 37 = .ok (.sipush 408, 3) := by decide +kernel
theorem d_QM_init_40 : decode b_QM_init 40 = .ok (.newarray .long, 2) := by decide +kernel
theorem d_QM_init_42 : decode b_QM_init 42 = .ok (.putfield 24, 3) := by decide +kernel
theorem d_QM_init_45 : decode b_QM_init 45 = .ok (.aload_n 0, 1) := by decide +kernel
theorem d_QM_init_46 : decode b_QM_init 46 = .ok (.bipush 17, 2) := by decide +kernel
theorem d_QM_init_48 : decode b_QM_init 48 = .ok (.newarray .int, 2) := by decide +kernel
theorem d_QM_init_50 : decode b_QM_init 50 = .ok (.putfield 27, 3) := by decide +kernel
theorem d_QM_init_53 : decode b_QM_init 53 = .ok (.aload_n 0, 1) := by decide +kernel
theorem d_QM_init_54 : decode b_QM_init 54 = .ok (.bipush 17, 2) := by decide +kernel
theorem d_QM_init_56 : decode b_QM_init 56 = .ok (.newarray .boolean, 2) := by decide +kernel
theorem d_QM_init_58 : decode b_QM_init 58 = .ok (.putfield 30, 3) := by decide +kernel
theorem d_QM_init_61 : decode b_QM_init 61 = .ok (.aload_n 0, 1) := by decide +kernel
theorem d_QM_init_62 : decode b_QM_init 62 = .ok (.iconst 3, 1) := by decide +kernel
theorem d_QM_init_63 : decode b_QM_init 63 = .ok (.newarray .int, 2) := by decide +kernel
theorem d_QM_init_65 : decode b_QM_init 65 = .ok (.putfield 33, 3) := by decide +kernel
theorem d_QM_init_68 : decode b_QM_init 68 = .ok (.aload_n 0, 1) := by decide +kernel
theorem d_QM_init_69 : decode b_QM_init 69 = .ok (.bipush 24, 2) := by decide +kernel
theorem d_QM_init_71 : decode b_QM_init 71 = .ok (.newarray .long, 2) := by decide +kernel
theorem d_QM_init_73 : decode b_QM_init 73 = .ok (.putfield 36, 3) := by decide +kernel
theorem d_QM_init_76 : decode b_QM_init 76 = .ok (.aload_n 0, 1) := by decide +kernel
theorem d_QM_init_77 : decode b_QM_init 77 = .ok (.bipush 24, 2) := by decide +kernel
theorem d_QM_init_79 : decode b_QM_init 79 = .ok (.newarray .boolean, 2) := by decide +kernel
theorem d_QM_init_81 : decode b_QM_init 81 = .ok (.putfield 39, 3) := by decide +kernel
theorem d_QM_init_84 : decode b_QM_init 84 = .ok (.aload_n 0, 1) := by decide +kernel
theorem d_QM_init_85 : decode b_QM_init 85 = .ok (.iconst 4, 1) := by decide +kernel
theorem d_QM_init_86 : decode b_QM_init 86 = .ok (.newarray .long, 2) := by decide +kernel
theorem d_QM_init_88 : decode b_QM_init 88 = .ok (.putfield 42, 3) := by decide +kernel
theorem d_QM_init_91 : decode b_QM_init 91 = .ok (.aload_n 0, 1) := by decide +kernel
theorem d_QM_init_92 : decode b_QM_init 92 = .ok (.iconst 4, 1) := by decide +kernel
theorem d_QM_init_93 : decode b_QM_init 93 = .ok (.newarray .boolean, 2) := by decide +kernel
theorem d_QM_init_95 : decode b_QM_init 95 = .ok (.putfield 45, 3) := by decide +kernel
theorem d_QM_init_98 : decode b_QM_init 98 = .ok (.aload_n 0, 1) := by decide +kernel
theorem d_QM_init_99 : decode b_QM_init 99 = .ok (.sipush 576, 3) := by decide +kernel
theorem d_QM_init_102 : decode b_QM_init 102 = .ok (.newarray .long, 2) := by decide +kernel
theorem d_QM_init_104 : decode b_QM_init 104 = .ok (.putfield 48, 3) := by decide +kernel
theorem d_QM_init_107 : decode b_QM_init 107 = .ok (.aload_n 0, 1) := by decide +kernel
theorem d_QM_init_108 : decode b_QM_init 108 = .ok (.sipush 576, 3) := by decide +kernel
theorem d_QM_init_111 : decode b_QM_init 111 = .ok (.newarray .boolean, 2) := by decide +kernel
theorem d_QM_init_113 : decode b_QM_init 113 = .ok (.putfield 51, 3) := by decide +kernel
theorem d_QM_init_116 : decode b_QM_init 116 = .ok (.aload_n 0, 1) := by decide +kernel
theorem d_QM_init_117 : decode b_QM_init 117 = .ok (.sipush 576, 3) := by decide +kernel
theorem d_QM_init_120 : decode b_QM_init 120 = .ok (.newarray .long, 2) := by decide +kernel
theorem d_QM_init_122 : decode b_QM_init 122 = .ok (.putfield 54, 3) := by decide +kernel
theorem d_QM_init_125 : decode b_QM_init 125 = .ok (.aload_n 0, 1) := by decide +kernel
theorem d_QM_init_126 : decode b_QM_init 126 = .ok (.sipush 576, 3) := by decide +kernel
theorem d_QM_init_129 : decode b_QM_init 129 = .ok (.newarray .boolean, 2) := by decide +kernel
theorem d_QM_init_131 : decode b_QM_init 131 = .ok (.putfield 57, 3) := by decide +kernel
theorem d_QM_init_134 : decode b_QM_init 134 = .ok (.aload_n 0, 1) := by decide +kernel
theorem d_QM_init_135 : decode b_QM_init 135 = .ok (.sipush 144, 3) := by decide +kernel
theorem d_QM_init_138 : decode b_QM_init 138 = .ok (.newarray .int, 2) := by decide +kernel
theorem d_QM_init_140 : decode b_QM_init 140 = .ok (.putfield 60, 3) := by decide +kernel
theorem d_QM_init_143 : decode b_QM_init 143 = .ok (.aload_n 0, 1) := by decide +kernel
theorem d_QM_init_144 : decode b_QM_init 144 = .ok (.bipush 16, 2) := by decide +kernel
theorem d_QM_init_146 : decode b_QM_init 146 = .ok (.newarray .int, 2) := by decide +kernel
theorem d_QM_init_148 : decode b_QM_init 148 = .ok (.putfield 63, 3) := by decide +kernel
theorem d_QM_init_151 : decode b_QM_init 151 = .ok (.aload_n 0, 1) := by decide +kernel
theorem d_QM_init_152 : decode b_QM_init 152 = .ok (.bipush 16, 2) := by decide +kernel
theorem d_QM_init_154 : decode b_QM_init 154 = .ok (.newarray .int, 2) := by decide +kernel
theorem d_QM_init_156 : decode b_QM_init 156 = .ok (.putfield 66, 3) := by decide +kernel
theorem d_QM_init_159 : decode b_QM_init 159 = .ok (.aload_n 0, 1) := by decide +kernel
theorem d_QM_init_160 : decode b_QM_init 160 = .ok (.bipush 16, 2) := by decide +kernel
theorem d_QM_init_162 : decode b_QM_init 162 = .ok (.newarray .int, 2) := by decide +kernel
theorem d_QM_init_164 : decode b_QM_init 164 = .ok (.putfield 69, 3) := by decide +kernel
theorem d_QM_init_167 : decode b_QM_init 167 = .ok (.aload_n 0, 1) := by decide +kernel
theorem d_QM_init_168 : decode b_QM_init 168 = .ok (.bipush 16, 2) := by decide +kernel
theorem d_QM_init_170 : decode b_QM_init 170 = .ok (.newarray .int, 2) := by decide +kernel
theorem d_QM_init_172 : decode b_QM_init 172 = .ok (.putfield 72, 3) := by decide +kernel
theorem d_QM_init_175 : decode b_QM_init 175 = .ok (.aload_n 0, 1) := by decide +kernel
theorem d_QM_init_176 : decode b_QM_init 176 = .ok (.bipush 16, 2) := by decide +kernel
theorem d_QM_init_178 : decode b_QM_init 178 = .ok (.newarray .boolean, 2) := by decide +kernel
theorem d_QM_init_180 : decode b_QM_init 180 = .ok (.putfield 75, 3) := by decide +kernel
theorem d_QM_init_183 : decode b_QM_init 183 = .ok (.aload_n 0, 1) := by decide +kernel
theorem d_QM_init_184 : decode b_QM_init 184 = .ok (.bipush 16, 2) := by decide +kernel
theorem d_QM_init_186 : decode b_QM_init 186 = .ok (.newarray .int, 2) := by decide +kernel
theorem d_QM_init_188 : decode b_QM_init 188 = .ok (.putfield 78, 3) := by decide +kernel
theorem d_QM_init_191 : decode b_QM_init 191 = .ok (.aload_n 0, 1) := by decide +kernel
theorem d_QM_init_192 : decode b_QM_init 192 = .ok (.bipush 100, 2) := by decide +kernel
theorem d_QM_init_194 : decode b_QM_init 194 = .ok (.newarray .int, 2) := by decide +kernel
theorem d_QM_init_196 : decode b_QM_init 196 = .ok (.putfield 81, 3) := by decide +kernel
theorem d_QM_init_199 : decode b_QM_init 199 = .ok (.aload_n 0, 1) := by decide +kernel
theorem d_QM_init_200 : decode b_QM_init 200 = .ok (.bipush 100, 2) := by decide +kernel
theorem d_QM_init_202 : decode b_QM_init 202 = .ok (.newarray .int, 2) := by decide +kernel
theorem d_QM_init_204 : decode b_QM_init 204 = .ok (.putfield 84, 3) := by decide +kernel
theorem d_QM_init_207 : decode b_QM_init 207 = .ok (.aload_n 0, 1) := by decide +kernel
theorem d_QM_init_208 : decode b_QM_init 208 = .ok (.bipush 100, 2) := by decide +kernel
theorem d_QM_init_210 : decode b_QM_init 210 = .ok (.newarray .int, 2) := by decide +kernel
theorem d_QM_init_212 : decode b_QM_init 212 = .ok (.putfield 87, 3) := by decide +kernel
theorem d_QM_init_215 : decode b_QM_init 215 = .ok (.aload_n 0, 1) := by decide +kernel
theorem d_QM_init_216 : decode b_QM_init 216 = .ok (.iconst 4, 1) := by decide +kernel
theorem d_QM_init_217 : decode b_QM_init 217 = .ok (.newarray .int, 2) := by decide +kernel
theorem d_QM_init_219 : decode b_QM_init 219 = .ok (.putfield 90, 3) := by decide +kernel
theorem d_QM_init_222 : decode b_QM_init 222 = .ok (.aload_n 0, 1) := by decide +kernel
theorem d_QM_init_223 : decode b_QM_init 223 = .ok (.bipush 48, 2) := by decide +kernel
theorem d_QM_init_225 : decode b_QM_init 225 = .ok (.newarray .int, 2) := by decide +kernel
theorem d_QM_init_227 : decode b_QM_init 227 = .ok (.putfield 93, 3) := by decide +kernel
theorem d_QM_init_230 : decode b_QM_init 230 = .ok (.aload_n 0, 1) := by decide +kernel
theorem d_QM_init_231 : decode b_QM_init 231 = .ok (.bipush 48, 2) := by decide +kernel
theorem d_QM_init_233 : decode b_QM_init 233 = .ok (.newarray .int, 2) := by decide +kernel
theorem d_QM_init_235 : decode b_QM_init 235 = .ok (.putfield 96, 3) := by decide +kernel
theorem d_QM_init_238 : decode b_QM_init 238 = .ok (.return_, 1) := by decide +kernel
theorem d_QM_within_0 : decode b_QM_within 0 = .ok (.iload_n 0, 1) := by decide +kernel
theorem d_QM_within_1 : decode b_QM_within 1 = .ok (.iload_n 1, 1) := by decide +kernel
theorem d_QM_within_2 : decode b_QM_within 2 = .ok (.if_icmp .lt 12, 3) := by decide +kernel
theorem d_QM_within_5 : decode b_QM_within 5 = .ok (.iload_n 0, 1) := by decide +kernel
theorem d_QM_within_6 : decode b_QM_within 6 = .ok (.iload_n 2, 1) := by decide +kernel
theorem d_QM_within_7 : decode b_QM_within 7 = .ok (.if_icmp .gt 7, 3) := by decide +kernel
theorem d_QM_within_10 : decode b_QM_within 10 = .ok (.iconst 1, 1) := by decide +kernel
theorem d_QM_within_11 : decode b_QM_within 11 = .ok (.goto 4, 3) := by decide +kernel
theorem d_QM_within_14 : decode b_QM_within 14 = .ok (.iconst 0, 1) := by decide +kernel
theorem d_QM_within_15 : decode b_QM_within 15 = .ok (.ireturn, 1) := by decide +kernel
theorem d_QM_row_0 : decode b_QM_row 0 = .ok (.aload_n 0, 1) := by decide +kernel
theorem d_QM_row_1 : decode b_QM_row 1 = .ok (.getfield 99, 3) := by decide +kernel
theorem d_QM_row_4 : decode b_QM_row 4 = .ok (.ifCond .ne 22, 3) := by decide +kernel
theorem d_QM_row_7 : decode b_QM_row 7 = .ok (.iload_n 1, 1) := by decide +kernel
theorem d_QM_row_8 : decode b_QM_row 8 = .ok (.iconst 0, 1) := by decide +kernel
theorem d_QM_row_9 : decode b_QM_row 9 = .ok (.iconst 2, 1) := by decide +kernel
theorem d_QM_row_10 : decode b_QM_row 10 = .ok (.invokestatic 103, 3) := by decide +kernel
theorem d_QM_row_13 : decode b_QM_row 13 = .ok (.ifCond .eq 13, 3) := by decide +kernel
theorem d_QM_row_16 : decode b_QM_row 16 = .ok (.iload 4, 2) := by decide +kernel
theorem d_QM_row_18 : decode b_QM_row 18 = .ok (.iconst 0, 1) := by decide +kernel
theorem d_QM_row_19 : decode b_QM_row 19 = .ok (.iconst 3, 1) := by decide +kernel
theorem d_QM_row_20 : decode b_QM_row 20 = .ok (.invokestatic 103, 3) := by decide +kernel
theorem d_QM_row_23 : decode b_QM_row 23 = .ok (.ifCond .ne 5, 3) := by decide +kernel
theorem d_QM_row_26 : decode b_QM_row 26 = .ok (.iconst (-1), 1) := by decide +kernel
theorem d_QM_row_27 : decode b_QM_row 27 = .ok (.ireturn, 1) := by decide +kernel
theorem d_QM_row_28 : decode b_QM_row 28 = .ok (.aload_n 0, 1) := by decide +kernel
theorem d_QM_row_29 : decode b_QM_row 29 = .ok (.getfield 7, 3) := by decide +kernel
theorem d_QM_row_32 : decode b_QM_row 32 = .ok (.iload_n 1, 1) := by decide +kernel
theorem d_QM_row_33 : decode b_QM_row 33 = .ok (.iaload, 1) := by decide +kernel
theorem d_QM_row_34 : decode b_QM_row 34 = .ok (.bipush 12, 2) := by decide +kernel
theorem d_QM_row_36 : decode b_QM_row 36 = .ok (.if_icmp .ne 6, 3) := by decide +kernel
theorem d_QM_row_39 : decode b_QM_row 39 = .ok (.bipush (-2), 2) := by decide +kernel
theorem d_QM_row_41 : decode b_QM_row 41 = .ok (.ireturn, 1) := by decide +kernel
theorem d_QM_row_42 : decode b_QM_row 42 = .ok (.bipush 24, 2) := by decide +kernel
theorem d_QM_row_44 : decode b_QM_row 44 = .ok (.iload_n 1, 1) := by decide +kernel
theorem d_QM_row_45 : decode b_QM_row 45 = .ok (.imul, 1) := by decide +kernel
theorem d_QM_row_46 : decode b_QM_row 46 = .ok (.iconst 2, 1) := by decide +kernel
theorem d_QM_row_47 : decode b_QM_row 47 = .ok (.aload_n 0, 1) := by decide +kernel
theorem d_QM_row_48 : decode b_QM_row 48 = .ok (.getfield 7, 3) := by decide +kernel
theorem d_QM_row_51 : decode b_QM_row 51 = .ok (.iload_n 1, 1) := by decide +kernel
theorem d_QM_row_52 : decode b_QM_row 52 = .ok (.iaload, 1) := by decide +kernel
theorem d_QM_row_53 : decode b_QM_row 53 = .ok (.imul, 1) := by decide +kernel
theorem d_QM_row_54 : decode b_QM_row 54 = .ok (.iadd, 1) := by decide +kernel
theorem d_QM_row_55 : decode b_QM_row 55 = .ok (.istore 5, 2) := by decide +kernel
theorem d_QM_row_57 : decode b_QM_row 57 = .ok (.aload_n 0, 1) := by decide +kernel
theorem d_QM_row_58 : decode b_QM_row 58 = .ok (.getfield 13, 3) := by decide +kernel
theorem d_QM_row_61 : decode b_QM_row 61 = .ok (.iload 5, 2) := by decide +kernel
theorem d_QM_row_63 : decode b_QM_row 63 = .ok (.iload_n 2, 1) := by decide +kernel
theorem d_QM_row_64 : decode b_QM_row 64 = .ok (.i2l, 1) := by decide +kernel
theorem d_QM_row_65 : decode b_QM_row 65 = .ok (.lastore, 1) := by decide +kernel
theorem d_QM_row_66 : decode b_QM_row 66 = .ok (.aload_n 0, 1) := by decide +kernel
theorem d_QM_row_67 : decode b_QM_row 67 = .ok (.getfield 13, 3) := by decide +kernel
theorem d_QM_row_70 : decode b_QM_row 70 = .ok (.iload 5, 2) := by decide +kernel
theorem d_QM_row_72 : decode b_QM_row 72 = .ok (.iconst 1, 1) := by decide +kernel
theorem d_QM_row_73 : decode b_QM_row 73 = .ok (.iadd, 1) := by decide +kernel
theorem d_QM_row_74 : decode b_QM_row 74 = .ok (.iload_n 3, 1) := by decide +kernel
theorem d_QM_row_75 : decode b_QM_row 75 = .ok (.i2l, 1) := by decide +kernel
theorem d_QM_row_76 : decode b_QM_row 76 = .ok (.lastore, 1) := by decide +kernel
theorem d_QM_row_77 : decode b_QM_row 77 = .ok (.aload_n 0, 1) := by decide +kernel
theorem d_QM_row_78 : decode b_QM_row 78 = .ok (.getfield 17, 3) := by decide +kernel
theorem d_QM_row_81 : decode b_QM_row 81 = .ok (.iload 5, 2) := by decide +kernel
theorem d_QM_row_83 : decode b_QM_row 83 = .ok (.iload 4, 2) := by decide +kernel
theorem d_QM_row_85 : decode b_QM_row 85 = .ok (.iconst 1, 1) := by decide +kernel
theorem d_QM_row_86 : decode b_QM_row 86 = .ok (.iand, 1) := by decide +kernel
theorem d_QM_row_87 : decode b_QM_row 87 = .ok (.iconst 1, 1) := by decide +kernel
theorem d_QM_row_88 : decode b_QM_row 88 = .ok (.if_icmp .ne 7, 3) := by decide +kernel
theorem d_QM_row_91 : decode b_QM_row 91 = .ok (.iconst 1, 1) := by decide +kernel
theorem d_QM_row_92 : decode b_QM_row 92 = .ok (.goto 4, 3) := by decide +kernel
theorem d_QM_row_95 : decode b_QM_row 95 = .ok (.iconst 0, 1) := by decide +kernel
theorem d_QM_row_96 : decode b_QM_row 96 = .ok (.bastore, 1) := by decide +kernel
theorem d_QM_row_97 : decode b_QM_row 97 = .ok (.aload_n 0, 1) := by decide +kernel
theorem d_QM_row_98 : decode b_QM_row 98 = .ok (.getfield 17, 3) := by decide +kernel
theorem d_QM_row_101 : decode b_QM_row 101 = .ok (.iload 5, 2) := by decide +kernel
theorem d_QM_row_103 : decode b_QM_row 103 = .ok (.iconst 1, 1) := by decide +kernel
theorem d_QM_row_104 : decode b_QM_row 104 = .ok (.iadd, 1) := by decide +kernel
theorem d_QM_row_105 : decode b_QM_row 105 = .ok (.iload 4, 2) := by decide +kernel
theorem d_QM_row_107 : decode b_QM_row 107 = .ok (.iconst 2, 1) := by decide +kernel
theorem d_QM_row_108 : decode b_QM_row 108 = .ok (.iand, 1) := by decide +kernel
theorem d_QM_row_109 : decode b_QM_row 109 = .ok (.iconst 2, 1) := by decide +kernel
theorem d_QM_row_110 : decode b_QM_row 110 = .ok (.if_icmp .ne 7, 3) := by decide +kernel
theorem d_QM_row_113 : decode b_QM_row 113 = .ok (.iconst 1, 1) := by decide +kernel
theorem d_QM_row_114 : decode b_QM_row 114 = .ok (.goto 4, 3) := by decide +kernel
theorem d_QM_row_117 : decode b_QM_row 117 = .ok (.iconst 0, 1) := by decide +kernel
theorem d_QM_row_118 : decode b_QM_row 118 = .ok (.bastore, 1) := by decide +kernel
theorem d_QM_row_119 : decode b_QM_row 119 = .ok (.aload_n 0, 1) := by decide +kernel
theorem d_QM_row_120 : decode b_QM_row 120 = .ok (.getfield 7, 3) := by decide +kernel
theorem d_QM_row_123 : decode b_QM_row 123 = .ok (.iload_n 1, 1) := by decide +kernel
theorem d_QM_row_124 : decode b_QM_row 124 = .ok (.dup2, 1) := by decide +kernel
theorem d_QM_row_125 : decode b_QM_row 125 = .ok (.iaload, 1) := by decide +kernel
theorem d_QM_row_126 : decode b_QM_row 126 = .ok (.iconst 1, 1) := by decide +kernel
theorem d_QM_row_127 : decode b_QM_row 127 = .ok (.iadd, 1) := by decide +kernel
theorem d_QM_row_128 : decode b_QM_row 128 = .ok (.iastore, 1) := by decide +kernel
theorem d_QM_row_129 : decode b_QM_row 129 = .ok (.aload_n 0, 1) := by decide +kernel
theorem d_QM_row_130 : decode b_QM_row 130 = .ok (.getfield 7, 3) := by decide +kernel
theorem d_QM_row_133 : decode b_QM_row 133 = .ok (.iload_n 1, 1) := by decide +kernel
theorem d_QM_row_134 : decode b_QM_row 134 = .ok (.iaload, 1) := by decide +kernel
theorem d_QM_row_135 : decode b_QM_row 135 = .ok (.ireturn, 1) := by decide +kernel
theorem d_QM_from_0 : decode b_QM_from 0 = .ok (.aload_n 0, 1) := by decide +kernel
theorem d_QM_from_1 : decode b_QM_from 1 = .ok (.getfield 99, 3) := by decide +kernel
theorem d_QM_from_4 : decode b_QM_from 4 = .ok (.ifCond .ne 21, 3) := by decide +kernel
theorem d_QM_from_7 : decode b_QM_from 7 = .ok (.iload_n 1, 1) := by decide +kernel
theorem d_QM_from_8 : decode b_QM_from 8 = .ok (.iconst 0, 1) := by decide +kernel
theorem d_QM_from_9 : decode b_QM_from 9 = .ok (.iconst 2, 1) := by decide +kernel
theorem d_QM_from_10 : decode b_QM_from 10 = .ok (.invokestatic 103, 3) := by decide +kernel
theorem d_QM_from_13 : decode b_QM_from 13 = .ok (.ifCond .eq 12, 3) := by decide +kernel
theorem d_QM_from_16 : decode b_QM_from 16 = .ok (.iload_n 2, 1) := by decide +kernel
theorem d_QM_from_17 : decode b_QM_from 17 = .ok (.iconst 0, 1) := by decide +kernel
theorem d_QM_from_18 : decode b_QM_from 18 = .ok (.iconst 2, 1) := by decide +kernel
theorem d_QM_from_19 : decode b_QM_from 19 = .ok (.invokestatic 103, 3) := by decide +kernel
theorem d_QM_from_22 : decode b_QM_from 22 = .ok (.ifCond .ne 5, 3) := by decide +kernel
theorem d_QM_from_25 : decode b_QM_from 25 = .ok (.iconst 0, 1) := by decide +kernel
theorem d_QM_from_26 : decode b_QM_from 26 = .ok (.ireturn, 1) := by decide +kernel
theorem d_QM_from_27 : decode b_QM_from 27 = .ok (.iload_n 1, 1) := by decide +kernel
theorem d_QM_from_28 : decode b_QM_from 28 = .ok (.ifCond .le 34, 3) := by decide +kernel
theorem d_QM_from_31 : decode b_QM_from 31 = .ok (.iload_n 3, 1) := by decide +kernel
theorem d_QM_from_32 : decode b_QM_from 32 = .ok (.iconst 0, 1) := by decide +kernel
theorem d_QM_from_33 : decode b_QM_from 33 = .ok (.iconst 2, 1) := by decide +kernel
theorem d_QM_from_34 : decode b_QM_from 34 = .ok (.invokestatic 103, 3) := by decide +kernel
theorem d_QM_from_37 : decode b_QM_from 37 = .ok (.ifCond .eq 23, 3) := by decide +kernel
theorem d_QM_from_40 : decode b_QM_from 40 = .ok (.iload 4, 2) := by decide +kernel
theorem d_QM_from_42 : decode b_QM_from 42 = .ok (.iconst 0, 1) := by decide +kernel
theorem d_QM_from_43 : decode b_QM_from 43 = .ok (.iconst 1, 1) := by decide +kernel
theorem d_QM_from_44 : decode b_QM_from 44 = .ok (.invokestatic 103, 3) := by decide +kernel
theorem d_QM_from_47 : decode b_QM_from 47 = .ok (.ifCond .eq 13, 3) := by decide +kernel
theorem d_QM_from_50 : decode b_QM_from 50 = .ok (.iload 5, 2) := by decide +kernel
theorem d_QM_from_52 : decode b_QM_from 52 = .ok (.iconst 0, 1) := by decide +kernel
theorem d_QM_from_53 : decode b_QM_from 53 = .ok (.iconst 1, 1) := by decide +kernel
theorem d_QM_from_54 : decode b_QM_from 54 = .ok (.invokestatic 103, 3) := by decide +kernel
theorem d_QM_from_57 : decode b_QM_from 57 = .ok (.ifCond .ne 5, 3) := by decide +kernel
theorem d_QM_from_60 : decode b_QM_from 60 = .ok (.iconst 0, 1) := by decide +kernel
theorem d_QM_from_61 : decode b_QM_from 61 = .ok (.ireturn, 1) := by decide +kernel
theorem d_QM_from_62 : decode b_QM_from 62 = .ok (.aload_n 0, 1) := by decide +kernel
theorem d_QM_from_63 : decode b_QM_from 63 = .ok (.iconst 1, 1) := by decide +kernel
theorem d_QM_from_64 : decode b_QM_from 64 = .ok (.putfield 107, 3) := by decide +kernel
theorem d_QM_from_67 : decode b_QM_from 67 = .ok (.aload_n 0, 1) := by decide +kernel
theorem d_QM_from_68 : decode b_QM_from 68 = .ok (.iload_n 1, 1) := by decide +kernel
theorem d_QM_from_69 : decode b_QM_from 69 = .ok (.putfield 110, 3) := by decide +kernel
theorem d_QM_from_72 : decode b_QM_from 72 = .ok (.aload_n 0, 1) := by decide +kernel
theorem d_QM_from_73 : decode b_QM_from 73 = .ok (.iload_n 2, 1) := by decide +kernel
theorem d_QM_from_74 : decode b_QM_from 74 = .ok (.putfield 114, 3) := by decide +kernel
theorem d_QM_from_77 : decode b_QM_from 77 = .ok (.aload_n 0, 1) := by decide +kernel
theorem d_QM_from_78 : decode b_QM_from 78 = .ok (.iload_n 3, 1) := by decide +kernel
theorem d_QM_from_79 : decode b_QM_from 79 = .ok (.putfield 117, 3) := by decide +kernel
theorem d_QM_from_82 : decode b_QM_from 82 = .ok (.aload_n 0, 1) := by decide +kernel
theorem d_QM_from_83 : decode b_QM_from 83 = .ok (.iload 4, 2) := by decide +kernel
theorem d_QM_from_85 : decode b_QM_from 85 = .ok (.putfield 120, 3) := by decide +kernel
theorem d_QM_from_88 : decode b_QM_from 88 = .ok (.aload_n 0, 1) := by decide +kernel
theorem d_QM_from_89 : decode b_QM_from 89 = .ok (.iload 5, 2) := by decide +kernel
theorem d_QM_from_91 : decode b_QM_from 91 = .ok (.putfield 123, 3) := by decide +kernel
theorem d_QM_from_94 : decode b_QM_from 94 = .ok (.aload_n 0, 1) := by decide +kernel
theorem d_QM_from_95 : decode b_QM_from 95 = .ok (.iconst (-1), 1) := by decide +kernel
theorem d_QM_from_96 : decode b_QM_from 96 = .ok (.putfield 126, 3) := by decide +kernel
theorem d_QM_from_99 : decode b_QM_from 99 = .ok (.aload_n 0, 1) := by decide +kernel
theorem d_QM_from_100 : decode b_QM_from 100 = .ok (.iconst 0, 1) := by decide +kernel
theorem d_QM_from_101 : decode b_QM_from 101 = .ok (.putfield 129, 3) := by decide +kernel
theorem d_QM_from_104 : decode b_QM_from 104 = .ok (.aload_n 0, 1) := by decide +kernel
theorem d_QM_from_105 : decode b_QM_from 105 = .ok (.iconst 0, 1) := by decide +kernel
theorem d_QM_from_106 : decode b_QM_from 106 = .ok (.putfield 132, 3) := by decide +kernel
theorem d_QM_from_109 : decode b_QM_from 109 = .ok (.aload_n 0, 1) := by decide +kernel
theorem d_QM_from_110 : decode b_QM_from 110 = .ok (.iconst (-1), 1) := by decide +kernel
theorem d_QM_from_111 : decode b_QM_from 111 = .ok (.putfield 135, 3) := by decide +kernel
theorem d_QM_from_114 : decode b_QM_from 114 = .ok (.aload_n 0, 1) := by decide +kernel
theorem d_QM_from_115 : decode b_QM_from 115 = .ok (.iconst 0, 1) := by decide +kernel
theorem d_QM_from_116 : decode b_QM_from 116 = .ok (.putfield 138, 3) := by decide +kernel
theorem d_QM_from_119 : decode b_QM_from 119 = .ok (.aload_n 0, 1) := by decide +kernel
theorem d_QM_from_120 : decode b_QM_from 120 = .ok (.iconst 0, 1) := by decide +kernel
theorem d_QM_from_121 : decode b_QM_from 121 = .ok (.putfield 141, 3) := by decide +kernel
theorem d_QM_from_124 : decode b_QM_from 124 = .ok (.aload_n 0, 1) := by decide +kernel
theorem d_QM_from_125 : decode b_QM_from 125 = .ok (.iconst 0, 1) := by decide +kernel
theorem d_QM_from_126 : decode b_QM_from 126 = .ok (.putfield 144, 3) := by decide +kernel
theorem d_QM_from_129 : decode b_QM_from 129 = .ok (.iconst 1, 1) := by decide +kernel
theorem d_QM_from_130 : decode b_QM_from 130 = .ok (.ireturn, 1) := by decide +kernel
theorem d_QM_open_0 : decode b_QM_open 0 = .ok (.aload_n 0, 1) := by decide +kernel
theorem d_QM_open_1 : decode b_QM_open 1 = .ok (.getfield 107, 3) := by decide +kernel
theorem d_QM_open_4 : decode b_QM_open 4 = .ok (.ifCond .eq 14, 3) := by decide +kernel
theorem d_QM_open_7 : decode b_QM_open 7 = .ok (.aload_n 0, 1) := by decide +kernel
theorem d_QM_open_8 : decode b_QM_open 8 = .ok (.getfield 99, 3) := by decide +kernel
theorem d_QM_open_11 : decode b_QM_open 11 = .ok (.ifCond .ne 7, 3) := by decide +kernel
theorem d_QM_open_14 : decode b_QM_open 14 = .ok (.iconst 1, 1) := by decide +kernel
theorem d_QM_open_15 : decode b_QM_open 15 = .ok (.goto 4, 3) := by decide +kernel
theorem d_QM_open_18 : decode b_QM_open 18 = .ok (.iconst 0, 1) := by decide +kernel
theorem d_QM_open_19 : decode b_QM_open 19 = .ok (.ireturn, 1) := by decide +kernel
theorem d_QM_isColumn_0 : decode b_QM_isColumn 0 = .ok (.iload_n 1, 1) := by decide +kernel
theorem d_QM_isColumn_1 : decode b_QM_isColumn 1 = .ok (.iconst 0, 1) := by decide +kernel
theorem d_QM_isColumn_2 : decode b_QM_isColumn 2 = .ok (.aload_n 0, 1) := by decide +kernel
theorem d_QM_isColumn_3 : decode b_QM_isColumn 3 = .ok (.getfield 110, 3) := by decide +kernel
theorem d_QM_isColumn_6 : decode b_QM_isColumn 6 = .ok (.ifCond .ne 7, 3) := by decide +kernel
theorem d_QM_isColumn_9 : decode b_QM_isColumn 9 = .ok (.iconst 1, 1) := by decide +kernel
theorem d_QM_isColumn_10 : decode b_QM_isColumn 10 = .ok (.goto 4, 3) := by decide +kernel
theorem d_QM_isColumn_13 : decode b_QM_isColumn 13 = .ok (.iconst 3, 1) := by decide +kernel
theorem d_QM_isColumn_14 : decode b_QM_isColumn 14 = .ok (.invokestatic 103, 3) := by decide +kernel
theorem d_QM_isColumn_17 : decode b_QM_isColumn 17 = .ok (.ireturn, 1) := by decide +kernel
theorem d_QM_push_0 : decode b_QM_push 0 = .ok (.aload_n 0, 1) := by decide +kernel
theorem d_QM_push_1 : decode b_QM_push 1 = .ok (.getfield 21, 3) := by decide +kernel
theorem d_QM_push_4 : decode b_QM_push 4 = .ok (.bipush 24, 2) := by decide +kernel
theorem d_QM_push_6 : decode b_QM_push 6 = .ok (.aload_n 0, 1) := by decide +kernel
theorem d_QM_push_7 : decode b_QM_push 7 = .ok (.getfield 138, 3) := by decide +kernel
theorem d_QM_push_10 : decode b_QM_push 10 = .ok (.imul, 1) := by decide +kernel
theorem d_QM_push_11 : decode b_QM_push 11 = .ok (.iload_n 1, 1) := by decide +kernel
theorem d_QM_push_12 : decode b_QM_push 12 = .ok (.iastore, 1) := by decide +kernel
theorem d_QM_push_13 : decode b_QM_push 13 = .ok (.aload_n 0, 1) := by decide +kernel
theorem d_QM_push_14 : decode b_QM_push 14 = .ok (.getfield 24, 3) := by decide +kernel
theorem d_QM_push_17 : decode b_QM_push 17 = .ok (.bipush 24, 2) := by decide +kernel
theorem d_QM_push_19 : decode b_QM_push 19 = .ok (.aload_n 0, 1) := by decide +kernel
theorem d_QM_push_20 : decode b_QM_push 20 = .ok (.getfield 138, 3) := by decide +kernel
theorem d_QM_push_23 : decode b_QM_push 23 = .ok (.imul, 1) := by decide +kernel
theorem d_QM_push_24 : decode b_QM_push 24 = .ok (.lload_n 2, 1) := by decide +kernel
theorem d_QM_push_25 : decode b_QM_push 25 = .ok (.lastore, 1) := by decide +kernel
theorem d_QM_push_26 : decode b_QM_push 26 = .ok (.aload_n 0, 1) := by decide +kernel
theorem d_QM_push_27 : decode b_QM_push 27 = .ok (.getfield 27, 3) := by decide +kernel
theorem d_QM_push_30 : decode b_QM_push 30 = .ok (.aload_n 0, 1) := by decide +kernel
theorem d_QM_push_31 : decode b_QM_push 31 = .ok (.getfield 138, 3) := by decide +kernel
theorem d_QM_push_34 : decode b_QM_push 34 = .ok (.iconst 1, 1) := by decide +kernel
theorem d_QM_push_35 : decode b_QM_push 35 = .ok (.iastore, 1) := by decide +kernel
theorem d_QM_push_36 : decode b_QM_push 36 = .ok (.aload_n 0, 1) := by decide +kernel
theorem d_QM_push_37 : decode b_QM_push 37 = .ok (.getfield 30, 3) := by decide +kernel
theorem d_QM_push_40 : decode b_QM_push 40 = .ok (.aload_n 0, 1) := by decide +kernel
theorem d_QM_push_41 : decode b_QM_push 41 = .ok (.getfield 138, 3) := by decide +kernel
theorem d_QM_push_44 : decode b_QM_push 44 = .ok (.iconst 0, 1) := by decide +kernel
theorem d_QM_push_45 : decode b_QM_push 45 = .ok (.bastore, 1) := by decide +kernel
theorem d_QM_push_46 : decode b_QM_push 46 = .ok (.aload_n 0, 1) := by decide +kernel
theorem d_QM_push_47 : decode b_QM_push 47 = .ok (.dup, 1) := by decide +kernel
theorem d_QM_push_48 : decode b_QM_push 48 = .ok (.getfield 138, 3) := by decide +kernel
theorem d_QM_push_51 : decode b_QM_push 51 = .ok (.iconst 1, 1) := by decide +kernel
theorem d_QM_push_52 : decode b_QM_push 52 = .ok (.iadd, 1) := by decide +kernel
theorem d_QM_push_53 : decode b_QM_push 53 = .ok (.putfield 138, 3) := by decide +kernel
theorem d_QM_push_56 : decode b_QM_push 56 = .ok (.return_, 1) := by decide +kernel
theorem d_QM_column_0 : decode b_QM_column 0 = .ok (.aload_n 0, 1) := by decide +kernel
theorem d_QM_column_1 : decode b_QM_column 1 = .ok (.invokevirtual 147, 3) := by decide +kernel
theorem d_QM_column_4 : decode b_QM_column 4 = .ok (.ifCond .eq 20, 3) := by decide +kernel
theorem d_QM_column_7 : decode b_QM_column 7 = .ok (.aload_n 0, 1) := by decide +kernel
theorem d_QM_column_8 : decode b_QM_column 8 = .ok (.iload_n 1, 1) := by decide +kernel
theorem d_QM_column_9 : decode b_QM_column 9 = .ok (.invokevirtual 151, 3) := by decide +kernel
theorem d_QM_column_12 : decode b_QM_column 12 = .ok (.ifCond .eq 12, 3) := by decide +kernel
theorem d_QM_column_15 : decode b_QM_column 15 = .ok (.aload_n 0, 1) := by decide +kernel
theorem d_QM_column_16 : decode b_QM_column 16 = .ok (.getfield 138, 3) := by decide +kernel
theorem d_QM_column_19 : decode b_QM_column 19 = .ok (.bipush 8, 2) := by decide +kernel
theorem d_QM_column_21 : decode b_QM_column 21 = .ok (.if_icmp .ne 5, 3) := by decide +kernel
theorem d_QM_column_24 : decode b_QM_column 24 = .ok (.iconst 0, 1) := by decide +kernel
theorem d_QM_column_25 : decode b_QM_column 25 = .ok (.ireturn, 1) := by decide +kernel
theorem d_QM_column_26 : decode b_QM_column 26 = .ok (.aload_n 0, 1) := by decide +kernel
theorem d_QM_column_27 : decode b_QM_column 27 = .ok (.bipush 20, 2) := by decide +kernel
theorem d_QM_column_29 : decode b_QM_column 29 = .ok (.iload_n 1, 1) := by decide +kernel
theorem d_QM_column_30 : decode b_QM_column 30 = .ok (.iadd, 1) := by decide +kernel
theorem d_QM_column_31 : decode b_QM_column 31 = .ok (.lconst 0, 1) := by decide +kernel
theorem d_QM_column_32 : decode b_QM_column 32 = .ok (.invokevirtual 155, 3) := by decide +kernel
theorem d_QM_column_35 : decode b_QM_column 35 = .ok (.iconst 1, 1) := by decide +kernel
theorem d_QM_column_36 : decode b_QM_column 36 = .ok (.ireturn, 1) := by decide +kernel
theorem d_QM_number_0 : decode b_QM_number 0 = .ok (.aload_n 0, 1) := by decide +kernel
theorem d_QM_number_1 : decode b_QM_number 1 = .ok (.invokevirtual 147, 3) := by decide +kernel
theorem d_QM_number_4 : decode b_QM_number 4 = .ok (.ifCond .eq 12, 3) := by decide +kernel
theorem d_QM_number_7 : decode b_QM_number 7 = .ok (.aload_n 0, 1) := by decide +kernel
theorem d_QM_number_8 : decode b_QM_number 8 = .ok (.getfield 138, 3) := by decide +kernel
theorem d_QM_number_11 : decode b_QM_number 11 = .ok (.bipush 8, 2) := by decide +kernel
theorem d_QM_number_13 : decode b_QM_number 13 = .ok (.if_icmp .ne 5, 3) := by decide +kernel
theorem d_QM_number_16 : decode b_QM_number 16 = .ok (.iconst 0, 1) := by decide +kernel
theorem d_QM_number_17 : decode b_QM_number 17 = .ok (.ireturn, 1) := by decide +kernel
theorem d_QM_number_18 : decode b_QM_number 18 = .ok (.aload_n 0, 1) := by decide +kernel
theorem d_QM_number_19 : decode b_QM_number 19 = .ok (.bipush 30, 2) := by decide +kernel
theorem d_QM_number_21 : decode b_QM_number 21 = .ok (.iload_n 1, 1) := by decide +kernel
theorem d_QM_number_22 : decode b_QM_number 22 = .ok (.i2l, 1) := by decide +kernel
theorem d_QM_number_23 : decode b_QM_number 23 = .ok (.invokevirtual 155, 3) := by decide +kernel
theorem d_QM_number_26 : decode b_QM_number 26 = .ok (.iconst 1, 1) := by decide +kernel
theorem d_QM_number_27 : decode b_QM_number 27 = .ok (.ireturn, 1) := by decide +kernel
theorem d_QM_operate_0 : decode b_QM_operate 0 = .ok (.aload_n 0, 1) := by decide +kernel
theorem d_QM_operate_1 : decode b_QM_operate 1 = .ok (.invokevirtual 147, 3) := by decide +kernel
theorem d_QM_operate_4 : decode b_QM_operate 4 = .ok (.ifCond .eq 13, 3) := by decide +kernel
theorem d_QM_operate_7 : decode b_QM_operate 7 = .ok (.iload_n 1, 1) := by decide +kernel
theorem d_QM_operate_8 : decode b_QM_operate 8 = .ok (.iconst 0, 1) := by decide +kernel
theorem d_QM_operate_9 : decode b_QM_operate 9 = .ok (.bipush 9, 2) := by decide +kernel
theorem d_QM_operate_11 : decode b_QM_operate 11 = .ok (.invokestatic 103, 3) := by decide +kernel
theorem d_QM_operate_14 : decode b_QM_operate 14 = .ok (.ifCond .ne 5, 3) := by decide +kernel
theorem d_QM_operate_17 : decode b_QM_operate 17 = .ok (.iconst 0, 1) := by decide +kernel
theorem d_QM_operate_18 : decode b_QM_operate 18 = .ok (.ireturn, 1) := by decide +kernel
theorem d_QM_operate_19 : decode b_QM_operate 19 = .ok (.iload_n 1, 1) := by decide +kernel
theorem d_QM_operate_20 : decode b_QM_operate 20 = .ok (.bipush 8, 2) := by decide +kernel
theorem d_QM_operate_22 : decode b_QM_operate 22 = .ok (.if_icmp .ge 7, 3) := by decide +kernel
theorem d_QM_operate_25 : decode b_QM_operate 25 = .ok (.iconst 2, 1) := by decide +kernel
theorem d_QM_operate_26 : decode b_QM_operate 26 = .ok (.goto 4, 3) := by decide +kernel
theorem d_QM_operate_29 : decode b_QM_operate 29 = .ok (.iconst 1, 1) := by decide +kernel
theorem d_QM_operate_30 : decode b_QM_operate 30 = .ok (.istore_n 2, 1) := by decide +kernel
theorem d_QM_operate_31 : decode b_QM_operate 31 = .ok (.iload_n 1, 1) := by decide +kernel
theorem d_QM_operate_32 : decode b_QM_operate 32 = .ok (.bipush 6, 2) := by decide +kernel
theorem d_QM_operate_34 : decode b_QM_operate 34 = .ok (.if_icmp .lt 13, 3) := by decide +kernel
theorem d_QM_operate_37 : decode b_QM_operate 37 = .ok (.iload_n 1, 1) := by decide +kernel
theorem d_QM_operate_38 : decode b_QM_operate 38 = .ok (.bipush 8, 2) := by decide +kernel
theorem d_QM_operate_40 : decode b_QM_operate 40 = .ok (.if_icmp .gt 7, 3) := by decide +kernel
theorem d_QM_operate_43 : decode b_QM_operate 43 = .ok (.iconst 1, 1) := by decide +kernel
theorem d_QM_operate_44 : decode b_QM_operate 44 = .ok (.goto 4, 3) := by decide +kernel
theorem d_QM_operate_47 : decode b_QM_operate 47 = .ok (.iconst 0, 1) := by decide +kernel
theorem d_QM_operate_48 : decode b_QM_operate 48 = .ok (.istore_n 3, 1) := by decide +kernel
theorem d_QM_operate_49 : decode b_QM_operate 49 = .ok (.aload_n 0, 1) := by decide +kernel
theorem d_QM_operate_50 : decode b_QM_operate 50 = .ok (.getfield 138, 3) := by decide +kernel
theorem d_QM_operate_53 : decode b_QM_operate 53 = .ok (.iload_n 2, 1) := by decide +kernel
theorem d_QM_operate_54 : decode b_QM_operate 54 = .ok (.if_icmp .ge 5, 3) := by decide +kernel
theorem d_QM_operate_57 : decode b_QM_operate 57 = .ok (.iconst 0, 1) := by decide +kernel
theorem d_QM_operate_58 : decode b_QM_operate 58 = .ok (.ireturn, 1) := by decide +kernel
theorem d_QM_operate_59 : decode b_QM_operate 59 = .ok (.aload_n 0, 1) := by decide +kernel
theorem d_QM_operate_60 : decode b_QM_operate 60 = .ok (.getfield 138, 3) := by decide +kernel
theorem d_QM_operate_63 : decode b_QM_operate 63 = .ok (.iload_n 2, 1) := by decide +kernel
theorem d_QM_operate_64 : decode b_QM_operate 64 = .ok (.isub, 1) := by decide +kernel
theorem d_QM_operate_65 : decode b_QM_operate 65 = .ok (.istore 4, 2) := by decide +kernel
theorem d_QM_operate_67 : decode b_QM_operate 67 = .ok (.iconst 1, 1) := by decide +kernel
theorem d_QM_operate_68 : decode b_QM_operate 68 = .ok (.istore 5, 2) := by decide +kernel
theorem d_QM_operate_70 : decode b_QM_operate 70 = .ok (.iload 4, 2) := by decide +kernel
theorem d_QM_operate_72 : decode b_QM_operate 72 = .ok (.istore 6, 2) := by decide +kernel
theorem d_QM_operate_74 : decode b_QM_operate 74 = .ok (.iload 6, 2) := by decide +kernel
theorem d_QM_operate_76 : decode b_QM_operate 76 = .ok (.aload_n 0, 1) := by decide +kernel
theorem d_QM_operate_77 : decode b_QM_operate 77 = .ok (.getfield 138, 3) := by decide +kernel
theorem d_QM_operate_80 : decode b_QM_operate 80 = .ok (.if_icmp .ge 34, 3) := by decide +kernel
theorem d_QM_operate_83 : decode b_QM_operate 83 = .ok (.aload_n 0, 1) := by decide +kernel
theorem d_QM_operate_84 : decode b_QM_operate 84 = .ok (.getfield 30, 3) := by decide +kernel
theorem d_QM_operate_87 : decode b_QM_operate 87 = .ok (.iload 6, 2) := by decide +kernel
theorem d_QM_operate_89 : decode b_QM_operate 89 = .ok (.baload, 1) := by decide +kernel
theorem d_QM_operate_90 : decode b_QM_operate 90 = .ok (.iload_n 3, 1) := by decide +kernel
theorem d_QM_operate_91 : decode b_QM_operate 91 = .ok (.if_icmp .eq 5, 3) := by decide +kernel
theorem d_QM_operate_94 : decode b_QM_operate 94 = .ok (.iconst 0, 1) := by decide +kernel
theorem d_QM_operate_95 : decode b_QM_operate 95 = .ok (.ireturn, 1) := by decide +kernel
theorem d_QM_operate_96 : decode b_QM_operate 96 = .ok (.iload 5, 2) := by decide +kernel
theorem d_QM_operate_98 : decode b_QM_operate 98 = .ok (.aload_n 0, 1) := by decide +kernel
theorem d_QM_operate_99 : decode b_QM_operate 99 = .ok (.getfield 27, 3) := by decide +kernel
theorem d_QM_operate_102 : decode b_QM_operate 102 = .ok (.iload 6, 2) := by decide +kernel
theorem d_QM_operate_104 : decode b_QM_operate 104 = .ok (.iaload, 1) := by decide +kernel
theorem d_QM_operate_105 : decode b_QM_operate 105 = .ok (.iadd, 1) := by decide +kernel
theorem d_QM_operate_106 : decode b_QM_operate 106 = .ok (.istore 5, 2) := by decide +kernel
theorem d_QM_operate_108 : decode b_QM_operate 108 = .ok (.iinc 6 1, 3) := by decide +kernel
theorem d_QM_operate_111 : decode b_QM_operate 111 = .ok (.goto (-37), 3) := by decide +kernel
theorem d_QM_operate_114 : decode b_QM_operate 114 = .ok (.iload 5, 2) := by decide +kernel
theorem d_QM_operate_116 : decode b_QM_operate 116 = .ok (.bipush 24, 2) := by decide +kernel
theorem d_QM_operate_118 : decode b_QM_operate 118 = .ok (.if_icmp .le 5, 3) := by decide +kernel
theorem d_QM_operate_121 : decode b_QM_operate 121 = .ok (.iconst 0, 1) := by decide +kernel
theorem d_QM_operate_122 : decode b_QM_operate 122 = .ok (.ireturn, 1) := by decide +kernel
theorem d_QM_operate_123 : decode b_QM_operate 123 = .ok (.iload_n 2, 1) := by decide +kernel
theorem d_QM_operate_124 : decode b_QM_operate 124 = .ok (.iconst 2, 1) := by decide +kernel
theorem d_QM_operate_125 : decode b_QM_operate 125 = .ok (.if_icmp .ne 20, 3) := by decide +kernel
theorem d_QM_operate_128 : decode b_QM_operate 128 = .ok (.aload_n 0, 1) := by decide +kernel
theorem d_QM_operate_129 : decode b_QM_operate 129 = .ok (.iload 4, 2) := by decide +kernel
theorem d_QM_operate_131 : decode b_QM_operate 131 = .ok (.iconst 1, 1) := by decide +kernel
theorem d_QM_operate_132 : decode b_QM_operate 132 = .ok (.iadd, 1) := by decide +kernel
theorem d_QM_operate_133 : decode b_QM_operate 133 = .ok (.iload 4, 2) := by decide +kernel
theorem d_QM_operate_135 : decode b_QM_operate 135 = .ok (.aload_n 0, 1) := by decide +kernel
theorem d_QM_operate_136 : decode b_QM_operate 136 = .ok (.getfield 27, 3) := by decide +kernel
theorem d_QM_operate_139 : decode b_QM_operate 139 = .ok (.iload 4, 2) := by decide +kernel
theorem d_QM_operate_141 : decode b_QM_operate 141 = .ok (.iaload, 1) := by decide +kernel
theorem d_QM_operate_142 : decode b_QM_operate 142 = .ok (.invokevirtual 159, 3) := by decide +kernel
theorem d_QM_operate_145 : decode b_QM_operate 145 = .ok (.aload_n 0, 1) := by decide +kernel
theorem d_QM_operate_146 : decode b_QM_operate 146 = .ok (.getfield 21, 3) := by decide +kernel
theorem d_QM_operate_149 : decode b_QM_operate 149 = .ok (.bipush 24, 2) := by decide +kernel
theorem d_QM_operate_151 : decode b_QM_operate 151 = .ok (.iload 4, 2) := by decide +kernel
theorem d_QM_operate_153 : decode b_QM_operate 153 = .ok (.imul, 1) := by decide +kernel
theorem d_QM_operate_154 : decode b_QM_operate 154 = .ok (.iload 5, 2) := by decide +kernel
theorem d_QM_operate_156 : decode b_QM_operate 156 = .ok (.iadd, 1) := by decide +kernel
theorem d_QM_operate_157 : decode b_QM_operate 157 = .ok (.iconst 1, 1) := by decide +kernel
theorem d_QM_operate_158 : decode b_QM_operate 158 = .ok (.isub, 1) := by decide +kernel
theorem d_QM_operate_159 : decode b_QM_operate 159 = .ok (.iload_n 1, 1) := by decide +kernel
theorem d_QM_operate_160 : decode b_QM_operate 160 = .ok (.iastore, 1) := by decide +kernel
theorem d_QM_operate_161 : decode b_QM_operate 161 = .ok (.aload_n 0, 1) := by decide +kernel
theorem d_QM_operate_162 : decode b_QM_operate 162 = .ok (.getfield 27, 3) := by decide +kernel
theorem d_QM_operate_165 : decode b_QM_operate 165 = .ok (.iload 4, 2) := by decide +kernel
theorem d_QM_operate_167 : decode b_QM_operate 167 = .ok (.iload 5, 2) := by decide +kernel
theorem d_QM_operate_169 : decode b_QM_operate 169 = .ok (.iastore, 1) := by decide +kernel
theorem d_QM_operate_170 : decode b_QM_operate 170 = .ok (.aload_n 0, 1) := by decide +kernel
theorem d_QM_operate_171 : decode b_QM_operate 171 = .ok (.getfield 30, 3) := by decide +kernel
theorem d_QM_operate_174 : decode b_QM_operate 174 = .ok (.iload 4, 2) := by decide +kernel
theorem d_QM_operate_176 : decode b_QM_operate 176 = .ok (.iload_n 1, 1) := by decide +kernel
theorem d_QM_operate_177 : decode b_QM_operate 177 = .ok (.iconst 3, 1) := by decide +kernel
theorem d_QM_operate_178 : decode b_QM_operate 178 = .ok (.if_icmp .le 7, 3) := by decide +kernel
theorem d_QM_operate_181 : decode b_QM_operate 181 = .ok (.iconst 1, 1) := by decide +kernel
theorem d_QM_operate_182 : decode b_QM_operate 182 = .ok (.goto 4, 3) := by decide +kernel
theorem d_QM_operate_185 : decode b_QM_operate 185 = .ok (.iconst 0, 1) := by decide +kernel
theorem d_QM_operate_186 : decode b_QM_operate 186 = .ok (.bastore, 1) := by decide +kernel
theorem d_QM_operate_187 : decode b_QM_operate 187 = .ok (.aload_n 0, 1) := by decide +kernel
theorem d_QM_operate_188 : decode b_QM_operate 188 = .ok (.iload 4, 2) := by decide +kernel
theorem d_QM_operate_190 : decode b_QM_operate 190 = .ok (.iconst 1, 1) := by decide +kernel
theorem d_QM_operate_191 : decode b_QM_operate 191 = .ok (.iadd, 1) := by decide +kernel
theorem d_QM_operate_192 : decode b_QM_operate 192 = .ok (.putfield 138, 3) := by decide +kernel
theorem d_QM_operate_195 : decode b_QM_operate 195 = .ok (.iconst 1, 1) := by decide +kernel
theorem d_QM_operate_196 : decode b_QM_operate 196 = .ok (.ireturn, 1) := by decide +kernel
theorem d_QM_copy_0 : decode b_QM_copy 0 = .ok (.iconst 0, 1) := by decide +kernel
theorem d_QM_copy_1 : decode b_QM_copy 1 = .ok (.istore 4, 2) := by decide +kernel
theorem d_QM_copy_3 : decode b_QM_copy 3 = .ok (.iload 4, 2) := by decide +kernel
theorem d_QM_copy_5 : decode b_QM_copy 5 = .ok (.aload_n 0, 1) := by decide +kernel
theorem d_QM_copy_6 : decode b_QM_copy 6 = .ok (.getfield 27, 3) := by decide +kernel
theorem d_QM_copy_9 : decode b_QM_copy 9 = .ok (.iload_n 1, 1) := by decide +kernel
theorem d_QM_copy_10 : decode b_QM_copy 10 = .ok (.iaload, 1) := by decide +kernel
theorem d_QM_copy_11 : decode b_QM_copy 11 = .ok (.if_icmp .ge 61, 3) := by decide +kernel
theorem d_QM_copy_14 : decode b_QM_copy 14 = .ok (.aload_n 0, 1) := by decide +kernel
theorem d_QM_copy_15 : decode b_QM_copy 15 = .ok (.getfield 21, 3) := by decide +kernel
theorem d_QM_copy_18 : decode b_QM_copy 18 = .ok (.bipush 24, 2) := by decide +kernel
theorem d_QM_copy_20 : decode b_QM_copy 20 = .ok (.iload_n 2, 1) := by decide +kernel
theorem d_QM_copy_21 : decode b_QM_copy 21 = .ok (.imul, 1) := by decide +kernel
theorem d_QM_copy_22 : decode b_QM_copy 22 = .ok (.iload_n 3, 1) := by decide +kernel
theorem d_QM_copy_23 : decode b_QM_copy 23 = .ok (.iadd, 1) := by decide +kernel
theorem d_QM_copy_24 : decode b_QM_copy 24 = .ok (.iload 4, 2) := by decide +kernel
theorem d_QM_copy_26 : decode b_QM_copy 26 = .ok (.iadd, 1) := by decide +kernel
theorem d_QM_copy_27 : decode b_QM_copy 27 = .ok (.aload_n 0, 1) := by decide +kernel
theorem d_QM_copy_28 : decode b_QM_copy 28 = .ok (.getfield 21, 3) := by decide +kernel
theorem d_QM_copy_31 : decode b_QM_copy 31 = .ok (.bipush 24, 2) := by decide +kernel
theorem d_QM_copy_33 : decode b_QM_copy 33 = .ok (.iload_n 1, 1) := by decide +kernel
theorem d_QM_copy_34 : decode b_QM_copy 34 = .ok (.imul, 1) := by decide +kernel
theorem d_QM_copy_35 : decode b_QM_copy 35 = .ok (.iload 4, 2) := by decide +kernel
theorem d_QM_copy_37 : decode b_QM_copy 37 = .ok (.iadd, 1) := by decide +kernel
theorem d_QM_copy_38 : decode b_QM_copy 38 = .ok (.iaload, 1) := by decide +kernel
theorem d_QM_copy_39 : decode b_QM_copy 39 = .ok (.iastore, 1) := by decide +kernel
theorem d_QM_copy_40 : decode b_QM_copy 40 = .ok (.aload_n 0, 1) := by decide +kernel
theorem d_QM_copy_41 : decode b_QM_copy 41 = .ok (.getfield 24, 3) := by decide +kernel
theorem d_QM_copy_44 : decode b_QM_copy 44 = .ok (.bipush 24, 2) := by decide +kernel
theorem d_QM_copy_46 : decode b_QM_copy 46 = .ok (.iload_n 2, 1) := by decide +kernel
theorem d_QM_copy_47 : decode b_QM_copy 47 = .ok (.imul, 1) := by decide +kernel
theorem d_QM_copy_48 : decode b_QM_copy 48 = .ok (.iload_n 3, 1) := by decide +kernel
theorem d_QM_copy_49 : decode b_QM_copy 49 = .ok (.iadd, 1) := by decide +kernel
theorem d_QM_copy_50 : decode b_QM_copy 50 = .ok (.iload 4, 2) := by decide +kernel
theorem d_QM_copy_52 : decode b_QM_copy 52 = .ok (.iadd, 1) := by decide +kernel
theorem d_QM_copy_53 : decode b_QM_copy 53 = .ok (.aload_n 0, 1) := by decide +kernel
theorem d_QM_copy_54 : decode b_QM_copy 54 = .ok (.getfield 24, 3) := by decide +kernel
theorem d_QM_copy_57 : decode b_QM_copy 57 = .ok (.bipush 24, 2) := by decide +kernel
theorem d_QM_copy_59 : decode b_QM_copy 59 = .ok (.iload_n 1, 1) := by decide +kernel
theorem d_QM_copy_60 : decode b_QM_copy 60 = .ok (.imul, 1) := by decide +kernel
theorem d_QM_copy_61 : decode b_QM_copy 61 = .ok (.iload 4, 2) := by decide +kernel
theorem d_QM_copy_63 : decode b_QM_copy 63 = .ok (.iadd, 1) := by decide +kernel
theorem d_QM_copy_64 : decode b_QM_copy 64 = .ok (.laload, 1) := by decide +kernel
theorem d_QM_copy_65 : decode b_QM_copy 65 = .ok (.lastore, 1) := by decide +kernel
theorem d_QM_copy_66 : decode b_QM_copy 66 = .ok (.iinc 4 1, 3) := by decide +kernel
theorem d_QM_copy_69 : decode b_QM_copy 69 = .ok (.goto (-66), 3) := by decide +kernel
theorem d_QM_copy_72 : decode b_QM_copy 72 = .ok (.return_, 1) := by decide +kernel
theorem d_QM_where_0 : decode b_QM_where 0 = .ok (.aload_n 0, 1) := by decide +kernel
theorem d_QM_where_1 : decode b_QM_where 1 = .ok (.invokevirtual 147, 3) := by decide +kernel
theorem d_QM_where_4 : decode b_QM_where 4 = .ok (.ifCond .eq 29, 3) := by decide +kernel
theorem d_QM_where_7 : decode b_QM_where 7 = .ok (.aload_n 0, 1) := by decide +kernel
theorem d_QM_where_8 : decode b_QM_where 8 = .ok (.getfield 138, 3) := by decide +kernel
theorem d_QM_where_11 : decode b_QM_where 11 = .ok (.iconst 1, 1) := by decide +kernel
theorem d_QM_where_12 : decode b_QM_where 12 = .ok (.if_icmp .ne 21, 3) := by decide +kernel
theorem d_QM_where_15 : decode b_QM_where 15 = .ok (.aload_n 0, 1) := by decide +kernel
theorem d_QM_where_16 : decode b_QM_where 16 = .ok (.getfield 30, 3) := by decide +kernel
theorem d_QM_where_19 : decode b_QM_where 19 = .ok (.iconst 0, 1) := by decide +kernel
theorem d_QM_where_20 : decode b_QM_where 20 = .ok (.baload, 1) := by decide +kernel
theorem d_QM_where_21 : decode b_QM_where 21 = .ok (.ifCond .eq 12, 3) := by decide +kernel
theorem d_QM_where_24 : decode b_QM_where 24 = .ok (.aload_n 0, 1) := by decide +kernel
theorem d_QM_where_25 : decode b_QM_where 25 = .ok (.getfield 141, 3) := by decide +kernel
theorem d_QM_where_28 : decode b_QM_where 28 = .ok (.bipush 6, 2) := by decide +kernel
theorem d_QM_where_30 : decode b_QM_where 30 = .ok (.if_icmp .ne 5, 3) := by decide +kernel
theorem d_QM_where_33 : decode b_QM_where 33 = .ok (.iconst 0, 1) := by decide +kernel
theorem d_QM_where_34 : decode b_QM_where 34 = .ok (.ireturn, 1) := by decide +kernel
theorem d_QM_where_35 : decode b_QM_where 35 = .ok (.aload_n 0, 1) := by decide +kernel
theorem d_QM_where_36 : decode b_QM_where 36 = .ok (.iconst 0, 1) := by decide +kernel
theorem d_QM_where_37 : decode b_QM_where 37 = .ok (.bipush 8, 2) := by decide +kernel
theorem d_QM_where_39 : decode b_QM_where 39 = .ok (.aload_n 0, 1) := by decide +kernel
theorem d_QM_where_40 : decode b_QM_where 40 = .ok (.getfield 141, 3) := by decide +kernel
theorem d_QM_where_43 : decode b_QM_where 43 = .ok (.iadd, 1) := by decide +kernel
theorem d_QM_where_44 : decode b_QM_where 44 = .ok (.iconst 0, 1) := by decide +kernel
theorem d_QM_where_45 : decode b_QM_where 45 = .ok (.invokevirtual 159, 3) := by decide +kernel
theorem d_QM_where_48 : decode b_QM_where 48 = .ok (.aload_n 0, 1) := by decide +kernel
theorem d_QM_where_49 : decode b_QM_where 49 = .ok (.getfield 27, 3) := by decide +kernel
theorem d_QM_where_52 : decode b_QM_where 52 = .ok (.bipush 8, 2) := by decide +kernel
theorem d_QM_where_54 : decode b_QM_where 54 = .ok (.aload_n 0, 1) := by decide +kernel
theorem d_QM_where_55 : decode b_QM_where 55 = .ok (.getfield 141, 3) := by decide +kernel
theorem d_QM_where_58 : decode b_QM_where 58 = .ok (.iadd, 1) := by decide +kernel
theorem d_QM_where_59 : decode b_QM_where 59 = .ok (.aload_n 0, 1) := by decide +kernel
theorem d_QM_where_60 : decode b_QM_where 60 = .ok (.getfield 27, 3) := by decide +kernel
theorem d_QM_where_63 : decode b_QM_where 63 = .ok (.iconst 0, 1) := by decide +kernel
theorem d_QM_where_64 : decode b_QM_where 64 = .ok (.iaload, 1) := by decide +kernel
theorem d_QM_where_65 : decode b_QM_where 65 = .ok (.iastore, 1) := by decide +kernel
theorem d_QM_where_66 : decode b_QM_where 66 = .ok (.aload_n 0, 1) := by decide +kernel
theorem d_QM_where_67 : decode b_QM_where 67 = .ok (.dup, 1) := by decide +kernel
theorem d_QM_where_68 : decode b_QM_where 68 = .ok (.getfield 141, 3) := by decide +kernel
theorem d_QM_where_71 : decode b_QM_where 71 = .ok (.iconst 1, 1) := by decide +kernel
theorem d_QM_where_72 : decode b_QM_where 72 = .ok (.iadd, 1) := by decide +kernel
theorem d_QM_where_73 : decode b_QM_where 73 = .ok (.putfield 141, 3) := by decide +kernel
theorem d_QM_where_76 : decode b_QM_where 76 = .ok (.aload_n 0, 1) := by decide +kernel
theorem d_QM_where_77 : decode b_QM_where 77 = .ok (.iconst 0, 1) := by decide +kernel
theorem d_QM_where_78 : decode b_QM_where 78 = .ok (.putfield 138, 3) := by decide +kernel
theorem d_QM_where_81 : decode b_QM_where 81 = .ok (.iconst 1, 1) := by decide +kernel
theorem d_QM_where_82 : decode b_QM_where 82 = .ok (.ireturn, 1) := by decide +kernel
theorem d_QM_output_0 : decode b_QM_output 0 = .ok (.aload_n 0, 1) := by decide +kernel
theorem d_QM_output_1 : decode b_QM_output 1 = .ok (.invokevirtual 147, 3) := by decide +kernel
theorem d_QM_output_4 : decode b_QM_output 4 = .ok (.ifCond .eq 20, 3) := by decide +kernel
theorem d_QM_output_7 : decode b_QM_output 7 = .ok (.iload_n 1, 1) := by decide +kernel
theorem d_QM_output_8 : decode b_QM_output 8 = .ok (.iconst 0, 1) := by decide +kernel
theorem d_QM_output_9 : decode b_QM_output 9 = .ok (.iconst 5, 1) := by decide +kernel
theorem d_QM_output_10 : decode b_QM_output 10 = .ok (.invokestatic 103, 3) := by decide +kernel
theorem d_QM_output_13 : decode b_QM_output 13 = .ok (.ifCond .eq 11, 3) := by decide +kernel
theorem d_QM_output_16 : decode b_QM_output 16 = .ok (.aload_n 0, 1) := by decide +kernel
theorem d_QM_output_17 : decode b_QM_output 17 = .ok (.getfield 144, 3) := by decide +kernel
theorem d_QM_output_20 : decode b_QM_output 20 = .ok (.iconst 3, 1) := by decide +kernel
theorem d_QM_output_21 : decode b_QM_output 21 = .ok (.if_icmp .ne 5, 3) := by decide +kernel
theorem d_QM_output_24 : decode b_QM_output 24 = .ok (.iconst 0, 1) := by decide +kernel
theorem d_QM_output_25 : decode b_QM_output 25 = .ok (.ireturn, 1) := by decide +kernel
theorem d_QM_output_26 : decode b_QM_output 26 = .ok (.iload_n 1, 1) := by decide +kernel
theorem d_QM_output_27 : decode b_QM_output 27 = .ok (.iconst 1, 1) := by decide +kernel
theorem d_QM_output_28 : decode b_QM_output 28 = .ok (.if_icmp .ne 13, 3) := by decide +kernel
theorem d_QM_output_31 : decode b_QM_output 31 = .ok (.aload_n 0, 1) := by decide +kernel
theorem d_QM_output_32 : decode b_QM_output 32 = .ok (.getfield 138, 3) := by decide +kernel
theorem d_QM_output_35 : decode b_QM_output 35 = .ok (.ifCond .eq 25, 3) := by decide +kernel
theorem d_QM_output_38 : decode b_QM_output 38 = .ok (.goto 20, 3) := by decide +kernel
theorem d_QM_output_41 : decode b_QM_output 41 = .ok (.aload_n 0, 1) := by decide +kernel
theorem d_QM_output_42 : decode b_QM_output 42 = .ok (.getfield 138, 3) := by decide +kernel
theorem d_QM_output_45 : decode b_QM_output 45 = .ok (.iconst 1, 1) := by decide +kernel
theorem d_QM_output_46 : decode b_QM_output 46 = .ok (.if_icmp .ne 12, 3) := by decide +kernel
theorem d_QM_output_49 : decode b_QM_output 49 = .ok (.aload_n 0, 1) := by decide +kernel
theorem d_QM_output_50 : decode b_QM_output 50 = .ok (.getfield 30, 3) := by decide +kernel
theorem d_QM_output_53 : decode b_QM_output 53 = .ok (.iconst 0, 1) := by decide +kernel
theorem d_QM_output_54 : decode b_QM_output 54 = .ok (.baload, 1) := by decide +kernel
theorem d_QM_output_55 : decode b_QM_output 55 = .ok (.ifCond .eq 5, 3) := by decide +kernel
theorem d_QM_output_58 : decode b_QM_output 58 = .ok (.iconst 0, 1) := by decide +kernel
theorem d_QM_output_59 : decode b_QM_output 59 = .ok (.ireturn, 1) := by decide +kernel
theorem d_QM_output_60 : decode b_QM_output 60 = .ok (.iload_n 1, 1) := by decide +kernel
theorem d_QM_output_61 : decode b_QM_output 61 = .ok (.iconst 1, 1) := by decide +kernel
theorem d_QM_output_62 : decode b_QM_output 62 = .ok (.if_icmp .eq 16, 3) := by decide +kernel
theorem d_QM_output_65 : decode b_QM_output 65 = .ok (.aload_n 0, 1) := by decide +kernel
theorem d_QM_output_66 : decode b_QM_output 66 = .ok (.iconst 0, 1) := by decide +kernel
theorem d_QM_output_67 : decode b_QM_output 67 = .ok (.bipush 14, 2) := by decide +kernel
theorem d_QM_output_69 : decode b_QM_output 69 = .ok (.aload_n 0, 1) := by decide +kernel
theorem d_QM_output_70 : decode b_QM_output 70 = .ok (.getfield 144, 3) := by decide +kernel
theorem d_QM_output_73 : decode b_QM_output 73 = .ok (.iadd, 1) := by decide +kernel
theorem d_QM_output_74 : decode b_QM_output 74 = .ok (.iconst 0, 1) := by decide +kernel
theorem d_QM_output_75 : decode b_QM_output 75 = .ok (.invokevirtual 159, 3) := by decide +kernel
theorem d_QM_output_78 : decode b_QM_output 78 = .ok (.aload_n 0, 1) := by decide +kernel
theorem d_QM_output_79 : decode b_QM_output 79 = .ok (.getfield 27, 3) := by decide +kernel
theorem d_QM_output_82 : decode b_QM_output 82 = .ok (.bipush 14, 2) := by decide +kernel
theorem d_QM_output_84 : decode b_QM_output 84 = .ok (.aload_n 0, 1) := by decide +kernel
theorem d_QM_output_85 : decode b_QM_output 85 = .ok (.getfield 144, 3) := by decide +kernel
theorem d_QM_output_88 : decode b_QM_output 88 = .ok (.iadd, 1) := by decide +kernel
theorem d_QM_output_89 : decode b_QM_output 89 = .ok (.iload_n 1, 1) := by decide +kernel
theorem d_QM_output_90 : decode b_QM_output 90 = .ok (.iconst 1, 1) := by decide +kernel
theorem d_QM_output_91 : decode b_QM_output 91 = .ok (.if_icmp .ne 7, 3) := by decide +kernel
theorem d_QM_output_94 : decode b_QM_output 94 = .ok (.iconst 0, 1) := by decide +kernel
theorem d_QM_output_95 : decode b_QM_output 95 = .ok (.goto 9, 3) := by decide +kernel
theorem d_QM_output_98 : decode b_QM_output 98 = .ok (.aload_n 0, 1) := by decide +kernel
theorem d_QM_output_99 : decode b_QM_output 99 = .ok (.getfield 27, 3) := by decide +kernel
theorem d_QM_output_102 : decode b_QM_output 102 = .ok (.iconst 0, 1) := by decide +kernel
theorem d_QM_output_103 : decode b_QM_output 103 = .ok (.iaload, 1) := by decide +kernel
theorem d_QM_output_104 : decode b_QM_output 104 = .ok (.iastore, 1) := by decide +kernel
theorem d_QM_output_105 : decode b_QM_output 105 = .ok (.aload_n 0, 1) := by decide +kernel
theorem d_QM_output_106 : decode b_QM_output 106 = .ok (.getfield 33, 3) := by decide +kernel
theorem d_QM_output_109 : decode b_QM_output 109 = .ok (.aload_n 0, 1) := by decide +kernel
theorem d_QM_output_110 : decode b_QM_output 110 = .ok (.getfield 144, 3) := by decide +kernel
theorem d_QM_output_113 : decode b_QM_output 113 = .ok (.iload_n 1, 1) := by decide +kernel
theorem d_QM_output_114 : decode b_QM_output 114 = .ok (.iastore, 1) := by decide +kernel
theorem d_QM_output_115 : decode b_QM_output 115 = .ok (.aload_n 0, 1) := by decide +kernel
theorem d_QM_output_116 : decode b_QM_output 116 = .ok (.dup, 1) := by decide +kernel
theorem d_QM_output_117 : decode b_QM_output 117 = .ok (.getfield 144, 3) := by decide +kernel
theorem d_QM_output_120 : decode b_QM_output 120 = .ok (.iconst 1, 1) := by decide +kernel
theorem d_QM_output_121 : decode b_QM_output 121 = .ok (.iadd, 1) := by decide +kernel
theorem d_QM_output_122 : decode b_QM_output 122 = .ok (.putfield 144, 3) := by decide +kernel
theorem d_QM_output_125 : decode b_QM_output 125 = .ok (.aload_n 0, 1) := by decide +kernel
theorem d_QM_output_126 : decode b_QM_output 126 = .ok (.iconst 0, 1) := by decide +kernel
theorem d_QM_output_127 : decode b_QM_output 127 = .ok (.putfield 138, 3) := by decide +kernel
theorem d_QM_output_130 : decode b_QM_output 130 = .ok (.iconst 1, 1) := by decide +kernel
theorem d_QM_output_131 : decode b_QM_output 131 = .ok (.ireturn, 1) := by decide +kernel
theorem d_QM_group_0 : decode b_QM_group 0 = .ok (.aload_n 0, 1) := by decide +kernel
theorem d_QM_group_1 : decode b_QM_group 1 = .ok (.invokevirtual 147, 3) := by decide +kernel
theorem d_QM_group_4 : decode b_QM_group 4 = .ok (.ifCond .eq 11, 3) := by decide +kernel
theorem d_QM_group_7 : decode b_QM_group 7 = .ok (.aload_n 0, 1) := by decide +kernel
theorem d_QM_group_8 : decode b_QM_group 8 = .ok (.iload_n 1, 1) := by decide +kernel
theorem d_QM_group_9 : decode b_QM_group 9 = .ok (.invokevirtual 151, 3) := by decide +kernel
theorem d_QM_group_12 : decode b_QM_group 12 = .ok (.ifCond .ne 5, 3) := by decide +kernel
theorem d_QM_group_15 : decode b_QM_group 15 = .ok (.iconst 0, 1) := by decide +kernel
theorem d_QM_group_16 : decode b_QM_group 16 = .ok (.ireturn, 1) := by decide +kernel
theorem d_QM_group_17 : decode b_QM_group 17 = .ok (.aload_n 0, 1) := by decide +kernel
theorem d_QM_group_18 : decode b_QM_group 18 = .ok (.iload_n 1, 1) := by decide +kernel
theorem d_QM_group_19 : decode b_QM_group 19 = .ok (.putfield 126, 3) := by decide +kernel
theorem d_QM_group_22 : decode b_QM_group 22 = .ok (.iconst 1, 1) := by decide +kernel
theorem d_QM_group_23 : decode b_QM_group 23 = .ok (.ireturn, 1) := by decide +kernel
theorem d_QM_order_0 : decode b_QM_order 0 = .ok (.aload_n 0, 1) := by decide +kernel
theorem d_QM_order_1 : decode b_QM_order 1 = .ok (.invokevirtual 147, 3) := by decide +kernel
theorem d_QM_order_4 : decode b_QM_order 4 = .ok (.ifCond .eq 12, 3) := by decide +kernel
theorem d_QM_order_7 : decode b_QM_order 7 = .ok (.iload_n 1, 1) := by decide +kernel
theorem d_QM_order_8 : decode b_QM_order 8 = .ok (.iconst 0, 1) := by decide +kernel
theorem d_QM_order_9 : decode b_QM_order 9 = .ok (.iconst 3, 1) := by decide +kernel
theorem d_QM_order_10 : decode b_QM_order 10 = .ok (.invokestatic 103, 3) := by decide +kernel
theorem d_QM_order_13 : decode b_QM_order 13 = .ok (.ifCond .ne 5, 3) := by decide +kernel
theorem d_QM_order_16 : decode b_QM_order 16 = .ok (.iconst 0, 1) := by decide +kernel
theorem d_QM_order_17 : decode b_QM_order 17 = .ok (.ireturn, 1) := by decide +kernel
theorem d_QM_order_18 : decode b_QM_order 18 = .ok (.aload_n 0, 1) := by decide +kernel
theorem d_QM_order_19 : decode b_QM_order 19 = .ok (.iload_n 1, 1) := by decide +kernel
theorem d_QM_order_20 : decode b_QM_order 20 = .ok (.putfield 129, 3) := by decide +kernel
theorem d_QM_order_23 : decode b_QM_order 23 = .ok (.aload_n 0, 1) := by decide +kernel
theorem d_QM_order_24 : decode b_QM_order 24 = .ok (.iload_n 2, 1) := by decide +kernel
theorem d_QM_order_25 : decode b_QM_order 25 = .ok (.putfield 132, 3) := by decide +kernel
theorem d_QM_order_28 : decode b_QM_order 28 = .ok (.aload_n 0, 1) := by decide +kernel
theorem d_QM_order_29 : decode b_QM_order 29 = .ok (.iload_n 3, 1) := by decide +kernel
theorem d_QM_order_30 : decode b_QM_order 30 = .ok (.putfield 135, 3) := by decide +kernel
theorem d_QM_order_33 : decode b_QM_order 33 = .ok (.iconst 1, 1) := by decide +kernel
theorem d_QM_order_34 : decode b_QM_order 34 = .ok (.ireturn, 1) := by decide +kernel
theorem d_QM_form_0 : decode b_QM_form 0 = .ok (.iconst 0, 1) := by decide +kernel
theorem d_QM_form_1 : decode b_QM_form 1 = .ok (.istore_n 1, 1) := by decide +kernel
theorem d_QM_form_2 : decode b_QM_form 2 = .ok (.iconst 0, 1) := by decide +kernel
theorem d_QM_form_3 : decode b_QM_form 3 = .ok (.istore_n 2, 1) := by decide +kernel
theorem d_QM_form_4 : decode b_QM_form 4 = .ok (.iload_n 2, 1) := by decide +kernel
theorem d_QM_form_5 : decode b_QM_form 5 = .ok (.aload_n 0, 1) := by decide +kernel
theorem d_QM_form_6 : decode b_QM_form 6 = .ok (.getfield 144, 3) := by decide +kernel
theorem d_QM_form_9 : decode b_QM_form 9 = .ok (.if_icmp .ge 26, 3) := by decide +kernel
theorem d_QM_form_12 : decode b_QM_form 12 = .ok (.aload_n 0, 1) := by decide +kernel
theorem d_QM_form_13 : decode b_QM_form 13 = .ok (.getfield 33, 3) := by decide +kernel
theorem d_QM_form_16 : decode b_QM_form 16 = .ok (.iload_n 2, 1) := by decide +kernel
theorem d_QM_form_17 : decode b_QM_form 17 = .ok (.iaload, 1) := by decide +kernel
theorem d_QM_form_18 : decode b_QM_form 18 = .ok (.ifCond .ne 9, 3) := by decide +kernel
theorem d_QM_form_21 : decode b_QM_form 21 = .ok (.iload_n 1, 1) := by decide +kernel
theorem d_QM_form_22 : decode b_QM_form 22 = .ok (.iconst 1, 1) := by decide +kernel
theorem d_QM_form_23 : decode b_QM_form 23 = .ok (.iadd, 1) := by decide +kernel
theorem d_QM_form_24 : decode b_QM_form 24 = .ok (.goto 4, 3) := by decide +kernel
theorem d_QM_form_27 : decode b_QM_form 27 = .ok (.iload_n 1, 1) := by decide +kernel
theorem d_QM_form_28 : decode b_QM_form 28 = .ok (.istore_n 1, 1) := by decide +kernel
theorem d_QM_form_29 : decode b_QM_form 29 = .ok (.iinc 2 1, 3) := by decide +kernel
theorem d_QM_form_32 : decode b_QM_form 32 = .ok (.goto (-28), 3) := by decide +kernel
theorem d_QM_form_35 : decode b_QM_form 35 = .ok (.iload_n 1, 1) := by decide +kernel
theorem d_QM_form_36 : decode b_QM_form 36 = .ok (.ifCond .ne 23, 3) := by decide +kernel
theorem d_QM_form_39 : decode b_QM_form 39 = .ok (.aload_n 0, 1) := by decide +kernel
theorem d_QM_form_40 : decode b_QM_form 40 = .ok (.getfield 144, 3) := by decide +kernel
theorem d_QM_form_43 : decode b_QM_form 43 = .ok (.ifCond .gt 10, 3) := by decide +kernel
theorem d_QM_form_46 : decode b_QM_form 46 = .ok (.aload_n 0, 1) := by decide +kernel
theorem d_QM_form_47 : decode b_QM_form 47 = .ok (.getfield 126, 3) := by decide +kernel
theorem d_QM_form_50 : decode b_QM_form 50 = .ok (.ifCond .lt 7, 3) := by decide +kernel
theorem d_QM_form_53 : decode b_QM_form 53 = .ok (.iconst 1, 1) := by decide +kernel
theorem d_QM_form_54 : decode b_QM_form 54 = .ok (.goto 4, 3) := by decide +kernel
theorem d_QM_form_57 : decode b_QM_form 57 = .ok (.iconst (-1), 1) := by decide +kernel
theorem d_QM_form_58 : decode b_QM_form 58 = .ok (.ireturn, 1) := by decide +kernel
theorem d_QM_form_59 : decode b_QM_form 59 = .ok (.iload_n 1, 1) := by decide +kernel
theorem d_QM_form_60 : decode b_QM_form 60 = .ok (.aload_n 0, 1) := by decide +kernel
theorem d_QM_form_61 : decode b_QM_form 61 = .ok (.getfield 144, 3) := by decide +kernel
theorem d_QM_form_64 : decode b_QM_form 64 = .ok (.if_icmp .ne 14, 3) := by decide +kernel
theorem d_QM_form_67 : decode b_QM_form 67 = .ok (.aload_n 0, 1) := by decide +kernel
theorem d_QM_form_68 : decode b_QM_form 68 = .ok (.getfield 126, 3) := by decide +kernel
theorem d_QM_form_71 : decode b_QM_form 71 = .ok (.ifCond .ge 7, 3) := by decide +kernel
theorem d_QM_form_74 : decode b_QM_form 74 = .ok (.iconst 0, 1) := by decide +kernel
theorem d_QM_form_75 : decode b_QM_form 75 = .ok (.goto 4, 3) := by decide +kernel
theorem d_QM_form_78 : decode b_QM_form 78 = .ok (.iconst (-1), 1) := by decide +kernel
theorem d_QM_form_79 : decode b_QM_form 79 = .ok (.ireturn, 1) := by decide +kernel
theorem d_QM_set_0 : decode b_QM_set 0 = .ok (.aload_n 0, 1) := by decide +kernel
theorem d_QM_set_1 : decode b_QM_set 1 = .ok (.getfield 36, 3) := by decide +kernel
theorem d_QM_set_4 : decode b_QM_set 4 = .ok (.iload_n 1, 1) := by decide +kernel
theorem d_QM_set_5 : decode b_QM_set 5 = .ok (.iload 4, 2) := by decide +kernel
theorem d_QM_set_7 : decode b_QM_set 7 = .ok (.ifCond .eq 7, 3) := by decide +kernel
theorem d_QM_set_10 : decode b_QM_set 10 = .ok (.lconst 0, 1) := by decide +kernel
theorem d_QM_set_11 : decode b_QM_set 11 = .ok (.goto 4, 3) := by decide +kernel
theorem d_QM_set_14 : decode b_QM_set 14 = .ok (.lload_n 2, 1) := by decide +kernel
theorem d_QM_set_15 : decode b_QM_set 15 = .ok (.lastore, 1) := by decide +kernel
theorem d_QM_set_16 : decode b_QM_set 16 = .ok (.aload_n 0, 1) := by decide +kernel
theorem d_QM_set_17 : decode b_QM_set 17 = .ok (.getfield 39, 3) := by decide +kernel
theorem d_QM_set_20 : decode b_QM_set 20 = .ok (.iload_n 1, 1) := by decide +kernel
theorem d_QM_set_21 : decode b_QM_set 21 = .ok (.iload 4, 2) := by decide +kernel
theorem d_QM_set_23 : decode b_QM_set 23 = .ok (.bastore, 1) := by decide +kernel
theorem d_QM_set_24 : decode b_QM_set 24 = .ok (.return_, 1) := by decide +kernel
theorem d_QM_overflows_0 : decode b_QM_overflows 0 = .ok (.ldc2_w 163, 3) := by decide +kernel
theorem d_QM_overflows_3 : decode b_QM_overflows 3 = .ok (.lstore 5, 2) := by decide +kernel
theorem d_QM_overflows_5 : decode b_QM_overflows 5 = .ok (.iload_n 0, 1) := by decide +kernel
theorem d_QM_overflows_6 : decode b_QM_overflows 6 = .ok (.ifCond .ne 25, 3) := by decide +kernel
theorem d_QM_overflows_9 : decode b_QM_overflows 9 = .ok (.lload_n 1, 1) := by decide +kernel
theorem d_QM_overflows_10 : decode b_QM_overflows 10 = .ok (.lload_n 1, 1) := by decide +kernel
theorem d_QM_overflows_11 : decode b_QM_overflows 11 = .ok (.lload_n 3, 1) := by decide +kernel
theorem d_QM_overflows_12 : decode b_QM_overflows 12 = .ok (.ladd, 1) := by decide +kernel
theorem d_QM_overflows_13 : decode b_QM_overflows 13 = .ok (.lxor, 1) := by decide +kernel
theorem d_QM_overflows_14 : decode b_QM_overflows 14 = .ok (.lload_n 3, 1) := by decide +kernel
theorem d_QM_overflows_15 : decode b_QM_overflows 15 = .ok (.lload_n 1, 1) := by decide +kernel
theorem d_QM_overflows_16 : decode b_QM_overflows 16 = .ok (.lload_n 3, 1) := by decide +kernel
theorem d_QM_overflows_17 : decode b_QM_overflows 17 = .ok (.ladd, 1) := by decide +kernel
theorem d_QM_overflows_18 : decode b_QM_overflows 18 = .ok (.lxor, 1) := by decide +kernel
theorem d_QM_overflows_19 : decode b_QM_overflows 19 = .ok (.land, 1) := by decide +kernel
theorem d_QM_overflows_20 : decode b_QM_overflows 20 = .ok (.lconst 0, 1) := by decide +kernel
theorem d_QM_overflows_21 : decode b_QM_overflows 21 = .ok (.lcmp, 1) := by decide +kernel
theorem d_QM_overflows_22 : decode b_QM_overflows 22 = .ok (.ifCond .ge 7, 3) := by decide +kernel
theorem d_QM_overflows_25 : decode b_QM_overflows 25 = .ok (.iconst 1, 1) := by decide +kernel
theorem d_QM_overflows_26 : decode b_QM_overflows 26 = .ok (.goto 4, 3) := by decide +kernel
theorem d_QM_overflows_29 : decode b_QM_overflows 29 = .ok (.iconst 0, 1) := by decide +kernel
theorem d_QM_overflows_30 : decode b_QM_overflows 30 = .ok (.ireturn, 1) := by decide +kernel
theorem d_QM_overflows_31 : decode b_QM_overflows 31 = .ok (.iload_n 0, 1) := by decide +kernel
theorem d_QM_overflows_32 : decode b_QM_overflows 32 = .ok (.iconst 1, 1) := by decide +kernel
theorem d_QM_overflows_33 : decode b_QM_overflows 33 = .ok (.if_icmp .ne 23, 3) := by decide +kernel
theorem d_QM_overflows_36 : decode b_QM_overflows 36 = .ok (.lload_n 1, 1) := by decide +kernel
theorem d_QM_overflows_37 : decode b_QM_overflows 37 = .ok (.lload_n 3, 1) := by decide +kernel
theorem d_QM_overflows_38 : decode b_QM_overflows 38 = .ok (.lxor, 1) := by decide +kernel
theorem d_QM_overflows_39 : decode b_QM_overflows 39 = .ok (.lload_n 1, 1) := by decide +kernel
theorem d_QM_overflows_40 : decode b_QM_overflows 40 = .ok (.lload_n 1, 1) := by decide +kernel
theorem d_QM_overflows_41 : decode b_QM_overflows 41 = .ok (.lload_n 3, 1) := by decide +kernel
theorem d_QM_overflows_42 : decode b_QM_overflows 42 = .ok (.lsub, 1) := by decide +kernel
theorem d_QM_overflows_43 : decode b_QM_overflows 43 = .ok (.lxor, 1) := by decide +kernel
theorem d_QM_overflows_44 : decode b_QM_overflows 44 = .ok (.land, 1) := by decide +kernel
theorem d_QM_overflows_45 : decode b_QM_overflows 45 = .ok (.lconst 0, 1) := by decide +kernel
theorem d_QM_overflows_46 : decode b_QM_overflows 46 = .ok (.lcmp, 1) := by decide +kernel
theorem d_QM_overflows_47 : decode b_QM_overflows 47 = .ok (.ifCond .ge 7, 3) := by decide +kernel
theorem d_QM_overflows_50 : decode b_QM_overflows 50 = .ok (.iconst 1, 1) := by decide +kernel
theorem d_QM_overflows_51 : decode b_QM_overflows 51 = .ok (.goto 4, 3) := by decide +kernel
theorem d_QM_overflows_54 : decode b_QM_overflows 54 = .ok (.iconst 0, 1) := by decide +kernel
theorem d_QM_overflows_55 : decode b_QM_overflows 55 = .ok (.ireturn, 1) := by decide +kernel
theorem d_QM_overflows_56 : decode b_QM_overflows 56 = .ok (.iload_n 0, 1) := by decide +kernel
theorem d_QM_overflows_57 : decode b_QM_overflows 57 = .ok (.iconst 3, 1) := by decide +kernel
theorem d_QM_overflows_58 : decode b_QM_overflows 58 = .ok (.if_icmp .ne 30, 3) := by decide +kernel
theorem d_QM_overflows_61 : decode b_QM_overflows 61 = .ok (.lload_n 3, 1) := by decide +kernel
theorem d_QM_overflows_62 : decode b_QM_overflows 62 = .ok (.lconst 0, 1) := by decide +kernel
theorem d_QM_overflows_63 : decode b_QM_overflows 63 = .ok (.lcmp, 1) := by decide +kernel
theorem d_QM_overflows_64 : decode b_QM_overflows 64 = .ok (.ifCond .eq 18, 3) := by decide +kernel
theorem d_QM_overflows_67 : decode b_QM_overflows 67 = .ok (.lload_n 1, 1) := by decide +kernel
theorem d_QM_overflows_68 : decode b_QM_overflows 68 = .ok (.lload 5, 2) := by decide +kernel
theorem d_QM_overflows_70 : decode b_QM_overflows 70 = .ok (.lcmp, 1) := by decide +kernel
theorem d_QM_overflows_71 : decode b_QM_overflows 71 = .ok (.ifCond .ne 15, 3) := by decide +kernel
theorem d_QM_overflows_74 : decode b_QM_overflows 74 = .ok (.lload_n 3, 1) := by decide +kernel
theorem d_QM_overflows_75 : decode b_QM_overflows 75 = .ok (.ldc2_w 165, 3) := by decide +kernel
theorem d_QM_overflows_78 : decode b_QM_overflows 78 = .ok (.lcmp, 1) := by decide +kernel
theorem d_QM_overflows_79 : decode b_QM_overflows 79 = .ok (.ifCond .ne 7, 3) := by decide +kernel
theorem d_QM_overflows_82 : decode b_QM_overflows 82 = .ok (.iconst 1, 1) := by decide +kernel
theorem d_QM_overflows_83 : decode b_QM_overflows 83 = .ok (.goto 4, 3) := by decide +kernel
theorem d_QM_overflows_86 : decode b_QM_overflows 86 = .ok (.iconst 0, 1) := by decide +kernel
theorem d_QM_overflows_87 : decode b_QM_overflows 87 = .ok (.ireturn, 1) := by decide +kernel
theorem d_QM_overflows_88 : decode b_QM_overflows 88 = .ok (.lload_n 1, 1) := by decide +kernel
theorem d_QM_overflows_89 : decode b_QM_overflows 89 = .ok (.lconst 0, 1) := by decide +kernel
theorem d_QM_overflows_90 : decode b_QM_overflows 90 = .ok (.lcmp, 1) := by decide +kernel
theorem d_QM_overflows_91 : decode b_QM_overflows 91 = .ok (.ifCond .eq 9, 3) := by decide +kernel
theorem d_QM_overflows_94 : decode b_QM_overflows 94 = .ok (.lload_n 3, 1) := by decide +kernel
theorem d_QM_overflows_95 : decode b_QM_overflows 95 = .ok (.lconst 0, 1) := by decide +kernel
theorem d_QM_overflows_96 : decode b_QM_overflows 96 = .ok (.lcmp, 1) := by decide +kernel
theorem d_QM_overflows_97 : decode b_QM_overflows 97 = .ok (.ifCond .ne 5, 3) := by decide +kernel
theorem d_QM_overflows_100 : decode b_QM_overflows 100 = .ok (.iconst 0, 1) := by decide +kernel
theorem d_QM_overflows_101 : decode b_QM_overflows 101 = .ok (.ireturn, 1) := by decide +kernel
theorem d_QM_overflows_102 : decode b_QM_overflows 102 = .ok (.lload_n 1, 1) := by decide +kernel
theorem d_QM_overflows_103 : decode b_QM_overflows 103 = .ok (.lload 5, 2) := by decide +kernel
theorem d_QM_overflows_105 : decode b_QM_overflows 105 = .ok (.lcmp, 1) := by decide +kernel
theorem d_QM_overflows_106 : decode b_QM_overflows 106 = .ok (.ifCond .ne 11, 3) := by decide +kernel
theorem d_QM_overflows_109 : decode b_QM_overflows 109 = .ok (.lload_n 3, 1) := by decide +kernel
theorem d_QM_overflows_110 : decode b_QM_overflows 110 = .ok (.ldc2_w 165, 3) := by decide +kernel
theorem d_QM_overflows_113 : decode b_QM_overflows 113 = .ok (.lcmp, 1) := by decide +kernel
theorem d_QM_overflows_114 : decode b_QM_overflows 114 = .ok (.ifCond .eq 28, 3) := by decide +kernel
theorem d_QM_overflows_117 : decode b_QM_overflows 117 = .ok (.lload_n 3, 1) := by decide +kernel
theorem d_QM_overflows_118 : decode b_QM_overflows 118 = .ok (.lload 5, 2) := by decide +kernel
theorem d_QM_overflows_120 : decode b_QM_overflows 120 = .ok (.lcmp, 1) := by decide +kernel
theorem d_QM_overflows_121 : decode b_QM_overflows 121 = .ok (.ifCond .ne 11, 3) := by decide +kernel
theorem d_QM_overflows_124 : decode b_QM_overflows 124 = .ok (.lload_n 1, 1) := by decide +kernel
theorem d_QM_overflows_125 : decode b_QM_overflows 125 = .ok (.ldc2_w 165, 3) := by decide +kernel
theorem d_QM_overflows_128 : decode b_QM_overflows 128 = .ok (.lcmp, 1) := by decide +kernel
theorem d_QM_overflows_129 : decode b_QM_overflows 129 = .ok (.ifCond .eq 13, 3) := by decide +kernel
theorem d_QM_overflows_132 : decode b_QM_overflows 132 = .ok (.lload_n 1, 1) := by decide +kernel
theorem d_QM_overflows_133 : decode b_QM_overflows 133 = .ok (.lload_n 3, 1) := by decide +kernel
theorem d_QM_overflows_134 : decode b_QM_overflows 134 = .ok (.lmul, 1) := by decide +kernel
theorem d_QM_overflows_135 : decode b_QM_overflows 135 = .ok (.lload_n 3, 1) := by decide +kernel
theorem d_QM_overflows_136 : decode b_QM_overflows 136 = .ok (.ldiv, 1) := by decide +kernel
theorem d_QM_overflows_137 : decode b_QM_overflows 137 = .ok (.lload_n 1, 1) := by decide +kernel
theorem d_QM_overflows_138 : decode b_QM_overflows 138 = .ok (.lcmp, 1) := by decide +kernel
theorem d_QM_overflows_139 : decode b_QM_overflows 139 = .ok (.ifCond .eq 7, 3) := by decide +kernel
theorem d_QM_overflows_142 : decode b_QM_overflows 142 = .ok (.iconst 1, 1) := by decide +kernel
theorem d_QM_overflows_143 : decode b_QM_overflows 143 = .ok (.goto 4, 3) := by decide +kernel
theorem d_QM_overflows_146 : decode b_QM_overflows 146 = .ok (.iconst 0, 1) := by decide +kernel
theorem d_QM_overflows_147 : decode b_QM_overflows 147 = .ok (.ireturn, 1) := by decide +kernel
theorem d_QM_calculate_0 : decode b_QM_calculate 0 = .ok (.aload_n 0, 1) := by decide +kernel
theorem d_QM_calculate_1 : decode b_QM_calculate 1 = .ok (.getfield 36, 3) := by decide +kernel
theorem d_QM_calculate_4 : decode b_QM_calculate 4 = .ok (.iload_n 2, 1) := by decide +kernel
theorem d_QM_calculate_5 : decode b_QM_calculate 5 = .ok (.laload, 1) := by decide +kernel
theorem d_QM_calculate_6 : decode b_QM_calculate 6 = .ok (.lstore_n 3, 1) := by decide +kernel
theorem d_QM_calculate_7 : decode b_QM_calculate 7 = .ok (.aload_n 0, 1) := by decide +kernel
theorem d_QM_calculate_8 : decode b_QM_calculate 8 = .ok (.getfield 36, 3) := by decide +kernel
theorem d_QM_calculate_11 : decode b_QM_calculate 11 = .ok (.iload_n 2, 1) := by decide +kernel
theorem d_QM_calculate_12 : decode b_QM_calculate 12 = .ok (.iconst 1, 1) := by decide +kernel
theorem d_QM_calculate_13 : decode b_QM_calculate 13 = .ok (.iadd, 1) := by decide +kernel
theorem d_QM_calculate_14 : decode b_QM_calculate 14 = .ok (.laload, 1) := by decide +kernel
theorem d_QM_calculate_15 : decode b_QM_calculate 15 = .ok (.lstore 5, 2) := by decide +kernel
theorem d_QM_calculate_17 : decode b_QM_calculate 17 = .ok (.aload_n 0, 1) := by decide +kernel
theorem d_QM_calculate_18 : decode b_QM_calculate 18 = .ok (.getfield 39, 3) := by decide +kernel
theorem d_QM_calculate_21 : decode b_QM_calculate 21 = .ok (.iload_n 2, 1) := by decide +kernel
theorem d_QM_calculate_22 : decode b_QM_calculate 22 = .ok (.baload, 1) := by decide +kernel
theorem d_QM_calculate_23 : decode b_QM_calculate 23 = .ok (.ifCond .ne 14, 3) := by decide +kernel
theorem d_QM_calculate_26 : decode b_QM_calculate 26 = .ok (.aload_n 0, 1) := by decide +kernel
theorem d_QM_calculate_27 : decode b_QM_calculate 27 = .ok (.getfield 39, 3) := by decide +kernel
theorem d_QM_calculate_30 : decode b_QM_calculate 30 = .ok (.iload_n 2, 1) := by decide +kernel
theorem d_QM_calculate_31 : decode b_QM_calculate 31 = .ok (.iconst 1, 1) := by decide +kernel
theorem d_QM_calculate_32 : decode b_QM_calculate 32 = .ok (.iadd, 1) := by decide +kernel
theorem d_QM_calculate_33 : decode b_QM_calculate 33 = .ok (.baload, 1) := by decide +kernel
theorem d_QM_calculate_34 : decode b_QM_calculate 34 = .ok (.ifCond .eq 7, 3) := by decide +kernel
theorem d_QM_calculate_37 : decode b_QM_calculate 37 = .ok (.iconst 1, 1) := by decide +kernel
theorem d_QM_calculate_38 : decode b_QM_calculate 38 = .ok (.goto 4, 3) := by decide +kernel
theorem d_QM_calculate_41 : decode b_QM_calculate 41 = .ok (.iconst 0, 1) := by decide +kernel
theorem d_QM_calculate_42 : decode b_QM_calculate 42 = .ok (.istore 7, 2) := by decide +kernel
theorem d_QM_calculate_44 : decode b_QM_calculate 44 = .ok (.iload_n 1, 1) := by decide +kernel
theorem d_QM_calculate_45 : decode b_QM_calculate 45 = .ok (.iconst 4, 1) := by decide +kernel
theorem d_QM_calculate_46 : decode b_QM_calculate 46 = .ok (.if_icmp .ge 87, 3) := by decide +kernel
theorem d_QM_calculate_49 : decode b_QM_calculate 49 = .ok (.iload 7, 2) := by decide +kernel
theorem d_QM_calculate_51 : decode b_QM_calculate 51 = .ok (.ifCond .ne 13, 3) := by decide +kernel
theorem d_QM_calculate_54 : decode b_QM_calculate 54 = .ok (.iload_n 1, 1) := by decide +kernel
theorem d_QM_calculate_55 : decode b_QM_calculate 55 = .ok (.lload_n 3, 1) := by decide +kernel
theorem d_QM_calculate_56 : decode b_QM_calculate 56 = .ok (.lload 5, 2) := by decide +kernel
theorem d_QM_calculate_58 : decode b_QM_calculate 58 = .ok (.invokestatic 167, 3) := by decide +kernel
theorem d_QM_calculate_61 : decode b_QM_calculate 61 = .ok (.ifCond .eq 7, 3) := by decide +kernel
theorem d_QM_calculate_64 : decode b_QM_calculate 64 = .ok (.iconst 1, 1) := by decide +kernel
theorem d_QM_calculate_65 : decode b_QM_calculate 65 = .ok (.goto 4, 3) := by decide +kernel
theorem d_QM_calculate_68 : decode b_QM_calculate 68 = .ok (.iconst 0, 1) := by decide +kernel
theorem d_QM_calculate_69 : decode b_QM_calculate 69 = .ok (.istore 7, 2) := by decide +kernel
theorem d_QM_calculate_71 : decode b_QM_calculate 71 = .ok (.iload 7, 2) := by decide +kernel
theorem d_QM_calculate_73 : decode b_QM_calculate 73 = .ok (.ifCond .eq 7, 3) := by decide +kernel
theorem d_QM_calculate_76 : decode b_QM_calculate 76 = .ok (.lconst 0, 1) := by decide +kernel
theorem d_QM_calculate_77 : decode b_QM_calculate 77 = .ok (.goto 42, 3) := by decide +kernel
theorem d_QM_calculate_80 : decode b_QM_calculate 80 = .ok (.iload_n 1, 1) := by decide +kernel
theorem d_QM_calculate_81 : decode b_QM_calculate 81 = .ok (.ifCond .ne 10, 3) := by decide +kernel
theorem d_QM_calculate_84 : decode b_QM_calculate 84 = .ok (.lload_n 3, 1) := by decide +kernel
theorem d_QM_calculate_85 : decode b_QM_calculate 85 = .ok (.lload 5, 2) := by decide +kernel
theorem d_QM_calculate_87 : decode b_QM_calculate 87 = .ok (.ladd, 1) := by decide +kernel
theorem d_QM_calculate_88 : decode b_QM_calculate 88 = .ok (.goto 31, 3) := by decide +kernel
theorem d_QM_calculate_91 : decode b_QM_calculate 91 = .ok (.iload_n 1, 1) := by decide +kernel
theorem d_QM_calculate_92 : decode b_QM_calculate 92 = .ok (.iconst 1, 1) := by decide +kernel
theorem d_QM_calculate_93 : decode b_QM_calculate 93 = .ok (.if_icmp .ne 10, 3) := by decide +kernel
theorem d_QM_calculate_96 : decode b_QM_calculate 96 = .ok (.lload_n 3, 1) := by decide +kernel
theorem d_QM_calculate_97 : decode b_QM_calculate 97 = .ok (.lload 5, 2) := by decide +kernel
theorem d_QM_calculate_99 : decode b_QM_calculate 99 = .ok (.lsub, 1) := by decide +kernel
theorem d_QM_calculate_100 : decode b_QM_calculate 100 = .ok (.goto 19, 3) := by decide +kernel
theorem d_QM_calculate_103 : decode b_QM_calculate 103 = .ok (.iload_n 1, 1) := by decide +kernel
theorem d_QM_calculate_104 : decode b_QM_calculate 104 = .ok (.iconst 2, 1) := by decide +kernel
theorem d_QM_calculate_105 : decode b_QM_calculate 105 = .ok (.if_icmp .ne 10, 3) := by decide +kernel
theorem d_QM_calculate_108 : decode b_QM_calculate 108 = .ok (.lload_n 3, 1) := by decide +kernel
theorem d_QM_calculate_109 : decode b_QM_calculate 109 = .ok (.lload 5, 2) := by decide +kernel
theorem d_QM_calculate_111 : decode b_QM_calculate 111 = .ok (.lmul, 1) := by decide +kernel
theorem d_QM_calculate_112 : decode b_QM_calculate 112 = .ok (.goto 7, 3) := by decide +kernel
theorem d_QM_calculate_115 : decode b_QM_calculate 115 = .ok (.lload_n 3, 1) := by decide +kernel
theorem d_QM_calculate_116 : decode b_QM_calculate 116 = .ok (.lload 5, 2) := by decide +kernel
theorem d_QM_calculate_118 : decode b_QM_calculate 118 = .ok (.ldiv, 1) := by decide +kernel
theorem d_QM_calculate_119 : decode b_QM_calculate 119 = .ok (.lstore 8, 2) := by decide +kernel
theorem d_QM_calculate_121 : decode b_QM_calculate 121 = .ok (.aload_n 0, 1) := by decide +kernel
theorem d_QM_calculate_122 : decode b_QM_calculate 122 = .ok (.iload_n 2, 1) := by decide +kernel
theorem d_QM_calculate_123 : decode b_QM_calculate 123 = .ok (.lload 8, 2) := by decide +kernel
theorem d_QM_calculate_125 : decode b_QM_calculate 125 = .ok (.iload 7, 2) := by decide +kernel
theorem d_QM_calculate_127 : decode b_QM_calculate 127 = .ok (.invokevirtual 171, 3) := by decide +kernel
theorem d_QM_calculate_130 : decode b_QM_calculate 130 = .ok (.goto 120, 3) := by decide +kernel
theorem d_QM_calculate_133 : decode b_QM_calculate 133 = .ok (.iload_n 1, 1) := by decide +kernel
theorem d_QM_calculate_134 : decode b_QM_calculate 134 = .ok (.bipush 6, 2) := by decide +kernel
theorem d_QM_calculate_136 : decode b_QM_calculate 136 = .ok (.if_icmp .ge 67, 3) := by decide +kernel
theorem d_QM_calculate_139 : decode b_QM_calculate 139 = .ok (.iload_n 1, 1) := by decide +kernel
theorem d_QM_calculate_140 : decode b_QM_calculate 140 = .ok (.iconst 4, 1) := by decide +kernel
theorem d_QM_calculate_141 : decode b_QM_calculate 141 = .ok (.if_icmp .ne 18, 3) := by decide +kernel
theorem d_QM_calculate_144 : decode b_QM_calculate 144 = .ok (.lload_n 3, 1) := by decide +kernel
theorem d_QM_calculate_145 : decode b_QM_calculate 145 = .ok (.lload 5, 2) := by decide +kernel
theorem d_QM_calculate_147 : decode b_QM_calculate 147 = .ok (.lcmp, 1) := by decide +kernel
theorem d_QM_calculate_148 : decode b_QM_calculate 148 = .ok (.ifCond .ne 7, 3) := by decide +kernel
theorem d_QM_calculate_151 : decode b_QM_calculate 151 = .ok (.iconst 1, 1) := by decide +kernel
theorem d_QM_calculate_152 : decode b_QM_calculate 152 = .ok (.goto 19, 3) := by decide +kernel
theorem d_QM_calculate_155 : decode b_QM_calculate 155 = .ok (.iconst 0, 1) := by decide +kernel
theorem d_QM_calculate_156 : decode b_QM_calculate 156 = .ok (.goto 15, 3) := by decide +kernel
theorem d_QM_calculate_159 : decode b_QM_calculate 159 = .ok (.lload_n 3, 1) := by decide +kernel
theorem d_QM_calculate_160 : decode b_QM_calculate 160 = .ok (.lload 5, 2) := by decide +kernel
theorem d_QM_calculate_162 : decode b_QM_calculate 162 = .ok (.lcmp, 1) := by decide +kernel
theorem d_QM_calculate_163 : decode b_QM_calculate 163 = .ok (.ifCond .ge 7, 3) := by decide +kernel
theorem d_QM_calculate_166 : decode b_QM_calculate 166 = .ok (.iconst 1, 1) := by decide +kernel
theorem d_QM_calculate_167 : decode b_QM_calculate 167 = .ok (.goto 4, 3) := by decide +kernel
theorem d_QM_calculate_170 : decode b_QM_calculate 170 = .ok (.iconst 0, 1) := by decide +kernel
theorem d_QM_calculate_171 : decode b_QM_calculate 171 = .ok (.istore 8, 2) := by decide +kernel
theorem d_QM_calculate_173 : decode b_QM_calculate 173 = .ok (.aload_n 0, 1) := by decide +kernel
theorem d_QM_calculate_174 : decode b_QM_calculate 174 = .ok (.iload_n 2, 1) := by decide +kernel
theorem d_QM_calculate_175 : decode b_QM_calculate 175 = .ok (.iload 7, 2) := by decide +kernel
theorem d_QM_calculate_177 : decode b_QM_calculate 177 = .ok (.ifCond .eq 7, 3) := by decide +kernel
theorem d_QM_calculate_180 : decode b_QM_calculate 180 = .ok (.lconst 1, 1) := by decide +kernel
theorem d_QM_calculate_181 : decode b_QM_calculate 181 = .ok (.goto 15, 3) := by decide +kernel
theorem d_QM_calculate_184 : decode b_QM_calculate 184 = .ok (.iload 8, 2) := by decide +kernel
theorem d_QM_calculate_186 : decode b_QM_calculate 186 = .ok (.ifCond .eq 9, 3) := by decide +kernel
theorem d_QM_calculate_189 : decode b_QM_calculate 189 = .ok (.ldc2_w 175, 3) := by decide +kernel
theorem d_QM_calculate_192 : decode b_QM_calculate 192 = .ok (.goto 4, 3) := by decide +kernel
theorem d_QM_calculate_195 : decode b_QM_calculate 195 = .ok (.lconst 0, 1) := by decide +kernel
theorem d_QM_calculate_196 : decode b_QM_calculate 196 = .ok (.iconst 0, 1) := by decide +kernel
theorem d_QM_calculate_197 : decode b_QM_calculate 197 = .ok (.invokevirtual 171, 3) := by decide +kernel
theorem d_QM_calculate_200 : decode b_QM_calculate 200 = .ok (.goto 50, 3) := by decide +kernel
theorem d_QM_calculate_203 : decode b_QM_calculate 203 = .ok (.iload_n 1, 1) := by decide +kernel
theorem d_QM_calculate_204 : decode b_QM_calculate 204 = .ok (.bipush 6, 2) := by decide +kernel
theorem d_QM_calculate_206 : decode b_QM_calculate 206 = .ok (.if_icmp .ne 25, 3) := by decide +kernel
theorem d_QM_calculate_209 : decode b_QM_calculate 209 = .ok (.aload_n 0, 1) := by decide +kernel
theorem d_QM_calculate_210 : decode b_QM_calculate 210 = .ok (.iload_n 2, 1) := by decide +kernel
theorem d_QM_calculate_211 : decode b_QM_calculate 211 = .ok (.lload_n 3, 1) := by decide +kernel
theorem d_QM_calculate_212 : decode b_QM_calculate 212 = .ok (.lload 5, 2) := by decide +kernel
theorem d_QM_calculate_214 : decode b_QM_calculate 214 = .ok (.lcmp, 1) := by decide +kernel
theorem d_QM_calculate_215 : decode b_QM_calculate 215 = .ok (.ifCond .ge 7, 3) := by decide +kernel
theorem d_QM_calculate_218 : decode b_QM_calculate 218 = .ok (.lload_n 3, 1) := by decide +kernel
theorem d_QM_calculate_219 : decode b_QM_calculate 219 = .ok (.goto 5, 3) := by decide +kernel
theorem d_QM_calculate_222 : decode b_QM_calculate 222 = .ok (.lload 5, 2) := by decide +kernel
theorem d_QM_calculate_224 : decode b_QM_calculate 224 = .ok (.iconst 0, 1) := by decide +kernel
theorem d_QM_calculate_225 : decode b_QM_calculate 225 = .ok (.invokevirtual 171, 3) := by decide +kernel
theorem d_QM_calculate_228 : decode b_QM_calculate 228 = .ok (.goto 22, 3) := by decide +kernel
theorem d_QM_calculate_231 : decode b_QM_calculate 231 = .ok (.aload_n 0, 1) := by decide +kernel
theorem d_QM_calculate_232 : decode b_QM_calculate 232 = .ok (.iload_n 2, 1) := by decide +kernel
theorem d_QM_calculate_233 : decode b_QM_calculate 233 = .ok (.lload_n 3, 1) := by decide +kernel
theorem d_QM_calculate_234 : decode b_QM_calculate 234 = .ok (.lload 5, 2) := by decide +kernel
theorem d_QM_calculate_236 : decode b_QM_calculate 236 = .ok (.lcmp, 1) := by decide +kernel
theorem d_QM_calculate_237 : decode b_QM_calculate 237 = .ok (.ifCond .le 7, 3) := by decide +kernel
theorem d_QM_calculate_240 : decode b_QM_calculate 240 = .ok (.lload_n 3, 1) := by decide +kernel
theorem d_QM_calculate_241 : decode b_QM_calculate 241 = .ok (.goto 5, 3) := by decide +kernel
theorem d_QM_calculate_244 : decode b_QM_calculate 244 = .ok (.lload 5, 2) := by decide +kernel
theorem d_QM_calculate_246 : decode b_QM_calculate 246 = .ok (.iconst 0, 1) := by decide +kernel
theorem d_QM_calculate_247 : decode b_QM_calculate 247 = .ok (.invokevirtual 171, 3) := by decide +kernel
theorem d_QM_calculate_250 : decode b_QM_calculate 250 = .ok (.return_, 1) := by decide +kernel
theorem d_QM_evaluate_0 : decode b_QM_evaluate 0 = .ok (.iconst 0, 1) := by decide +kernel
theorem d_QM_evaluate_1 : decode b_QM_evaluate 1 = .ok (.istore_n 2, 1) := by decide +kernel
theorem d_QM_evaluate_2 : decode b_QM_evaluate 2 = .ok (.bipush 24, 2) := by decide +kernel
theorem d_QM_evaluate_4 : decode b_QM_evaluate 4 = .ok (.iload_n 1, 1) := by decide +kernel
theorem d_QM_evaluate_5 : decode b_QM_evaluate 5 = .ok (.imul, 1) := by decide +kernel
theorem d_QM_evaluate_6 : decode b_QM_evaluate 6 = .ok (.istore_n 3, 1) := by decide +kernel
theorem d_QM_evaluate_7 : decode b_QM_evaluate 7 = .ok (.iload_n 3, 1) := by decide +kernel
theorem d_QM_evaluate_8 : decode b_QM_evaluate 8 = .ok (.bipush 24, 2) := by decide +kernel
theorem d_QM_evaluate_10 : decode b_QM_evaluate 10 = .ok (.iload_n 1, 1) := by decide +kernel
theorem d_QM_evaluate_11 : decode b_QM_evaluate 11 = .ok (.imul, 1) := by decide +kernel
theorem d_QM_evaluate_12 : decode b_QM_evaluate 12 = .ok (.aload_n 0, 1) := by decide +kernel
theorem d_QM_evaluate_13 : decode b_QM_evaluate 13 = .ok (.getfield 27, 3) := by decide +kernel
theorem d_QM_evaluate_16 : decode b_QM_evaluate 16 = .ok (.iload_n 1, 1) := by decide +kernel
theorem d_QM_evaluate_17 : decode b_QM_evaluate 17 = .ok (.iaload, 1) := by decide +kernel
theorem d_QM_evaluate_18 : decode b_QM_evaluate 18 = .ok (.iadd, 1) := by decide +kernel
theorem d_QM_evaluate_19 : decode b_QM_evaluate 19 = .ok (.if_icmp .ge 158, 3) := by decide +kernel
theorem d_QM_evaluate_22 : decode b_QM_evaluate 22 = .ok (.aload_n 0, 1) := by decide +kernel
theorem d_QM_evaluate_23 : decode b_QM_evaluate 23 = .ok (.getfield 21, 3) := by decide +kernel
theorem d_QM_evaluate_26 : decode b_QM_evaluate 26 = .ok (.iload_n 3, 1) := by decide +kernel
theorem d_QM_evaluate_27 : decode b_QM_evaluate 27 = .ok (.iaload, 1) := by decide +kernel
theorem d_QM_evaluate_28 : decode b_QM_evaluate 28 = .ok (.istore 4, 2) := by decide +kernel
theorem d_QM_evaluate_30 : decode b_QM_evaluate 30 = .ok (.iload 4, 2) := by decide +kernel
theorem d_QM_evaluate_32 : decode b_QM_evaluate 32 = .ok (.bipush 30, 2) := by decide +kernel
theorem d_QM_evaluate_34 : decode b_QM_evaluate 34 = .ok (.if_icmp .lt 21, 3) := by decide +kernel
theorem d_QM_evaluate_37 : decode b_QM_evaluate 37 = .ok (.aload_n 0, 1) := by decide +kernel
theorem d_QM_evaluate_38 : decode b_QM_evaluate 38 = .ok (.iload_n 2, 1) := by decide +kernel
theorem d_QM_evaluate_39 : decode b_QM_evaluate 39 = .ok (.aload_n 0, 1) := by decide +kernel
theorem d_QM_evaluate_40 : decode b_QM_evaluate 40 = .ok (.getfield 24, 3) := by decide +kernel
theorem d_QM_evaluate_43 : decode b_QM_evaluate 43 = .ok (.iload_n 3, 1) := by decide +kernel
theorem d_QM_evaluate_44 : decode b_QM_evaluate 44 = .ok (.laload, 1) := by decide +kernel
theorem d_QM_evaluate_45 : decode b_QM_evaluate 45 = .ok (.iconst 0, 1) := by decide +kernel
theorem d_QM_evaluate_46 : decode b_QM_evaluate 46 = .ok (.invokevirtual 171, 3) := by decide +kernel
theorem d_QM_evaluate_49 : decode b_QM_evaluate 49 = .ok (.iinc 2 1, 3) := by decide +kernel
theorem d_QM_evaluate_52 : decode b_QM_evaluate 52 = .ok (.goto 119, 3) := by decide +kernel
theorem d_QM_evaluate_55 : decode b_QM_evaluate 55 = .ok (.iload 4, 2) := by decide +kernel
theorem d_QM_evaluate_57 : decode b_QM_evaluate 57 = .ok (.bipush 20, 2) := by decide +kernel
theorem d_QM_evaluate_59 : decode b_QM_evaluate 59 = .ok (.if_icmp .lt 34, 3) := by decide +kernel
theorem d_QM_evaluate_62 : decode b_QM_evaluate 62 = .ok (.aload_n 0, 1) := by decide +kernel
theorem d_QM_evaluate_63 : decode b_QM_evaluate 63 = .ok (.iload_n 2, 1) := by decide +kernel
theorem d_QM_evaluate_64 : decode b_QM_evaluate 64 = .ok (.aload_n 0, 1) := by decide +kernel
theorem d_QM_evaluate_65 : decode b_QM_evaluate 65 = .ok (.getfield 42, 3) := by decide +kernel
theorem d_QM_evaluate_68 : decode b_QM_evaluate 68 = .ok (.iload 4, 2) := by decide +kernel
theorem d_QM_evaluate_70 : decode b_QM_evaluate 70 = .ok (.bipush 20, 2) := by decide +kernel
theorem d_QM_evaluate_72 : decode b_QM_evaluate 72 = .ok (.isub, 1) := by decide +kernel
theorem d_QM_evaluate_73 : decode b_QM_evaluate 73 = .ok (.laload, 1) := by decide +kernel
theorem d_QM_evaluate_74 : decode b_QM_evaluate 74 = .ok (.aload_n 0, 1) := by decide +kernel
theorem d_QM_evaluate_75 : decode b_QM_evaluate 75 = .ok (.getfield 45, 3) := by decide +kernel
theorem d_QM_evaluate_78 : decode b_QM_evaluate 78 = .ok (.iload 4, 2) := by decide +kernel
theorem d_QM_evaluate_80 : decode b_QM_evaluate 80 = .ok (.bipush 20, 2) := by decide +kernel
theorem d_QM_evaluate_82 : decode b_QM_evaluate 82 = .ok (.isub, 1) := by decide +kernel
theorem d_QM_evaluate_83 : decode b_QM_evaluate 83 = .ok (.baload, 1) := by decide +kernel
theorem d_QM_evaluate_84 : decode b_QM_evaluate 84 = .ok (.invokevirtual 171, 3) := by decide +kernel
theorem d_QM_evaluate_87 : decode b_QM_evaluate 87 = .ok (.iinc 2 1, 3) := by decide +kernel
theorem d_QM_evaluate_90 : decode b_QM_evaluate 90 = .ok (.goto 81, 3) := by decide +kernel
theorem d_QM_evaluate_93 : decode b_QM_evaluate 93 = .ok (.iload 4, 2) := by decide +kernel
theorem d_QM_evaluate_95 : decode b_QM_evaluate 95 = .ok (.bipush 8, 2) := by decide +kernel
theorem d_QM_evaluate_97 : decode b_QM_evaluate 97 = .ok (.if_icmp .ne 26, 3) := by decide +kernel
theorem d_QM_evaluate_100 : decode b_QM_evaluate 100 = .ok (.aload_n 0, 1) := by decide +kernel
theorem d_QM_evaluate_101 : decode b_QM_evaluate 101 = .ok (.iload_n 2, 1) := by decide +kernel
theorem d_QM_evaluate_102 : decode b_QM_evaluate 102 = .ok (.iconst 1, 1) := by decide +kernel
theorem d_QM_evaluate_103 : decode b_QM_evaluate 103 = .ok (.isub, 1) := by decide +kernel
theorem d_QM_evaluate_104 : decode b_QM_evaluate 104 = .ok (.ldc2_w 175, 3) := by decide +kernel
theorem d_QM_evaluate_107 : decode b_QM_evaluate 107 = .ok (.aload_n 0, 1) := by decide +kernel
theorem d_QM_evaluate_108 : decode b_QM_evaluate 108 = .ok (.getfield 36, 3) := by decide +kernel
theorem d_QM_evaluate_111 : decode b_QM_evaluate 111 = .ok (.iload_n 2, 1) := by decide +kernel
theorem d_QM_evaluate_112 : decode b_QM_evaluate 112 = .ok (.iconst 1, 1) := by decide +kernel
theorem d_QM_evaluate_113 : decode b_QM_evaluate 113 = .ok (.isub, 1) := by decide +kernel
theorem d_QM_evaluate_114 : decode b_QM_evaluate 114 = .ok (.laload, 1) := by decide +kernel
theorem d_QM_evaluate_115 : decode b_QM_evaluate 115 = .ok (.lsub, 1) := by decide +kernel
theorem d_QM_evaluate_116 : decode b_QM_evaluate 116 = .ok (.iconst 0, 1) := by decide +kernel
theorem d_QM_evaluate_117 : decode b_QM_evaluate 117 = .ok (.invokevirtual 171, 3) := by decide +kernel
theorem d_QM_evaluate_120 : decode b_QM_evaluate 120 = .ok (.goto 51, 3) := by decide +kernel
theorem d_QM_evaluate_123 : decode b_QM_evaluate 123 = .ok (.iload 4, 2) := by decide +kernel
theorem d_QM_evaluate_125 : decode b_QM_evaluate 125 = .ok (.bipush 9, 2) := by decide +kernel
theorem d_QM_evaluate_127 : decode b_QM_evaluate 127 = .ok (.if_icmp .ne 32, 3) := by decide +kernel
theorem d_QM_evaluate_130 : decode b_QM_evaluate 130 = .ok (.aload_n 0, 1) := by decide +kernel
theorem d_QM_evaluate_131 : decode b_QM_evaluate 131 = .ok (.iload_n 2, 1) := by decide +kernel
theorem d_QM_evaluate_132 : decode b_QM_evaluate 132 = .ok (.iconst 1, 1) := by decide +kernel
theorem d_QM_evaluate_133 : decode b_QM_evaluate 133 = .ok (.isub, 1) := by decide +kernel
theorem d_QM_evaluate_134 : decode b_QM_evaluate 134 = .ok (.aload_n 0, 1) := by decide +kernel
theorem d_QM_evaluate_135 : decode b_QM_evaluate 135 = .ok (.getfield 39, 3) := by decide +kernel
theorem d_QM_evaluate_138 : decode b_QM_evaluate 138 = .ok (.iload_n 2, 1) := by decide +kernel
theorem d_QM_evaluate_139 : decode b_QM_evaluate 139 = .ok (.iconst 1, 1) := by decide +kernel
theorem d_QM_evaluate_140 : decode b_QM_evaluate 140 = .ok (.isub, 1) := by decide +kernel
theorem d_QM_evaluate_141 : decode b_QM_evaluate 141 = .ok (.baload, 1) := by decide +kernel
theorem d_QM_evaluate_142 : decode b_QM_evaluate 142 = .ok (.ifCond .eq 9, 3) := by decide +kernel
theorem d_QM_evaluate_145 : decode b_QM_evaluate 145 = .ok (.ldc2_w 175, 3) := by decide +kernel
theorem d_QM_evaluate_148 : decode b_QM_evaluate 148 = .ok (.goto 4, 3) := by decide +kernel
theorem d_QM_evaluate_151 : decode b_QM_evaluate 151 = .ok (.lconst 0, 1) := by decide +kernel
theorem d_QM_evaluate_152 : decode b_QM_evaluate 152 = .ok (.iconst 0, 1) := by decide +kernel
theorem d_QM_evaluate_153 : decode b_QM_evaluate 153 = .ok (.invokevirtual 171, 3) := by decide +kernel
theorem d_QM_evaluate_156 : decode b_QM_evaluate 156 = .ok (.goto 15, 3) := by decide +kernel
theorem d_QM_evaluate_159 : decode b_QM_evaluate 159 = .ok (.iinc 2 (-1), 3) := by decide +kernel
theorem d_QM_evaluate_162 : decode b_QM_evaluate 162 = .ok (.aload_n 0, 1) := by decide +kernel
theorem d_QM_evaluate_163 : decode b_QM_evaluate 163 = .ok (.iload 4, 2) := by decide +kernel
theorem d_QM_evaluate_165 : decode b_QM_evaluate 165 = .ok (.iload_n 2, 1) := by decide +kernel
theorem d_QM_evaluate_166 : decode b_QM_evaluate 166 = .ok (.iconst 1, 1) := by decide +kernel
theorem d_QM_evaluate_167 : decode b_QM_evaluate 167 = .ok (.isub, 1) := by decide +kernel
theorem d_QM_evaluate_168 : decode b_QM_evaluate 168 = .ok (.invokevirtual 177, 3) := by decide +kernel
theorem d_QM_evaluate_171 : decode b_QM_evaluate 171 = .ok (.iinc 3 1, 3) := by decide +kernel
theorem d_QM_evaluate_174 : decode b_QM_evaluate 174 = .ok (.goto (-167), 3) := by decide +kernel
theorem d_QM_evaluate_177 : decode b_QM_evaluate 177 = .ok (.return_, 1) := by decide +kernel
theorem d_QM_names_0 : decode b_QM_names 0 = .ok (.iconst 0, 1) := by decide +kernel
theorem d_QM_names_1 : decode b_QM_names 1 = .ok (.istore_n 3, 1) := by decide +kernel
theorem d_QM_names_2 : decode b_QM_names 2 = .ok (.bipush 24, 2) := by decide +kernel
theorem d_QM_names_4 : decode b_QM_names 4 = .ok (.bipush 8, 2) := by decide +kernel
theorem d_QM_names_6 : decode b_QM_names 6 = .ok (.iload_n 1, 1) := by decide +kernel
theorem d_QM_names_7 : decode b_QM_names 7 = .ok (.iadd, 1) := by decide +kernel
theorem d_QM_names_8 : decode b_QM_names 8 = .ok (.imul, 1) := by decide +kernel
theorem d_QM_names_9 : decode b_QM_names 9 = .ok (.istore 4, 2) := by decide +kernel
theorem d_QM_names_11 : decode b_QM_names 11 = .ok (.iload 4, 2) := by decide +kernel
theorem d_QM_names_13 : decode b_QM_names 13 = .ok (.bipush 24, 2) := by decide +kernel
theorem d_QM_names_15 : decode b_QM_names 15 = .ok (.bipush 8, 2) := by decide +kernel
theorem d_QM_names_17 : decode b_QM_names 17 = .ok (.iload_n 1, 1) := by decide +kernel
theorem d_QM_names_18 : decode b_QM_names 18 = .ok (.iadd, 1) := by decide +kernel
theorem d_QM_names_19 : decode b_QM_names 19 = .ok (.imul, 1) := by decide +kernel
theorem d_QM_names_20 : decode b_QM_names 20 = .ok (.aload_n 0, 1) := by decide +kernel
theorem d_QM_names_21 : decode b_QM_names 21 = .ok (.getfield 27, 3) := by decide +kernel
theorem d_QM_names_24 : decode b_QM_names 24 = .ok (.bipush 8, 2) := by decide +kernel
theorem d_QM_names_26 : decode b_QM_names 26 = .ok (.iload_n 1, 1) := by decide +kernel
theorem d_QM_names_27 : decode b_QM_names 27 = .ok (.iadd, 1) := by decide +kernel
theorem d_QM_names_28 : decode b_QM_names 28 = .ok (.iaload, 1) := by decide +kernel
theorem d_QM_names_29 : decode b_QM_names 29 = .ok (.iadd, 1) := by decide +kernel
theorem d_QM_names_30 : decode b_QM_names 30 = .ok (.if_icmp .ge 49, 3) := by decide +kernel
theorem d_QM_names_33 : decode b_QM_names 33 = .ok (.aload_n 0, 1) := by decide +kernel
theorem d_QM_names_34 : decode b_QM_names 34 = .ok (.getfield 21, 3) := by decide +kernel
theorem d_QM_names_37 : decode b_QM_names 37 = .ok (.iload 4, 2) := by decide +kernel
theorem d_QM_names_39 : decode b_QM_names 39 = .ok (.iaload, 1) := by decide +kernel
theorem d_QM_names_40 : decode b_QM_names 40 = .ok (.bipush 20, 2) := by decide +kernel
theorem d_QM_names_42 : decode b_QM_names 42 = .ok (.isub, 1) := by decide +kernel
theorem d_QM_names_43 : decode b_QM_names 43 = .ok (.istore 5, 2) := by decide +kernel
theorem d_QM_names_45 : decode b_QM_names 45 = .ok (.iload_n 3, 1) := by decide +kernel
theorem d_QM_names_46 : decode b_QM_names 46 = .ok (.ifCond .ne 21, 3) := by decide +kernel
theorem d_QM_names_49 : decode b_QM_names 49 = .ok (.iload 5, 2) := by decide +kernel
theorem d_QM_names_51 : decode b_QM_names 51 = .ok (.iconst 0, 1) := by decide +kernel
theorem d_QM_names_52 : decode b_QM_names 52 = .ok (.iconst 3, 1) := by decide +kernel
theorem d_QM_names_53 : decode b_QM_names 53 = .ok (.invokestatic 103, 3) := by decide +kernel
theorem d_QM_names_56 : decode b_QM_names 56 = .ok (.ifCond .eq 15, 3) := by decide +kernel
theorem d_QM_names_59 : decode b_QM_names 59 = .ok (.iload 5, 2) := by decide +kernel
theorem d_QM_names_61 : decode b_QM_names 61 = .ok (.iconst 2, 1) := by decide +kernel
theorem d_QM_names_62 : decode b_QM_names 62 = .ok (.idiv, 1) := by decide +kernel
theorem d_QM_names_63 : decode b_QM_names 63 = .ok (.iload_n 2, 1) := by decide +kernel
theorem d_QM_names_64 : decode b_QM_names 64 = .ok (.if_icmp .ne 7, 3) := by decide +kernel
theorem d_QM_names_67 : decode b_QM_names 67 = .ok (.iconst 1, 1) := by decide +kernel
theorem d_QM_names_68 : decode b_QM_names 68 = .ok (.goto 4, 3) := by decide +kernel
theorem d_QM_names_71 : decode b_QM_names 71 = .ok (.iconst 0, 1) := by decide +kernel
theorem d_QM_names_72 : decode b_QM_names 72 = .ok (.istore_n 3, 1) := by decide +kernel
theorem d_QM_names_73 : decode b_QM_names 73 = .ok (.iinc 4 1, 3) := by decide +kernel
theorem d_QM_names_76 : decode b_QM_names 76 = .ok (.goto (-65), 3) := by decide +kernel
theorem d_QM_names_79 : decode b_QM_names 79 = .ok (.iload_n 3, 1) := by decide +kernel
theorem d_QM_names_80 : decode b_QM_names 80 = .ok (.ireturn, 1) := by decide +kernel
theorem d_QM_isTrue_0 : decode b_QM_isTrue 0 = .ok (.aload_n 0, 1) := by decide +kernel
theorem d_QM_isTrue_1 : decode b_QM_isTrue 1 = .ok (.bipush 8, 2) := by decide +kernel
theorem d_QM_isTrue_3 : decode b_QM_isTrue 3 = .ok (.iload_n 1, 1) := by decide +kernel
theorem d_QM_isTrue_4 : decode b_QM_isTrue 4 = .ok (.iadd, 1) := by decide +kernel
theorem d_QM_isTrue_5 : decode b_QM_isTrue 5 = .ok (.invokevirtual 181, 3) := by decide +kernel
theorem d_QM_isTrue_8 : decode b_QM_isTrue 8 = .ok (.aload_n 0, 1) := by decide +kernel
theorem d_QM_isTrue_9 : decode b_QM_isTrue 9 = .ok (.getfield 36, 3) := by decide +kernel
theorem d_QM_isTrue_12 : decode b_QM_isTrue 12 = .ok (.iconst 0, 1) := by decide +kernel
theorem d_QM_isTrue_13 : decode b_QM_isTrue 13 = .ok (.laload, 1) := by decide +kernel
theorem d_QM_isTrue_14 : decode b_QM_isTrue 14 = .ok (.ldc2_w 175, 3) := by decide +kernel
theorem d_QM_isTrue_17 : decode b_QM_isTrue 17 = .ok (.lcmp, 1) := by decide +kernel
theorem d_QM_isTrue_18 : decode b_QM_isTrue 18 = .ok (.ifCond .ne 7, 3) := by decide +kernel
theorem d_QM_isTrue_21 : decode b_QM_isTrue 21 = .ok (.iconst 1, 1) := by decide +kernel
theorem d_QM_isTrue_22 : decode b_QM_isTrue 22 = .ok (.goto 4, 3) := by decide +kernel
theorem d_QM_isTrue_25 : decode b_QM_isTrue 25 = .ok (.iconst 0, 1) := by decide +kernel
theorem d_QM_isTrue_26 : decode b_QM_isTrue 26 = .ok (.ireturn, 1) := by decide +kernel
theorem d_QM_passesAll_0 : decode b_QM_passesAll 0 = .ok (.iconst 1, 1) := by decide +kernel
theorem d_QM_passesAll_1 : decode b_QM_passesAll 1 = .ok (.istore_n 1, 1) := by decide +kernel
theorem d_QM_passesAll_2 : decode b_QM_passesAll 2 = .ok (.iconst 0, 1) := by decide +kernel
theorem d_QM_passesAll_3 : decode b_QM_passesAll 3 = .ok (.istore_n 2, 1) := by decide +kernel
theorem d_QM_passesAll_4 : decode b_QM_passesAll 4 = .ok (.iload_n 2, 1) := by decide +kernel
theorem d_QM_passesAll_5 : decode b_QM_passesAll 5 = .ok (.aload_n 0, 1) := by decide +kernel
theorem d_QM_passesAll_6 : decode b_QM_passesAll 6 = .ok (.getfield 141, 3) := by decide +kernel
theorem d_QM_passesAll_9 : decode b_QM_passesAll 9 = .ok (.if_icmp .ge 19, 3) := by decide +kernel
theorem d_QM_passesAll_12 : decode b_QM_passesAll 12 = .ok (.iload_n 1, 1) := by decide +kernel
theorem d_QM_passesAll_13 : decode b_QM_passesAll 13 = .ok (.ifCond .eq 15, 3) := by decide +kernel
theorem d_QM_passesAll_16 : decode b_QM_passesAll 16 = .ok (.aload_n 0, 1) := by decide +kernel
theorem d_QM_passesAll_17 : decode b_QM_passesAll 17 = .ok (.iload_n 2, 1) := by decide +kernel
theorem d_QM_passesAll_18 : decode b_QM_passesAll 18 = .ok (.invokevirtual 185, 3) := by decide +kernel
theorem d_QM_passesAll_21 : decode b_QM_passesAll 21 = .ok (.istore_n 1, 1) := by decide +kernel
theorem d_QM_passesAll_22 : decode b_QM_passesAll 22 = .ok (.iinc 2 1, 3) := by decide +kernel
theorem d_QM_passesAll_25 : decode b_QM_passesAll 25 = .ok (.goto (-21), 3) := by decide +kernel
theorem d_QM_passesAll_28 : decode b_QM_passesAll 28 = .ok (.iload_n 1, 1) := by decide +kernel
theorem d_QM_passesAll_29 : decode b_QM_passesAll 29 = .ok (.ireturn, 1) := by decide +kernel
theorem d_QM_bring_0 : decode b_QM_bring 0 = .ok (.bipush 24, 2) := by decide +kernel
theorem d_QM_bring_2 : decode b_QM_bring 2 = .ok (.iload_n 1, 1) := by decide +kernel
theorem d_QM_bring_3 : decode b_QM_bring 3 = .ok (.ifCond .ne 10, 3) := by decide +kernel
theorem d_QM_bring_6 : decode b_QM_bring 6 = .ok (.aload_n 0, 1) := by decide +kernel
theorem d_QM_bring_7 : decode b_QM_bring 7 = .ok (.getfield 114, 3) := by decide +kernel
theorem d_QM_bring_10 : decode b_QM_bring 10 = .ok (.goto 7, 3) := by decide +kernel
theorem d_QM_bring_13 : decode b_QM_bring 13 = .ok (.aload_n 0, 1) := by decide +kernel
theorem d_QM_bring_14 : decode b_QM_bring 14 = .ok (.getfield 117, 3) := by decide +kernel
theorem d_QM_bring_17 : decode b_QM_bring 17 = .ok (.imul, 1) := by decide +kernel
theorem d_QM_bring_18 : decode b_QM_bring 18 = .ok (.iconst 2, 1) := by decide +kernel
theorem d_QM_bring_19 : decode b_QM_bring 19 = .ok (.iload_n 2, 1) := by decide +kernel
theorem d_QM_bring_20 : decode b_QM_bring 20 = .ok (.imul, 1) := by decide +kernel
theorem d_QM_bring_21 : decode b_QM_bring 21 = .ok (.iadd, 1) := by decide +kernel
theorem d_QM_bring_22 : decode b_QM_bring 22 = .ok (.istore_n 3, 1) := by decide +kernel
theorem d_QM_bring_23 : decode b_QM_bring 23 = .ok (.iconst 0, 1) := by decide +kernel
theorem d_QM_bring_24 : decode b_QM_bring 24 = .ok (.istore 4, 2) := by decide +kernel
theorem d_QM_bring_26 : decode b_QM_bring 26 = .ok (.iload 4, 2) := by decide +kernel
theorem d_QM_bring_28 : decode b_QM_bring 28 = .ok (.iconst 2, 1) := by decide +kernel
theorem d_QM_bring_29 : decode b_QM_bring 29 = .ok (.if_icmp .ge 69, 3) := by decide +kernel
theorem d_QM_bring_32 : decode b_QM_bring 32 = .ok (.aload_n 0, 1) := by decide +kernel
theorem d_QM_bring_33 : decode b_QM_bring 33 = .ok (.getfield 42, 3) := by decide +kernel
theorem d_QM_bring_36 : decode b_QM_bring 36 = .ok (.iconst 2, 1) := by decide +kernel
theorem d_QM_bring_37 : decode b_QM_bring 37 = .ok (.iload_n 1, 1) := by decide +kernel
theorem d_QM_bring_38 : decode b_QM_bring 38 = .ok (.imul, 1) := by decide +kernel
theorem d_QM_bring_39 : decode b_QM_bring 39 = .ok (.iload 4, 2) := by decide +kernel
theorem d_QM_bring_41 : decode b_QM_bring 41 = .ok (.iadd, 1) := by decide +kernel
theorem d_QM_bring_42 : decode b_QM_bring 42 = .ok (.iload_n 2, 1) := by decide +kernel
theorem d_QM_bring_43 : decode b_QM_bring 43 = .ok (.ifCond .ge 7, 3) := by decide +kernel
theorem d_QM_bring_46 : decode b_QM_bring 46 = .ok (.lconst 0, 1) := by decide +kernel
theorem d_QM_bring_47 : decode b_QM_bring 47 = .ok (.goto 12, 3) := by decide +kernel
theorem d_QM_bring_50 : decode b_QM_bring 50 = .ok (.aload_n 0, 1) := by decide +kernel
theorem d_QM_bring_51 : decode b_QM_bring 51 = .ok (.getfield 13, 3) := by decide +kernel
theorem d_QM_bring_54 : decode b_QM_bring 54 = .ok (.iload_n 3, 1) := by decide +kernel
theorem d_QM_bring_55 : decode b_QM_bring 55 = .ok (.iload 4, 2) := by decide +kernel
theorem d_QM_bring_57 : decode b_QM_bring 57 = .ok (.iadd, 1) := by decide +kernel
theorem d_QM_bring_58 : decode b_QM_bring 58 = .ok (.laload, 1) := by decide +kernel
theorem d_QM_bring_59 : decode b_QM_bring 59 = .ok (.lastore, 1) := by decide +kernel
theorem d_QM_bring_60 : decode b_QM_bring 60 = .ok (.aload_n 0, 1) := by decide +kernel
theorem d_QM_bring_61 : decode b_QM_bring 61 = .ok (.getfield 45, 3) := by decide +kernel
theorem d_QM_bring_64 : decode b_QM_bring 64 = .ok (.iconst 2, 1) := by decide +kernel
theorem d_QM_bring_65 : decode b_QM_bring 65 = .ok (.iload_n 1, 1) := by decide +kernel
theorem d_QM_bring_66 : decode b_QM_bring 66 = .ok (.imul, 1) := by decide +kernel
theorem d_QM_bring_67 : decode b_QM_bring 67 = .ok (.iload 4, 2) := by decide +kernel
theorem d_QM_bring_69 : decode b_QM_bring 69 = .ok (.iadd, 1) := by decide +kernel
theorem d_QM_bring_70 : decode b_QM_bring 70 = .ok (.iload_n 2, 1) := by decide +kernel
theorem d_QM_bring_71 : decode b_QM_bring 71 = .ok (.ifCond .lt 15, 3) := by decide +kernel
theorem d_QM_bring_74 : decode b_QM_bring 74 = .ok (.aload_n 0, 1) := by decide +kernel
theorem d_QM_bring_75 : decode b_QM_bring 75 = .ok (.getfield 17, 3) := by decide +kernel
theorem d_QM_bring_78 : decode b_QM_bring 78 = .ok (.iload_n 3, 1) := by decide +kernel
theorem d_QM_bring_79 : decode b_QM_bring 79 = .ok (.iload 4, 2) := by decide +kernel
theorem d_QM_bring_81 : decode b_QM_bring 81 = .ok (.iadd, 1) := by decide +kernel
theorem d_QM_bring_82 : decode b_QM_bring 82 = .ok (.baload, 1) := by decide +kernel
theorem d_QM_bring_83 : decode b_QM_bring 83 = .ok (.ifCond .eq 7, 3) := by decide +kernel
theorem d_QM_bring_86 : decode b_QM_bring 86 = .ok (.iconst 1, 1) := by decide +kernel
theorem d_QM_bring_87 : decode b_QM_bring 87 = .ok (.goto 4, 3) := by decide +kernel
theorem d_QM_bring_90 : decode b_QM_bring 90 = .ok (.iconst 0, 1) := by decide +kernel
theorem d_QM_bring_91 : decode b_QM_bring 91 = .ok (.bastore, 1) := by decide +kernel
theorem d_QM_bring_92 : decode b_QM_bring 92 = .ok (.iinc 4 1, 3) := by decide +kernel
theorem d_QM_bring_95 : decode b_QM_bring 95 = .ok (.goto (-69), 3) := by decide +kernel
theorem d_QM_bring_98 : decode b_QM_bring 98 = .ok (.return_, 1) := by decide +kernel
theorem d_QM_matches_0 : decode b_QM_matches 0 = .ok (.aload_n 0, 1) := by decide +kernel
theorem d_QM_matches_1 : decode b_QM_matches 1 = .ok (.getfield 45, 3) := by decide +kernel
theorem d_QM_matches_4 : decode b_QM_matches 4 = .ok (.aload_n 0, 1) := by decide +kernel
theorem d_QM_matches_5 : decode b_QM_matches 5 = .ok (.getfield 120, 3) := by decide +kernel
theorem d_QM_matches_8 : decode b_QM_matches 8 = .ok (.baload, 1) := by decide +kernel
theorem d_QM_matches_9 : decode b_QM_matches 9 = .ok (.ifCond .ne 45, 3) := by decide +kernel
theorem d_QM_matches_12 : decode b_QM_matches 12 = .ok (.aload_n 0, 1) := by decide +kernel
theorem d_QM_matches_13 : decode b_QM_matches 13 = .ok (.getfield 45, 3) := by decide +kernel
theorem d_QM_matches_16 : decode b_QM_matches 16 = .ok (.iconst 2, 1) := by decide +kernel
theorem d_QM_matches_17 : decode b_QM_matches 17 = .ok (.aload_n 0, 1) := by decide +kernel
theorem d_QM_matches_18 : decode b_QM_matches 18 = .ok (.getfield 123, 3) := by decide +kernel
theorem d_QM_matches_21 : decode b_QM_matches 21 = .ok (.iadd, 1) := by decide +kernel
theorem d_QM_matches_22 : decode b_QM_matches 22 = .ok (.baload, 1) := by decide +kernel
theorem d_QM_matches_23 : decode b_QM_matches 23 = .ok (.ifCond .ne 31, 3) := by decide +kernel
theorem d_QM_matches_26 : decode b_QM_matches 26 = .ok (.aload_n 0, 1) := by decide +kernel
theorem d_QM_matches_27 : decode b_QM_matches 27 = .ok (.getfield 42, 3) := by decide +kernel
theorem d_QM_matches_30 : decode b_QM_matches 30 = .ok (.aload_n 0, 1) := by decide +kernel
theorem d_QM_matches_31 : decode b_QM_matches 31 = .ok (.getfield 120, 3) := by decide +kernel
theorem d_QM_matches_34 : decode b_QM_matches 34 = .ok (.laload, 1) := by decide +kernel
theorem d_QM_matches_35 : decode b_QM_matches 35 = .ok (.aload_n 0, 1) := by decide +kernel
theorem d_QM_matches_36 : decode b_QM_matches 36 = .ok (.getfield 42, 3) := by decide +kernel
theorem d_QM_matches_39 : decode b_QM_matches 39 = .ok (.iconst 2, 1) := by decide +kernel
theorem d_QM_matches_40 : decode b_QM_matches 40 = .ok (.aload_n 0, 1) := by decide +kernel
theorem d_QM_matches_41 : decode b_QM_matches 41 = .ok (.getfield 123, 3) := by decide +kernel
theorem d_QM_matches_44 : decode b_QM_matches 44 = .ok (.iadd, 1) := by decide +kernel
theorem d_QM_matches_45 : decode b_QM_matches 45 = .ok (.laload, 1) := by decide +kernel
theorem d_QM_matches_46 : decode b_QM_matches 46 = .ok (.lcmp, 1) := by decide +kernel
theorem d_QM_matches_47 : decode b_QM_matches 47 = .ok (.ifCond .ne 7, 3) := by decide +kernel
theorem d_QM_matches_50 : decode b_QM_matches 50 = .ok (.iconst 1, 1) := by decide +kernel
theorem d_QM_matches_51 : decode b_QM_matches 51 = .ok (.goto 4, 3) := by decide +kernel
theorem d_QM_matches_54 : decode b_QM_matches 54 = .ok (.iconst 0, 1) := by decide +kernel
theorem d_QM_matches_55 : decode b_QM_matches 55 = .ok (.ireturn, 1) := by decide +kernel
theorem d_QM_keep_0 : decode b_QM_keep 0 = .ok (.aload_n 0, 1) := by decide +kernel
theorem d_QM_keep_1 : decode b_QM_keep 1 = .ok (.invokevirtual 188, 3) := by decide +kernel
theorem d_QM_keep_4 : decode b_QM_keep 4 = .ok (.ifCond .ne 4, 3) := by decide +kernel
theorem d_QM_keep_7 : decode b_QM_keep 7 = .ok (.return_, 1) := by decide +kernel
theorem d_QM_keep_8 : decode b_QM_keep 8 = .ok (.iconst 0, 1) := by decide +kernel
theorem d_QM_keep_9 : decode b_QM_keep 9 = .ok (.istore_n 1, 1) := by decide +kernel
theorem d_QM_keep_10 : decode b_QM_keep 10 = .ok (.iload_n 1, 1) := by decide +kernel
theorem d_QM_keep_11 : decode b_QM_keep 11 = .ok (.iconst 4, 1) := by decide +kernel
theorem d_QM_keep_12 : decode b_QM_keep 12 = .ok (.if_icmp .ge 47, 3) := by decide +kernel
theorem d_QM_keep_15 : decode b_QM_keep 15 = .ok (.aload_n 0, 1) := by decide +kernel
theorem d_QM_keep_16 : decode b_QM_keep 16 = .ok (.getfield 48, 3) := by decide +kernel
theorem d_QM_keep_19 : decode b_QM_keep 19 = .ok (.iconst 4, 1) := by decide +kernel
theorem d_QM_keep_20 : decode b_QM_keep 20 = .ok (.aload_n 0, 1) := by decide +kernel
theorem d_QM_keep_21 : decode b_QM_keep 21 = .ok (.getfield 191, 3) := by decide +kernel
theorem d_QM_keep_24 : decode b_QM_keep 24 = .ok (.imul, 1) := by decide +kernel
theorem d_QM_keep_25 : decode b_QM_keep 25 = .ok (.iload_n 1, 1) := by decide +kernel
theorem d_QM_keep_26 : decode b_QM_keep 26 = .ok (.iadd, 1) := by decide +kernel
theorem d_QM_keep_27 : decode b_QM_keep 27 = .ok (.aload_n 0, 1) := by decide +kernel
theorem d_QM_keep_28 : decode b_QM_keep 28 = .ok (.getfield 42, 3) := by decide +kernel
theorem d_QM_keep_31 : decode b_QM_keep 31 = .ok (.iload_n 1, 1) := by decide +kernel
theorem d_QM_keep_32 : decode b_QM_keep 32 = .ok (.laload, 1) := by decide +kernel
theorem d_QM_keep_33 : decode b_QM_keep 33 = .ok (.lastore, 1) := by decide +kernel
theorem d_QM_keep_34 : decode b_QM_keep 34 = .ok (.aload_n 0, 1) := by decide +kernel
theorem d_QM_keep_35 : decode b_QM_keep 35 = .ok (.getfield 51, 3) := by decide +kernel
theorem d_QM_keep_38 : decode b_QM_keep 38 = .ok (.iconst 4, 1) := by decide +kernel
theorem d_QM_keep_39 : decode b_QM_keep 39 = .ok (.aload_n 0, 1) := by decide +kernel
theorem d_QM_keep_40 : decode b_QM_keep 40 = .ok (.getfield 191, 3) := by decide +kernel
theorem d_QM_keep_43 : decode b_QM_keep 43 = .ok (.imul, 1) := by decide +kernel
theorem d_QM_keep_44 : decode b_QM_keep 44 = .ok (.iload_n 1, 1) := by decide +kernel
theorem d_QM_keep_45 : decode b_QM_keep 45 = .ok (.iadd, 1) := by decide +kernel
theorem d_QM_keep_46 : decode b_QM_keep 46 = .ok (.aload_n 0, 1) := by decide +kernel
theorem d_QM_keep_47 : decode b_QM_keep 47 = .ok (.getfield 45, 3) := by decide +kernel
theorem d_QM_keep_50 : decode b_QM_keep 50 = .ok (.iload_n 1, 1) := by decide +kernel
theorem d_QM_keep_51 : decode b_QM_keep 51 = .ok (.baload, 1) := by decide +kernel
theorem d_QM_keep_52 : decode b_QM_keep 52 = .ok (.bastore, 1) := by decide +kernel
theorem d_QM_keep_53 : decode b_QM_keep 53 = .ok (.iinc 1 1, 3) := by decide +kernel
theorem d_QM_keep_56 : decode b_QM_keep 56 = .ok (.goto (-46), 3) := by decide +kernel
theorem d_QM_keep_59 : decode b_QM_keep 59 = .ok (.aload_n 0, 1) := by decide +kernel
theorem d_QM_keep_60 : decode b_QM_keep 60 = .ok (.dup, 1) := by decide +kernel
theorem d_QM_keep_61 : decode b_QM_keep 61 = .ok (.getfield 191, 3) := by decide +kernel
theorem d_QM_keep_64 : decode b_QM_keep 64 = .ok (.iconst 1, 1) := by decide +kernel
theorem d_QM_keep_65 : decode b_QM_keep 65 = .ok (.iadd, 1) := by decide +kernel
theorem d_QM_keep_66 : decode b_QM_keep 66 = .ok (.putfield 191, 3) := by decide +kernel
theorem d_QM_keep_69 : decode b_QM_keep 69 = .ok (.return_, 1) := by decide +kernel
theorem d_QM_joinAll_0 : decode b_QM_joinAll 0 = .ok (.aload_n 0, 1) := by decide +kernel
theorem d_QM_joinAll_1 : decode b_QM_joinAll 1 = .ok (.iconst 0, 1) := by decide +kernel
theorem d_QM_joinAll_2 : decode b_QM_joinAll 2 = .ok (.putfield 191, 3) := by decide +kernel
theorem d_QM_joinAll_5 : decode b_QM_joinAll 5 = .ok (.iconst 0, 1) := by decide +kernel
theorem d_QM_joinAll_6 : decode b_QM_joinAll 6 = .ok (.istore_n 1, 1) := by decide +kernel
theorem d_QM_joinAll_7 : decode b_QM_joinAll 7 = .ok (.iload_n 1, 1) := by decide +kernel
theorem d_QM_joinAll_8 : decode b_QM_joinAll 8 = .ok (.aload_n 0, 1) := by decide +kernel
theorem d_QM_joinAll_9 : decode b_QM_joinAll 9 = .ok (.getfield 7, 3) := by decide +kernel
theorem d_QM_joinAll_12 : decode b_QM_joinAll 12 = .ok (.aload_n 0, 1) := by decide +kernel
theorem d_QM_joinAll_13 : decode b_QM_joinAll 13 = .ok (.getfield 114, 3) := by decide +kernel
theorem d_QM_joinAll_16 : decode b_QM_joinAll 16 = .ok (.iaload, 1) := by decide +kernel
theorem d_QM_joinAll_17 : decode b_QM_joinAll 17 = .ok (.if_icmp .ge 100, 3) := by decide +kernel
theorem d_QM_joinAll_20 : decode b_QM_joinAll 20 = .ok (.aload_n 0, 1) := by decide +kernel
theorem d_QM_joinAll_21 : decode b_QM_joinAll 21 = .ok (.iconst 0, 1) := by decide +kernel
theorem d_QM_joinAll_22 : decode b_QM_joinAll 22 = .ok (.iload_n 1, 1) := by decide +kernel
theorem d_QM_joinAll_23 : decode b_QM_joinAll 23 = .ok (.invokevirtual 194, 3) := by decide +kernel
theorem d_QM_joinAll_26 : decode b_QM_joinAll 26 = .ok (.aload_n 0, 1) := by decide +kernel
theorem d_QM_joinAll_27 : decode b_QM_joinAll 27 = .ok (.iconst 1, 1) := by decide +kernel
theorem d_QM_joinAll_28 : decode b_QM_joinAll 28 = .ok (.iconst (-1), 1) := by decide +kernel
theorem d_QM_joinAll_29 : decode b_QM_joinAll 29 = .ok (.invokevirtual 194, 3) := by decide +kernel
theorem d_QM_joinAll_32 : decode b_QM_joinAll 32 = .ok (.iconst 0, 1) := by decide +kernel
theorem d_QM_joinAll_33 : decode b_QM_joinAll 33 = .ok (.istore_n 2, 1) := by decide +kernel
theorem d_QM_joinAll_34 : decode b_QM_joinAll 34 = .ok (.iconst 0, 1) := by decide +kernel
theorem d_QM_joinAll_35 : decode b_QM_joinAll 35 = .ok (.istore_n 3, 1) := by decide +kernel
theorem d_QM_joinAll_36 : decode b_QM_joinAll 36 = .ok (.iload_n 3, 1) := by decide +kernel
theorem d_QM_joinAll_37 : decode b_QM_joinAll 37 = .ok (.aload_n 0, 1) := by decide +kernel
theorem d_QM_joinAll_38 : decode b_QM_joinAll 38 = .ok (.getfield 7, 3) := by decide +kernel
theorem d_QM_joinAll_41 : decode b_QM_joinAll 41 = .ok (.aload_n 0, 1) := by decide +kernel
theorem d_QM_joinAll_42 : decode b_QM_joinAll 42 = .ok (.invokevirtual 197, 3) := by decide +kernel
theorem d_QM_joinAll_45 : decode b_QM_joinAll 45 = .ok (.iaload, 1) := by decide +kernel
theorem d_QM_joinAll_46 : decode b_QM_joinAll 46 = .ok (.if_icmp .ge 36, 3) := by decide +kernel
theorem d_QM_joinAll_49 : decode b_QM_joinAll 49 = .ok (.aload_n 0, 1) := by decide +kernel
theorem d_QM_joinAll_50 : decode b_QM_joinAll 50 = .ok (.getfield 110, 3) := by decide +kernel
theorem d_QM_joinAll_53 : decode b_QM_joinAll 53 = .ok (.ifCond .le 29, 3) := by decide +kernel
theorem d_QM_joinAll_56 : decode b_QM_joinAll 56 = .ok (.aload_n 0, 1) := by decide +kernel
theorem d_QM_joinAll_57 : decode b_QM_joinAll 57 = .ok (.iconst 1, 1) := by decide +kernel
theorem d_QM_joinAll_58 : decode b_QM_joinAll 58 = .ok (.iload_n 3, 1) := by decide +kernel
theorem d_QM_joinAll_59 : decode b_QM_joinAll 59 = .ok (.invokevirtual 194, 3) := by decide +kernel
theorem d_QM_joinAll_62 : decode b_QM_joinAll 62 = .ok (.aload_n 0, 1) := by decide +kernel
theorem d_QM_joinAll_63 : decode b_QM_joinAll 63 = .ok (.invokevirtual 201, 3) := by decide +kernel
theorem d_QM_joinAll_66 : decode b_QM_joinAll 66 = .ok (.ifCond .eq 10, 3) := by decide +kernel
theorem d_QM_joinAll_69 : decode b_QM_joinAll 69 = .ok (.iinc 2 1, 3) := by decide +kernel
theorem d_QM_joinAll_72 : decode b_QM_joinAll 72 = .ok (.aload_n 0, 1) := by decide +kernel
theorem d_QM_joinAll_73 : decode b_QM_joinAll 73 = .ok (.invokevirtual 204, 3) := by decide +kernel
theorem d_QM_joinAll_76 : decode b_QM_joinAll 76 = .ok (.iinc 3 1, 3) := by decide +kernel
theorem d_QM_joinAll_79 : decode b_QM_joinAll 79 = .ok (.goto (-43), 3) := by decide +kernel
theorem d_QM_joinAll_82 : decode b_QM_joinAll 82 = .ok (.aload_n 0, 1) := by decide +kernel
theorem d_QM_joinAll_83 : decode b_QM_joinAll 83 = .ok (.iconst 1, 1) := by decide +kernel
theorem d_QM_joinAll_84 : decode b_QM_joinAll 84 = .ok (.iconst (-1), 1) := by decide +kernel
theorem d_QM_joinAll_85 : decode b_QM_joinAll 85 = .ok (.invokevirtual 194, 3) := by decide +kernel
theorem d_QM_joinAll_88 : decode b_QM_joinAll 88 = .ok (.aload_n 0, 1) := by decide +kernel
theorem d_QM_joinAll_89 : decode b_QM_joinAll 89 = .ok (.getfield 110, 3) := by decide +kernel
theorem d_QM_joinAll_92 : decode b_QM_joinAll 92 = .ok (.ifCond .eq 15, 3) := by decide +kernel
theorem d_QM_joinAll_95 : decode b_QM_joinAll 95 = .ok (.aload_n 0, 1) := by decide +kernel
theorem d_QM_joinAll_96 : decode b_QM_joinAll 96 = .ok (.getfield 110, 3) := by decide +kernel
theorem d_QM_joinAll_99 : decode b_QM_joinAll 99 = .ok (.iconst 2, 1) := by decide +kernel
theorem d_QM_joinAll_100 : decode b_QM_joinAll 100 = .ok (.if_icmp .ne 11, 3) := by decide +kernel
theorem d_QM_joinAll_103 : decode b_QM_joinAll 103 = .ok (.iload_n 2, 1) := by decide +kernel
theorem d_QM_joinAll_104 : decode b_QM_joinAll 104 = .ok (.ifCond .ne 7, 3) := by decide +kernel
theorem d_QM_joinAll_107 : decode b_QM_joinAll 107 = .ok (.aload_n 0, 1) := by decide +kernel
theorem d_QM_joinAll_108 : decode b_QM_joinAll 108 = .ok (.invokevirtual 204, 3) := by decide +kernel
theorem d_QM_joinAll_111 : decode b_QM_joinAll 111 = .ok (.iinc 1 1, 3) := by decide +kernel
theorem d_QM_joinAll_114 : decode b_QM_joinAll 114 = .ok (.goto (-107), 3) := by decide +kernel
theorem d_QM_joinAll_117 : decode b_QM_joinAll 117 = .ok (.return_, 1) := by decide +kernel
theorem d_QM_second0_0 : decode b_QM_second0 0 = .ok (.aload_n 0, 1) := by decide +kernel
theorem d_QM_second0_1 : decode b_QM_second0 1 = .ok (.getfield 110, 3) := by decide +kernel
theorem d_QM_second0_4 : decode b_QM_second0 4 = .ok (.ifCond .ne 10, 3) := by decide +kernel
theorem d_QM_second0_7 : decode b_QM_second0 7 = .ok (.aload_n 0, 1) := by decide +kernel
theorem d_QM_second0_8 : decode b_QM_second0 8 = .ok (.getfield 114, 3) := by decide +kernel
theorem d_QM_second0_11 : decode b_QM_second0 11 = .ok (.goto 7, 3) := by decide +kernel
theorem d_QM_second0_14 : decode b_QM_second0 14 = .ok (.aload_n 0, 1) := by decide +kernel
theorem d_QM_second0_15 : decode b_QM_second0 15 = .ok (.getfield 117, 3) := by decide +kernel
theorem d_QM_second0_18 : decode b_QM_second0 18 = .ok (.ireturn, 1) := by decide +kernel
theorem d_QM_bringKept_0 : decode b_QM_bringKept 0 = .ok (.iconst 0, 1) := by decide +kernel
theorem d_QM_bringKept_1 : decode b_QM_bringKept 1 = .ok (.istore_n 2, 1) := by decide +kernel
theorem d_QM_bringKept_2 : decode b_QM_bringKept 2 = .ok (.iload_n 2, 1) := by decide +kernel
theorem d_QM_bringKept_3 : decode b_QM_bringKept 3 = .ok (.iconst 4, 1) := by decide +kernel
theorem d_QM_bringKept_4 : decode b_QM_bringKept 4 = .ok (.if_icmp .ge 41, 3) := by decide +kernel
theorem d_QM_bringKept_7 : decode b_QM_bringKept 7 = .ok (.aload_n 0, 1) := by decide +kernel
theorem d_QM_bringKept_8 : decode b_QM_bringKept 8 = .ok (.getfield 42, 3) := by decide +kernel
theorem d_QM_bringKept_11 : decode b_QM_bringKept 11 = .ok (.iload_n 2, 1) := by decide +kernel
theorem d_QM_bringKept_12 : decode b_QM_bringKept 12 = .ok (.aload_n 0, 1) := by decide +kernel
theorem d_QM_bringKept_13 : decode b_QM_bringKept 13 = .ok (.getfield 48, 3) := by decide +kernel
theorem d_QM_bringKept_16 : decode b_QM_bringKept 16 = .ok (.iconst 4, 1) := by decide +kernel
theorem d_QM_bringKept_17 : decode b_QM_bringKept 17 = .ok (.iload_n 1, 1) := by decide +kernel
theorem d_QM_bringKept_18 : decode b_QM_bringKept 18 = .ok (.imul, 1) := by decide +kernel
theorem d_QM_bringKept_19 : decode b_QM_bringKept 19 = .ok (.iload_n 2, 1) := by decide +kernel
theorem d_QM_bringKept_20 : decode b_QM_bringKept 20 = .ok (.iadd, 1) := by decide +kernel
theorem d_QM_bringKept_21 : decode b_QM_bringKept 21 = .ok (.laload, 1) := by decide +kernel
theorem d_QM_bringKept_22 : decode b_QM_bringKept 22 = .ok (.lastore, 1) := by decide +kernel
theorem d_QM_bringKept_23 : decode b_QM_bringKept 23 = .ok (.aload_n 0, 1) := by decide +kernel
theorem d_QM_bringKept_24 : decode b_QM_bringKept 24 = .ok (.getfield 45, 3) := by decide +kernel
theorem d_QM_bringKept_27 : decode b_QM_bringKept 27 = .ok (.iload_n 2, 1) := by decide +kernel
theorem d_QM_bringKept_28 : decode b_QM_bringKept 28 = .ok (.aload_n 0, 1) := by decide +kernel
theorem d_QM_bringKept_29 : decode b_QM_bringKept 29 = .ok (.getfield 51, 3) := by decide +kernel
theorem d_QM_bringKept_32 : decode b_QM_bringKept 32 = .ok (.iconst 4, 1) := by decide +kernel
theorem d_QM_bringKept_33 : decode b_QM_bringKept 33 = .ok (.iload_n 1, 1) := by decide +kernel
theorem d_QM_bringKept_34 : decode b_QM_bringKept 34 = .ok (.imul, 1) := by decide +kernel
theorem d_QM_bringKept_35 : decode b_QM_bringKept 35 = .ok (.iload_n 2, 1) := by decide +kernel
theorem d_QM_bringKept_36 : decode b_QM_bringKept 36 = .ok (.iadd, 1) := by decide +kernel
theorem d_QM_bringKept_37 : decode b_QM_bringKept 37 = .ok (.baload, 1) := by decide +kernel
theorem d_QM_bringKept_38 : decode b_QM_bringKept 38 = .ok (.bastore, 1) := by decide +kernel
theorem d_QM_bringKept_39 : decode b_QM_bringKept 39 = .ok (.iinc 2 1, 3) := by decide +kernel
theorem d_QM_bringKept_42 : decode b_QM_bringKept 42 = .ok (.goto (-40), 3) := by decide +kernel
theorem d_QM_bringKept_45 : decode b_QM_bringKept 45 = .ok (.return_, 1) := by decide +kernel
theorem d_QM_give_0 : decode b_QM_give 0 = .ok (.aload_n 0, 1) := by decide +kernel
theorem d_QM_give_1 : decode b_QM_give 1 = .ok (.getfield 54, 3) := by decide +kernel
theorem d_QM_give_4 : decode b_QM_give 4 = .ok (.iconst 4, 1) := by decide +kernel
theorem d_QM_give_5 : decode b_QM_give 5 = .ok (.aload_n 0, 1) := by decide +kernel
theorem d_QM_give_6 : decode b_QM_give 6 = .ok (.getfield 207, 3) := by decide +kernel
theorem d_QM_give_9 : decode b_QM_give 9 = .ok (.imul, 1) := by decide +kernel
theorem d_QM_give_10 : decode b_QM_give 10 = .ok (.iload_n 1, 1) := by decide +kernel
theorem d_QM_give_11 : decode b_QM_give 11 = .ok (.iadd, 1) := by decide +kernel
theorem d_QM_give_12 : decode b_QM_give 12 = .ok (.iload 4, 2) := by decide +kernel
theorem d_QM_give_14 : decode b_QM_give 14 = .ok (.ifCond .eq 7, 3) := by decide +kernel
theorem d_QM_give_17 : decode b_QM_give 17 = .ok (.lconst 0, 1) := by decide +kernel
theorem d_QM_give_18 : decode b_QM_give 18 = .ok (.goto 4, 3) := by decide +kernel
theorem d_QM_give_21 : decode b_QM_give 21 = .ok (.lload_n 2, 1) := by decide +kernel
theorem d_QM_give_22 : decode b_QM_give 22 = .ok (.lastore, 1) := by decide +kernel
theorem d_QM_give_23 : decode b_QM_give 23 = .ok (.aload_n 0, 1) := by decide +kernel
theorem d_QM_give_24 : decode b_QM_give 24 = .ok (.getfield 57, 3) := by decide +kernel
theorem d_QM_give_27 : decode b_QM_give 27 = .ok (.iconst 4, 1) := by decide +kernel
theorem d_QM_give_28 : decode b_QM_give 28 = .ok (.aload_n 0, 1) := by decide +kernel
theorem d_QM_give_29 : decode b_QM_give 29 = .ok (.getfield 207, 3) := by decide +kernel
theorem d_QM_give_32 : decode b_QM_give 32 = .ok (.imul, 1) := by decide +kernel
theorem d_QM_give_33 : decode b_QM_give 33 = .ok (.iload_n 1, 1) := by decide +kernel
theorem d_QM_give_34 : decode b_QM_give 34 = .ok (.iadd, 1) := by decide +kernel
theorem d_QM_give_35 : decode b_QM_give 35 = .ok (.iload 4, 2) := by decide +kernel
theorem d_QM_give_37 : decode b_QM_give 37 = .ok (.bastore, 1) := by decide +kernel
theorem d_QM_give_38 : decode b_QM_give 38 = .ok (.return_, 1) := by decide +kernel
theorem d_QM_together_0 : decode b_QM_together 0 = .ok (.aload_n 0, 1) := by decide +kernel
theorem d_QM_together_1 : decode b_QM_together 1 = .ok (.getfield 126, 3) := by decide +kernel
theorem d_QM_together_4 : decode b_QM_together 4 = .ok (.ifCond .ge 5, 3) := by decide +kernel
theorem d_QM_together_7 : decode b_QM_together 7 = .ok (.iconst 1, 1) := by decide +kernel
theorem d_QM_together_8 : decode b_QM_together 8 = .ok (.ireturn, 1) := by decide +kernel
theorem d_QM_together_9 : decode b_QM_together 9 = .ok (.iconst 4, 1) := by decide +kernel
theorem d_QM_together_10 : decode b_QM_together 10 = .ok (.iload_n 1, 1) := by decide +kernel
theorem d_QM_together_11 : decode b_QM_together 11 = .ok (.imul, 1) := by decide +kernel
theorem d_QM_together_12 : decode b_QM_together 12 = .ok (.aload_n 0, 1) := by decide +kernel
theorem d_QM_together_13 : decode b_QM_together 13 = .ok (.getfield 126, 3) := by decide +kernel
theorem d_QM_together_16 : decode b_QM_together 16 = .ok (.iadd, 1) := by decide +kernel
theorem d_QM_together_17 : decode b_QM_together 17 = .ok (.istore_n 3, 1) := by decide +kernel
theorem d_QM_together_18 : decode b_QM_together 18 = .ok (.iconst 4, 1) := by decide +kernel
theorem d_QM_together_19 : decode b_QM_together 19 = .ok (.iload_n 2, 1) := by decide +kernel
theorem d_QM_together_20 : decode b_QM_together 20 = .ok (.imul, 1) := by decide +kernel
theorem d_QM_together_21 : decode b_QM_together 21 = .ok (.aload_n 0, 1) := by decide +kernel
theorem d_QM_together_22 : decode b_QM_together 22 = .ok (.getfield 126, 3) := by decide +kernel
theorem d_QM_together_25 : decode b_QM_together 25 = .ok (.iadd, 1) := by decide +kernel
theorem d_QM_together_26 : decode b_QM_together 26 = .ok (.istore 4, 2) := by decide +kernel
theorem d_QM_together_28 : decode b_QM_together 28 = .ok (.aload_n 0, 1) := by decide +kernel
theorem d_QM_together_29 : decode b_QM_together 29 = .ok (.getfield 51, 3) := by decide +kernel
theorem d_QM_together_32 : decode b_QM_together 32 = .ok (.iload_n 3, 1) := by decide +kernel
theorem d_QM_together_33 : decode b_QM_together 33 = .ok (.baload, 1) := by decide +kernel
theorem d_QM_together_34 : decode b_QM_together 34 = .ok (.aload_n 0, 1) := by decide +kernel
theorem d_QM_together_35 : decode b_QM_together 35 = .ok (.getfield 51, 3) := by decide +kernel
theorem d_QM_together_38 : decode b_QM_together 38 = .ok (.iload 4, 2) := by decide +kernel
theorem d_QM_together_40 : decode b_QM_together 40 = .ok (.baload, 1) := by decide +kernel
theorem d_QM_together_41 : decode b_QM_together 41 = .ok (.if_icmp .ne 33, 3) := by decide +kernel
theorem d_QM_together_44 : decode b_QM_together 44 = .ok (.aload_n 0, 1) := by decide +kernel
theorem d_QM_together_45 : decode b_QM_together 45 = .ok (.getfield 51, 3) := by decide +kernel
theorem d_QM_together_48 : decode b_QM_together 48 = .ok (.iload_n 3, 1) := by decide +kernel
theorem d_QM_together_49 : decode b_QM_together 49 = .ok (.baload, 1) := by decide +kernel
theorem d_QM_together_50 : decode b_QM_together 50 = .ok (.ifCond .ne 20, 3) := by decide +kernel
theorem d_QM_together_53 : decode b_QM_together 53 = .ok (.aload_n 0, 1) := by decide +kernel
theorem d_QM_together_54 : decode b_QM_together 54 = .ok (.getfield 48, 3) := by decide +kernel
theorem d_QM_together_57 : decode b_QM_together 57 = .ok (.iload_n 3, 1) := by decide +kernel
theorem d_QM_together_58 : decode b_QM_together 58 = .ok (.laload, 1) := by decide +kernel
theorem d_QM_together_59 : decode b_QM_together 59 = .ok (.aload_n 0, 1) := by decide +kernel
theorem d_QM_together_60 : decode b_QM_together 60 = .ok (.getfield 48, 3) := by decide +kernel
theorem d_QM_together_63 : decode b_QM_together 63 = .ok (.iload 4, 2) := by decide +kernel
theorem d_QM_together_65 : decode b_QM_together 65 = .ok (.laload, 1) := by decide +kernel
theorem d_QM_together_66 : decode b_QM_together 66 = .ok (.lcmp, 1) := by decide +kernel
theorem d_QM_together_67 : decode b_QM_together 67 = .ok (.ifCond .ne 7, 3) := by decide +kernel
theorem d_QM_together_70 : decode b_QM_together 70 = .ok (.iconst 1, 1) := by decide +kernel
theorem d_QM_together_71 : decode b_QM_together 71 = .ok (.goto 4, 3) := by decide +kernel
theorem d_QM_together_74 : decode b_QM_together 74 = .ok (.iconst 0, 1) := by decide +kernel
theorem d_QM_together_75 : decode b_QM_together 75 = .ok (.ireturn, 1) := by decide +kernel
end
section
theorem d_QM_aggregate_0 : decode b_QM_aggregate 0 = .ok (.aload_n 0, 1) := by decide +kernel
theorem d_QM_aggregate_1 : decode b_QM_aggregate 1 = .ok (.getfield 33, 3) := by decide +kernel
theorem d_QM_aggregate_4 : decode b_QM_aggregate 4 = .ok (.iload_n 1, 1) := by decide +kernel
theorem d_QM_aggregate_5 : decode b_QM_aggregate 5 = .ok (.iaload, 1) := by decide +kernel
theorem d_QM_aggregate_6 : decode b_QM_aggregate 6 = .ok (.istore 4, 2) := by decide +kernel
theorem d_QM_aggregate_8 : decode b_QM_aggregate 8 = .ok (.iconst 0, 1) := by decide +kernel
theorem d_QM_aggregate_9 : decode b_QM_aggregate 9 = .ok (.istore 5, 2) := by decide +kernel
theorem d_QM_aggregate_11 : decode b_QM_aggregate 11 = .ok (.iconst 0, 1) := by decide +kernel
theorem d_QM_aggregate_12 : decode b_QM_aggregate 12 = .ok (.istore 6, 2) := by decide +kernel
theorem d_QM_aggregate_14 : decode b_QM_aggregate 14 = .ok (.lconst 0, 1) := by decide +kernel
theorem d_QM_aggregate_15 : decode b_QM_aggregate 15 = .ok (.lstore 7, 2) := by decide +kernel
theorem d_QM_aggregate_17 : decode b_QM_aggregate 17 = .ok (.lconst 0, 1) := by decide +kernel
theorem d_QM_aggregate_18 : decode b_QM_aggregate 18 = .ok (.lstore 9, 2) := by decide +kernel
theorem d_QM_aggregate_20 : decode b_QM_aggregate 20 = .ok (.lconst 0, 1) := by decide +kernel
theorem d_QM_aggregate_21 : decode b_QM_aggregate 21 = .ok (.lstore 11, 2) := by decide +kernel
theorem d_QM_aggregate_23 : decode b_QM_aggregate 23 = .ok (.iconst 0, 1) := by decide +kernel
theorem d_QM_aggregate_24 : decode b_QM_aggregate 24 = .ok (.istore 13, 2) := by decide +kernel
theorem d_QM_aggregate_26 : decode b_QM_aggregate 26 = .ok (.iload 13, 2) := by decide +kernel
theorem d_QM_aggregate_28 : decode b_QM_aggregate 28 = .ok (.aload_n 0, 1) := by decide +kernel
theorem d_QM_aggregate_29 : decode b_QM_aggregate 29 = .ok (.getfield 191, 3) := by decide +kernel
theorem d_QM_aggregate_32 : decode b_QM_aggregate 32 = .ok (.if_icmp .ge 131, 3) := by decide +kernel
theorem d_QM_aggregate_35 : decode b_QM_aggregate 35 = .ok (.aload_n 0, 1) := by decide +kernel
theorem d_QM_aggregate_36 : decode b_QM_aggregate 36 = .ok (.iload 13, 2) := by decide +kernel
theorem d_QM_aggregate_38 : decode b_QM_aggregate 38 = .ok (.iload_n 2, 1) := by decide +kernel
theorem d_QM_aggregate_39 : decode b_QM_aggregate 39 = .ok (.invokevirtual 210, 3) := by decide +kernel
theorem d_QM_aggregate_42 : decode b_QM_aggregate 42 = .ok (.ifCond .ne 6, 3) := by decide +kernel
theorem d_QM_aggregate_45 : decode b_QM_aggregate 45 = .ok (.goto 112, 3) := by decide +kernel
theorem d_QM_aggregate_48 : decode b_QM_aggregate 48 = .ok (.iinc 5 1, 3) := by decide +kernel
theorem d_QM_aggregate_51 : decode b_QM_aggregate 51 = .ok (.iload 4, 2) := by decide +kernel
theorem d_QM_aggregate_53 : decode b_QM_aggregate 53 = .ok (.iconst 1, 1) := by decide +kernel
theorem d_QM_aggregate_54 : decode b_QM_aggregate 54 = .ok (.if_icmp .ne 6, 3) := by decide +kernel
theorem d_QM_aggregate_57 : decode b_QM_aggregate 57 = .ok (.goto 100, 3) := by decide +kernel
theorem d_QM_aggregate_60 : decode b_QM_aggregate 60 = .ok (.aload_n 0, 1) := by decide +kernel
theorem d_QM_aggregate_61 : decode b_QM_aggregate 61 = .ok (.iload 13, 2) := by decide +kernel
theorem d_QM_aggregate_63 : decode b_QM_aggregate 63 = .ok (.invokevirtual 214, 3) := by decide +kernel
theorem d_QM_aggregate_66 : decode b_QM_aggregate 66 = .ok (.aload_n 0, 1) := by decide +kernel
theorem d_QM_aggregate_67 : decode b_QM_aggregate 67 = .ok (.bipush 14, 2) := by decide +kernel
theorem d_QM_aggregate_69 : decode b_QM_aggregate 69 = .ok (.iload_n 1, 1) := by decide +kernel
theorem d_QM_aggregate_70 : decode b_QM_aggregate 70 = .ok (.iadd, 1) := by decide +kernel
theorem d_QM_aggregate_71 : decode b_QM_aggregate 71 = .ok (.invokevirtual 181, 3) := by decide +kernel
theorem d_QM_aggregate_74 : decode b_QM_aggregate 74 = .ok (.aload_n 0, 1) := by decide +kernel
theorem d_QM_aggregate_75 : decode b_QM_aggregate 75 = .ok (.getfield 39, 3) := by decide +kernel
theorem d_QM_aggregate_78 : decode b_QM_aggregate 78 = .ok (.iconst 0, 1) := by decide +kernel
theorem d_QM_aggregate_79 : decode b_QM_aggregate 79 = .ok (.baload, 1) := by decide +kernel
theorem d_QM_aggregate_80 : decode b_QM_aggregate 80 = .ok (.ifCond .eq 6, 3) := by decide +kernel
theorem d_QM_aggregate_83 : decode b_QM_aggregate 83 = .ok (.goto 74, 3) := by decide +kernel
theorem d_QM_aggregate_86 : decode b_QM_aggregate 86 = .ok (.aload_n 0, 1) := by decide +kernel
theorem d_QM_aggregate_87 : decode b_QM_aggregate 87 = .ok (.getfield 36, 3) := by decide +kernel
theorem d_QM_aggregate_90 : decode b_QM_aggregate 90 = .ok (.iconst 0, 1) := by decide +kernel
theorem d_QM_aggregate_91 : decode b_QM_aggregate 91 = .ok (.laload, 1) := by decide +kernel
theorem d_QM_aggregate_92 : decode b_QM_aggregate 92 = .ok (.lstore 14, 2) := by decide +kernel
theorem d_QM_aggregate_94 : decode b_QM_aggregate 94 = .ok (.iload 6, 2) := by decide +kernel
theorem d_QM_aggregate_96 : decode b_QM_aggregate 96 = .ok (.ifCond .eq 28, 3) := by decide +kernel
theorem d_QM_aggregate_99 : decode b_QM_aggregate 99 = .ok (.iload 4, 2) := by decide +kernel
theorem d_QM_aggregate_101 : decode b_QM_aggregate 101 = .ok (.iconst 4, 1) := by decide +kernel
theorem d_QM_aggregate_102 : decode b_QM_aggregate 102 = .ok (.if_icmp .ne 14, 3) := by decide +kernel
theorem d_QM_aggregate_105 : decode b_QM_aggregate 105 = .ok (.lload 14, 2) := by decide +kernel
theorem d_QM_aggregate_107 : decode b_QM_aggregate 107 = .ok (.lload 11, 2) := by decide +kernel
theorem d_QM_aggregate_109 : decode b_QM_aggregate 109 = .ok (.lcmp, 1) := by decide +kernel
theorem d_QM_aggregate_110 : decode b_QM_aggregate 110 = .ok (.ifCond .ge 19, 3) := by decide +kernel
theorem d_QM_aggregate_113 : decode b_QM_aggregate 113 = .ok (.goto 11, 3) := by decide +kernel
theorem d_QM_aggregate_116 : decode b_QM_aggregate 116 = .ok (.lload 14, 2) := by decide +kernel
theorem d_QM_aggregate_118 : decode b_QM_aggregate 118 = .ok (.lload 11, 2) := by decide +kernel
theorem d_QM_aggregate_120 : decode b_QM_aggregate 120 = .ok (.lcmp, 1) := by decide +kernel
theorem d_QM_aggregate_121 : decode b_QM_aggregate 121 = .ok (.ifCond .le 8, 3) := by decide +kernel
theorem d_QM_aggregate_124 : decode b_QM_aggregate 124 = .ok (.lload 14, 2) := by decide +kernel
theorem d_QM_aggregate_126 : decode b_QM_aggregate 126 = .ok (.goto 5, 3) := by decide +kernel
theorem d_QM_aggregate_129 : decode b_QM_aggregate 129 = .ok (.lload 11, 2) := by decide +kernel
theorem d_QM_aggregate_131 : decode b_QM_aggregate 131 = .ok (.lstore 11, 2) := by decide +kernel
theorem d_QM_aggregate_133 : decode b_QM_aggregate 133 = .ok (.iinc 6 1, 3) := by decide +kernel
theorem d_QM_aggregate_136 : decode b_QM_aggregate 136 = .ok (.lload 7, 2) := by decide +kernel
theorem d_QM_aggregate_138 : decode b_QM_aggregate 138 = .ok (.lload 14, 2) := by decide +kernel
theorem d_QM_aggregate_140 : decode b_QM_aggregate 140 = .ok (.bipush 32, 2) := by decide +kernel
theorem d_QM_aggregate_142 : decode b_QM_aggregate 142 = .ok (.lshr, 1) := by decide +kernel
theorem d_QM_aggregate_143 : decode b_QM_aggregate 143 = .ok (.ladd, 1) := by decide +kernel
theorem d_QM_aggregate_144 : decode b_QM_aggregate 144 = .ok (.lstore 7, 2) := by decide +kernel
theorem d_QM_aggregate_146 : decode b_QM_aggregate 146 = .ok (.lload 9, 2) := by decide +kernel
theorem d_QM_aggregate_148 : decode b_QM_aggregate 148 = .ok (.lload 14, 2) := by decide +kernel
theorem d_QM_aggregate_150 : decode b_QM_aggregate 150 = .ok (.ldc2_w 217, 3) := by decide +kernel
theorem d_QM_aggregate_153 : decode b_QM_aggregate 153 = .ok (.land, 1) := by decide +kernel
theorem d_QM_aggregate_154 : decode b_QM_aggregate 154 = .ok (.ladd, 1) := by decide +kernel
theorem d_QM_aggregate_155 : decode b_QM_aggregate 155 = .ok (.lstore 9, 2) := by decide +kernel
theorem d_QM_aggregate_157 : decode b_QM_aggregate 157 = .ok (.iinc 13 1, 3) := by decide +kernel
theorem d_QM_aggregate_160 : decode b_QM_aggregate 160 = .ok (.goto (-134), 3) := by decide +kernel
theorem d_QM_aggregate_163 : decode b_QM_aggregate 163 = .ok (.lload 7, 2) := by decide +kernel
theorem d_QM_aggregate_165 : decode b_QM_aggregate 165 = .ok (.lload 9, 2) := by decide +kernel
theorem d_QM_aggregate_167 : decode b_QM_aggregate 167 = .ok (.bipush 32, 2) := by decide +kernel
theorem d_QM_aggregate_169 : decode b_QM_aggregate 169 = .ok (.lshr, 1) := by decide +kernel
theorem d_QM_aggregate_170 : decode b_QM_aggregate 170 = .ok (.ladd, 1) := by decide +kernel
theorem d_QM_aggregate_171 : decode b_QM_aggregate 171 = .ok (.lstore 7, 2) := by decide +kernel
theorem d_QM_aggregate_173 : decode b_QM_aggregate 173 = .ok (.lload 7, 2) := by decide +kernel
theorem d_QM_aggregate_175 : decode b_QM_aggregate 175 = .ok (.ldc2_w 219, 3) := by decide +kernel
theorem d_QM_aggregate_178 : decode b_QM_aggregate 178 = .ok (.lcmp, 1) := by decide +kernel
theorem d_QM_aggregate_179 : decode b_QM_aggregate 179 = .ok (.ifCond .lt 16, 3) := by decide +kernel
theorem d_QM_aggregate_182 : decode b_QM_aggregate 182 = .ok (.lload 7, 2) := by decide +kernel
theorem d_QM_aggregate_184 : decode b_QM_aggregate 184 = .ok (.ldc2_w 221, 3) := by decide +kernel
theorem d_QM_aggregate_187 : decode b_QM_aggregate 187 = .ok (.lcmp, 1) := by decide +kernel
theorem d_QM_aggregate_188 : decode b_QM_aggregate 188 = .ok (.ifCond .gt 7, 3) := by decide +kernel
theorem d_QM_aggregate_191 : decode b_QM_aggregate 191 = .ok (.iconst 1, 1) := by decide +kernel
theorem d_QM_aggregate_192 : decode b_QM_aggregate 192 = .ok (.goto 4, 3) := by decide +kernel
theorem d_QM_aggregate_195 : decode b_QM_aggregate 195 = .ok (.iconst 0, 1) := by decide +kernel
theorem d_QM_aggregate_196 : decode b_QM_aggregate 196 = .ok (.istore 13, 2) := by decide +kernel
theorem d_QM_aggregate_198 : decode b_QM_aggregate 198 = .ok (.lload 7, 2) := by decide +kernel
theorem d_QM_aggregate_200 : decode b_QM_aggregate 200 = .ok (.bipush 32, 2) := by decide +kernel
theorem d_QM_aggregate_202 : decode b_QM_aggregate 202 = .ok (.lshl, 1) := by decide +kernel
theorem d_QM_aggregate_203 : decode b_QM_aggregate 203 = .ok (.lload 9, 2) := by decide +kernel
theorem d_QM_aggregate_205 : decode b_QM_aggregate 205 = .ok (.ldc2_w 217, 3) := by decide +kernel
theorem d_QM_aggregate_208 : decode b_QM_aggregate 208 = .ok (.land, 1) := by decide +kernel
theorem d_QM_aggregate_209 : decode b_QM_aggregate 209 = .ok (.lor, 1) := by decide +kernel
theorem d_QM_aggregate_210 : decode b_QM_aggregate 210 = .ok (.lstore 14, 2) := by decide +kernel
theorem d_QM_aggregate_212 : decode b_QM_aggregate 212 = .ok (.iload 4, 2) := by decide +kernel
theorem d_QM_aggregate_214 : decode b_QM_aggregate 214 = .ok (.iconst 1, 1) := by decide +kernel
theorem d_QM_aggregate_215 : decode b_QM_aggregate 215 = .ok (.if_icmp .ne 15, 3) := by decide +kernel
theorem d_QM_aggregate_218 : decode b_QM_aggregate 218 = .ok (.aload_n 0, 1) := by decide +kernel
theorem d_QM_aggregate_219 : decode b_QM_aggregate 219 = .ok (.iload_n 3, 1) := by decide +kernel
theorem d_QM_aggregate_220 : decode b_QM_aggregate 220 = .ok (.iload 5, 2) := by decide +kernel
theorem d_QM_aggregate_222 : decode b_QM_aggregate 222 = .ok (.i2l, 1) := by decide +kernel
theorem d_QM_aggregate_223 : decode b_QM_aggregate 223 = .ok (.iconst 0, 1) := by decide +kernel
theorem d_QM_aggregate_224 : decode b_QM_aggregate 224 = .ok (.invokevirtual 223, 3) := by decide +kernel
theorem d_QM_aggregate_227 : decode b_QM_aggregate 227 = .ok (.goto 69, 3) := by decide +kernel
theorem d_QM_aggregate_230 : decode b_QM_aggregate 230 = .ok (.iload 4, 2) := by decide +kernel
theorem d_QM_aggregate_232 : decode b_QM_aggregate 232 = .ok (.iconst 2, 1) := by decide +kernel
theorem d_QM_aggregate_233 : decode b_QM_aggregate 233 = .ok (.if_icmp .ne 15, 3) := by decide +kernel
theorem d_QM_aggregate_236 : decode b_QM_aggregate 236 = .ok (.aload_n 0, 1) := by decide +kernel
theorem d_QM_aggregate_237 : decode b_QM_aggregate 237 = .ok (.iload_n 3, 1) := by decide +kernel
theorem d_QM_aggregate_238 : decode b_QM_aggregate 238 = .ok (.iload 6, 2) := by decide +kernel
theorem d_QM_aggregate_240 : decode b_QM_aggregate 240 = .ok (.i2l, 1) := by decide +kernel
theorem d_QM_aggregate_241 : decode b_QM_aggregate 241 = .ok (.iconst 0, 1) := by decide +kernel
theorem d_QM_aggregate_242 : decode b_QM_aggregate 242 = .ok (.invokevirtual 223, 3) := by decide +kernel
theorem d_QM_aggregate_245 : decode b_QM_aggregate 245 = .ok (.goto 51, 3) := by decide +kernel
theorem d_QM_aggregate_248 : decode b_QM_aggregate 248 = .ok (.iload 4, 2) := by decide +kernel
theorem d_QM_aggregate_250 : decode b_QM_aggregate 250 = .ok (.iconst 3, 1) := by decide +kernel
theorem d_QM_aggregate_251 : decode b_QM_aggregate 251 = .ok (.if_icmp .ne 28, 3) := by decide +kernel
theorem d_QM_aggregate_254 : decode b_QM_aggregate 254 = .ok (.aload_n 0, 1) := by decide +kernel
theorem d_QM_aggregate_255 : decode b_QM_aggregate 255 = .ok (.iload_n 3, 1) := by decide +kernel
theorem d_QM_aggregate_256 : decode b_QM_aggregate 256 = .ok (.lload 14, 2) := by decide +kernel
theorem d_QM_aggregate_258 : decode b_QM_aggregate 258 = .ok (.iload 6, 2) := by decide +kernel
theorem d_QM_aggregate_260 : decode b_QM_aggregate 260 = .ok (.ifCond .eq 8, 3) := by decide +kernel
theorem d_QM_aggregate_263 : decode b_QM_aggregate 263 = .ok (.iload 13, 2) := by decide +kernel
theorem d_QM_aggregate_265 : decode b_QM_aggregate 265 = .ok (.ifCond .ne 7, 3) := by decide +kernel
theorem d_QM_aggregate_268 : decode b_QM_aggregate 268 = .ok (.iconst 1, 1) := by decide +kernel
theorem d_QM_aggregate_269 : decode b_QM_aggregate 269 = .ok (.goto 4, 3) := by decide +kernel
theorem d_QM_aggregate_272 : decode b_QM_aggregate 272 = .ok (.iconst 0, 1) := by decide +kernel
theorem d_QM_aggregate_273 : decode b_QM_aggregate 273 = .ok (.invokevirtual 223, 3) := by decide +kernel
theorem d_QM_aggregate_276 : decode b_QM_aggregate 276 = .ok (.goto 20, 3) := by decide +kernel
theorem d_QM_aggregate_279 : decode b_QM_aggregate 279 = .ok (.aload_n 0, 1) := by decide +kernel
theorem d_QM_aggregate_280 : decode b_QM_aggregate 280 = .ok (.iload_n 3, 1) := by decide +kernel
theorem d_QM_aggregate_281 : decode b_QM_aggregate 281 = .ok (.lload 11, 2) := by decide +kernel
theorem d_QM_aggregate_283 : decode b_QM_aggregate 283 = .ok (.iload 6, 2) := by decide +kernel
theorem d_QM_aggregate_285 : decode b_QM_aggregate 285 = .ok (.ifCond .ne 7, 3) := by decide +kernel
theorem d_QM_aggregate_288 : decode b_QM_aggregate 288 = .ok (.iconst 1, 1) := by decide +kernel
theorem d_QM_aggregate_289 : decode b_QM_aggregate 289 = .ok (.goto 4, 3) := by decide +kernel
theorem d_QM_aggregate_292 : decode b_QM_aggregate 292 = .ok (.iconst 0, 1) := by decide +kernel
theorem d_QM_aggregate_293 : decode b_QM_aggregate 293 = .ok (.invokevirtual 223, 3) := by decide +kernel
theorem d_QM_aggregate_296 : decode b_QM_aggregate 296 = .ok (.return_, 1) := by decide +kernel
theorem d_QM_groupRow_0 : decode b_QM_groupRow 0 = .ok (.iconst 0, 1) := by decide +kernel
theorem d_QM_groupRow_1 : decode b_QM_groupRow 1 = .ok (.istore_n 2, 1) := by decide +kernel
theorem d_QM_groupRow_2 : decode b_QM_groupRow 2 = .ok (.aload_n 0, 1) := by decide +kernel
theorem d_QM_groupRow_3 : decode b_QM_groupRow 3 = .ok (.getfield 126, 3) := by decide +kernel
theorem d_QM_groupRow_6 : decode b_QM_groupRow 6 = .ok (.ifCond .lt 36, 3) := by decide +kernel
theorem d_QM_groupRow_9 : decode b_QM_groupRow 9 = .ok (.aload_n 0, 1) := by decide +kernel
theorem d_QM_groupRow_10 : decode b_QM_groupRow 10 = .ok (.iconst 0, 1) := by decide +kernel
theorem d_QM_groupRow_11 : decode b_QM_groupRow 11 = .ok (.aload_n 0, 1) := by decide +kernel
theorem d_QM_groupRow_12 : decode b_QM_groupRow 12 = .ok (.getfield 48, 3) := by decide +kernel
theorem d_QM_groupRow_15 : decode b_QM_groupRow 15 = .ok (.iconst 4, 1) := by decide +kernel
theorem d_QM_groupRow_16 : decode b_QM_groupRow 16 = .ok (.iload_n 1, 1) := by decide +kernel
theorem d_QM_groupRow_17 : decode b_QM_groupRow 17 = .ok (.imul, 1) := by decide +kernel
theorem d_QM_groupRow_18 : decode b_QM_groupRow 18 = .ok (.aload_n 0, 1) := by decide +kernel
theorem d_QM_groupRow_19 : decode b_QM_groupRow 19 = .ok (.getfield 126, 3) := by decide +kernel
theorem d_QM_groupRow_22 : decode b_QM_groupRow 22 = .ok (.iadd, 1) := by decide +kernel
theorem d_QM_groupRow_23 : decode b_QM_groupRow 23 = .ok (.laload, 1) := by decide +kernel
theorem d_QM_groupRow_24 : decode b_QM_groupRow 24 = .ok (.aload_n 0, 1) := by decide +kernel
theorem d_QM_groupRow_25 : decode b_QM_groupRow 25 = .ok (.getfield 51, 3) := by decide +kernel
theorem d_QM_groupRow_28 : decode b_QM_groupRow 28 = .ok (.iconst 4, 1) := by decide +kernel
theorem d_QM_groupRow_29 : decode b_QM_groupRow 29 = .ok (.iload_n 1, 1) := by decide +kernel
theorem d_QM_groupRow_30 : decode b_QM_groupRow 30 = .ok (.imul, 1) := by decide +kernel
theorem d_QM_groupRow_31 : decode b_QM_groupRow 31 = .ok (.aload_n 0, 1) := by decide +kernel
theorem d_QM_groupRow_32 : decode b_QM_groupRow 32 = .ok (.getfield 126, 3) := by decide +kernel
theorem d_QM_groupRow_35 : decode b_QM_groupRow 35 = .ok (.iadd, 1) := by decide +kernel
theorem d_QM_groupRow_36 : decode b_QM_groupRow 36 = .ok (.baload, 1) := by decide +kernel
theorem d_QM_groupRow_37 : decode b_QM_groupRow 37 = .ok (.invokevirtual 223, 3) := by decide +kernel
theorem d_QM_groupRow_40 : decode b_QM_groupRow 40 = .ok (.iconst 1, 1) := by decide +kernel
theorem d_QM_groupRow_41 : decode b_QM_groupRow 41 = .ok (.istore_n 2, 1) := by decide +kernel
theorem d_QM_groupRow_42 : decode b_QM_groupRow 42 = .ok (.iconst 0, 1) := by decide +kernel
theorem d_QM_groupRow_43 : decode b_QM_groupRow 43 = .ok (.istore_n 3, 1) := by decide +kernel
theorem d_QM_groupRow_44 : decode b_QM_groupRow 44 = .ok (.iload_n 3, 1) := by decide +kernel
theorem d_QM_groupRow_45 : decode b_QM_groupRow 45 = .ok (.aload_n 0, 1) := by decide +kernel
theorem d_QM_groupRow_46 : decode b_QM_groupRow 46 = .ok (.getfield 144, 3) := by decide +kernel
theorem d_QM_groupRow_49 : decode b_QM_groupRow 49 = .ok (.if_icmp .ge 18, 3) := by decide +kernel
theorem d_QM_groupRow_52 : decode b_QM_groupRow 52 = .ok (.aload_n 0, 1) := by decide +kernel
theorem d_QM_groupRow_53 : decode b_QM_groupRow 53 = .ok (.iload_n 3, 1) := by decide +kernel
theorem d_QM_groupRow_54 : decode b_QM_groupRow 54 = .ok (.iload_n 1, 1) := by decide +kernel
theorem d_QM_groupRow_55 : decode b_QM_groupRow 55 = .ok (.iload_n 2, 1) := by decide +kernel
theorem d_QM_groupRow_56 : decode b_QM_groupRow 56 = .ok (.iload_n 3, 1) := by decide +kernel
theorem d_QM_groupRow_57 : decode b_QM_groupRow 57 = .ok (.iadd, 1) := by decide +kernel
theorem d_QM_groupRow_58 : decode b_QM_groupRow 58 = .ok (.invokevirtual 226, 3) := by decide +kernel
theorem d_QM_groupRow_61 : decode b_QM_groupRow 61 = .ok (.iinc 3 1, 3) := by decide +kernel
theorem d_QM_groupRow_64 : decode b_QM_groupRow 64 = .ok (.goto (-20), 3) := by decide +kernel
theorem d_QM_groupRow_67 : decode b_QM_groupRow 67 = .ok (.aload_n 0, 1) := by decide +kernel
theorem d_QM_groupRow_68 : decode b_QM_groupRow 68 = .ok (.dup, 1) := by decide +kernel
theorem d_QM_groupRow_69 : decode b_QM_groupRow 69 = .ok (.getfield 207, 3) := by decide +kernel
theorem d_QM_groupRow_72 : decode b_QM_groupRow 72 = .ok (.iconst 1, 1) := by decide +kernel
theorem d_QM_groupRow_73 : decode b_QM_groupRow 73 = .ok (.iadd, 1) := by decide +kernel
theorem d_QM_groupRow_74 : decode b_QM_groupRow 74 = .ok (.putfield 207, 3) := by decide +kernel
theorem d_QM_groupRow_77 : decode b_QM_groupRow 77 = .ok (.return_, 1) := by decide +kernel
theorem d_QM_firstOfGroup_0 : decode b_QM_firstOfGroup 0 = .ok (.iconst 1, 1) := by decide +kernel
theorem d_QM_firstOfGroup_1 : decode b_QM_firstOfGroup 1 = .ok (.istore_n 2, 1) := by decide +kernel
theorem d_QM_firstOfGroup_2 : decode b_QM_firstOfGroup 2 = .ok (.iconst 0, 1) := by decide +kernel
theorem d_QM_firstOfGroup_3 : decode b_QM_firstOfGroup 3 = .ok (.istore_n 3, 1) := by decide +kernel
theorem d_QM_firstOfGroup_4 : decode b_QM_firstOfGroup 4 = .ok (.iload_n 3, 1) := by decide +kernel
theorem d_QM_firstOfGroup_5 : decode b_QM_firstOfGroup 5 = .ok (.iload_n 1, 1) := by decide +kernel
theorem d_QM_firstOfGroup_6 : decode b_QM_firstOfGroup 6 = .ok (.if_icmp .ge 28, 3) := by decide +kernel
theorem d_QM_firstOfGroup_9 : decode b_QM_firstOfGroup 9 = .ok (.iload_n 2, 1) := by decide +kernel
theorem d_QM_firstOfGroup_10 : decode b_QM_firstOfGroup 10 = .ok (.ifCond .eq 24, 3) := by decide +kernel
theorem d_QM_firstOfGroup_13 : decode b_QM_firstOfGroup 13 = .ok (.aload_n 0, 1) := by decide +kernel
theorem d_QM_firstOfGroup_14 : decode b_QM_firstOfGroup 14 = .ok (.iload_n 3, 1) := by decide +kernel
theorem d_QM_firstOfGroup_15 : decode b_QM_firstOfGroup 15 = .ok (.iload_n 1, 1) := by decide +kernel
theorem d_QM_firstOfGroup_16 : decode b_QM_firstOfGroup 16 = .ok (.invokevirtual 210, 3) := by decide +kernel
theorem d_QM_firstOfGroup_19 : decode b_QM_firstOfGroup 19 = .ok (.ifCond .ne 7, 3) := by decide +kernel
theorem d_QM_firstOfGroup_22 : decode b_QM_firstOfGroup 22 = .ok (.iconst 1, 1) := by decide +kernel
theorem d_QM_firstOfGroup_23 : decode b_QM_firstOfGroup 23 = .ok (.goto 4, 3) := by decide +kernel
theorem d_QM_firstOfGroup_26 : decode b_QM_firstOfGroup 26 = .ok (.iconst 0, 1) := by decide +kernel
theorem d_QM_firstOfGroup_27 : decode b_QM_firstOfGroup 27 = .ok (.istore_n 2, 1) := by decide +kernel
theorem d_QM_firstOfGroup_28 : decode b_QM_firstOfGroup 28 = .ok (.iinc 3 1, 3) := by decide +kernel
theorem d_QM_firstOfGroup_31 : decode b_QM_firstOfGroup 31 = .ok (.goto (-27), 3) := by decide +kernel
theorem d_QM_firstOfGroup_34 : decode b_QM_firstOfGroup 34 = .ok (.iload_n 2, 1) := by decide +kernel
theorem d_QM_firstOfGroup_35 : decode b_QM_firstOfGroup 35 = .ok (.ireturn, 1) := by decide +kernel
theorem d_QM_makeResults_0 : decode b_QM_makeResults 0 = .ok (.aload_n 0, 1) := by decide +kernel
theorem d_QM_makeResults_1 : decode b_QM_makeResults 1 = .ok (.iconst 0, 1) := by decide +kernel
theorem d_QM_makeResults_2 : decode b_QM_makeResults 2 = .ok (.putfield 207, 3) := by decide +kernel
theorem d_QM_makeResults_5 : decode b_QM_makeResults 5 = .ok (.aload_n 0, 1) := by decide +kernel
theorem d_QM_makeResults_6 : decode b_QM_makeResults 6 = .ok (.invokevirtual 229, 3) := by decide +kernel
theorem d_QM_makeResults_9 : decode b_QM_makeResults 9 = .ok (.ifCond .ne 7, 3) := by decide +kernel
theorem d_QM_makeResults_12 : decode b_QM_makeResults 12 = .ok (.iconst 1, 1) := by decide +kernel
theorem d_QM_makeResults_13 : decode b_QM_makeResults 13 = .ok (.goto 4, 3) := by decide +kernel
theorem d_QM_makeResults_16 : decode b_QM_makeResults 16 = .ok (.iconst 0, 1) := by decide +kernel
theorem d_QM_makeResults_17 : decode b_QM_makeResults 17 = .ok (.istore_n 1, 1) := by decide +kernel
theorem d_QM_makeResults_18 : decode b_QM_makeResults 18 = .ok (.aload_n 0, 1) := by decide +kernel
theorem d_QM_makeResults_19 : decode b_QM_makeResults 19 = .ok (.aload_n 0, 1) := by decide +kernel
theorem d_QM_makeResults_20 : decode b_QM_makeResults 20 = .ok (.getfield 144, 3) := by decide +kernel
theorem d_QM_makeResults_23 : decode b_QM_makeResults 23 = .ok (.aload_n 0, 1) := by decide +kernel
theorem d_QM_makeResults_24 : decode b_QM_makeResults 24 = .ok (.getfield 126, 3) := by decide +kernel
theorem d_QM_makeResults_27 : decode b_QM_makeResults 27 = .ok (.ifCond .lt 7, 3) := by decide +kernel
theorem d_QM_makeResults_30 : decode b_QM_makeResults 30 = .ok (.iconst 1, 1) := by decide +kernel
theorem d_QM_makeResults_31 : decode b_QM_makeResults 31 = .ok (.goto 4, 3) := by decide +kernel
theorem d_QM_makeResults_34 : decode b_QM_makeResults 34 = .ok (.iconst 0, 1) := by decide +kernel
theorem d_QM_makeResults_35 : decode b_QM_makeResults 35 = .ok (.iadd, 1) := by decide +kernel
theorem d_QM_makeResults_36 : decode b_QM_makeResults 36 = .ok (.putfield 232, 3) := by decide +kernel
theorem d_QM_makeResults_39 : decode b_QM_makeResults 39 = .ok (.iload_n 1, 1) := by decide +kernel
theorem d_QM_makeResults_40 : decode b_QM_makeResults 40 = .ok (.ifCond .ne 16, 3) := by decide +kernel
theorem d_QM_makeResults_43 : decode b_QM_makeResults 43 = .ok (.aload_n 0, 1) := by decide +kernel
theorem d_QM_makeResults_44 : decode b_QM_makeResults 44 = .ok (.getfield 126, 3) := by decide +kernel
theorem d_QM_makeResults_47 : decode b_QM_makeResults 47 = .ok (.ifCond .ge 9, 3) := by decide +kernel
theorem d_QM_makeResults_50 : decode b_QM_makeResults 50 = .ok (.aload_n 0, 1) := by decide +kernel
theorem d_QM_makeResults_51 : decode b_QM_makeResults 51 = .ok (.iconst 0, 1) := by decide +kernel
theorem d_QM_makeResults_52 : decode b_QM_makeResults 52 = .ok (.invokevirtual 235, 3) := by decide +kernel
theorem d_QM_makeResults_55 : decode b_QM_makeResults 55 = .ok (.return_, 1) := by decide +kernel
theorem d_QM_makeResults_56 : decode b_QM_makeResults 56 = .ok (.iconst 0, 1) := by decide +kernel
theorem d_QM_makeResults_57 : decode b_QM_makeResults 57 = .ok (.istore_n 2, 1) := by decide +kernel
theorem d_QM_makeResults_58 : decode b_QM_makeResults 58 = .ok (.iload_n 2, 1) := by decide +kernel
theorem d_QM_makeResults_59 : decode b_QM_makeResults 59 = .ok (.aload_n 0, 1) := by decide +kernel
theorem d_QM_makeResults_60 : decode b_QM_makeResults 60 = .ok (.getfield 191, 3) := by decide +kernel
theorem d_QM_makeResults_63 : decode b_QM_makeResults 63 = .ok (.if_icmp .ge 85, 3) := by decide +kernel
theorem d_QM_makeResults_66 : decode b_QM_makeResults 66 = .ok (.iload_n 1, 1) := by decide +kernel
theorem d_QM_makeResults_67 : decode b_QM_makeResults 67 = .ok (.ifCond .eq 62, 3) := by decide +kernel
theorem d_QM_makeResults_70 : decode b_QM_makeResults 70 = .ok (.aload_n 0, 1) := by decide +kernel
theorem d_QM_makeResults_71 : decode b_QM_makeResults 71 = .ok (.iload_n 2, 1) := by decide +kernel
theorem d_QM_makeResults_72 : decode b_QM_makeResults 72 = .ok (.invokevirtual 214, 3) := by decide +kernel
theorem d_QM_makeResults_75 : decode b_QM_makeResults 75 = .ok (.iconst 0, 1) := by decide +kernel
theorem d_QM_makeResults_76 : decode b_QM_makeResults 76 = .ok (.istore_n 3, 1) := by decide +kernel
theorem d_QM_makeResults_77 : decode b_QM_makeResults 77 = .ok (.iload_n 3, 1) := by decide +kernel
theorem d_QM_makeResults_78 : decode b_QM_makeResults 78 = .ok (.aload_n 0, 1) := by decide +kernel
theorem d_QM_makeResults_79 : decode b_QM_makeResults 79 = .ok (.getfield 144, 3) := by decide +kernel
theorem d_QM_makeResults_82 : decode b_QM_makeResults 82 = .ok (.if_icmp .ge 34, 3) := by decide +kernel
theorem d_QM_makeResults_85 : decode b_QM_makeResults 85 = .ok (.aload_n 0, 1) := by decide +kernel
theorem d_QM_makeResults_86 : decode b_QM_makeResults 86 = .ok (.bipush 14, 2) := by decide +kernel
theorem d_QM_makeResults_88 : decode b_QM_makeResults 88 = .ok (.iload_n 3, 1) := by decide +kernel
theorem d_QM_makeResults_89 : decode b_QM_makeResults 89 = .ok (.iadd, 1) := by decide +kernel
theorem d_QM_makeResults_90 : decode b_QM_makeResults 90 = .ok (.invokevirtual 181, 3) := by decide +kernel
theorem d_QM_makeResults_93 : decode b_QM_makeResults 93 = .ok (.aload_n 0, 1) := by decide +kernel
theorem d_QM_makeResults_94 : decode b_QM_makeResults 94 = .ok (.iload_n 3, 1) := by decide +kernel
theorem d_QM_makeResults_95 : decode b_QM_makeResults 95 = .ok (.aload_n 0, 1) := by decide +kernel
theorem d_QM_makeResults_96 : decode b_QM_makeResults 96 = .ok (.getfield 36, 3) := by decide +kernel
theorem d_QM_makeResults_99 : decode b_QM_makeResults 99 = .ok (.iconst 0, 1) := by decide +kernel
theorem d_QM_makeResults_100 : decode b_QM_makeResults 100 = .ok (.laload, 1) := by decide +kernel
theorem d_QM_makeResults_101 : decode b_QM_makeResults 101 = .ok (.aload_n 0, 1) := by decide +kernel
theorem d_QM_makeResults_102 : decode b_QM_makeResults 102 = .ok (.getfield 39, 3) := by decide +kernel
theorem d_QM_makeResults_105 : decode b_QM_makeResults 105 = .ok (.iconst 0, 1) := by decide +kernel
theorem d_QM_makeResults_106 : decode b_QM_makeResults 106 = .ok (.baload, 1) := by decide +kernel
theorem d_QM_makeResults_107 : decode b_QM_makeResults 107 = .ok (.invokevirtual 223, 3) := by decide +kernel
theorem d_QM_makeResults_110 : decode b_QM_makeResults 110 = .ok (.iinc 3 1, 3) := by decide +kernel
theorem d_QM_makeResults_113 : decode b_QM_makeResults 113 = .ok (.goto (-36), 3) := by decide +kernel
theorem d_QM_makeResults_116 : decode b_QM_makeResults 116 = .ok (.aload_n 0, 1) := by decide +kernel
theorem d_QM_makeResults_117 : decode b_QM_makeResults 117 = .ok (.dup, 1) := by decide +kernel
theorem d_QM_makeResults_118 : decode b_QM_makeResults 118 = .ok (.getfield 207, 3) := by decide +kernel
theorem d_QM_makeResults_121 : decode b_QM_makeResults 121 = .ok (.iconst 1, 1) := by decide +kernel
theorem d_QM_makeResults_122 : decode b_QM_makeResults 122 = .ok (.iadd, 1) := by decide +kernel
theorem d_QM_makeResults_123 : decode b_QM_makeResults 123 = .ok (.putfield 207, 3) := by decide +kernel
theorem d_QM_makeResults_126 : decode b_QM_makeResults 126 = .ok (.goto 16, 3) := by decide +kernel
theorem d_QM_makeResults_129 : decode b_QM_makeResults 129 = .ok (.aload_n 0, 1) := by decide +kernel
theorem d_QM_makeResults_130 : decode b_QM_makeResults 130 = .ok (.iload_n 2, 1) := by decide +kernel
theorem d_QM_makeResults_131 : decode b_QM_makeResults 131 = .ok (.invokevirtual 238, 3) := by decide +kernel
theorem d_QM_makeResults_134 : decode b_QM_makeResults 134 = .ok (.ifCond .eq 8, 3) := by decide +kernel
theorem d_QM_makeResults_137 : decode b_QM_makeResults 137 = .ok (.aload_n 0, 1) := by decide +kernel
theorem d_QM_makeResults_138 : decode b_QM_makeResults 138 = .ok (.iload_n 2, 1) := by decide +kernel
theorem d_QM_makeResults_139 : decode b_QM_makeResults 139 = .ok (.invokevirtual 235, 3) := by decide +kernel
theorem d_QM_makeResults_142 : decode b_QM_makeResults 142 = .ok (.iinc 2 1, 3) := by decide +kernel
theorem d_QM_makeResults_145 : decode b_QM_makeResults 145 = .ok (.goto (-87), 3) := by decide +kernel
theorem d_QM_makeResults_148 : decode b_QM_makeResults 148 = .ok (.return_, 1) := by decide +kernel
theorem d_QM_compare_0 : decode b_QM_compare 0 = .ok (.iconst 4, 1) := by decide +kernel
theorem d_QM_compare_1 : decode b_QM_compare 1 = .ok (.iload_n 1, 1) := by decide +kernel
theorem d_QM_compare_2 : decode b_QM_compare 2 = .ok (.imul, 1) := by decide +kernel
theorem d_QM_compare_3 : decode b_QM_compare 3 = .ok (.iload_n 3, 1) := by decide +kernel
theorem d_QM_compare_4 : decode b_QM_compare 4 = .ok (.iadd, 1) := by decide +kernel
theorem d_QM_compare_5 : decode b_QM_compare 5 = .ok (.istore 4, 2) := by decide +kernel
theorem d_QM_compare_7 : decode b_QM_compare 7 = .ok (.iconst 4, 1) := by decide +kernel
theorem d_QM_compare_8 : decode b_QM_compare 8 = .ok (.iload_n 2, 1) := by decide +kernel
theorem d_QM_compare_9 : decode b_QM_compare 9 = .ok (.imul, 1) := by decide +kernel
theorem d_QM_compare_10 : decode b_QM_compare 10 = .ok (.iload_n 3, 1) := by decide +kernel
theorem d_QM_compare_11 : decode b_QM_compare 11 = .ok (.iadd, 1) := by decide +kernel
theorem d_QM_compare_12 : decode b_QM_compare 12 = .ok (.istore 5, 2) := by decide +kernel
theorem d_QM_compare_14 : decode b_QM_compare 14 = .ok (.aload_n 0, 1) := by decide +kernel
theorem d_QM_compare_15 : decode b_QM_compare 15 = .ok (.getfield 57, 3) := by decide +kernel
theorem d_QM_compare_18 : decode b_QM_compare 18 = .ok (.iload 4, 2) := by decide +kernel
theorem d_QM_compare_20 : decode b_QM_compare 20 = .ok (.baload, 1) := by decide +kernel
theorem d_QM_compare_21 : decode b_QM_compare 21 = .ok (.ifCond .ne 13, 3) := by decide +kernel
theorem d_QM_compare_24 : decode b_QM_compare 24 = .ok (.aload_n 0, 1) := by decide +kernel
theorem d_QM_compare_25 : decode b_QM_compare 25 = .ok (.getfield 57, 3) := by decide +kernel
theorem d_QM_compare_28 : decode b_QM_compare 28 = .ok (.iload 5, 2) := by decide +kernel
theorem d_QM_compare_30 : decode b_QM_compare 30 = .ok (.baload, 1) := by decide +kernel
theorem d_QM_compare_31 : decode b_QM_compare 31 = .ok (.ifCond .eq 40, 3) := by decide +kernel
theorem d_QM_compare_34 : decode b_QM_compare 34 = .ok (.aload_n 0, 1) := by decide +kernel
theorem d_QM_compare_35 : decode b_QM_compare 35 = .ok (.getfield 57, 3) := by decide +kernel
theorem d_QM_compare_38 : decode b_QM_compare 38 = .ok (.iload 4, 2) := by decide +kernel
theorem d_QM_compare_40 : decode b_QM_compare 40 = .ok (.baload, 1) := by decide +kernel
theorem d_QM_compare_41 : decode b_QM_compare 41 = .ok (.aload_n 0, 1) := by decide +kernel
theorem d_QM_compare_42 : decode b_QM_compare 42 = .ok (.getfield 57, 3) := by decide +kernel
theorem d_QM_compare_45 : decode b_QM_compare 45 = .ok (.iload 5, 2) := by decide +kernel
theorem d_QM_compare_47 : decode b_QM_compare 47 = .ok (.baload, 1) := by decide +kernel
theorem d_QM_compare_48 : decode b_QM_compare 48 = .ok (.if_icmp .ne 7, 3) := by decide +kernel
theorem d_QM_compare_51 : decode b_QM_compare 51 = .ok (.iconst 0, 1) := by decide +kernel
theorem d_QM_compare_52 : decode b_QM_compare 52 = .ok (.goto 18, 3) := by decide +kernel
theorem d_QM_compare_55 : decode b_QM_compare 55 = .ok (.aload_n 0, 1) := by decide +kernel
theorem d_QM_compare_56 : decode b_QM_compare 56 = .ok (.getfield 57, 3) := by decide +kernel
theorem d_QM_compare_59 : decode b_QM_compare 59 = .ok (.iload 4, 2) := by decide +kernel
theorem d_QM_compare_61 : decode b_QM_compare 61 = .ok (.baload, 1) := by decide +kernel
theorem d_QM_compare_62 : decode b_QM_compare 62 = .ok (.ifCond .eq 7, 3) := by decide +kernel
theorem d_QM_compare_65 : decode b_QM_compare 65 = .ok (.iconst (-1), 1) := by decide +kernel
theorem d_QM_compare_66 : decode b_QM_compare 66 = .ok (.goto 4, 3) := by decide +kernel
theorem d_QM_compare_69 : decode b_QM_compare 69 = .ok (.iconst 1, 1) := by decide +kernel
theorem d_QM_compare_70 : decode b_QM_compare 70 = .ok (.ireturn, 1) := by decide +kernel
theorem d_QM_compare_71 : decode b_QM_compare 71 = .ok (.aload_n 0, 1) := by decide +kernel
theorem d_QM_compare_72 : decode b_QM_compare 72 = .ok (.getfield 54, 3) := by decide +kernel
theorem d_QM_compare_75 : decode b_QM_compare 75 = .ok (.iload 4, 2) := by decide +kernel
theorem d_QM_compare_77 : decode b_QM_compare 77 = .ok (.laload, 1) := by decide +kernel
theorem d_QM_compare_78 : decode b_QM_compare 78 = .ok (.aload_n 0, 1) := by decide +kernel
theorem d_QM_compare_79 : decode b_QM_compare 79 = .ok (.getfield 54, 3) := by decide +kernel
theorem d_QM_compare_82 : decode b_QM_compare 82 = .ok (.iload 5, 2) := by decide +kernel
theorem d_QM_compare_84 : decode b_QM_compare 84 = .ok (.laload, 1) := by decide +kernel
theorem d_QM_compare_85 : decode b_QM_compare 85 = .ok (.lcmp, 1) := by decide +kernel
theorem d_QM_compare_86 : decode b_QM_compare 86 = .ok (.ifCond .ge 7, 3) := by decide +kernel
theorem d_QM_compare_89 : decode b_QM_compare 89 = .ok (.iconst (-1), 1) := by decide +kernel
theorem d_QM_compare_90 : decode b_QM_compare 90 = .ok (.goto 26, 3) := by decide +kernel
theorem d_QM_compare_93 : decode b_QM_compare 93 = .ok (.aload_n 0, 1) := by decide +kernel
theorem d_QM_compare_94 : decode b_QM_compare 94 = .ok (.getfield 54, 3) := by decide +kernel
theorem d_QM_compare_97 : decode b_QM_compare 97 = .ok (.iload 4, 2) := by decide +kernel
theorem d_QM_compare_99 : decode b_QM_compare 99 = .ok (.laload, 1) := by decide +kernel
theorem d_QM_compare_100 : decode b_QM_compare 100 = .ok (.aload_n 0, 1) := by decide +kernel
theorem d_QM_compare_101 : decode b_QM_compare 101 = .ok (.getfield 54, 3) := by decide +kernel
theorem d_QM_compare_104 : decode b_QM_compare 104 = .ok (.iload 5, 2) := by decide +kernel
theorem d_QM_compare_106 : decode b_QM_compare 106 = .ok (.laload, 1) := by decide +kernel
theorem d_QM_compare_107 : decode b_QM_compare 107 = .ok (.lcmp, 1) := by decide +kernel
theorem d_QM_compare_108 : decode b_QM_compare 108 = .ok (.ifCond .le 7, 3) := by decide +kernel
theorem d_QM_compare_111 : decode b_QM_compare 111 = .ok (.iconst 1, 1) := by decide +kernel
theorem d_QM_compare_112 : decode b_QM_compare 112 = .ok (.goto 4, 3) := by decide +kernel
theorem d_QM_compare_115 : decode b_QM_compare 115 = .ok (.iconst 0, 1) := by decide +kernel
theorem d_QM_compare_116 : decode b_QM_compare 116 = .ok (.ireturn, 1) := by decide +kernel
theorem d_QM_before_0 : decode b_QM_before 0 = .ok (.aload_n 0, 1) := by decide +kernel
theorem d_QM_before_1 : decode b_QM_before 1 = .ok (.getfield 129, 3) := by decide +kernel
theorem d_QM_before_4 : decode b_QM_before 4 = .ok (.aload_n 0, 1) := by decide +kernel
theorem d_QM_before_5 : decode b_QM_before 5 = .ok (.getfield 232, 3) := by decide +kernel
theorem d_QM_before_8 : decode b_QM_before 8 = .ok (.if_icmp .ge 10, 3) := by decide +kernel
theorem d_QM_before_11 : decode b_QM_before 11 = .ok (.aload_n 0, 1) := by decide +kernel
theorem d_QM_before_12 : decode b_QM_before 12 = .ok (.getfield 129, 3) := by decide +kernel
theorem d_QM_before_15 : decode b_QM_before 15 = .ok (.goto 4, 3) := by decide +kernel
theorem d_QM_before_18 : decode b_QM_before 18 = .ok (.iconst 0, 1) := by decide +kernel
theorem d_QM_before_19 : decode b_QM_before 19 = .ok (.istore_n 3, 1) := by decide +kernel
theorem d_QM_before_20 : decode b_QM_before 20 = .ok (.aload_n 0, 1) := by decide +kernel
theorem d_QM_before_21 : decode b_QM_before 21 = .ok (.iload_n 1, 1) := by decide +kernel
theorem d_QM_before_22 : decode b_QM_before 22 = .ok (.iload_n 2, 1) := by decide +kernel
theorem d_QM_before_23 : decode b_QM_before 23 = .ok (.iload_n 3, 1) := by decide +kernel
theorem d_QM_before_24 : decode b_QM_before 24 = .ok (.invokevirtual 241, 3) := by decide +kernel
theorem d_QM_before_27 : decode b_QM_before 27 = .ok (.istore 4, 2) := by decide +kernel
theorem d_QM_before_29 : decode b_QM_before 29 = .ok (.iload 4, 2) := by decide +kernel
theorem d_QM_before_31 : decode b_QM_before 31 = .ok (.ifCond .eq 34, 3) := by decide +kernel
theorem d_QM_before_34 : decode b_QM_before 34 = .ok (.aload_n 0, 1) := by decide +kernel
theorem d_QM_before_35 : decode b_QM_before 35 = .ok (.getfield 132, 3) := by decide +kernel
theorem d_QM_before_38 : decode b_QM_before 38 = .ok (.ifCond .eq 16, 3) := by decide +kernel
theorem d_QM_before_41 : decode b_QM_before 41 = .ok (.iload 4, 2) := by decide +kernel
theorem d_QM_before_43 : decode b_QM_before 43 = .ok (.ifCond .le 7, 3) := by decide +kernel
theorem d_QM_before_46 : decode b_QM_before 46 = .ok (.iconst 1, 1) := by decide +kernel
theorem d_QM_before_47 : decode b_QM_before 47 = .ok (.goto 17, 3) := by decide +kernel
theorem d_QM_before_50 : decode b_QM_before 50 = .ok (.iconst 0, 1) := by decide +kernel
theorem d_QM_before_51 : decode b_QM_before 51 = .ok (.goto 13, 3) := by decide +kernel
theorem d_QM_before_54 : decode b_QM_before 54 = .ok (.iload 4, 2) := by decide +kernel
theorem d_QM_before_56 : decode b_QM_before 56 = .ok (.ifCond .ge 7, 3) := by decide +kernel
theorem d_QM_before_59 : decode b_QM_before 59 = .ok (.iconst 1, 1) := by decide +kernel
theorem d_QM_before_60 : decode b_QM_before 60 = .ok (.goto 4, 3) := by decide +kernel
theorem d_QM_before_63 : decode b_QM_before 63 = .ok (.iconst 0, 1) := by decide +kernel
theorem d_QM_before_64 : decode b_QM_before 64 = .ok (.ireturn, 1) := by decide +kernel
theorem d_QM_before_65 : decode b_QM_before 65 = .ok (.iconst 0, 1) := by decide +kernel
theorem d_QM_before_66 : decode b_QM_before 66 = .ok (.istore 5, 2) := by decide +kernel
theorem d_QM_before_68 : decode b_QM_before 68 = .ok (.iload 5, 2) := by decide +kernel
theorem d_QM_before_70 : decode b_QM_before 70 = .ok (.aload_n 0, 1) := by decide +kernel
theorem d_QM_before_71 : decode b_QM_before 71 = .ok (.getfield 232, 3) := by decide +kernel
theorem d_QM_before_74 : decode b_QM_before 74 = .ok (.if_icmp .ge 24, 3) := by decide +kernel
theorem d_QM_before_77 : decode b_QM_before 77 = .ok (.iload 4, 2) := by decide +kernel
theorem d_QM_before_79 : decode b_QM_before 79 = .ok (.ifCond .ne 19, 3) := by decide +kernel
theorem d_QM_before_82 : decode b_QM_before 82 = .ok (.aload_n 0, 1) := by decide +kernel
theorem d_QM_before_83 : decode b_QM_before 83 = .ok (.iload_n 1, 1) := by decide +kernel
theorem d_QM_before_84 : decode b_QM_before 84 = .ok (.iload_n 2, 1) := by decide +kernel
theorem d_QM_before_85 : decode b_QM_before 85 = .ok (.iload 5, 2) := by decide +kernel
theorem d_QM_before_87 : decode b_QM_before 87 = .ok (.invokevirtual 241, 3) := by decide +kernel
theorem d_QM_before_90 : decode b_QM_before 90 = .ok (.istore 4, 2) := by decide +kernel
theorem d_QM_before_92 : decode b_QM_before 92 = .ok (.iinc 5 1, 3) := by decide +kernel
theorem d_QM_before_95 : decode b_QM_before 95 = .ok (.goto (-27), 3) := by decide +kernel
theorem d_QM_before_98 : decode b_QM_before 98 = .ok (.iload 4, 2) := by decide +kernel
theorem d_QM_before_100 : decode b_QM_before 100 = .ok (.ifCond .ge 7, 3) := by decide +kernel
theorem d_QM_before_103 : decode b_QM_before 103 = .ok (.iconst 1, 1) := by decide +kernel
theorem d_QM_before_104 : decode b_QM_before 104 = .ok (.goto 4, 3) := by decide +kernel
theorem d_QM_before_107 : decode b_QM_before 107 = .ok (.iconst 0, 1) := by decide +kernel
theorem d_QM_before_108 : decode b_QM_before 108 = .ok (.ireturn, 1) := by decide +kernel
theorem d_QM_sort_0 : decode b_QM_sort 0 = .ok (.iconst 0, 1) := by decide +kernel
theorem d_QM_sort_1 : decode b_QM_sort 1 = .ok (.istore_n 1, 1) := by decide +kernel
theorem d_QM_sort_2 : decode b_QM_sort 2 = .ok (.iload_n 1, 1) := by decide +kernel
theorem d_QM_sort_3 : decode b_QM_sort 3 = .ok (.aload_n 0, 1) := by decide +kernel
theorem d_QM_sort_4 : decode b_QM_sort 4 = .ok (.getfield 207, 3) := by decide +kernel
theorem d_QM_sort_7 : decode b_QM_sort 7 = .ok (.if_icmp .ge 58, 3) := by decide +kernel
theorem d_QM_sort_10 : decode b_QM_sort 10 = .ok (.iload_n 1, 1) := by decide +kernel
theorem d_QM_sort_11 : decode b_QM_sort 11 = .ok (.istore_n 2, 1) := by decide +kernel
theorem d_QM_sort_12 : decode b_QM_sort 12 = .ok (.iload_n 2, 1) := by decide +kernel
theorem d_QM_sort_13 : decode b_QM_sort 13 = .ok (.ifCond .le 39, 3) := by decide +kernel
theorem d_QM_sort_16 : decode b_QM_sort 16 = .ok (.aload_n 0, 1) := by decide +kernel
theorem d_QM_sort_17 : decode b_QM_sort 17 = .ok (.iload_n 1, 1) := by decide +kernel
theorem d_QM_sort_18 : decode b_QM_sort 18 = .ok (.aload_n 0, 1) := by decide +kernel
theorem d_QM_sort_19 : decode b_QM_sort 19 = .ok (.getfield 60, 3) := by decide +kernel
theorem d_QM_sort_22 : decode b_QM_sort 22 = .ok (.iload_n 2, 1) := by decide +kernel
theorem d_QM_sort_23 : decode b_QM_sort 23 = .ok (.iconst 1, 1) := by decide +kernel
theorem d_QM_sort_24 : decode b_QM_sort 24 = .ok (.isub, 1) := by decide +kernel
theorem d_QM_sort_25 : decode b_QM_sort 25 = .ok (.iaload, 1) := by decide +kernel
theorem d_QM_sort_26 : decode b_QM_sort 26 = .ok (.invokevirtual 245, 3) := by decide +kernel
theorem d_QM_sort_29 : decode b_QM_sort 29 = .ok (.ifCond .eq 23, 3) := by decide +kernel
theorem d_QM_sort_32 : decode b_QM_sort 32 = .ok (.aload_n 0, 1) := by decide +kernel
theorem d_QM_sort_33 : decode b_QM_sort 33 = .ok (.getfield 60, 3) := by decide +kernel
theorem d_QM_sort_36 : decode b_QM_sort 36 = .ok (.iload_n 2, 1) := by decide +kernel
theorem d_QM_sort_37 : decode b_QM_sort 37 = .ok (.aload_n 0, 1) := by decide +kernel
theorem d_QM_sort_38 : decode b_QM_sort 38 = .ok (.getfield 60, 3) := by decide +kernel
theorem d_QM_sort_41 : decode b_QM_sort 41 = .ok (.iload_n 2, 1) := by decide +kernel
theorem d_QM_sort_42 : decode b_QM_sort 42 = .ok (.iconst 1, 1) := by decide +kernel
theorem d_QM_sort_43 : decode b_QM_sort 43 = .ok (.isub, 1) := by decide +kernel
theorem d_QM_sort_44 : decode b_QM_sort 44 = .ok (.iaload, 1) := by decide +kernel
theorem d_QM_sort_45 : decode b_QM_sort 45 = .ok (.iastore, 1) := by decide +kernel
theorem d_QM_sort_46 : decode b_QM_sort 46 = .ok (.iinc 2 (-1), 3) := by decide +kernel
theorem d_QM_sort_49 : decode b_QM_sort 49 = .ok (.goto (-37), 3) := by decide +kernel
theorem d_QM_sort_52 : decode b_QM_sort 52 = .ok (.aload_n 0, 1) := by decide +kernel
theorem d_QM_sort_53 : decode b_QM_sort 53 = .ok (.getfield 60, 3) := by decide +kernel
theorem d_QM_sort_56 : decode b_QM_sort 56 = .ok (.iload_n 2, 1) := by decide +kernel
theorem d_QM_sort_57 : decode b_QM_sort 57 = .ok (.iload_n 1, 1) := by decide +kernel
theorem d_QM_sort_58 : decode b_QM_sort 58 = .ok (.iastore, 1) := by decide +kernel
theorem d_QM_sort_59 : decode b_QM_sort 59 = .ok (.iinc 1 1, 3) := by decide +kernel
theorem d_QM_sort_62 : decode b_QM_sort 62 = .ok (.goto (-60), 3) := by decide +kernel
theorem d_QM_sort_65 : decode b_QM_sort 65 = .ok (.return_, 1) := by decide +kernel
theorem d_QM_partOf_0 : decode b_QM_partOf 0 = .ok (.iload_n 3, 1) := by decide +kernel
theorem d_QM_partOf_1 : decode b_QM_partOf 1 = .ok (.ifCond .eq 5, 3) := by decide +kernel
theorem d_QM_partOf_4 : decode b_QM_partOf 4 = .ok (.iconst 0, 1) := by decide +kernel
theorem d_QM_partOf_5 : decode b_QM_partOf 5 = .ok (.ireturn, 1) := by decide +kernel
theorem d_QM_partOf_6 : decode b_QM_partOf 6 = .ok (.lload_n 1, 1) := by decide +kernel
theorem d_QM_partOf_7 : decode b_QM_partOf 7 = .ok (.aload_n 0, 1) := by decide +kernel
theorem d_QM_partOf_8 : decode b_QM_partOf 8 = .ok (.getfield 248, 3) := by decide +kernel
theorem d_QM_partOf_11 : decode b_QM_partOf 11 = .ok (.i2l, 1) := by decide +kernel
theorem d_QM_partOf_12 : decode b_QM_partOf 12 = .ok (.lrem, 1) := by decide +kernel
theorem d_QM_partOf_13 : decode b_QM_partOf 13 = .ok (.lstore 4, 2) := by decide +kernel
theorem d_QM_partOf_15 : decode b_QM_partOf 15 = .ok (.lload 4, 2) := by decide +kernel
theorem d_QM_partOf_17 : decode b_QM_partOf 17 = .ok (.lconst 0, 1) := by decide +kernel
theorem d_QM_partOf_18 : decode b_QM_partOf 18 = .ok (.lcmp, 1) := by decide +kernel
theorem d_QM_partOf_19 : decode b_QM_partOf 19 = .ok (.ifCond .ge 14, 3) := by decide +kernel
theorem d_QM_partOf_22 : decode b_QM_partOf 22 = .ok (.lload 4, 2) := by decide +kernel
theorem d_QM_partOf_24 : decode b_QM_partOf 24 = .ok (.aload_n 0, 1) := by decide +kernel
theorem d_QM_partOf_25 : decode b_QM_partOf 25 = .ok (.getfield 248, 3) := by decide +kernel
theorem d_QM_partOf_28 : decode b_QM_partOf 28 = .ok (.i2l, 1) := by decide +kernel
theorem d_QM_partOf_29 : decode b_QM_partOf 29 = .ok (.ladd, 1) := by decide +kernel
theorem d_QM_partOf_30 : decode b_QM_partOf 30 = .ok (.goto 5, 3) := by decide +kernel
theorem d_QM_partOf_33 : decode b_QM_partOf 33 = .ok (.lload 4, 2) := by decide +kernel
theorem d_QM_partOf_35 : decode b_QM_partOf 35 = .ok (.l2i, 1) := by decide +kernel
theorem d_QM_partOf_36 : decode b_QM_partOf 36 = .ok (.ireturn, 1) := by decide +kernel
theorem d_QM_scanRows_0 : decode b_QM_scanRows 0 = .ok (.iconst 0, 1) := by decide +kernel
theorem d_QM_scanRows_1 : decode b_QM_scanRows 1 = .ok (.istore_n 3, 1) := by decide +kernel
theorem d_QM_scanRows_2 : decode b_QM_scanRows 2 = .ok (.iload_n 1, 1) := by decide +kernel
theorem d_QM_scanRows_3 : decode b_QM_scanRows 3 = .ok (.ifCond .ne 10, 3) := by decide +kernel
theorem d_QM_scanRows_6 : decode b_QM_scanRows 6 = .ok (.aload_n 0, 1) := by decide +kernel
theorem d_QM_scanRows_7 : decode b_QM_scanRows 7 = .ok (.getfield 114, 3) := by decide +kernel
theorem d_QM_scanRows_10 : decode b_QM_scanRows 10 = .ok (.goto 7, 3) := by decide +kernel
theorem d_QM_scanRows_13 : decode b_QM_scanRows 13 = .ok (.aload_n 0, 1) := by decide +kernel
theorem d_QM_scanRows_14 : decode b_QM_scanRows 14 = .ok (.getfield 117, 3) := by decide +kernel
theorem d_QM_scanRows_17 : decode b_QM_scanRows 17 = .ok (.istore 4, 2) := by decide +kernel
theorem d_QM_scanRows_19 : decode b_QM_scanRows 19 = .ok (.iconst 0, 1) := by decide +kernel
theorem d_QM_scanRows_20 : decode b_QM_scanRows 20 = .ok (.istore 5, 2) := by decide +kernel
theorem d_QM_scanRows_22 : decode b_QM_scanRows 22 = .ok (.iload 5, 2) := by decide +kernel
theorem d_QM_scanRows_24 : decode b_QM_scanRows 24 = .ok (.aload_n 0, 1) := by decide +kernel
theorem d_QM_scanRows_25 : decode b_QM_scanRows 25 = .ok (.getfield 7, 3) := by decide +kernel
theorem d_QM_scanRows_28 : decode b_QM_scanRows 28 = .ok (.iload 4, 2) := by decide +kernel
theorem d_QM_scanRows_30 : decode b_QM_scanRows 30 = .ok (.iaload, 1) := by decide +kernel
theorem d_QM_scanRows_31 : decode b_QM_scanRows 31 = .ok (.if_icmp .ge 148, 3) := by decide +kernel
theorem d_QM_scanRows_34 : decode b_QM_scanRows 34 = .ok (.aload_n 0, 1) := by decide +kernel
theorem d_QM_scanRows_35 : decode b_QM_scanRows 35 = .ok (.iload_n 1, 1) := by decide +kernel
theorem d_QM_scanRows_36 : decode b_QM_scanRows 36 = .ok (.iload 5, 2) := by decide +kernel
theorem d_QM_scanRows_38 : decode b_QM_scanRows 38 = .ok (.invokevirtual 194, 3) := by decide +kernel
theorem d_QM_scanRows_41 : decode b_QM_scanRows 41 = .ok (.iload 5, 2) := by decide +kernel
theorem d_QM_scanRows_43 : decode b_QM_scanRows 43 = .ok (.aload_n 0, 1) := by decide +kernel
theorem d_QM_scanRows_44 : decode b_QM_scanRows 44 = .ok (.getfield 248, 3) := by decide +kernel
theorem d_QM_scanRows_47 : decode b_QM_scanRows 47 = .ok (.irem, 1) := by decide +kernel
theorem d_QM_scanRows_48 : decode b_QM_scanRows 48 = .ok (.iload_n 2, 1) := by decide +kernel
theorem d_QM_scanRows_49 : decode b_QM_scanRows 49 = .ok (.if_icmp .ne 7, 3) := by decide +kernel
theorem d_QM_scanRows_52 : decode b_QM_scanRows 52 = .ok (.iconst 1, 1) := by decide +kernel
theorem d_QM_scanRows_53 : decode b_QM_scanRows 53 = .ok (.goto 4, 3) := by decide +kernel
theorem d_QM_scanRows_56 : decode b_QM_scanRows 56 = .ok (.iconst 0, 1) := by decide +kernel
theorem d_QM_scanRows_57 : decode b_QM_scanRows 57 = .ok (.istore 6, 2) := by decide +kernel
theorem d_QM_scanRows_59 : decode b_QM_scanRows 59 = .ok (.iconst 0, 1) := by decide +kernel
theorem d_QM_scanRows_60 : decode b_QM_scanRows 60 = .ok (.istore 7, 2) := by decide +kernel
theorem d_QM_scanRows_62 : decode b_QM_scanRows 62 = .ok (.iload 7, 2) := by decide +kernel
theorem d_QM_scanRows_64 : decode b_QM_scanRows 64 = .ok (.aload_n 0, 1) := by decide +kernel
theorem d_QM_scanRows_65 : decode b_QM_scanRows 65 = .ok (.getfield 141, 3) := by decide +kernel
theorem d_QM_scanRows_68 : decode b_QM_scanRows 68 = .ok (.if_icmp .ge 92, 3) := by decide +kernel
theorem d_QM_scanRows_71 : decode b_QM_scanRows 71 = .ok (.iload 6, 2) := by decide +kernel
theorem d_QM_scanRows_73 : decode b_QM_scanRows 73 = .ok (.ifCond .eq 87, 3) := by decide +kernel
theorem d_QM_scanRows_76 : decode b_QM_scanRows 76 = .ok (.iload_n 1, 1) := by decide +kernel
theorem d_QM_scanRows_77 : decode b_QM_scanRows 77 = .ok (.ifCond .ne 21, 3) := by decide +kernel
theorem d_QM_scanRows_80 : decode b_QM_scanRows 80 = .ok (.aload_n 0, 1) := by decide +kernel
theorem d_QM_scanRows_81 : decode b_QM_scanRows 81 = .ok (.iload 7, 2) := by decide +kernel
theorem d_QM_scanRows_83 : decode b_QM_scanRows 83 = .ok (.iconst 1, 1) := by decide +kernel
theorem d_QM_scanRows_84 : decode b_QM_scanRows 84 = .ok (.invokevirtual 251, 3) := by decide +kernel
theorem d_QM_scanRows_87 : decode b_QM_scanRows 87 = .ok (.ifCond .ne 7, 3) := by decide +kernel
theorem d_QM_scanRows_90 : decode b_QM_scanRows 90 = .ok (.iconst 1, 1) := by decide +kernel
theorem d_QM_scanRows_91 : decode b_QM_scanRows 91 = .ok (.goto 40, 3) := by decide +kernel
theorem d_QM_scanRows_94 : decode b_QM_scanRows 94 = .ok (.iconst 0, 1) := by decide +kernel
theorem d_QM_scanRows_95 : decode b_QM_scanRows 95 = .ok (.goto 36, 3) := by decide +kernel
theorem d_QM_scanRows_98 : decode b_QM_scanRows 98 = .ok (.aload_n 0, 1) := by decide +kernel
theorem d_QM_scanRows_99 : decode b_QM_scanRows 99 = .ok (.getfield 110, 3) := by decide +kernel
theorem d_QM_scanRows_102 : decode b_QM_scanRows 102 = .ok (.iconst 1, 1) := by decide +kernel
theorem d_QM_scanRows_103 : decode b_QM_scanRows 103 = .ok (.if_icmp .ne 27, 3) := by decide +kernel
theorem d_QM_scanRows_106 : decode b_QM_scanRows 106 = .ok (.aload_n 0, 1) := by decide +kernel
theorem d_QM_scanRows_107 : decode b_QM_scanRows 107 = .ok (.iload 7, 2) := by decide +kernel
theorem d_QM_scanRows_109 : decode b_QM_scanRows 109 = .ok (.iconst 1, 1) := by decide +kernel
theorem d_QM_scanRows_110 : decode b_QM_scanRows 110 = .ok (.invokevirtual 251, 3) := by decide +kernel
theorem d_QM_scanRows_113 : decode b_QM_scanRows 113 = .ok (.ifCond .eq 17, 3) := by decide +kernel
theorem d_QM_scanRows_116 : decode b_QM_scanRows 116 = .ok (.aload_n 0, 1) := by decide +kernel
theorem d_QM_scanRows_117 : decode b_QM_scanRows 117 = .ok (.iload 7, 2) := by decide +kernel
theorem d_QM_scanRows_119 : decode b_QM_scanRows 119 = .ok (.iconst 0, 1) := by decide +kernel
theorem d_QM_scanRows_120 : decode b_QM_scanRows 120 = .ok (.invokevirtual 251, 3) := by decide +kernel
theorem d_QM_scanRows_123 : decode b_QM_scanRows 123 = .ok (.ifCond .ne 7, 3) := by decide +kernel
theorem d_QM_scanRows_126 : decode b_QM_scanRows 126 = .ok (.iconst 1, 1) := by decide +kernel
theorem d_QM_scanRows_127 : decode b_QM_scanRows 127 = .ok (.goto 4, 3) := by decide +kernel
theorem d_QM_scanRows_130 : decode b_QM_scanRows 130 = .ok (.iconst 0, 1) := by decide +kernel
theorem d_QM_scanRows_131 : decode b_QM_scanRows 131 = .ok (.istore 8, 2) := by decide +kernel
theorem d_QM_scanRows_133 : decode b_QM_scanRows 133 = .ok (.iload 8, 2) := by decide +kernel
theorem d_QM_scanRows_135 : decode b_QM_scanRows 135 = .ok (.ifCond .eq 12, 3) := by decide +kernel
theorem d_QM_scanRows_138 : decode b_QM_scanRows 138 = .ok (.aload_n 0, 1) := by decide +kernel
theorem d_QM_scanRows_139 : decode b_QM_scanRows 139 = .ok (.iload 7, 2) := by decide +kernel
theorem d_QM_scanRows_141 : decode b_QM_scanRows 141 = .ok (.invokevirtual 185, 3) := by decide +kernel
theorem d_QM_scanRows_144 : decode b_QM_scanRows 144 = .ok (.ifCond .eq 7, 3) := by decide +kernel
theorem d_QM_scanRows_147 : decode b_QM_scanRows 147 = .ok (.iconst 1, 1) := by decide +kernel
theorem d_QM_scanRows_148 : decode b_QM_scanRows 148 = .ok (.goto 4, 3) := by decide +kernel
theorem d_QM_scanRows_151 : decode b_QM_scanRows 151 = .ok (.iconst 0, 1) := by decide +kernel
theorem d_QM_scanRows_152 : decode b_QM_scanRows 152 = .ok (.istore 6, 2) := by decide +kernel
theorem d_QM_scanRows_154 : decode b_QM_scanRows 154 = .ok (.iinc 7 1, 3) := by decide +kernel
theorem d_QM_scanRows_157 : decode b_QM_scanRows 157 = .ok (.goto (-95), 3) := by decide +kernel
theorem d_QM_scanRows_160 : decode b_QM_scanRows 160 = .ok (.iload 6, 2) := by decide +kernel
theorem d_QM_scanRows_162 : decode b_QM_scanRows 162 = .ok (.ifCond .eq 9, 3) := by decide +kernel
theorem d_QM_scanRows_165 : decode b_QM_scanRows 165 = .ok (.iload_n 3, 1) := by decide +kernel
theorem d_QM_scanRows_166 : decode b_QM_scanRows 166 = .ok (.iconst 1, 1) := by decide +kernel
theorem d_QM_scanRows_167 : decode b_QM_scanRows 167 = .ok (.iadd, 1) := by decide +kernel
theorem d_QM_scanRows_168 : decode b_QM_scanRows 168 = .ok (.goto 4, 3) := by decide +kernel
theorem d_QM_scanRows_171 : decode b_QM_scanRows 171 = .ok (.iload_n 3, 1) := by decide +kernel
theorem d_QM_scanRows_172 : decode b_QM_scanRows 172 = .ok (.istore_n 3, 1) := by decide +kernel
theorem d_QM_scanRows_173 : decode b_QM_scanRows 173 = .ok (.iinc 5 1, 3) := by decide +kernel
theorem d_QM_scanRows_176 : decode b_QM_scanRows 176 = .ok (.goto (-154), 3) := by decide +kernel
theorem d_QM_scanRows_179 : decode b_QM_scanRows 179 = .ok (.iload_n 3, 1) := by decide +kernel
theorem d_QM_scanRows_180 : decode b_QM_scanRows 180 = .ok (.ireturn, 1) := by decide +kernel
theorem d_QM_joinRows_0 : decode b_QM_joinRows 0 = .ok (.iconst 0, 1) := by decide +kernel
theorem d_QM_joinRows_1 : decode b_QM_joinRows 1 = .ok (.istore_n 2, 1) := by decide +kernel
theorem d_QM_joinRows_2 : decode b_QM_joinRows 2 = .ok (.iconst 0, 1) := by decide +kernel
theorem d_QM_joinRows_3 : decode b_QM_joinRows 3 = .ok (.istore_n 3, 1) := by decide +kernel
theorem d_QM_joinRows_4 : decode b_QM_joinRows 4 = .ok (.iload_n 3, 1) := by decide +kernel
theorem d_QM_joinRows_5 : decode b_QM_joinRows 5 = .ok (.aload_n 0, 1) := by decide +kernel
theorem d_QM_joinRows_6 : decode b_QM_joinRows 6 = .ok (.getfield 191, 3) := by decide +kernel
theorem d_QM_joinRows_9 : decode b_QM_joinRows 9 = .ok (.if_icmp .ge 46, 3) := by decide +kernel
theorem d_QM_joinRows_12 : decode b_QM_joinRows 12 = .ok (.aload_n 0, 1) := by decide +kernel
theorem d_QM_joinRows_13 : decode b_QM_joinRows 13 = .ok (.aload_n 0, 1) := by decide +kernel
theorem d_QM_joinRows_14 : decode b_QM_joinRows 14 = .ok (.getfield 48, 3) := by decide +kernel
theorem d_QM_joinRows_17 : decode b_QM_joinRows 17 = .ok (.iconst 4, 1) := by decide +kernel
theorem d_QM_joinRows_18 : decode b_QM_joinRows 18 = .ok (.iload_n 3, 1) := by decide +kernel
theorem d_QM_joinRows_19 : decode b_QM_joinRows 19 = .ok (.imul, 1) := by decide +kernel
theorem d_QM_joinRows_20 : decode b_QM_joinRows 20 = .ok (.aload_n 0, 1) := by decide +kernel
theorem d_QM_joinRows_21 : decode b_QM_joinRows 21 = .ok (.getfield 120, 3) := by decide +kernel
theorem d_QM_joinRows_24 : decode b_QM_joinRows 24 = .ok (.iadd, 1) := by decide +kernel
theorem d_QM_joinRows_25 : decode b_QM_joinRows 25 = .ok (.laload, 1) := by decide +kernel
theorem d_QM_joinRows_26 : decode b_QM_joinRows 26 = .ok (.aload_n 0, 1) := by decide +kernel
theorem d_QM_joinRows_27 : decode b_QM_joinRows 27 = .ok (.getfield 51, 3) := by decide +kernel
theorem d_QM_joinRows_30 : decode b_QM_joinRows 30 = .ok (.iconst 4, 1) := by decide +kernel
theorem d_QM_joinRows_31 : decode b_QM_joinRows 31 = .ok (.iload_n 3, 1) := by decide +kernel
theorem d_QM_joinRows_32 : decode b_QM_joinRows 32 = .ok (.imul, 1) := by decide +kernel
theorem d_QM_joinRows_33 : decode b_QM_joinRows 33 = .ok (.aload_n 0, 1) := by decide +kernel
theorem d_QM_joinRows_34 : decode b_QM_joinRows 34 = .ok (.getfield 120, 3) := by decide +kernel
theorem d_QM_joinRows_37 : decode b_QM_joinRows 37 = .ok (.iadd, 1) := by decide +kernel
theorem d_QM_joinRows_38 : decode b_QM_joinRows 38 = .ok (.baload, 1) := by decide +kernel
theorem d_QM_joinRows_39 : decode b_QM_joinRows 39 = .ok (.invokevirtual 254, 3) := by decide +kernel
theorem d_QM_joinRows_42 : decode b_QM_joinRows 42 = .ok (.iload_n 1, 1) := by decide +kernel
theorem d_QM_joinRows_43 : decode b_QM_joinRows 43 = .ok (.if_icmp .ne 6, 3) := by decide +kernel
theorem d_QM_joinRows_46 : decode b_QM_joinRows 46 = .ok (.iinc 2 1, 3) := by decide +kernel
theorem d_QM_joinRows_49 : decode b_QM_joinRows 49 = .ok (.iinc 3 1, 3) := by decide +kernel
theorem d_QM_joinRows_52 : decode b_QM_joinRows 52 = .ok (.goto (-48), 3) := by decide +kernel
theorem d_QM_joinRows_55 : decode b_QM_joinRows 55 = .ok (.iload_n 2, 1) := by decide +kernel
theorem d_QM_joinRows_56 : decode b_QM_joinRows 56 = .ok (.ireturn, 1) := by decide +kernel
theorem d_QM_groupRows_0 : decode b_QM_groupRows 0 = .ok (.aload_n 0, 1) := by decide +kernel
theorem d_QM_groupRows_1 : decode b_QM_groupRows 1 = .ok (.getfield 126, 3) := by decide +kernel
theorem d_QM_groupRows_4 : decode b_QM_groupRows 4 = .ok (.ifCond .ge 13, 3) := by decide +kernel
theorem d_QM_groupRows_7 : decode b_QM_groupRows 7 = .ok (.iload_n 1, 1) := by decide +kernel
theorem d_QM_groupRows_8 : decode b_QM_groupRows 8 = .ok (.ifCond .ne 7, 3) := by decide +kernel
theorem d_QM_groupRows_11 : decode b_QM_groupRows 11 = .ok (.iconst 1, 1) := by decide +kernel
theorem d_QM_groupRows_12 : decode b_QM_groupRows 12 = .ok (.goto 4, 3) := by decide +kernel
theorem d_QM_groupRows_15 : decode b_QM_groupRows 15 = .ok (.iconst 0, 1) := by decide +kernel
theorem d_QM_groupRows_16 : decode b_QM_groupRows 16 = .ok (.ireturn, 1) := by decide +kernel
theorem d_QM_groupRows_17 : decode b_QM_groupRows 17 = .ok (.iconst 0, 1) := by decide +kernel
theorem d_QM_groupRows_18 : decode b_QM_groupRows 18 = .ok (.istore_n 2, 1) := by decide +kernel
theorem d_QM_groupRows_19 : decode b_QM_groupRows 19 = .ok (.iconst 0, 1) := by decide +kernel
theorem d_QM_groupRows_20 : decode b_QM_groupRows 20 = .ok (.istore_n 3, 1) := by decide +kernel
theorem d_QM_groupRows_21 : decode b_QM_groupRows 21 = .ok (.iload_n 3, 1) := by decide +kernel
theorem d_QM_groupRows_22 : decode b_QM_groupRows 22 = .ok (.aload_n 0, 1) := by decide +kernel
theorem d_QM_groupRows_23 : decode b_QM_groupRows 23 = .ok (.getfield 207, 3) := by decide +kernel
theorem d_QM_groupRows_26 : decode b_QM_groupRows 26 = .ok (.if_icmp .ge 36, 3) := by decide +kernel
theorem d_QM_groupRows_29 : decode b_QM_groupRows 29 = .ok (.aload_n 0, 1) := by decide +kernel
theorem d_QM_groupRows_30 : decode b_QM_groupRows 30 = .ok (.aload_n 0, 1) := by decide +kernel
theorem d_QM_groupRows_31 : decode b_QM_groupRows 31 = .ok (.getfield 54, 3) := by decide +kernel
theorem d_QM_groupRows_34 : decode b_QM_groupRows 34 = .ok (.iconst 4, 1) := by decide +kernel
theorem d_QM_groupRows_35 : decode b_QM_groupRows 35 = .ok (.iload_n 3, 1) := by decide +kernel
theorem d_QM_groupRows_36 : decode b_QM_groupRows 36 = .ok (.imul, 1) := by decide +kernel
theorem d_QM_groupRows_37 : decode b_QM_groupRows 37 = .ok (.laload, 1) := by decide +kernel
theorem d_QM_groupRows_38 : decode b_QM_groupRows 38 = .ok (.aload_n 0, 1) := by decide +kernel
theorem d_QM_groupRows_39 : decode b_QM_groupRows 39 = .ok (.getfield 57, 3) := by decide +kernel
theorem d_QM_groupRows_42 : decode b_QM_groupRows 42 = .ok (.iconst 4, 1) := by decide +kernel
theorem d_QM_groupRows_43 : decode b_QM_groupRows 43 = .ok (.iload_n 3, 1) := by decide +kernel
theorem d_QM_groupRows_44 : decode b_QM_groupRows 44 = .ok (.imul, 1) := by decide +kernel
theorem d_QM_groupRows_45 : decode b_QM_groupRows 45 = .ok (.baload, 1) := by decide +kernel
theorem d_QM_groupRows_46 : decode b_QM_groupRows 46 = .ok (.invokevirtual 254, 3) := by decide +kernel
theorem d_QM_groupRows_49 : decode b_QM_groupRows 49 = .ok (.iload_n 1, 1) := by decide +kernel
theorem d_QM_groupRows_50 : decode b_QM_groupRows 50 = .ok (.if_icmp .ne 6, 3) := by decide +kernel
theorem d_QM_groupRows_53 : decode b_QM_groupRows 53 = .ok (.iinc 2 1, 3) := by decide +kernel
theorem d_QM_groupRows_56 : decode b_QM_groupRows 56 = .ok (.iinc 3 1, 3) := by decide +kernel
theorem d_QM_groupRows_59 : decode b_QM_groupRows 59 = .ok (.goto (-38), 3) := by decide +kernel
theorem d_QM_groupRows_62 : decode b_QM_groupRows 62 = .ok (.iload_n 2, 1) := by decide +kernel
theorem d_QM_groupRows_63 : decode b_QM_groupRows 63 = .ok (.ireturn, 1) := by decide +kernel
theorem d_QM_addTasks_0 : decode b_QM_addTasks 0 = .ok (.iconst 0, 1) := by decide +kernel
theorem d_QM_addTasks_1 : decode b_QM_addTasks 1 = .ok (.istore_n 2, 1) := by decide +kernel
theorem d_QM_addTasks_2 : decode b_QM_addTasks 2 = .ok (.iload_n 2, 1) := by decide +kernel
theorem d_QM_addTasks_3 : decode b_QM_addTasks 3 = .ok (.aload_n 0, 1) := by decide +kernel
theorem d_QM_addTasks_4 : decode b_QM_addTasks 4 = .ok (.getfield 248, 3) := by decide +kernel
theorem d_QM_addTasks_7 : decode b_QM_addTasks 7 = .ok (.if_icmp .ge 100, 3) := by decide +kernel
theorem d_QM_addTasks_10 : decode b_QM_addTasks 10 = .ok (.aload_n 0, 1) := by decide +kernel
theorem d_QM_addTasks_11 : decode b_QM_addTasks 11 = .ok (.getfield 63, 3) := by decide +kernel
theorem d_QM_addTasks_14 : decode b_QM_addTasks 14 = .ok (.aload_n 0, 1) := by decide +kernel
theorem d_QM_addTasks_15 : decode b_QM_addTasks 15 = .ok (.getfield 258, 3) := by decide +kernel
theorem d_QM_addTasks_18 : decode b_QM_addTasks 18 = .ok (.iload_n 1, 1) := by decide +kernel
theorem d_QM_addTasks_19 : decode b_QM_addTasks 19 = .ok (.iastore, 1) := by decide +kernel
theorem d_QM_addTasks_20 : decode b_QM_addTasks 20 = .ok (.aload_n 0, 1) := by decide +kernel
theorem d_QM_addTasks_21 : decode b_QM_addTasks 21 = .ok (.getfield 66, 3) := by decide +kernel
theorem d_QM_addTasks_24 : decode b_QM_addTasks 24 = .ok (.aload_n 0, 1) := by decide +kernel
theorem d_QM_addTasks_25 : decode b_QM_addTasks 25 = .ok (.getfield 258, 3) := by decide +kernel
theorem d_QM_addTasks_28 : decode b_QM_addTasks 28 = .ok (.iload_n 2, 1) := by decide +kernel
theorem d_QM_addTasks_29 : decode b_QM_addTasks 29 = .ok (.iastore, 1) := by decide +kernel
theorem d_QM_addTasks_30 : decode b_QM_addTasks 30 = .ok (.aload_n 0, 1) := by decide +kernel
theorem d_QM_addTasks_31 : decode b_QM_addTasks 31 = .ok (.getfield 69, 3) := by decide +kernel
theorem d_QM_addTasks_34 : decode b_QM_addTasks 34 = .ok (.aload_n 0, 1) := by decide +kernel
theorem d_QM_addTasks_35 : decode b_QM_addTasks 35 = .ok (.getfield 258, 3) := by decide +kernel
theorem d_QM_addTasks_38 : decode b_QM_addTasks 38 = .ok (.iconst 0, 1) := by decide +kernel
theorem d_QM_addTasks_39 : decode b_QM_addTasks 39 = .ok (.iastore, 1) := by decide +kernel
theorem d_QM_addTasks_40 : decode b_QM_addTasks 40 = .ok (.aload_n 0, 1) := by decide +kernel
theorem d_QM_addTasks_41 : decode b_QM_addTasks 41 = .ok (.getfield 75, 3) := by decide +kernel
theorem d_QM_addTasks_44 : decode b_QM_addTasks 44 = .ok (.aload_n 0, 1) := by decide +kernel
theorem d_QM_addTasks_45 : decode b_QM_addTasks 45 = .ok (.getfield 258, 3) := by decide +kernel
theorem d_QM_addTasks_48 : decode b_QM_addTasks 48 = .ok (.iconst 0, 1) := by decide +kernel
theorem d_QM_addTasks_49 : decode b_QM_addTasks 49 = .ok (.bastore, 1) := by decide +kernel
theorem d_QM_addTasks_50 : decode b_QM_addTasks 50 = .ok (.aload_n 0, 1) := by decide +kernel
theorem d_QM_addTasks_51 : decode b_QM_addTasks 51 = .ok (.getfield 78, 3) := by decide +kernel
theorem d_QM_addTasks_54 : decode b_QM_addTasks 54 = .ok (.aload_n 0, 1) := by decide +kernel
theorem d_QM_addTasks_55 : decode b_QM_addTasks 55 = .ok (.getfield 258, 3) := by decide +kernel
theorem d_QM_addTasks_58 : decode b_QM_addTasks 58 = .ok (.iload_n 1, 1) := by decide +kernel
theorem d_QM_addTasks_59 : decode b_QM_addTasks 59 = .ok (.iconst 2, 1) := by decide +kernel
theorem d_QM_addTasks_60 : decode b_QM_addTasks 60 = .ok (.if_icmp .ge 12, 3) := by decide +kernel
theorem d_QM_addTasks_63 : decode b_QM_addTasks 63 = .ok (.aload_n 0, 1) := by decide +kernel
theorem d_QM_addTasks_64 : decode b_QM_addTasks 64 = .ok (.iload_n 1, 1) := by decide +kernel
theorem d_QM_addTasks_65 : decode b_QM_addTasks 65 = .ok (.iload_n 2, 1) := by decide +kernel
theorem d_QM_addTasks_66 : decode b_QM_addTasks 66 = .ok (.invokevirtual 261, 3) := by decide +kernel
theorem d_QM_addTasks_69 : decode b_QM_addTasks 69 = .ok (.goto 21, 3) := by decide +kernel
theorem d_QM_addTasks_72 : decode b_QM_addTasks 72 = .ok (.iload_n 1, 1) := by decide +kernel
theorem d_QM_addTasks_73 : decode b_QM_addTasks 73 = .ok (.iconst 2, 1) := by decide +kernel
theorem d_QM_addTasks_74 : decode b_QM_addTasks 74 = .ok (.if_icmp .ne 11, 3) := by decide +kernel
theorem d_QM_addTasks_77 : decode b_QM_addTasks 77 = .ok (.aload_n 0, 1) := by decide +kernel
theorem d_QM_addTasks_78 : decode b_QM_addTasks 78 = .ok (.iload_n 2, 1) := by decide +kernel
theorem d_QM_addTasks_79 : decode b_QM_addTasks 79 = .ok (.invokevirtual 265, 3) := by decide +kernel
theorem d_QM_addTasks_82 : decode b_QM_addTasks 82 = .ok (.goto 8, 3) := by decide +kernel
theorem d_QM_addTasks_85 : decode b_QM_addTasks 85 = .ok (.aload_n 0, 1) := by decide +kernel
theorem d_QM_addTasks_86 : decode b_QM_addTasks 86 = .ok (.iload_n 2, 1) := by decide +kernel
theorem d_QM_addTasks_87 : decode b_QM_addTasks 87 = .ok (.invokevirtual 269, 3) := by decide +kernel
theorem d_QM_addTasks_90 : decode b_QM_addTasks 90 = .ok (.iastore, 1) := by decide +kernel
theorem d_QM_addTasks_91 : decode b_QM_addTasks 91 = .ok (.aload_n 0, 1) := by decide +kernel
theorem d_QM_addTasks_92 : decode b_QM_addTasks 92 = .ok (.dup, 1) := by decide +kernel
theorem d_QM_addTasks_93 : decode b_QM_addTasks 93 = .ok (.getfield 258, 3) := by decide +kernel
theorem d_QM_addTasks_96 : decode b_QM_addTasks 96 = .ok (.iconst 1, 1) := by decide +kernel
theorem d_QM_addTasks_97 : decode b_QM_addTasks 97 = .ok (.iadd, 1) := by decide +kernel
theorem d_QM_addTasks_98 : decode b_QM_addTasks 98 = .ok (.putfield 258, 3) := by decide +kernel
theorem d_QM_addTasks_101 : decode b_QM_addTasks 101 = .ok (.iinc 2 1, 3) := by decide +kernel
theorem d_QM_addTasks_104 : decode b_QM_addTasks 104 = .ok (.goto (-102), 3) := by decide +kernel
theorem d_QM_addTasks_107 : decode b_QM_addTasks 107 = .ok (.return_, 1) := by decide +kernel
theorem d_QM_start_0 : decode b_QM_start 0 = .ok (.aload_n 0, 1) := by decide +kernel
theorem d_QM_start_1 : decode b_QM_start 1 = .ok (.invokevirtual 147, 3) := by decide +kernel
theorem d_QM_start_4 : decode b_QM_start 4 = .ok (.ifCond .eq 36, 3) := by decide +kernel
theorem d_QM_start_7 : decode b_QM_start 7 = .ok (.aload_n 0, 1) := by decide +kernel
theorem d_QM_start_8 : decode b_QM_start 8 = .ok (.invokevirtual 229, 3) := by decide +kernel
theorem d_QM_start_11 : decode b_QM_start 11 = .ok (.ifCond .lt 29, 3) := by decide +kernel
theorem d_QM_start_14 : decode b_QM_start 14 = .ok (.aload_n 0, 1) := by decide +kernel
theorem d_QM_start_15 : decode b_QM_start 15 = .ok (.getfield 138, 3) := by decide +kernel
theorem d_QM_start_18 : decode b_QM_start 18 = .ok (.ifCond .gt 22, 3) := by decide +kernel
theorem d_QM_start_21 : decode b_QM_start 21 = .ok (.iload_n 1, 1) := by decide +kernel
theorem d_QM_start_22 : decode b_QM_start 22 = .ok (.iconst 1, 1) := by decide +kernel
theorem d_QM_start_23 : decode b_QM_start 23 = .ok (.iconst 4, 1) := by decide +kernel
theorem d_QM_start_24 : decode b_QM_start 24 = .ok (.invokestatic 103, 3) := by decide +kernel
theorem d_QM_start_27 : decode b_QM_start 27 = .ok (.ifCond .eq 13, 3) := by decide +kernel
theorem d_QM_start_30 : decode b_QM_start 30 = .ok (.iload_n 2, 1) := by decide +kernel
theorem d_QM_start_31 : decode b_QM_start 31 = .ok (.iconst 3, 1) := by decide +kernel
theorem d_QM_start_32 : decode b_QM_start 32 = .ok (.bipush 8, 2) := by decide +kernel
theorem d_QM_start_34 : decode b_QM_start 34 = .ok (.invokestatic 103, 3) := by decide +kernel
theorem d_QM_start_37 : decode b_QM_start 37 = .ok (.ifCond .ne 5, 3) := by decide +kernel
theorem d_QM_start_40 : decode b_QM_start 40 = .ok (.iconst (-1), 1) := by decide +kernel
theorem d_QM_start_41 : decode b_QM_start 41 = .ok (.ireturn, 1) := by decide +kernel
theorem d_QM_start_42 : decode b_QM_start 42 = .ok (.aload_n 0, 1) := by decide +kernel
theorem d_QM_start_43 : decode b_QM_start 43 = .ok (.iload_n 1, 1) := by decide +kernel
theorem d_QM_start_44 : decode b_QM_start 44 = .ok (.putfield 248, 3) := by decide +kernel
theorem d_QM_start_47 : decode b_QM_start 47 = .ok (.aload_n 0, 1) := by decide +kernel
theorem d_QM_start_48 : decode b_QM_start 48 = .ok (.iload_n 2, 1) := by decide +kernel
theorem d_QM_start_49 : decode b_QM_start 49 = .ok (.putfield 272, 3) := by decide +kernel
theorem d_QM_start_52 : decode b_QM_start 52 = .ok (.aload_n 0, 1) := by decide +kernel
theorem d_QM_start_53 : decode b_QM_start 53 = .ok (.invokevirtual 275, 3) := by decide +kernel
theorem d_QM_start_56 : decode b_QM_start 56 = .ok (.aload_n 0, 1) := by decide +kernel
theorem d_QM_start_57 : decode b_QM_start 57 = .ok (.invokevirtual 278, 3) := by decide +kernel
theorem d_QM_start_60 : decode b_QM_start 60 = .ok (.aload_n 0, 1) := by decide +kernel
theorem d_QM_start_61 : decode b_QM_start 61 = .ok (.invokevirtual 281, 3) := by decide +kernel
theorem d_QM_start_64 : decode b_QM_start 64 = .ok (.aload_n 0, 1) := by decide +kernel
theorem d_QM_start_65 : decode b_QM_start 65 = .ok (.aload_n 0, 1) := by decide +kernel
theorem d_QM_start_66 : decode b_QM_start 66 = .ok (.invokevirtual 284, 3) := by decide +kernel
theorem d_QM_start_69 : decode b_QM_start 69 = .ok (.putfield 287, 3) := by decide +kernel
theorem d_QM_start_72 : decode b_QM_start 72 = .ok (.aload_n 0, 1) := by decide +kernel
theorem d_QM_start_73 : decode b_QM_start 73 = .ok (.aload_n 0, 1) := by decide +kernel
theorem d_QM_start_74 : decode b_QM_start 74 = .ok (.getfield 232, 3) := by decide +kernel
theorem d_QM_start_77 : decode b_QM_start 77 = .ok (.putfield 290, 3) := by decide +kernel
theorem d_QM_start_80 : decode b_QM_start 80 = .ok (.aload_n 0, 1) := by decide +kernel
theorem d_QM_start_81 : decode b_QM_start 81 = .ok (.aload_n 0, 1) := by decide +kernel
theorem d_QM_start_82 : decode b_QM_start 82 = .ok (.invokevirtual 293, 3) := by decide +kernel
theorem d_QM_start_85 : decode b_QM_start 85 = .ok (.putfield 296, 3) := by decide +kernel
theorem d_QM_start_88 : decode b_QM_start 88 = .ok (.aload_n 0, 1) := by decide +kernel
theorem d_QM_start_89 : decode b_QM_start 89 = .ok (.iconst 1, 1) := by decide +kernel
theorem d_QM_start_90 : decode b_QM_start 90 = .ok (.putfield 299, 3) := by decide +kernel
theorem d_QM_start_93 : decode b_QM_start 93 = .ok (.aload_n 0, 1) := by decide +kernel
theorem d_QM_start_94 : decode b_QM_start 94 = .ok (.iconst 1, 1) := by decide +kernel
theorem d_QM_start_95 : decode b_QM_start 95 = .ok (.putfield 99, 3) := by decide +kernel
theorem d_QM_start_98 : decode b_QM_start 98 = .ok (.aload_n 0, 1) := by decide +kernel
theorem d_QM_start_99 : decode b_QM_start 99 = .ok (.iconst 0, 1) := by decide +kernel
theorem d_QM_start_100 : decode b_QM_start 100 = .ok (.putfield 258, 3) := by decide +kernel
theorem d_QM_start_103 : decode b_QM_start 103 = .ok (.aload_n 0, 1) := by decide +kernel
theorem d_QM_start_104 : decode b_QM_start 104 = .ok (.iconst 0, 1) := by decide +kernel
theorem d_QM_start_105 : decode b_QM_start 105 = .ok (.putfield 302, 3) := by decide +kernel
theorem d_QM_start_108 : decode b_QM_start 108 = .ok (.aload_n 0, 1) := by decide +kernel
theorem d_QM_start_109 : decode b_QM_start 109 = .ok (.iconst 0, 1) := by decide +kernel
theorem d_QM_start_110 : decode b_QM_start 110 = .ok (.putfield 305, 3) := by decide +kernel
theorem d_QM_start_113 : decode b_QM_start 113 = .ok (.iconst 0, 1) := by decide +kernel
theorem d_QM_start_114 : decode b_QM_start 114 = .ok (.istore_n 3, 1) := by decide +kernel
theorem d_QM_start_115 : decode b_QM_start 115 = .ok (.iload_n 3, 1) := by decide +kernel
theorem d_QM_start_116 : decode b_QM_start 116 = .ok (.iconst 4, 1) := by decide +kernel
theorem d_QM_start_117 : decode b_QM_start 117 = .ok (.if_icmp .ge 16, 3) := by decide +kernel
theorem d_QM_start_120 : decode b_QM_start 120 = .ok (.aload_n 0, 1) := by decide +kernel
theorem d_QM_start_121 : decode b_QM_start 121 = .ok (.getfield 90, 3) := by decide +kernel
theorem d_QM_start_124 : decode b_QM_start 124 = .ok (.iload_n 3, 1) := by decide +kernel
theorem d_QM_start_125 : decode b_QM_start 125 = .ok (.iconst 0, 1) := by decide +kernel
theorem d_QM_start_126 : decode b_QM_start 126 = .ok (.iastore, 1) := by decide +kernel
theorem d_QM_start_127 : decode b_QM_start 127 = .ok (.iinc 3 1, 3) := by decide +kernel
theorem d_QM_start_130 : decode b_QM_start 130 = .ok (.goto (-15), 3) := by decide +kernel
theorem d_QM_start_133 : decode b_QM_start 133 = .ok (.aload_n 0, 1) := by decide +kernel
theorem d_QM_start_134 : decode b_QM_start 134 = .ok (.iconst 0, 1) := by decide +kernel
theorem d_QM_start_135 : decode b_QM_start 135 = .ok (.invokevirtual 308, 3) := by decide +kernel
theorem d_QM_start_138 : decode b_QM_start 138 = .ok (.aload_n 0, 1) := by decide +kernel
theorem d_QM_start_139 : decode b_QM_start 139 = .ok (.getfield 110, 3) := by decide +kernel
theorem d_QM_start_142 : decode b_QM_start 142 = .ok (.ifCond .le 13, 3) := by decide +kernel
theorem d_QM_start_145 : decode b_QM_start 145 = .ok (.aload_n 0, 1) := by decide +kernel
theorem d_QM_start_146 : decode b_QM_start 146 = .ok (.iconst 1, 1) := by decide +kernel
theorem d_QM_start_147 : decode b_QM_start 147 = .ok (.invokevirtual 308, 3) := by decide +kernel
theorem d_QM_start_150 : decode b_QM_start 150 = .ok (.aload_n 0, 1) := by decide +kernel
theorem d_QM_start_151 : decode b_QM_start 151 = .ok (.iconst 2, 1) := by decide +kernel
theorem d_QM_start_152 : decode b_QM_start 152 = .ok (.invokevirtual 308, 3) := by decide +kernel
theorem d_QM_start_155 : decode b_QM_start 155 = .ok (.aload_n 0, 1) := by decide +kernel
theorem d_QM_start_156 : decode b_QM_start 156 = .ok (.invokevirtual 229, 3) := by decide +kernel
theorem d_QM_start_159 : decode b_QM_start 159 = .ok (.iconst 1, 1) := by decide +kernel
theorem d_QM_start_160 : decode b_QM_start 160 = .ok (.if_icmp .ne 8, 3) := by decide +kernel
theorem d_QM_start_163 : decode b_QM_start 163 = .ok (.aload_n 0, 1) := by decide +kernel
theorem d_QM_start_164 : decode b_QM_start 164 = .ok (.iconst 3, 1) := by decide +kernel
theorem d_QM_start_165 : decode b_QM_start 165 = .ok (.invokevirtual 308, 3) := by decide +kernel
theorem d_QM_start_168 : decode b_QM_start 168 = .ok (.aload_n 0, 1) := by decide +kernel
theorem d_QM_start_169 : decode b_QM_start 169 = .ok (.invokevirtual 311, 3) := by decide +kernel
theorem d_QM_start_172 : decode b_QM_start 172 = .ok (.aload_n 0, 1) := by decide +kernel
theorem d_QM_start_173 : decode b_QM_start 173 = .ok (.getfield 258, 3) := by decide +kernel
theorem d_QM_start_176 : decode b_QM_start 176 = .ok (.ireturn, 1) := by decide +kernel
theorem d_QM_allDone_0 : decode b_QM_allDone 0 = .ok (.iconst 1, 1) := by decide +kernel
theorem d_QM_allDone_1 : decode b_QM_allDone 1 = .ok (.istore_n 2, 1) := by decide +kernel
theorem d_QM_allDone_2 : decode b_QM_allDone 2 = .ok (.iconst 0, 1) := by decide +kernel
theorem d_QM_allDone_3 : decode b_QM_allDone 3 = .ok (.istore_n 3, 1) := by decide +kernel
theorem d_QM_allDone_4 : decode b_QM_allDone 4 = .ok (.iload_n 3, 1) := by decide +kernel
theorem d_QM_allDone_5 : decode b_QM_allDone 5 = .ok (.aload_n 0, 1) := by decide +kernel
theorem d_QM_allDone_6 : decode b_QM_allDone 6 = .ok (.getfield 258, 3) := by decide +kernel
theorem d_QM_allDone_9 : decode b_QM_allDone 9 = .ok (.if_icmp .ge 38, 3) := by decide +kernel
theorem d_QM_allDone_12 : decode b_QM_allDone 12 = .ok (.iload_n 2, 1) := by decide +kernel
theorem d_QM_allDone_13 : decode b_QM_allDone 13 = .ok (.ifCond .eq 26, 3) := by decide +kernel
theorem d_QM_allDone_16 : decode b_QM_allDone 16 = .ok (.aload_n 0, 1) := by decide +kernel
theorem d_QM_allDone_17 : decode b_QM_allDone 17 = .ok (.getfield 63, 3) := by decide +kernel
theorem d_QM_allDone_20 : decode b_QM_allDone 20 = .ok (.iload_n 3, 1) := by decide +kernel
theorem d_QM_allDone_21 : decode b_QM_allDone 21 = .ok (.iaload, 1) := by decide +kernel
theorem d_QM_allDone_22 : decode b_QM_allDone 22 = .ok (.iload_n 1, 1) := by decide +kernel
theorem d_QM_allDone_23 : decode b_QM_allDone 23 = .ok (.if_icmp .ge 12, 3) := by decide +kernel
theorem d_QM_allDone_26 : decode b_QM_allDone 26 = .ok (.aload_n 0, 1) := by decide +kernel
theorem d_QM_allDone_27 : decode b_QM_allDone 27 = .ok (.getfield 75, 3) := by decide +kernel
theorem d_QM_allDone_30 : decode b_QM_allDone 30 = .ok (.iload_n 3, 1) := by decide +kernel
theorem d_QM_allDone_31 : decode b_QM_allDone 31 = .ok (.baload, 1) := by decide +kernel
theorem d_QM_allDone_32 : decode b_QM_allDone 32 = .ok (.ifCond .eq 7, 3) := by decide +kernel
theorem d_QM_allDone_35 : decode b_QM_allDone 35 = .ok (.iconst 1, 1) := by decide +kernel
theorem d_QM_allDone_36 : decode b_QM_allDone 36 = .ok (.goto 4, 3) := by decide +kernel
theorem d_QM_allDone_39 : decode b_QM_allDone 39 = .ok (.iconst 0, 1) := by decide +kernel
theorem d_QM_allDone_40 : decode b_QM_allDone 40 = .ok (.istore_n 2, 1) := by decide +kernel
theorem d_QM_allDone_41 : decode b_QM_allDone 41 = .ok (.iinc 3 1, 3) := by decide +kernel
theorem d_QM_allDone_44 : decode b_QM_allDone 44 = .ok (.goto (-40), 3) := by decide +kernel
theorem d_QM_allDone_47 : decode b_QM_allDone 47 = .ok (.iload_n 2, 1) := by decide +kernel
theorem d_QM_allDone_48 : decode b_QM_allDone 48 = .ok (.ireturn, 1) := by decide +kernel
theorem d_QM_sendReady_0 : decode b_QM_sendReady 0 = .ok (.iconst 0, 1) := by decide +kernel
theorem d_QM_sendReady_1 : decode b_QM_sendReady 1 = .ok (.istore_n 1, 1) := by decide +kernel
theorem d_QM_sendReady_2 : decode b_QM_sendReady 2 = .ok (.iload_n 1, 1) := by decide +kernel
theorem d_QM_sendReady_3 : decode b_QM_sendReady 3 = .ok (.aload_n 0, 1) := by decide +kernel
theorem d_QM_sendReady_4 : decode b_QM_sendReady 4 = .ok (.getfield 258, 3) := by decide +kernel
theorem d_QM_sendReady_7 : decode b_QM_sendReady 7 = .ok (.if_icmp .ge 53, 3) := by decide +kernel
theorem d_QM_sendReady_10 : decode b_QM_sendReady 10 = .ok (.aload_n 0, 1) := by decide +kernel
theorem d_QM_sendReady_11 : decode b_QM_sendReady 11 = .ok (.getfield 63, 3) := by decide +kernel
theorem d_QM_sendReady_14 : decode b_QM_sendReady 14 = .ok (.iload_n 1, 1) := by decide +kernel
theorem d_QM_sendReady_15 : decode b_QM_sendReady 15 = .ok (.iaload, 1) := by decide +kernel
theorem d_QM_sendReady_16 : decode b_QM_sendReady 16 = .ok (.istore_n 2, 1) := by decide +kernel
theorem d_QM_sendReady_17 : decode b_QM_sendReady 17 = .ok (.iload_n 2, 1) := by decide +kernel
theorem d_QM_sendReady_18 : decode b_QM_sendReady 18 = .ok (.iconst 2, 1) := by decide +kernel
theorem d_QM_sendReady_19 : decode b_QM_sendReady 19 = .ok (.if_icmp .lt 11, 3) := by decide +kernel
theorem d_QM_sendReady_22 : decode b_QM_sendReady 22 = .ok (.aload_n 0, 1) := by decide +kernel
theorem d_QM_sendReady_23 : decode b_QM_sendReady 23 = .ok (.iload_n 2, 1) := by decide +kernel
theorem d_QM_sendReady_24 : decode b_QM_sendReady 24 = .ok (.invokevirtual 314, 3) := by decide +kernel
theorem d_QM_sendReady_27 : decode b_QM_sendReady 27 = .ok (.ifCond .eq 7, 3) := by decide +kernel
theorem d_QM_sendReady_30 : decode b_QM_sendReady 30 = .ok (.iconst 1, 1) := by decide +kernel
theorem d_QM_sendReady_31 : decode b_QM_sendReady 31 = .ok (.goto 4, 3) := by decide +kernel
theorem d_QM_sendReady_34 : decode b_QM_sendReady 34 = .ok (.iconst 0, 1) := by decide +kernel
theorem d_QM_sendReady_35 : decode b_QM_sendReady 35 = .ok (.istore_n 3, 1) := by decide +kernel
theorem d_QM_sendReady_36 : decode b_QM_sendReady 36 = .ok (.iload_n 3, 1) := by decide +kernel
theorem d_QM_sendReady_37 : decode b_QM_sendReady 37 = .ok (.ifCond .eq 17, 3) := by decide +kernel
theorem d_QM_sendReady_40 : decode b_QM_sendReady 40 = .ok (.aload_n 0, 1) := by decide +kernel
theorem d_QM_sendReady_41 : decode b_QM_sendReady 41 = .ok (.getfield 69, 3) := by decide +kernel
theorem d_QM_sendReady_44 : decode b_QM_sendReady 44 = .ok (.iload_n 1, 1) := by decide +kernel
theorem d_QM_sendReady_45 : decode b_QM_sendReady 45 = .ok (.iaload, 1) := by decide +kernel
theorem d_QM_sendReady_46 : decode b_QM_sendReady 46 = .ok (.ifCond .ne 8, 3) := by decide +kernel
theorem d_QM_sendReady_49 : decode b_QM_sendReady 49 = .ok (.aload_n 0, 1) := by decide +kernel
theorem d_QM_sendReady_50 : decode b_QM_sendReady 50 = .ok (.iload_n 1, 1) := by decide +kernel
theorem d_QM_sendReady_51 : decode b_QM_sendReady 51 = .ok (.invokevirtual 317, 3) := by decide +kernel
theorem d_QM_sendReady_54 : decode b_QM_sendReady 54 = .ok (.iinc 1 1, 3) := by decide +kernel
theorem d_QM_sendReady_57 : decode b_QM_sendReady 57 = .ok (.goto (-55), 3) := by decide +kernel
theorem d_QM_sendReady_60 : decode b_QM_sendReady 60 = .ok (.return_, 1) := by decide +kernel
theorem d_QM_send_0 : decode b_QM_send 0 = .ok (.aload_n 0, 1) := by decide +kernel
theorem d_QM_send_1 : decode b_QM_send 1 = .ok (.getfield 81, 3) := by decide +kernel
theorem d_QM_send_4 : decode b_QM_send 4 = .ok (.aload_n 0, 1) := by decide +kernel
theorem d_QM_send_5 : decode b_QM_send 5 = .ok (.getfield 302, 3) := by decide +kernel
theorem d_QM_send_8 : decode b_QM_send 8 = .ok (.iload_n 1, 1) := by decide +kernel
theorem d_QM_send_9 : decode b_QM_send 9 = .ok (.iastore, 1) := by decide +kernel
theorem d_QM_send_10 : decode b_QM_send 10 = .ok (.aload_n 0, 1) := by decide +kernel
theorem d_QM_send_11 : decode b_QM_send 11 = .ok (.getfield 84, 3) := by decide +kernel
theorem d_QM_send_14 : decode b_QM_send 14 = .ok (.aload_n 0, 1) := by decide +kernel
theorem d_QM_send_15 : decode b_QM_send 15 = .ok (.getfield 302, 3) := by decide +kernel
theorem d_QM_send_18 : decode b_QM_send 18 = .ok (.iload_n 2, 1) := by decide +kernel
theorem d_QM_send_19 : decode b_QM_send 19 = .ok (.iastore, 1) := by decide +kernel
theorem d_QM_send_20 : decode b_QM_send 20 = .ok (.aload_n 0, 1) := by decide +kernel
theorem d_QM_send_21 : decode b_QM_send 21 = .ok (.getfield 87, 3) := by decide +kernel
theorem d_QM_send_24 : decode b_QM_send 24 = .ok (.aload_n 0, 1) := by decide +kernel
theorem d_QM_send_25 : decode b_QM_send 25 = .ok (.getfield 302, 3) := by decide +kernel
theorem d_QM_send_28 : decode b_QM_send 28 = .ok (.iload_n 3, 1) := by decide +kernel
theorem d_QM_send_29 : decode b_QM_send 29 = .ok (.iastore, 1) := by decide +kernel
theorem d_QM_send_30 : decode b_QM_send 30 = .ok (.aload_n 0, 1) := by decide +kernel
theorem d_QM_send_31 : decode b_QM_send 31 = .ok (.dup, 1) := by decide +kernel
theorem d_QM_send_32 : decode b_QM_send 32 = .ok (.getfield 302, 3) := by decide +kernel
theorem d_QM_send_35 : decode b_QM_send 35 = .ok (.iconst 1, 1) := by decide +kernel
theorem d_QM_send_36 : decode b_QM_send 36 = .ok (.iadd, 1) := by decide +kernel
theorem d_QM_send_37 : decode b_QM_send 37 = .ok (.putfield 302, 3) := by decide +kernel
theorem d_QM_send_40 : decode b_QM_send 40 = .ok (.return_, 1) := by decide +kernel
theorem d_QM_sendRun_0 : decode b_QM_sendRun 0 = .ok (.aload_n 0, 1) := by decide +kernel
theorem d_QM_sendRun_1 : decode b_QM_sendRun 1 = .ok (.iconst 0, 1) := by decide +kernel
theorem d_QM_sendRun_2 : decode b_QM_sendRun 2 = .ok (.iload_n 1, 1) := by decide +kernel
theorem d_QM_sendRun_3 : decode b_QM_sendRun 3 = .ok (.aload_n 0, 1) := by decide +kernel
theorem d_QM_sendRun_4 : decode b_QM_sendRun 4 = .ok (.getfield 69, 3) := by decide +kernel
theorem d_QM_sendRun_7 : decode b_QM_sendRun 7 = .ok (.iload_n 1, 1) := by decide +kernel
theorem d_QM_sendRun_8 : decode b_QM_sendRun 8 = .ok (.iaload, 1) := by decide +kernel
theorem d_QM_sendRun_9 : decode b_QM_sendRun 9 = .ok (.invokevirtual 320, 3) := by decide +kernel
theorem d_QM_sendRun_12 : decode b_QM_sendRun 12 = .ok (.aload_n 0, 1) := by decide +kernel
theorem d_QM_sendRun_13 : decode b_QM_sendRun 13 = .ok (.getfield 69, 3) := by decide +kernel
theorem d_QM_sendRun_16 : decode b_QM_sendRun 16 = .ok (.iload_n 1, 1) := by decide +kernel
theorem d_QM_sendRun_17 : decode b_QM_sendRun 17 = .ok (.dup2, 1) := by decide +kernel
theorem d_QM_sendRun_18 : decode b_QM_sendRun 18 = .ok (.iaload, 1) := by decide +kernel
theorem d_QM_sendRun_19 : decode b_QM_sendRun 19 = .ok (.iconst 1, 1) := by decide +kernel
theorem d_QM_sendRun_20 : decode b_QM_sendRun 20 = .ok (.iadd, 1) := by decide +kernel
theorem d_QM_sendRun_21 : decode b_QM_sendRun 21 = .ok (.iastore, 1) := by decide +kernel
theorem d_QM_sendRun_22 : decode b_QM_sendRun 22 = .ok (.aload_n 0, 1) := by decide +kernel
theorem d_QM_sendRun_23 : decode b_QM_sendRun 23 = .ok (.getfield 72, 3) := by decide +kernel
theorem d_QM_sendRun_26 : decode b_QM_sendRun 26 = .ok (.iload_n 1, 1) := by decide +kernel
theorem d_QM_sendRun_27 : decode b_QM_sendRun 27 = .ok (.aload_n 0, 1) := by decide +kernel
theorem d_QM_sendRun_28 : decode b_QM_sendRun 28 = .ok (.getfield 323, 3) := by decide +kernel
theorem d_QM_sendRun_31 : decode b_QM_sendRun 31 = .ok (.iastore, 1) := by decide +kernel
theorem d_QM_sendRun_32 : decode b_QM_sendRun 32 = .ok (.return_, 1) := by decide +kernel
theorem d_QM_strike_0 : decode b_QM_strike 0 = .ok (.aload_n 0, 1) := by decide +kernel
theorem d_QM_strike_1 : decode b_QM_strike 1 = .ok (.dup, 1) := by decide +kernel
theorem d_QM_strike_2 : decode b_QM_strike 2 = .ok (.getfield 302, 3) := by decide +kernel
theorem d_QM_strike_5 : decode b_QM_strike 5 = .ok (.iconst 1, 1) := by decide +kernel
theorem d_QM_strike_6 : decode b_QM_strike 6 = .ok (.isub, 1) := by decide +kernel
theorem d_QM_strike_7 : decode b_QM_strike 7 = .ok (.putfield 302, 3) := by decide +kernel
theorem d_QM_strike_10 : decode b_QM_strike 10 = .ok (.iload_n 1, 1) := by decide +kernel
theorem d_QM_strike_11 : decode b_QM_strike 11 = .ok (.istore_n 2, 1) := by decide +kernel
theorem d_QM_strike_12 : decode b_QM_strike 12 = .ok (.iload_n 2, 1) := by decide +kernel
theorem d_QM_strike_13 : decode b_QM_strike 13 = .ok (.aload_n 0, 1) := by decide +kernel
theorem d_QM_strike_14 : decode b_QM_strike 14 = .ok (.getfield 302, 3) := by decide +kernel
theorem d_QM_strike_17 : decode b_QM_strike 17 = .ok (.if_icmp .ge 51, 3) := by decide +kernel
theorem d_QM_strike_20 : decode b_QM_strike 20 = .ok (.aload_n 0, 1) := by decide +kernel
theorem d_QM_strike_21 : decode b_QM_strike 21 = .ok (.getfield 81, 3) := by decide +kernel
theorem d_QM_strike_24 : decode b_QM_strike 24 = .ok (.iload_n 2, 1) := by decide +kernel
theorem d_QM_strike_25 : decode b_QM_strike 25 = .ok (.aload_n 0, 1) := by decide +kernel
theorem d_QM_strike_26 : decode b_QM_strike 26 = .ok (.getfield 81, 3) := by decide +kernel
theorem d_QM_strike_29 : decode b_QM_strike 29 = .ok (.iload_n 2, 1) := by decide +kernel
theorem d_QM_strike_30 : decode b_QM_strike 30 = .ok (.iconst 1, 1) := by decide +kernel
theorem d_QM_strike_31 : decode b_QM_strike 31 = .ok (.iadd, 1) := by decide +kernel
theorem d_QM_strike_32 : decode b_QM_strike 32 = .ok (.iaload, 1) := by decide +kernel
theorem d_QM_strike_33 : decode b_QM_strike 33 = .ok (.iastore, 1) := by decide +kernel
theorem d_QM_strike_34 : decode b_QM_strike 34 = .ok (.aload_n 0, 1) := by decide +kernel
theorem d_QM_strike_35 : decode b_QM_strike 35 = .ok (.getfield 84, 3) := by decide +kernel
theorem d_QM_strike_38 : decode b_QM_strike 38 = .ok (.iload_n 2, 1) := by decide +kernel
theorem d_QM_strike_39 : decode b_QM_strike 39 = .ok (.aload_n 0, 1) := by decide +kernel
theorem d_QM_strike_40 : decode b_QM_strike 40 = .ok (.getfield 84, 3) := by decide +kernel
theorem d_QM_strike_43 : decode b_QM_strike 43 = .ok (.iload_n 2, 1) := by decide +kernel
theorem d_QM_strike_44 : decode b_QM_strike 44 = .ok (.iconst 1, 1) := by decide +kernel
theorem d_QM_strike_45 : decode b_QM_strike 45 = .ok (.iadd, 1) := by decide +kernel
theorem d_QM_strike_46 : decode b_QM_strike 46 = .ok (.iaload, 1) := by decide +kernel
theorem d_QM_strike_47 : decode b_QM_strike 47 = .ok (.iastore, 1) := by decide +kernel
theorem d_QM_strike_48 : decode b_QM_strike 48 = .ok (.aload_n 0, 1) := by decide +kernel
theorem d_QM_strike_49 : decode b_QM_strike 49 = .ok (.getfield 87, 3) := by decide +kernel
theorem d_QM_strike_52 : decode b_QM_strike 52 = .ok (.iload_n 2, 1) := by decide +kernel
theorem d_QM_strike_53 : decode b_QM_strike 53 = .ok (.aload_n 0, 1) := by decide +kernel
theorem d_QM_strike_54 : decode b_QM_strike 54 = .ok (.getfield 87, 3) := by decide +kernel
theorem d_QM_strike_57 : decode b_QM_strike 57 = .ok (.iload_n 2, 1) := by decide +kernel
theorem d_QM_strike_58 : decode b_QM_strike 58 = .ok (.iconst 1, 1) := by decide +kernel
theorem d_QM_strike_59 : decode b_QM_strike 59 = .ok (.iadd, 1) := by decide +kernel
theorem d_QM_strike_60 : decode b_QM_strike 60 = .ok (.iaload, 1) := by decide +kernel
theorem d_QM_strike_61 : decode b_QM_strike 61 = .ok (.iastore, 1) := by decide +kernel
theorem d_QM_strike_62 : decode b_QM_strike 62 = .ok (.iinc 2 1, 3) := by decide +kernel
theorem d_QM_strike_65 : decode b_QM_strike 65 = .ok (.goto (-53), 3) := by decide +kernel
theorem d_QM_strike_68 : decode b_QM_strike 68 = .ok (.return_, 1) := by decide +kernel
theorem d_QM_workerOf_0 : decode b_QM_workerOf 0 = .ok (.aload_n 0, 1) := by decide +kernel
theorem d_QM_workerOf_1 : decode b_QM_workerOf 1 = .ok (.getfield 66, 3) := by decide +kernel
theorem d_QM_workerOf_4 : decode b_QM_workerOf 4 = .ok (.iload_n 1, 1) := by decide +kernel
theorem d_QM_workerOf_5 : decode b_QM_workerOf 5 = .ok (.iaload, 1) := by decide +kernel
theorem d_QM_workerOf_6 : decode b_QM_workerOf 6 = .ok (.iload_n 2, 1) := by decide +kernel
theorem d_QM_workerOf_7 : decode b_QM_workerOf 7 = .ok (.iadd, 1) := by decide +kernel
theorem d_QM_workerOf_8 : decode b_QM_workerOf 8 = .ok (.aload_n 0, 1) := by decide +kernel
theorem d_QM_workerOf_9 : decode b_QM_workerOf 9 = .ok (.getfield 248, 3) := by decide +kernel
theorem d_QM_workerOf_12 : decode b_QM_workerOf 12 = .ok (.irem, 1) := by decide +kernel
theorem d_QM_workerOf_13 : decode b_QM_workerOf 13 = .ok (.ireturn, 1) := by decide +kernel
theorem d_QM_deliver_0 : decode b_QM_deliver 0 = .ok (.iload_n 1, 1) := by decide +kernel
theorem d_QM_deliver_1 : decode b_QM_deliver 1 = .ok (.ifCond .ne 76, 3) := by decide +kernel
theorem d_QM_deliver_4 : decode b_QM_deliver 4 = .ok (.aload_n 0, 1) := by decide +kernel
theorem d_QM_deliver_5 : decode b_QM_deliver 5 = .ok (.iload_n 2, 1) := by decide +kernel
theorem d_QM_deliver_6 : decode b_QM_deliver 6 = .ok (.iload_n 3, 1) := by decide +kernel
theorem d_QM_deliver_7 : decode b_QM_deliver 7 = .ok (.invokevirtual 326, 3) := by decide +kernel
theorem d_QM_deliver_10 : decode b_QM_deliver 10 = .ok (.istore 4, 2) := by decide +kernel
theorem d_QM_deliver_12 : decode b_QM_deliver 12 = .ok (.aload_n 0, 1) := by decide +kernel
theorem d_QM_deliver_13 : decode b_QM_deliver 13 = .ok (.getfield 90, 3) := by decide +kernel
theorem d_QM_deliver_16 : decode b_QM_deliver 16 = .ok (.iload 4, 2) := by decide +kernel
theorem d_QM_deliver_18 : decode b_QM_deliver 18 = .ok (.iaload, 1) := by decide +kernel
theorem d_QM_deliver_19 : decode b_QM_deliver 19 = .ok (.bipush 12, 2) := by decide +kernel
theorem d_QM_deliver_21 : decode b_QM_deliver 21 = .ok (.if_icmp .ne 5, 3) := by decide +kernel
theorem d_QM_deliver_24 : decode b_QM_deliver 24 = .ok (.iconst 0, 1) := by decide +kernel
theorem d_QM_deliver_25 : decode b_QM_deliver 25 = .ok (.ireturn, 1) := by decide +kernel
theorem d_QM_deliver_26 : decode b_QM_deliver 26 = .ok (.aload_n 0, 1) := by decide +kernel
theorem d_QM_deliver_27 : decode b_QM_deliver 27 = .ok (.getfield 93, 3) := by decide +kernel
theorem d_QM_deliver_30 : decode b_QM_deliver 30 = .ok (.bipush 12, 2) := by decide +kernel
theorem d_QM_deliver_32 : decode b_QM_deliver 32 = .ok (.iload 4, 2) := by decide +kernel
theorem d_QM_deliver_34 : decode b_QM_deliver 34 = .ok (.imul, 1) := by decide +kernel
theorem d_QM_deliver_35 : decode b_QM_deliver 35 = .ok (.aload_n 0, 1) := by decide +kernel
theorem d_QM_deliver_36 : decode b_QM_deliver 36 = .ok (.getfield 90, 3) := by decide +kernel
theorem d_QM_deliver_39 : decode b_QM_deliver 39 = .ok (.iload 4, 2) := by decide +kernel
theorem d_QM_deliver_41 : decode b_QM_deliver 41 = .ok (.iaload, 1) := by decide +kernel
theorem d_QM_deliver_42 : decode b_QM_deliver 42 = .ok (.iadd, 1) := by decide +kernel
theorem d_QM_deliver_43 : decode b_QM_deliver 43 = .ok (.iload_n 2, 1) := by decide +kernel
theorem d_QM_deliver_44 : decode b_QM_deliver 44 = .ok (.iastore, 1) := by decide +kernel
theorem d_QM_deliver_45 : decode b_QM_deliver 45 = .ok (.aload_n 0, 1) := by decide +kernel
theorem d_QM_deliver_46 : decode b_QM_deliver 46 = .ok (.getfield 96, 3) := by decide +kernel
theorem d_QM_deliver_49 : decode b_QM_deliver 49 = .ok (.bipush 12, 2) := by decide +kernel
theorem d_QM_deliver_51 : decode b_QM_deliver 51 = .ok (.iload 4, 2) := by decide +kernel
theorem d_QM_deliver_53 : decode b_QM_deliver 53 = .ok (.imul, 1) := by decide +kernel
theorem d_QM_deliver_54 : decode b_QM_deliver 54 = .ok (.aload_n 0, 1) := by decide +kernel
theorem d_QM_deliver_55 : decode b_QM_deliver 55 = .ok (.getfield 90, 3) := by decide +kernel
theorem d_QM_deliver_58 : decode b_QM_deliver 58 = .ok (.iload 4, 2) := by decide +kernel
theorem d_QM_deliver_60 : decode b_QM_deliver 60 = .ok (.iaload, 1) := by decide +kernel
theorem d_QM_deliver_61 : decode b_QM_deliver 61 = .ok (.iadd, 1) := by decide +kernel
theorem d_QM_deliver_62 : decode b_QM_deliver 62 = .ok (.iload_n 3, 1) := by decide +kernel
theorem d_QM_deliver_63 : decode b_QM_deliver 63 = .ok (.iastore, 1) := by decide +kernel
theorem d_QM_deliver_64 : decode b_QM_deliver 64 = .ok (.aload_n 0, 1) := by decide +kernel
theorem d_QM_deliver_65 : decode b_QM_deliver 65 = .ok (.getfield 90, 3) := by decide +kernel
theorem d_QM_deliver_68 : decode b_QM_deliver 68 = .ok (.iload 4, 2) := by decide +kernel
theorem d_QM_deliver_70 : decode b_QM_deliver 70 = .ok (.dup2, 1) := by decide +kernel
theorem d_QM_deliver_71 : decode b_QM_deliver 71 = .ok (.iaload, 1) := by decide +kernel
theorem d_QM_deliver_72 : decode b_QM_deliver 72 = .ok (.iconst 1, 1) := by decide +kernel
theorem d_QM_deliver_73 : decode b_QM_deliver 73 = .ok (.iadd, 1) := by decide +kernel
theorem d_QM_deliver_74 : decode b_QM_deliver 74 = .ok (.iastore, 1) := by decide +kernel
theorem d_QM_deliver_75 : decode b_QM_deliver 75 = .ok (.iconst 1, 1) := by decide +kernel
theorem d_QM_deliver_76 : decode b_QM_deliver 76 = .ok (.ireturn, 1) := by decide +kernel
theorem d_QM_deliver_77 : decode b_QM_deliver 77 = .ok (.aload_n 0, 1) := by decide +kernel
theorem d_QM_deliver_78 : decode b_QM_deliver 78 = .ok (.getfield 75, 3) := by decide +kernel
theorem d_QM_deliver_81 : decode b_QM_deliver 81 = .ok (.iload_n 2, 1) := by decide +kernel
theorem d_QM_deliver_82 : decode b_QM_deliver 82 = .ok (.baload, 1) := by decide +kernel
theorem d_QM_deliver_83 : decode b_QM_deliver 83 = .ok (.ifCond .eq 15, 3) := by decide +kernel
theorem d_QM_deliver_86 : decode b_QM_deliver 86 = .ok (.aload_n 0, 1) := by decide +kernel
theorem d_QM_deliver_87 : decode b_QM_deliver 87 = .ok (.dup, 1) := by decide +kernel
theorem d_QM_deliver_88 : decode b_QM_deliver 88 = .ok (.getfield 305, 3) := by decide +kernel
theorem d_QM_deliver_91 : decode b_QM_deliver 91 = .ok (.iconst 1, 1) := by decide +kernel
theorem d_QM_deliver_92 : decode b_QM_deliver 92 = .ok (.iadd, 1) := by decide +kernel
theorem d_QM_deliver_93 : decode b_QM_deliver 93 = .ok (.putfield 305, 3) := by decide +kernel
theorem d_QM_deliver_96 : decode b_QM_deliver 96 = .ok (.iconst 0, 1) := by decide +kernel
theorem d_QM_deliver_97 : decode b_QM_deliver 97 = .ok (.ireturn, 1) := by decide +kernel
theorem d_QM_deliver_98 : decode b_QM_deliver 98 = .ok (.aload_n 0, 1) := by decide +kernel
theorem d_QM_deliver_99 : decode b_QM_deliver 99 = .ok (.getfield 75, 3) := by decide +kernel
theorem d_QM_deliver_102 : decode b_QM_deliver 102 = .ok (.iload_n 2, 1) := by decide +kernel
theorem d_QM_deliver_103 : decode b_QM_deliver 103 = .ok (.iconst 1, 1) := by decide +kernel
theorem d_QM_deliver_104 : decode b_QM_deliver 104 = .ok (.bastore, 1) := by decide +kernel
theorem d_QM_deliver_105 : decode b_QM_deliver 105 = .ok (.aload_n 0, 1) := by decide +kernel
theorem d_QM_deliver_106 : decode b_QM_deliver 106 = .ok (.invokevirtual 311, 3) := by decide +kernel
theorem d_QM_deliver_109 : decode b_QM_deliver 109 = .ok (.aload_n 0, 1) := by decide +kernel
theorem d_QM_deliver_110 : decode b_QM_deliver 110 = .ok (.aload_n 0, 1) := by decide +kernel
theorem d_QM_deliver_111 : decode b_QM_deliver 111 = .ok (.iconst 4, 1) := by decide +kernel
theorem d_QM_deliver_112 : decode b_QM_deliver 112 = .ok (.invokevirtual 314, 3) := by decide +kernel
theorem d_QM_deliver_115 : decode b_QM_deliver 115 = .ok (.ifCond .ne 7, 3) := by decide +kernel
theorem d_QM_deliver_118 : decode b_QM_deliver 118 = .ok (.iconst 1, 1) := by decide +kernel
theorem d_QM_deliver_119 : decode b_QM_deliver 119 = .ok (.goto 4, 3) := by decide +kernel
theorem d_QM_deliver_122 : decode b_QM_deliver 122 = .ok (.iconst 0, 1) := by decide +kernel
theorem d_QM_deliver_123 : decode b_QM_deliver 123 = .ok (.putfield 99, 3) := by decide +kernel
theorem d_QM_deliver_126 : decode b_QM_deliver 126 = .ok (.iconst 1, 1) := by decide +kernel
theorem d_QM_deliver_127 : decode b_QM_deliver 127 = .ok (.ireturn, 1) := by decide +kernel
theorem d_QM_pass_0 : decode b_QM_pass 0 = .ok (.aload_n 0, 1) := by decide +kernel
theorem d_QM_pass_1 : decode b_QM_pass 1 = .ok (.getfield 99, 3) := by decide +kernel
theorem d_QM_pass_4 : decode b_QM_pass 4 = .ok (.ifCond .eq 26, 3) := by decide +kernel
theorem d_QM_pass_7 : decode b_QM_pass 7 = .ok (.iload_n 1, 1) := by decide +kernel
theorem d_QM_pass_8 : decode b_QM_pass 8 = .ok (.iconst 0, 1) := by decide +kernel
theorem d_QM_pass_9 : decode b_QM_pass 9 = .ok (.aload_n 0, 1) := by decide +kernel
theorem d_QM_pass_10 : decode b_QM_pass 10 = .ok (.getfield 302, 3) := by decide +kernel
theorem d_QM_pass_13 : decode b_QM_pass 13 = .ok (.iconst 1, 1) := by decide +kernel
theorem d_QM_pass_14 : decode b_QM_pass 14 = .ok (.isub, 1) := by decide +kernel
theorem d_QM_pass_15 : decode b_QM_pass 15 = .ok (.invokestatic 103, 3) := by decide +kernel
theorem d_QM_pass_18 : decode b_QM_pass 18 = .ok (.ifCond .eq 12, 3) := by decide +kernel
theorem d_QM_pass_21 : decode b_QM_pass 21 = .ok (.iload_n 2, 1) := by decide +kernel
theorem d_QM_pass_22 : decode b_QM_pass 22 = .ok (.iconst 0, 1) := by decide +kernel
theorem d_QM_pass_23 : decode b_QM_pass 23 = .ok (.iconst 2, 1) := by decide +kernel
theorem d_QM_pass_24 : decode b_QM_pass 24 = .ok (.invokestatic 103, 3) := by decide +kernel
theorem d_QM_pass_27 : decode b_QM_pass 27 = .ok (.ifCond .ne 5, 3) := by decide +kernel
theorem d_QM_pass_30 : decode b_QM_pass 30 = .ok (.iconst (-1), 1) := by decide +kernel
theorem d_QM_pass_31 : decode b_QM_pass 31 = .ok (.ireturn, 1) := by decide +kernel
theorem d_QM_pass_32 : decode b_QM_pass 32 = .ok (.iload_n 2, 1) := by decide +kernel
theorem d_QM_pass_33 : decode b_QM_pass 33 = .ok (.iconst 2, 1) := by decide +kernel
theorem d_QM_pass_34 : decode b_QM_pass 34 = .ok (.if_icmp .ne 39, 3) := by decide +kernel
theorem d_QM_pass_37 : decode b_QM_pass 37 = .ok (.aload_n 0, 1) := by decide +kernel
theorem d_QM_pass_38 : decode b_QM_pass 38 = .ok (.getfield 302, 3) := by decide +kernel
theorem d_QM_pass_41 : decode b_QM_pass 41 = .ok (.bipush 60, 2) := by decide +kernel
theorem d_QM_pass_43 : decode b_QM_pass 43 = .ok (.if_icmp .lt 6, 3) := by decide +kernel
theorem d_QM_pass_46 : decode b_QM_pass 46 = .ok (.bipush (-2), 2) := by decide +kernel
theorem d_QM_pass_48 : decode b_QM_pass 48 = .ok (.ireturn, 1) := by decide +kernel
theorem d_QM_pass_49 : decode b_QM_pass 49 = .ok (.aload_n 0, 1) := by decide +kernel
theorem d_QM_pass_50 : decode b_QM_pass 50 = .ok (.aload_n 0, 1) := by decide +kernel
theorem d_QM_pass_51 : decode b_QM_pass 51 = .ok (.getfield 81, 3) := by decide +kernel
theorem d_QM_pass_54 : decode b_QM_pass 54 = .ok (.iload_n 1, 1) := by decide +kernel
theorem d_QM_pass_55 : decode b_QM_pass 55 = .ok (.iaload, 1) := by decide +kernel
theorem d_QM_pass_56 : decode b_QM_pass 56 = .ok (.aload_n 0, 1) := by decide +kernel
theorem d_QM_pass_57 : decode b_QM_pass 57 = .ok (.getfield 84, 3) := by decide +kernel
theorem d_QM_pass_60 : decode b_QM_pass 60 = .ok (.iload_n 1, 1) := by decide +kernel
theorem d_QM_pass_61 : decode b_QM_pass 61 = .ok (.iaload, 1) := by decide +kernel
theorem d_QM_pass_62 : decode b_QM_pass 62 = .ok (.aload_n 0, 1) := by decide +kernel
theorem d_QM_pass_63 : decode b_QM_pass 63 = .ok (.getfield 87, 3) := by decide +kernel
theorem d_QM_pass_66 : decode b_QM_pass 66 = .ok (.iload_n 1, 1) := by decide +kernel
theorem d_QM_pass_67 : decode b_QM_pass 67 = .ok (.iaload, 1) := by decide +kernel
theorem d_QM_pass_68 : decode b_QM_pass 68 = .ok (.invokevirtual 320, 3) := by decide +kernel
theorem d_QM_pass_71 : decode b_QM_pass 71 = .ok (.iconst 1, 1) := by decide +kernel
theorem d_QM_pass_72 : decode b_QM_pass 72 = .ok (.ireturn, 1) := by decide +kernel
theorem d_QM_pass_73 : decode b_QM_pass 73 = .ok (.aload_n 0, 1) := by decide +kernel
theorem d_QM_pass_74 : decode b_QM_pass 74 = .ok (.getfield 81, 3) := by decide +kernel
theorem d_QM_pass_77 : decode b_QM_pass 77 = .ok (.iload_n 1, 1) := by decide +kernel
theorem d_QM_pass_78 : decode b_QM_pass 78 = .ok (.iaload, 1) := by decide +kernel
theorem d_QM_pass_79 : decode b_QM_pass 79 = .ok (.istore_n 3, 1) := by decide +kernel
theorem d_QM_pass_80 : decode b_QM_pass 80 = .ok (.aload_n 0, 1) := by decide +kernel
theorem d_QM_pass_81 : decode b_QM_pass 81 = .ok (.getfield 84, 3) := by decide +kernel
theorem d_QM_pass_84 : decode b_QM_pass 84 = .ok (.iload_n 1, 1) := by decide +kernel
theorem d_QM_pass_85 : decode b_QM_pass 85 = .ok (.iaload, 1) := by decide +kernel
theorem d_QM_pass_86 : decode b_QM_pass 86 = .ok (.istore 4, 2) := by decide +kernel
theorem d_QM_pass_88 : decode b_QM_pass 88 = .ok (.aload_n 0, 1) := by decide +kernel
theorem d_QM_pass_89 : decode b_QM_pass 89 = .ok (.getfield 87, 3) := by decide +kernel
theorem d_QM_pass_92 : decode b_QM_pass 92 = .ok (.iload_n 1, 1) := by decide +kernel
theorem d_QM_pass_93 : decode b_QM_pass 93 = .ok (.iaload, 1) := by decide +kernel
theorem d_QM_pass_94 : decode b_QM_pass 94 = .ok (.istore 5, 2) := by decide +kernel
theorem d_QM_pass_96 : decode b_QM_pass 96 = .ok (.aload_n 0, 1) := by decide +kernel
theorem d_QM_pass_97 : decode b_QM_pass 97 = .ok (.iload_n 1, 1) := by decide +kernel
theorem d_QM_pass_98 : decode b_QM_pass 98 = .ok (.invokevirtual 329, 3) := by decide +kernel
theorem d_QM_pass_101 : decode b_QM_pass 101 = .ok (.iload_n 2, 1) := by decide +kernel
theorem d_QM_pass_102 : decode b_QM_pass 102 = .ok (.iconst 1, 1) := by decide +kernel
theorem d_QM_pass_103 : decode b_QM_pass 103 = .ok (.if_icmp .ne 7, 3) := by decide +kernel
theorem d_QM_pass_106 : decode b_QM_pass 106 = .ok (.iconst 1, 1) := by decide +kernel
theorem d_QM_pass_107 : decode b_QM_pass 107 = .ok (.goto 12, 3) := by decide +kernel
theorem d_QM_pass_110 : decode b_QM_pass 110 = .ok (.aload_n 0, 1) := by decide +kernel
theorem d_QM_pass_111 : decode b_QM_pass 111 = .ok (.iload_n 3, 1) := by decide +kernel
theorem d_QM_pass_112 : decode b_QM_pass 112 = .ok (.iload 4, 2) := by decide +kernel
theorem d_QM_pass_114 : decode b_QM_pass 114 = .ok (.iload 5, 2) := by decide +kernel
theorem d_QM_pass_116 : decode b_QM_pass 116 = .ok (.invokevirtual 332, 3) := by decide +kernel
theorem d_QM_pass_119 : decode b_QM_pass 119 = .ok (.ireturn, 1) := by decide +kernel
theorem d_QM_isWorker_0 : decode b_QM_isWorker 0 = .ok (.aload_n 0, 1) := by decide +kernel
theorem d_QM_isWorker_1 : decode b_QM_isWorker 1 = .ok (.getfield 99, 3) := by decide +kernel
theorem d_QM_isWorker_4 : decode b_QM_isWorker 4 = .ok (.ifCond .eq 21, 3) := by decide +kernel
theorem d_QM_isWorker_7 : decode b_QM_isWorker 7 = .ok (.iload_n 1, 1) := by decide +kernel
theorem d_QM_isWorker_8 : decode b_QM_isWorker 8 = .ok (.iconst 0, 1) := by decide +kernel
theorem d_QM_isWorker_9 : decode b_QM_isWorker 9 = .ok (.aload_n 0, 1) := by decide +kernel
theorem d_QM_isWorker_10 : decode b_QM_isWorker 10 = .ok (.getfield 248, 3) := by decide +kernel
theorem d_QM_isWorker_13 : decode b_QM_isWorker 13 = .ok (.iconst 1, 1) := by decide +kernel
theorem d_QM_isWorker_14 : decode b_QM_isWorker 14 = .ok (.isub, 1) := by decide +kernel
theorem d_QM_isWorker_15 : decode b_QM_isWorker 15 = .ok (.invokestatic 103, 3) := by decide +kernel
theorem d_QM_isWorker_18 : decode b_QM_isWorker 18 = .ok (.ifCond .eq 7, 3) := by decide +kernel
theorem d_QM_isWorker_21 : decode b_QM_isWorker 21 = .ok (.iconst 1, 1) := by decide +kernel
theorem d_QM_isWorker_22 : decode b_QM_isWorker 22 = .ok (.goto 4, 3) := by decide +kernel
theorem d_QM_isWorker_25 : decode b_QM_isWorker 25 = .ok (.iconst 0, 1) := by decide +kernel
theorem d_QM_isWorker_26 : decode b_QM_isWorker 26 = .ok (.ireturn, 1) := by decide +kernel
theorem d_QM_work_0 : decode b_QM_work 0 = .ok (.aload_n 0, 1) := by decide +kernel
theorem d_QM_work_1 : decode b_QM_work 1 = .ok (.iload_n 1, 1) := by decide +kernel
theorem d_QM_work_2 : decode b_QM_work 2 = .ok (.invokevirtual 335, 3) := by decide +kernel
theorem d_QM_work_5 : decode b_QM_work 5 = .ok (.ifCond .ne 5, 3) := by decide +kernel
theorem d_QM_work_8 : decode b_QM_work 8 = .ok (.iconst (-1), 1) := by decide +kernel
theorem d_QM_work_9 : decode b_QM_work 9 = .ok (.ireturn, 1) := by decide +kernel
theorem d_QM_work_10 : decode b_QM_work 10 = .ok (.aload_n 0, 1) := by decide +kernel
theorem d_QM_work_11 : decode b_QM_work 11 = .ok (.getfield 90, 3) := by decide +kernel
theorem d_QM_work_14 : decode b_QM_work 14 = .ok (.iload_n 1, 1) := by decide +kernel
theorem d_QM_work_15 : decode b_QM_work 15 = .ok (.iaload, 1) := by decide +kernel
theorem d_QM_work_16 : decode b_QM_work 16 = .ok (.ifCond .ne 5, 3) := by decide +kernel
theorem d_QM_work_19 : decode b_QM_work 19 = .ok (.iconst (-1), 1) := by decide +kernel
theorem d_QM_work_20 : decode b_QM_work 20 = .ok (.ireturn, 1) := by decide +kernel
theorem d_QM_work_21 : decode b_QM_work 21 = .ok (.aload_n 0, 1) := by decide +kernel
theorem d_QM_work_22 : decode b_QM_work 22 = .ok (.getfield 302, 3) := by decide +kernel
theorem d_QM_work_25 : decode b_QM_work 25 = .ok (.bipush 60, 2) := by decide +kernel
theorem d_QM_work_27 : decode b_QM_work 27 = .ok (.if_icmp .lt 6, 3) := by decide +kernel
theorem d_QM_work_30 : decode b_QM_work 30 = .ok (.bipush (-2), 2) := by decide +kernel
theorem d_QM_work_32 : decode b_QM_work 32 = .ok (.ireturn, 1) := by decide +kernel
theorem d_QM_work_33 : decode b_QM_work 33 = .ok (.bipush 12, 2) := by decide +kernel
theorem d_QM_work_35 : decode b_QM_work 35 = .ok (.iload_n 1, 1) := by decide +kernel
theorem d_QM_work_36 : decode b_QM_work 36 = .ok (.imul, 1) := by decide +kernel
theorem d_QM_work_37 : decode b_QM_work 37 = .ok (.istore_n 2, 1) := by decide +kernel
theorem d_QM_work_38 : decode b_QM_work 38 = .ok (.aload_n 0, 1) := by decide +kernel
theorem d_QM_work_39 : decode b_QM_work 39 = .ok (.getfield 93, 3) := by decide +kernel
theorem d_QM_work_42 : decode b_QM_work 42 = .ok (.iload_n 2, 1) := by decide +kernel
theorem d_QM_work_43 : decode b_QM_work 43 = .ok (.iaload, 1) := by decide +kernel
theorem d_QM_work_44 : decode b_QM_work 44 = .ok (.istore_n 3, 1) := by decide +kernel
theorem d_QM_work_45 : decode b_QM_work 45 = .ok (.aload_n 0, 1) := by decide +kernel
theorem d_QM_work_46 : decode b_QM_work 46 = .ok (.iconst 1, 1) := by decide +kernel
theorem d_QM_work_47 : decode b_QM_work 47 = .ok (.iload_n 3, 1) := by decide +kernel
theorem d_QM_work_48 : decode b_QM_work 48 = .ok (.aload_n 0, 1) := by decide +kernel
theorem d_QM_work_49 : decode b_QM_work 49 = .ok (.getfield 96, 3) := by decide +kernel
theorem d_QM_work_52 : decode b_QM_work 52 = .ok (.iload_n 2, 1) := by decide +kernel
theorem d_QM_work_53 : decode b_QM_work 53 = .ok (.iaload, 1) := by decide +kernel
theorem d_QM_work_54 : decode b_QM_work 54 = .ok (.invokevirtual 320, 3) := by decide +kernel
theorem d_QM_work_57 : decode b_QM_work 57 = .ok (.aload_n 0, 1) := by decide +kernel
theorem d_QM_work_58 : decode b_QM_work 58 = .ok (.getfield 90, 3) := by decide +kernel
theorem d_QM_work_61 : decode b_QM_work 61 = .ok (.iload_n 1, 1) := by decide +kernel
theorem d_QM_work_62 : decode b_QM_work 62 = .ok (.dup2, 1) := by decide +kernel
theorem d_QM_work_63 : decode b_QM_work 63 = .ok (.iaload, 1) := by decide +kernel
theorem d_QM_work_64 : decode b_QM_work 64 = .ok (.iconst 1, 1) := by decide +kernel
theorem d_QM_work_65 : decode b_QM_work 65 = .ok (.isub, 1) := by decide +kernel
theorem d_QM_work_66 : decode b_QM_work 66 = .ok (.iastore, 1) := by decide +kernel
theorem d_QM_work_67 : decode b_QM_work 67 = .ok (.iload_n 2, 1) := by decide +kernel
theorem d_QM_work_68 : decode b_QM_work 68 = .ok (.istore 4, 2) := by decide +kernel
theorem d_QM_work_70 : decode b_QM_work 70 = .ok (.iload 4, 2) := by decide +kernel
theorem d_QM_work_72 : decode b_QM_work 72 = .ok (.iload_n 2, 1) := by decide +kernel
theorem d_QM_work_73 : decode b_QM_work 73 = .ok (.aload_n 0, 1) := by decide +kernel
theorem d_QM_work_74 : decode b_QM_work 74 = .ok (.getfield 90, 3) := by decide +kernel
theorem d_QM_work_77 : decode b_QM_work 77 = .ok (.iload_n 1, 1) := by decide +kernel
theorem d_QM_work_78 : decode b_QM_work 78 = .ok (.iaload, 1) := by decide +kernel
theorem d_QM_work_79 : decode b_QM_work 79 = .ok (.iadd, 1) := by decide +kernel
theorem d_QM_work_80 : decode b_QM_work 80 = .ok (.if_icmp .ge 41, 3) := by decide +kernel
theorem d_QM_work_83 : decode b_QM_work 83 = .ok (.aload_n 0, 1) := by decide +kernel
theorem d_QM_work_84 : decode b_QM_work 84 = .ok (.getfield 93, 3) := by decide +kernel
theorem d_QM_work_87 : decode b_QM_work 87 = .ok (.iload 4, 2) := by decide +kernel
theorem d_QM_work_89 : decode b_QM_work 89 = .ok (.aload_n 0, 1) := by decide +kernel
theorem d_QM_work_90 : decode b_QM_work 90 = .ok (.getfield 93, 3) := by decide +kernel
theorem d_QM_work_93 : decode b_QM_work 93 = .ok (.iload 4, 2) := by decide +kernel
theorem d_QM_work_95 : decode b_QM_work 95 = .ok (.iconst 1, 1) := by decide +kernel
theorem d_QM_work_96 : decode b_QM_work 96 = .ok (.iadd, 1) := by decide +kernel
theorem d_QM_work_97 : decode b_QM_work 97 = .ok (.iaload, 1) := by decide +kernel
theorem d_QM_work_98 : decode b_QM_work 98 = .ok (.iastore, 1) := by decide +kernel
theorem d_QM_work_99 : decode b_QM_work 99 = .ok (.aload_n 0, 1) := by decide +kernel
theorem d_QM_work_100 : decode b_QM_work 100 = .ok (.getfield 96, 3) := by decide +kernel
theorem d_QM_work_103 : decode b_QM_work 103 = .ok (.iload 4, 2) := by decide +kernel
theorem d_QM_work_105 : decode b_QM_work 105 = .ok (.aload_n 0, 1) := by decide +kernel
theorem d_QM_work_106 : decode b_QM_work 106 = .ok (.getfield 96, 3) := by decide +kernel
theorem d_QM_work_109 : decode b_QM_work 109 = .ok (.iload 4, 2) := by decide +kernel
theorem d_QM_work_111 : decode b_QM_work 111 = .ok (.iconst 1, 1) := by decide +kernel
theorem d_QM_work_112 : decode b_QM_work 112 = .ok (.iadd, 1) := by decide +kernel
theorem d_QM_work_113 : decode b_QM_work 113 = .ok (.iaload, 1) := by decide +kernel
theorem d_QM_work_114 : decode b_QM_work 114 = .ok (.iastore, 1) := by decide +kernel
theorem d_QM_work_115 : decode b_QM_work 115 = .ok (.iinc 4 1, 3) := by decide +kernel
theorem d_QM_work_118 : decode b_QM_work 118 = .ok (.goto (-48), 3) := by decide +kernel
theorem d_QM_work_121 : decode b_QM_work 121 = .ok (.iload_n 3, 1) := by decide +kernel
theorem d_QM_work_122 : decode b_QM_work 122 = .ok (.ireturn, 1) := by decide +kernel
theorem d_QM_crash_0 : decode b_QM_crash 0 = .ok (.aload_n 0, 1) := by decide +kernel
theorem d_QM_crash_1 : decode b_QM_crash 1 = .ok (.iload_n 1, 1) := by decide +kernel
theorem d_QM_crash_2 : decode b_QM_crash 2 = .ok (.invokevirtual 335, 3) := by decide +kernel
theorem d_QM_crash_5 : decode b_QM_crash 5 = .ok (.ifCond .ne 5, 3) := by decide +kernel
theorem d_QM_crash_8 : decode b_QM_crash 8 = .ok (.iconst (-1), 1) := by decide +kernel
theorem d_QM_crash_9 : decode b_QM_crash 9 = .ok (.ireturn, 1) := by decide +kernel
theorem d_QM_crash_10 : decode b_QM_crash 10 = .ok (.aload_n 0, 1) := by decide +kernel
theorem d_QM_crash_11 : decode b_QM_crash 11 = .ok (.getfield 90, 3) := by decide +kernel
theorem d_QM_crash_14 : decode b_QM_crash 14 = .ok (.iload_n 1, 1) := by decide +kernel
theorem d_QM_crash_15 : decode b_QM_crash 15 = .ok (.iaload, 1) := by decide +kernel
theorem d_QM_crash_16 : decode b_QM_crash 16 = .ok (.istore_n 2, 1) := by decide +kernel
theorem d_QM_crash_17 : decode b_QM_crash 17 = .ok (.aload_n 0, 1) := by decide +kernel
theorem d_QM_crash_18 : decode b_QM_crash 18 = .ok (.getfield 90, 3) := by decide +kernel
theorem d_QM_crash_21 : decode b_QM_crash 21 = .ok (.iload_n 1, 1) := by decide +kernel
theorem d_QM_crash_22 : decode b_QM_crash 22 = .ok (.iconst 0, 1) := by decide +kernel
theorem d_QM_crash_23 : decode b_QM_crash 23 = .ok (.iastore, 1) := by decide +kernel
theorem d_QM_crash_24 : decode b_QM_crash 24 = .ok (.iload_n 2, 1) := by decide +kernel
theorem d_QM_crash_25 : decode b_QM_crash 25 = .ok (.ireturn, 1) := by decide +kernel
theorem d_QM_tick_0 : decode b_QM_tick 0 = .ok (.aload_n 0, 1) := by decide +kernel
theorem d_QM_tick_1 : decode b_QM_tick 1 = .ok (.getfield 99, 3) := by decide +kernel
theorem d_QM_tick_4 : decode b_QM_tick 4 = .ok (.ifCond .ne 5, 3) := by decide +kernel
theorem d_QM_tick_7 : decode b_QM_tick 7 = .ok (.iconst (-1), 1) := by decide +kernel
theorem d_QM_tick_8 : decode b_QM_tick 8 = .ok (.ireturn, 1) := by decide +kernel
theorem d_QM_tick_9 : decode b_QM_tick 9 = .ok (.aload_n 0, 1) := by decide +kernel
theorem d_QM_tick_10 : decode b_QM_tick 10 = .ok (.dup, 1) := by decide +kernel
theorem d_QM_tick_11 : decode b_QM_tick 11 = .ok (.getfield 323, 3) := by decide +kernel
theorem d_QM_tick_14 : decode b_QM_tick 14 = .ok (.iconst 1, 1) := by decide +kernel
theorem d_QM_tick_15 : decode b_QM_tick 15 = .ok (.iadd, 1) := by decide +kernel
theorem d_QM_tick_16 : decode b_QM_tick 16 = .ok (.putfield 323, 3) := by decide +kernel
theorem d_QM_tick_19 : decode b_QM_tick 19 = .ok (.iconst 0, 1) := by decide +kernel
theorem d_QM_tick_20 : decode b_QM_tick 20 = .ok (.istore_n 1, 1) := by decide +kernel
theorem d_QM_tick_21 : decode b_QM_tick 21 = .ok (.iconst 0, 1) := by decide +kernel
theorem d_QM_tick_22 : decode b_QM_tick 22 = .ok (.istore_n 2, 1) := by decide +kernel
theorem d_QM_tick_23 : decode b_QM_tick 23 = .ok (.iload_n 2, 1) := by decide +kernel
theorem d_QM_tick_24 : decode b_QM_tick 24 = .ok (.aload_n 0, 1) := by decide +kernel
theorem d_QM_tick_25 : decode b_QM_tick 25 = .ok (.getfield 258, 3) := by decide +kernel
theorem d_QM_tick_28 : decode b_QM_tick 28 = .ok (.if_icmp .ge 62, 3) := by decide +kernel
theorem d_QM_tick_31 : decode b_QM_tick 31 = .ok (.aload_n 0, 1) := by decide +kernel
theorem d_QM_tick_32 : decode b_QM_tick 32 = .ok (.getfield 69, 3) := by decide +kernel
theorem d_QM_tick_35 : decode b_QM_tick 35 = .ok (.iload_n 2, 1) := by decide +kernel
theorem d_QM_tick_36 : decode b_QM_tick 36 = .ok (.iaload, 1) := by decide +kernel
theorem d_QM_tick_37 : decode b_QM_tick 37 = .ok (.ifCond .eq 47, 3) := by decide +kernel
theorem d_QM_tick_40 : decode b_QM_tick 40 = .ok (.aload_n 0, 1) := by decide +kernel
theorem d_QM_tick_41 : decode b_QM_tick 41 = .ok (.getfield 75, 3) := by decide +kernel
theorem d_QM_tick_44 : decode b_QM_tick 44 = .ok (.iload_n 2, 1) := by decide +kernel
theorem d_QM_tick_45 : decode b_QM_tick 45 = .ok (.baload, 1) := by decide +kernel
theorem d_QM_tick_46 : decode b_QM_tick 46 = .ok (.ifCond .ne 38, 3) := by decide +kernel
theorem d_QM_tick_49 : decode b_QM_tick 49 = .ok (.aload_n 0, 1) := by decide +kernel
theorem d_QM_tick_50 : decode b_QM_tick 50 = .ok (.getfield 323, 3) := by decide +kernel
theorem d_QM_tick_53 : decode b_QM_tick 53 = .ok (.aload_n 0, 1) := by decide +kernel
theorem d_QM_tick_54 : decode b_QM_tick 54 = .ok (.getfield 72, 3) := by decide +kernel
theorem d_QM_tick_57 : decode b_QM_tick 57 = .ok (.iload_n 2, 1) := by decide +kernel
theorem d_QM_tick_58 : decode b_QM_tick 58 = .ok (.iaload, 1) := by decide +kernel
theorem d_QM_tick_59 : decode b_QM_tick 59 = .ok (.isub, 1) := by decide +kernel
theorem d_QM_tick_60 : decode b_QM_tick 60 = .ok (.iconst 3, 1) := by decide +kernel
theorem d_QM_tick_61 : decode b_QM_tick 61 = .ok (.if_icmp .lt 23, 3) := by decide +kernel
theorem d_QM_tick_64 : decode b_QM_tick 64 = .ok (.aload_n 0, 1) := by decide +kernel
theorem d_QM_tick_65 : decode b_QM_tick 65 = .ok (.getfield 302, 3) := by decide +kernel
theorem d_QM_tick_68 : decode b_QM_tick 68 = .ok (.bipush 60, 2) := by decide +kernel
theorem d_QM_tick_70 : decode b_QM_tick 70 = .ok (.if_icmp .lt 6, 3) := by decide +kernel
theorem d_QM_tick_73 : decode b_QM_tick 73 = .ok (.goto 11, 3) := by decide +kernel
theorem d_QM_tick_76 : decode b_QM_tick 76 = .ok (.aload_n 0, 1) := by decide +kernel
theorem d_QM_tick_77 : decode b_QM_tick 77 = .ok (.iload_n 2, 1) := by decide +kernel
theorem d_QM_tick_78 : decode b_QM_tick 78 = .ok (.invokevirtual 317, 3) := by decide +kernel
theorem d_QM_tick_81 : decode b_QM_tick 81 = .ok (.iinc 1 1, 3) := by decide +kernel
theorem d_QM_tick_84 : decode b_QM_tick 84 = .ok (.iinc 2 1, 3) := by decide +kernel
theorem d_QM_tick_87 : decode b_QM_tick 87 = .ok (.goto (-64), 3) := by decide +kernel
theorem d_QM_tick_90 : decode b_QM_tick 90 = .ok (.iload_n 1, 1) := by decide +kernel
theorem d_QM_tick_91 : decode b_QM_tick 91 = .ok (.ireturn, 1) := by decide +kernel
theorem d_QM_message_0 : decode b_QM_message 0 = .ok (.aload_n 0, 1) := by decide +kernel
theorem d_QM_message_1 : decode b_QM_message 1 = .ok (.getfield 99, 3) := by decide +kernel
theorem d_QM_message_4 : decode b_QM_message 4 = .ok (.ifCond .ne 5, 3) := by decide +kernel
theorem d_QM_message_7 : decode b_QM_message 7 = .ok (.iconst (-1), 1) := by decide +kernel
theorem d_QM_message_8 : decode b_QM_message 8 = .ok (.ireturn, 1) := by decide +kernel
theorem d_QM_message_9 : decode b_QM_message 9 = .ok (.iload_n 1, 1) := by decide +kernel
theorem d_QM_message_10 : decode b_QM_message 10 = .ok (.iconst (-1), 1) := by decide +kernel
theorem d_QM_message_11 : decode b_QM_message 11 = .ok (.if_icmp .ne 8, 3) := by decide +kernel
theorem d_QM_message_14 : decode b_QM_message 14 = .ok (.aload_n 0, 1) := by decide +kernel
theorem d_QM_message_15 : decode b_QM_message 15 = .ok (.getfield 302, 3) := by decide +kernel
theorem d_QM_message_18 : decode b_QM_message 18 = .ok (.ireturn, 1) := by decide +kernel
theorem d_QM_message_19 : decode b_QM_message 19 = .ok (.iload_n 1, 1) := by decide +kernel
theorem d_QM_message_20 : decode b_QM_message 20 = .ok (.iconst 0, 1) := by decide +kernel
theorem d_QM_message_21 : decode b_QM_message 21 = .ok (.aload_n 0, 1) := by decide +kernel
theorem d_QM_message_22 : decode b_QM_message 22 = .ok (.getfield 302, 3) := by decide +kernel
theorem d_QM_message_25 : decode b_QM_message 25 = .ok (.iconst 1, 1) := by decide +kernel
theorem d_QM_message_26 : decode b_QM_message 26 = .ok (.isub, 1) := by decide +kernel
theorem d_QM_message_27 : decode b_QM_message 27 = .ok (.invokestatic 103, 3) := by decide +kernel
theorem d_QM_message_30 : decode b_QM_message 30 = .ok (.ifCond .ne 5, 3) := by decide +kernel
theorem d_QM_message_33 : decode b_QM_message 33 = .ok (.iconst (-1), 1) := by decide +kernel
theorem d_QM_message_34 : decode b_QM_message 34 = .ok (.ireturn, 1) := by decide +kernel
theorem d_QM_message_35 : decode b_QM_message 35 = .ok (.aload_n 0, 1) := by decide +kernel
theorem d_QM_message_36 : decode b_QM_message 36 = .ok (.getfield 84, 3) := by decide +kernel
theorem d_QM_message_39 : decode b_QM_message 39 = .ok (.iload_n 1, 1) := by decide +kernel
theorem d_QM_message_40 : decode b_QM_message 40 = .ok (.iaload, 1) := by decide +kernel
theorem d_QM_message_41 : decode b_QM_message 41 = .ok (.istore_n 3, 1) := by decide +kernel
theorem d_QM_message_42 : decode b_QM_message 42 = .ok (.iload_n 2, 1) := by decide +kernel
theorem d_QM_message_43 : decode b_QM_message 43 = .ok (.tableswitch 75 0 3 #[29, 36, 38, 45], 29) := by decide +kernel
theorem d_QM_message_72 : decode b_QM_message 72 = .ok (.aload_n 0, 1) := by decide +kernel
theorem d_QM_message_73 : decode b_QM_message 73 = .ok (.getfield 81, 3) := by decide +kernel
theorem d_QM_message_76 : decode b_QM_message 76 = .ok (.iload_n 1, 1) := by decide +kernel
theorem d_QM_message_77 : decode b_QM_message 77 = .ok (.iaload, 1) := by decide +kernel
theorem d_QM_message_78 : decode b_QM_message 78 = .ok (.ireturn, 1) := by decide +kernel
theorem d_QM_message_79 : decode b_QM_message 79 = .ok (.iload_n 3, 1) := by decide +kernel
theorem d_QM_message_80 : decode b_QM_message 80 = .ok (.ireturn, 1) := by decide +kernel
theorem d_QM_message_81 : decode b_QM_message 81 = .ok (.aload_n 0, 1) := by decide +kernel
theorem d_QM_message_82 : decode b_QM_message 82 = .ok (.getfield 87, 3) := by decide +kernel
theorem d_QM_message_85 : decode b_QM_message 85 = .ok (.iload_n 1, 1) := by decide +kernel
theorem d_QM_message_86 : decode b_QM_message 86 = .ok (.iaload, 1) := by decide +kernel
theorem d_QM_message_87 : decode b_QM_message 87 = .ok (.ireturn, 1) := by decide +kernel
theorem d_QM_message_88 : decode b_QM_message 88 = .ok (.aload_n 0, 1) := by decide +kernel
theorem d_QM_message_89 : decode b_QM_message 89 = .ok (.getfield 81, 3) := by decide +kernel
theorem d_QM_message_92 : decode b_QM_message 92 = .ok (.iload_n 1, 1) := by decide +kernel
theorem d_QM_message_93 : decode b_QM_message 93 = .ok (.iaload, 1) := by decide +kernel
theorem d_QM_message_94 : decode b_QM_message 94 = .ok (.ifCond .ne 17, 3) := by decide +kernel
theorem d_QM_message_97 : decode b_QM_message 97 = .ok (.aload_n 0, 1) := by decide +kernel
theorem d_QM_message_98 : decode b_QM_message 98 = .ok (.iload_n 3, 1) := by decide +kernel
theorem d_QM_message_99 : decode b_QM_message 99 = .ok (.aload_n 0, 1) := by decide +kernel
theorem d_QM_message_100 : decode b_QM_message 100 = .ok (.getfield 87, 3) := by decide +kernel
theorem d_QM_message_103 : decode b_QM_message 103 = .ok (.iload_n 1, 1) := by decide +kernel
theorem d_QM_message_104 : decode b_QM_message 104 = .ok (.iaload, 1) := by decide +kernel
theorem d_QM_message_105 : decode b_QM_message 105 = .ok (.invokevirtual 326, 3) := by decide +kernel
theorem d_QM_message_108 : decode b_QM_message 108 = .ok (.goto 9, 3) := by decide +kernel
theorem d_QM_message_111 : decode b_QM_message 111 = .ok (.aload_n 0, 1) := by decide +kernel
theorem d_QM_message_112 : decode b_QM_message 112 = .ok (.getfield 78, 3) := by decide +kernel
theorem d_QM_message_115 : decode b_QM_message 115 = .ok (.iload_n 3, 1) := by decide +kernel
theorem d_QM_message_116 : decode b_QM_message 116 = .ok (.iaload, 1) := by decide +kernel
theorem d_QM_message_117 : decode b_QM_message 117 = .ok (.ireturn, 1) := by decide +kernel
theorem d_QM_message_118 : decode b_QM_message 118 = .ok (.iconst (-1), 1) := by decide +kernel
theorem d_QM_message_119 : decode b_QM_message 119 = .ok (.ireturn, 1) := by decide +kernel
theorem d_QM_task_0 : decode b_QM_task 0 = .ok (.aload_n 0, 1) := by decide +kernel
theorem d_QM_task_1 : decode b_QM_task 1 = .ok (.getfield 299, 3) := by decide +kernel
theorem d_QM_task_4 : decode b_QM_task 4 = .ok (.ifCond .eq 17, 3) := by decide +kernel
theorem d_QM_task_7 : decode b_QM_task 7 = .ok (.iload_n 1, 1) := by decide +kernel
theorem d_QM_task_8 : decode b_QM_task 8 = .ok (.iconst 0, 1) := by decide +kernel
theorem d_QM_task_9 : decode b_QM_task 9 = .ok (.aload_n 0, 1) := by decide +kernel
theorem d_QM_task_10 : decode b_QM_task 10 = .ok (.getfield 258, 3) := by decide +kernel
theorem d_QM_task_13 : decode b_QM_task 13 = .ok (.iconst 1, 1) := by decide +kernel
theorem d_QM_task_14 : decode b_QM_task 14 = .ok (.isub, 1) := by decide +kernel
theorem d_QM_task_15 : decode b_QM_task 15 = .ok (.invokestatic 103, 3) := by decide +kernel
theorem d_QM_task_18 : decode b_QM_task 18 = .ok (.ifCond .ne 5, 3) := by decide +kernel
theorem d_QM_task_21 : decode b_QM_task 21 = .ok (.iconst (-1), 1) := by decide +kernel
theorem d_QM_task_22 : decode b_QM_task 22 = .ok (.ireturn, 1) := by decide +kernel
theorem d_QM_task_23 : decode b_QM_task 23 = .ok (.iload_n 2, 1) := by decide +kernel
theorem d_QM_task_24 : decode b_QM_task 24 = .ok (.tableswitch 92 0 4 #[36, 43, 50, 57, 72], 36) := by decide +kernel
theorem d_QM_task_60 : decode b_QM_task 60 = .ok (.aload_n 0, 1) := by decide +kernel
theorem d_QM_task_61 : decode b_QM_task 61 = .ok (.getfield 63, 3) := by decide +kernel
theorem d_QM_task_64 : decode b_QM_task 64 = .ok (.iload_n 1, 1) := by decide +kernel
theorem d_QM_task_65 : decode b_QM_task 65 = .ok (.iaload, 1) := by decide +kernel
theorem d_QM_task_66 : decode b_QM_task 66 = .ok (.ireturn, 1) := by decide +kernel
theorem d_QM_task_67 : decode b_QM_task 67 = .ok (.aload_n 0, 1) := by decide +kernel
theorem d_QM_task_68 : decode b_QM_task 68 = .ok (.getfield 66, 3) := by decide +kernel
theorem d_QM_task_71 : decode b_QM_task 71 = .ok (.iload_n 1, 1) := by decide +kernel
theorem d_QM_task_72 : decode b_QM_task 72 = .ok (.iaload, 1) := by decide +kernel
theorem d_QM_task_73 : decode b_QM_task 73 = .ok (.ireturn, 1) := by decide +kernel
theorem d_QM_task_74 : decode b_QM_task 74 = .ok (.aload_n 0, 1) := by decide +kernel
theorem d_QM_task_75 : decode b_QM_task 75 = .ok (.getfield 69, 3) := by decide +kernel
theorem d_QM_task_78 : decode b_QM_task 78 = .ok (.iload_n 1, 1) := by decide +kernel
theorem d_QM_task_79 : decode b_QM_task 79 = .ok (.iaload, 1) := by decide +kernel
theorem d_QM_task_80 : decode b_QM_task 80 = .ok (.ireturn, 1) := by decide +kernel
theorem d_QM_task_81 : decode b_QM_task 81 = .ok (.aload_n 0, 1) := by decide +kernel
theorem d_QM_task_82 : decode b_QM_task 82 = .ok (.getfield 75, 3) := by decide +kernel
theorem d_QM_task_85 : decode b_QM_task 85 = .ok (.iload_n 1, 1) := by decide +kernel
theorem d_QM_task_86 : decode b_QM_task 86 = .ok (.baload, 1) := by decide +kernel
theorem d_QM_task_87 : decode b_QM_task 87 = .ok (.ifCond .eq 7, 3) := by decide +kernel
theorem d_QM_task_90 : decode b_QM_task 90 = .ok (.iconst 1, 1) := by decide +kernel
theorem d_QM_task_91 : decode b_QM_task 91 = .ok (.goto 4, 3) := by decide +kernel
theorem d_QM_task_94 : decode b_QM_task 94 = .ok (.iconst 0, 1) := by decide +kernel
theorem d_QM_task_95 : decode b_QM_task 95 = .ok (.ireturn, 1) := by decide +kernel
theorem d_QM_task_96 : decode b_QM_task 96 = .ok (.aload_n 0, 1) := by decide +kernel
theorem d_QM_task_97 : decode b_QM_task 97 = .ok (.getfield 75, 3) := by decide +kernel
theorem d_QM_task_100 : decode b_QM_task 100 = .ok (.iload_n 1, 1) := by decide +kernel
theorem d_QM_task_101 : decode b_QM_task 101 = .ok (.baload, 1) := by decide +kernel
theorem d_QM_task_102 : decode b_QM_task 102 = .ok (.ifCond .eq 12, 3) := by decide +kernel
theorem d_QM_task_105 : decode b_QM_task 105 = .ok (.aload_n 0, 1) := by decide +kernel
theorem d_QM_task_106 : decode b_QM_task 106 = .ok (.getfield 78, 3) := by decide +kernel
theorem d_QM_task_109 : decode b_QM_task 109 = .ok (.iload_n 1, 1) := by decide +kernel
theorem d_QM_task_110 : decode b_QM_task 110 = .ok (.iaload, 1) := by decide +kernel
theorem d_QM_task_111 : decode b_QM_task 111 = .ok (.goto 4, 3) := by decide +kernel
theorem d_QM_task_114 : decode b_QM_task 114 = .ok (.iconst (-1), 1) := by decide +kernel
theorem d_QM_task_115 : decode b_QM_task 115 = .ok (.ireturn, 1) := by decide +kernel
theorem d_QM_task_116 : decode b_QM_task 116 = .ok (.iconst (-1), 1) := by decide +kernel
theorem d_QM_task_117 : decode b_QM_task 117 = .ok (.ireturn, 1) := by decide +kernel
theorem d_QM_shown_0 : decode b_QM_shown 0 = .ok (.aload_n 0, 1) := by decide +kernel
theorem d_QM_shown_1 : decode b_QM_shown 1 = .ok (.getfield 135, 3) := by decide +kernel
theorem d_QM_shown_4 : decode b_QM_shown 4 = .ok (.ifCond .lt 21, 3) := by decide +kernel
theorem d_QM_shown_7 : decode b_QM_shown 7 = .ok (.aload_n 0, 1) := by decide +kernel
theorem d_QM_shown_8 : decode b_QM_shown 8 = .ok (.getfield 135, 3) := by decide +kernel
theorem d_QM_shown_11 : decode b_QM_shown 11 = .ok (.aload_n 0, 1) := by decide +kernel
theorem d_QM_shown_12 : decode b_QM_shown 12 = .ok (.getfield 207, 3) := by decide +kernel
theorem d_QM_shown_15 : decode b_QM_shown 15 = .ok (.if_icmp .ge 10, 3) := by decide +kernel
theorem d_QM_shown_18 : decode b_QM_shown 18 = .ok (.aload_n 0, 1) := by decide +kernel
theorem d_QM_shown_19 : decode b_QM_shown 19 = .ok (.getfield 135, 3) := by decide +kernel
theorem d_QM_shown_22 : decode b_QM_shown 22 = .ok (.goto 7, 3) := by decide +kernel
theorem d_QM_shown_25 : decode b_QM_shown 25 = .ok (.aload_n 0, 1) := by decide +kernel
theorem d_QM_shown_26 : decode b_QM_shown 26 = .ok (.getfield 207, 3) := by decide +kernel
theorem d_QM_shown_29 : decode b_QM_shown 29 = .ok (.ireturn, 1) := by decide +kernel
theorem d_QM_passes_0 : decode b_QM_passes 0 = .ok (.aload_n 0, 1) := by decide +kernel
theorem d_QM_passes_1 : decode b_QM_passes 1 = .ok (.getfield 207, 3) := by decide +kernel
theorem d_QM_passes_4 : decode b_QM_passes 4 = .ok (.ifCond .ne 5, 3) := by decide +kernel
theorem d_QM_passes_7 : decode b_QM_passes 7 = .ok (.iconst 0, 1) := by decide +kernel
theorem d_QM_passes_8 : decode b_QM_passes 8 = .ok (.ireturn, 1) := by decide +kernel
theorem d_QM_passes_9 : decode b_QM_passes 9 = .ok (.iconst 1, 1) := by decide +kernel
theorem d_QM_passes_10 : decode b_QM_passes 10 = .ok (.istore_n 1, 1) := by decide +kernel
theorem d_QM_passes_11 : decode b_QM_passes 11 = .ok (.aload_n 0, 1) := by decide +kernel
theorem d_QM_passes_12 : decode b_QM_passes 12 = .ok (.getfield 207, 3) := by decide +kernel
theorem d_QM_passes_15 : decode b_QM_passes 15 = .ok (.aload_n 0, 1) := by decide +kernel
theorem d_QM_passes_16 : decode b_QM_passes 16 = .ok (.getfield 272, 3) := by decide +kernel
theorem d_QM_passes_19 : decode b_QM_passes 19 = .ok (.iadd, 1) := by decide +kernel
theorem d_QM_passes_20 : decode b_QM_passes 20 = .ok (.iconst 1, 1) := by decide +kernel
theorem d_QM_passes_21 : decode b_QM_passes 21 = .ok (.isub, 1) := by decide +kernel
theorem d_QM_passes_22 : decode b_QM_passes 22 = .ok (.aload_n 0, 1) := by decide +kernel
theorem d_QM_passes_23 : decode b_QM_passes 23 = .ok (.getfield 272, 3) := by decide +kernel
theorem d_QM_passes_26 : decode b_QM_passes 26 = .ok (.idiv, 1) := by decide +kernel
theorem d_QM_passes_27 : decode b_QM_passes 27 = .ok (.istore_n 2, 1) := by decide +kernel
theorem d_QM_passes_28 : decode b_QM_passes 28 = .ok (.iload_n 2, 1) := by decide +kernel
theorem d_QM_passes_29 : decode b_QM_passes 29 = .ok (.iconst 1, 1) := by decide +kernel
theorem d_QM_passes_30 : decode b_QM_passes 30 = .ok (.if_icmp .le 25, 3) := by decide +kernel
theorem d_QM_passes_33 : decode b_QM_passes 33 = .ok (.iload_n 2, 1) := by decide +kernel
theorem d_QM_passes_34 : decode b_QM_passes 34 = .ok (.aload_n 0, 1) := by decide +kernel
theorem d_QM_passes_35 : decode b_QM_passes 35 = .ok (.getfield 272, 3) := by decide +kernel
theorem d_QM_passes_38 : decode b_QM_passes 38 = .ok (.iadd, 1) := by decide +kernel
theorem d_QM_passes_39 : decode b_QM_passes 39 = .ok (.iconst 2, 1) := by decide +kernel
theorem d_QM_passes_40 : decode b_QM_passes 40 = .ok (.isub, 1) := by decide +kernel
theorem d_QM_passes_41 : decode b_QM_passes 41 = .ok (.aload_n 0, 1) := by decide +kernel
theorem d_QM_passes_42 : decode b_QM_passes 42 = .ok (.getfield 272, 3) := by decide +kernel
theorem d_QM_passes_45 : decode b_QM_passes 45 = .ok (.iconst 1, 1) := by decide +kernel
theorem d_QM_passes_46 : decode b_QM_passes 46 = .ok (.isub, 1) := by decide +kernel
theorem d_QM_passes_47 : decode b_QM_passes 47 = .ok (.idiv, 1) := by decide +kernel
theorem d_QM_passes_48 : decode b_QM_passes 48 = .ok (.istore_n 2, 1) := by decide +kernel
theorem d_QM_passes_49 : decode b_QM_passes 49 = .ok (.iinc 1 1, 3) := by decide +kernel
theorem d_QM_passes_52 : decode b_QM_passes 52 = .ok (.goto (-24), 3) := by decide +kernel
theorem d_QM_passes_55 : decode b_QM_passes 55 = .ok (.iload_n 1, 1) := by decide +kernel
theorem d_QM_passes_56 : decode b_QM_passes 56 = .ok (.ireturn, 1) := by decide +kernel
theorem d_QM_ended_0 : decode b_QM_ended 0 = .ok (.aload_n 0, 1) := by decide +kernel
theorem d_QM_ended_1 : decode b_QM_ended 1 = .ok (.getfield 299, 3) := by decide +kernel
theorem d_QM_ended_4 : decode b_QM_ended 4 = .ok (.ifCond .eq 10, 3) := by decide +kernel
theorem d_QM_ended_7 : decode b_QM_ended 7 = .ok (.aload_n 0, 1) := by decide +kernel
theorem d_QM_ended_8 : decode b_QM_ended 8 = .ok (.getfield 99, 3) := by decide +kernel
theorem d_QM_ended_11 : decode b_QM_ended 11 = .ok (.ifCond .eq 5, 3) := by decide +kernel
theorem d_QM_ended_14 : decode b_QM_ended 14 = .ok (.iconst (-1), 1) := by decide +kernel
theorem d_QM_ended_15 : decode b_QM_ended 15 = .ok (.ireturn, 1) := by decide +kernel
theorem d_QM_ended_16 : decode b_QM_ended 16 = .ok (.iload_n 1, 1) := by decide +kernel
theorem d_QM_ended_17 : decode b_QM_ended 17 = .ok (.ifCond .ne 10, 3) := by decide +kernel
theorem d_QM_ended_20 : decode b_QM_ended 20 = .ok (.aload_n 0, 1) := by decide +kernel
theorem d_QM_ended_21 : decode b_QM_ended 21 = .ok (.getfield 287, 3) := by decide +kernel
theorem d_QM_ended_24 : decode b_QM_ended 24 = .ok (.goto 40, 3) := by decide +kernel
theorem d_QM_ended_27 : decode b_QM_ended 27 = .ok (.iload_n 1, 1) := by decide +kernel
theorem d_QM_ended_28 : decode b_QM_ended 28 = .ok (.iconst 1, 1) := by decide +kernel
theorem d_QM_ended_29 : decode b_QM_ended 29 = .ok (.if_icmp .ne 10, 3) := by decide +kernel
theorem d_QM_ended_32 : decode b_QM_ended 32 = .ok (.aload_n 0, 1) := by decide +kernel
theorem d_QM_ended_33 : decode b_QM_ended 33 = .ok (.getfield 290, 3) := by decide +kernel
theorem d_QM_ended_36 : decode b_QM_ended 36 = .ok (.goto 28, 3) := by decide +kernel
theorem d_QM_ended_39 : decode b_QM_ended 39 = .ok (.iload_n 1, 1) := by decide +kernel
theorem d_QM_ended_40 : decode b_QM_ended 40 = .ok (.iconst 2, 1) := by decide +kernel
theorem d_QM_ended_41 : decode b_QM_ended 41 = .ok (.if_icmp .ne 10, 3) := by decide +kernel
theorem d_QM_ended_44 : decode b_QM_ended 44 = .ok (.aload_n 0, 1) := by decide +kernel
theorem d_QM_ended_45 : decode b_QM_ended 45 = .ok (.getfield 296, 3) := by decide +kernel
theorem d_QM_ended_48 : decode b_QM_ended 48 = .ok (.goto 16, 3) := by decide +kernel
theorem d_QM_ended_51 : decode b_QM_ended 51 = .ok (.iload_n 1, 1) := by decide +kernel
theorem d_QM_ended_52 : decode b_QM_ended 52 = .ok (.iconst 3, 1) := by decide +kernel
theorem d_QM_ended_53 : decode b_QM_ended 53 = .ok (.if_icmp .ne 10, 3) := by decide +kernel
theorem d_QM_ended_56 : decode b_QM_ended 56 = .ok (.aload_n 0, 1) := by decide +kernel
theorem d_QM_ended_57 : decode b_QM_ended 57 = .ok (.getfield 305, 3) := by decide +kernel
theorem d_QM_ended_60 : decode b_QM_ended 60 = .ok (.goto 4, 3) := by decide +kernel
theorem d_QM_ended_63 : decode b_QM_ended 63 = .ok (.iconst (-1), 1) := by decide +kernel
theorem d_QM_ended_64 : decode b_QM_ended 64 = .ok (.ireturn, 1) := by decide +kernel
theorem d_QM_isCell_0 : decode b_QM_isCell 0 = .ok (.aload_n 0, 1) := by decide +kernel
theorem d_QM_isCell_1 : decode b_QM_isCell 1 = .ok (.getfield 299, 3) := by decide +kernel
theorem d_QM_isCell_4 : decode b_QM_isCell 4 = .ok (.ifCond .eq 42, 3) := by decide +kernel
theorem d_QM_isCell_7 : decode b_QM_isCell 7 = .ok (.aload_n 0, 1) := by decide +kernel
theorem d_QM_isCell_8 : decode b_QM_isCell 8 = .ok (.getfield 99, 3) := by decide +kernel
theorem d_QM_isCell_11 : decode b_QM_isCell 11 = .ok (.ifCond .ne 35, 3) := by decide +kernel
theorem d_QM_isCell_14 : decode b_QM_isCell 14 = .ok (.iload_n 1, 1) := by decide +kernel
theorem d_QM_isCell_15 : decode b_QM_isCell 15 = .ok (.iconst 0, 1) := by decide +kernel
theorem d_QM_isCell_16 : decode b_QM_isCell 16 = .ok (.aload_n 0, 1) := by decide +kernel
theorem d_QM_isCell_17 : decode b_QM_isCell 17 = .ok (.getfield 287, 3) := by decide +kernel
theorem d_QM_isCell_20 : decode b_QM_isCell 20 = .ok (.iconst 1, 1) := by decide +kernel
theorem d_QM_isCell_21 : decode b_QM_isCell 21 = .ok (.isub, 1) := by decide +kernel
theorem d_QM_isCell_22 : decode b_QM_isCell 22 = .ok (.invokestatic 103, 3) := by decide +kernel
theorem d_QM_isCell_25 : decode b_QM_isCell 25 = .ok (.ifCond .eq 21, 3) := by decide +kernel
theorem d_QM_isCell_28 : decode b_QM_isCell 28 = .ok (.iload_n 2, 1) := by decide +kernel
theorem d_QM_isCell_29 : decode b_QM_isCell 29 = .ok (.iconst 0, 1) := by decide +kernel
theorem d_QM_isCell_30 : decode b_QM_isCell 30 = .ok (.aload_n 0, 1) := by decide +kernel
theorem d_QM_isCell_31 : decode b_QM_isCell 31 = .ok (.getfield 290, 3) := by decide +kernel
theorem d_QM_isCell_34 : decode b_QM_isCell 34 = .ok (.iconst 1, 1) := by decide +kernel
theorem d_QM_isCell_35 : decode b_QM_isCell 35 = .ok (.isub, 1) := by decide +kernel
theorem d_QM_isCell_36 : decode b_QM_isCell 36 = .ok (.invokestatic 103, 3) := by decide +kernel
theorem d_QM_isCell_39 : decode b_QM_isCell 39 = .ok (.ifCond .eq 7, 3) := by decide +kernel
theorem d_QM_isCell_42 : decode b_QM_isCell 42 = .ok (.iconst 1, 1) := by decide +kernel
theorem d_QM_isCell_43 : decode b_QM_isCell 43 = .ok (.goto 4, 3) := by decide +kernel
theorem d_QM_isCell_46 : decode b_QM_isCell 46 = .ok (.iconst 0, 1) := by decide +kernel
theorem d_QM_isCell_47 : decode b_QM_isCell 47 = .ok (.ireturn, 1) := by decide +kernel
theorem d_QM_cell_0 : decode b_QM_cell 0 = .ok (.aload_n 0, 1) := by decide +kernel
theorem d_QM_cell_1 : decode b_QM_cell 1 = .ok (.iload_n 1, 1) := by decide +kernel
theorem d_QM_cell_2 : decode b_QM_cell 2 = .ok (.iload_n 2, 1) := by decide +kernel
theorem d_QM_cell_3 : decode b_QM_cell 3 = .ok (.invokevirtual 338, 3) := by decide +kernel
theorem d_QM_cell_6 : decode b_QM_cell 6 = .ok (.ifCond .eq 21, 3) := by decide +kernel
theorem d_QM_cell_9 : decode b_QM_cell 9 = .ok (.aload_n 0, 1) := by decide +kernel
theorem d_QM_cell_10 : decode b_QM_cell 10 = .ok (.getfield 54, 3) := by decide +kernel
theorem d_QM_cell_13 : decode b_QM_cell 13 = .ok (.iconst 4, 1) := by decide +kernel
theorem d_QM_cell_14 : decode b_QM_cell 14 = .ok (.aload_n 0, 1) := by decide +kernel
theorem d_QM_cell_15 : decode b_QM_cell 15 = .ok (.getfield 60, 3) := by decide +kernel
theorem d_QM_cell_18 : decode b_QM_cell 18 = .ok (.iload_n 1, 1) := by decide +kernel
theorem d_QM_cell_19 : decode b_QM_cell 19 = .ok (.iaload, 1) := by decide +kernel
theorem d_QM_cell_20 : decode b_QM_cell 20 = .ok (.imul, 1) := by decide +kernel
theorem d_QM_cell_21 : decode b_QM_cell 21 = .ok (.iload_n 2, 1) := by decide +kernel
theorem d_QM_cell_22 : decode b_QM_cell 22 = .ok (.iadd, 1) := by decide +kernel
theorem d_QM_cell_23 : decode b_QM_cell 23 = .ok (.laload, 1) := by decide +kernel
theorem d_QM_cell_24 : decode b_QM_cell 24 = .ok (.goto 4, 3) := by decide +kernel
theorem d_QM_cell_27 : decode b_QM_cell 27 = .ok (.lconst 0, 1) := by decide +kernel
theorem d_QM_cell_28 : decode b_QM_cell 28 = .ok (.lreturn, 1) := by decide +kernel
theorem d_QM_missing_0 : decode b_QM_missing 0 = .ok (.aload_n 0, 1) := by decide +kernel
theorem d_QM_missing_1 : decode b_QM_missing 1 = .ok (.iload_n 1, 1) := by decide +kernel
theorem d_QM_missing_2 : decode b_QM_missing 2 = .ok (.iload_n 2, 1) := by decide +kernel
theorem d_QM_missing_3 : decode b_QM_missing 3 = .ok (.invokevirtual 338, 3) := by decide +kernel
theorem d_QM_missing_6 : decode b_QM_missing 6 = .ok (.ifCond .eq 25, 3) := by decide +kernel
theorem d_QM_missing_9 : decode b_QM_missing 9 = .ok (.aload_n 0, 1) := by decide +kernel
theorem d_QM_missing_10 : decode b_QM_missing 10 = .ok (.getfield 57, 3) := by decide +kernel
theorem d_QM_missing_13 : decode b_QM_missing 13 = .ok (.iconst 4, 1) := by decide +kernel
theorem d_QM_missing_14 : decode b_QM_missing 14 = .ok (.aload_n 0, 1) := by decide +kernel
theorem d_QM_missing_15 : decode b_QM_missing 15 = .ok (.getfield 60, 3) := by decide +kernel
theorem d_QM_missing_18 : decode b_QM_missing 18 = .ok (.iload_n 1, 1) := by decide +kernel
theorem d_QM_missing_19 : decode b_QM_missing 19 = .ok (.iaload, 1) := by decide +kernel
theorem d_QM_missing_20 : decode b_QM_missing 20 = .ok (.imul, 1) := by decide +kernel
theorem d_QM_missing_21 : decode b_QM_missing 21 = .ok (.iload_n 2, 1) := by decide +kernel
theorem d_QM_missing_22 : decode b_QM_missing 22 = .ok (.iadd, 1) := by decide +kernel
theorem d_QM_missing_23 : decode b_QM_missing 23 = .ok (.baload, 1) := by decide +kernel
theorem d_QM_missing_24 : decode b_QM_missing 24 = .ok (.ifCond .eq 7, 3) := by decide +kernel
theorem d_QM_missing_27 : decode b_QM_missing 27 = .ok (.iconst 1, 1) := by decide +kernel
theorem d_QM_missing_28 : decode b_QM_missing 28 = .ok (.goto 4, 3) := by decide +kernel
theorem d_QM_missing_31 : decode b_QM_missing 31 = .ok (.iconst 0, 1) := by decide +kernel
theorem d_QM_missing_32 : decode b_QM_missing 32 = .ok (.ireturn, 1) := by decide +kernel
end
section
theorem d_La_law_0 : decode b_La_law 0 = .ok (.new 7, 3) := by decide +kernel
theorem d_La_law_3 : decode b_La_law 3 = .ok (.dup, 1) := by decide +kernel
theorem d_La_law_4 : decode b_La_law 4 = .ok (.invokespecial 9, 3) := by decide +kernel
theorem d_La_law_7 : decode b_La_law 7 = .ok (.astore_n 1, 1) := by decide +kernel
theorem d_La_law_8 : decode b_La_law 8 = .ok (.new 10, 3) := by decide +kernel
theorem d_La_law_11 : decode b_La_law 11 = .ok (.dup, 1) := by decide +kernel
theorem d_La_law_12 : decode b_La_law 12 = .ok (.invokespecial 12, 3) := by decide +kernel
theorem d_La_law_15 : decode b_La_law 15 = .ok (.astore_n 2, 1) := by decide +kernel
theorem d_La_law_16 : decode b_La_law 16 = .ok (.iconst 0, 1) := by decide +kernel
theorem d_La_law_17 : decode b_La_law 17 = .ok (.istore_n 3, 1) := by decide +kernel
theorem d_La_law_18 : decode b_La_law 18 = .ok (.iload_n 3, 1) := by decide +kernel
theorem d_La_law_19 : decode b_La_law 19 = .ok (.aload_n 0, 1) := by decide +kernel
theorem d_La_law_20 : decode b_La_law 20 = .ok (.arraylength, 1) := by decide +kernel
theorem d_La_law_21 : decode b_La_law 21 = .ok (.bipush 6, 2) := by decide +kernel
theorem d_La_law_23 : decode b_La_law 23 = .ok (.isub, 1) := by decide +kernel
theorem d_La_law_24 : decode b_La_law 24 = .ok (.if_icmp .gt 690, 3) := by decide +kernel
theorem d_La_law_27 : decode b_La_law 27 = .ok (.aload_n 0, 1) := by decide +kernel
theorem d_La_law_28 : decode b_La_law 28 = .ok (.iload_n 3, 1) := by decide +kernel
theorem d_La_law_29 : decode b_La_law 29 = .ok (.iaload, 1) := by decide +kernel
theorem d_La_law_30 : decode b_La_law 30 = .ok (.bipush 31, 2) := by decide +kernel
theorem d_La_law_32 : decode b_La_law 32 = .ok (.iand, 1) := by decide +kernel
theorem d_La_law_33 : decode b_La_law 33 = .ok (.tableswitch 675 0 18 #[91, 144, 207, 230, 253, 276, 289, 312, 335, 394, 427, 460, 483, 506, 519, 552, 585, 608, 642], 91) := by decide +kernel
theorem d_La_law_124 : decode b_La_law 124 = .ok (.aload_n 1, 1) := by decide +kernel
theorem d_La_law_125 : decode b_La_law 125 = .ok (.aload_n 0, 1) := by decide +kernel
theorem d_La_law_126 : decode b_La_law 126 = .ok (.iload_n 3, 1) := by decide +kernel
theorem d_La_law_127 : decode b_La_law 127 = .ok (.iconst 1, 1) := by decide +kernel
theorem d_La_law_128 : decode b_La_law 128 = .ok (.iadd, 1) := by decide +kernel
theorem d_La_law_129 : decode b_La_law 129 = .ok (.iaload, 1) := by decide +kernel
theorem d_La_law_130 : decode b_La_law 130 = .ok (.aload_n 0, 1) := by decide +kernel
theorem d_La_law_131 : decode b_La_law 131 = .ok (.iload_n 3, 1) := by decide +kernel
theorem d_La_law_132 : decode b_La_law 132 = .ok (.iconst 2, 1) := by decide +kernel
theorem d_La_law_133 : decode b_La_law 133 = .ok (.iadd, 1) := by decide +kernel
theorem d_La_law_134 : decode b_La_law 134 = .ok (.iaload, 1) := by decide +kernel
theorem d_La_law_135 : decode b_La_law 135 = .ok (.aload_n 0, 1) := by decide +kernel
theorem d_La_law_136 : decode b_La_law 136 = .ok (.iload_n 3, 1) := by decide +kernel
theorem d_La_law_137 : decode b_La_law 137 = .ok (.iconst 3, 1) := by decide +kernel
theorem d_La_law_138 : decode b_La_law 138 = .ok (.iadd, 1) := by decide +kernel
theorem d_La_law_139 : decode b_La_law 139 = .ok (.iaload, 1) := by decide +kernel
theorem d_La_law_140 : decode b_La_law 140 = .ok (.aload_n 0, 1) := by decide +kernel
theorem d_La_law_141 : decode b_La_law 141 = .ok (.iload_n 3, 1) := by decide +kernel
theorem d_La_law_142 : decode b_La_law 142 = .ok (.iconst 4, 1) := by decide +kernel
theorem d_La_law_143 : decode b_La_law 143 = .ok (.iadd, 1) := by decide +kernel
theorem d_La_law_144 : decode b_La_law 144 = .ok (.iaload, 1) := by decide +kernel
theorem d_La_law_145 : decode b_La_law 145 = .ok (.invokevirtual 13, 3) := by decide +kernel
theorem d_La_law_148 : decode b_La_law 148 = .ok (.aload_n 2, 1) := by decide +kernel
theorem d_La_law_149 : decode b_La_law 149 = .ok (.aload_n 0, 1) := by decide +kernel
theorem d_La_law_150 : decode b_La_law 150 = .ok (.iload_n 3, 1) := by decide +kernel
theorem d_La_law_151 : decode b_La_law 151 = .ok (.iconst 1, 1) := by decide +kernel
theorem d_La_law_152 : decode b_La_law 152 = .ok (.iadd, 1) := by decide +kernel
theorem d_La_law_153 : decode b_La_law 153 = .ok (.iaload, 1) := by decide +kernel
theorem d_La_law_154 : decode b_La_law 154 = .ok (.aload_n 0, 1) := by decide +kernel
theorem d_La_law_155 : decode b_La_law 155 = .ok (.iload_n 3, 1) := by decide +kernel
theorem d_La_law_156 : decode b_La_law 156 = .ok (.iconst 2, 1) := by decide +kernel
theorem d_La_law_157 : decode b_La_law 157 = .ok (.iadd, 1) := by decide +kernel
theorem d_La_law_158 : decode b_La_law 158 = .ok (.iaload, 1) := by decide +kernel
theorem d_La_law_159 : decode b_La_law 159 = .ok (.aload_n 0, 1) := by decide +kernel
theorem d_La_law_160 : decode b_La_law 160 = .ok (.iload_n 3, 1) := by decide +kernel
theorem d_La_law_161 : decode b_La_law 161 = .ok (.iconst 3, 1) := by decide +kernel
theorem d_La_law_162 : decode b_La_law 162 = .ok (.iadd, 1) := by decide +kernel
theorem d_La_law_163 : decode b_La_law 163 = .ok (.iaload, 1) := by decide +kernel
theorem d_La_law_164 : decode b_La_law 164 = .ok (.aload_n 0, 1) := by decide +kernel
theorem d_La_law_165 : decode b_La_law 165 = .ok (.iload_n 3, 1) := by decide +kernel
theorem d_La_law_166 : decode b_La_law 166 = .ok (.iconst 4, 1) := by decide +kernel
theorem d_La_law_167 : decode b_La_law 167 = .ok (.iadd, 1) := by decide +kernel
theorem d_La_law_168 : decode b_La_law 168 = .ok (.iaload, 1) := by decide +kernel
theorem d_La_law_169 : decode b_La_law 169 = .ok (.invokevirtual 17, 3) := by decide +kernel
theorem d_La_law_172 : decode b_La_law 172 = .ok (.if_icmp .eq 536, 3) := by decide +kernel
theorem d_La_law_175 : decode b_La_law 175 = .ok (.iconst 0, 1) := by decide +kernel
theorem d_La_law_176 : decode b_La_law 176 = .ok (.ireturn, 1) := by decide +kernel
theorem d_La_law_177 : decode b_La_law 177 = .ok (.aload_n 1, 1) := by decide +kernel
theorem d_La_law_178 : decode b_La_law 178 = .ok (.aload_n 0, 1) := by decide +kernel
theorem d_La_law_179 : decode b_La_law 179 = .ok (.iload_n 3, 1) := by decide +kernel
theorem d_La_law_180 : decode b_La_law 180 = .ok (.iconst 1, 1) := by decide +kernel
theorem d_La_law_181 : decode b_La_law 181 = .ok (.iadd, 1) := by decide +kernel
theorem d_La_law_182 : decode b_La_law 182 = .ok (.iaload, 1) := by decide +kernel
theorem d_La_law_183 : decode b_La_law 183 = .ok (.aload_n 0, 1) := by decide +kernel
theorem d_La_law_184 : decode b_La_law 184 = .ok (.iload_n 3, 1) := by decide +kernel
theorem d_La_law_185 : decode b_La_law 185 = .ok (.iconst 2, 1) := by decide +kernel
theorem d_La_law_186 : decode b_La_law 186 = .ok (.iadd, 1) := by decide +kernel
theorem d_La_law_187 : decode b_La_law 187 = .ok (.iaload, 1) := by decide +kernel
theorem d_La_law_188 : decode b_La_law 188 = .ok (.aload_n 0, 1) := by decide +kernel
theorem d_La_law_189 : decode b_La_law 189 = .ok (.iload_n 3, 1) := by decide +kernel
theorem d_La_law_190 : decode b_La_law 190 = .ok (.iconst 3, 1) := by decide +kernel
theorem d_La_law_191 : decode b_La_law 191 = .ok (.iadd, 1) := by decide +kernel
theorem d_La_law_192 : decode b_La_law 192 = .ok (.iaload, 1) := by decide +kernel
theorem d_La_law_193 : decode b_La_law 193 = .ok (.aload_n 0, 1) := by decide +kernel
theorem d_La_law_194 : decode b_La_law 194 = .ok (.iload_n 3, 1) := by decide +kernel
theorem d_La_law_195 : decode b_La_law 195 = .ok (.iconst 4, 1) := by decide +kernel
theorem d_La_law_196 : decode b_La_law 196 = .ok (.iadd, 1) := by decide +kernel
theorem d_La_law_197 : decode b_La_law 197 = .ok (.iaload, 1) := by decide +kernel
theorem d_La_law_198 : decode b_La_law 198 = .ok (.aload_n 0, 1) := by decide +kernel
theorem d_La_law_199 : decode b_La_law 199 = .ok (.iload_n 3, 1) := by decide +kernel
theorem d_La_law_200 : decode b_La_law 200 = .ok (.iconst 5, 1) := by decide +kernel
theorem d_La_law_201 : decode b_La_law 201 = .ok (.iadd, 1) := by decide +kernel
theorem d_La_law_202 : decode b_La_law 202 = .ok (.iaload, 1) := by decide +kernel
theorem d_La_law_203 : decode b_La_law 203 = .ok (.invokevirtual 18, 3) := by decide +kernel
theorem d_La_law_206 : decode b_La_law 206 = .ok (.aload_n 2, 1) := by decide +kernel
theorem d_La_law_207 : decode b_La_law 207 = .ok (.aload_n 0, 1) := by decide +kernel
theorem d_La_law_208 : decode b_La_law 208 = .ok (.iload_n 3, 1) := by decide +kernel
theorem d_La_law_209 : decode b_La_law 209 = .ok (.iconst 1, 1) := by decide +kernel
theorem d_La_law_210 : decode b_La_law 210 = .ok (.iadd, 1) := by decide +kernel
theorem d_La_law_211 : decode b_La_law 211 = .ok (.iaload, 1) := by decide +kernel
theorem d_La_law_212 : decode b_La_law 212 = .ok (.aload_n 0, 1) := by decide +kernel
theorem d_La_law_213 : decode b_La_law 213 = .ok (.iload_n 3, 1) := by decide +kernel
theorem d_La_law_214 : decode b_La_law 214 = .ok (.iconst 2, 1) := by decide +kernel
theorem d_La_law_215 : decode b_La_law 215 = .ok (.iadd, 1) := by decide +kernel
theorem d_La_law_216 : decode b_La_law 216 = .ok (.iaload, 1) := by decide +kernel
theorem d_La_law_217 : decode b_La_law 217 = .ok (.aload_n 0, 1) := by decide +kernel
theorem d_La_law_218 : decode b_La_law 218 = .ok (.iload_n 3, 1) := by decide +kernel
theorem d_La_law_219 : decode b_La_law 219 = .ok (.iconst 3, 1) := by decide +kernel
theorem d_La_law_220 : decode b_La_law 220 = .ok (.iadd, 1) := by decide +kernel
theorem d_La_law_221 : decode b_La_law 221 = .ok (.iaload, 1) := by decide +kernel
theorem d_La_law_222 : decode b_La_law 222 = .ok (.aload_n 0, 1) := by decide +kernel
theorem d_La_law_223 : decode b_La_law 223 = .ok (.iload_n 3, 1) := by decide +kernel
theorem d_La_law_224 : decode b_La_law 224 = .ok (.iconst 4, 1) := by decide +kernel
theorem d_La_law_225 : decode b_La_law 225 = .ok (.iadd, 1) := by decide +kernel
theorem d_La_law_226 : decode b_La_law 226 = .ok (.iaload, 1) := by decide +kernel
theorem d_La_law_227 : decode b_La_law 227 = .ok (.aload_n 0, 1) := by decide +kernel
theorem d_La_law_228 : decode b_La_law 228 = .ok (.iload_n 3, 1) := by decide +kernel
theorem d_La_law_229 : decode b_La_law 229 = .ok (.iconst 5, 1) := by decide +kernel
theorem d_La_law_230 : decode b_La_law 230 = .ok (.iadd, 1) := by decide +kernel
theorem d_La_law_231 : decode b_La_law 231 = .ok (.iaload, 1) := by decide +kernel
theorem d_La_law_232 : decode b_La_law 232 = .ok (.invokevirtual 22, 3) := by decide +kernel
theorem d_La_law_235 : decode b_La_law 235 = .ok (.if_icmp .eq 473, 3) := by decide +kernel
theorem d_La_law_238 : decode b_La_law 238 = .ok (.iconst 0, 1) := by decide +kernel
theorem d_La_law_239 : decode b_La_law 239 = .ok (.ireturn, 1) := by decide +kernel
theorem d_La_law_240 : decode b_La_law 240 = .ok (.aload_n 1, 1) := by decide +kernel
theorem d_La_law_241 : decode b_La_law 241 = .ok (.aload_n 0, 1) := by decide +kernel
theorem d_La_law_242 : decode b_La_law 242 = .ok (.iload_n 3, 1) := by decide +kernel
theorem d_La_law_243 : decode b_La_law 243 = .ok (.iconst 1, 1) := by decide +kernel
theorem d_La_law_244 : decode b_La_law 244 = .ok (.iadd, 1) := by decide +kernel
theorem d_La_law_245 : decode b_La_law 245 = .ok (.iaload, 1) := by decide +kernel
theorem d_La_law_246 : decode b_La_law 246 = .ok (.invokevirtual 23, 3) := by decide +kernel
theorem d_La_law_249 : decode b_La_law 249 = .ok (.aload_n 2, 1) := by decide +kernel
theorem d_La_law_250 : decode b_La_law 250 = .ok (.aload_n 0, 1) := by decide +kernel
theorem d_La_law_251 : decode b_La_law 251 = .ok (.iload_n 3, 1) := by decide +kernel
theorem d_La_law_252 : decode b_La_law 252 = .ok (.iconst 1, 1) := by decide +kernel
theorem d_La_law_253 : decode b_La_law 253 = .ok (.iadd, 1) := by decide +kernel
theorem d_La_law_254 : decode b_La_law 254 = .ok (.iaload, 1) := by decide +kernel
theorem d_La_law_255 : decode b_La_law 255 = .ok (.invokevirtual 27, 3) := by decide +kernel
theorem d_La_law_258 : decode b_La_law 258 = .ok (.if_icmp .eq 450, 3) := by decide +kernel
theorem d_La_law_261 : decode b_La_law 261 = .ok (.iconst 0, 1) := by decide +kernel
theorem d_La_law_262 : decode b_La_law 262 = .ok (.ireturn, 1) := by decide +kernel
theorem d_La_law_263 : decode b_La_law 263 = .ok (.aload_n 1, 1) := by decide +kernel
theorem d_La_law_264 : decode b_La_law 264 = .ok (.aload_n 0, 1) := by decide +kernel
theorem d_La_law_265 : decode b_La_law 265 = .ok (.iload_n 3, 1) := by decide +kernel
theorem d_La_law_266 : decode b_La_law 266 = .ok (.iconst 1, 1) := by decide +kernel
theorem d_La_law_267 : decode b_La_law 267 = .ok (.iadd, 1) := by decide +kernel
theorem d_La_law_268 : decode b_La_law 268 = .ok (.iaload, 1) := by decide +kernel
theorem d_La_law_269 : decode b_La_law 269 = .ok (.invokevirtual 28, 3) := by decide +kernel
theorem d_La_law_272 : decode b_La_law 272 = .ok (.aload_n 2, 1) := by decide +kernel
theorem d_La_law_273 : decode b_La_law 273 = .ok (.aload_n 0, 1) := by decide +kernel
theorem d_La_law_274 : decode b_La_law 274 = .ok (.iload_n 3, 1) := by decide +kernel
theorem d_La_law_275 : decode b_La_law 275 = .ok (.iconst 1, 1) := by decide +kernel
theorem d_La_law_276 : decode b_La_law 276 = .ok (.iadd, 1) := by decide +kernel
theorem d_La_law_277 : decode b_La_law 277 = .ok (.iaload, 1) := by decide +kernel
theorem d_La_law_278 : decode b_La_law 278 = .ok (.invokevirtual 31, 3) := by decide +kernel
theorem d_La_law_281 : decode b_La_law 281 = .ok (.if_icmp .eq 427, 3) := by decide +kernel
theorem d_La_law_284 : decode b_La_law 284 = .ok (.iconst 0, 1) := by decide +kernel
theorem d_La_law_285 : decode b_La_law 285 = .ok (.ireturn, 1) := by decide +kernel
theorem d_La_law_286 : decode b_La_law 286 = .ok (.aload_n 1, 1) := by decide +kernel
theorem d_La_law_287 : decode b_La_law 287 = .ok (.aload_n 0, 1) := by decide +kernel
theorem d_La_law_288 : decode b_La_law 288 = .ok (.iload_n 3, 1) := by decide +kernel
theorem d_La_law_289 : decode b_La_law 289 = .ok (.iconst 1, 1) := by decide +kernel
theorem d_La_law_290 : decode b_La_law 290 = .ok (.iadd, 1) := by decide +kernel
theorem d_La_law_291 : decode b_La_law 291 = .ok (.iaload, 1) := by decide +kernel
theorem d_La_law_292 : decode b_La_law 292 = .ok (.invokevirtual 32, 3) := by decide +kernel
theorem d_La_law_295 : decode b_La_law 295 = .ok (.aload_n 2, 1) := by decide +kernel
theorem d_La_law_296 : decode b_La_law 296 = .ok (.aload_n 0, 1) := by decide +kernel
theorem d_La_law_297 : decode b_La_law 297 = .ok (.iload_n 3, 1) := by decide +kernel
theorem d_La_law_298 : decode b_La_law 298 = .ok (.iconst 1, 1) := by decide +kernel
theorem d_La_law_299 : decode b_La_law 299 = .ok (.iadd, 1) := by decide +kernel
theorem d_La_law_300 : decode b_La_law 300 = .ok (.iaload, 1) := by decide +kernel
theorem d_La_law_301 : decode b_La_law 301 = .ok (.invokevirtual 35, 3) := by decide +kernel
theorem d_La_law_304 : decode b_La_law 304 = .ok (.if_icmp .eq 404, 3) := by decide +kernel
theorem d_La_law_307 : decode b_La_law 307 = .ok (.iconst 0, 1) := by decide +kernel
theorem d_La_law_308 : decode b_La_law 308 = .ok (.ireturn, 1) := by decide +kernel
theorem d_La_law_309 : decode b_La_law 309 = .ok (.aload_n 1, 1) := by decide +kernel
theorem d_La_law_310 : decode b_La_law 310 = .ok (.invokevirtual 36, 3) := by decide +kernel
theorem d_La_law_313 : decode b_La_law 313 = .ok (.aload_n 2, 1) := by decide +kernel
theorem d_La_law_314 : decode b_La_law 314 = .ok (.invokevirtual 40, 3) := by decide +kernel
theorem d_La_law_317 : decode b_La_law 317 = .ok (.if_icmp .eq 391, 3) := by decide +kernel
theorem d_La_law_320 : decode b_La_law 320 = .ok (.iconst 0, 1) := by decide +kernel
theorem d_La_law_321 : decode b_La_law 321 = .ok (.ireturn, 1) := by decide +kernel
theorem d_La_law_322 : decode b_La_law 322 = .ok (.aload_n 1, 1) := by decide +kernel
theorem d_La_law_323 : decode b_La_law 323 = .ok (.aload_n 0, 1) := by decide +kernel
theorem d_La_law_324 : decode b_La_law 324 = .ok (.iload_n 3, 1) := by decide +kernel
theorem d_La_law_325 : decode b_La_law 325 = .ok (.iconst 1, 1) := by decide +kernel
theorem d_La_law_326 : decode b_La_law 326 = .ok (.iadd, 1) := by decide +kernel
theorem d_La_law_327 : decode b_La_law 327 = .ok (.iaload, 1) := by decide +kernel
theorem d_La_law_328 : decode b_La_law 328 = .ok (.invokevirtual 41, 3) := by decide +kernel
theorem d_La_law_331 : decode b_La_law 331 = .ok (.aload_n 2, 1) := by decide +kernel
theorem d_La_law_332 : decode b_La_law 332 = .ok (.aload_n 0, 1) := by decide +kernel
theorem d_La_law_333 : decode b_La_law 333 = .ok (.iload_n 3, 1) := by decide +kernel
theorem d_La_law_334 : decode b_La_law 334 = .ok (.iconst 1, 1) := by decide +kernel
theorem d_La_law_335 : decode b_La_law 335 = .ok (.iadd, 1) := by decide +kernel
theorem d_La_law_336 : decode b_La_law 336 = .ok (.iaload, 1) := by decide +kernel
theorem d_La_law_337 : decode b_La_law 337 = .ok (.invokevirtual 44, 3) := by decide +kernel
theorem d_La_law_340 : decode b_La_law 340 = .ok (.if_icmp .eq 368, 3) := by decide +kernel
theorem d_La_law_343 : decode b_La_law 343 = .ok (.iconst 0, 1) := by decide +kernel
theorem d_La_law_344 : decode b_La_law 344 = .ok (.ireturn, 1) := by decide +kernel
theorem d_La_law_345 : decode b_La_law 345 = .ok (.aload_n 1, 1) := by decide +kernel
theorem d_La_law_346 : decode b_La_law 346 = .ok (.aload_n 0, 1) := by decide +kernel
theorem d_La_law_347 : decode b_La_law 347 = .ok (.iload_n 3, 1) := by decide +kernel
theorem d_La_law_348 : decode b_La_law 348 = .ok (.iconst 1, 1) := by decide +kernel
theorem d_La_law_349 : decode b_La_law 349 = .ok (.iadd, 1) := by decide +kernel
theorem d_La_law_350 : decode b_La_law 350 = .ok (.iaload, 1) := by decide +kernel
theorem d_La_law_351 : decode b_La_law 351 = .ok (.invokevirtual 45, 3) := by decide +kernel
theorem d_La_law_354 : decode b_La_law 354 = .ok (.aload_n 2, 1) := by decide +kernel
theorem d_La_law_355 : decode b_La_law 355 = .ok (.aload_n 0, 1) := by decide +kernel
theorem d_La_law_356 : decode b_La_law 356 = .ok (.iload_n 3, 1) := by decide +kernel
theorem d_La_law_357 : decode b_La_law 357 = .ok (.iconst 1, 1) := by decide +kernel
theorem d_La_law_358 : decode b_La_law 358 = .ok (.iadd, 1) := by decide +kernel
theorem d_La_law_359 : decode b_La_law 359 = .ok (.iaload, 1) := by decide +kernel
theorem d_La_law_360 : decode b_La_law 360 = .ok (.invokevirtual 48, 3) := by decide +kernel
theorem d_La_law_363 : decode b_La_law 363 = .ok (.if_icmp .eq 345, 3) := by decide +kernel
theorem d_La_law_366 : decode b_La_law 366 = .ok (.iconst 0, 1) := by decide +kernel
theorem d_La_law_367 : decode b_La_law 367 = .ok (.ireturn, 1) := by decide +kernel
theorem d_La_law_368 : decode b_La_law 368 = .ok (.aload_n 1, 1) := by decide +kernel
theorem d_La_law_369 : decode b_La_law 369 = .ok (.aload_n 0, 1) := by decide +kernel
theorem d_La_law_370 : decode b_La_law 370 = .ok (.iload_n 3, 1) := by decide +kernel
theorem d_La_law_371 : decode b_La_law 371 = .ok (.iconst 1, 1) := by decide +kernel
theorem d_La_law_372 : decode b_La_law 372 = .ok (.iadd, 1) := by decide +kernel
theorem d_La_law_373 : decode b_La_law 373 = .ok (.iaload, 1) := by decide +kernel
theorem d_La_law_374 : decode b_La_law 374 = .ok (.aload_n 0, 1) := by decide +kernel
theorem d_La_law_375 : decode b_La_law 375 = .ok (.iload_n 3, 1) := by decide +kernel
theorem d_La_law_376 : decode b_La_law 376 = .ok (.iconst 2, 1) := by decide +kernel
theorem d_La_law_377 : decode b_La_law 377 = .ok (.iadd, 1) := by decide +kernel
theorem d_La_law_378 : decode b_La_law 378 = .ok (.iaload, 1) := by decide +kernel
theorem d_La_law_379 : decode b_La_law 379 = .ok (.ifCond .eq 7, 3) := by decide +kernel
theorem d_La_law_382 : decode b_La_law 382 = .ok (.iconst 1, 1) := by decide +kernel
theorem d_La_law_383 : decode b_La_law 383 = .ok (.goto 4, 3) := by decide +kernel
theorem d_La_law_386 : decode b_La_law 386 = .ok (.iconst 0, 1) := by decide +kernel
theorem d_La_law_387 : decode b_La_law 387 = .ok (.aload_n 0, 1) := by decide +kernel
theorem d_La_law_388 : decode b_La_law 388 = .ok (.iload_n 3, 1) := by decide +kernel
theorem d_La_law_389 : decode b_La_law 389 = .ok (.iconst 3, 1) := by decide +kernel
theorem d_La_law_390 : decode b_La_law 390 = .ok (.iadd, 1) := by decide +kernel
theorem d_La_law_391 : decode b_La_law 391 = .ok (.iaload, 1) := by decide +kernel
theorem d_La_law_392 : decode b_La_law 392 = .ok (.invokevirtual 49, 3) := by decide +kernel
theorem d_La_law_395 : decode b_La_law 395 = .ok (.aload_n 2, 1) := by decide +kernel
theorem d_La_law_396 : decode b_La_law 396 = .ok (.aload_n 0, 1) := by decide +kernel
theorem d_La_law_397 : decode b_La_law 397 = .ok (.iload_n 3, 1) := by decide +kernel
theorem d_La_law_398 : decode b_La_law 398 = .ok (.iconst 1, 1) := by decide +kernel
theorem d_La_law_399 : decode b_La_law 399 = .ok (.iadd, 1) := by decide +kernel
theorem d_La_law_400 : decode b_La_law 400 = .ok (.iaload, 1) := by decide +kernel
theorem d_La_law_401 : decode b_La_law 401 = .ok (.aload_n 0, 1) := by decide +kernel
theorem d_La_law_402 : decode b_La_law 402 = .ok (.iload_n 3, 1) := by decide +kernel
theorem d_La_law_403 : decode b_La_law 403 = .ok (.iconst 2, 1) := by decide +kernel
theorem d_La_law_404 : decode b_La_law 404 = .ok (.iadd, 1) := by decide +kernel
theorem d_La_law_405 : decode b_La_law 405 = .ok (.iaload, 1) := by decide +kernel
theorem d_La_law_406 : decode b_La_law 406 = .ok (.ifCond .eq 7, 3) := by decide +kernel
theorem d_La_law_409 : decode b_La_law 409 = .ok (.iconst 1, 1) := by decide +kernel
theorem d_La_law_410 : decode b_La_law 410 = .ok (.goto 4, 3) := by decide +kernel
theorem d_La_law_413 : decode b_La_law 413 = .ok (.iconst 0, 1) := by decide +kernel
theorem d_La_law_414 : decode b_La_law 414 = .ok (.aload_n 0, 1) := by decide +kernel
theorem d_La_law_415 : decode b_La_law 415 = .ok (.iload_n 3, 1) := by decide +kernel
theorem d_La_law_416 : decode b_La_law 416 = .ok (.iconst 3, 1) := by decide +kernel
theorem d_La_law_417 : decode b_La_law 417 = .ok (.iadd, 1) := by decide +kernel
theorem d_La_law_418 : decode b_La_law 418 = .ok (.iaload, 1) := by decide +kernel
theorem d_La_law_419 : decode b_La_law 419 = .ok (.invokevirtual 53, 3) := by decide +kernel
theorem d_La_law_422 : decode b_La_law 422 = .ok (.if_icmp .eq 286, 3) := by decide +kernel
theorem d_La_law_425 : decode b_La_law 425 = .ok (.iconst 0, 1) := by decide +kernel
theorem d_La_law_426 : decode b_La_law 426 = .ok (.ireturn, 1) := by decide +kernel
theorem d_La_law_427 : decode b_La_law 427 = .ok (.aload_n 1, 1) := by decide +kernel
theorem d_La_law_428 : decode b_La_law 428 = .ok (.aload_n 0, 1) := by decide +kernel
theorem d_La_law_429 : decode b_La_law 429 = .ok (.iload_n 3, 1) := by decide +kernel
theorem d_La_law_430 : decode b_La_law 430 = .ok (.iconst 1, 1) := by decide +kernel
theorem d_La_law_431 : decode b_La_law 431 = .ok (.iadd, 1) := by decide +kernel
theorem d_La_law_432 : decode b_La_law 432 = .ok (.iaload, 1) := by decide +kernel
theorem d_La_law_433 : decode b_La_law 433 = .ok (.aload_n 0, 1) := by decide +kernel
theorem d_La_law_434 : decode b_La_law 434 = .ok (.iload_n 3, 1) := by decide +kernel
theorem d_La_law_435 : decode b_La_law 435 = .ok (.iconst 2, 1) := by decide +kernel
theorem d_La_law_436 : decode b_La_law 436 = .ok (.iadd, 1) := by decide +kernel
theorem d_La_law_437 : decode b_La_law 437 = .ok (.iaload, 1) := by decide +kernel
theorem d_La_law_438 : decode b_La_law 438 = .ok (.invokevirtual 54, 3) := by decide +kernel
theorem d_La_law_441 : decode b_La_law 441 = .ok (.aload_n 2, 1) := by decide +kernel
theorem d_La_law_442 : decode b_La_law 442 = .ok (.aload_n 0, 1) := by decide +kernel
theorem d_La_law_443 : decode b_La_law 443 = .ok (.iload_n 3, 1) := by decide +kernel
theorem d_La_law_444 : decode b_La_law 444 = .ok (.iconst 1, 1) := by decide +kernel
theorem d_La_law_445 : decode b_La_law 445 = .ok (.iadd, 1) := by decide +kernel
theorem d_La_law_446 : decode b_La_law 446 = .ok (.iaload, 1) := by decide +kernel
theorem d_La_law_447 : decode b_La_law 447 = .ok (.aload_n 0, 1) := by decide +kernel
theorem d_La_law_448 : decode b_La_law 448 = .ok (.iload_n 3, 1) := by decide +kernel
theorem d_La_law_449 : decode b_La_law 449 = .ok (.iconst 2, 1) := by decide +kernel
theorem d_La_law_450 : decode b_La_law 450 = .ok (.iadd, 1) := by decide +kernel
theorem d_La_law_451 : decode b_La_law 451 = .ok (.iaload, 1) := by decide +kernel
theorem d_La_law_452 : decode b_La_law 452 = .ok (.invokevirtual 58, 3) := by decide +kernel
theorem d_La_law_455 : decode b_La_law 455 = .ok (.if_icmp .eq 253, 3) := by decide +kernel
theorem d_La_law_458 : decode b_La_law 458 = .ok (.iconst 0, 1) := by decide +kernel
theorem d_La_law_459 : decode b_La_law 459 = .ok (.ireturn, 1) := by decide +kernel
theorem d_La_law_460 : decode b_La_law 460 = .ok (.aload_n 1, 1) := by decide +kernel
theorem d_La_law_461 : decode b_La_law 461 = .ok (.aload_n 0, 1) := by decide +kernel
theorem d_La_law_462 : decode b_La_law 462 = .ok (.iload_n 3, 1) := by decide +kernel
theorem d_La_law_463 : decode b_La_law 463 = .ok (.iconst 1, 1) := by decide +kernel
theorem d_La_law_464 : decode b_La_law 464 = .ok (.iadd, 1) := by decide +kernel
theorem d_La_law_465 : decode b_La_law 465 = .ok (.iaload, 1) := by decide +kernel
theorem d_La_law_466 : decode b_La_law 466 = .ok (.aload_n 0, 1) := by decide +kernel
theorem d_La_law_467 : decode b_La_law 467 = .ok (.iload_n 3, 1) := by decide +kernel
theorem d_La_law_468 : decode b_La_law 468 = .ok (.iconst 2, 1) := by decide +kernel
theorem d_La_law_469 : decode b_La_law 469 = .ok (.iadd, 1) := by decide +kernel
theorem d_La_law_470 : decode b_La_law 470 = .ok (.iaload, 1) := by decide +kernel
theorem d_La_law_471 : decode b_La_law 471 = .ok (.invokevirtual 59, 3) := by decide +kernel
theorem d_La_law_474 : decode b_La_law 474 = .ok (.aload_n 2, 1) := by decide +kernel
theorem d_La_law_475 : decode b_La_law 475 = .ok (.aload_n 0, 1) := by decide +kernel
theorem d_La_law_476 : decode b_La_law 476 = .ok (.iload_n 3, 1) := by decide +kernel
theorem d_La_law_477 : decode b_La_law 477 = .ok (.iconst 1, 1) := by decide +kernel
theorem d_La_law_478 : decode b_La_law 478 = .ok (.iadd, 1) := by decide +kernel
theorem d_La_law_479 : decode b_La_law 479 = .ok (.iaload, 1) := by decide +kernel
theorem d_La_law_480 : decode b_La_law 480 = .ok (.aload_n 0, 1) := by decide +kernel
theorem d_La_law_481 : decode b_La_law 481 = .ok (.iload_n 3, 1) := by decide +kernel
theorem d_La_law_482 : decode b_La_law 482 = .ok (.iconst 2, 1) := by decide +kernel
theorem d_La_law_483 : decode b_La_law 483 = .ok (.iadd, 1) := by decide +kernel
theorem d_La_law_484 : decode b_La_law 484 = .ok (.iaload, 1) := by decide +kernel
theorem d_La_law_485 : decode b_La_law 485 = .ok (.invokevirtual 62, 3) := by decide +kernel
theorem d_La_law_488 : decode b_La_law 488 = .ok (.if_icmp .eq 220, 3) := by decide +kernel
theorem d_La_law_491 : decode b_La_law 491 = .ok (.iconst 0, 1) := by decide +kernel
theorem d_La_law_492 : decode b_La_law 492 = .ok (.ireturn, 1) := by decide +kernel
theorem d_La_law_493 : decode b_La_law 493 = .ok (.aload_n 1, 1) := by decide +kernel
theorem d_La_law_494 : decode b_La_law 494 = .ok (.aload_n 0, 1) := by decide +kernel
theorem d_La_law_495 : decode b_La_law 495 = .ok (.iload_n 3, 1) := by decide +kernel
theorem d_La_law_496 : decode b_La_law 496 = .ok (.iconst 1, 1) := by decide +kernel
theorem d_La_law_497 : decode b_La_law 497 = .ok (.iadd, 1) := by decide +kernel
theorem d_La_law_498 : decode b_La_law 498 = .ok (.iaload, 1) := by decide +kernel
theorem d_La_law_499 : decode b_La_law 499 = .ok (.invokevirtual 63, 3) := by decide +kernel
theorem d_La_law_502 : decode b_La_law 502 = .ok (.aload_n 2, 1) := by decide +kernel
theorem d_La_law_503 : decode b_La_law 503 = .ok (.aload_n 0, 1) := by decide +kernel
theorem d_La_law_504 : decode b_La_law 504 = .ok (.iload_n 3, 1) := by decide +kernel
theorem d_La_law_505 : decode b_La_law 505 = .ok (.iconst 1, 1) := by decide +kernel
theorem d_La_law_506 : decode b_La_law 506 = .ok (.iadd, 1) := by decide +kernel
theorem d_La_law_507 : decode b_La_law 507 = .ok (.iaload, 1) := by decide +kernel
theorem d_La_law_508 : decode b_La_law 508 = .ok (.invokevirtual 67, 3) := by decide +kernel
theorem d_La_law_511 : decode b_La_law 511 = .ok (.if_icmp .eq 197, 3) := by decide +kernel
theorem d_La_law_514 : decode b_La_law 514 = .ok (.iconst 0, 1) := by decide +kernel
theorem d_La_law_515 : decode b_La_law 515 = .ok (.ireturn, 1) := by decide +kernel
theorem d_La_law_516 : decode b_La_law 516 = .ok (.aload_n 1, 1) := by decide +kernel
theorem d_La_law_517 : decode b_La_law 517 = .ok (.aload_n 0, 1) := by decide +kernel
theorem d_La_law_518 : decode b_La_law 518 = .ok (.iload_n 3, 1) := by decide +kernel
theorem d_La_law_519 : decode b_La_law 519 = .ok (.iconst 1, 1) := by decide +kernel
theorem d_La_law_520 : decode b_La_law 520 = .ok (.iadd, 1) := by decide +kernel
theorem d_La_law_521 : decode b_La_law 521 = .ok (.iaload, 1) := by decide +kernel
theorem d_La_law_522 : decode b_La_law 522 = .ok (.invokevirtual 68, 3) := by decide +kernel
theorem d_La_law_525 : decode b_La_law 525 = .ok (.aload_n 2, 1) := by decide +kernel
theorem d_La_law_526 : decode b_La_law 526 = .ok (.aload_n 0, 1) := by decide +kernel
theorem d_La_law_527 : decode b_La_law 527 = .ok (.iload_n 3, 1) := by decide +kernel
theorem d_La_law_528 : decode b_La_law 528 = .ok (.iconst 1, 1) := by decide +kernel
theorem d_La_law_529 : decode b_La_law 529 = .ok (.iadd, 1) := by decide +kernel
theorem d_La_law_530 : decode b_La_law 530 = .ok (.iaload, 1) := by decide +kernel
theorem d_La_law_531 : decode b_La_law 531 = .ok (.invokevirtual 71, 3) := by decide +kernel
theorem d_La_law_534 : decode b_La_law 534 = .ok (.if_icmp .eq 174, 3) := by decide +kernel
theorem d_La_law_537 : decode b_La_law 537 = .ok (.iconst 0, 1) := by decide +kernel
theorem d_La_law_538 : decode b_La_law 538 = .ok (.ireturn, 1) := by decide +kernel
theorem d_La_law_539 : decode b_La_law 539 = .ok (.aload_n 1, 1) := by decide +kernel
theorem d_La_law_540 : decode b_La_law 540 = .ok (.invokevirtual 72, 3) := by decide +kernel
theorem d_La_law_543 : decode b_La_law 543 = .ok (.aload_n 2, 1) := by decide +kernel
theorem d_La_law_544 : decode b_La_law 544 = .ok (.invokevirtual 76, 3) := by decide +kernel
theorem d_La_law_547 : decode b_La_law 547 = .ok (.if_icmp .eq 161, 3) := by decide +kernel
theorem d_La_law_550 : decode b_La_law 550 = .ok (.iconst 0, 1) := by decide +kernel
theorem d_La_law_551 : decode b_La_law 551 = .ok (.ireturn, 1) := by decide +kernel
theorem d_La_law_552 : decode b_La_law 552 = .ok (.aload_n 1, 1) := by decide +kernel
theorem d_La_law_553 : decode b_La_law 553 = .ok (.aload_n 0, 1) := by decide +kernel
theorem d_La_law_554 : decode b_La_law 554 = .ok (.iload_n 3, 1) := by decide +kernel
theorem d_La_law_555 : decode b_La_law 555 = .ok (.iconst 1, 1) := by decide +kernel
theorem d_La_law_556 : decode b_La_law 556 = .ok (.iadd, 1) := by decide +kernel
theorem d_La_law_557 : decode b_La_law 557 = .ok (.iaload, 1) := by decide +kernel
theorem d_La_law_558 : decode b_La_law 558 = .ok (.aload_n 0, 1) := by decide +kernel
theorem d_La_law_559 : decode b_La_law 559 = .ok (.iload_n 3, 1) := by decide +kernel
theorem d_La_law_560 : decode b_La_law 560 = .ok (.iconst 2, 1) := by decide +kernel
theorem d_La_law_561 : decode b_La_law 561 = .ok (.iadd, 1) := by decide +kernel
theorem d_La_law_562 : decode b_La_law 562 = .ok (.iaload, 1) := by decide +kernel
theorem d_La_law_563 : decode b_La_law 563 = .ok (.invokevirtual 77, 3) := by decide +kernel
theorem d_La_law_566 : decode b_La_law 566 = .ok (.aload_n 2, 1) := by decide +kernel
theorem d_La_law_567 : decode b_La_law 567 = .ok (.aload_n 0, 1) := by decide +kernel
theorem d_La_law_568 : decode b_La_law 568 = .ok (.iload_n 3, 1) := by decide +kernel
theorem d_La_law_569 : decode b_La_law 569 = .ok (.iconst 1, 1) := by decide +kernel
theorem d_La_law_570 : decode b_La_law 570 = .ok (.iadd, 1) := by decide +kernel
theorem d_La_law_571 : decode b_La_law 571 = .ok (.iaload, 1) := by decide +kernel
theorem d_La_law_572 : decode b_La_law 572 = .ok (.aload_n 0, 1) := by decide +kernel
theorem d_La_law_573 : decode b_La_law 573 = .ok (.iload_n 3, 1) := by decide +kernel
theorem d_La_law_574 : decode b_La_law 574 = .ok (.iconst 2, 1) := by decide +kernel
theorem d_La_law_575 : decode b_La_law 575 = .ok (.iadd, 1) := by decide +kernel
theorem d_La_law_576 : decode b_La_law 576 = .ok (.iaload, 1) := by decide +kernel
theorem d_La_law_577 : decode b_La_law 577 = .ok (.invokevirtual 80, 3) := by decide +kernel
theorem d_La_law_580 : decode b_La_law 580 = .ok (.if_icmp .eq 128, 3) := by decide +kernel
theorem d_La_law_583 : decode b_La_law 583 = .ok (.iconst 0, 1) := by decide +kernel
theorem d_La_law_584 : decode b_La_law 584 = .ok (.ireturn, 1) := by decide +kernel
theorem d_La_law_585 : decode b_La_law 585 = .ok (.aload_n 1, 1) := by decide +kernel
theorem d_La_law_586 : decode b_La_law 586 = .ok (.aload_n 0, 1) := by decide +kernel
theorem d_La_law_587 : decode b_La_law 587 = .ok (.iload_n 3, 1) := by decide +kernel
theorem d_La_law_588 : decode b_La_law 588 = .ok (.iconst 1, 1) := by decide +kernel
theorem d_La_law_589 : decode b_La_law 589 = .ok (.iadd, 1) := by decide +kernel
theorem d_La_law_590 : decode b_La_law 590 = .ok (.iaload, 1) := by decide +kernel
theorem d_La_law_591 : decode b_La_law 591 = .ok (.aload_n 0, 1) := by decide +kernel
theorem d_La_law_592 : decode b_La_law 592 = .ok (.iload_n 3, 1) := by decide +kernel
theorem d_La_law_593 : decode b_La_law 593 = .ok (.iconst 2, 1) := by decide +kernel
theorem d_La_law_594 : decode b_La_law 594 = .ok (.iadd, 1) := by decide +kernel
theorem d_La_law_595 : decode b_La_law 595 = .ok (.iaload, 1) := by decide +kernel
theorem d_La_law_596 : decode b_La_law 596 = .ok (.invokevirtual 81, 3) := by decide +kernel
theorem d_La_law_599 : decode b_La_law 599 = .ok (.aload_n 2, 1) := by decide +kernel
theorem d_La_law_600 : decode b_La_law 600 = .ok (.aload_n 0, 1) := by decide +kernel
theorem d_La_law_601 : decode b_La_law 601 = .ok (.iload_n 3, 1) := by decide +kernel
theorem d_La_law_602 : decode b_La_law 602 = .ok (.iconst 1, 1) := by decide +kernel
theorem d_La_law_603 : decode b_La_law 603 = .ok (.iadd, 1) := by decide +kernel
theorem d_La_law_604 : decode b_La_law 604 = .ok (.iaload, 1) := by decide +kernel
theorem d_La_law_605 : decode b_La_law 605 = .ok (.aload_n 0, 1) := by decide +kernel
theorem d_La_law_606 : decode b_La_law 606 = .ok (.iload_n 3, 1) := by decide +kernel
theorem d_La_law_607 : decode b_La_law 607 = .ok (.iconst 2, 1) := by decide +kernel
theorem d_La_law_608 : decode b_La_law 608 = .ok (.iadd, 1) := by decide +kernel
theorem d_La_law_609 : decode b_La_law 609 = .ok (.iaload, 1) := by decide +kernel
theorem d_La_law_610 : decode b_La_law 610 = .ok (.invokevirtual 84, 3) := by decide +kernel
theorem d_La_law_613 : decode b_La_law 613 = .ok (.if_icmp .eq 95, 3) := by decide +kernel
theorem d_La_law_616 : decode b_La_law 616 = .ok (.iconst 0, 1) := by decide +kernel
theorem d_La_law_617 : decode b_La_law 617 = .ok (.ireturn, 1) := by decide +kernel
theorem d_La_law_618 : decode b_La_law 618 = .ok (.aload_n 1, 1) := by decide +kernel
theorem d_La_law_619 : decode b_La_law 619 = .ok (.aload_n 0, 1) := by decide +kernel
theorem d_La_law_620 : decode b_La_law 620 = .ok (.iload_n 3, 1) := by decide +kernel
theorem d_La_law_621 : decode b_La_law 621 = .ok (.iconst 1, 1) := by decide +kernel
theorem d_La_law_622 : decode b_La_law 622 = .ok (.iadd, 1) := by decide +kernel
theorem d_La_law_623 : decode b_La_law 623 = .ok (.iaload, 1) := by decide +kernel
theorem d_La_law_624 : decode b_La_law 624 = .ok (.invokevirtual 85, 3) := by decide +kernel
theorem d_La_law_627 : decode b_La_law 627 = .ok (.aload_n 2, 1) := by decide +kernel
theorem d_La_law_628 : decode b_La_law 628 = .ok (.aload_n 0, 1) := by decide +kernel
theorem d_La_law_629 : decode b_La_law 629 = .ok (.iload_n 3, 1) := by decide +kernel
theorem d_La_law_630 : decode b_La_law 630 = .ok (.iconst 1, 1) := by decide +kernel
theorem d_La_law_631 : decode b_La_law 631 = .ok (.iadd, 1) := by decide +kernel
theorem d_La_law_632 : decode b_La_law 632 = .ok (.iaload, 1) := by decide +kernel
theorem d_La_law_633 : decode b_La_law 633 = .ok (.invokevirtual 88, 3) := by decide +kernel
theorem d_La_law_636 : decode b_La_law 636 = .ok (.if_icmp .eq 72, 3) := by decide +kernel
theorem d_La_law_639 : decode b_La_law 639 = .ok (.iconst 0, 1) := by decide +kernel
theorem d_La_law_640 : decode b_La_law 640 = .ok (.ireturn, 1) := by decide +kernel
theorem d_La_law_641 : decode b_La_law 641 = .ok (.aload_n 1, 1) := by decide +kernel
theorem d_La_law_642 : decode b_La_law 642 = .ok (.aload_n 0, 1) := by decide +kernel
theorem d_La_law_643 : decode b_La_law 643 = .ok (.iload_n 3, 1) := by decide +kernel
theorem d_La_law_644 : decode b_La_law 644 = .ok (.iconst 1, 1) := by decide +kernel
theorem d_La_law_645 : decode b_La_law 645 = .ok (.iadd, 1) := by decide +kernel
theorem d_La_law_646 : decode b_La_law 646 = .ok (.iaload, 1) := by decide +kernel
theorem d_La_law_647 : decode b_La_law 647 = .ok (.aload_n 0, 1) := by decide +kernel
theorem d_La_law_648 : decode b_La_law 648 = .ok (.iload_n 3, 1) := by decide +kernel
theorem d_La_law_649 : decode b_La_law 649 = .ok (.iconst 2, 1) := by decide +kernel
theorem d_La_law_650 : decode b_La_law 650 = .ok (.iadd, 1) := by decide +kernel
theorem d_La_law_651 : decode b_La_law 651 = .ok (.iaload, 1) := by decide +kernel
theorem d_La_law_652 : decode b_La_law 652 = .ok (.invokevirtual 89, 3) := by decide +kernel
theorem d_La_law_655 : decode b_La_law 655 = .ok (.aload_n 2, 1) := by decide +kernel
theorem d_La_law_656 : decode b_La_law 656 = .ok (.aload_n 0, 1) := by decide +kernel
theorem d_La_law_657 : decode b_La_law 657 = .ok (.iload_n 3, 1) := by decide +kernel
theorem d_La_law_658 : decode b_La_law 658 = .ok (.iconst 1, 1) := by decide +kernel
theorem d_La_law_659 : decode b_La_law 659 = .ok (.iadd, 1) := by decide +kernel
theorem d_La_law_660 : decode b_La_law 660 = .ok (.iaload, 1) := by decide +kernel
theorem d_La_law_661 : decode b_La_law 661 = .ok (.aload_n 0, 1) := by decide +kernel
theorem d_La_law_662 : decode b_La_law 662 = .ok (.iload_n 3, 1) := by decide +kernel
theorem d_La_law_663 : decode b_La_law 663 = .ok (.iconst 2, 1) := by decide +kernel
theorem d_La_law_664 : decode b_La_law 664 = .ok (.iadd, 1) := by decide +kernel
theorem d_La_law_665 : decode b_La_law 665 = .ok (.iaload, 1) := by decide +kernel
theorem d_La_law_666 : decode b_La_law 666 = .ok (.invokevirtual 93, 3) := by decide +kernel
theorem d_La_law_669 : decode b_La_law 669 = .ok (.lcmp, 1) := by decide +kernel
theorem d_La_law_670 : decode b_La_law 670 = .ok (.ifCond .eq 38, 3) := by decide +kernel
theorem d_La_law_673 : decode b_La_law 673 = .ok (.iconst 0, 1) := by decide +kernel
theorem d_La_law_674 : decode b_La_law 674 = .ok (.ireturn, 1) := by decide +kernel
theorem d_La_law_675 : decode b_La_law 675 = .ok (.aload_n 1, 1) := by decide +kernel
theorem d_La_law_676 : decode b_La_law 676 = .ok (.aload_n 0, 1) := by decide +kernel
theorem d_La_law_677 : decode b_La_law 677 = .ok (.iload_n 3, 1) := by decide +kernel
theorem d_La_law_678 : decode b_La_law 678 = .ok (.iconst 1, 1) := by decide +kernel
theorem d_La_law_679 : decode b_La_law 679 = .ok (.iadd, 1) := by decide +kernel
theorem d_La_law_680 : decode b_La_law 680 = .ok (.iaload, 1) := by decide +kernel
theorem d_La_law_681 : decode b_La_law 681 = .ok (.aload_n 0, 1) := by decide +kernel
theorem d_La_law_682 : decode b_La_law 682 = .ok (.iload_n 3, 1) := by decide +kernel
theorem d_La_law_683 : decode b_La_law 683 = .ok (.iconst 2, 1) := by decide +kernel
theorem d_La_law_684 : decode b_La_law 684 = .ok (.iadd, 1) := by decide +kernel
theorem d_La_law_685 : decode b_La_law 685 = .ok (.iaload, 1) := by decide +kernel
theorem d_La_law_686 : decode b_La_law 686 = .ok (.invokevirtual 94, 3) := by decide +kernel
theorem d_La_law_689 : decode b_La_law 689 = .ok (.aload_n 2, 1) := by decide +kernel
theorem d_La_law_690 : decode b_La_law 690 = .ok (.aload_n 0, 1) := by decide +kernel
theorem d_La_law_691 : decode b_La_law 691 = .ok (.iload_n 3, 1) := by decide +kernel
theorem d_La_law_692 : decode b_La_law 692 = .ok (.iconst 1, 1) := by decide +kernel
theorem d_La_law_693 : decode b_La_law 693 = .ok (.iadd, 1) := by decide +kernel
theorem d_La_law_694 : decode b_La_law 694 = .ok (.iaload, 1) := by decide +kernel
theorem d_La_law_695 : decode b_La_law 695 = .ok (.aload_n 0, 1) := by decide +kernel
theorem d_La_law_696 : decode b_La_law 696 = .ok (.iload_n 3, 1) := by decide +kernel
theorem d_La_law_697 : decode b_La_law 697 = .ok (.iconst 2, 1) := by decide +kernel
theorem d_La_law_698 : decode b_La_law 698 = .ok (.iadd, 1) := by decide +kernel
theorem d_La_law_699 : decode b_La_law 699 = .ok (.iaload, 1) := by decide +kernel
theorem d_La_law_700 : decode b_La_law 700 = .ok (.invokevirtual 98, 3) := by decide +kernel
theorem d_La_law_703 : decode b_La_law 703 = .ok (.if_icmp .eq 5, 3) := by decide +kernel
theorem d_La_law_706 : decode b_La_law 706 = .ok (.iconst 0, 1) := by decide +kernel
theorem d_La_law_707 : decode b_La_law 707 = .ok (.ireturn, 1) := by decide +kernel
theorem d_La_law_708 : decode b_La_law 708 = .ok (.iinc 3 6, 3) := by decide +kernel
theorem d_La_law_711 : decode b_La_law 711 = .ok (.goto (-693), 3) := by decide +kernel
theorem d_La_law_714 : decode b_La_law 714 = .ok (.iconst 1, 1) := by decide +kernel
theorem d_La_law_715 : decode b_La_law 715 = .ok (.ireturn, 1) := by decide +kernel
end
