-- ===== PART A: goes FIRST, ahead of the names: the tables' words, and 'selects' of the private methods out of them =====
/-- a private method of a class that the tables say can be made, by its rows of tables_1 -/
def lw_okq (q : MethodName × Nat) : Prop := (q.1.cls ≠ "java/lang/invoke/MethodHandle" ∧ q.1.cls ≠ "java/lang/invoke/VarHandle") ∧ Cond.instantiable q.1.cls q.2 ∈ tables_1 ∧ Cond.privateMethod q.1 ∈ tables_1 ∧ Cond.instanceMethod q.1 ∈ tables_1
theorem lw_p0 : lw_okq (⟨"ArsenalRow", "refused", "(I)I"⟩, 12) := ⟨⟨by decide +kernel, by decide +kernel⟩, List.mem_of_getElem? (i := 18) (by decide +kernel), List.mem_of_getElem? (i := 474) (by decide +kernel), List.mem_of_getElem? (i := 475) (by decide +kernel)⟩
theorem lw_p1 : lw_okq (⟨"ArsenalRow", "refusedAside", "(I)I"⟩, 12) := ⟨⟨by decide +kernel, by decide +kernel⟩, List.mem_of_getElem? (i := 18) (by decide +kernel), List.mem_of_getElem? (i := 519) (by decide +kernel), List.mem_of_getElem? (i := 520) (by decide +kernel)⟩
theorem lw_p2 : lw_okq (⟨"ArsenalRow", "isHull", "(I)Z"⟩, 12) := ⟨⟨by decide +kernel, by decide +kernel⟩, List.mem_of_getElem? (i := 18) (by decide +kernel), List.mem_of_getElem? (i := 590) (by decide +kernel), List.mem_of_getElem? (i := 591) (by decide +kernel)⟩
theorem lw_p3 : lw_okq (⟨"ArsenalRow$Yard", "moveOn", "(ILArsenalRow$Tasks;)I"⟩, 12) := ⟨⟨by decide +kernel, by decide +kernel⟩, List.mem_of_getElem? (i := 104) (by decide +kernel), List.mem_of_getElem? (i := 634) (by decide +kernel), List.mem_of_getElem? (i := 635) (by decide +kernel)⟩
theorem lw_p4 : lw_okq (⟨"ArsenalRow$Yard", "berth", "(IILArsenalRow$Tasks;)V"⟩, 12) := ⟨⟨by decide +kernel, by decide +kernel⟩, List.mem_of_getElem? (i := 104) (by decide +kernel), List.mem_of_getElem? (i := 646) (by decide +kernel), List.mem_of_getElem? (i := 647) (by decide +kernel)⟩
theorem lw_p5 : lw_okq (⟨"ArsenalRow$Yard", "letIn", "(LArsenalRow$Tasks;)V"⟩, 12) := ⟨⟨by decide +kernel, by decide +kernel⟩, List.mem_of_getElem? (i := 104) (by decide +kernel), List.mem_of_getElem? (i := 654) (by decide +kernel), List.mem_of_getElem? (i := 655) (by decide +kernel)⟩
theorem lw_p6 : lw_okq (⟨"ArsenalRow$Yard", "takeGoods", "()V"⟩, 12) := ⟨⟨by decide +kernel, by decide +kernel⟩, List.mem_of_getElem? (i := 104) (by decide +kernel), List.mem_of_getElem? (i := 658) (by decide +kernel), List.mem_of_getElem? (i := 659) (by decide +kernel)⟩
theorem lw_p7 : lw_okq (⟨"ArsenalRow$Yard", "hasAll", "([I)Z"⟩, 12) := ⟨⟨by decide +kernel, by decide +kernel⟩, List.mem_of_getElem? (i := 104) (by decide +kernel), List.mem_of_getElem? (i := 662) (by decide +kernel), List.mem_of_getElem? (i := 663) (by decide +kernel)⟩
theorem lw_p8 : lw_okq (⟨"ArsenalRow$Yard", "doWork", "([III)V"⟩, 12) := ⟨⟨by decide +kernel, by decide +kernel⟩, List.mem_of_getElem? (i := 104) (by decide +kernel), List.mem_of_getElem? (i := 666) (by decide +kernel), List.mem_of_getElem? (i := 667) (by decide +kernel)⟩
theorem lw_p9 : lw_okq (⟨"ArsenalRow$Yard", "drink", "(I)V"⟩, 12) := ⟨⟨by decide +kernel, by decide +kernel⟩, List.mem_of_getElem? (i := 104) (by decide +kernel), List.mem_of_getElem? (i := 671) (by decide +kernel), List.mem_of_getElem? (i := 672) (by decide +kernel)⟩
theorem lw_p10 : lw_okq (⟨"ArsenalRow$Matching", "fitting", "(LArsenalRow$Grove;ILArsenalRow$Parts;I)I"⟩, 5) := ⟨⟨by decide +kernel, by decide +kernel⟩, List.mem_of_getElem? (i := 299) (by decide +kernel), List.mem_of_getElem? (i := 727) (by decide +kernel), List.mem_of_getElem? (i := 728) (by decide +kernel)⟩
theorem lw_p11 : lw_okq (⟨"ArsenalRow$Matching", "offer", "(II)V"⟩, 5) := ⟨⟨by decide +kernel, by decide +kernel⟩, List.mem_of_getElem? (i := 299) (by decide +kernel), List.mem_of_getElem? (i := 735) (by decide +kernel), List.mem_of_getElem? (i := 736) (by decide +kernel)⟩
theorem lw_p12 : lw_okq (⟨"ArsenalRow$Matching", "readOff", "(JI)V"⟩, 5) := ⟨⟨by decide +kernel, by decide +kernel⟩, List.mem_of_getElem? (i := 299) (by decide +kernel), List.mem_of_getElem? (i := 742) (by decide +kernel), List.mem_of_getElem? (i := 743) (by decide +kernel)⟩
theorem lw_p13 : lw_okq (⟨"ArsenalRow$Ledger", "isWorse", "(II)Z"⟩, 5) := ⟨⟨by decide +kernel, by decide +kernel⟩, List.mem_of_getElem? (i := 325) (by decide +kernel), List.mem_of_getElem? (i := 788) (by decide +kernel), List.mem_of_getElem? (i := 789) (by decide +kernel)⟩
theorem lw_p14 : lw_okq (⟨"ArsenalRow$Ledger", "spanOf", "(I)I"⟩, 5) := ⟨⟨by decide +kernel, by decide +kernel⟩, List.mem_of_getElem? (i := 325) (by decide +kernel), List.mem_of_getElem? (i := 792) (by decide +kernel), List.mem_of_getElem? (i := 793) (by decide +kernel)⟩
theorem lw_p15 : lw_okq (⟨"ArsenalRow", "readyAhead", "(I)I"⟩, 12) := ⟨⟨by decide +kernel, by decide +kernel⟩, List.mem_of_getElem? (i := 18) (by decide +kernel), List.mem_of_getElem? (i := 803) (by decide +kernel), List.mem_of_getElem? (i := 804) (by decide +kernel)⟩
def lw_privs_1 : List (MethodName × Nat) := [(⟨"ArsenalRow", "refused", "(I)I"⟩, 12), (⟨"ArsenalRow", "refusedAside", "(I)I"⟩, 12), (⟨"ArsenalRow", "isHull", "(I)Z"⟩, 12), (⟨"ArsenalRow$Yard", "moveOn", "(ILArsenalRow$Tasks;)I"⟩, 12), (⟨"ArsenalRow$Yard", "berth", "(IILArsenalRow$Tasks;)V"⟩, 12), (⟨"ArsenalRow$Yard", "letIn", "(LArsenalRow$Tasks;)V"⟩, 12), (⟨"ArsenalRow$Yard", "takeGoods", "()V"⟩, 12), (⟨"ArsenalRow$Yard", "hasAll", "([I)Z"⟩, 12), (⟨"ArsenalRow$Yard", "doWork", "([III)V"⟩, 12), (⟨"ArsenalRow$Yard", "drink", "(I)V"⟩, 12), (⟨"ArsenalRow$Matching", "fitting", "(LArsenalRow$Grove;ILArsenalRow$Parts;I)I"⟩, 5), (⟨"ArsenalRow$Matching", "offer", "(II)V"⟩, 5), (⟨"ArsenalRow$Matching", "readOff", "(JI)V"⟩, 5), (⟨"ArsenalRow$Ledger", "isWorse", "(II)Z"⟩, 5), (⟨"ArsenalRow$Ledger", "spanOf", "(I)I"⟩, 5), (⟨"ArsenalRow", "readyAhead", "(I)I"⟩, 12)]
theorem lw_r1 : ∀ q ∈ lw_privs_1, lw_okq q := List.forall_mem_cons.mpr ⟨lw_p0, List.forall_mem_cons.mpr ⟨lw_p1, List.forall_mem_cons.mpr ⟨lw_p2, List.forall_mem_cons.mpr ⟨lw_p3, List.forall_mem_cons.mpr ⟨lw_p4, List.forall_mem_cons.mpr ⟨lw_p5, List.forall_mem_cons.mpr ⟨lw_p6, List.forall_mem_cons.mpr ⟨lw_p7, List.forall_mem_cons.mpr ⟨lw_p8, List.forall_mem_cons.mpr ⟨lw_p9, List.forall_mem_cons.mpr ⟨lw_p10, List.forall_mem_cons.mpr ⟨lw_p11, List.forall_mem_cons.mpr ⟨lw_p12, List.forall_mem_cons.mpr ⟨lw_p13, List.forall_mem_cons.mpr ⟨lw_p14, List.forall_mem_cons.mpr ⟨lw_p15, fun _ h => absurd h List.not_mem_nil⟩⟩⟩⟩⟩⟩⟩⟩⟩⟩⟩⟩⟩⟩⟩⟩
theorem lw_p16 : lw_okq (⟨"ArsenalRow$Outlook", "tryOut", "(LArsenalRow$Yard;[IILArsenalRow$Tasks;)V"⟩, 12) := ⟨⟨by decide +kernel, by decide +kernel⟩, List.mem_of_getElem? (i := 377) (by decide +kernel), List.mem_of_getElem? (i := 819) (by decide +kernel), List.mem_of_getElem? (i := 820) (by decide +kernel)⟩
theorem lw_p17 : lw_okq (⟨"ArsenalRow$Outlook", "workIsAhead", "(I)Z"⟩, 12) := ⟨⟨by decide +kernel, by decide +kernel⟩, List.mem_of_getElem? (i := 377) (by decide +kernel), List.mem_of_getElem? (i := 834) (by decide +kernel), List.mem_of_getElem? (i := 835) (by decide +kernel)⟩
theorem lw_p18 : lw_okq (⟨"ArsenalRow", "findOrder", "()Z"⟩, 12) := ⟨⟨by decide +kernel, by decide +kernel⟩, List.mem_of_getElem? (i := 18) (by decide +kernel), List.mem_of_getElem? (i := 850) (by decide +kernel), List.mem_of_getElem? (i := 851) (by decide +kernel)⟩
theorem lw_p19 : lw_okq (⟨"ArsenalRow$Outlook", "gatherByNumbers", "(LArsenalRow$Yard;)V"⟩, 12) := ⟨⟨by decide +kernel, by decide +kernel⟩, List.mem_of_getElem? (i := 377) (by decide +kernel), List.mem_of_getElem? (i := 862) (by decide +kernel), List.mem_of_getElem? (i := 863) (by decide +kernel)⟩
theorem lw_p20 : lw_okq (⟨"ArsenalRow$Outlook", "sumOfLate", "()I"⟩, 12) := ⟨⟨by decide +kernel, by decide +kernel⟩, List.mem_of_getElem? (i := 377) (by decide +kernel), List.mem_of_getElem? (i := 870) (by decide +kernel), List.mem_of_getElem? (i := 871) (by decide +kernel)⟩
theorem lw_p21 : lw_okq (⟨"ArsenalRow$Outlook", "nextOrder", "()V"⟩, 12) := ⟨⟨by decide +kernel, by decide +kernel⟩, List.mem_of_getElem? (i := 377) (by decide +kernel), List.mem_of_getElem? (i := 876) (by decide +kernel), List.mem_of_getElem? (i := 877) (by decide +kernel)⟩
theorem lw_p22 : lw_okq (⟨"ArsenalRow$Outlook", "swapTried", "(II)V"⟩, 12) := ⟨⟨by decide +kernel, by decide +kernel⟩, List.mem_of_getElem? (i := 377) (by decide +kernel), List.mem_of_getElem? (i := 880) (by decide +kernel), List.mem_of_getElem? (i := 881) (by decide +kernel)⟩
theorem lw_p23 : lw_okq (⟨"ArsenalRowModel", "refuse", "(I)I"⟩, 65) := ⟨⟨by decide +kernel, by decide +kernel⟩, List.mem_of_getElem? (i := 908) (by decide +kernel), List.mem_of_getElem? (i := 1118) (by decide +kernel), List.mem_of_getElem? (i := 1119) (by decide +kernel)⟩
theorem lw_p24 : lw_okq (⟨"ArsenalRowModel", "refuseFar", "(I)I"⟩, 65) := ⟨⟨by decide +kernel, by decide +kernel⟩, List.mem_of_getElem? (i := 908) (by decide +kernel), List.mem_of_getElem? (i := 1147) (by decide +kernel), List.mem_of_getElem? (i := 1148) (by decide +kernel)⟩
theorem lw_p25 : lw_okq (⟨"ArsenalRowModel", "handsAt", "(II)I"⟩, 65) := ⟨⟨by decide +kernel, by decide +kernel⟩, List.mem_of_getElem? (i := 908) (by decide +kernel), List.mem_of_getElem? (i := 1156) (by decide +kernel), List.mem_of_getElem? (i := 1157) (by decide +kernel)⟩
theorem lw_p26 : lw_okq (⟨"ArsenalRowModel", "forceAt", "(III)I"⟩, 65) := ⟨⟨by decide +kernel, by decide +kernel⟩, List.mem_of_getElem? (i := 908) (by decide +kernel), List.mem_of_getElem? (i := 1168) (by decide +kernel), List.mem_of_getElem? (i := 1169) (by decide +kernel)⟩
theorem lw_p27 : lw_okq (⟨"ArsenalRowModel", "isHull", "(I)Z"⟩, 65) := ⟨⟨by decide +kernel, by decide +kernel⟩, List.mem_of_getElem? (i := 908) (by decide +kernel), List.mem_of_getElem? (i := 1188) (by decide +kernel), List.mem_of_getElem? (i := 1189) (by decide +kernel)⟩
theorem lw_p28 : lw_okq (⟨"ArsenalRowModel", "pass", "()I"⟩, 65) := ⟨⟨by decide +kernel, by decide +kernel⟩, List.mem_of_getElem? (i := 908) (by decide +kernel), List.mem_of_getElem? (i := 1204) (by decide +kernel), List.mem_of_getElem? (i := 1205) (by decide +kernel)⟩
theorem lw_p29 : lw_okq (⟨"ArsenalRowModel", "moveAll", "()I"⟩, 65) := ⟨⟨by decide +kernel, by decide +kernel⟩, List.mem_of_getElem? (i := 908) (by decide +kernel), List.mem_of_getElem? (i := 1208) (by decide +kernel), List.mem_of_getElem? (i := 1209) (by decide +kernel)⟩
theorem lw_p30 : lw_okq (⟨"ArsenalRowModel", "enter", "(II)V"⟩, 65) := ⟨⟨by decide +kernel, by decide +kernel⟩, List.mem_of_getElem? (i := 908) (by decide +kernel), List.mem_of_getElem? (i := 1212) (by decide +kernel), List.mem_of_getElem? (i := 1213) (by decide +kernel)⟩
theorem lw_p31 : lw_okq (⟨"ArsenalRowModel", "firstBehind", "(II)I"⟩, 65) := ⟨⟨by decide +kernel, by decide +kernel⟩, List.mem_of_getElem? (i := 908) (by decide +kernel), List.mem_of_getElem? (i := 1216) (by decide +kernel), List.mem_of_getElem? (i := 1217) (by decide +kernel)⟩
def lw_privs_2 : List (MethodName × Nat) := [(⟨"ArsenalRow$Outlook", "tryOut", "(LArsenalRow$Yard;[IILArsenalRow$Tasks;)V"⟩, 12), (⟨"ArsenalRow$Outlook", "workIsAhead", "(I)Z"⟩, 12), (⟨"ArsenalRow", "findOrder", "()Z"⟩, 12), (⟨"ArsenalRow$Outlook", "gatherByNumbers", "(LArsenalRow$Yard;)V"⟩, 12), (⟨"ArsenalRow$Outlook", "sumOfLate", "()I"⟩, 12), (⟨"ArsenalRow$Outlook", "nextOrder", "()V"⟩, 12), (⟨"ArsenalRow$Outlook", "swapTried", "(II)V"⟩, 12), (⟨"ArsenalRowModel", "refuse", "(I)I"⟩, 65), (⟨"ArsenalRowModel", "refuseFar", "(I)I"⟩, 65), (⟨"ArsenalRowModel", "handsAt", "(II)I"⟩, 65), (⟨"ArsenalRowModel", "forceAt", "(III)I"⟩, 65), (⟨"ArsenalRowModel", "isHull", "(I)Z"⟩, 65), (⟨"ArsenalRowModel", "pass", "()I"⟩, 65), (⟨"ArsenalRowModel", "moveAll", "()I"⟩, 65), (⟨"ArsenalRowModel", "enter", "(II)V"⟩, 65), (⟨"ArsenalRowModel", "firstBehind", "(II)I"⟩, 65)]
theorem lw_r2 : ∀ q ∈ lw_privs_2, lw_okq q := List.forall_mem_cons.mpr ⟨lw_p16, List.forall_mem_cons.mpr ⟨lw_p17, List.forall_mem_cons.mpr ⟨lw_p18, List.forall_mem_cons.mpr ⟨lw_p19, List.forall_mem_cons.mpr ⟨lw_p20, List.forall_mem_cons.mpr ⟨lw_p21, List.forall_mem_cons.mpr ⟨lw_p22, List.forall_mem_cons.mpr ⟨lw_p23, List.forall_mem_cons.mpr ⟨lw_p24, List.forall_mem_cons.mpr ⟨lw_p25, List.forall_mem_cons.mpr ⟨lw_p26, List.forall_mem_cons.mpr ⟨lw_p27, List.forall_mem_cons.mpr ⟨lw_p28, List.forall_mem_cons.mpr ⟨lw_p29, List.forall_mem_cons.mpr ⟨lw_p30, List.forall_mem_cons.mpr ⟨lw_p31, fun _ h => absurd h List.not_mem_nil⟩⟩⟩⟩⟩⟩⟩⟩⟩⟩⟩⟩⟩⟩⟩⟩
theorem lw_p32 : lw_okq (⟨"ArsenalRowModel", "isFirst", "(II)Z"⟩, 65) := ⟨⟨by decide +kernel, by decide +kernel⟩, List.mem_of_getElem? (i := 908) (by decide +kernel), List.mem_of_getElem? (i := 1220) (by decide +kernel), List.mem_of_getElem? (i := 1221) (by decide +kernel)⟩
theorem lw_p33 : lw_okq (⟨"ArsenalRowModel", "takeGoods", "(I)V"⟩, 65) := ⟨⟨by decide +kernel, by decide +kernel⟩, List.mem_of_getElem? (i := 908) (by decide +kernel), List.mem_of_getElem? (i := 1224) (by decide +kernel), List.mem_of_getElem? (i := 1225) (by decide +kernel)⟩
theorem lw_p34 : lw_okq (⟨"ArsenalRowModel", "workAll", "()V"⟩, 65) := ⟨⟨by decide +kernel, by decide +kernel⟩, List.mem_of_getElem? (i := 908) (by decide +kernel), List.mem_of_getElem? (i := 1228) (by decide +kernel), List.mem_of_getElem? (i := 1229) (by decide +kernel)⟩
theorem lw_p35 : lw_okq (⟨"ArsenalRowModel", "payAll", "()V"⟩, 65) := ⟨⟨by decide +kernel, by decide +kernel⟩, List.mem_of_getElem? (i := 908) (by decide +kernel), List.mem_of_getElem? (i := 1232) (by decide +kernel), List.mem_of_getElem? (i := 1233) (by decide +kernel)⟩
theorem lw_p36 : lw_okq (⟨"ArsenalRowModel", "findMatch", "(I)V"⟩, 65) := ⟨⟨by decide +kernel, by decide +kernel⟩, List.mem_of_getElem? (i := 908) (by decide +kernel), List.mem_of_getElem? (i := 1256) (by decide +kernel), List.mem_of_getElem? (i := 1257) (by decide +kernel)⟩
theorem lw_p37 : lw_okq (⟨"ArsenalRowModel", "solve", "(II)V"⟩, 65) := ⟨⟨by decide +kernel, by decide +kernel⟩, List.mem_of_getElem? (i := 908) (by decide +kernel), List.mem_of_getElem? (i := 1260) (by decide +kernel), List.mem_of_getElem? (i := 1261) (by decide +kernel)⟩
theorem lw_p38 : lw_okq (⟨"ArsenalRowModel", "fits", "(II)Z"⟩, 65) := ⟨⟨by decide +kernel, by decide +kernel⟩, List.mem_of_getElem? (i := 908) (by decide +kernel), List.mem_of_getElem? (i := 1264) (by decide +kernel), List.mem_of_getElem? (i := 1265) (by decide +kernel)⟩
theorem lw_p39 : lw_okq (⟨"ArsenalRowModel", "spanOf", "(I)J"⟩, 65) := ⟨⟨by decide +kernel, by decide +kernel⟩, List.mem_of_getElem? (i := 908) (by decide +kernel), List.mem_of_getElem? (i := 1295) (by decide +kernel), List.mem_of_getElem? (i := 1296) (by decide +kernel)⟩
theorem lw_p40 : lw_okq (⟨"ArsenalRowModel", "aside", "(Z)V"⟩, 65) := ⟨⟨by decide +kernel, by decide +kernel⟩, List.mem_of_getElem? (i := 908) (by decide +kernel), List.mem_of_getElem? (i := 1303) (by decide +kernel), List.mem_of_getElem? (i := 1304) (by decide +kernel)⟩
theorem lw_p41 : lw_okq (⟨"ArsenalRowModel", "swap", "(IIZ)I"⟩, 65) := ⟨⟨by decide +kernel, by decide +kernel⟩, List.mem_of_getElem? (i := 908) (by decide +kernel), List.mem_of_getElem? (i := 1307) (by decide +kernel), List.mem_of_getElem? (i := 1308) (by decide +kernel)⟩
theorem lw_p42 : lw_okq (⟨"ArsenalRowModel", "goAhead", "()V"⟩, 65) := ⟨⟨by decide +kernel, by decide +kernel⟩, List.mem_of_getElem? (i := 908) (by decide +kernel), List.mem_of_getElem? (i := 1311) (by decide +kernel), List.mem_of_getElem? (i := 1312) (by decide +kernel)⟩
theorem lw_p43 : lw_okq (⟨"ArsenalRowModel", "ask", "()Z"⟩, 65) := ⟨⟨by decide +kernel, by decide +kernel⟩, List.mem_of_getElem? (i := 908) (by decide +kernel), List.mem_of_getElem? (i := 1326) (by decide +kernel), List.mem_of_getElem? (i := 1327) (by decide +kernel)⟩
theorem lw_p44 : lw_okq (⟨"ArsenalRowModel", "findLeast", "()I"⟩, 65) := ⟨⟨by decide +kernel, by decide +kernel⟩, List.mem_of_getElem? (i := 908) (by decide +kernel), List.mem_of_getElem? (i := 1330) (by decide +kernel), List.mem_of_getElem? (i := 1331) (by decide +kernel)⟩
theorem lw_p45 : lw_okq (⟨"ArsenalRowModel", "findOrder", "(I)V"⟩, 65) := ⟨⟨by decide +kernel, by decide +kernel⟩, List.mem_of_getElem? (i := 908) (by decide +kernel), List.mem_of_getElem? (i := 1334) (by decide +kernel), List.mem_of_getElem? (i := 1335) (by decide +kernel)⟩
def lw_privs_3 : List (MethodName × Nat) := [(⟨"ArsenalRowModel", "isFirst", "(II)Z"⟩, 65), (⟨"ArsenalRowModel", "takeGoods", "(I)V"⟩, 65), (⟨"ArsenalRowModel", "workAll", "()V"⟩, 65), (⟨"ArsenalRowModel", "payAll", "()V"⟩, 65), (⟨"ArsenalRowModel", "findMatch", "(I)V"⟩, 65), (⟨"ArsenalRowModel", "solve", "(II)V"⟩, 65), (⟨"ArsenalRowModel", "fits", "(II)Z"⟩, 65), (⟨"ArsenalRowModel", "spanOf", "(I)J"⟩, 65), (⟨"ArsenalRowModel", "aside", "(Z)V"⟩, 65), (⟨"ArsenalRowModel", "swap", "(IIZ)I"⟩, 65), (⟨"ArsenalRowModel", "goAhead", "()V"⟩, 65), (⟨"ArsenalRowModel", "ask", "()Z"⟩, 65), (⟨"ArsenalRowModel", "findLeast", "()I"⟩, 65), (⟨"ArsenalRowModel", "findOrder", "(I)V"⟩, 65)]
theorem lw_r3 : ∀ q ∈ lw_privs_3, lw_okq q := List.forall_mem_cons.mpr ⟨lw_p32, List.forall_mem_cons.mpr ⟨lw_p33, List.forall_mem_cons.mpr ⟨lw_p34, List.forall_mem_cons.mpr ⟨lw_p35, List.forall_mem_cons.mpr ⟨lw_p36, List.forall_mem_cons.mpr ⟨lw_p37, List.forall_mem_cons.mpr ⟨lw_p38, List.forall_mem_cons.mpr ⟨lw_p39, List.forall_mem_cons.mpr ⟨lw_p40, List.forall_mem_cons.mpr ⟨lw_p41, List.forall_mem_cons.mpr ⟨lw_p42, List.forall_mem_cons.mpr ⟨lw_p43, List.forall_mem_cons.mpr ⟨lw_p44, List.forall_mem_cons.mpr ⟨lw_p45, fun _ h => absurd h List.not_mem_nil⟩⟩⟩⟩⟩⟩⟩⟩⟩⟩⟩⟩⟩⟩
def lw_privs : List (MethodName × Nat) := lw_privs_1 ++ (lw_privs_2 ++ (lw_privs_3))
def lw_tbl : List Cond := k2_sels lw_privs ++ tables_1
theorem lw_privs_ok : ∀ q ∈ lw_privs, lw_okq q := by
  show ∀ q ∈ lw_privs_1 ++ (lw_privs_2 ++ (lw_privs_3)), lw_okq q
  exact List.forall_mem_append.mpr ⟨lw_r1, List.forall_mem_append.mpr ⟨lw_r2, lw_r3⟩⟩
def RX0 : String := "ArsenalRow$Almanac"
def TX0 : u_T := fun k => match k with
  | 0 => ("ArsenalRow$Almanac", "hands", "[I", true)
  | 1 => ("ArsenalRow$Almanac", "crowds", "[I", true)
  | 2 => ("ArsenalRow$Almanac", "wages", "[I", true)
  | _ => ("ArsenalRow$Almanac", "wines", "[I", true)
def tyX0 : Nat → FieldType := fun k => match k with
  | 0 => .array .int
  | 1 => .array .int
  | 2 => .array .int
  | _ => .array .int
abbrev wsX00 : List Cond := u_ws RX0 TX0 4
theorem nmX0 : ∀ a, a < 4 → ∀ b, b < 4 → a ≠ b → (TX0 a).2.1 ≠ (TX0 b).2.1 := by decide +kernel
theorem tyX0_ok : ∀ k, k < 4 → parseFieldDescriptor (TX0 k).2.2.1 = some (tyX0 k) := by decide +kernel
abbrev cX0_init : ByteArray := prog_2_method_1_code
def yX0_init : MethodName := ⟨RX0, "<init>", "(I)V"⟩
abbrev cX0_write : ByteArray := prog_2_method_2_code
def yX0_write : MethodName := ⟨RX0, "write", "(IILArsenalRow$Crews;LArsenalRow$Decrees;)V"⟩
def RX1 : String := "ArsenalRow$Crews"
def TX1 : u_T := fun k => match k with
  | 0 => ("ArsenalRow$Crews", "toldHands", "[I", true)
  | 1 => ("ArsenalRow$Crews", "leaders", "[I", true)
  | 2 => ("ArsenalRow$Crews", "rosters", "[[I", true)
  | _ => ("ArsenalRow$Crews", "lengths", "[I", true)
def tyX1 : Nat → FieldType := fun k => match k with
  | 0 => .array .int
  | 1 => .array .int
  | 2 => .array (.array .int)
  | _ => .array .int
abbrev wsX10 : List Cond := u_ws RX1 TX1 4
theorem nmX1 : ∀ a, a < 4 → ∀ b, b < 4 → a ≠ b → (TX1 a).2.1 ≠ (TX1 b).2.1 := by decide +kernel
theorem tyX1_ok : ∀ k, k < 4 → parseFieldDescriptor (TX1 k).2.2.1 = some (tyX1 k) := by decide +kernel
abbrev cX1_init : ByteArray := prog_3_method_1_code
def yX1_init : MethodName := ⟨RX1, "<init>", "()V"⟩
abbrev cX1_isMissing : ByteArray := prog_3_method_2_code
def yX1_isMissing : MethodName := ⟨RX1, "isMissing", "(I)Z"⟩
abbrev cX1_hasPlaces : ByteArray := prog_3_method_3_code
def yX1_hasPlaces : MethodName := ⟨RX1, "hasPlaces", "(III)Z"⟩
abbrev cX1_handsOfDay : ByteArray := prog_3_method_4_code
def yX1_handsOfDay : MethodName := ⟨RX1, "handsOfDay", "(II)I"⟩
def RX2 : String := "ArsenalRow$Decrees"
def TX2 : u_T := fun k => match k with
  | 0 => ("ArsenalRow$Decrees", "size", "I", false)
  | 1 => ("ArsenalRow$Decrees", "slots", "[I", true)
  | 2 => ("ArsenalRow$Decrees", "numbers", "[I", true)
  | 3 => ("ArsenalRow$Decrees", "days", "[I", true)
  | 4 => ("ArsenalRow$Decrees", "standing", "[I", true)
  | _ => ("ArsenalRow$Decrees", "next", "I", false)
def tyX2 : Nat → FieldType := fun k => match k with
  | 0 => .int
  | 1 => .array .int
  | 2 => .array .int
  | 3 => .array .int
  | 4 => .array .int
  | _ => .int
abbrev wsX20 : List Cond := u_ws RX2 TX2 6
theorem nmX2 : ∀ a, a < 6 → ∀ b, b < 6 → a ≠ b → (TX2 a).2.1 ≠ (TX2 b).2.1 := by decide +kernel
theorem tyX2_ok : ∀ k, k < 6 → parseFieldDescriptor (TX2 k).2.2.1 = some (tyX2 k) := by decide +kernel
abbrev cX2_init : ByteArray := prog_4_method_1_code
def yX2_init : MethodName := ⟨RX2, "<init>", "()V"⟩
abbrev cX2_slotOf : ByteArray := prog_4_method_2_code
def yX2_slotOf : MethodName := ⟨RX2, "slotOf", "(II)I"⟩
abbrev cX2_insert : ByteArray := prog_4_method_3_code
def yX2_insert : MethodName := ⟨RX2, "insert", "(III)V"⟩
abbrev cX2_rewind : ByteArray := prog_4_method_4_code
def yX2_rewind : MethodName := ⟨RX2, "rewind", "()V"⟩
abbrev cX2_goOnTo : ByteArray := prog_4_method_5_code
def yX2_goOnTo : MethodName := ⟨RX2, "goOnTo", "(I)V"⟩
abbrev cX2_inForce : ByteArray := prog_4_method_6_code
def yX2_inForce : MethodName := ⟨RX2, "inForce", "(II)I"⟩
def RX3 : String := "ArsenalRow$Grove"
def TX3 : u_T := fun k => match k with
  | 0 => ("ArsenalRow$Grove", "size", "I", false)
  | 1 => ("ArsenalRow$Grove", "woods", "[I", true)
  | 2 => ("ArsenalRow$Grove", "bends", "[I", true)
  | 3 => ("ArsenalRow$Grove", "girths", "[I", true)
  | 4 => ("ArsenalRow$Grove", "hulls", "[I", true)
  | 5 => ("ArsenalRow$Grove", "places", "[I", true)
  | _ => ("ArsenalRow$Grove", "growths", "[I", true)
def tyX3 : Nat → FieldType := fun k => match k with
  | 0 => .int
  | 1 => .array .int
  | 2 => .array .int
  | 3 => .array .int
  | 4 => .array .int
  | 5 => .array .int
  | _ => .array .int
abbrev wsX30 : List Cond := u_ws RX3 TX3 7
theorem nmX3 : ∀ a, a < 7 → ∀ b, b < 7 → a ≠ b → (TX3 a).2.1 ≠ (TX3 b).2.1 := by decide +kernel
theorem tyX3_ok : ∀ k, k < 7 → parseFieldDescriptor (TX3 k).2.2.1 = some (tyX3 k) := by decide +kernel
abbrev cX3_init : ByteArray := prog_5_method_1_code
def yX3_init : MethodName := ⟨RX3, "<init>", "()V"⟩
abbrev cX3_plant : ByteArray := prog_5_method_2_code
def yX3_plant : MethodName := ⟨RX3, "plant", "(III)I"⟩
abbrev cX3_stands : ByteArray := prog_5_method_3_code
def yX3_stands : MethodName := ⟨RX3, "stands", "(I)Z"⟩
abbrev cX3_standing : ByteArray := prog_5_method_4_code
def yX3_standing : MethodName := ⟨RX3, "standing", "()I"⟩
abbrev cX3_grow : ByteArray := prog_5_method_5_code
def yX3_grow : MethodName := ⟨RX3, "grow", "()V"⟩
abbrev cX3_fellFor : ByteArray := prog_5_method_6_code
def yX3_fellFor : MethodName := ⟨RX3, "fellFor", "(III)V"⟩
abbrev cX3_felledFor : ByteArray := prog_5_method_7_code
def yX3_felledFor : MethodName := ⟨RX3, "felledFor", "(II)I"⟩
def RX4 : String := "ArsenalRow$Hull"
def TX4 : u_T := fun k => match k with
  | 0 => ("ArsenalRow$Hull", "sort", "I", false)
  | 1 => ("ArsenalRow$Hull", "rank", "I", false)
  | 2 => ("ArsenalRow$Hull", "due", "I", false)
  | 3 => ("ArsenalRow$Hull", "state", "I", false)
  | 4 => ("ArsenalRow$Hull", "basin", "I", false)
  | 5 => ("ArsenalRow$Hull", "craft", "I", false)
  | 6 => ("ArsenalRow$Hull", "work", "I", false)
  | 7 => ("ArsenalRow$Hull", "taken", "Z", false)
  | 8 => ("ArsenalRow$Hull", "lacks", "I", false)
  | 9 => ("ArsenalRow$Hull", "readySince", "I", false)
  | 10 => ("ArsenalRow$Hull", "felled", "Z", false)
  | 11 => ("ArsenalRow$Hull", "need", "[I", true)
  | _ => ("ArsenalRow$Hull", "neededInAll", "[I", true)
def tyX4 : Nat → FieldType := fun k => match k with
  | 0 => .int
  | 1 => .int
  | 2 => .int
  | 3 => .int
  | 4 => .int
  | 5 => .int
  | 6 => .int
  | 7 => .boolean
  | 8 => .int
  | 9 => .int
  | 10 => .boolean
  | 11 => .array .int
  | _ => .array .int
abbrev wsX40 : List Cond := u_ws RX4 TX4 13
theorem nmX4 : ∀ a, a < 13 → ∀ b, b < 13 → a ≠ b → (TX4 a).2.1 ≠ (TX4 b).2.1 := by decide +kernel
theorem tyX4_ok : ∀ k, k < 13 → parseFieldDescriptor (TX4 k).2.2.1 = some (tyX4 k) := by decide +kernel
abbrev cX4_init : ByteArray := prog_6_method_1_code
def yX4_init : MethodName := ⟨RX4, "<init>", "()V"⟩
abbrev cX4_isUnderWay : ByteArray := prog_6_method_2_code
def yX4_isUnderWay : MethodName := ⟨RX4, "isUnderWay", "()Z"⟩
abbrev cX4_begin : ByteArray := prog_6_method_3_code
def yX4_begin : MethodName := ⟨RX4, "begin", "(III)V"⟩
abbrev cX4_become : ByteArray := prog_6_method_4_code
def yX4_become : MethodName := ⟨RX4, "become", "(LArsenalRow$Hull;)V"⟩
abbrev cX4_enter : ByteArray := prog_6_method_5_code
def yX4_enter : MethodName := ⟨RX4, "enter", "(ILArsenalRow$Tasks;)V"⟩
abbrev cX4_leave : ByteArray := prog_6_method_6_code
def yX4_leave : MethodName := ⟨RX4, "leave", "(I)V"⟩
abbrev cX4_mayMoveOn : ByteArray := prog_6_method_7_code
def yX4_mayMoveOn : MethodName := ⟨RX4, "mayMoveOn", "()Z"⟩
def RX5 : String := "ArsenalRow$Ledger"
def TX5 : u_T := fun k => match k with
  | 0 => ("ArsenalRow$Ledger", "size", "I", false)
  | 1 => ("ArsenalRow$Ledger", "goods", "[I", true)
  | 2 => ("ArsenalRow$Ledger", "days", "[I", true)
  | 3 => ("ArsenalRow$Ledger", "gaps", "[I", true)
  | _ => ("ArsenalRow$Ledger", "begins", "[I", true)
def tyX5 : Nat → FieldType := fun k => match k with
  | 0 => .int
  | 1 => .array .int
  | 2 => .array .int
  | 3 => .array .int
  | _ => .array .int
abbrev wsX50 : List Cond := u_ws RX5 TX5 5
theorem nmX5 : ∀ a, a < 5 → ∀ b, b < 5 → a ≠ b → (TX5 a).2.1 ≠ (TX5 b).2.1 := by decide +kernel
theorem tyX5_ok : ∀ k, k < 5 → parseFieldDescriptor (TX5 k).2.2.1 = some (tyX5 k) := by decide +kernel
abbrev cX5_init : ByteArray := prog_7_method_1_code
def yX5_init : MethodName := ⟨RX5, "<init>", "()V"⟩
abbrev cX5_add : ByteArray := prog_7_method_2_code
def yX5_add : MethodName := ⟨RX5, "add", "(III)V"⟩
abbrev cX5_worstOf : ByteArray := prog_7_method_3_code
def yX5_worstOf : MethodName := ⟨RX5, "worstOf", "(I)I"⟩
abbrev cX5_isWorse : ByteArray := prog_7_method_4_code
def yX5_isWorse : MethodName := ⟨RX5, "isWorse", "(II)Z"⟩
abbrev cX5_spanOf : ByteArray := prog_7_method_5_code
def yX5_spanOf : MethodName := ⟨RX5, "spanOf", "(I)I"⟩
def RX6 : String := "ArsenalRow$Matching"
def TX6 : u_T := fun k => match k with
  | 0 => ("ArsenalRow$Matching", "matched", "I", false)
  | 1 => ("ArsenalRow$Matching", "waste", "I", false)
  | 2 => ("ArsenalRow$Matching", "treeOfPart", "[I", true)
  | 3 => ("ArsenalRow$Matching", "least", "[J", true)
  | _ => ("ArsenalRow$Matching", "changes", "[J", true)
def tyX6 : Nat → FieldType := fun k => match k with
  | 0 => .int
  | 1 => .int
  | 2 => .array .int
  | 3 => .array .long
  | _ => .array .long
abbrev wsX60 : List Cond := u_ws RX6 TX6 5
theorem nmX6 : ∀ a, a < 5 → ∀ b, b < 5 → a ≠ b → (TX6 a).2.1 ≠ (TX6 b).2.1 := by decide +kernel
theorem tyX6_ok : ∀ k, k < 5 → parseFieldDescriptor (TX6 k).2.2.1 = some (tyX6 k) := by decide +kernel
abbrev cX6_init : ByteArray := prog_8_method_1_code
def yX6_init : MethodName := ⟨RX6, "<init>", "()V"⟩
abbrev cX6_solve : ByteArray := prog_8_method_2_code
def yX6_solve : MethodName := ⟨RX6, "solve", "(LArsenalRow$Grove;LArsenalRow$Parts;I)V"⟩
abbrev cX6_lackingNumber : ByteArray := prog_8_method_3_code
def yX6_lackingNumber : MethodName := ⟨RX6, "lackingNumber", "(I)J"⟩
abbrev cX6_fitting : ByteArray := prog_8_method_4_code
def yX6_fitting : MethodName := ⟨RX6, "fitting", "(LArsenalRow$Grove;ILArsenalRow$Parts;I)I"⟩
abbrev cX6_offer : ByteArray := prog_8_method_5_code
def yX6_offer : MethodName := ⟨RX6, "offer", "(II)V"⟩
abbrev cX6_readOff : ByteArray := prog_8_method_6_code
def yX6_readOff : MethodName := ⟨RX6, "readOff", "(JI)V"⟩
def RX7 : String := "ArsenalRow$Outlook"
def TX7 : u_T := fun k => match k with
  | 0 => ("ArsenalRow$Outlook", "leastSum", "I", false)
  | 1 => ("ArsenalRow$Outlook", "leastOrder", "[I", true)
  | 2 => ("ArsenalRow$Outlook", "ordered", "I", false)
  | 3 => ("ArsenalRow$Outlook", "from", "I", false)
  | 4 => ("ArsenalRow$Outlook", "almanac", "LArsenalRow$Almanac;", true)
  | 5 => ("ArsenalRow$Outlook", "lastRows", "[I", true)
  | 6 => ("ArsenalRow$Outlook", "trial", "LArsenalRow$Yard;", true)
  | 7 => ("ArsenalRow$Outlook", "readyDays", "[I", true)
  | 8 => ("ArsenalRow$Outlook", "tried", "[I", true)
  | 9 => ("ArsenalRow$Outlook", "almanacKnown", "Z", false)
  | 10 => ("ArsenalRow$Outlook", "readyKnown", "Z", false)
  | _ => ("ArsenalRow$Outlook", "leastKnown", "Z", false)
def tyX7 : Nat → FieldType := fun k => match k with
  | 0 => .int
  | 1 => .array .int
  | 2 => .int
  | 3 => .int
  | 4 => .object "ArsenalRow$Almanac"
  | 5 => .array .int
  | 6 => .object "ArsenalRow$Yard"
  | 7 => .array .int
  | 8 => .array .int
  | 9 => .boolean
  | 10 => .boolean
  | _ => .boolean
abbrev wsX70 : List Cond := u_ws RX7 TX7 12
theorem nmX7 : ∀ a, a < 12 → ∀ b, b < 12 → a ≠ b → (TX7 a).2.1 ≠ (TX7 b).2.1 := by decide +kernel
theorem tyX7_ok : ∀ k, k < 12 → parseFieldDescriptor (TX7 k).2.2.1 = some (tyX7 k) := by decide +kernel
abbrev cX7_init : ByteArray := prog_9_method_1_code
def yX7_init : MethodName := ⟨RX7, "<init>", "()V"⟩
abbrev cX7_forget : ByteArray := prog_9_method_2_code
def yX7_forget : MethodName := ⟨RX7, "forget", "()V"⟩
abbrev cX7_standAt : ByteArray := prog_9_method_3_code
def yX7_standAt : MethodName := ⟨RX7, "standAt", "(ILArsenalRow$Crews;LArsenalRow$Decrees;)V"⟩
abbrev cX7_readyDay : ByteArray := prog_9_method_4_code
def yX7_readyDay : MethodName := ⟨RX7, "readyDay", "(ILArsenalRow$Yard;LArsenalRow$Tasks;)I"⟩
abbrev cX7_findLeast : ByteArray := prog_9_method_5_code
def yX7_findLeast : MethodName := ⟨RX7, "findLeast", "(LArsenalRow$Yard;LArsenalRow$Tasks;)V"⟩
abbrev cX7_gatherByNumbers : ByteArray := prog_9_method_6_code
def yX7_gatherByNumbers : MethodName := ⟨RX7, "gatherByNumbers", "(LArsenalRow$Yard;)V"⟩
abbrev cX7_sumOfLate : ByteArray := prog_9_method_7_code
def yX7_sumOfLate : MethodName := ⟨RX7, "sumOfLate", "()I"⟩
abbrev cX7_nextOrder : ByteArray := prog_9_method_8_code
def yX7_nextOrder : MethodName := ⟨RX7, "nextOrder", "()V"⟩
abbrev cX7_swapTried : ByteArray := prog_9_method_9_code
def yX7_swapTried : MethodName := ⟨RX7, "swapTried", "(II)V"⟩
abbrev cX7_tryOut : ByteArray := prog_9_method_10_code
def yX7_tryOut : MethodName := ⟨RX7, "tryOut", "(LArsenalRow$Yard;[IILArsenalRow$Tasks;)V"⟩
abbrev cX7_workIsAhead : ByteArray := prog_9_method_11_code
def yX7_workIsAhead : MethodName := ⟨RX7, "workIsAhead", "(I)Z"⟩
def RX8 : String := "ArsenalRow$Parts"
def TX8 : u_T := fun k => match k with
  | 0 => ("ArsenalRow$Parts", "sizes", "[I", true)
  | 1 => ("ArsenalRow$Parts", "woods", "[I", true)
  | 2 => ("ArsenalRow$Parts", "bends", "[I", true)
  | 3 => ("ArsenalRow$Parts", "spans", "[I", true)
  | _ => ("ArsenalRow$Parts", "girths", "[I", true)
def tyX8 : Nat → FieldType := fun k => match k with
  | 0 => .array .int
  | 1 => .array .int
  | 2 => .array .int
  | 3 => .array .int
  | _ => .array .int
abbrev wsX80 : List Cond := u_ws RX8 TX8 5
theorem nmX8 : ∀ a, a < 5 → ∀ b, b < 5 → a ≠ b → (TX8 a).2.1 ≠ (TX8 b).2.1 := by decide +kernel
theorem tyX8_ok : ∀ k, k < 5 → parseFieldDescriptor (TX8 k).2.2.1 = some (tyX8 k) := by decide +kernel
abbrev cX8_init : ByteArray := prog_10_method_1_code
def yX8_init : MethodName := ⟨RX8, "<init>", "()V"⟩
abbrev cX8_add : ByteArray := prog_10_method_2_code
def yX8_add : MethodName := ⟨RX8, "add", "(IIIII)I"⟩
def RX9 : String := "ArsenalRow$Tasks"
def TX9 : u_T := fun k => match k with
  | 0 => ("ArsenalRow$Tasks", "craft", "[[I", true)
  | 1 => ("ArsenalRow$Tasks", "work", "[[I", true)
  | _ => ("ArsenalRow$Tasks", "need", "[[I", true)
def tyX9 : Nat → FieldType := fun k => match k with
  | 0 => .array (.array .int)
  | 1 => .array (.array .int)
  | _ => .array (.array .int)
abbrev wsX90 : List Cond := u_ws RX9 TX9 3
theorem nmX9 : ∀ a, a < 3 → ∀ b, b < 3 → a ≠ b → (TX9 a).2.1 ≠ (TX9 b).2.1 := by decide +kernel
theorem tyX9_ok : ∀ k, k < 3 → parseFieldDescriptor (TX9 k).2.2.1 = some (tyX9 k) := by decide +kernel
abbrev cX9_init : ByteArray := prog_11_method_1_code
def yX9_init : MethodName := ⟨RX9, "<init>", "()V"⟩
def RX10 : String := "ArsenalRow$Yard"
def TX10 : u_T := fun k => match k with
  | 0 => ("ArsenalRow$Yard", "stock", "[I", true)
  | 1 => ("ArsenalRow$Yard", "berths", "[I", true)
  | 2 => ("ArsenalRow$Yard", "planks", "[I", true)
  | 3 => ("ArsenalRow$Yard", "hulls", "[LArsenalRow$Hull;", true)
  | 4 => ("ArsenalRow$Yard", "hullCount", "I", false)
  | 5 => ("ArsenalRow$Yard", "line", "[I", true)
  | 6 => ("ArsenalRow$Yard", "lineLength", "I", false)
  | 7 => ("ArsenalRow$Yard", "paid", "I", false)
  | 8 => ("ArsenalRow$Yard", "dry", "I", false)
  | 9 => ("ArsenalRow$Yard", "idle", "I", false)
  | 10 => ("ArsenalRow$Yard", "stirred", "Z", false)
  | _ => ("ArsenalRow$Yard", "handsLeft", "[I", true)
def tyX10 : Nat → FieldType := fun k => match k with
  | 0 => .array .int
  | 1 => .array .int
  | 2 => .array .int
  | 3 => .array (.object "ArsenalRow$Hull")
  | 4 => .int
  | 5 => .array .int
  | 6 => .int
  | 7 => .int
  | 8 => .int
  | 9 => .int
  | 10 => .boolean
  | _ => .array .int
abbrev wsX100 : List Cond := u_ws RX10 TX10 12
theorem nmX10 : ∀ a, a < 12 → ∀ b, b < 12 → a ≠ b → (TX10 a).2.1 ≠ (TX10 b).2.1 := by decide +kernel
theorem tyX10_ok : ∀ k, k < 12 → parseFieldDescriptor (TX10 k).2.2.1 = some (tyX10 k) := by decide +kernel
abbrev cX10_init : ByteArray := prog_12_method_1_code
def yX10_init : MethodName := ⟨RX10, "<init>", "()V"⟩
abbrev cX10_addHull : ByteArray := prog_12_method_2_code
def yX10_addHull : MethodName := ⟨RX10, "addHull", "(III)I"⟩
abbrev cX10_countOf : ByteArray := prog_12_method_3_code
def yX10_countOf : MethodName := ⟨RX10, "countOf", "(I)I"⟩
abbrev cX10_store : ByteArray := prog_12_method_4_code
def yX10_store : MethodName := ⟨RX10, "store", "(II)I"⟩
abbrev cX10_lineUp : ByteArray := prog_12_method_5_code
def yX10_lineUp : MethodName := ⟨RX10, "lineUp", "()V"⟩
abbrev cX10_become : ByteArray := prog_12_method_6_code
def yX10_become : MethodName := ⟨RX10, "become", "(LArsenalRow$Yard;[II)V"⟩
abbrev cX10_passDay : ByteArray := prog_12_method_7_code
def yX10_passDay : MethodName := ⟨RX10, "passDay", "(ILArsenalRow$Almanac;ILArsenalRow$Tasks;)I"⟩
abbrev cX10_moveOn : ByteArray := prog_12_method_8_code
def yX10_moveOn : MethodName := ⟨RX10, "moveOn", "(ILArsenalRow$Tasks;)I"⟩
abbrev cX10_letIn : ByteArray := prog_12_method_9_code
def yX10_letIn : MethodName := ⟨RX10, "letIn", "(LArsenalRow$Tasks;)V"⟩
abbrev cX10_berth : ByteArray := prog_12_method_10_code
def yX10_berth : MethodName := ⟨RX10, "berth", "(IILArsenalRow$Tasks;)V"⟩
abbrev cX10_takeGoods : ByteArray := prog_12_method_11_code
def yX10_takeGoods : MethodName := ⟨RX10, "takeGoods", "()V"⟩
abbrev cX10_hasAll : ByteArray := prog_12_method_12_code
def yX10_hasAll : MethodName := ⟨RX10, "hasAll", "([I)Z"⟩
abbrev cX10_doWork : ByteArray := prog_12_method_13_code
def yX10_doWork : MethodName := ⟨RX10, "doWork", "([III)V"⟩
abbrev cX10_drink : ByteArray := prog_12_method_14_code
def yX10_drink : MethodName := ⟨RX10, "drink", "(I)V"⟩
def RX11 : String := "ArsenalRow"
def TX11 : u_T := fun k => match k with
  | 0 => ("ArsenalRow", "day", "I", false)
  | 1 => ("ArsenalRow", "refusals", "[I", true)
  | 2 => ("ArsenalRow", "crews", "LArsenalRow$Crews;", true)
  | 3 => ("ArsenalRow", "decrees", "LArsenalRow$Decrees;", true)
  | 4 => ("ArsenalRow", "tasks", "LArsenalRow$Tasks;", true)
  | 5 => ("ArsenalRow", "yard", "LArsenalRow$Yard;", true)
  | 6 => ("ArsenalRow", "grove", "LArsenalRow$Grove;", true)
  | 7 => ("ArsenalRow", "parts", "LArsenalRow$Parts;", true)
  | 8 => ("ArsenalRow", "matching", "LArsenalRow$Matching;", true)
  | 9 => ("ArsenalRow", "ledger", "LArsenalRow$Ledger;", true)
  | 10 => ("ArsenalRow", "today", "LArsenalRow$Almanac;", true)
  | _ => ("ArsenalRow", "outlook", "LArsenalRow$Outlook;", true)
def tyX11 : Nat → FieldType := fun k => match k with
  | 0 => .int
  | 1 => .array .int
  | 2 => .object "ArsenalRow$Crews"
  | 3 => .object "ArsenalRow$Decrees"
  | 4 => .object "ArsenalRow$Tasks"
  | 5 => .object "ArsenalRow$Yard"
  | 6 => .object "ArsenalRow$Grove"
  | 7 => .object "ArsenalRow$Parts"
  | 8 => .object "ArsenalRow$Matching"
  | 9 => .object "ArsenalRow$Ledger"
  | 10 => .object "ArsenalRow$Almanac"
  | _ => .object "ArsenalRow$Outlook"
abbrev wsX110 : List Cond := u_ws RX11 TX11 12
theorem nmX11 : ∀ a, a < 12 → ∀ b, b < 12 → a ≠ b → (TX11 a).2.1 ≠ (TX11 b).2.1 := by decide +kernel
theorem tyX11_ok : ∀ k, k < 12 → parseFieldDescriptor (TX11 k).2.2.1 = some (tyX11 k) := by decide +kernel
abbrev cX11_init : ByteArray := prog_1_method_1_code
def yX11_init : MethodName := ⟨RX11, "<init>", "()V"⟩
abbrev cX11_hands : ByteArray := prog_1_method_2_code
def yX11_hands : MethodName := ⟨RX11, "hands", "(II)I"⟩
abbrev cX11_bring : ByteArray := prog_1_method_3_code
def yX11_bring : MethodName := ⟨RX11, "bring", "(II)I"⟩
abbrev cX11_row : ByteArray := prog_1_method_4_code
def yX11_row : MethodName := ⟨RX11, "row", "(II)I"⟩
abbrev cX11_lose : ByteArray := prog_1_method_5_code
def yX11_lose : MethodName := ⟨RX11, "lose", "(I)I"⟩
abbrev cX11_put : ByteArray := prog_1_method_6_code
def yX11_put : MethodName := ⟨RX11, "put", "(III)I"⟩
abbrev cX11_copy : ByteArray := prog_1_method_7_code
def yX11_copy : MethodName := ⟨RX11, "copy", "(IIIII)I"⟩
abbrev cX11_lead : ByteArray := prog_1_method_8_code
def yX11_lead : MethodName := ⟨RX11, "lead", "(II)I"⟩
abbrev cX11_handsOn : ByteArray := prog_1_method_9_code
def yX11_handsOn : MethodName := ⟨RX11, "handsOn", "(II)I"⟩
abbrev cX11_decree : ByteArray := prog_1_method_10_code
def yX11_decree : MethodName := ⟨RX11, "decree", "(IIII)I"⟩
abbrev cX11_force : ByteArray := prog_1_method_11_code
def yX11_force : MethodName := ⟨RX11, "force", "(III)I"⟩
abbrev cX11_task : ByteArray := prog_1_method_12_code
def yX11_task : MethodName := ⟨RX11, "task", "(IIII)I"⟩
abbrev cX11_needs : ByteArray := prog_1_method_13_code
def yX11_needs : MethodName := ⟨RX11, "needs", "(IIII)I"⟩
abbrev cX11_hull : ByteArray := prog_1_method_14_code
def yX11_hull : MethodName := ⟨RX11, "hull", "(III)I"⟩
abbrev cX11_priority : ByteArray := prog_1_method_15_code
def yX11_priority : MethodName := ⟨RX11, "priority", "(II)I"⟩
abbrev cX11_raft : ByteArray := prog_1_method_16_code
def yX11_raft : MethodName := ⟨RX11, "raft", "(II)I"⟩
abbrev cX11_unraft : ByteArray := prog_1_method_17_code
def yX11_unraft : MethodName := ⟨RX11, "unraft", "(I)I"⟩
abbrev cX11_days : ByteArray := prog_1_method_18_code
def yX11_days : MethodName := ⟨RX11, "days", "(I)I"⟩
abbrev cX11_breakUp : ByteArray := prog_1_method_19_code
def yX11_breakUp : MethodName := ⟨RX11, "breakUp", "(I)I"⟩
abbrev cX11_growth : ByteArray := prog_1_method_20_code
def yX11_growth : MethodName := ⟨RX11, "growth", "(II)I"⟩
abbrev cX11_tree : ByteArray := prog_1_method_21_code
def yX11_tree : MethodName := ⟨RX11, "tree", "(III)I"⟩
abbrev cX11_part : ByteArray := prog_1_method_22_code
def yX11_part : MethodName := ⟨RX11, "part", "(IIIII)I"⟩
abbrev cX11_match : ByteArray := prog_1_method_23_code
def yX11_match : MethodName := ⟨RX11, "match", "(II)I"⟩
abbrev cX11_fell : ByteArray := prog_1_method_24_code
def yX11_fell : MethodName := ⟨RX11, "fell", "(I)I"⟩
abbrev cX11_treeFor : ByteArray := prog_1_method_25_code
def yX11_treeFor : MethodName := ⟨RX11, "treeFor", "(II)I"⟩
abbrev cX11_treeOf : ByteArray := prog_1_method_26_code
def yX11_treeOf : MethodName := ⟨RX11, "treeOf", "(II)I"⟩
abbrev cX11_count : ByteArray := prog_1_method_27_code
def yX11_count : MethodName := ⟨RX11, "count", "(II)I"⟩
abbrev cX11_gap : ByteArray := prog_1_method_28_code
def yX11_gap : MethodName := ⟨RX11, "gap", "(II)I"⟩
abbrev cX11_worst : ByteArray := prog_1_method_29_code
def yX11_worst : MethodName := ⟨RX11, "worst", "(I)I"⟩
abbrev cX11_ready : ByteArray := prog_1_method_30_code
def yX11_ready : MethodName := ⟨RX11, "ready", "(I)I"⟩
abbrev cX11_late : ByteArray := prog_1_method_31_code
def yX11_late : MethodName := ⟨RX11, "late", "(I)I"⟩
abbrev cX11_least : ByteArray := prog_1_method_32_code
def yX11_least : MethodName := ⟨RX11, "least", "()I"⟩
abbrev cX11_order : ByteArray := prog_1_method_33_code
def yX11_order : MethodName := ⟨RX11, "order", "(I)I"⟩
abbrev cX11_hullOf : ByteArray := prog_1_method_34_code
def yX11_hullOf : MethodName := ⟨RX11, "hullOf", "(II)I"⟩
abbrev cX11_basinOf : ByteArray := prog_1_method_35_code
def yX11_basinOf : MethodName := ⟨RX11, "basinOf", "(II)I"⟩
abbrev cX11_stock : ByteArray := prog_1_method_36_code
def yX11_stock : MethodName := ⟨RX11, "stock", "(I)I"⟩
abbrev cX11_told : ByteArray := prog_1_method_37_code
def yX11_told : MethodName := ⟨RX11, "told", "(I)I"⟩
abbrev cX11_within : ByteArray := prog_1_method_38_code
def yX11_within : MethodName := ⟨RX11, "within", "(II)Z"⟩
abbrev cX11_outside : ByteArray := prog_1_method_39_code
def yX11_outside : MethodName := ⟨RX11, "outside", "(III)I"⟩
abbrev cX11_isHull : ByteArray := prog_1_method_40_code
def yX11_isHull : MethodName := ⟨RX11, "isHull", "(I)Z"⟩
abbrev cX11_refused : ByteArray := prog_1_method_41_code
def yX11_refused : MethodName := ⟨RX11, "refused", "(I)I"⟩
abbrev cX11_refusedAside : ByteArray := prog_1_method_42_code
def yX11_refusedAside : MethodName := ⟨RX11, "refusedAside", "(I)I"⟩
abbrev cX11_readyAhead : ByteArray := prog_1_method_43_code
def yX11_readyAhead : MethodName := ⟨RX11, "readyAhead", "(I)I"⟩
abbrev cX11_findOrder : ByteArray := prog_1_method_44_code
def yX11_findOrder : MethodName := ⟨RX11, "findOrder", "()Z"⟩
abbrev cX11_lateness : ByteArray := prog_1_method_45_code
def yX11_lateness : MethodName := ⟨RX11, "lateness", "(III)I"⟩
def RX12 : String := "ArsenalRowModel"
def TX12 : u_T := fun k => match k with
  | 0 => ("ArsenalRowModel", "day", "I", false)
  | 1 => ("ArsenalRowModel", "hands", "[I", true)
  | 2 => ("ArsenalRowModel", "led", "[I", true)
  | 3 => ("ArsenalRowModel", "rosterSize", "[I", true)
  | 4 => ("ArsenalRowModel", "roster", "[I", true)
  | 5 => ("ArsenalRowModel", "stock", "[I", true)
  | 6 => ("ArsenalRowModel", "decrees", "I", false)
  | 7 => ("ArsenalRowModel", "decreeKind", "[I", true)
  | 8 => ("ArsenalRowModel", "decreeCraft", "[I", true)
  | 9 => ("ArsenalRowModel", "decreeNumber", "[I", true)
  | 10 => ("ArsenalRowModel", "decreeDay", "[I", true)
  | 11 => ("ArsenalRowModel", "taskCraft", "[I", true)
  | 12 => ("ArsenalRowModel", "taskWork", "[I", true)
  | 13 => ("ArsenalRowModel", "taskNeed", "[I", true)
  | 14 => ("ArsenalRowModel", "hulls", "I", false)
  | 15 => ("ArsenalRowModel", "sort", "[I", true)
  | 16 => ("ArsenalRowModel", "priority", "[I", true)
  | 17 => ("ArsenalRowModel", "due", "[I", true)
  | 18 => ("ArsenalRowModel", "state", "[I", true)
  | 19 => ("ArsenalRowModel", "at", "[I", true)
  | 20 => ("ArsenalRowModel", "craft", "[I", true)
  | 21 => ("ArsenalRowModel", "work", "[I", true)
  | 22 => ("ArsenalRowModel", "has", "[Z", true)
  | 23 => ("ArsenalRowModel", "lack", "[I", true)
  | 24 => ("ArsenalRowModel", "since", "[I", true)
  | 25 => ("ArsenalRowModel", "need", "[I", true)
  | 26 => ("ArsenalRowModel", "needed", "[I", true)
  | 27 => ("ArsenalRowModel", "felled", "[Z", true)
  | 28 => ("ArsenalRowModel", "basin", "[I", true)
  | 29 => ("ArsenalRowModel", "planks", "[I", true)
  | 30 => ("ArsenalRowModel", "paid", "I", false)
  | 31 => ("ArsenalRowModel", "dry", "I", false)
  | 32 => ("ArsenalRowModel", "idle", "I", false)
  | 33 => ("ArsenalRowModel", "growth", "[I", true)
  | 34 => ("ArsenalRowModel", "trees", "I", false)
  | 35 => ("ArsenalRowModel", "wood", "[I", true)
  | 36 => ("ArsenalRowModel", "bend", "[I", true)
  | 37 => ("ArsenalRowModel", "girth", "[I", true)
  | 38 => ("ArsenalRowModel", "treeHull", "[I", true)
  | 39 => ("ArsenalRowModel", "treePart", "[I", true)
  | 40 => ("ArsenalRowModel", "parts", "[I", true)
  | 41 => ("ArsenalRowModel", "partWood", "[I", true)
  | 42 => ("ArsenalRowModel", "partBend", "[I", true)
  | 43 => ("ArsenalRowModel", "partSpan", "[I", true)
  | 44 => ("ArsenalRowModel", "partGirth", "[I", true)
  | 45 => ("ArsenalRowModel", "inventories", "I", false)
  | 46 => ("ArsenalRowModel", "invGood", "[I", true)
  | 47 => ("ArsenalRowModel", "invDay", "[I", true)
  | 48 => ("ArsenalRowModel", "invGap", "[I", true)
  | 49 => ("ArsenalRowModel", "invFrom", "[I", true)
  | 50 => ("ArsenalRowModel", "refused", "[I", true)
  | 51 => ("ArsenalRowModel", "between", "[I", true)
  | 52 => ("ArsenalRowModel", "used", "[Z", true)
  | 53 => ("ArsenalRowModel", "chosen", "[I", true)
  | 54 => ("ArsenalRowModel", "leastWaste", "[I", true)
  | 55 => ("ArsenalRowModel", "bestMany", "I", false)
  | 56 => ("ArsenalRowModel", "bestWaste", "I", false)
  | 57 => ("ArsenalRowModel", "matchMany", "I", false)
  | 58 => ("ArsenalRowModel", "matchWaste", "I", false)
  | 59 => ("ArsenalRowModel", "kept", "[I", true)
  | 60 => ("ArsenalRowModel", "neededKept", "[I", true)
  | 61 => ("ArsenalRowModel", "asked", "[I", true)
  | 62 => ("ArsenalRowModel", "askedMany", "I", false)
  | 63 => ("ArsenalRowModel", "order", "[I", true)
  | _ => ("ArsenalRowModel", "bestOrder", "[I", true)
def tyX12 : Nat → FieldType := fun k => match k with
  | 0 => .int
  | 1 => .array .int
  | 2 => .array .int
  | 3 => .array .int
  | 4 => .array .int
  | 5 => .array .int
  | 6 => .int
  | 7 => .array .int
  | 8 => .array .int
  | 9 => .array .int
  | 10 => .array .int
  | 11 => .array .int
  | 12 => .array .int
  | 13 => .array .int
  | 14 => .int
  | 15 => .array .int
  | 16 => .array .int
  | 17 => .array .int
  | 18 => .array .int
  | 19 => .array .int
  | 20 => .array .int
  | 21 => .array .int
  | 22 => .array .boolean
  | 23 => .array .int
  | 24 => .array .int
  | 25 => .array .int
  | 26 => .array .int
  | 27 => .array .boolean
  | 28 => .array .int
  | 29 => .array .int
  | 30 => .int
  | 31 => .int
  | 32 => .int
  | 33 => .array .int
  | 34 => .int
  | 35 => .array .int
  | 36 => .array .int
  | 37 => .array .int
  | 38 => .array .int
  | 39 => .array .int
  | 40 => .array .int
  | 41 => .array .int
  | 42 => .array .int
  | 43 => .array .int
  | 44 => .array .int
  | 45 => .int
  | 46 => .array .int
  | 47 => .array .int
  | 48 => .array .int
  | 49 => .array .int
  | 50 => .array .int
  | 51 => .array .int
  | 52 => .array .boolean
  | 53 => .array .int
  | 54 => .array .int
  | 55 => .int
  | 56 => .int
  | 57 => .int
  | 58 => .int
  | 59 => .array .int
  | 60 => .array .int
  | 61 => .array .int
  | 62 => .int
  | 63 => .array .int
  | _ => .array .int
abbrev wsX120 : List Cond := u_ws RX12 TX12 65
theorem nmX12 : ∀ a, a < 65 → ∀ b, b < 65 → a ≠ b → (TX12 a).2.1 ≠ (TX12 b).2.1 := by decide +kernel
theorem tyX12_ok : ∀ k, k < 65 → parseFieldDescriptor (TX12 k).2.2.1 = some (tyX12 k) := by decide +kernel
abbrev cX12_init : ByteArray := prog_14_method_1_code
def yX12_init : MethodName := ⟨RX12, "<init>", "()V"⟩
abbrev cX12_in : ByteArray := prog_14_method_3_code
def yX12_in : MethodName := ⟨RX12, "in", "(III)Z"⟩
abbrev cX12_refuse : ByteArray := prog_14_method_4_code
def yX12_refuse : MethodName := ⟨RX12, "refuse", "(I)I"⟩
abbrev cX12_refuseFar : ByteArray := prog_14_method_5_code
def yX12_refuseFar : MethodName := ⟨RX12, "refuseFar", "(I)I"⟩
abbrev cX12_hands : ByteArray := prog_14_method_6_code
def yX12_hands : MethodName := ⟨RX12, "hands", "(II)I"⟩
abbrev cX12_bring : ByteArray := prog_14_method_7_code
def yX12_bring : MethodName := ⟨RX12, "bring", "(II)I"⟩
abbrev cX12_row : ByteArray := prog_14_method_8_code
def yX12_row : MethodName := ⟨RX12, "row", "(II)I"⟩
abbrev cX12_lose : ByteArray := prog_14_method_9_code
def yX12_lose : MethodName := ⟨RX12, "lose", "(I)I"⟩
abbrev cX12_put : ByteArray := prog_14_method_10_code
def yX12_put : MethodName := ⟨RX12, "put", "(III)I"⟩
abbrev cX12_copy : ByteArray := prog_14_method_11_code
def yX12_copy : MethodName := ⟨RX12, "copy", "(IIIII)I"⟩
abbrev cX12_lead : ByteArray := prog_14_method_12_code
def yX12_lead : MethodName := ⟨RX12, "lead", "(II)I"⟩
abbrev cX12_handsAt : ByteArray := prog_14_method_13_code
def yX12_handsAt : MethodName := ⟨RX12, "handsAt", "(II)I"⟩
abbrev cX12_handsOn : ByteArray := prog_14_method_14_code
def yX12_handsOn : MethodName := ⟨RX12, "handsOn", "(II)I"⟩
abbrev cX12_decree : ByteArray := prog_14_method_15_code
def yX12_decree : MethodName := ⟨RX12, "decree", "(IIII)I"⟩
abbrev cX12_forceAt : ByteArray := prog_14_method_16_code
def yX12_forceAt : MethodName := ⟨RX12, "forceAt", "(III)I"⟩
abbrev cX12_force : ByteArray := prog_14_method_17_code
def yX12_force : MethodName := ⟨RX12, "force", "(III)I"⟩
abbrev cX12_task : ByteArray := prog_14_method_18_code
def yX12_task : MethodName := ⟨RX12, "task", "(IIII)I"⟩
abbrev cX12_needs : ByteArray := prog_14_method_19_code
def yX12_needs : MethodName := ⟨RX12, "needs", "(IIII)I"⟩
abbrev cX12_hull : ByteArray := prog_14_method_20_code
def yX12_hull : MethodName := ⟨RX12, "hull", "(III)I"⟩
abbrev cX12_isHull : ByteArray := prog_14_method_21_code
def yX12_isHull : MethodName := ⟨RX12, "isHull", "(I)Z"⟩
abbrev cX12_priority : ByteArray := prog_14_method_22_code
def yX12_priority : MethodName := ⟨RX12, "priority", "(II)I"⟩
abbrev cX12_raft : ByteArray := prog_14_method_23_code
def yX12_raft : MethodName := ⟨RX12, "raft", "(II)I"⟩
abbrev cX12_unraft : ByteArray := prog_14_method_24_code
def yX12_unraft : MethodName := ⟨RX12, "unraft", "(I)I"⟩
abbrev cX12_isFirst : ByteArray := prog_14_method_25_code
def yX12_isFirst : MethodName := ⟨RX12, "isFirst", "(II)Z"⟩
abbrev cX12_firstBehind : ByteArray := prog_14_method_26_code
def yX12_firstBehind : MethodName := ⟨RX12, "firstBehind", "(II)I"⟩
abbrev cX12_enter : ByteArray := prog_14_method_27_code
def yX12_enter : MethodName := ⟨RX12, "enter", "(II)V"⟩
abbrev cX12_moveAll : ByteArray := prog_14_method_28_code
def yX12_moveAll : MethodName := ⟨RX12, "moveAll", "()I"⟩
abbrev cX12_takeGoods : ByteArray := prog_14_method_29_code
def yX12_takeGoods : MethodName := ⟨RX12, "takeGoods", "(I)V"⟩
abbrev cX12_workAll : ByteArray := prog_14_method_30_code
def yX12_workAll : MethodName := ⟨RX12, "workAll", "()V"⟩
abbrev cX12_payAll : ByteArray := prog_14_method_31_code
def yX12_payAll : MethodName := ⟨RX12, "payAll", "()V"⟩
abbrev cX12_pass : ByteArray := prog_14_method_32_code
def yX12_pass : MethodName := ⟨RX12, "pass", "()I"⟩
abbrev cX12_days : ByteArray := prog_14_method_33_code
def yX12_days : MethodName := ⟨RX12, "days", "(I)I"⟩
abbrev cX12_breakUp : ByteArray := prog_14_method_34_code
def yX12_breakUp : MethodName := ⟨RX12, "breakUp", "(I)I"⟩
abbrev cX12_growth : ByteArray := prog_14_method_35_code
def yX12_growth : MethodName := ⟨RX12, "growth", "(II)I"⟩
abbrev cX12_tree : ByteArray := prog_14_method_36_code
def yX12_tree : MethodName := ⟨RX12, "tree", "(III)I"⟩
abbrev cX12_part : ByteArray := prog_14_method_37_code
def yX12_part : MethodName := ⟨RX12, "part", "(IIIII)I"⟩
abbrev cX12_fits : ByteArray := prog_14_method_38_code
def yX12_fits : MethodName := ⟨RX12, "fits", "(II)Z"⟩
abbrev cX12_ones : ByteArray := prog_14_method_39_code
def yX12_ones : MethodName := ⟨RX12, "ones", "(I)I"⟩
abbrev cX12_solve : ByteArray := prog_14_method_40_code
def yX12_solve : MethodName := ⟨RX12, "solve", "(II)V"⟩
abbrev cX12_findMatch : ByteArray := prog_14_method_41_code
def yX12_findMatch : MethodName := ⟨RX12, "findMatch", "(I)V"⟩
abbrev cX12_match : ByteArray := prog_14_method_42_code
def yX12_match : MethodName := ⟨RX12, "match", "(II)I"⟩
abbrev cX12_fell : ByteArray := prog_14_method_43_code
def yX12_fell : MethodName := ⟨RX12, "fell", "(I)I"⟩
abbrev cX12_treeFor : ByteArray := prog_14_method_44_code
def yX12_treeFor : MethodName := ⟨RX12, "treeFor", "(II)I"⟩
abbrev cX12_treeOf : ByteArray := prog_14_method_45_code
def yX12_treeOf : MethodName := ⟨RX12, "treeOf", "(II)I"⟩
abbrev cX12_count : ByteArray := prog_14_method_46_code
def yX12_count : MethodName := ⟨RX12, "count", "(II)I"⟩
abbrev cX12_gap : ByteArray := prog_14_method_47_code
def yX12_gap : MethodName := ⟨RX12, "gap", "(II)I"⟩
abbrev cX12_spanOf : ByteArray := prog_14_method_48_code
def yX12_spanOf : MethodName := ⟨RX12, "spanOf", "(I)J"⟩
abbrev cX12_worst : ByteArray := prog_14_method_49_code
def yX12_worst : MethodName := ⟨RX12, "worst", "(I)I"⟩
abbrev cX12_swap : ByteArray := prog_14_method_50_code
def yX12_swap : MethodName := ⟨RX12, "swap", "(IIZ)I"⟩
abbrev cX12_aside : ByteArray := prog_14_method_51_code
def yX12_aside : MethodName := ⟨RX12, "aside", "(Z)V"⟩
abbrev cX12_goAhead : ByteArray := prog_14_method_52_code
def yX12_goAhead : MethodName := ⟨RX12, "goAhead", "()V"⟩
abbrev cX12_ready : ByteArray := prog_14_method_53_code
def yX12_ready : MethodName := ⟨RX12, "ready", "(I)I"⟩
abbrev cX12_lateBy : ByteArray := prog_14_method_54_code
def yX12_lateBy : MethodName := ⟨RX12, "lateBy", "(III)I"⟩
abbrev cX12_late : ByteArray := prog_14_method_55_code
def yX12_late : MethodName := ⟨RX12, "late", "(I)I"⟩
abbrev cX12_ask : ByteArray := prog_14_method_56_code
def yX12_ask : MethodName := ⟨RX12, "ask", "()Z"⟩
abbrev cX12_findOrder : ByteArray := prog_14_method_57_code
def yX12_findOrder : MethodName := ⟨RX12, "findOrder", "(I)V"⟩
abbrev cX12_findLeast : ByteArray := prog_14_method_58_code
def yX12_findLeast : MethodName := ⟨RX12, "findLeast", "()I"⟩
abbrev cX12_least : ByteArray := prog_14_method_59_code
def yX12_least : MethodName := ⟨RX12, "least", "()I"⟩
abbrev cX12_order : ByteArray := prog_14_method_60_code
def yX12_order : MethodName := ⟨RX12, "order", "(I)I"⟩
abbrev cX12_hullOf : ByteArray := prog_14_method_61_code
def yX12_hullOf : MethodName := ⟨RX12, "hullOf", "(II)I"⟩
abbrev cX12_basinOf : ByteArray := prog_14_method_62_code
def yX12_basinOf : MethodName := ⟨RX12, "basinOf", "(II)I"⟩
abbrev cX12_stock : ByteArray := prog_14_method_63_code
def yX12_stock : MethodName := ⟨RX12, "stock", "(I)I"⟩
abbrev cX12_told : ByteArray := prog_14_method_64_code
def yX12_told : MethodName := ⟨RX12, "told", "(I)I"⟩
def RJ9 : String := "java/lang/Math"
def TJ9 : u_T := fun k => match k with
  | _ => ("", "", "", false)
def tyJ9 : Nat → FieldType := fun k => match k with
  | _ => .int
abbrev wsJ90 : List Cond := u_ws RJ9 TJ9 0
theorem nmJ9 : ∀ a, a < 0 → ∀ b, b < 0 → a ≠ b → (TJ9 a).2.1 ≠ (TJ9 b).2.1 := by decide +kernel
theorem tyJ9_ok : ∀ k, k < 0 → parseFieldDescriptor (TJ9 k).2.2.1 = some (tyJ9 k) := by decide +kernel
abbrev cJ9_abs_0f7a4 : ByteArray := prog_15_method_59_code
def yJ9_abs_0f7a4 : MethodName := ⟨RJ9, "abs", "(I)I"⟩
abbrev cJ9_max_7cf53 : ByteArray := prog_15_method_65_code
def yJ9_max_7cf53 : MethodName := ⟨RJ9, "max", "(II)I"⟩
abbrev cJ9_min_7cf53 : ByteArray := prog_15_method_69_code
def yJ9_min_7cf53 : MethodName := ⟨RJ9, "min", "(II)I"⟩
abbrev cJ9_min_f86c9 : ByteArray := prog_15_method_70_code
def yJ9_min_f86c9 : MethodName := ⟨RJ9, "min", "(JJ)J"⟩
def RJ10 : String := "java/lang/System"
def TJ10 : u_T := fun k => match k with
  | _ => ("", "", "", false)
def tyJ10 : Nat → FieldType := fun k => match k with
  | _ => .int
abbrev wsJ100 : List Cond := u_ws RJ10 TJ10 0
theorem nmJ10 : ∀ a, a < 0 → ∀ b, b < 0 → a ≠ b → (TJ10 a).2.1 ≠ (TJ10 b).2.1 := by decide +kernel
theorem tyJ10_ok : ∀ k, k < 0 → parseFieldDescriptor (TJ10 k).2.2.1 = some (tyJ10 k) := by decide +kernel
def RJ7 : String := "java/util/Arrays"
def TJ7 : u_T := fun k => match k with
  | _ => ("", "", "", false)
def tyJ7 : Nat → FieldType := fun k => match k with
  | _ => .int
abbrev wsJ70 : List Cond := u_ws RJ7 TJ7 0
theorem nmJ7 : ∀ a, a < 0 → ∀ b, b < 0 → a ≠ b → (TJ7 a).2.1 ≠ (TJ7 b).2.1 := by decide +kernel
theorem tyJ7_ok : ∀ k, k < 0 → parseFieldDescriptor (TJ7 k).2.2.1 = some (tyJ7 k) := by decide +kernel
abbrev cJ7_fill_d0a16 : ByteArray := prog_17_method_101_code
def yJ7_fill_d0a16 : MethodName := ⟨RJ7, "fill", "([JJ)V"⟩
abbrev cJ7_fill_53178 : ByteArray := prog_17_method_103_code
def yJ7_fill_53178 : MethodName := ⟨RJ7, "fill", "([II)V"⟩
def RL : String := "ArsenalRowLaw"
abbrev cL_law : ByteArray := code
def yL_law : MethodName := ⟨RL, "law", "([I)Z"⟩
abbrev vwCl : List vw_C := [(RX0, TX0, 4), (RX1, TX1, 4), (RX2, TX2, 6), (RX3, TX3, 7), (RX4, TX4, 13), (RX5, TX5, 5), (RX6, TX6, 5), (RX7, TX7, 12), (RX8, TX8, 5), (RX9, TX9, 3), (RX10, TX10, 12), (RX11, TX11, 12), (RX12, TX12, 65)]
